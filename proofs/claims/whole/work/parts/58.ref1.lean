/-! THE REFERENCE. Its rooms are rows of 48 numbers: nothing stands outside them -/
def ZR (J : Nat → Int → Int) : Prop := ∀ k, 6 ≤ k → k ≤ 8 → ∀ x : Int, (x < 0 ∨ 48 ≤ x) → J k x = 0
def RZ (J : Nat → Int → Int) : Prop := Rg J ∧ ZR J
theorem upf {J : Nat → Int → Int} {k a : Nat} {j z : Int} (h : a ≠ k) : up J k j z a = J a := by
  funext b
  exact upN (Or.inl h)
theorem rz_up {J : Nat → Int → Int} (h : RZ J) {k : Nat} {j z : Int} (z0 : -2147483648 ≤ z) (z1 : z < 2147483648) (hz : (k < 6 ∨ 8 < k) ∨ (0 ≤ j ∧ j < 48)) : RZ (up J k j z) := by
  refine ⟨rg_up h.1 z0 z1, fun a a0 a1 x hx => ?_⟩
  rw [upN (by omega)]
  exact h.2 a a0 a1 x hx
theorem shM8 {k : Nat} (h : 6 ≤ k ∧ k ≤ 8) : shM k = (50, 48) := by
  rcases (show k = 6 ∨ k = 7 ∨ k = 8 by omega) with rfl | rfl | rfl <;> rfl

set_option maxHeartbeats 1000000 in
theorem m_in {d : Nat} {J : Nat → Int → Int} {Q : Option jV → jS → Prop} {v lo hi : Int} (v0 : -2147483648 ≤ v) (v1 : v < 2147483648) (l0 : -2147483648 ≤ lo) (l1 : lo < 2147483648) (u0 : -2147483648 ≤ hi) (u1 : hi < 2147483648) (hT : (lo ≤ v ∧ v ≤ hi) → Q (some (vi 1)) (SM J)) (hF : ¬ (lo ≤ v ∧ v ≤ hi) → Q (some (vi 0)) (SM J)) : Cl d 155 [vi v, vi lo, vi hi] (SM J) Q := by
  refine ⟨by rw [l155]; exact Nat.le_of_ble_eq_true rfl, ?_⟩
  rw [l155]
  show Ev d 155 0 [some (vi v), some (vi lo), some (vi hi)] [] (SM J) Q
  refine ev_s1 (L' := [some (vi v), some (vi lo), some (vi hi)]) (S' := [vi v]) k155_0 rfl rfl ?_
  refine ev_s1 (L' := [some (vi v), some (vi lo), some (vi hi)]) (S' := [vi lo, vi v]) k155_1 rfl rfl ?_
  refine ev_c_lt (t := 14) k155_2 rfl (by omega) (by omega) (by omega) (by omega) (fun h1 => ?_) (fun h1 => ?_)
  · refine ev_s1 (L' := [some (vi v), some (vi lo), some (vi hi)]) (S' := [vi 0]) k155_14 rfl rfl ?_
    refine ev_zreturn k155_15 (by decide) ?_
    exact hF (by omega)
  · refine ev_s1 (L' := [some (vi v), some (vi lo), some (vi hi)]) (S' := [vi v]) k155_5 rfl rfl ?_
    refine ev_s1 (L' := [some (vi v), some (vi lo), some (vi hi)]) (S' := [vi hi, vi v]) k155_6 rfl rfl ?_
    refine ev_c_gt (t := 14) k155_7 rfl (by omega) (by omega) (by omega) (by omega) (fun h2 => ?_) (fun h2 => ?_)
    · refine ev_s1 (L' := [some (vi v), some (vi lo), some (vi hi)]) (S' := [vi 0]) k155_14 rfl rfl ?_
      refine ev_zreturn k155_15 (by decide) ?_
      exact hF (by omega)
    · refine ev_s1 (L' := [some (vi v), some (vi lo), some (vi hi)]) (S' := [vi 1]) k155_10 rfl rfl ?_
      refine ev_goto (t := 15) k155_11 rfl ?_
      refine ev_zreturn k155_15 (by decide) ?_
      exact hT (by omega)

set_option maxHeartbeats 1000000 in
theorem m_has {d : Nat} {J : Nat → Int → Int} {Q : Option jV → jS → Prop} {s i : Int} (i0 : 0 ≤ i) (i1 : i < 32) (hT : bitB s i = true → Q (some (vi 1)) (SM J)) (hF : bitB s i = false → Q (some (vi 0)) (SM J)) : Cl d 156 [vi s, vi i] (SM J) Q := by
  refine ⟨by rw [l156]; exact Nat.le_of_ble_eq_true rfl, ?_⟩
  rw [l156]
  show Ev d 156 0 [some (vi s), some (vi i)] [] (SM J) Q
  refine ev_s1 (L' := [some (vi s), some (vi i)]) (S' := [vi s]) k156_0 rfl rfl ?_
  refine ev_s1 (L' := [some (vi s), some (vi i)]) (S' := [vi i, vi s]) k156_1 rfl rfl ?_
  refine ev_ishr k156_2 (by omega) (by omega) ?_
  refine ev_s1 (L' := [some (vi s), some (vi i)]) (S' := [vi 1, vi (wr s / 2 ^ Int.toNat i)]) k156_3 rfl rfl ?_
  refine ev_iand1 k156_4 ?_
  refine ev_s1 (L' := [some (vi s), some (vi i)]) (S' := [vi 1, vi ((wr s / 2 ^ Int.toNat i) % 2)]) k156_5 rfl rfl ?_
  refine ev_c_ne (t := 13) k156_6 rfl (by omega) (by omega) (by omega) (by omega) (fun h1 => ?_) (fun h1 => ?_)
  · refine ev_s1 (L' := [some (vi s), some (vi i)]) (S' := [vi 0]) k156_13 rfl rfl ?_
    refine ev_zreturn k156_14 (by decide) ?_
    exact hF (by unfold bitB; exact decide_eq_false (by omega))
  · refine ev_s1 (L' := [some (vi s), some (vi i)]) (S' := [vi 1]) k156_9 rfl rfl ?_
    refine ev_goto (t := 14) k156_10 rfl ?_
    refine ev_zreturn k156_14 (by decide) ?_
    exact hT (by unfold bitB; exact decide_eq_true (by omega))

set_option maxHeartbeats 1000000 in
theorem m_found {d : Nat} {J : Nat → Int → Int} {Q : Option jV → jS → Prop} (hJ : RZ J) {v : Int} (v0 : 0 ≤ v) (v1 : v ≤ 9) (hQ : ∀ J', RZ J' → J' 0 4 = v → (∀ b, b ≠ 4 → J' 0 b = J 0 b) → (∀ a, a ≠ 0 → J' a = J a) → Q (some (vi (-1000010 - v))) (SM J')) : Cl d 157 [vr 0, vi v] (SM J) Q := by
  refine ⟨by rw [l157]; exact Nat.le_of_ble_eq_true rfl, ?_⟩
  rw [l157]
  show Ev d 157 0 [some (vr 0), some (vi v)] [] (SM J) Q
  refine ev_s1 (L' := [some (vr 0), some (vi v)]) (S' := [vr 0]) k157_0 rfl rfl ?_
  refine ev_s1 (L' := [some (vr 0), some (vi v)]) (S' := [vi v, vr 0]) k157_1 rfl rfl ?_
  refine ev_putI k157_2 (by decide) (rfl) ?_
  show Ev d 157 5 [some (vr 0), some (vi v)] [] (SM (up J 0 4 v)) Q
  have hJ1 := rz_up hJ (k := 0) (j := 4) (z := v) (by omega) (by omega) (by omega)
  have g1 : ∀ aa, aa ≠ 0 → up J 0 4 v aa = J aa := fun aa h => upf h
  have q1 : ∀ bb, bb ≠ 4 → up J 0 4 v 0 bb = J 0 bb := fun bb h => upN (Or.inr h)
  have e1 : up J 0 4 v 0 4 = v := upE rfl rfl
  generalize up J 0 4 v = J1 at hJ1 g1 q1 e1 ⊢
  refine ev_ldc k157_5 ?_
  refine ev_s1 (L' := [some (vr 0), some (vi v)]) (S' := [vi v, vi (-1000010)]) k157_7 rfl rfl ?_
  refine ev_s1 (L' := [some (vr 0), some (vi v)]) (S' := [vi ((-1000010) - v)]) k157_8 rfl rfl ?_
  refine ev_ireturn k157_9 ?_
  exact hQ _ hJ1 e1 q1 g1

set_option maxHeartbeats 1000000 in
theorem m_well {d : Nat} {J : Nat → Int → Int} {Q : Option jV → jS → Prop} (hJ : RZ J) {v : Int} (hQ : ∀ J', RZ J' → J' 0 4 = 0 → (∀ b, b ≠ 4 → J' 0 b = J 0 b) → (∀ a, a ≠ 0 → J' a = J a) → Q (some (vi v)) (SM J')) : Cl d 158 [vr 0, vi v] (SM J) Q := by
  refine ⟨by rw [l158]; exact Nat.le_of_ble_eq_true rfl, ?_⟩
  rw [l158]
  show Ev d 158 0 [some (vr 0), some (vi v)] [] (SM J) Q
  refine ev_s1 (L' := [some (vr 0), some (vi v)]) (S' := [vr 0]) k158_0 rfl rfl ?_
  refine ev_s1 (L' := [some (vr 0), some (vi v)]) (S' := [vi 0, vr 0]) k158_1 rfl rfl ?_
  refine ev_putI k158_2 (by decide) (rfl) ?_
  show Ev d 158 5 [some (vr 0), some (vi v)] [] (SM (up J 0 4 0)) Q
  have hJ1 := rz_up hJ (k := 0) (j := 4) (z := 0) (by omega) (by omega) (by omega)
  have g1 : ∀ aa, aa ≠ 0 → up J 0 4 0 aa = J aa := fun aa h => upf h
  have q1 : ∀ bb, bb ≠ 4 → up J 0 4 0 0 bb = J 0 bb := fun bb h => upN (Or.inr h)
  have e1 : up J 0 4 0 0 4 = 0 := upE rfl rfl
  generalize up J 0 4 0 = J1 at hJ1 g1 q1 e1 ⊢
  refine ev_s1 (L' := [some (vr 0), some (vi v)]) (S' := [vi v]) k158_5 rfl rfl ?_
  refine ev_ireturn k158_6 ?_
  exact hQ _ hJ1 e1 q1 g1

set_option maxHeartbeats 1000000 in
theorem m_isRow {d : Nat} {J : Nat → Int → Int} {Q : Option jV → jS → Prop} {r : Int} (r0 : -2147483648 ≤ r) (r1 : r < 2147483648) (hd : 1 ≤ d) (hT : 0 ≤ r ∧ r ≤ 7 → Q (some (vi 1)) (SM J)) (hF : ¬ (0 ≤ r ∧ r ≤ 7) → Q (some (vi 0)) (SM J)) : Cl d 160 [vi r] (SM J) Q := by
  refine ⟨by rw [l160]; exact Nat.le_of_ble_eq_true rfl, ?_⟩
  rw [l160]
  show Ev d 160 0 [some (vi r)] [] (SM J) Q
  refine ev_s1 (L' := [some (vi r)]) (S' := [vi r]) k160_0 rfl rfl ?_
  refine ev_s1 (L' := [some (vi r)]) (S' := [vi 0, vi r]) k160_1 rfl rfl ?_
  refine ev_s1 (L' := [some (vi r)]) (S' := [vi 7, vi 0, vi r]) k160_2 rfl rfl ?_
  refine ev_static (a := [vi r, vi 0, vi 7]) (S' := []) k160_4 rfl (Nat.le_of_ble_eq_true rfl) (by omega) ?_
  refine m_in (v := r) (lo := 0) (hi := 7) (by omega) (by omega) (by omega) (by omega) (by omega) (by omega) (fun h1 => ?_) (fun h1 => ?_)
  · show Ev d 160 7 [some (vi r)] [vi 1] (SM J) Q
    refine ev_zreturn k160_7 (by decide) ?_
    exact hT (by omega)
  · show Ev d 160 7 [some (vi r)] [vi 0] (SM J) Q
    refine ev_zreturn k160_7 (by decide) ?_
    exact hF (by omega)

set_option maxHeartbeats 1000000 in
theorem m_isMissing {d : Nat} {J : Nat → Int → Int} {Q : Option jV → jS → Prop} (hJ : RZ J) {r : Int} (r0 : 0 ≤ r) (r1 : r ≤ 7) (hT : J 1 r = -1000000 → Q (some (vi 1)) (SM J)) (hF : ¬ (J 1 r = -1000000) → Q (some (vi 0)) (SM J)) : Cl d 161 [vr 0, vi r] (SM J) Q := by
  refine ⟨by rw [l161]; exact Nat.le_of_ble_eq_true rfl, ?_⟩
  rw [l161]
  show Ev d 161 0 [some (vr 0), some (vi r)] [] (SM J) Q
  refine ev_s1 (L' := [some (vr 0), some (vi r)]) (S' := [vr 0]) k161_0 rfl rfl ?_
  refine ev_getR k161_1 (by decide) (rfl) (y_0_0) ?_
  refine ev_s1 (L' := [some (vr 0), some (vi r)]) (S' := [vi r, vr 1]) k161_4 rfl rfl ?_
  refine ev_iald k161_5 (by decide) (rfl) (by omega) (by omega) ?_
  have rr1 := hJ.1 1 r
  refine ev_ldc k161_6 ?_
  refine ev_c_ne (t := 15) k161_8 rfl (by omega) (by omega) (by omega) (by omega) (fun h2 => ?_) (fun h2 => ?_)
  · refine ev_s1 (L' := [some (vr 0), some (vi r)]) (S' := [vi 0]) k161_15 rfl rfl ?_
    refine ev_zreturn k161_16 (by decide) ?_
    exact hF (by omega)
  · refine ev_s1 (L' := [some (vr 0), some (vi r)]) (S' := [vi 1]) k161_11 rfl rfl ?_
    refine ev_goto (t := 16) k161_12 rfl ?_
    refine ev_zreturn k161_16 (by decide) ?_
    exact hT (by omega)

def cutF (l v : Int) : Int := if l = 0 then Int.bmod v 256 else if l = 1 then Int.bmod v 65536 else v
theorem cut_b (v : Int) : wr (v * 2 ^ Int.toNat 24) / 2 ^ Int.toNat 24 = Int.bmod v 256 := by
  show wr (v * 16777216) / 16777216 = _
  unfold wr Int.bmod
  dsimp only
  split <;> split <;> omega
theorem cut_s (v : Int) : wr (v * 2 ^ Int.toNat 16) / 2 ^ Int.toNat 16 = Int.bmod v 65536 := by
  show wr (v * 65536) / 65536 = _
  unfold wr Int.bmod
  dsimp only
  split <;> split <;> omega
theorem cut_rng {l v : Int} (v0 : -2147483648 ≤ v) (v1 : v < 2147483648) : -2147483648 ≤ cutF l v ∧ cutF l v < 2147483648 := by
  unfold cutF Int.bmod
  dsimp only
  repeat' split
  all_goals omega

set_option maxHeartbeats 1000000 in
theorem m_cut {d : Nat} {J : Nat → Int → Int} {Q : Option jV → jS → Prop} {l v : Int} (l0 : -2147483648 ≤ l) (l1 : l < 2147483648) (hQ : Q (some (vi (cutF l v))) (SM J)) : Cl d 162 [vi l, vi v] (SM J) Q := by
  refine ⟨by rw [l162]; exact Nat.le_of_ble_eq_true rfl, ?_⟩
  rw [l162]
  show Ev d 162 0 [some (vi l), some (vi v)] [] (SM J) Q
  refine ev_s1 (L' := [some (vi l), some (vi v)]) (S' := [vi l]) k162_0 rfl rfl ?_
  refine ev_z_ne (t := 14) k162_1 rfl (by omega) (by omega) (fun h1 => ?_) (fun h1 => ?_)
  · refine ev_s1 (L' := [some (vi l), some (vi v)]) (S' := [vi l]) k162_14 rfl rfl ?_
    refine ev_s1 (L' := [some (vi l), some (vi v)]) (S' := [vi 1, vi l]) k162_15 rfl rfl ?_
    refine ev_c_ne (t := 29) k162_16 rfl (by omega) (by omega) (by omega) (by omega) (fun h2 => ?_) (fun h2 => ?_)
    · refine ev_s1 (L' := [some (vi l), some (vi v)]) (S' := [vi v]) k162_29 rfl rfl ?_
      refine ev_ireturn k162_30 ?_
      unfold cutF at hQ
      rw [if_neg (by omega), if_neg (by omega)] at hQ
      exact hQ
    · refine ev_s1 (L' := [some (vi l), some (vi v)]) (S' := [vi v]) k162_19 rfl rfl ?_
      refine ev_s1 (L' := [some (vi l), some (vi v)]) (S' := [vi 16, vi v]) k162_20 rfl rfl ?_
      refine ev_ishl k162_22 (by omega) (by omega) ?_
      refine ev_s1 (L' := [some (vi l), some (vi v)]) (S' := [vi 16, vi (v * 2 ^ Int.toNat 16)]) k162_23 rfl rfl ?_
      refine ev_ishr k162_25 (by omega) (by omega) ?_
      refine ev_goto (t := 30) k162_26 rfl ?_
      refine ev_ireturn k162_30 ?_
      rw [cut_s]
      unfold cutF at hQ
      rw [if_neg (by omega), if_pos (by omega)] at hQ
      exact hQ
  · refine ev_s1 (L' := [some (vi l), some (vi v)]) (S' := [vi v]) k162_4 rfl rfl ?_
    refine ev_s1 (L' := [some (vi l), some (vi v)]) (S' := [vi 24, vi v]) k162_5 rfl rfl ?_
    refine ev_ishl k162_7 (by omega) (by omega) ?_
    refine ev_s1 (L' := [some (vi l), some (vi v)]) (S' := [vi 24, vi (v * 2 ^ Int.toNat 24)]) k162_8 rfl rfl ?_
    refine ev_ishr k162_10 (by omega) (by omega) ?_
    refine ev_goto (t := 30) k162_11 rfl ?_
    refine ev_ireturn k162_30 ?_
    rw [cut_b]
    unfold cutF at hQ
    rw [if_pos (by omega)] at hQ
    exact hQ

set_option maxHeartbeats 1000000 in
theorem m_isPart {d : Nat} {J : Nat → Int → Int} {Q : Option jV → jS → Prop} (hJ : RZ J) {r i n : Int} (r0 : 0 ≤ r) (r1 : r ≤ 7) (i0 : -2147483648 ≤ i) (i1 : i < 2147483648) (n0 : -2147483648 ≤ n) (n1 : n < 2147483648) (hT : 0 ≤ i ∧ 0 ≤ n ∧ i + n ≤ J 2 r → Q (some (vi 1)) (SM J)) (hF : ¬ (0 ≤ i ∧ 0 ≤ n ∧ i + n ≤ J 2 r) → Q (some (vi 0)) (SM J)) : Cl d 165 [vr 0, vi r, vi i, vi n] (SM J) Q := by
  refine ⟨by rw [l165]; exact Nat.le_of_ble_eq_true rfl, ?_⟩
  rw [l165]
  show Ev d 165 0 [some (vr 0), some (vi r), some (vi i), some (vi n)] [] (SM J) Q
  refine ev_s1 (L' := [some (vr 0), some (vi r), some (vi i), some (vi n)]) (S' := [vi i]) k165_0 rfl rfl ?_
  refine ev_z_lt (t := 34) k165_1 rfl (by omega) (by omega) (fun h1 => ?_) (fun h1 => ?_)
  · refine ev_s1 (L' := [some (vr 0), some (vi r), some (vi i), some (vi n)]) (S' := [vi 0]) k165_34 rfl rfl ?_
    refine ev_zreturn k165_35 (by decide) ?_
    exact hF (by omega)
  · refine ev_s1 (L' := [some (vr 0), some (vi r), some (vi i), some (vi n)]) (S' := [vi n]) k165_4 rfl rfl ?_
    refine ev_z_lt (t := 34) k165_5 rfl (by omega) (by omega) (fun h2 => ?_) (fun h2 => ?_)
    · refine ev_s1 (L' := [some (vr 0), some (vi r), some (vi i), some (vi n)]) (S' := [vi 0]) k165_34 rfl rfl ?_
      refine ev_zreturn k165_35 (by decide) ?_
      exact hF (by omega)
    · refine ev_s1 (L' := [some (vr 0), some (vi r), some (vi i), some (vi n)]) (S' := [vi i]) k165_8 rfl rfl ?_
      refine ev_s1 (L' := [some (vr 0), some (vi r), some (vi i), some (vi n)]) (S' := [vr 0, vi i]) k165_9 rfl rfl ?_
      refine ev_getR k165_10 (by decide) (rfl) (y_0_1) ?_
      refine ev_s1 (L' := [some (vr 0), some (vi r), some (vi i), some (vi n)]) (S' := [vi r, vr 2, vi i]) k165_13 rfl rfl ?_
      refine ev_iald k165_14 (by decide) (rfl) (by omega) (by omega) ?_
      have rr3 := hJ.1 2 r
      refine ev_c_gt (t := 34) k165_15 rfl (by omega) (by omega) (by omega) (by omega) (fun h4 => ?_) (fun h4 => ?_)
      · refine ev_s1 (L' := [some (vr 0), some (vi r), some (vi i), some (vi n)]) (S' := [vi 0]) k165_34 rfl rfl ?_
        refine ev_zreturn k165_35 (by decide) ?_
        exact hF (by omega)
      · refine ev_s1 (L' := [some (vr 0), some (vi r), some (vi i), some (vi n)]) (S' := [vi n]) k165_18 rfl rfl ?_
        refine ev_s1 (L' := [some (vr 0), some (vi r), some (vi i), some (vi n)]) (S' := [vr 0, vi n]) k165_19 rfl rfl ?_
        refine ev_getR k165_20 (by decide) (rfl) (y_0_1) ?_
        refine ev_s1 (L' := [some (vr 0), some (vi r), some (vi i), some (vi n)]) (S' := [vi r, vr 2, vi n]) k165_23 rfl rfl ?_
        refine ev_iald k165_24 (by decide) (rfl) (by omega) (by omega) ?_
        have rr5 := hJ.1 2 r
        refine ev_s1 (L' := [some (vr 0), some (vi r), some (vi i), some (vi n)]) (S' := [vi i, vi (J 2 r), vi n]) k165_25 rfl rfl ?_
        refine ev_s1 (L' := [some (vr 0), some (vi r), some (vi i), some (vi n)]) (S' := [vi ((J 2 r) - i), vi n]) k165_26 rfl rfl ?_
        refine ev_c_gt (t := 34) k165_27 rfl (by omega) (by omega) (by omega) (by omega) (fun h6 => ?_) (fun h6 => ?_)
        · refine ev_s1 (L' := [some (vr 0), some (vi r), some (vi i), some (vi n)]) (S' := [vi 0]) k165_34 rfl rfl ?_
          refine ev_zreturn k165_35 (by decide) ?_
          exact hF (by omega)
        · refine ev_s1 (L' := [some (vr 0), some (vi r), some (vi i), some (vi n)]) (S' := [vi 1]) k165_30 rfl rfl ?_
          refine ev_goto (t := 35) k165_31 rfl ?_
          refine ev_zreturn k165_35 (by decide) ?_
          exact hT (by omega)

def cpW (f : Int → Int) (a : Int) (h : Int → Int) (b i : Int) : Int → Int := fun x => if b ≤ x ∧ x < b + i then f (a + (x - b)) else h x
theorem cp_full {J : Nat → Int → Int} (hz : ZR J) {f t : Nat} (f0 : 6 ≤ f ∧ f ≤ 8) (t0 : 6 ≤ t ∧ t ≤ 8) : cpW (J f) 0 (J t) 0 48 = J f := by
  funext x
  unfold cpW
  split
  · rw [show 0 + (x - 0) = x by omega]
  · rw [hz t t0.1 t0.2 x (by omega), hz f f0.1 f0.2 x (by omega)]

set_option maxHeartbeats 1000000 in
theorem m_copl {d : Nat} {K : Nat → Int → Int} {Q : Option jV → jS → Prop} {f t lf lt : Nat} {a b : Int} (hft : f ≠ t) (hf : f < 15 ∧ shM f = (50, lf)) (ht : t < 15 ∧ shM t = (50, lt)) (a0 : 0 ≤ a) (a1 : a + 48 ≤ lf) (b0 : 0 ≤ b) (b1 : b + 48 ≤ lt) (hz : (t < 6 ∨ 8 < t) ∨ b = 0) (lf0 : lf ≤ 2000) (lt0 : lt ≤ 2000) (hQ : ∀ J', RZ J' → J' t = cpW (K f) a (K t) b 48 → (∀ k, k ≠ t → J' k = K k) → Q none (SM J')) : ∀ (n : Nat) (J : Nat → Int → Int) (i : Nat), RZ J → 48 - (i : Int) < n → i ≤ 48 → (∀ k, k ≠ t → J k = K k) → (∀ x, J t x = cpW (K f) a (K t) b (i : Int) x) → Ev d 159 3 [some (vr f), some (vi a), some (vr t), some (vi b), some (vi (i : Int))] [] (SM J) Q := by
  intro n
  induction n with
  | zero =>
    intro J i hJ hi hi2 hF hT
    exfalso; omega
  | succ n ih =>
    intro J i hJ hi hi2 hF hT
    have f15 := hf.1
    have t15 := ht.1
    refine ev_s1 (L' := [some (vr f), some (vi a), some (vr t), some (vi b), some (vi (i : Int))]) (S' := [vi (i : Int)]) k159_3 rfl rfl ?_
    refine ev_s1 (L' := [some (vr f), some (vi a), some (vr t), some (vi b), some (vi (i : Int))]) (S' := [vi 48, vi (i : Int)]) k159_5 rfl rfl ?_
    refine ev_c_ge (t := 28) k159_7 rfl (by omega) (by omega) (by omega) (by omega) (fun h1 => ?_) (fun h1 => ?_)
    · refine ev_return k159_28 ?_
      rw [show i = 48 by omega] at hT
      exact hQ _ hJ (funext hT) hF
    · refine ev_s1 (L' := [some (vr f), some (vi a), some (vr t), some (vi b), some (vi (i : Int))]) (S' := [vr t]) k159_10 rfl rfl ?_
      refine ev_s1 (L' := [some (vr f), some (vi a), some (vr t), some (vi b), some (vi (i : Int))]) (S' := [vi b, vr t]) k159_11 rfl rfl ?_
      refine ev_s1 (L' := [some (vr f), some (vi a), some (vr t), some (vi b), some (vi (i : Int))]) (S' := [vi (i : Int), vi b, vr t]) k159_12 rfl rfl ?_
      refine ev_s1 (L' := [some (vr f), some (vi a), some (vr t), some (vi b), some (vi (i : Int))]) (S' := [vi (b + (i : Int)), vr t]) k159_14 rfl rfl ?_
      refine ev_s1 (L' := [some (vr f), some (vi a), some (vr t), some (vi b), some (vi (i : Int))]) (S' := [vr f, vi (b + (i : Int)), vr t]) k159_15 rfl rfl ?_
      refine ev_s1 (L' := [some (vr f), some (vi a), some (vr t), some (vi b), some (vi (i : Int))]) (S' := [vi a, vr f, vi (b + (i : Int)), vr t]) k159_16 rfl rfl ?_
      refine ev_s1 (L' := [some (vr f), some (vi a), some (vr t), some (vi b), some (vi (i : Int))]) (S' := [vi (i : Int), vi a, vr f, vi (b + (i : Int)), vr t]) k159_17 rfl rfl ?_
      refine ev_s1 (L' := [some (vr f), some (vi a), some (vr t), some (vi b), some (vi (i : Int))]) (S' := [vi (a + (i : Int)), vr f, vi (b + (i : Int)), vr t]) k159_19 rfl rfl ?_
      refine ev_iald k159_20 (by omega) (hf.2) (by omega) (by omega) ?_
      have rr2 := hJ.1 f (a + (i : Int))
      rw [hF f hft]
      rw [hF f hft] at rr2
      refine ev_iast k159_21 (by omega) (ht.2) (by omega) (by omega) ?_
      show Ev d 159 22 [some (vr f), some (vi a), some (vr t), some (vi b), some (vi (i : Int))] [] (SM (up J t (b + (i : Int)) (K f (a + (i : Int))))) Q
      have hJ3 := rz_up hJ (k := t) (j := b + (i : Int)) (z := K f (a + (i : Int))) (by omega) (by omega) (by omega)
      have g3 : ∀ aa, aa ≠ t → up J t (b + (i : Int)) (K f (a + (i : Int))) aa = J aa := fun aa h => upf h
      have q3 : ∀ bb, bb ≠ b + (i : Int) → up J t (b + (i : Int)) (K f (a + (i : Int))) t bb = J t bb := fun bb h => upN (Or.inr h)
      have e3 : up J t (b + (i : Int)) (K f (a + (i : Int))) t (b + (i : Int)) = K f (a + (i : Int)) := upE rfl rfl
      generalize up J t (b + (i : Int)) (K f (a + (i : Int))) = J3 at hJ3 g3 q3 e3 ⊢
      refine ev_s1 (L' := [some (vr f), some (vi a), some (vr t), some (vi b), some (vi ((i : Int) + 1))]) (S' := []) k159_22 rfl rfl ?_
      refine ev_goto (t := 3) k159_25 rfl ?_
      refine ih J3 (i + 1) hJ3 (by omega) (by omega) (fun k hk => (g3 k hk).trans (hF k hk)) (fun x => ?_)
      by_cases q : x = b + (i : Int)
      · rw [q, e3, show cpW (K f) a (K t) b ((i + 1 : Nat) : Int) (b + (i : Int)) = K f (a + (b + (i : Int) - b)) from if_pos (by omega), show a + (b + (i : Int) - b) = a + i by omega]
      · rw [q3 x q, hT x]
        unfold cpW
        by_cases q2 : b ≤ x ∧ x < b + (i : Int)
        · rw [if_pos q2, if_pos (by omega)]
        · rw [if_neg q2, if_neg (by omega)]

set_option maxHeartbeats 1000000 in
theorem m_copies {d : Nat} {J : Nat → Int → Int} {Q : Option jV → jS → Prop} (hJ : RZ J) {f t lf lt : Nat} {a b : Int} (hft : f ≠ t) (hf : f < 15 ∧ shM f = (50, lf)) (ht : t < 15 ∧ shM t = (50, lt)) (a0 : 0 ≤ a) (a1 : a + 48 ≤ lf) (b0 : 0 ≤ b) (b1 : b + 48 ≤ lt) (hz : (t < 6 ∨ 8 < t) ∨ b = 0) (lf0 : lf ≤ 2000) (lt0 : lt ≤ 2000) (hQ : ∀ J', RZ J' → J' t = cpW (J f) a (J t) b 48 → (∀ k, k ≠ t → J' k = J k) → Q none (SM J')) : Cl d 159 [vr f, vi a, vr t, vi b] (SM J) Q := by
  refine ⟨by rw [l159]; exact Nat.le_of_ble_eq_true rfl, ?_⟩
  rw [l159]
  show Ev d 159 0 [some (vr f), some (vi a), some (vr t), some (vi b), none] [] (SM J) Q
  refine ev_s1 (L' := [some (vr f), some (vi a), some (vr t), some (vi b), none]) (S' := [vi 0]) k159_0 rfl rfl ?_
  refine ev_s1 (L' := [some (vr f), some (vi a), some (vr t), some (vi b), some (vi 0)]) (S' := []) k159_1 rfl rfl ?_
  exact m_copl hft hf ht a0 a1 b0 b1 hz lf0 lt0 hQ 49 J 0 hJ (by omega) (by omega) (fun _ _ => rfl) (fun x => by unfold cpW; rw [if_neg (by omega)])

set_option maxHeartbeats 1000000 in
theorem m_isRoom {d : Nat} {J : Nat → Int → Int} {Q : Option jV → jS → Prop} (hJ : RZ J) (hT : 0 < J 6 1 → Q (some (vi 1)) (SM J)) (hF : ¬ (0 < J 6 1) → Q (some (vi 0)) (SM J)) : Cl d 181 [vr 0] (SM J) Q := by
  refine ⟨by rw [l181]; exact Nat.le_of_ble_eq_true rfl, ?_⟩
  rw [l181]
  show Ev d 181 0 [some (vr 0)] [] (SM J) Q
  refine ev_s1 (L' := [some (vr 0)]) (S' := [vr 0]) k181_0 rfl rfl ?_
  refine ev_getR k181_1 (by decide) (rfl) (y_0_13) ?_
  refine ev_s1 (L' := [some (vr 0)]) (S' := [vi 1, vr 6]) k181_4 rfl rfl ?_
  refine ev_iald k181_5 (by decide) (rfl) (by omega) (by omega) ?_
  have rr1 := hJ.1 6 1
  refine ev_z_le (t := 13) k181_6 rfl (by omega) (by omega) (fun h2 => ?_) (fun h2 => ?_)
  · refine ev_s1 (L' := [some (vr 0)]) (S' := [vi 0]) k181_13 rfl rfl ?_
    refine ev_zreturn k181_14 (by decide) ?_
    exact hF (by omega)
  · refine ev_s1 (L' := [some (vr 0)]) (S' := [vi 1]) k181_9 rfl rfl ?_
    refine ev_goto (t := 14) k181_10 rfl ?_
    refine ev_zreturn k181_14 (by decide) ?_
    exact hT (by omega)

set_option maxHeartbeats 1000000 in
theorem m_isChair {d : Nat} {J : Nat → Int → Int} {Q : Option jV → jS → Prop} (hJ : RZ J) {c : Int} (c0 : -2147483648 ≤ c) (c1 : c < 2147483648) (r0 : 0 ≤ J 6 1) (hd : 1 ≤ d) (hT : 0 ≤ c ∧ c < J 6 1 → Q (some (vi 1)) (SM J)) (hF : ¬ (0 ≤ c ∧ c < J 6 1) → Q (some (vi 0)) (SM J)) : Cl d 182 [vr 0, vi c] (SM J) Q := by
  refine ⟨by rw [l182]; exact Nat.le_of_ble_eq_true rfl, ?_⟩
  rw [l182]
  show Ev d 182 0 [some (vr 0), some (vi c)] [] (SM J) Q
  refine ev_s1 (L' := [some (vr 0), some (vi c)]) (S' := [vi c]) k182_0 rfl rfl ?_
  refine ev_s1 (L' := [some (vr 0), some (vi c)]) (S' := [vi 0, vi c]) k182_1 rfl rfl ?_
  refine ev_s1 (L' := [some (vr 0), some (vi c)]) (S' := [vr 0, vi 0, vi c]) k182_2 rfl rfl ?_
  refine ev_getR k182_3 (by decide) (rfl) (y_0_13) ?_
  refine ev_s1 (L' := [some (vr 0), some (vi c)]) (S' := [vi 1, vr 6, vi 0, vi c]) k182_6 rfl rfl ?_
  refine ev_iald k182_7 (by decide) (rfl) (by omega) (by omega) ?_
  have rr1 := hJ.1 6 1
  refine ev_s1 (L' := [some (vr 0), some (vi c)]) (S' := [vi 1, vi (J 6 1), vi 0, vi c]) k182_8 rfl rfl ?_
  refine ev_s1 (L' := [some (vr 0), some (vi c)]) (S' := [vi ((J 6 1) - 1), vi 0, vi c]) k182_9 rfl rfl ?_
  refine ev_static (a := [vi c, vi 0, vi ((J 6 1) - 1)]) (S' := []) k182_10 rfl (Nat.le_of_ble_eq_true rfl) (by omega) ?_
  refine m_in (v := c) (lo := 0) (hi := (J 6 1) - 1) (by omega) (by omega) (by omega) (by omega) (by omega) (by omega) (fun h2 => ?_) (fun h2 => ?_)
  · show Ev d 182 13 [some (vr 0), some (vi c)] [vi 1] (SM J) Q
    refine ev_zreturn k182_13 (by decide) ?_
    exact hT (by omega)
  · show Ev d 182 13 [some (vr 0), some (vi c)] [vi 0] (SM J) Q
    refine ev_zreturn k182_13 (by decide) ?_
    exact hF (by omega)

set_option maxHeartbeats 1000000 in
theorem m_isGuest {d : Nat} {J : Nat → Int → Int} {Q : Option jV → jS → Prop} (hJ : RZ J) {g : Int} (g0 : -2147483648 ≤ g) (g1 : g < 2147483648) (r0 : 0 ≤ J 6 2) (hd : 1 ≤ d) (hT : 0 ≤ g ∧ g < J 6 2 → Q (some (vi 1)) (SM J)) (hF : ¬ (0 ≤ g ∧ g < J 6 2) → Q (some (vi 0)) (SM J)) : Cl d 183 [vr 0, vi g] (SM J) Q := by
  refine ⟨by rw [l183]; exact Nat.le_of_ble_eq_true rfl, ?_⟩
  rw [l183]
  show Ev d 183 0 [some (vr 0), some (vi g)] [] (SM J) Q
  refine ev_s1 (L' := [some (vr 0), some (vi g)]) (S' := [vi g]) k183_0 rfl rfl ?_
  refine ev_s1 (L' := [some (vr 0), some (vi g)]) (S' := [vi 0, vi g]) k183_1 rfl rfl ?_
  refine ev_s1 (L' := [some (vr 0), some (vi g)]) (S' := [vr 0, vi 0, vi g]) k183_2 rfl rfl ?_
  refine ev_getR k183_3 (by decide) (rfl) (y_0_13) ?_
  refine ev_s1 (L' := [some (vr 0), some (vi g)]) (S' := [vi 2, vr 6, vi 0, vi g]) k183_6 rfl rfl ?_
  refine ev_iald k183_7 (by decide) (rfl) (by omega) (by omega) ?_
  have rr1 := hJ.1 6 2
  refine ev_s1 (L' := [some (vr 0), some (vi g)]) (S' := [vi 1, vi (J 6 2), vi 0, vi g]) k183_8 rfl rfl ?_
  refine ev_s1 (L' := [some (vr 0), some (vi g)]) (S' := [vi ((J 6 2) - 1), vi 0, vi g]) k183_9 rfl rfl ?_
  refine ev_static (a := [vi g, vi 0, vi ((J 6 2) - 1)]) (S' := []) k183_10 rfl (Nat.le_of_ble_eq_true rfl) (by omega) ?_
  refine m_in (v := g) (lo := 0) (hi := (J 6 2) - 1) (by omega) (by omega) (by omega) (by omega) (by omega) (by omega) (fun h2 => ?_) (fun h2 => ?_)
  · show Ev d 183 13 [some (vr 0), some (vi g)] [vi 1] (SM J) Q
    refine ev_zreturn k183_13 (by decide) ?_
    exact hT (by omega)
  · show Ev d 183 13 [some (vr 0), some (vi g)] [vi 0] (SM J) Q
    refine ev_zreturn k183_13 (by decide) ?_
    exact hF (by omega)

set_option maxHeartbeats 1000000 in
theorem m_mixed {d : Nat} {J : Nat → Int → Int} {Q : Option jV → jS → Prop} {mn s o : Int} (h1 : 0 ≤ mn) (h2 : mn ≤ 9) (h3 : 0 ≤ s) (h4 : s ≤ 16) (h5 : 0 ≤ o) (h6 : o ≤ 9) (hQ : Q (some (vi (mixF mn s o))) (SM J)) : Cl d 184 [vi mn, vi s, vi o] (SM J) Q := by
  have hm := mix_rng h1 h2 h3 h4 h5 h6
  refine ⟨by rw [l184]; exact Nat.le_of_ble_eq_true rfl, ?_⟩
  rw [l184]
  show Ev d 184 0 [some (vi mn), some (vi s), some (vi o)] [] (SM J) Q
  refine ev_s1 (L' := [some (vi mn), some (vi s), some (vi o)]) (S' := [vi mn]) k184_0 rfl rfl ?_
  refine ev_s1 (L' := [some (vi mn), some (vi s), some (vi o)]) (S' := [vi s, vi mn]) k184_1 rfl rfl ?_
  refine ev_s1 (L' := [some (vi mn), some (vi s), some (vi o)]) (S' := [vi (mn * s)]) k184_2 rfl rfl ?_
  refine ev_s1 (L' := [some (vi mn), some (vi s), some (vi o)]) (S' := [vi o, vi (mn * s)]) k184_3 rfl rfl ?_
  refine ev_s1 (L' := [some (vi mn), some (vi s), some (vi o)]) (S' := [vi 16, vi o, vi (mn * s)]) k184_4 rfl rfl ?_
  refine ev_s1 (L' := [some (vi mn), some (vi s), some (vi o)]) (S' := [vi s, vi 16, vi o, vi (mn * s)]) k184_6 rfl rfl ?_
  refine ev_s1 (L' := [some (vi mn), some (vi s), some (vi o)]) (S' := [vi (16 - s), vi o, vi (mn * s)]) k184_7 rfl rfl ?_
  refine ev_s1 (L' := [some (vi mn), some (vi s), some (vi o)]) (S' := [vi (o * (16 - s)), vi (mn * s)]) k184_8 rfl rfl ?_
  refine ev_s1 (L' := [some (vi mn), some (vi s), some (vi o)]) (S' := [vi ((mn * s) + (o * (16 - s)))]) k184_9 rfl rfl ?_
  refine ev_s1 (L' := [some (vi mn), some (vi s), some (vi o)]) (S' := [vi 16, vi ((mn * s) + (o * (16 - s)))]) k184_10 rfl rfl ?_
  refine ev_idiv k184_12 (by omega) (by omega) (by omega) (by omega) ?_
  refine ev_ireturn k184_13 ?_
  exact hQ

set_option maxHeartbeats 1000000 in
theorem m_bearing {d : Nat} {J : Nat → Int → Int} {Q : Option jV → jS → Prop} (hJ : RZ J) {k : Nat} (hk : 6 ≤ k ∧ k ≤ 8) {c o : Int} (c0 : 0 ≤ c) (c5 : c < 5) (hC : OKC (J k) c) (o1 : 0 ≤ o) (o2 : o ≤ 9) (hd : 1 ≤ d) (hQ : Q (some (vi (bearW (J k) c o))) (SM J)) : Cl d 185 [vr k, vi c, vi o] (SM J) Q := by
  obtain ⟨⟨qk1, qk2⟩, ⟨qm1, qm2⟩, ⟨qs1, qs2⟩, ⟨qe1, qe2⟩, ⟨qt1, qt2⟩⟩ := hC
  refine ⟨by rw [l185]; exact Nat.le_of_ble_eq_true rfl, ?_⟩
  rw [l185]
  show Ev d 185 0 [some (vr k), some (vi c), some (vi o), none, none] [] (SM J) Q
  refine ev_s1 (L' := [some (vr k), some (vi c), some (vi o), none, none]) (S' := [vi 3]) k185_0 rfl rfl ?_
  refine ev_s1 (L' := [some (vr k), some (vi c), some (vi o), none, none]) (S' := [vi 5, vi 3]) k185_1 rfl rfl ?_
  refine ev_s1 (L' := [some (vr k), some (vi c), some (vi o), none, none]) (S' := [vi c, vi 5, vi 3]) k185_2 rfl rfl ?_
  refine ev_s1 (L' := [some (vr k), some (vi c), some (vi o), none, none]) (S' := [vi (5 * c), vi 3]) k185_3 rfl rfl ?_
  refine ev_s1 (L' := [some (vr k), some (vi c), some (vi o), none, none]) (S' := [vi (3 + (5 * c))]) k185_4 rfl rfl ?_
  refine ev_s1 (L' := [some (vr k), some (vi c), some (vi o), some (vi (3 + (5 * c))), none]) (S' := []) k185_5 rfl rfl ?_
  refine ev_s1 (L' := [some (vr k), some (vi c), some (vi o), some (vi (3 + (5 * c))), none]) (S' := [vr k]) k185_6 rfl rfl ?_
  refine ev_s1 (L' := [some (vr k), some (vi c), some (vi o), some (vi (3 + (5 * c))), none]) (S' := [vi (3 + (5 * c)), vr k]) k185_7 rfl rfl ?_
  refine ev_s1 (L' := [some (vr k), some (vi c), some (vi o), some (vi (3 + (5 * c))), none]) (S' := [vi 2, vi (3 + (5 * c)), vr k]) k185_8 rfl rfl ?_
  refine ev_s1 (L' := [some (vr k), some (vi c), some (vi o), some (vi (3 + (5 * c))), none]) (S' := [vi ((3 + (5 * c)) + 2), vr k]) k185_9 rfl rfl ?_
  refine ev_iald k185_10 (by omega) (shM8 hk) (by omega) (by omega) ?_
  have rr1 := hJ.1 k ((3 + (5 * c)) + 2)
  have kj11 : ∀ x : Int, x = (if J k (3 + 5 * c + 2) = 0 then o else J k (3 + 5 * c + 1)) → Ev d 185 23 [some (vr k), some (vi c), some (vi o), some (vi (3 + (5 * c))), none] [vi x] (SM J) Q := by
    intro x hx
    have xr : 0 ≤ x ∧ x ≤ 9 := by rw [hx]; split <;> omega
    refine ev_s1 (L' := [some (vr k), some (vi c), some (vi o), some (vi (3 + (5 * c))), some (vi x)]) (S' := []) k185_23 rfl rfl ?_
    refine ev_s1 (L' := [some (vr k), some (vi c), some (vi o), some (vi (3 + (5 * c))), some (vi x)]) (S' := [vr k]) k185_25 rfl rfl ?_
    refine ev_s1 (L' := [some (vr k), some (vi c), some (vi o), some (vi (3 + (5 * c))), some (vi x)]) (S' := [vi (3 + (5 * c)), vr k]) k185_26 rfl rfl ?_
    refine ev_iald k185_27 (by omega) (shM8 hk) (by omega) (by omega) ?_
    have rr2 := hJ.1 k (3 + (5 * c))
    rcases (show (J k (3 + (5 * c))) = 1 ∨ (J k (3 + (5 * c))) = 2 ∨ (J k (3 + (5 * c))) = 3 ∨ (J k (3 + (5 * c))) = 4 ∨ ((J k (3 + (5 * c))) < 1 ∨ 4 < (J k (3 + (5 * c)))) by omega) with hs3 | hs3 | hs3 | hs3 | hs3
    · refine ev_tsw (t := 60) k185_28 hs3 rfl ?_
      refine ev_s1 (L' := [some (vr k), some (vi c), some (vi o), some (vi (3 + (5 * c))), some (vi x)]) (S' := [vr k]) k185_60 rfl rfl ?_
      refine ev_s1 (L' := [some (vr k), some (vi c), some (vi o), some (vi (3 + (5 * c))), some (vi x)]) (S' := [vi (3 + (5 * c)), vr k]) k185_61 rfl rfl ?_
      refine ev_s1 (L' := [some (vr k), some (vi c), some (vi o), some (vi (3 + (5 * c))), some (vi x)]) (S' := [vi 1, vi (3 + (5 * c)), vr k]) k185_62 rfl rfl ?_
      refine ev_s1 (L' := [some (vr k), some (vi c), some (vi o), some (vi (3 + (5 * c))), some (vi x)]) (S' := [vi ((3 + (5 * c)) + 1), vr k]) k185_63 rfl rfl ?_
      refine ev_iald k185_64 (by omega) (shM8 hk) (by omega) (by omega) ?_
      have rr4 := hJ.1 k ((3 + (5 * c)) + 1)
      refine ev_s1 (L' := [some (vr k), some (vi c), some (vi o), some (vi (3 + (5 * c))), some (vi x)]) (S' := [vr k, vi (J k ((3 + (5 * c)) + 1))]) k185_65 rfl rfl ?_
      refine ev_s1 (L' := [some (vr k), some (vi c), some (vi o), some (vi (3 + (5 * c))), some (vi x)]) (S' := [vi (3 + (5 * c)), vr k, vi (J k ((3 + (5 * c)) + 1))]) k185_66 rfl rfl ?_
      refine ev_s1 (L' := [some (vr k), some (vi c), some (vi o), some (vi (3 + (5 * c))), some (vi x)]) (S' := [vi 2, vi (3 + (5 * c)), vr k, vi (J k ((3 + (5 * c)) + 1))]) k185_67 rfl rfl ?_
      refine ev_s1 (L' := [some (vr k), some (vi c), some (vi o), some (vi (3 + (5 * c))), some (vi x)]) (S' := [vi ((3 + (5 * c)) + 2), vr k, vi (J k ((3 + (5 * c)) + 1))]) k185_68 rfl rfl ?_
      refine ev_iald k185_69 (by omega) (shM8 hk) (by omega) (by omega) ?_
      have rr5 := hJ.1 k ((3 + (5 * c)) + 2)
      refine ev_s1 (L' := [some (vr k), some (vi c), some (vi o), some (vi (3 + (5 * c))), some (vi x)]) (S' := [vi o, vi (J k ((3 + (5 * c)) + 2)), vi (J k ((3 + (5 * c)) + 1))]) k185_70 rfl rfl ?_
      refine ev_static (a := [vi (J k ((3 + (5 * c)) + 1)), vi (J k ((3 + (5 * c)) + 2)), vi o]) (S' := []) k185_71 rfl (Nat.le_of_ble_eq_true rfl) (by omega) ?_
      refine m_mixed (mn := J k ((3 + (5 * c)) + 1)) (s := J k ((3 + (5 * c)) + 2)) (o := o) (by omega) (by omega) (by omega) (by omega) (by omega) (by omega) (?_)
      show Ev d 185 74 [some (vr k), some (vi c), some (vi o), some (vi (3 + (5 * c))), some (vi x)] [vi (mixF (J k ((3 + (5 * c)) + 1)) (J k ((3 + (5 * c)) + 2)) o)] (SM J) Q
      refine ev_ireturn k185_74 ?_
      have ek : kW (J k) c = 8 := by unfold kW; omega
      unfold bearW bearF at hQ
      rw [ek, if_pos rfl] at hQ
      exact hQ
    · refine ev_tsw (t := 75) k185_28 hs3 rfl ?_
      refine ev_s1 (L' := [some (vr k), some (vi c), some (vi o), some (vi (3 + (5 * c))), some (vi x)]) (S' := [vr k]) k185_75 rfl rfl ?_
      refine ev_s1 (L' := [some (vr k), some (vi c), some (vi o), some (vi (3 + (5 * c))), some (vi x)]) (S' := [vi (3 + (5 * c)), vr k]) k185_76 rfl rfl ?_
      refine ev_s1 (L' := [some (vr k), some (vi c), some (vi o), some (vi (3 + (5 * c))), some (vi x)]) (S' := [vi 4, vi (3 + (5 * c)), vr k]) k185_77 rfl rfl ?_
      refine ev_s1 (L' := [some (vr k), some (vi c), some (vi o), some (vi (3 + (5 * c))), some (vi x)]) (S' := [vi ((3 + (5 * c)) + 4), vr k]) k185_78 rfl rfl ?_
      refine ev_iald k185_79 (by omega) (shM8 hk) (by omega) (by omega) ?_
      have rr6 := hJ.1 k ((3 + (5 * c)) + 4)
      refine ev_s1 (L' := [some (vr k), some (vi c), some (vi o), some (vi (3 + (5 * c))), some (vi x)]) (S' := [vi 2, vi (J k ((3 + (5 * c)) + 4))]) k185_80 rfl rfl ?_
      refine ev_irem k185_81 (by omega) (by omega) (by omega) (by omega) ?_
      refine ev_z_ne (t := 102) k185_82 rfl (by omega) (by omega) (fun h7 => ?_) (fun h7 => ?_)
      · refine ev_s1 (L' := [some (vr k), some (vi c), some (vi o), some (vi (3 + (5 * c))), some (vi x)]) (S' := [vi o]) k185_102 rfl rfl ?_
        refine ev_ireturn k185_103 ?_
        have ek : kW (J k) c = 9 := by unfold kW; omega
        unfold bearW bearF at hQ
        rw [ek, if_neg (by decide), if_pos rfl, if_neg (by omega)] at hQ
        exact hQ
      · refine ev_s1 (L' := [some (vr k), some (vi c), some (vi o), some (vi (3 + (5 * c))), some (vi x)]) (S' := [vr k]) k185_85 rfl rfl ?_
        refine ev_s1 (L' := [some (vr k), some (vi c), some (vi o), some (vi (3 + (5 * c))), some (vi x)]) (S' := [vi (3 + (5 * c)), vr k]) k185_86 rfl rfl ?_
        refine ev_s1 (L' := [some (vr k), some (vi c), some (vi o), some (vi (3 + (5 * c))), some (vi x)]) (S' := [vi 1, vi (3 + (5 * c)), vr k]) k185_87 rfl rfl ?_
        refine ev_s1 (L' := [some (vr k), some (vi c), some (vi o), some (vi (3 + (5 * c))), some (vi x)]) (S' := [vi ((3 + (5 * c)) + 1), vr k]) k185_88 rfl rfl ?_
        refine ev_iald k185_89 (by omega) (shM8 hk) (by omega) (by omega) ?_
        have rr8 := hJ.1 k ((3 + (5 * c)) + 1)
        refine ev_s1 (L' := [some (vr k), some (vi c), some (vi o), some (vi (3 + (5 * c))), some (vi x)]) (S' := [vr k, vi (J k ((3 + (5 * c)) + 1))]) k185_90 rfl rfl ?_
        refine ev_s1 (L' := [some (vr k), some (vi c), some (vi o), some (vi (3 + (5 * c))), some (vi x)]) (S' := [vi (3 + (5 * c)), vr k, vi (J k ((3 + (5 * c)) + 1))]) k185_91 rfl rfl ?_
        refine ev_s1 (L' := [some (vr k), some (vi c), some (vi o), some (vi (3 + (5 * c))), some (vi x)]) (S' := [vi 2, vi (3 + (5 * c)), vr k, vi (J k ((3 + (5 * c)) + 1))]) k185_92 rfl rfl ?_
        refine ev_s1 (L' := [some (vr k), some (vi c), some (vi o), some (vi (3 + (5 * c))), some (vi x)]) (S' := [vi ((3 + (5 * c)) + 2), vr k, vi (J k ((3 + (5 * c)) + 1))]) k185_93 rfl rfl ?_
        refine ev_iald k185_94 (by omega) (shM8 hk) (by omega) (by omega) ?_
        have rr9 := hJ.1 k ((3 + (5 * c)) + 2)
        refine ev_s1 (L' := [some (vr k), some (vi c), some (vi o), some (vi (3 + (5 * c))), some (vi x)]) (S' := [vi o, vi (J k ((3 + (5 * c)) + 2)), vi (J k ((3 + (5 * c)) + 1))]) k185_95 rfl rfl ?_
        refine ev_static (a := [vi (J k ((3 + (5 * c)) + 1)), vi (J k ((3 + (5 * c)) + 2)), vi o]) (S' := []) k185_96 rfl (Nat.le_of_ble_eq_true rfl) (by omega) ?_
        refine m_mixed (mn := J k ((3 + (5 * c)) + 1)) (s := J k ((3 + (5 * c)) + 2)) (o := o) (by omega) (by omega) (by omega) (by omega) (by omega) (by omega) (?_)
        show Ev d 185 99 [some (vr k), some (vi c), some (vi o), some (vi (3 + (5 * c))), some (vi x)] [vi (mixF (J k ((3 + (5 * c)) + 1)) (J k ((3 + (5 * c)) + 2)) o)] (SM J) Q
        refine ev_goto (t := 103) k185_99 rfl ?_
        refine ev_ireturn k185_103 ?_
        have ek : kW (J k) c = 9 := by unfold kW; omega
        unfold bearW bearF at hQ
        rw [ek, if_neg (by decide), if_pos rfl, if_pos (by omega)] at hQ
        exact hQ
    · refine ev_tsw (t := 104) k185_28 hs3 rfl ?_
      refine ev_s1 (L' := [some (vr k), some (vi c), some (vi o), some (vi (3 + (5 * c))), some (vi x)]) (S' := [vr k]) k185_104 rfl rfl ?_
      refine ev_s1 (L' := [some (vr k), some (vi c), some (vi o), some (vi (3 + (5 * c))), some (vi x)]) (S' := [vi (3 + (5 * c)), vr k]) k185_105 rfl rfl ?_
      refine ev_s1 (L' := [some (vr k), some (vi c), some (vi o), some (vi (3 + (5 * c))), some (vi x)]) (S' := [vi 1, vi (3 + (5 * c)), vr k]) k185_106 rfl rfl ?_
      refine ev_s1 (L' := [some (vr k), some (vi c), some (vi o), some (vi (3 + (5 * c))), some (vi x)]) (S' := [vi ((3 + (5 * c)) + 1), vr k]) k185_107 rfl rfl ?_
      refine ev_iald k185_108 (by omega) (shM8 hk) (by omega) (by omega) ?_
      have rr10 := hJ.1 k ((3 + (5 * c)) + 1)
      refine ev_s1 (L' := [some (vr k), some (vi c), some (vi o), some (vi (3 + (5 * c))), some (vi x)]) (S' := [vi 1, vi (J k ((3 + (5 * c)) + 1))]) k185_109 rfl rfl ?_
      refine ev_s1 (L' := [some (vr k), some (vi c), some (vi o), some (vi (3 + (5 * c))), some (vi x)]) (S' := [vi ((J k ((3 + (5 * c)) + 1)) + 1)]) k185_110 rfl rfl ?_
      refine ev_s1 (L' := [some (vr k), some (vi c), some (vi o), some (vi (3 + (5 * c))), some (vi x)]) (S' := [vi 10, vi ((J k ((3 + (5 * c)) + 1)) + 1)]) k185_111 rfl rfl ?_
      refine ev_irem k185_113 (by omega) (by omega) (by omega) (by omega) ?_
      refine ev_s1 (L' := [some (vr k), some (vi c), some (vi o), some (vi (3 + (5 * c))), some (vi x)]) (S' := [vr k, vi (((J k ((3 + (5 * c)) + 1)) + 1) % 10)]) k185_114 rfl rfl ?_
      refine ev_s1 (L' := [some (vr k), some (vi c), some (vi o), some (vi (3 + (5 * c))), some (vi x)]) (S' := [vi (3 + (5 * c)), vr k, vi (((J k ((3 + (5 * c)) + 1)) + 1) % 10)]) k185_115 rfl rfl ?_
      refine ev_s1 (L' := [some (vr k), some (vi c), some (vi o), some (vi (3 + (5 * c))), some (vi x)]) (S' := [vi 2, vi (3 + (5 * c)), vr k, vi (((J k ((3 + (5 * c)) + 1)) + 1) % 10)]) k185_116 rfl rfl ?_
      refine ev_s1 (L' := [some (vr k), some (vi c), some (vi o), some (vi (3 + (5 * c))), some (vi x)]) (S' := [vi ((3 + (5 * c)) + 2), vr k, vi (((J k ((3 + (5 * c)) + 1)) + 1) % 10)]) k185_117 rfl rfl ?_
      refine ev_iald k185_118 (by omega) (shM8 hk) (by omega) (by omega) ?_
      have rr11 := hJ.1 k ((3 + (5 * c)) + 2)
      refine ev_s1 (L' := [some (vr k), some (vi c), some (vi o), some (vi (3 + (5 * c))), some (vi x)]) (S' := [vi o, vi (J k ((3 + (5 * c)) + 2)), vi (((J k ((3 + (5 * c)) + 1)) + 1) % 10)]) k185_119 rfl rfl ?_
      refine ev_static (a := [vi (((J k ((3 + (5 * c)) + 1)) + 1) % 10), vi (J k ((3 + (5 * c)) + 2)), vi o]) (S' := []) k185_120 rfl (Nat.le_of_ble_eq_true rfl) (by omega) ?_
      refine m_mixed (mn := ((J k ((3 + (5 * c)) + 1)) + 1) % 10) (s := J k ((3 + (5 * c)) + 2)) (o := o) (by omega) (by omega) (by omega) (by omega) (by omega) (by omega) (?_)
      show Ev d 185 123 [some (vr k), some (vi c), some (vi o), some (vi (3 + (5 * c))), some (vi x)] [vi (mixF (((J k ((3 + (5 * c)) + 1)) + 1) % 10) (J k ((3 + (5 * c)) + 2)) o)] (SM J) Q
      refine ev_ireturn k185_123 ?_
      have ek : kW (J k) c = 10 := by unfold kW; omega
      unfold bearW bearF at hQ
      rw [ek, if_neg (by decide), if_neg (by decide), if_pos rfl] at hQ
      exact hQ
    · refine ev_tsw (t := 124) k185_28 hs3 rfl ?_
      refine ev_s1 (L' := [some (vr k), some (vi c), some (vi o), some (vi (3 + (5 * c))), some (vi x)]) (S' := [vi x]) k185_124 rfl rfl ?_
      refine ev_ireturn k185_126 ?_
      have ek : kW (J k) c = 11 := by unfold kW; omega
      unfold bearW bearF at hQ
      rw [ek, if_neg (by decide), if_neg (by decide), if_neg (by decide), if_pos rfl, ← hx] at hQ
      exact hQ
    · refine ev_tsd (t := 127) k185_28 (by omega) (by omega) hs3 rfl ?_
      refine ev_s1 (L' := [some (vr k), some (vi c), some (vi o), some (vi (3 + (5 * c))), some (vi x)]) (S' := [vi x]) k185_127 rfl rfl ?_
      refine ev_s1 (L' := [some (vr k), some (vi c), some (vi o), some (vi (3 + (5 * c))), some (vi x)]) (S' := [vi 5, vi x]) k185_129 rfl rfl ?_
      refine ev_c_ge (t := 137) k185_130 rfl (by omega) (by omega) (by omega) (by omega) (fun h12 => ?_) (fun h12 => ?_)
      · refine ev_s1 (L' := [some (vr k), some (vi c), some (vi o), some (vi (3 + (5 * c))), some (vi x)]) (S' := [vi x]) k185_137 rfl rfl ?_
        refine ev_ireturn k185_139 ?_
        have ek : kW (J k) c = 12 := by unfold kW; omega
        unfold bearW bearF at hQ
        rw [ek, if_neg (by decide), if_neg (by decide), if_neg (by decide), if_neg (by decide), ← hx, if_neg (by omega)] at hQ
        exact hQ
      · refine ev_s1 (L' := [some (vr k), some (vi c), some (vi o), some (vi (3 + (5 * c))), some (vi x)]) (S' := [vi 5]) k185_133 rfl rfl ?_
        refine ev_goto (t := 139) k185_134 rfl ?_
        refine ev_ireturn k185_139 ?_
        have ek : kW (J k) c = 12 := by unfold kW; omega
        unfold bearW bearF at hQ
        rw [ek, if_neg (by decide), if_neg (by decide), if_neg (by decide), if_neg (by decide), ← hx, if_pos (by omega)] at hQ
        exact hQ
  refine ev_z_ne (t := 18) k185_11 rfl (by omega) (by omega) (fun h13 => ?_) (fun h13 => ?_)
  · refine ev_s1 (L' := [some (vr k), some (vi c), some (vi o), some (vi (3 + (5 * c))), none]) (S' := [vr k]) k185_18 rfl rfl ?_
    refine ev_s1 (L' := [some (vr k), some (vi c), some (vi o), some (vi (3 + (5 * c))), none]) (S' := [vi (3 + (5 * c)), vr k]) k185_19 rfl rfl ?_
    refine ev_s1 (L' := [some (vr k), some (vi c), some (vi o), some (vi (3 + (5 * c))), none]) (S' := [vi 1, vi (3 + (5 * c)), vr k]) k185_20 rfl rfl ?_
    refine ev_s1 (L' := [some (vr k), some (vi c), some (vi o), some (vi (3 + (5 * c))), none]) (S' := [vi ((3 + (5 * c)) + 1), vr k]) k185_21 rfl rfl ?_
    refine ev_iald k185_22 (by omega) (shM8 hk) (by omega) (by omega) ?_
    have rr14 := hJ.1 k ((3 + (5 * c)) + 1)
    exact kj11 _ (by first | rw [if_pos (by omega)] | rw [if_neg (by omega)])
  · refine ev_s1 (L' := [some (vr k), some (vi c), some (vi o), some (vi (3 + (5 * c))), none]) (S' := [vi o]) k185_14 rfl rfl ?_
    refine ev_goto (t := 23) k185_15 rfl ?_
    exact kj11 _ (by first | rw [if_pos (by omega)] | rw [if_neg (by omega)])
