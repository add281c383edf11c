/-- the reference, called so, answers v too, and the two objects stand as they ought to -/
def AN (e m : Nat) (a : List jV) (J : Nat → Int → Int) (v : Int) (I' : Nat → Int → Int) (ch' : Int → Nat) (kd' : Nat → Nat) : Prop := Cl e m a (SM J) (fun r σ => ∃ J', r = some (vi v) ∧ σ = SM J' ∧ XR I' ch' kd' J')
theorem war_rng {w : Int → Int} {g c b : Int} : ∀ (f n : Nat), (warR w g c b f n).1 = -1000000 ∨ (0 ≤ (warR w g c b f n).1 ∧ (warR w g c b f n).1 < (n : Int) + f) := by
  intro f
  induction f with
  | zero => intro n; exact Or.inl rfl
  | succ f ih =>
    intro n
    rw [warR]
    split
    · rcases ih (n + 1) with q | q
      · exact Or.inl q
      · exact Or.inr (by omega)
    · exact Or.inr ⟨by show 0 ≤ (n : Int); omega, by show (n : Int) < _; omega⟩

set_option maxHeartbeats 1000000 in
theorem x_within {d : Nat} {I : Nat → Int → Int} {ch : Int → Nat} {kd : Nat → Nat} {Q : Option jV → jS → Prop} {v lo hi : Int} (va : -2147483648 ≤ v) (vb : v < 2147483648) (loa : -2147483648 ≤ lo) (lob : lo < 2147483648) (hia : -2147483648 ≤ hi) (hib : hi < 2147483648) (hT : (lo ≤ v ∧ v ≤ hi) → Q (some (vi 1)) (SX I ch kd)) (hF : ¬ (lo ≤ v ∧ v ≤ hi) → Q (some (vi 0)) (SX I ch kd)) : Cl d 143 [vi v, vi lo, vi hi] (SX I ch kd) Q := by
  refine ⟨by rw [l143]; exact Nat.le_of_ble_eq_true rfl, ?_⟩
  rw [l143]
  show Ev d 143 0 [some (vi v), some (vi lo), some (vi hi)] [] (SX I ch kd) Q
  refine ev_s1 (L' := [some (vi v), some (vi lo), some (vi hi)]) (S' := [vi v]) k143_0 rfl rfl ?_
  refine ev_s1 (L' := [some (vi v), some (vi lo), some (vi hi)]) (S' := [vi lo, vi v]) k143_1 rfl rfl ?_
  refine ev_c_lt (t := 14) k143_2 rfl (by omega) (by omega) (by omega) (by omega) (fun h1 => ?_) (fun h1 => ?_)
  · refine ev_s1 (L' := [some (vi v), some (vi lo), some (vi hi)]) (S' := [vi 0]) k143_14 rfl rfl ?_
    refine ev_zreturn k143_15 (by decide) ?_
    exact hF (by omega)
  · refine ev_s1 (L' := [some (vi v), some (vi lo), some (vi hi)]) (S' := [vi v]) k143_5 rfl rfl ?_
    refine ev_s1 (L' := [some (vi v), some (vi lo), some (vi hi)]) (S' := [vi hi, vi v]) k143_6 rfl rfl ?_
    refine ev_c_gt (t := 14) k143_7 rfl (by omega) (by omega) (by omega) (by omega) (fun h2 => ?_) (fun h2 => ?_)
    · refine ev_s1 (L' := [some (vi v), some (vi lo), some (vi hi)]) (S' := [vi 0]) k143_14 rfl rfl ?_
      refine ev_zreturn k143_15 (by decide) ?_
      exact hF (by omega)
    · refine ev_s1 (L' := [some (vi v), some (vi lo), some (vi hi)]) (S' := [vi 1]) k143_10 rfl rfl ?_
      refine ev_goto (t := 15) k143_11 rfl ?_
      refine ev_zreturn k143_15 (by decide) ?_
      exact hT (by omega)

set_option maxHeartbeats 1000000 in
theorem x_isRow {d : Nat} {I : Nat → Int → Int} {ch : Int → Nat} {kd : Nat → Nat} {Q : Option jV → jS → Prop} {r : Int} (ra : -2147483648 ≤ r) (rb : r < 2147483648) (hd : 1 ≤ d) (hT : (0 ≤ r ∧ r ≤ 7) → Q (some (vi 1)) (SX I ch kd)) (hF : ¬ (0 ≤ r ∧ r ≤ 7) → Q (some (vi 0)) (SX I ch kd)) : Cl d 144 [vi r] (SX I ch kd) Q := by
  refine ⟨by rw [l144]; exact Nat.le_of_ble_eq_true rfl, ?_⟩
  rw [l144]
  show Ev d 144 0 [some (vi r)] [] (SX I ch kd) Q
  refine ev_s1 (L' := [some (vi r)]) (S' := [vi r]) k144_0 rfl rfl ?_
  refine ev_s1 (L' := [some (vi r)]) (S' := [vi 0, vi r]) k144_1 rfl rfl ?_
  refine ev_s1 (L' := [some (vi r)]) (S' := [vi 7, vi 0, vi r]) k144_2 rfl rfl ?_
  refine ev_static (a := [vi r, vi 0, vi 7]) (S' := []) k144_4 rfl (Nat.le_of_ble_eq_true rfl) (by omega) ?_
  refine x_within (v := r) (lo := 0) (hi := 7) (by omega) (by omega) (by omega) (by omega) (by omega) (by omega) (fun h1 => ?_) (fun h1 => ?_)
  · show Ev d 144 7 [some (vi r)] [vi 1] (SX I ch kd) Q
    refine ev_zreturn k144_7 (by decide) ?_
    exact hT (by omega)
  · show Ev d 144 7 [some (vi r)] [vi 0] (SX I ch kd) Q
    refine ev_zreturn k144_7 (by decide) ?_
    exact hF (by omega)

theorem x_hasC {d : Nat} {I : Nat → Int → Int} {ch : Int → Nat} {kd : Nat → Nat} {Q : Option jV → jS → Prop} {w : Int → Int} (hN : NOWX I ch kd w) (hI : Rg I) {i : Int} (ia : -2147483648 ≤ i) (ib : i < 2147483648) (hT : (0 ≤ i ∧ i < w 1) → Q (some (vi 1)) (SX I ch kd)) (hF : ¬ (0 ≤ i ∧ i < w 1) → Q (some (vi 0)) (SX I ch kd)) : Cl d 84 [vr 13, vi i] (SX I ch kd) Q := by
  refine c_hasChair hN.1 hI ia ib ?_ ?_
  · rw [hN.2.1.1]; exact hT
  · rw [hN.2.1.1]; exact hF
theorem x_hasG {d : Nat} {I : Nat → Int → Int} {ch : Int → Nat} {kd : Nat → Nat} {Q : Option jV → jS → Prop} {w : Int → Int} (hN : NOWX I ch kd w) (hI : Rg I) {i : Int} (ia : -2147483648 ≤ i) (ib : i < 2147483648) (hT : (0 ≤ i ∧ i < w 2) → Q (some (vi 1)) (SX I ch kd)) (hF : ¬ (0 ≤ i ∧ i < w 2) → Q (some (vi 0)) (SX I ch kd)) : Cl d 85 [vr 13, vi i] (SX I ch kd) Q := by
  refine c_hasGuest hN.1 hI ia ib ?_ ?_
  · rw [hN.2.1.2.1]; exact hT
  · rw [hN.2.1.2.1]; exact hF
theorem x_stands {d : Nat} {I : Nat → Int → Int} {ch : Int → Nat} {kd : Nat → Nat} {Q : Option jV → jS → Prop} {w : Int → Int} (hN : NOWX I ch kd w) (hI : Rg I) (hT : 0 < w 1 → Q (some (vi 1)) (SX I ch kd)) (hF : ¬ 0 < w 1 → Q (some (vi 0)) (SX I ch kd)) : Cl d 83 [vr 13] (SX I ch kd) Q := by
  refine c_stands hN.1 hI ?_ ?_
  · rw [hN.2.1.1]; exact hT
  · rw [hN.2.1.1]; exact hF
theorem g_even2 {d : Nat} {I : Nat → Int → Int} {ch : Int → Nat} {kd : Nat → Nat} {Q : Option jV → jS → Prop} {w : Int → Int} (hN : NOWX I ch kd w) (hI : Rg I) {n seed x : Int} (n0 : 0 ≤ n) (n60 : n ≤ 60) (s0 : 0 ≤ seed) (s1 : seed < 2147483647) (hc1 : 0 < w 1) (y0 : 0 ≤ x) (y1 : x ≤ 1) (hd : 5 ≤ d) (hQ : ∀ I' kd', FSx I I' kd kd' → Q (some (vi (evW w n.toNat seed x))) (SX I' ch kd')) : Cl d 40 [vr 40, vi n, vi seed, vi x] (SX I ch kd) Q := by
  have e : ((n.toNat : Nat) : Int) = n := by omega
  have h := g_even (nn := n.toNat) (d := d) hN hI (by omega) s0 s1 hc1 y0 y1 hd hQ
  rw [e] at h
  exact h

set_option maxHeartbeats 1000000 in
theorem s_would {d e : Nat} {I : Nat → Int → Int} {ch : Int → Nat} {kd : Nat → Nat} {J : Nat → Int → Int} {Q : Option jV → jS → Prop} (hX : XR I ch kd J) {g c x : Int} (ga : -2147483648 ≤ g) (gb : g < 2147483648) (ca : -2147483648 ≤ c) (cb : c < 2147483648) (xa : -2147483648 ≤ x) (xb : x < 2147483648) (hd : 13 ≤ d) (he : 13 ≤ e) (hQ : ∀ I' ch' kd' v, AN e 200 [vr 0, vi g, vi c, vi x] J v I' ch' kd' → Q (some (vi v)) (SX I' ch' kd')) : Cl d 125 [vr 0, vi g, vi c, vi x] (SX I ch kd) Q := by
  obtain ⟨hI, hJ, hN, hA, hO⟩ := id hX
  have hw := hN.2.2.1
  obtain ⟨⟨wa0, wa1⟩, ⟨wb0, wb1⟩, ⟨wc0, wc1⟩, wC, wG, wU⟩ := id hw
  refine ⟨by rw [l125]; exact Nat.le_of_ble_eq_true rfl, ?_⟩
  rw [l125]
  show Ev d 125 0 [some (vr 0), some (vi g), some (vi c), some (vi x)] [] (SX I ch kd) Q
  refine ev_s1 (L' := [some (vr 0), some (vi g), some (vi c), some (vi x)]) (S' := [vr 0]) k125_0 rfl rfl ?_
  refine ev_getR k125_1 (by decide) (rfl) (x_0_5 ch kd) ?_
  refine ev_s1 (L' := [some (vr 0), some (vi g), some (vi c), some (vi x)]) (S' := [vi g, vr 13]) k125_4 rfl rfl ?_
  refine ev_virt (a := [vi g]) (S' := []) k125_5 rfl (Nat.le_of_ble_eq_true rfl) (by decide) (rfl) (by omega) ?_
  refine x_hasG hN hI (i := g) (by omega) (by omega) (fun h1 => ?_) (fun h1 => ?_)
  · show Ev d 125 8 [some (vr 0), some (vi g), some (vi c), some (vi x)] [vi 1] (SX I ch kd) Q
    refine ev_z_eq (t := 31) k125_8 rfl (by omega) (by omega) (fun h => absurd h (by decide)) (fun _ => ?_)
    refine ev_s1 (L' := [some (vr 0), some (vi g), some (vi c), some (vi x)]) (S' := [vr 0]) k125_11 rfl rfl ?_
    refine ev_getR k125_12 (by decide) (rfl) (x_0_5 ch kd) ?_
    refine ev_s1 (L' := [some (vr 0), some (vi g), some (vi c), some (vi x)]) (S' := [vi c, vr 13]) k125_15 rfl rfl ?_
    refine ev_virt (a := [vi c]) (S' := []) k125_16 rfl (Nat.le_of_ble_eq_true rfl) (by decide) (rfl) (by omega) ?_
    refine x_hasC hN hI (i := c) (by omega) (by omega) (fun h2 => ?_) (fun h2 => ?_)
    · show Ev d 125 19 [some (vr 0), some (vi g), some (vi c), some (vi x)] [vi 1] (SX I ch kd) Q
      refine ev_z_eq (t := 31) k125_19 rfl (by omega) (by omega) (fun h => absurd h (by decide)) (fun _ => ?_)
      refine ev_s1 (L' := [some (vr 0), some (vi g), some (vi c), some (vi x)]) (S' := [vi x]) k125_22 rfl rfl ?_
      refine ev_s1 (L' := [some (vr 0), some (vi g), some (vi c), some (vi x)]) (S' := [vi 0, vi x]) k125_23 rfl rfl ?_
      refine ev_s1 (L' := [some (vr 0), some (vi g), some (vi c), some (vi x)]) (S' := [vi 2, vi 0, vi x]) k125_24 rfl rfl ?_
      refine ev_static (a := [vi x, vi 0, vi 2]) (S' := []) k125_25 rfl (Nat.le_of_ble_eq_true rfl) (by omega) ?_
      refine x_within (v := x) (lo := 0) (hi := 2) (by omega) (by omega) (by omega) (by omega) (by omega) (by omega) (fun h3 => ?_) (fun h3 => ?_)
      · show Ev d 125 28 [some (vr 0), some (vi g), some (vi c), some (vi x)] [vi 1] (SX I ch kd) Q
        refine ev_z_ne (t := 34) k125_28 rfl (by omega) (by omega) (fun _ => ?_) (fun h => absurd h (by decide))
        refine ev_s1 (L' := [some (vr 0), some (vi g), some (vi c), some (vi x)]) (S' := [vr 0]) k125_34 rfl rfl ?_
        refine ev_getR k125_35 (by decide) (rfl) (x_0_7 ch kd) ?_
        refine ev_s1 (L' := [some (vr 0), some (vi g), some (vi c), some (vi x)]) (S' := [vi g, vr 40]) k125_38 rfl rfl ?_
        refine ev_s1 (L' := [some (vr 0), some (vi g), some (vi c), some (vi x)]) (S' := [vi c, vi g, vr 40]) k125_39 rfl rfl ?_
        refine ev_s1 (L' := [some (vr 0), some (vi g), some (vi c), some (vi x)]) (S' := [vi x, vi c, vi g, vr 40]) k125_40 rfl rfl ?_
        refine ev_virt (a := [vi g, vi c, vi x]) (S' := []) k125_41 rfl (Nat.le_of_ble_eq_true rfl) (by decide) (rfl) (by omega) ?_
        refine g_would hN hI (by omega) (by omega) (by omega) (by omega) (by omega) (by omega) (by omega) (fun I4 kd4 fx4 => ?_)
        show Ev d 125 44 [some (vr 0), some (vi g), some (vi c), some (vi x)] [vi (wouW (J 6) g c x)] (SX I4 ch kd4) Q
        refine ev_ireturn k125_44 ?_
        refine hQ _ _ _ _ ?_
        exact m_would hJ hw (by omega) (by omega) (by omega) (by omega) (by omega) (by omega) (by omega) (fun h => by exfalso; omega) (fun h J' fm => ⟨J', rfl, rfl, hX.fs fx4 fm⟩)
      · show Ev d 125 28 [some (vr 0), some (vi g), some (vi c), some (vi x)] [vi 0] (SX I ch kd) Q
        refine ev_z_ne (t := 34) k125_28 rfl (by omega) (by omega) (fun h => absurd h (by decide)) (fun _ => ?_)
        refine ev_ldc k125_31 ?_
        refine ev_ireturn k125_33 ?_
        refine hQ _ _ _ _ ?_
        exact m_would hJ hw (by omega) (by omega) (by omega) (by omega) (by omega) (by omega) (by omega) (fun h => ⟨J, rfl, rfl, hX⟩) (fun h J' fm => by exfalso; omega)
    · show Ev d 125 19 [some (vr 0), some (vi g), some (vi c), some (vi x)] [vi 0] (SX I ch kd) Q
      refine ev_z_eq (t := 31) k125_19 rfl (by omega) (by omega) (fun _ => ?_) (fun h => absurd h (by decide))
      refine ev_ldc k125_31 ?_
      refine ev_ireturn k125_33 ?_
      refine hQ _ _ _ _ ?_
      exact m_would hJ hw (by omega) (by omega) (by omega) (by omega) (by omega) (by omega) (by omega) (fun h => ⟨J, rfl, rfl, hX⟩) (fun h J' fm => by exfalso; omega)
  · show Ev d 125 8 [some (vr 0), some (vi g), some (vi c), some (vi x)] [vi 0] (SX I ch kd) Q
    refine ev_z_eq (t := 31) k125_8 rfl (by omega) (by omega) (fun _ => ?_) (fun h => absurd h (by decide))
    refine ev_ldc k125_31 ?_
    refine ev_ireturn k125_33 ?_
    refine hQ _ _ _ _ ?_
    exact m_would hJ hw (by omega) (by omega) (by omega) (by omega) (by omega) (by omega) (by omega) (fun h => ⟨J, rfl, rfl, hX⟩) (fun h J' fm => by exfalso; omega)

set_option maxHeartbeats 1000000 in
theorem s_seating {d e : Nat} {I : Nat → Int → Int} {ch : Int → Nat} {kd : Nat → Nat} {J : Nat → Int → Int} {Q : Option jV → jS → Prop} (hX : XR I ch kd J) {k : Int} (ka : -2147483648 ≤ k) (kb : k < 2147483648) (hd : 13 ≤ d) (he : 13 ≤ e) (hQ : ∀ I' ch' kd' v, AN e 203 [vr 0, vi k] J v I' ch' kd' → Q (some (vi v)) (SX I' ch' kd')) : Cl d 126 [vr 0, vi k] (SX I ch kd) Q := by
  obtain ⟨hI, hJ, hN, hA, hO⟩ := id hX
  have hw := hN.2.2.1
  obtain ⟨⟨wa0, wa1⟩, ⟨wb0, wb1⟩, ⟨wc0, wc1⟩, wC, wG, wU⟩ := id hw
  refine ⟨by rw [l126]; exact Nat.le_of_ble_eq_true rfl, ?_⟩
  rw [l126]
  show Ev d 126 0 [some (vr 0), some (vi k)] [] (SX I ch kd) Q
  refine ev_s1 (L' := [some (vr 0), some (vi k)]) (S' := [vr 0]) k126_0 rfl rfl ?_
  refine ev_getR k126_1 (by decide) (rfl) (x_0_5 ch kd) ?_
  refine ev_virt (a := []) (S' := []) k126_4 rfl (Nat.le_of_ble_eq_true rfl) (by decide) (rfl) (by omega) ?_
  refine x_stands hN hI (fun h1 => ?_) (fun h1 => ?_)
  · show Ev d 126 7 [some (vr 0), some (vi k)] [vi 1] (SX I ch kd) Q
    refine ev_z_ne (t := 13) k126_7 rfl (by omega) (by omega) (fun _ => ?_) (fun h => absurd h (by decide))
    refine ev_s1 (L' := [some (vr 0), some (vi k)]) (S' := [vi k]) k126_13 rfl rfl ?_
    refine ev_s1 (L' := [some (vr 0), some (vi k)]) (S' := [vi (-1), vi k]) k126_14 rfl rfl ?_
    refine ev_s1 (L' := [some (vr 0), some (vi k)]) (S' := [vi 4, vi (-1), vi k]) k126_15 rfl rfl ?_
    refine ev_static (a := [vi k, vi (-1), vi 4]) (S' := []) k126_16 rfl (Nat.le_of_ble_eq_true rfl) (by omega) ?_
    refine x_within (v := k) (lo := (-1)) (hi := 4) (by omega) (by omega) (by omega) (by omega) (by omega) (by omega) (fun h2 => ?_) (fun h2 => ?_)
    · show Ev d 126 19 [some (vr 0), some (vi k)] [vi 1] (SX I ch kd) Q
      refine ev_z_ne (t := 25) k126_19 rfl (by omega) (by omega) (fun _ => ?_) (fun h => absurd h (by decide))
      refine ev_s1 (L' := [some (vr 0), some (vi k)]) (S' := [vr 0]) k126_25 rfl rfl ?_
      refine ev_getR k126_26 (by decide) (rfl) (x_0_7 ch kd) ?_
      refine ev_s1 (L' := [some (vr 0), some (vi k)]) (S' := [vi k, vr 40]) k126_29 rfl rfl ?_
      refine ev_virt (a := [vi k]) (S' := []) k126_30 rfl (Nat.le_of_ble_eq_true rfl) (by decide) (rfl) (by omega) ?_
      refine g_best hN hI (by omega) (by omega) (by omega) (by omega) (fun I3 kd3 fx3 => ?_)
      show Ev d 126 33 [some (vr 0), some (vi k)] [vi (seaA (J 6) k)] (SX I3 ch kd3) Q
      refine ev_ireturn k126_33 ?_
      refine hQ _ _ _ _ ?_
      exact m_seating hJ hw (by omega) (by omega) (by omega) (fun h => by exfalso; omega) (fun h h2 => by exfalso; omega) (fun h h2 J' fm => ⟨J', rfl, rfl, hX.fs fx3 fm⟩)
    · show Ev d 126 19 [some (vr 0), some (vi k)] [vi 0] (SX I ch kd) Q
      refine ev_z_ne (t := 25) k126_19 rfl (by omega) (by omega) (fun h => absurd h (by decide)) (fun _ => ?_)
      refine ev_ldc k126_22 ?_
      refine ev_ireturn k126_24 ?_
      refine hQ _ _ _ _ ?_
      exact m_seating hJ hw (by omega) (by omega) (by omega) (fun h => by exfalso; omega) (fun h h2 => ⟨J, rfl, rfl, hX⟩) (fun h h2 J' fm => by exfalso; omega)
  · show Ev d 126 7 [some (vr 0), some (vi k)] [vi 0] (SX I ch kd) Q
    refine ev_z_ne (t := 13) k126_7 rfl (by omega) (by omega) (fun h => absurd h (by decide)) (fun _ => ?_)
    refine ev_ldc k126_10 ?_
    refine ev_ireturn k126_12 ?_
    refine hQ _ _ _ _ ?_
    exact m_seating hJ hw (by omega) (by omega) (by omega) (fun h => ⟨J, rfl, rfl, hX⟩) (fun h h2 => by exfalso; omega) (fun h h2 J' fm => by exfalso; omega)

set_option maxHeartbeats 1000000 in
theorem s_pure {d e : Nat} {I : Nat → Int → Int} {ch : Int → Nat} {kd : Nat → Nat} {J : Nat → Int → Int} {Q : Option jV → jS → Prop} (hX : XR I ch kd J) {g c : Int} (ga : -2147483648 ≤ g) (gb : g < 2147483648) (ca : -2147483648 ≤ c) (cb : c < 2147483648) (hd : 13 ≤ d) (he : 13 ≤ e) (hQ : ∀ I' ch' kd' v, AN e 205 [vr 0, vi g, vi c] J v I' ch' kd' → Q (some (vi v)) (SX I' ch' kd')) : Cl d 128 [vr 0, vi g, vi c] (SX I ch kd) Q := by
  obtain ⟨hI, hJ, hN, hA, hO⟩ := id hX
  have hw := hN.2.2.1
  obtain ⟨⟨wa0, wa1⟩, ⟨wb0, wb1⟩, ⟨wc0, wc1⟩, wC, wG, wU⟩ := id hw
  refine ⟨by rw [l128]; exact Nat.le_of_ble_eq_true rfl, ?_⟩
  rw [l128]
  show Ev d 128 0 [some (vr 0), some (vi g), some (vi c)] [] (SX I ch kd) Q
  refine ev_s1 (L' := [some (vr 0), some (vi g), some (vi c)]) (S' := [vr 0]) k128_0 rfl rfl ?_
  refine ev_getR k128_1 (by decide) (rfl) (x_0_5 ch kd) ?_
  refine ev_s1 (L' := [some (vr 0), some (vi g), some (vi c)]) (S' := [vi g, vr 13]) k128_4 rfl rfl ?_
  refine ev_virt (a := [vi g]) (S' := []) k128_5 rfl (Nat.le_of_ble_eq_true rfl) (by decide) (rfl) (by omega) ?_
  refine x_hasG hN hI (i := g) (by omega) (by omega) (fun h1 => ?_) (fun h1 => ?_)
  · show Ev d 128 8 [some (vr 0), some (vi g), some (vi c)] [vi 1] (SX I ch kd) Q
    refine ev_z_eq (t := 22) k128_8 rfl (by omega) (by omega) (fun h => absurd h (by decide)) (fun _ => ?_)
    refine ev_s1 (L' := [some (vr 0), some (vi g), some (vi c)]) (S' := [vr 0]) k128_11 rfl rfl ?_
    refine ev_getR k128_12 (by decide) (rfl) (x_0_5 ch kd) ?_
    refine ev_s1 (L' := [some (vr 0), some (vi g), some (vi c)]) (S' := [vi c, vr 13]) k128_15 rfl rfl ?_
    refine ev_virt (a := [vi c]) (S' := []) k128_16 rfl (Nat.le_of_ble_eq_true rfl) (by decide) (rfl) (by omega) ?_
    refine x_hasC hN hI (i := c) (by omega) (by omega) (fun h2 => ?_) (fun h2 => ?_)
    · show Ev d 128 19 [some (vr 0), some (vi g), some (vi c)] [vi 1] (SX I ch kd) Q
      refine ev_z_ne (t := 25) k128_19 rfl (by omega) (by omega) (fun _ => ?_) (fun h => absurd h (by decide))
      refine ev_s1 (L' := [some (vr 0), some (vi g), some (vi c)]) (S' := [vr 0]) k128_25 rfl rfl ?_
      refine ev_getR k128_26 (by decide) (rfl) (x_0_7 ch kd) ?_
      refine ev_s1 (L' := [some (vr 0), some (vi g), some (vi c)]) (S' := [vi g, vr 40]) k128_29 rfl rfl ?_
      refine ev_s1 (L' := [some (vr 0), some (vi g), some (vi c)]) (S' := [vi c, vi g, vr 40]) k128_30 rfl rfl ?_
      refine ev_virt (a := [vi g, vi c]) (S' := []) k128_31 rfl (Nat.le_of_ble_eq_true rfl) (by decide) (rfl) (by omega) ?_
      refine g_pure hN hI (by omega) (by omega) (by omega) (by omega) (by omega) (fun I3 kd3 fx3 => ?_)
      show Ev d 128 34 [some (vr 0), some (vi g), some (vi c)] [vi (purW g c (J 6 (28 + 4 * g)) 21 0 (J 6))] (SX I3 ch kd3) Q
      refine ev_ireturn k128_34 ?_
      refine hQ _ _ _ _ ?_
      exact m_pure hJ hw (by omega) (by omega) (by omega) (by omega) (by omega) (fun h => by exfalso; omega) (fun h J' fm => ⟨J', rfl, rfl, hX.fs fx3 fm⟩)
    · show Ev d 128 19 [some (vr 0), some (vi g), some (vi c)] [vi 0] (SX I ch kd) Q
      refine ev_z_ne (t := 25) k128_19 rfl (by omega) (by omega) (fun h => absurd h (by decide)) (fun _ => ?_)
      refine ev_ldc k128_22 ?_
      refine ev_ireturn k128_24 ?_
      refine hQ _ _ _ _ ?_
      exact m_pure hJ hw (by omega) (by omega) (by omega) (by omega) (by omega) (fun h => ⟨J, rfl, rfl, hX⟩) (fun h J' fm => by exfalso; omega)
  · show Ev d 128 8 [some (vr 0), some (vi g), some (vi c)] [vi 0] (SX I ch kd) Q
    refine ev_z_eq (t := 22) k128_8 rfl (by omega) (by omega) (fun _ => ?_) (fun h => absurd h (by decide))
    refine ev_ldc k128_22 ?_
    refine ev_ireturn k128_24 ?_
    refine hQ _ _ _ _ ?_
    exact m_pure hJ hw (by omega) (by omega) (by omega) (by omega) (by omega) (fun h => ⟨J, rfl, rfl, hX⟩) (fun h J' fm => by exfalso; omega)

set_option maxHeartbeats 1000000 in
theorem s_between {d e : Nat} {I : Nat → Int → Int} {ch : Int → Nat} {kd : Nat → Nat} {J : Nat → Int → Int} {Q : Option jV → jS → Prop} (hX : XR I ch kd J) {c mn st x : Int} (ca : -2147483648 ≤ c) (cb : c < 2147483648) (mna : -2147483648 ≤ mn) (mnb : mn < 2147483648) (sta : -2147483648 ≤ st) (stb : st < 2147483648) (xa : -2147483648 ≤ x) (xb : x < 2147483648) (hd : 13 ≤ d) (he : 13 ≤ e) (hQ : ∀ I' ch' kd' v, AN e 207 [vr 0, vi c, vi mn, vi st, vi x] J v I' ch' kd' → Q (some (vi v)) (SX I' ch' kd')) : Cl d 129 [vr 0, vi c, vi mn, vi st, vi x] (SX I ch kd) Q := by
  obtain ⟨hI, hJ, hN, hA, hO⟩ := id hX
  have hw := hN.2.2.1
  obtain ⟨⟨wa0, wa1⟩, ⟨wb0, wb1⟩, ⟨wc0, wc1⟩, wC, wG, wU⟩ := id hw
  refine ⟨by rw [l129]; exact Nat.le_of_ble_eq_true rfl, ?_⟩
  rw [l129]
  show Ev d 129 0 [some (vr 0), some (vi c), some (vi mn), some (vi st), some (vi x)] [] (SX I ch kd) Q
  refine ev_s1 (L' := [some (vr 0), some (vi c), some (vi mn), some (vi st), some (vi x)]) (S' := [vr 0]) k129_0 rfl rfl ?_
  refine ev_getR k129_1 (by decide) (rfl) (x_0_5 ch kd) ?_
  refine ev_s1 (L' := [some (vr 0), some (vi c), some (vi mn), some (vi st), some (vi x)]) (S' := [vi c, vr 13]) k129_4 rfl rfl ?_
  refine ev_virt (a := [vi c]) (S' := []) k129_5 rfl (Nat.le_of_ble_eq_true rfl) (by decide) (rfl) (by omega) ?_
  refine x_hasC hN hI (i := c) (by omega) (by omega) (fun h1 => ?_) (fun h1 => ?_)
  · show Ev d 129 8 [some (vr 0), some (vi c), some (vi mn), some (vi st), some (vi x)] [vi 1] (SX I ch kd) Q
    refine ev_z_eq (t := 41) k129_8 rfl (by omega) (by omega) (fun h => absurd h (by decide)) (fun _ => ?_)
    refine ev_s1 (L' := [some (vr 0), some (vi c), some (vi mn), some (vi st), some (vi x)]) (S' := [vi mn]) k129_11 rfl rfl ?_
    refine ev_s1 (L' := [some (vr 0), some (vi c), some (vi mn), some (vi st), some (vi x)]) (S' := [vi 0, vi mn]) k129_12 rfl rfl ?_
    refine ev_s1 (L' := [some (vr 0), some (vi c), some (vi mn), some (vi st), some (vi x)]) (S' := [vi 9, vi 0, vi mn]) k129_13 rfl rfl ?_
    refine ev_static (a := [vi mn, vi 0, vi 9]) (S' := []) k129_15 rfl (Nat.le_of_ble_eq_true rfl) (by omega) ?_
    refine x_within (v := mn) (lo := 0) (hi := 9) (by omega) (by omega) (by omega) (by omega) (by omega) (by omega) (fun h2 => ?_) (fun h2 => ?_)
    · show Ev d 129 18 [some (vr 0), some (vi c), some (vi mn), some (vi st), some (vi x)] [vi 1] (SX I ch kd) Q
      refine ev_z_eq (t := 41) k129_18 rfl (by omega) (by omega) (fun h => absurd h (by decide)) (fun _ => ?_)
      refine ev_s1 (L' := [some (vr 0), some (vi c), some (vi mn), some (vi st), some (vi x)]) (S' := [vi st]) k129_21 rfl rfl ?_
      refine ev_s1 (L' := [some (vr 0), some (vi c), some (vi mn), some (vi st), some (vi x)]) (S' := [vi 0, vi st]) k129_22 rfl rfl ?_
      refine ev_s1 (L' := [some (vr 0), some (vi c), some (vi mn), some (vi st), some (vi x)]) (S' := [vi 16, vi 0, vi st]) k129_23 rfl rfl ?_
      refine ev_static (a := [vi st, vi 0, vi 16]) (S' := []) k129_25 rfl (Nat.le_of_ble_eq_true rfl) (by omega) ?_
      refine x_within (v := st) (lo := 0) (hi := 16) (by omega) (by omega) (by omega) (by omega) (by omega) (by omega) (fun h3 => ?_) (fun h3 => ?_)
      · show Ev d 129 28 [some (vr 0), some (vi c), some (vi mn), some (vi st), some (vi x)] [vi 1] (SX I ch kd) Q
        refine ev_z_eq (t := 41) k129_28 rfl (by omega) (by omega) (fun h => absurd h (by decide)) (fun _ => ?_)
        refine ev_s1 (L' := [some (vr 0), some (vi c), some (vi mn), some (vi st), some (vi x)]) (S' := [vi x]) k129_31 rfl rfl ?_
        refine ev_s1 (L' := [some (vr 0), some (vi c), some (vi mn), some (vi st), some (vi x)]) (S' := [vi 0, vi x]) k129_33 rfl rfl ?_
        refine ev_s1 (L' := [some (vr 0), some (vi c), some (vi mn), some (vi st), some (vi x)]) (S' := [vi 1, vi 0, vi x]) k129_34 rfl rfl ?_
        refine ev_static (a := [vi x, vi 0, vi 1]) (S' := []) k129_35 rfl (Nat.le_of_ble_eq_true rfl) (by omega) ?_
        refine x_within (v := x) (lo := 0) (hi := 1) (by omega) (by omega) (by omega) (by omega) (by omega) (by omega) (fun h4 => ?_) (fun h4 => ?_)
        · show Ev d 129 38 [some (vr 0), some (vi c), some (vi mn), some (vi st), some (vi x)] [vi 1] (SX I ch kd) Q
          refine ev_z_ne (t := 44) k129_38 rfl (by omega) (by omega) (fun _ => ?_) (fun h => absurd h (by decide))
          refine ev_s1 (L' := [some (vr 0), some (vi c), some (vi mn), some (vi st), some (vi x)]) (S' := [vi x]) k129_44 rfl rfl ?_
          refine ev_z_ne (t := 62) k129_46 rfl (by omega) (by omega) (fun h5 => ?_) (fun h5 => ?_)
          · refine ev_s1 (L' := [some (vr 0), some (vi c), some (vi mn), some (vi st), some (vi x)]) (S' := [vr 0]) k129_62 rfl rfl ?_
            refine ev_getR k129_63 (by decide) (rfl) (x_0_7 ch kd) ?_
            refine ev_s1 (L' := [some (vr 0), some (vi c), some (vi mn), some (vi st), some (vi x)]) (S' := [vi c, vr 40]) k129_66 rfl rfl ?_
            refine ev_s1 (L' := [some (vr 0), some (vi c), some (vi mn), some (vi st), some (vi x)]) (S' := [vi mn, vi c, vr 40]) k129_67 rfl rfl ?_
            refine ev_s1 (L' := [some (vr 0), some (vi c), some (vi mn), some (vi st), some (vi x)]) (S' := [vi st, vi mn, vi c, vr 40]) k129_68 rfl rfl ?_
            refine ev_virt (a := [vi c, vi mn, vi st]) (S' := []) k129_69 rfl (Nat.le_of_ble_eq_true rfl) (by decide) (rfl) (by omega) ?_
            refine g_pairs hN hI (by omega) (by omega) (by omega) (by omega) (by omega) (by omega) (by omega) (fun I6 kd6 fx6 => ?_)
            show Ev d 129 72 [some (vr 0), some (vi c), some (vi mn), some (vi st), some (vi x)] [vi (sumF (fun a => cntF (fun b => lefB (sitsW (sitsW (J 6) a c) b c) c mn st) (J 6 2).toNat) (J 6 2).toNat)] (SX I6 ch kd6) Q
            refine ev_ireturn k129_72 ?_
            refine hQ _ _ _ _ ?_
            exact m_between hJ hw (by omega) (by omega) (by omega) (by omega) (by omega) (by omega) (by omega) (by omega) (by omega) (fun h => by exfalso; omega) (fun h J' fm => ⟨J', by rw [if_neg (by omega)], rfl, hX.fs fx6 fm⟩)
          · refine ev_s1 (L' := [some (vr 0), some (vi c), some (vi mn), some (vi st), some (vi x)]) (S' := [vr 0]) k129_49 rfl rfl ?_
            refine ev_getR k129_50 (by decide) (rfl) (x_0_7 ch kd) ?_
            refine ev_s1 (L' := [some (vr 0), some (vi c), some (vi mn), some (vi st), some (vi x)]) (S' := [vi c, vr 40]) k129_53 rfl rfl ?_
            refine ev_s1 (L' := [some (vr 0), some (vi c), some (vi mn), some (vi st), some (vi x)]) (S' := [vi mn, vi c, vr 40]) k129_54 rfl rfl ?_
            refine ev_s1 (L' := [some (vr 0), some (vi c), some (vi mn), some (vi st), some (vi x)]) (S' := [vi st, vi mn, vi c, vr 40]) k129_55 rfl rfl ?_
            refine ev_virt (a := [vi c, vi mn, vi st]) (S' := []) k129_56 rfl (Nat.le_of_ble_eq_true rfl) (by decide) (rfl) (by omega) ?_
            refine g_sitl hN hI (by omega) (by omega) (by omega) (by omega) (by omega) (by omega) (by omega) (fun I7 kd7 fx7 => ?_)
            show Ev d 129 59 [some (vr 0), some (vi c), some (vi mn), some (vi st), some (vi x)] [vi (bitsF (fun a => lefB (sitsW (J 6) a c) c mn st) (J 6 2).toNat)] (SX I7 ch kd7) Q
            refine ev_goto (t := 72) k129_59 rfl ?_
            refine ev_ireturn k129_72 ?_
            refine hQ _ _ _ _ ?_
            exact m_between hJ hw (by omega) (by omega) (by omega) (by omega) (by omega) (by omega) (by omega) (by omega) (by omega) (fun h => by exfalso; omega) (fun h J' fm => ⟨J', by rw [if_pos (by omega)], rfl, hX.fs fx7 fm⟩)
        · show Ev d 129 38 [some (vr 0), some (vi c), some (vi mn), some (vi st), some (vi x)] [vi 0] (SX I ch kd) Q
          refine ev_z_ne (t := 44) k129_38 rfl (by omega) (by omega) (fun h => absurd h (by decide)) (fun _ => ?_)
          refine ev_ldc k129_41 ?_
          refine ev_ireturn k129_43 ?_
          refine hQ _ _ _ _ ?_
          exact m_between hJ hw (by omega) (by omega) (by omega) (by omega) (by omega) (by omega) (by omega) (by omega) (by omega) (fun h => ⟨J, rfl, rfl, hX⟩) (fun h J' fm => by exfalso; omega)
      · show Ev d 129 28 [some (vr 0), some (vi c), some (vi mn), some (vi st), some (vi x)] [vi 0] (SX I ch kd) Q
        refine ev_z_eq (t := 41) k129_28 rfl (by omega) (by omega) (fun _ => ?_) (fun h => absurd h (by decide))
        refine ev_ldc k129_41 ?_
        refine ev_ireturn k129_43 ?_
        refine hQ _ _ _ _ ?_
        exact m_between hJ hw (by omega) (by omega) (by omega) (by omega) (by omega) (by omega) (by omega) (by omega) (by omega) (fun h => ⟨J, rfl, rfl, hX⟩) (fun h J' fm => by exfalso; omega)
    · show Ev d 129 18 [some (vr 0), some (vi c), some (vi mn), some (vi st), some (vi x)] [vi 0] (SX I ch kd) Q
      refine ev_z_eq (t := 41) k129_18 rfl (by omega) (by omega) (fun _ => ?_) (fun h => absurd h (by decide))
      refine ev_ldc k129_41 ?_
      refine ev_ireturn k129_43 ?_
      refine hQ _ _ _ _ ?_
      exact m_between hJ hw (by omega) (by omega) (by omega) (by omega) (by omega) (by omega) (by omega) (by omega) (by omega) (fun h => ⟨J, rfl, rfl, hX⟩) (fun h J' fm => by exfalso; omega)
  · show Ev d 129 8 [some (vr 0), some (vi c), some (vi mn), some (vi st), some (vi x)] [vi 0] (SX I ch kd) Q
    refine ev_z_eq (t := 41) k129_8 rfl (by omega) (by omega) (fun _ => ?_) (fun h => absurd h (by decide))
    refine ev_ldc k129_41 ?_
    refine ev_ireturn k129_43 ?_
    refine hQ _ _ _ _ ?_
    exact m_between hJ hw (by omega) (by omega) (by omega) (by omega) (by omega) (by omega) (by omega) (by omega) (by omega) (fun h => ⟨J, rfl, rfl, hX⟩) (fun h J' fm => by exfalso; omega)

set_option maxHeartbeats 1000000 in
theorem s_trios {d e : Nat} {I : Nat → Int → Int} {ch : Int → Nat} {kd : Nat → Nat} {J : Nat → Int → Int} {Q : Option jV → jS → Prop} (hX : XR I ch kd J) {x : Int} (xa : -2147483648 ≤ x) (xb : x < 2147483648) (hd : 13 ≤ d) (he : 13 ≤ e) (hQ : ∀ I' ch' kd' v, AN e 208 [vr 0, vi x] J v I' ch' kd' → Q (some (vi v)) (SX I' ch' kd')) : Cl d 130 [vr 0, vi x] (SX I ch kd) Q := by
  obtain ⟨hI, hJ, hN, hA, hO⟩ := id hX
  have hw := hN.2.2.1
  obtain ⟨⟨wa0, wa1⟩, ⟨wb0, wb1⟩, ⟨wc0, wc1⟩, wC, wG, wU⟩ := id hw
  refine ⟨by rw [l130]; exact Nat.le_of_ble_eq_true rfl, ?_⟩
  rw [l130]
  show Ev d 130 0 [some (vr 0), some (vi x)] [] (SX I ch kd) Q
  refine ev_s1 (L' := [some (vr 0), some (vi x)]) (S' := [vr 0]) k130_0 rfl rfl ?_
  refine ev_getR k130_1 (by decide) (rfl) (x_0_5 ch kd) ?_
  refine ev_virt (a := []) (S' := []) k130_4 rfl (Nat.le_of_ble_eq_true rfl) (by decide) (rfl) (by omega) ?_
  refine x_stands hN hI (fun h1 => ?_) (fun h1 => ?_)
  · show Ev d 130 7 [some (vr 0), some (vi x)] [vi 1] (SX I ch kd) Q
    refine ev_z_ne (t := 13) k130_7 rfl (by omega) (by omega) (fun _ => ?_) (fun h => absurd h (by decide))
    refine ev_s1 (L' := [some (vr 0), some (vi x)]) (S' := [vi x]) k130_13 rfl rfl ?_
    refine ev_s1 (L' := [some (vr 0), some (vi x)]) (S' := [vi 0, vi x]) k130_14 rfl rfl ?_
    refine ev_s1 (L' := [some (vr 0), some (vi x)]) (S' := [vi 1, vi 0, vi x]) k130_15 rfl rfl ?_
    refine ev_static (a := [vi x, vi 0, vi 1]) (S' := []) k130_16 rfl (Nat.le_of_ble_eq_true rfl) (by omega) ?_
    refine x_within (v := x) (lo := 0) (hi := 1) (by omega) (by omega) (by omega) (by omega) (by omega) (by omega) (fun h2 => ?_) (fun h2 => ?_)
    · show Ev d 130 19 [some (vr 0), some (vi x)] [vi 1] (SX I ch kd) Q
      refine ev_z_ne (t := 25) k130_19 rfl (by omega) (by omega) (fun _ => ?_) (fun h => absurd h (by decide))
      refine ev_s1 (L' := [some (vr 0), some (vi x)]) (S' := [vi x]) k130_25 rfl rfl ?_
      refine ev_z_ne (t := 39) k130_26 rfl (by omega) (by omega) (fun h3 => ?_) (fun h3 => ?_)
      · refine ev_s1 (L' := [some (vr 0), some (vi x)]) (S' := [vr 0]) k130_39 rfl rfl ?_
        refine ev_getR k130_40 (by decide) (rfl) (x_0_5 ch kd) ?_
        refine ev_virt (a := []) (S' := []) k130_43 rfl (Nat.le_of_ble_eq_true rfl) (by decide) (rfl) (by omega) ?_
        refine g_trio1 hN.1 hI hN.2.1 hN.2.2.1 (by omega) (?_)
        show Ev d 130 46 [some (vr 0), some (vi x)] [vi (firstF (triB (J 6)) (J 6 1).toNat)] (SX I ch kd) Q
        refine ev_ireturn k130_46 ?_
        refine hQ _ _ _ _ ?_
        exact m_trios hJ hw (by omega) (by omega) (by omega) (fun h => by exfalso; omega) (fun h h2 => by exfalso; omega) (fun h h2 => ⟨J, by rw [if_neg (by omega)], rfl, hX⟩)
      · refine ev_s1 (L' := [some (vr 0), some (vi x)]) (S' := [vr 0]) k130_29 rfl rfl ?_
        refine ev_getR k130_30 (by decide) (rfl) (x_0_5 ch kd) ?_
        refine ev_virt (a := []) (S' := []) k130_33 rfl (Nat.le_of_ble_eq_true rfl) (by decide) (rfl) (by omega) ?_
        refine g_trios hN.1 hI hN.2.1 hN.2.2.1 (by omega) (?_)
        show Ev d 130 36 [some (vr 0), some (vi x)] [vi (cntF (triB (J 6)) (J 6 1).toNat)] (SX I ch kd) Q
        refine ev_goto (t := 46) k130_36 rfl ?_
        refine ev_ireturn k130_46 ?_
        refine hQ _ _ _ _ ?_
        exact m_trios hJ hw (by omega) (by omega) (by omega) (fun h => by exfalso; omega) (fun h h2 => by exfalso; omega) (fun h h2 => ⟨J, by rw [if_pos (by omega)], rfl, hX⟩)
    · show Ev d 130 19 [some (vr 0), some (vi x)] [vi 0] (SX I ch kd) Q
      refine ev_z_ne (t := 25) k130_19 rfl (by omega) (by omega) (fun h => absurd h (by decide)) (fun _ => ?_)
      refine ev_ldc k130_22 ?_
      refine ev_ireturn k130_24 ?_
      refine hQ _ _ _ _ ?_
      exact m_trios hJ hw (by omega) (by omega) (by omega) (fun h => by exfalso; omega) (fun h h2 => ⟨J, rfl, rfl, hX⟩) (fun h h2 => by exfalso; omega)
  · show Ev d 130 7 [some (vr 0), some (vi x)] [vi 0] (SX I ch kd) Q
    refine ev_z_ne (t := 13) k130_7 rfl (by omega) (by omega) (fun h => absurd h (by decide)) (fun _ => ?_)
    refine ev_ldc k130_10 ?_
    refine ev_ireturn k130_12 ?_
    refine hQ _ _ _ _ ?_
    exact m_trios hJ hw (by omega) (by omega) (by omega) (fun h => ⟨J, rfl, rfl, hX⟩) (fun h h2 => by exfalso; omega) (fun h h2 => by exfalso; omega)

set_option maxHeartbeats 1000000 in
theorem s_caned {d e : Nat} {I : Nat → Int → Int} {ch : Int → Nat} {kd : Nat → Nat} {J : Nat → Int → Int} {Q : Option jV → jS → Prop} (hX : XR I ch kd J) {q t x : Int} (qa : -2147483648 ≤ q) (qb : q < 2147483648) (ta : -2147483648 ≤ t) (tb : t < 2147483648) (xa : -2147483648 ≤ x) (xb : x < 2147483648) (hd : 13 ≤ d) (he : 13 ≤ e) (hQ : ∀ I' ch' kd' v, AN e 212 [vr 0, vi q, vi t, vi x] J v I' ch' kd' → Q (some (vi v)) (SX I' ch' kd')) : Cl d 133 [vr 0, vi q, vi t, vi x] (SX I ch kd) Q := by
  obtain ⟨hI, hJ, hN, hA, hO⟩ := id hX
  have hw := hN.2.2.1
  obtain ⟨⟨wa0, wa1⟩, ⟨wb0, wb1⟩, ⟨wc0, wc1⟩, wC, wG, wU⟩ := id hw
  refine ⟨by rw [l133]; exact Nat.le_of_ble_eq_true rfl, ?_⟩
  rw [l133]
  show Ev d 133 0 [some (vr 0), some (vi q), some (vi t), some (vi x)] [] (SX I ch kd) Q
  refine ev_s1 (L' := [some (vr 0), some (vi q), some (vi t), some (vi x)]) (S' := [vr 0]) k133_0 rfl rfl ?_
  refine ev_getR k133_1 (by decide) (rfl) (x_0_5 ch kd) ?_
  refine ev_virt (a := []) (S' := []) k133_4 rfl (Nat.le_of_ble_eq_true rfl) (by decide) (rfl) (by omega) ?_
  refine x_stands hN hI (fun h1 => ?_) (fun h1 => ?_)
  · show Ev d 133 7 [some (vr 0), some (vi q), some (vi t), some (vi x)] [vi 1] (SX I ch kd) Q
    refine ev_z_ne (t := 13) k133_7 rfl (by omega) (by omega) (fun _ => ?_) (fun h => absurd h (by decide))
    refine ev_s1 (L' := [some (vr 0), some (vi q), some (vi t), some (vi x)]) (S' := [vi q]) k133_13 rfl rfl ?_
    refine ev_s1 (L' := [some (vr 0), some (vi q), some (vi t), some (vi x)]) (S' := [vi 0, vi q]) k133_14 rfl rfl ?_
    refine ev_s1 (L' := [some (vr 0), some (vi q), some (vi t), some (vi x)]) (S' := [vi 40, vi 0, vi q]) k133_15 rfl rfl ?_
    refine ev_static (a := [vi q, vi 0, vi 40]) (S' := []) k133_17 rfl (Nat.le_of_ble_eq_true rfl) (by omega) ?_
    refine x_within (v := q) (lo := 0) (hi := 40) (by omega) (by omega) (by omega) (by omega) (by omega) (by omega) (fun h2 => ?_) (fun h2 => ?_)
    · show Ev d 133 20 [some (vr 0), some (vi q), some (vi t), some (vi x)] [vi 1] (SX I ch kd) Q
      refine ev_z_eq (t := 42) k133_20 rfl (by omega) (by omega) (fun h => absurd h (by decide)) (fun _ => ?_)
      refine ev_s1 (L' := [some (vr 0), some (vi q), some (vi t), some (vi x)]) (S' := [vi t]) k133_23 rfl rfl ?_
      refine ev_s1 (L' := [some (vr 0), some (vi q), some (vi t), some (vi x)]) (S' := [vi 0, vi t]) k133_24 rfl rfl ?_
      refine ev_s1 (L' := [some (vr 0), some (vi q), some (vi t), some (vi x)]) (S' := [vi 10, vi 0, vi t]) k133_25 rfl rfl ?_
      refine ev_static (a := [vi t, vi 0, vi 10]) (S' := []) k133_27 rfl (Nat.le_of_ble_eq_true rfl) (by omega) ?_
      refine x_within (v := t) (lo := 0) (hi := 10) (by omega) (by omega) (by omega) (by omega) (by omega) (by omega) (fun h3 => ?_) (fun h3 => ?_)
      · show Ev d 133 30 [some (vr 0), some (vi q), some (vi t), some (vi x)] [vi 1] (SX I ch kd) Q
        refine ev_z_eq (t := 42) k133_30 rfl (by omega) (by omega) (fun h => absurd h (by decide)) (fun _ => ?_)
        refine ev_s1 (L' := [some (vr 0), some (vi q), some (vi t), some (vi x)]) (S' := [vi x]) k133_33 rfl rfl ?_
        refine ev_s1 (L' := [some (vr 0), some (vi q), some (vi t), some (vi x)]) (S' := [vi 0, vi x]) k133_34 rfl rfl ?_
        refine ev_s1 (L' := [some (vr 0), some (vi q), some (vi t), some (vi x)]) (S' := [vi 1, vi 0, vi x]) k133_35 rfl rfl ?_
        refine ev_static (a := [vi x, vi 0, vi 1]) (S' := []) k133_36 rfl (Nat.le_of_ble_eq_true rfl) (by omega) ?_
        refine x_within (v := x) (lo := 0) (hi := 1) (by omega) (by omega) (by omega) (by omega) (by omega) (by omega) (fun h4 => ?_) (fun h4 => ?_)
        · show Ev d 133 39 [some (vr 0), some (vi q), some (vi t), some (vi x)] [vi 1] (SX I ch kd) Q
          refine ev_z_ne (t := 45) k133_39 rfl (by omega) (by omega) (fun _ => ?_) (fun h => absurd h (by decide))
          refine ev_s1 (L' := [some (vr 0), some (vi q), some (vi t), some (vi x)]) (S' := [vr 0]) k133_45 rfl rfl ?_
          refine ev_getR k133_46 (by decide) (rfl) (x_0_7 ch kd) ?_
          refine ev_s1 (L' := [some (vr 0), some (vi q), some (vi t), some (vi x)]) (S' := [vi q, vr 40]) k133_49 rfl rfl ?_
          refine ev_s1 (L' := [some (vr 0), some (vi q), some (vi t), some (vi x)]) (S' := [vi t, vi q, vr 40]) k133_50 rfl rfl ?_
          refine ev_s1 (L' := [some (vr 0), some (vi q), some (vi t), some (vi x)]) (S' := [vi x, vi t, vi q, vr 40]) k133_51 rfl rfl ?_
          refine ev_virt (a := [vi q, vi t, vi x]) (S' := []) k133_52 rfl (Nat.le_of_ble_eq_true rfl) (by decide) (rfl) (by omega) ?_
          refine g_chance hN hI (by omega) (by omega) (by omega) (by omega) (by omega) (by omega) (by omega) (fun I5 kd5 fx5 => ?_)
          show Ev d 133 55 [some (vr 0), some (vi q), some (vi t), some (vi x)] [vi (chaW (J 6) q t x)] (SX I5 ch kd5) Q
          refine ev_ireturn k133_55 ?_
          refine hQ _ _ _ _ ?_
          exact m_caned hJ hw (by omega) (by omega) (by omega) (by omega) (by omega) (by omega) (by omega) (fun h => by exfalso; omega) (fun h h2 => by exfalso; omega) (fun h h2 J' fm => ⟨J', rfl, rfl, hX.fs fx5 fm⟩)
        · show Ev d 133 39 [some (vr 0), some (vi q), some (vi t), some (vi x)] [vi 0] (SX I ch kd) Q
          refine ev_z_ne (t := 45) k133_39 rfl (by omega) (by omega) (fun h => absurd h (by decide)) (fun _ => ?_)
          refine ev_ldc k133_42 ?_
          refine ev_ireturn k133_44 ?_
          refine hQ _ _ _ _ ?_
          exact m_caned hJ hw (by omega) (by omega) (by omega) (by omega) (by omega) (by omega) (by omega) (fun h => by exfalso; omega) (fun h h2 => ⟨J, rfl, rfl, hX⟩) (fun h h2 J' fm => by exfalso; omega)
      · show Ev d 133 30 [some (vr 0), some (vi q), some (vi t), some (vi x)] [vi 0] (SX I ch kd) Q
        refine ev_z_eq (t := 42) k133_30 rfl (by omega) (by omega) (fun _ => ?_) (fun h => absurd h (by decide))
        refine ev_ldc k133_42 ?_
        refine ev_ireturn k133_44 ?_
        refine hQ _ _ _ _ ?_
        exact m_caned hJ hw (by omega) (by omega) (by omega) (by omega) (by omega) (by omega) (by omega) (fun h => by exfalso; omega) (fun h h2 => ⟨J, rfl, rfl, hX⟩) (fun h h2 J' fm => by exfalso; omega)
    · show Ev d 133 20 [some (vr 0), some (vi q), some (vi t), some (vi x)] [vi 0] (SX I ch kd) Q
      refine ev_z_eq (t := 42) k133_20 rfl (by omega) (by omega) (fun _ => ?_) (fun h => absurd h (by decide))
      refine ev_ldc k133_42 ?_
      refine ev_ireturn k133_44 ?_
      refine hQ _ _ _ _ ?_
      exact m_caned hJ hw (by omega) (by omega) (by omega) (by omega) (by omega) (by omega) (by omega) (fun h => by exfalso; omega) (fun h h2 => ⟨J, rfl, rfl, hX⟩) (fun h h2 J' fm => by exfalso; omega)
  · show Ev d 133 7 [some (vr 0), some (vi q), some (vi t), some (vi x)] [vi 0] (SX I ch kd) Q
    refine ev_z_ne (t := 13) k133_7 rfl (by omega) (by omega) (fun h => absurd h (by decide)) (fun _ => ?_)
    refine ev_ldc k133_10 ?_
    refine ev_ireturn k133_12 ?_
    refine hQ _ _ _ _ ?_
    exact m_caned hJ hw (by omega) (by omega) (by omega) (by omega) (by omega) (by omega) (by omega) (fun h => ⟨J, rfl, rfl, hX⟩) (fun h h2 => by exfalso; omega) (fun h h2 J' fm => by exfalso; omega)

set_option maxHeartbeats 1000000 in
theorem s_drawn {d e : Nat} {I : Nat → Int → Int} {ch : Int → Nat} {kd : Nat → Nat} {J : Nat → Int → Int} {Q : Option jV → jS → Prop} (hX : XR I ch kd J) {n seed x : Int} (na : -2147483648 ≤ n) (nb : n < 2147483648) (seeda : -2147483648 ≤ seed) (seedb : seed < 2147483648) (xa : -2147483648 ≤ x) (xb : x < 2147483648) (hd : 13 ≤ d) (he : 13 ≤ e) (hQ : ∀ I' ch' kd' v, AN e 213 [vr 0, vi n, vi seed, vi x] J v I' ch' kd' → Q (some (vi v)) (SX I' ch' kd')) : Cl d 134 [vr 0, vi n, vi seed, vi x] (SX I ch kd) Q := by
  obtain ⟨hI, hJ, hN, hA, hO⟩ := id hX
  have hw := hN.2.2.1
  obtain ⟨⟨wa0, wa1⟩, ⟨wb0, wb1⟩, ⟨wc0, wc1⟩, wC, wG, wU⟩ := id hw
  refine ⟨by rw [l134]; exact Nat.le_of_ble_eq_true rfl, ?_⟩
  rw [l134]
  show Ev d 134 0 [some (vr 0), some (vi n), some (vi seed), some (vi x)] [] (SX I ch kd) Q
  refine ev_s1 (L' := [some (vr 0), some (vi n), some (vi seed), some (vi x)]) (S' := [vr 0]) k134_0 rfl rfl ?_
  refine ev_getR k134_1 (by decide) (rfl) (x_0_5 ch kd) ?_
  refine ev_virt (a := []) (S' := []) k134_4 rfl (Nat.le_of_ble_eq_true rfl) (by decide) (rfl) (by omega) ?_
  refine x_stands hN hI (fun h1 => ?_) (fun h1 => ?_)
  · show Ev d 134 7 [some (vr 0), some (vi n), some (vi seed), some (vi x)] [vi 1] (SX I ch kd) Q
    refine ev_z_ne (t := 13) k134_7 rfl (by omega) (by omega) (fun _ => ?_) (fun h => absurd h (by decide))
    refine ev_s1 (L' := [some (vr 0), some (vi n), some (vi seed), some (vi x)]) (S' := [vi n]) k134_13 rfl rfl ?_
    refine ev_s1 (L' := [some (vr 0), some (vi n), some (vi seed), some (vi x)]) (S' := [vi 0, vi n]) k134_14 rfl rfl ?_
    refine ev_s1 (L' := [some (vr 0), some (vi n), some (vi seed), some (vi x)]) (S' := [vi 60, vi 0, vi n]) k134_15 rfl rfl ?_
    refine ev_static (a := [vi n, vi 0, vi 60]) (S' := []) k134_17 rfl (Nat.le_of_ble_eq_true rfl) (by omega) ?_
    refine x_within (v := n) (lo := 0) (hi := 60) (by omega) (by omega) (by omega) (by omega) (by omega) (by omega) (fun h2 => ?_) (fun h2 => ?_)
    · show Ev d 134 20 [some (vr 0), some (vi n), some (vi seed), some (vi x)] [vi 1] (SX I ch kd) Q
      refine ev_z_eq (t := 43) k134_20 rfl (by omega) (by omega) (fun h => absurd h (by decide)) (fun _ => ?_)
      refine ev_s1 (L' := [some (vr 0), some (vi n), some (vi seed), some (vi x)]) (S' := [vi seed]) k134_23 rfl rfl ?_
      refine ev_s1 (L' := [some (vr 0), some (vi n), some (vi seed), some (vi x)]) (S' := [vi 1, vi seed]) k134_24 rfl rfl ?_
      refine ev_ldcw k134_25 ?_
      refine ev_static (a := [vi seed, vi 1, vi 999999]) (S' := []) k134_28 rfl (Nat.le_of_ble_eq_true rfl) (by omega) ?_
      refine x_within (v := seed) (lo := 1) (hi := 999999) (by omega) (by omega) (by omega) (by omega) (by omega) (by omega) (fun h3 => ?_) (fun h3 => ?_)
      · show Ev d 134 31 [some (vr 0), some (vi n), some (vi seed), some (vi x)] [vi 1] (SX I ch kd) Q
        refine ev_z_eq (t := 43) k134_31 rfl (by omega) (by omega) (fun h => absurd h (by decide)) (fun _ => ?_)
        refine ev_s1 (L' := [some (vr 0), some (vi n), some (vi seed), some (vi x)]) (S' := [vi x]) k134_34 rfl rfl ?_
        refine ev_s1 (L' := [some (vr 0), some (vi n), some (vi seed), some (vi x)]) (S' := [vi 0, vi x]) k134_35 rfl rfl ?_
        refine ev_s1 (L' := [some (vr 0), some (vi n), some (vi seed), some (vi x)]) (S' := [vi 1, vi 0, vi x]) k134_36 rfl rfl ?_
        refine ev_static (a := [vi x, vi 0, vi 1]) (S' := []) k134_37 rfl (Nat.le_of_ble_eq_true rfl) (by omega) ?_
        refine x_within (v := x) (lo := 0) (hi := 1) (by omega) (by omega) (by omega) (by omega) (by omega) (by omega) (fun h4 => ?_) (fun h4 => ?_)
        · show Ev d 134 40 [some (vr 0), some (vi n), some (vi seed), some (vi x)] [vi 1] (SX I ch kd) Q
          refine ev_z_ne (t := 46) k134_40 rfl (by omega) (by omega) (fun _ => ?_) (fun h => absurd h (by decide))
          refine ev_s1 (L' := [some (vr 0), some (vi n), some (vi seed), some (vi x)]) (S' := [vr 0]) k134_46 rfl rfl ?_
          refine ev_getR k134_47 (by decide) (rfl) (x_0_7 ch kd) ?_
          refine ev_s1 (L' := [some (vr 0), some (vi n), some (vi seed), some (vi x)]) (S' := [vi n, vr 40]) k134_50 rfl rfl ?_
          refine ev_s1 (L' := [some (vr 0), some (vi n), some (vi seed), some (vi x)]) (S' := [vi seed, vi n, vr 40]) k134_51 rfl rfl ?_
          refine ev_s1 (L' := [some (vr 0), some (vi n), some (vi seed), some (vi x)]) (S' := [vi x, vi seed, vi n, vr 40]) k134_52 rfl rfl ?_
          refine ev_virt (a := [vi n, vi seed, vi x]) (S' := []) k134_53 rfl (Nat.le_of_ble_eq_true rfl) (by decide) (rfl) (by omega) ?_
          refine g_even2 hN hI (by omega) (by omega) (by omega) (by omega) (by omega) (by omega) (by omega) (by omega) (fun I5 kd5 fx5 => ?_)
          show Ev d 134 56 [some (vr 0), some (vi n), some (vi seed), some (vi x)] [vi (evW (J 6) n.toNat seed x)] (SX I5 ch kd5) Q
          refine ev_ireturn k134_56 ?_
          refine hQ _ _ _ _ ?_
          exact m_drawn hJ hw (by omega) (by omega) (by omega) (by omega) (by omega) (by omega) (by omega) (fun h => by exfalso; omega) (fun h h2 => by exfalso; omega) (fun h h2 J' fm => ⟨J', rfl, rfl, hX.fs fx5 fm⟩)
        · show Ev d 134 40 [some (vr 0), some (vi n), some (vi seed), some (vi x)] [vi 0] (SX I ch kd) Q
          refine ev_z_ne (t := 46) k134_40 rfl (by omega) (by omega) (fun h => absurd h (by decide)) (fun _ => ?_)
          refine ev_ldc k134_43 ?_
          refine ev_ireturn k134_45 ?_
          refine hQ _ _ _ _ ?_
          exact m_drawn hJ hw (by omega) (by omega) (by omega) (by omega) (by omega) (by omega) (by omega) (fun h => by exfalso; omega) (fun h h2 => ⟨J, rfl, rfl, hX⟩) (fun h h2 J' fm => by exfalso; omega)
      · show Ev d 134 31 [some (vr 0), some (vi n), some (vi seed), some (vi x)] [vi 0] (SX I ch kd) Q
        refine ev_z_eq (t := 43) k134_31 rfl (by omega) (by omega) (fun _ => ?_) (fun h => absurd h (by decide))
        refine ev_ldc k134_43 ?_
        refine ev_ireturn k134_45 ?_
        refine hQ _ _ _ _ ?_
        exact m_drawn hJ hw (by omega) (by omega) (by omega) (by omega) (by omega) (by omega) (by omega) (fun h => by exfalso; omega) (fun h h2 => ⟨J, rfl, rfl, hX⟩) (fun h h2 J' fm => by exfalso; omega)
    · show Ev d 134 20 [some (vr 0), some (vi n), some (vi seed), some (vi x)] [vi 0] (SX I ch kd) Q
      refine ev_z_eq (t := 43) k134_20 rfl (by omega) (by omega) (fun _ => ?_) (fun h => absurd h (by decide))
      refine ev_ldc k134_43 ?_
      refine ev_ireturn k134_45 ?_
      refine hQ _ _ _ _ ?_
      exact m_drawn hJ hw (by omega) (by omega) (by omega) (by omega) (by omega) (by omega) (by omega) (fun h => by exfalso; omega) (fun h h2 => ⟨J, rfl, rfl, hX⟩) (fun h h2 J' fm => by exfalso; omega)
  · show Ev d 134 7 [some (vr 0), some (vi n), some (vi seed), some (vi x)] [vi 0] (SX I ch kd) Q
    refine ev_z_ne (t := 13) k134_7 rfl (by omega) (by omega) (fun h => absurd h (by decide)) (fun _ => ?_)
    refine ev_ldc k134_10 ?_
    refine ev_ireturn k134_12 ?_
    refine hQ _ _ _ _ ?_
    exact m_drawn hJ hw (by omega) (by omega) (by omega) (by omega) (by omega) (by omega) (by omega) (fun h => ⟨J, rfl, rfl, hX⟩) (fun h h2 => by exfalso; omega) (fun h h2 J' fm => by exfalso; omega)

set_option maxHeartbeats 1000000 in
theorem s_warm {d e : Nat} {I : Nat → Int → Int} {ch : Int → Nat} {kd : Nat → Nat} {J : Nat → Int → Int} {Q : Option jV → jS → Prop} (hX : XR I ch kd J) {g c b k : Int} (ga : -2147483648 ≤ g) (gb : g < 2147483648) (ca : -2147483648 ≤ c) (cb : c < 2147483648) (ba : -2147483648 ≤ b) (bb : b < 2147483648) (ka : -2147483648 ≤ k) (kb : k < 2147483648) (hd : 13 ≤ d) (he : 13 ≤ e) (hQ : ∀ I' ch' kd' v, AN e 204 [vr 0, vi g, vi c, vi b, vi k] J v I' ch' kd' → Q (some (vi v)) (SX I' ch' kd')) : Cl d 127 [vr 0, vi g, vi c, vi b, vi k] (SX I ch kd) Q := by
  obtain ⟨hI, hJ, hN, hA, hO⟩ := id hX
  have hw := hN.2.2.1
  obtain ⟨⟨wa0, wa1⟩, ⟨wb0, wb1⟩, ⟨wc0, wc1⟩, wC, wG, wU⟩ := id hw
  refine ⟨by rw [l127]; exact Nat.le_of_ble_eq_true rfl, ?_⟩
  rw [l127]
  show Ev d 127 0 [some (vr 0), some (vi g), some (vi c), some (vi b), some (vi k), none] [] (SX I ch kd) Q
  refine ev_s1 (L' := [some (vr 0), some (vi g), some (vi c), some (vi b), some (vi k), none]) (S' := [vr 0]) k127_0 rfl rfl ?_
  refine ev_getR k127_1 (by decide) (rfl) (x_0_5 ch kd) ?_
  refine ev_s1 (L' := [some (vr 0), some (vi g), some (vi c), some (vi b), some (vi k), none]) (S' := [vi g, vr 13]) k127_4 rfl rfl ?_
  refine ev_virt (a := [vi g]) (S' := []) k127_5 rfl (Nat.le_of_ble_eq_true rfl) (by decide) (rfl) (by omega) ?_
  refine x_hasG hN hI (i := g) (by omega) (by omega) (fun h1 => ?_) (fun h1 => ?_)
  · show Ev d 127 8 [some (vr 0), some (vi g), some (vi c), some (vi b), some (vi k), none] [vi 1] (SX I ch kd) Q
    refine ev_z_eq (t := 42) k127_8 rfl (by omega) (by omega) (fun h => absurd h (by decide)) (fun _ => ?_)
    refine ev_s1 (L' := [some (vr 0), some (vi g), some (vi c), some (vi b), some (vi k), none]) (S' := [vr 0]) k127_11 rfl rfl ?_
    refine ev_getR k127_12 (by decide) (rfl) (x_0_5 ch kd) ?_
    refine ev_s1 (L' := [some (vr 0), some (vi g), some (vi c), some (vi b), some (vi k), none]) (S' := [vi c, vr 13]) k127_15 rfl rfl ?_
    refine ev_virt (a := [vi c]) (S' := []) k127_16 rfl (Nat.le_of_ble_eq_true rfl) (by decide) (rfl) (by omega) ?_
    refine x_hasC hN hI (i := c) (by omega) (by omega) (fun h2 => ?_) (fun h2 => ?_)
    · show Ev d 127 19 [some (vr 0), some (vi g), some (vi c), some (vi b), some (vi k), none] [vi 1] (SX I ch kd) Q
      refine ev_z_eq (t := 42) k127_19 rfl (by omega) (by omega) (fun h => absurd h (by decide)) (fun _ => ?_)
      refine ev_s1 (L' := [some (vr 0), some (vi g), some (vi c), some (vi b), some (vi k), none]) (S' := [vi b]) k127_22 rfl rfl ?_
      refine ev_s1 (L' := [some (vr 0), some (vi g), some (vi c), some (vi b), some (vi k), none]) (S' := [vi 0, vi b]) k127_23 rfl rfl ?_
      refine ev_s1 (L' := [some (vr 0), some (vi g), some (vi c), some (vi b), some (vi k), none]) (S' := [vi 9, vi 0, vi b]) k127_24 rfl rfl ?_
      refine ev_static (a := [vi b, vi 0, vi 9]) (S' := []) k127_26 rfl (Nat.le_of_ble_eq_true rfl) (by omega) ?_
      refine x_within (v := b) (lo := 0) (hi := 9) (by omega) (by omega) (by omega) (by omega) (by omega) (by omega) (fun h3 => ?_) (fun h3 => ?_)
      · show Ev d 127 29 [some (vr 0), some (vi g), some (vi c), some (vi b), some (vi k), none] [vi 1] (SX I ch kd) Q
        refine ev_z_eq (t := 42) k127_29 rfl (by omega) (by omega) (fun h => absurd h (by decide)) (fun _ => ?_)
        refine ev_s1 (L' := [some (vr 0), some (vi g), some (vi c), some (vi b), some (vi k), none]) (S' := [vi k]) k127_32 rfl rfl ?_
        refine ev_s1 (L' := [some (vr 0), some (vi g), some (vi c), some (vi b), some (vi k), none]) (S' := [vi (-1), vi k]) k127_34 rfl rfl ?_
        refine ev_s1 (L' := [some (vr 0), some (vi g), some (vi c), some (vi b), some (vi k), none]) (S' := [vi 2, vi (-1), vi k]) k127_35 rfl rfl ?_
        refine ev_static (a := [vi k, vi (-1), vi 2]) (S' := []) k127_36 rfl (Nat.le_of_ble_eq_true rfl) (by omega) ?_
        refine x_within (v := k) (lo := (-1)) (hi := 2) (by omega) (by omega) (by omega) (by omega) (by omega) (by omega) (fun h4 => ?_) (fun h4 => ?_)
        · show Ev d 127 39 [some (vr 0), some (vi g), some (vi c), some (vi b), some (vi k), none] [vi 1] (SX I ch kd) Q
          refine ev_z_ne (t := 45) k127_39 rfl (by omega) (by omega) (fun _ => ?_) (fun h => absurd h (by decide))
          refine ev_s1 (L' := [some (vr 0), some (vi g), some (vi c), some (vi b), some (vi k), none]) (S' := [vr 0]) k127_45 rfl rfl ?_
          refine ev_getR k127_46 (by decide) (rfl) (x_0_7 ch kd) ?_
          refine ev_s1 (L' := [some (vr 0), some (vi g), some (vi c), some (vi b), some (vi k), none]) (S' := [vi g, vr 40]) k127_49 rfl rfl ?_
          refine ev_s1 (L' := [some (vr 0), some (vi g), some (vi c), some (vi b), some (vi k), none]) (S' := [vi c, vi g, vr 40]) k127_50 rfl rfl ?_
          refine ev_s1 (L' := [some (vr 0), some (vi g), some (vi c), some (vi b), some (vi k), none]) (S' := [vi b, vi c, vi g, vr 40]) k127_51 rfl rfl ?_
          refine ev_virt (a := [vi g, vi c, vi b]) (S' := []) k127_52 rfl (Nat.le_of_ble_eq_true rfl) (by decide) (rfl) (by omega) ?_
          refine g_few hN hI (by omega) (by omega) (by omega) (by omega) (by omega) (by omega) (by omega) (fun I5 kd5 fx5 dg5 => ?_)
          have wr := war_rng (w := J 6) (g := g) (c := c) (b := b) 4 0
          show Ev d 127 55 [some (vr 0), some (vi g), some (vi c), some (vi b), some (vi k), none] [vi ((warR (J 6) g c b 4 0).1)] (SX I5 ch kd5) Q
          refine ev_s1 (L' := [some (vr 0), some (vi g), some (vi c), some (vi b), some (vi k), some (vi ((warR (J 6) g c b 4 0).1))]) (S' := []) k127_55 rfl rfl ?_
          refine ev_s1 (L' := [some (vr 0), some (vi g), some (vi c), some (vi b), some (vi k), some (vi ((warR (J 6) g c b 4 0).1))]) (S' := [vi k]) k127_57 rfl rfl ?_
          refine ev_s1 (L' := [some (vr 0), some (vi g), some (vi c), some (vi b), some (vi k), some (vi ((warR (J 6) g c b 4 0).1))]) (S' := [vi (-1), vi k]) k127_59 rfl rfl ?_
          refine ev_c_eq (t := 70) k127_60 rfl (by omega) (by omega) (by omega) (by omega) (fun h6 => ?_) (fun h6 => ?_)
          · refine ev_s1 (L' := [some (vr 0), some (vi g), some (vi c), some (vi b), some (vi k), some (vi ((warR (J 6) g c b 4 0).1))]) (S' := [vi ((warR (J 6) g c b 4 0).1)]) k127_70 rfl rfl ?_
            refine ev_ireturn k127_72 ?_
            refine hQ _ _ _ _ ?_
            exact m_warm hJ hw (by omega) (by omega) (by omega) (by omega) (by omega) (by omega) (by omega) (by omega) (by omega) (fun h => by exfalso; omega) (fun h J' fm => ⟨J', by unfold warA; rw [if_pos (by omega)], rfl, hX.fs fx5 fm⟩)
          · refine ev_s1 (L' := [some (vr 0), some (vi g), some (vi c), some (vi b), some (vi k), some (vi ((warR (J 6) g c b 4 0).1))]) (S' := [vi ((warR (J 6) g c b 4 0).1)]) k127_63 rfl rfl ?_
            refine ev_ldc k127_65 ?_
            refine ev_c_ne (t := 73) k127_67 rfl (by omega) (by omega) (by omega) (by omega) (fun h7 => ?_) (fun h7 => ?_)
            · refine ev_s1 (L' := [some (vr 0), some (vi g), some (vi c), some (vi b), some (vi k), some (vi ((warR (J 6) g c b 4 0).1))]) (S' := [vi k]) k127_73 rfl rfl ?_
              refine ev_s1 (L' := [some (vr 0), some (vi g), some (vi c), some (vi b), some (vi k), some (vi ((warR (J 6) g c b 4 0).1))]) (S' := [vi ((warR (J 6) g c b 4 0).1), vi k]) k127_75 rfl rfl ?_
              refine ev_c_ge (t := 92) k127_77 rfl (by omega) (by omega) (by omega) (by omega) (fun h8 => ?_) (fun h8 => ?_)
              · refine ev_ldc k127_92 ?_
                refine ev_ireturn k127_94 ?_
                refine hQ _ _ _ _ ?_
                exact m_warm hJ hw (by omega) (by omega) (by omega) (by omega) (by omega) (by omega) (by omega) (by omega) (by omega) (fun h => by exfalso; omega) (fun h J' fm => ⟨J', by unfold warA; rw [if_neg (by omega), if_neg (by omega)], rfl, hX.fs fx5 fm⟩)
              · refine ev_s1 (L' := [some (vr 0), some (vi g), some (vi c), some (vi b), some (vi k), some (vi ((warR (J 6) g c b 4 0).1))]) (S' := [vr 0]) k127_80 rfl rfl ?_
                refine ev_getR k127_81 (by decide) (rfl) (x_0_7 ch kd5) ?_
                refine ev_s1 (L' := [some (vr 0), some (vi g), some (vi c), some (vi b), some (vi k), some (vi ((warR (J 6) g c b 4 0).1))]) (S' := [vi k, vr 40]) k127_84 rfl rfl ?_
                refine ev_virt (a := [vi k]) (S' := []) k127_86 rfl (Nat.le_of_ble_eq_true rfl) (by decide) (rfl) (by omega) ?_
                refine g_sitterOf fx5.1 (by omega) (by omega) (?_)
                show Ev d 127 89 [some (vr 0), some (vi g), some (vi c), some (vi b), some (vi k), some (vi ((warR (J 6) g c b 4 0).1))] [vi (I5 43 k)] (SX I5 ch kd5) Q
                refine ev_goto (t := 94) k127_89 rfl ?_
                refine ev_ireturn k127_94 ?_
                refine hQ _ _ _ _ ?_
                exact m_warm hJ hw (by omega) (by omega) (by omega) (by omega) (by omega) (by omega) (by omega) (by omega) (by omega) (fun h => by exfalso; omega) (fun h J' fm => ⟨J', by unfold warA; rw [if_neg (by omega), if_pos (by omega), ← dg5 k.toNat (by omega), show ((k.toNat : Nat) : Int) = k by omega], rfl, hX.fs fx5 fm⟩)
            · refine ev_s1 (L' := [some (vr 0), some (vi g), some (vi c), some (vi b), some (vi k), some (vi ((warR (J 6) g c b 4 0).1))]) (S' := [vi ((warR (J 6) g c b 4 0).1)]) k127_70 rfl rfl ?_
              refine ev_ireturn k127_72 ?_
              refine hQ _ _ _ _ ?_
              exact m_warm hJ hw (by omega) (by omega) (by omega) (by omega) (by omega) (by omega) (by omega) (by omega) (by omega) (fun h => by exfalso; omega) (fun h J' fm => ⟨J', by unfold warA; rw [if_pos (by omega)], rfl, hX.fs fx5 fm⟩)
        · show Ev d 127 39 [some (vr 0), some (vi g), some (vi c), some (vi b), some (vi k), none] [vi 0] (SX I ch kd) Q
          refine ev_z_ne (t := 45) k127_39 rfl (by omega) (by omega) (fun h => absurd h (by decide)) (fun _ => ?_)
          refine ev_ldc k127_42 ?_
          refine ev_ireturn k127_44 ?_
          refine hQ _ _ _ _ ?_
          exact m_warm hJ hw (by omega) (by omega) (by omega) (by omega) (by omega) (by omega) (by omega) (by omega) (by omega) (fun h => ⟨J, rfl, rfl, hX⟩) (fun h J' fm => by exfalso; omega)
      · show Ev d 127 29 [some (vr 0), some (vi g), some (vi c), some (vi b), some (vi k), none] [vi 0] (SX I ch kd) Q
        refine ev_z_eq (t := 42) k127_29 rfl (by omega) (by omega) (fun _ => ?_) (fun h => absurd h (by decide))
        refine ev_ldc k127_42 ?_
        refine ev_ireturn k127_44 ?_
        refine hQ _ _ _ _ ?_
        exact m_warm hJ hw (by omega) (by omega) (by omega) (by omega) (by omega) (by omega) (by omega) (by omega) (by omega) (fun h => ⟨J, rfl, rfl, hX⟩) (fun h J' fm => by exfalso; omega)
    · show Ev d 127 19 [some (vr 0), some (vi g), some (vi c), some (vi b), some (vi k), none] [vi 0] (SX I ch kd) Q
      refine ev_z_eq (t := 42) k127_19 rfl (by omega) (by omega) (fun _ => ?_) (fun h => absurd h (by decide))
      refine ev_ldc k127_42 ?_
      refine ev_ireturn k127_44 ?_
      refine hQ _ _ _ _ ?_
      exact m_warm hJ hw (by omega) (by omega) (by omega) (by omega) (by omega) (by omega) (by omega) (by omega) (by omega) (fun h => ⟨J, rfl, rfl, hX⟩) (fun h J' fm => by exfalso; omega)
  · show Ev d 127 8 [some (vr 0), some (vi g), some (vi c), some (vi b), some (vi k), none] [vi 0] (SX I ch kd) Q
    refine ev_z_eq (t := 42) k127_8 rfl (by omega) (by omega) (fun _ => ?_) (fun h => absurd h (by decide))
    refine ev_ldc k127_42 ?_
    refine ev_ireturn k127_44 ?_
    refine hQ _ _ _ _ ?_
    exact m_warm hJ hw (by omega) (by omega) (by omega) (by omega) (by omega) (by omega) (by omega) (by omega) (by omega) (fun h => ⟨J, rfl, rfl, hX⟩) (fun h J' fm => by exfalso; omega)

set_option maxHeartbeats 1000000 in
theorem s_chair {d e : Nat} {I : Nat → Int → Int} {ch : Int → Nat} {kd : Nat → Nat} {J : Nat → Int → Int} {Q : Option jV → jS → Prop} (hX : XR I ch kd J) {c x : Int} (ca : -2147483648 ≤ c) (cb : c < 2147483648) (xa : -2147483648 ≤ x) (xb : x < 2147483648) (hd : 13 ≤ d) (he : 13 ≤ e) (hQ : ∀ I' ch' kd' v, AN e 197 [vr 0, vi c, vi x] J v I' ch' kd' → Q (some (vi v)) (SX I' ch' kd')) : Cl d 122 [vr 0, vi c, vi x] (SX I ch kd) Q := by
  obtain ⟨hI, hJ, hN, hA, hO⟩ := id hX
  have hw := hN.2.2.1
  obtain ⟨⟨wa0, wa1⟩, ⟨wb0, wb1⟩, ⟨wc0, wc1⟩, wC, wG, wU⟩ := id hw
  refine ⟨by rw [l122]; exact Nat.le_of_ble_eq_true rfl, ?_⟩
  rw [l122]
  show Ev d 122 0 [some (vr 0), some (vi c), some (vi x), none] [] (SX I ch kd) Q
  refine ev_s1 (L' := [some (vr 0), some (vi c), some (vi x), none]) (S' := [vr 0]) k122_0 rfl rfl ?_
  refine ev_getR k122_1 (by decide) (rfl) (x_0_5 ch kd) ?_
  refine ev_s1 (L' := [some (vr 0), some (vi c), some (vi x), none]) (S' := [vi c, vr 13]) k122_4 rfl rfl ?_
  refine ev_virt (a := [vi c]) (S' := []) k122_5 rfl (Nat.le_of_ble_eq_true rfl) (by decide) (rfl) (by omega) ?_
  refine x_hasC hN hI (i := c) (by omega) (by omega) (fun h1 => ?_) (fun h1 => ?_)
  · show Ev d 122 8 [some (vr 0), some (vi c), some (vi x), none] [vi 1] (SX I ch kd) Q
    refine ev_z_ne (t := 14) k122_8 rfl (by omega) (by omega) (fun _ => ?_) (fun h => absurd h (by decide))
    refine ev_s1 (L' := [some (vr 0), some (vi c), some (vi x), none]) (S' := [vr 0]) k122_14 rfl rfl ?_
    refine ev_getR k122_15 (by decide) (rfl) (x_0_5 ch kd) ?_
    refine ev_getR k122_18 (by decide) (rfl) (x_13_1 ch kd) ?_
    refine ev_s1 (L' := [some (vr 0), some (vi c), some (vi x), none]) (S' := [vi c, vr 14]) k122_21 rfl rfl ?_
    have hc2 := hN.1.2.1 c (by omega) (by omega)
    have hl2 := (shp_c hc2.2).1
    have hb2 := hN.1.2.2.2 c (by omega) (by omega)
    refine ev_aald (q := ch c) k122_22 (by decide) (rfl) (by decide) (by decide) (by omega) (by omega) (rX14 (by omega) (by omega)) ?_
    refine ev_s1 (L' := [some (vr 0), some (vi c), some (vi x), some (vr (ch c))]) (S' := []) k122_23 rfl rfl ?_
    refine ev_s1 (L' := [some (vr 0), some (vi c), some (vi x), some (vr (ch c))]) (S' := [vi x]) k122_24 rfl rfl ?_
    rcases (show x = 0 ∨ x = 1 ∨ x = 2 ∨ x = 3 ∨ x = 4 ∨ (x < 0 ∨ 4 < x) by omega) with hs3 | hs3 | hs3 | hs3 | hs3 | hs3
    · refine ev_tsw (t := 60) k122_25 hs3 rfl ?_
      refine ev_s1 (L' := [some (vr 0), some (vi c), some (vi x), some (vr (ch c))]) (S' := [vr (ch c)]) k122_60 rfl rfl ?_
      refine ev_getI k122_61 (by omega) ((shp_c hc2.2).2) ?_
      show Ev d 122 64 [some (vr 0), some (vi c), some (vi x), some (vr (ch c))] [vi (I (ch c) 1)] (SX I ch kd) Q
      have rr4 := hI (ch c) 1
      rw [(hN.2.1.2.2.2.1 c (by omega) (by omega)).2.1]
      rw [(hN.2.1.2.2.2.1 c (by omega) (by omega)).2.1] at rr4
      refine ev_ireturn k122_64 ?_
      refine hQ _ _ _ _ ?_
      exact m_chair hJ hw (by omega) (by omega) (by omega) (by omega) (by omega) (fun h => by exfalso; omega) (fun h => ⟨J, by rw [if_neg (by omega), show 3 + 5 * c + 1 + x = 3 + 5 * c + 1 by omega], rfl, hX⟩)
    · refine ev_tsw (t := 65) k122_25 hs3 rfl ?_
      refine ev_s1 (L' := [some (vr 0), some (vi c), some (vi x), some (vr (ch c))]) (S' := [vr (ch c)]) k122_65 rfl rfl ?_
      refine ev_getI k122_66 (by omega) ((shp_c hc2.2).2) ?_
      show Ev d 122 69 [some (vr 0), some (vi c), some (vi x), some (vr (ch c))] [vi (I (ch c) 2)] (SX I ch kd) Q
      have rr5 := hI (ch c) 2
      rw [(hN.2.1.2.2.2.1 c (by omega) (by omega)).2.2.1]
      rw [(hN.2.1.2.2.2.1 c (by omega) (by omega)).2.2.1] at rr5
      refine ev_ireturn k122_69 ?_
      refine hQ _ _ _ _ ?_
      exact m_chair hJ hw (by omega) (by omega) (by omega) (by omega) (by omega) (fun h => by exfalso; omega) (fun h => ⟨J, by rw [if_neg (by omega), show 3 + 5 * c + 1 + x = 3 + 5 * c + 2 by omega], rfl, hX⟩)
    · refine ev_tsw (t := 70) k122_25 hs3 rfl ?_
      refine ev_s1 (L' := [some (vr 0), some (vi c), some (vi x), some (vr (ch c))]) (S' := [vr (ch c)]) k122_70 rfl rfl ?_
      refine ev_getI k122_71 (by omega) ((shp_c hc2.2).2) ?_
      show Ev d 122 74 [some (vr 0), some (vi c), some (vi x), some (vr (ch c))] [vi (I (ch c) 3)] (SX I ch kd) Q
      have rr6 := hI (ch c) 3
      rw [(hN.2.1.2.2.2.1 c (by omega) (by omega)).2.2.2.1]
      rw [(hN.2.1.2.2.2.1 c (by omega) (by omega)).2.2.2.1] at rr6
      refine ev_ireturn k122_74 ?_
      refine hQ _ _ _ _ ?_
      exact m_chair hJ hw (by omega) (by omega) (by omega) (by omega) (by omega) (fun h => by exfalso; omega) (fun h => ⟨J, by rw [if_neg (by omega), show 3 + 5 * c + 1 + x = 3 + 5 * c + 3 by omega], rfl, hX⟩)
    · refine ev_tsw (t := 75) k122_25 hs3 rfl ?_
      refine ev_s1 (L' := [some (vr 0), some (vi c), some (vi x), some (vr (ch c))]) (S' := [vr (ch c)]) k122_75 rfl rfl ?_
      refine ev_getI k122_76 (by omega) ((shp_c hc2.2).2) ?_
      show Ev d 122 79 [some (vr 0), some (vi c), some (vi x), some (vr (ch c))] [vi (I (ch c) 4)] (SX I ch kd) Q
      have rr7 := hI (ch c) 4
      rw [(hN.2.1.2.2.2.1 c (by omega) (by omega)).2.2.2.2.1]
      rw [(hN.2.1.2.2.2.1 c (by omega) (by omega)).2.2.2.2.1] at rr7
      refine ev_ireturn k122_79 ?_
      refine hQ _ _ _ _ ?_
      exact m_chair hJ hw (by omega) (by omega) (by omega) (by omega) (by omega) (fun h => by exfalso; omega) (fun h => ⟨J, by rw [if_neg (by omega), show 3 + 5 * c + 1 + x = 3 + 5 * c + 4 by omega], rfl, hX⟩)
    · refine ev_tsw (t := 80) k122_25 hs3 rfl ?_
      refine ev_s1 (L' := [some (vr 0), some (vi c), some (vi x), some (vr (ch c))]) (S' := [vr (ch c)]) k122_80 rfl rfl ?_
      refine ev_getI k122_81 (by omega) ((shp_c hc2.2).2) ?_
      show Ev d 122 84 [some (vr 0), some (vi c), some (vi x), some (vr (ch c))] [vi (I (ch c) 5)] (SX I ch kd) Q
      have rr8 := hI (ch c) 5
      rw [(hN.2.1.2.2.2.1 c (by omega) (by omega)).2.2.2.2.2]
      rw [(hN.2.1.2.2.2.1 c (by omega) (by omega)).2.2.2.2.2] at rr8
      refine ev_ireturn k122_84 ?_
      refine hQ _ _ _ _ ?_
      exact m_chair hJ hw (by omega) (by omega) (by omega) (by omega) (by omega) (fun h => by exfalso; omega) (fun h => ⟨J, by rw [if_pos (by omega)], rfl, hX⟩)
    · refine ev_tsd (t := 85) k122_25 (by omega) (by omega) hs3 rfl ?_
      refine ev_ldc k122_85 ?_
      refine ev_ireturn k122_87 ?_
      refine hQ _ _ _ _ ?_
      exact m_chair hJ hw (by omega) (by omega) (by omega) (by omega) (by omega) (fun h => ⟨J, rfl, rfl, hX⟩) (fun h => by exfalso; omega)
  · show Ev d 122 8 [some (vr 0), some (vi c), some (vi x), none] [vi 0] (SX I ch kd) Q
    refine ev_z_ne (t := 14) k122_8 rfl (by omega) (by omega) (fun h => absurd h (by decide)) (fun _ => ?_)
    refine ev_ldc k122_11 ?_
    refine ev_ireturn k122_13 ?_
    refine hQ _ _ _ _ ?_
    exact m_chair hJ hw (by omega) (by omega) (by omega) (by omega) (by omega) (fun h => ⟨J, rfl, rfl, hX⟩) (fun h => by exfalso; omega)

set_option maxHeartbeats 1000000 in
theorem s_guest {d e : Nat} {I : Nat → Int → Int} {ch : Int → Nat} {kd : Nat → Nat} {J : Nat → Int → Int} {Q : Option jV → jS → Prop} (hX : XR I ch kd J) {g x : Int} (ga : -2147483648 ≤ g) (gb : g < 2147483648) (xa : -2147483648 ≤ x) (xb : x < 2147483648) (hd : 13 ≤ d) (he : 13 ≤ e) (hQ : ∀ I' ch' kd' v, AN e 198 [vr 0, vi g, vi x] J v I' ch' kd' → Q (some (vi v)) (SX I' ch' kd')) : Cl d 123 [vr 0, vi g, vi x] (SX I ch kd) Q := by
  obtain ⟨hI, hJ, hN, hA, hO⟩ := id hX
  have hw := hN.2.2.1
  obtain ⟨⟨wa0, wa1⟩, ⟨wb0, wb1⟩, ⟨wc0, wc1⟩, wC, wG, wU⟩ := id hw
  refine ⟨by rw [l123]; exact Nat.le_of_ble_eq_true rfl, ?_⟩
  rw [l123]
  show Ev d 123 0 [some (vr 0), some (vi g), some (vi x)] [] (SX I ch kd) Q
  refine ev_s1 (L' := [some (vr 0), some (vi g), some (vi x)]) (S' := [vr 0]) k123_0 rfl rfl ?_
  refine ev_getR k123_1 (by decide) (rfl) (x_0_5 ch kd) ?_
  refine ev_s1 (L' := [some (vr 0), some (vi g), some (vi x)]) (S' := [vi g, vr 13]) k123_4 rfl rfl ?_
  refine ev_virt (a := [vi g]) (S' := []) k123_5 rfl (Nat.le_of_ble_eq_true rfl) (by decide) (rfl) (by omega) ?_
  refine x_hasG hN hI (i := g) (by omega) (by omega) (fun h1 => ?_) (fun h1 => ?_)
  · show Ev d 123 8 [some (vr 0), some (vi g), some (vi x)] [vi 1] (SX I ch kd) Q
    refine ev_z_ne (t := 14) k123_8 rfl (by omega) (by omega) (fun _ => ?_) (fun h => absurd h (by decide))
    refine ev_s1 (L' := [some (vr 0), some (vi g), some (vi x)]) (S' := [vi x]) k123_14 rfl rfl ?_
    rcases (show x = 0 ∨ x = 1 ∨ x = 2 ∨ x = 3 ∨ (x < 0 ∨ 3 < x) by omega) with hs2 | hs2 | hs2 | hs2 | hs2
    · refine ev_tsw (t := 44) k123_15 hs2 rfl ?_
      refine ev_s1 (L' := [some (vr 0), some (vi g), some (vi x)]) (S' := [vr 0]) k123_44 rfl rfl ?_
      refine ev_getR k123_45 (by decide) (rfl) (x_0_5 ch kd) ?_
      refine ev_getR k123_48 (by decide) (rfl) (x_13_2 ch kd) ?_
      refine ev_s1 (L' := [some (vr 0), some (vi g), some (vi x)]) (S' := [vi g, vr 15]) k123_51 rfl rfl ?_
      refine ev_iald k123_52 (by decide) (rfl) (by omega) (by omega) ?_
      have rr3 := hI 15 g
      rw [(hN.2.1.2.2.2.2 g (by omega) (by omega)).1]
      rw [(hN.2.1.2.2.2.2 g (by omega) (by omega)).1] at rr3
      refine ev_ireturn k123_53 ?_
      refine hQ _ _ _ _ ?_
      exact m_guest hJ hw (by omega) (by omega) (by omega) (by omega) (by omega) (fun h => by exfalso; omega) (fun h h2 => ⟨J, rfl, rfl, hX⟩) (fun h h2 => by exfalso; omega) (fun h h2 => by exfalso; omega) (fun h h2 => by exfalso; omega)
    · refine ev_tsw (t := 54) k123_15 hs2 rfl ?_
      refine ev_s1 (L' := [some (vr 0), some (vi g), some (vi x)]) (S' := [vr 0]) k123_54 rfl rfl ?_
      refine ev_getR k123_55 (by decide) (rfl) (x_0_5 ch kd) ?_
      refine ev_getR k123_58 (by decide) (rfl) (x_13_3 ch kd) ?_
      refine ev_s1 (L' := [some (vr 0), some (vi g), some (vi x)]) (S' := [vi g, vr 16]) k123_61 rfl rfl ?_
      refine ev_iald k123_62 (by decide) (rfl) (by omega) (by omega) ?_
      have rr4 := hI 16 g
      rw [(hN.2.1.2.2.2.2 g (by omega) (by omega)).2.1]
      rw [(hN.2.1.2.2.2.2 g (by omega) (by omega)).2.1] at rr4
      refine ev_ireturn k123_63 ?_
      refine hQ _ _ _ _ ?_
      exact m_guest hJ hw (by omega) (by omega) (by omega) (by omega) (by omega) (fun h => by exfalso; omega) (fun h h2 => by exfalso; omega) (fun h h2 => ⟨J, rfl, rfl, hX⟩) (fun h h2 => by exfalso; omega) (fun h h2 => by exfalso; omega)
    · refine ev_tsw (t := 64) k123_15 hs2 rfl ?_
      refine ev_s1 (L' := [some (vr 0), some (vi g), some (vi x)]) (S' := [vr 0]) k123_64 rfl rfl ?_
      refine ev_getR k123_65 (by decide) (rfl) (x_0_5 ch kd) ?_
      refine ev_getR k123_68 (by decide) (rfl) (x_13_4 ch kd) ?_
      refine ev_s1 (L' := [some (vr 0), some (vi g), some (vi x)]) (S' := [vi g, vr 17]) k123_71 rfl rfl ?_
      refine ev_iald k123_72 (by decide) (rfl) (by omega) (by omega) ?_
      have rr5 := hI 17 g
      rw [(hN.2.1.2.2.2.2 g (by omega) (by omega)).2.2.1]
      rw [(hN.2.1.2.2.2.2 g (by omega) (by omega)).2.2.1] at rr5
      refine ev_ireturn k123_73 ?_
      refine hQ _ _ _ _ ?_
      exact m_guest hJ hw (by omega) (by omega) (by omega) (by omega) (by omega) (fun h => by exfalso; omega) (fun h h2 => by exfalso; omega) (fun h h2 => by exfalso; omega) (fun h h2 => ⟨J, rfl, rfl, hX⟩) (fun h h2 => by exfalso; omega)
    · refine ev_tsw (t := 74) k123_15 hs2 rfl ?_
      refine ev_s1 (L' := [some (vr 0), some (vi g), some (vi x)]) (S' := [vr 0]) k123_74 rfl rfl ?_
      refine ev_getR k123_75 (by decide) (rfl) (x_0_5 ch kd) ?_
      refine ev_getR k123_78 (by decide) (rfl) (x_13_5 ch kd) ?_
      refine ev_s1 (L' := [some (vr 0), some (vi g), some (vi x)]) (S' := [vi g, vr 18]) k123_81 rfl rfl ?_
      refine ev_iald k123_82 (by decide) (rfl) (by omega) (by omega) ?_
      have rr6 := hI 18 g
      rw [(hN.2.1.2.2.2.2 g (by omega) (by omega)).2.2.2]
      rw [(hN.2.1.2.2.2.2 g (by omega) (by omega)).2.2.2] at rr6
      refine ev_ireturn k123_83 ?_
      refine hQ _ _ _ _ ?_
      exact m_guest hJ hw (by omega) (by omega) (by omega) (by omega) (by omega) (fun h => by exfalso; omega) (fun h h2 => by exfalso; omega) (fun h h2 => by exfalso; omega) (fun h h2 => by exfalso; omega) (fun h h2 => ⟨J, rfl, rfl, hX⟩)
    · refine ev_tsd (t := 84) k123_15 (by omega) (by omega) hs2 rfl ?_
      refine ev_ldc k123_84 ?_
      refine ev_ireturn k123_86 ?_
      refine hQ _ _ _ _ ?_
      exact m_guest hJ hw (by omega) (by omega) (by omega) (by omega) (by omega) (fun h => ⟨J, rfl, rfl, hX⟩) (fun h h2 => by exfalso; omega) (fun h h2 => by exfalso; omega) (fun h h2 => by exfalso; omega) (fun h h2 => by exfalso; omega)
  · show Ev d 123 8 [some (vr 0), some (vi g), some (vi x)] [vi 0] (SX I ch kd) Q
    refine ev_z_ne (t := 14) k123_8 rfl (by omega) (by omega) (fun h => absurd h (by decide)) (fun _ => ?_)
    refine ev_ldc k123_11 ?_
    refine ev_ireturn k123_13 ?_
    refine hQ _ _ _ _ ?_
    exact m_guest hJ hw (by omega) (by omega) (by omega) (by omega) (by omega) (fun h => ⟨J, rfl, rfl, hX⟩) (fun h h2 => by exfalso; omega) (fun h h2 => by exfalso; omega) (fun h h2 => by exfalso; omega) (fun h h2 => by exfalso; omega)

set_option maxHeartbeats 1000000 in
theorem s_peace {d e : Nat} {I : Nat → Int → Int} {ch : Int → Nat} {kd : Nat → Nat} {J : Nat → Int → Int} {Q : Option jV → jS → Prop} (hX : XR I ch kd J) (hd : 13 ≤ d) (he : 13 ≤ e) (hQ : ∀ I' ch' kd' v, AN e 199 [vr 0] J v I' ch' kd' → Q (some (vi v)) (SX I' ch' kd')) : Cl d 124 [vr 0] (SX I ch kd) Q := by
  obtain ⟨hI, hJ, hN, hA, hO⟩ := id hX
  have hw := hN.2.2.1
  obtain ⟨⟨wa0, wa1⟩, ⟨wb0, wb1⟩, ⟨wc0, wc1⟩, wC, wG, wU⟩ := id hw
  refine ⟨by rw [l124]; exact Nat.le_of_ble_eq_true rfl, ?_⟩
  rw [l124]
  show Ev d 124 0 [some (vr 0)] [] (SX I ch kd) Q
  refine ev_s1 (L' := [some (vr 0)]) (S' := [vr 0]) k124_0 rfl rfl ?_
  refine ev_getR k124_1 (by decide) (rfl) (x_0_5 ch kd) ?_
  refine ev_virt (a := []) (S' := []) k124_4 rfl (Nat.le_of_ble_eq_true rfl) (by decide) (rfl) (by omega) ?_
  refine x_stands hN hI (fun h1 => ?_) (fun h1 => ?_)
  · show Ev d 124 7 [some (vr 0)] [vi 1] (SX I ch kd) Q
    refine ev_z_eq (t := 20) k124_7 rfl (by omega) (by omega) (fun h => absurd h (by decide)) (fun _ => ?_)
    refine ev_s1 (L' := [some (vr 0)]) (S' := [vr 0]) k124_10 rfl rfl ?_
    refine ev_getR k124_11 (by decide) (rfl) (x_0_5 ch kd) ?_
    refine ev_virt (a := []) (S' := []) k124_14 rfl (Nat.le_of_ble_eq_true rfl) (by decide) (rfl) (by omega) ?_
    refine g_peace hN.1 hI hN.2.1 hN.2.2.1 (by omega) (?_)
    show Ev d 124 17 [some (vr 0)] [vi (peW (J 6))] (SX I ch kd) Q
    refine ev_goto (t := 22) k124_17 rfl ?_
    refine ev_ireturn k124_22 ?_
    refine hQ _ _ _ _ ?_
    exact m_peacep hJ hw (by omega) (fun h => by exfalso; omega) (fun h => ⟨J, rfl, rfl, hX⟩)
  · show Ev d 124 7 [some (vr 0)] [vi 0] (SX I ch kd) Q
    refine ev_z_eq (t := 20) k124_7 rfl (by omega) (by omega) (fun _ => ?_) (fun h => absurd h (by decide))
    refine ev_ldc k124_20 ?_
    refine ev_ireturn k124_22 ?_
    refine hQ _ _ _ _ ?_
    exact m_peacep hJ hw (by omega) (fun h => ⟨J, rfl, rfl, hX⟩) (fun h => by exfalso; omega)

set_option maxHeartbeats 1000000 in
theorem s_kind {d e : Nat} {I : Nat → Int → Int} {ch : Int → Nat} {kd : Nat → Nat} {J : Nat → Int → Int} {Q : Option jV → jS → Prop} (hX : XR I ch kd J) {c : Int} (ca : -2147483648 ≤ c) (cb : c < 2147483648) (hd : 13 ≤ d) (he : 13 ≤ e) (hQ : ∀ I' ch' kd' v, AN e 217 [vr 0, vi c] J v I' ch' kd' → Q (some (vi v)) (SX I' ch' kd')) : Cl d 137 [vr 0, vi c] (SX I ch kd) Q := by
  obtain ⟨hI, hJ, hN, hA, hO⟩ := id hX
  have hw := hN.2.2.1
  obtain ⟨⟨wa0, wa1⟩, ⟨wb0, wb1⟩, ⟨wc0, wc1⟩, wC, wG, wU⟩ := id hw
  refine ⟨by rw [l137]; exact Nat.le_of_ble_eq_true rfl, ?_⟩
  rw [l137]
  show Ev d 137 0 [some (vr 0), some (vi c)] [] (SX I ch kd) Q
  refine ev_s1 (L' := [some (vr 0), some (vi c)]) (S' := [vr 0]) k137_0 rfl rfl ?_
  refine ev_getR k137_1 (by decide) (rfl) (x_0_5 ch kd) ?_
  refine ev_s1 (L' := [some (vr 0), some (vi c)]) (S' := [vi c, vr 13]) k137_4 rfl rfl ?_
  refine ev_virt (a := [vi c]) (S' := []) k137_5 rfl (Nat.le_of_ble_eq_true rfl) (by decide) (rfl) (by omega) ?_
  refine x_hasC hN hI (i := c) (by omega) (by omega) (fun h1 => ?_) (fun h1 => ?_)
  · show Ev d 137 8 [some (vr 0), some (vi c)] [vi 1] (SX I ch kd) Q
    refine ev_z_eq (t := 29) k137_8 rfl (by omega) (by omega) (fun h => absurd h (by decide)) (fun _ => ?_)
    refine ev_s1 (L' := [some (vr 0), some (vi c)]) (S' := [vr 0]) k137_11 rfl rfl ?_
    refine ev_getR k137_12 (by decide) (rfl) (x_0_5 ch kd) ?_
    refine ev_getR k137_15 (by decide) (rfl) (x_13_1 ch kd) ?_
    refine ev_s1 (L' := [some (vr 0), some (vi c)]) (S' := [vi c, vr 14]) k137_18 rfl rfl ?_
    have hc2 := hN.1.2.1 c (by omega) (by omega)
    have hl2 := (shp_c hc2.2).1
    have hb2 := hN.1.2.2.2 c (by omega) (by omega)
    refine ev_aald (q := ch c) k137_19 (by decide) (rfl) (by decide) (by decide) (by omega) (by omega) (rX14 (by omega) (by omega)) ?_
    refine ev_getR k137_20 (by omega) ((shp_c hc2.2).2) (rX_c hc2.2) ?_
    have kb := hN.2.2.2 c (by omega) (by omega)
    have key : Ev d 137 26 [some (vr 0), some (vi c)] [vi ((kd (ch c) : Int) - 7)] (SX I ch kd) Q := by
      refine ev_goto (t := 31) k137_26 rfl ?_
      refine ev_ireturn k137_31 ?_
      have kc := (hN.2.1.2.2.2.1 c (by omega) (by omega)).1
      refine hQ _ _ _ _ ?_
      exact m_kind hJ hw (by omega) (by omega) (by omega) (fun h => by exfalso; omega) (fun h => ⟨J, by rw [show (kd (ch c) : Int) - 7 = J 6 (3 + 5 * c) by omega], rfl, hX⟩)
    rcases (show kd (ch c) = 8 ∨ kd (ch c) = 9 ∨ kd (ch c) = 10 ∨ kd (ch c) = 11 ∨ kd (ch c) = 12 by omega) with hk | hk | hk | hk | hk
    · refine ev_virt (k := kd (ch c)) (a := []) (S' := []) k137_23_5 rfl (Nat.le_of_ble_eq_true rfl) (by omega) (by rw [hk]; rfl) (by omega) ?_
      exact c_num1 (by rw [hk] at key; exact key)
    · refine ev_virt (k := kd (ch c)) (a := []) (S' := []) k137_23_7 rfl (Nat.le_of_ble_eq_true rfl) (by omega) (by rw [hk]; rfl) (by omega) ?_
      exact c_num2 (by rw [hk] at key; exact key)
    · refine ev_virt (k := kd (ch c)) (a := []) (S' := []) k137_23_0 rfl (Nat.le_of_ble_eq_true rfl) (by omega) (by rw [hk]; rfl) (by omega) ?_
      exact c_num3 (by rw [hk] at key; exact key)
    · refine ev_virt (k := kd (ch c)) (a := []) (S' := []) k137_23_9 rfl (Nat.le_of_ble_eq_true rfl) (by omega) (by rw [hk]; rfl) (by omega) ?_
      exact c_num4 (by rw [hk] at key; exact key)
    · refine ev_virt (k := kd (ch c)) (a := []) (S' := []) k137_23_2 rfl (Nat.le_of_ble_eq_true rfl) (by omega) (by rw [hk]; rfl) (by omega) ?_
      exact c_num5 (by rw [hk] at key; exact key)
  · show Ev d 137 8 [some (vr 0), some (vi c)] [vi 0] (SX I ch kd) Q
    refine ev_z_eq (t := 29) k137_8 rfl (by omega) (by omega) (fun _ => ?_) (fun h => absurd h (by decide))
    refine ev_ldc k137_29 ?_
    refine ev_ireturn k137_31 ?_
    refine hQ _ _ _ _ ?_
    exact m_kind hJ hw (by omega) (by omega) (by omega) (fun h => ⟨J, rfl, rfl, hX⟩) (fun h => by exfalso; omega)

set_option maxHeartbeats 1000000 in
theorem s_status {d e : Nat} {I : Nat → Int → Int} {ch : Int → Nat} {kd : Nat → Nat} {J : Nat → Int → Int} {Q : Option jV → jS → Prop} (hX : XR I ch kd J) (hd : 13 ≤ d) (he : 13 ≤ e) (hQ : ∀ I' ch' kd' v, AN e 229 [vr 0] J v I' ch' kd' → Q (some (vi v)) (SX I' ch' kd')) : Cl d 142 [vr 0] (SX I ch kd) Q := by
  obtain ⟨hI, hJ, hN, hA, hO⟩ := id hX
  have hw := hN.2.2.1
  obtain ⟨⟨wa0, wa1⟩, ⟨wb0, wb1⟩, ⟨wc0, wc1⟩, wC, wG, wU⟩ := id hw
  refine ⟨by rw [l142]; exact Nat.le_of_ble_eq_true rfl, ?_⟩
  rw [l142]
  show Ev d 142 0 [some (vr 0)] [] (SX I ch kd) Q
  refine ev_s1 (L' := [some (vr 0)]) (S' := [vr 0]) k142_0 rfl rfl ?_
  refine ev_getI k142_1 (by decide) (rfl) ?_
  show Ev d 142 4 [some (vr 0)] [vi (I 0 11)] (SX I ch kd) Q
  have rr1 := hI 0 11
  refine ev_ireturn k142_4 ?_
  rw [hO.2.1.1]
  refine hQ _ _ _ _ ?_
  exact m_status hJ (⟨J, rfl, rfl, hX⟩)

set_option maxHeartbeats 1000000 in
theorem s_fault {d e : Nat} {I : Nat → Int → Int} {ch : Int → Nat} {kd : Nat → Nat} {J : Nat → Int → Int} {Q : Option jV → jS → Prop} (hX : XR I ch kd J) (hd : 13 ≤ d) (he : 13 ≤ e) (hQ : ∀ I' ch' kd' v, AN e 180 [vr 0] J v I' ch' kd' → Q (some (vi v)) (SX I' ch' kd')) : Cl d 116 [vr 0] (SX I ch kd) Q := by
  obtain ⟨hI, hJ, hN, hA, hO⟩ := id hX
  have hw := hN.2.2.1
  obtain ⟨⟨wa0, wa1⟩, ⟨wb0, wb1⟩, ⟨wc0, wc1⟩, wC, wG, wU⟩ := id hw
  refine ⟨by rw [l116]; exact Nat.le_of_ble_eq_true rfl, ?_⟩
  rw [l116]
  show Ev d 116 0 [some (vr 0)] [] (SX I ch kd) Q
  refine ev_s1 (L' := [some (vr 0)]) (S' := [vr 0]) k116_0 rfl rfl ?_
  refine ev_getI k116_1 (by decide) (rfl) ?_
  show Ev d 116 4 [some (vr 0)] [vi (I 0 10)] (SX I ch kd) Q
  have rr1 := hI 0 10
  refine ev_ireturn k116_4 ?_
  rw [hO.2.1.2]
  refine hQ _ _ _ _ ?_
  exact m_fault hJ (⟨J, rfl, rfl, hX⟩)

set_option maxHeartbeats 1000000 in
theorem s_trace {d e : Nat} {I : Nat → Int → Int} {ch : Int → Nat} {kd : Nat → Nat} {J : Nat → Int → Int} {Q : Option jV → jS → Prop} (hX : XR I ch kd J) {i : Int} (ia : -2147483648 ≤ i) (ib : i < 2147483648) (hd : 13 ≤ d) (he : 13 ≤ e) (hQ : ∀ I' ch' kd' v, AN e 225 [vr 0, vi i] J v I' ch' kd' → Q (some (vi v)) (SX I' ch' kd')) : Cl d 140 [vr 0, vi i] (SX I ch kd) Q := by
  obtain ⟨hI, hJ, hN, hA, hO⟩ := id hX
  have hw := hN.2.2.1
  obtain ⟨⟨wa0, wa1⟩, ⟨wb0, wb1⟩, ⟨wc0, wc1⟩, wC, wG, wU⟩ := id hw
  refine ⟨by rw [l140]; exact Nat.le_of_ble_eq_true rfl, ?_⟩
  rw [l140]
  show Ev d 140 0 [some (vr 0), some (vi i)] [] (SX I ch kd) Q
  refine ev_s1 (L' := [some (vr 0), some (vi i)]) (S' := [vr 0]) k140_0 rfl rfl ?_
  refine ev_getR k140_1 (by decide) (rfl) (x_0_2 ch kd) ?_
  refine ev_s1 (L' := [some (vr 0), some (vi i)]) (S' := [vi i, vr 3]) k140_4 rfl rfl ?_
  refine ev_virt (a := [vi i]) (S' := []) k140_5 rfl (Nat.le_of_ble_eq_true rfl) (by decide) (rfl) (by omega) ?_
  refine c_numberAt ln3 hI (i := i) (by omega) (by omega) (by have := hO.2.2.2.2.1; unfold TRC at this; omega) (fun h h2 => ?_) (fun h => ?_)
  · show Ev d 140 8 [some (vr 0), some (vi i)] [vi (I 4 i)] (SX I ch kd) Q
    refine ev_ireturn k140_8 ?_
    have ht := hO.2.2.2.2.1
    unfold TRC at ht
    rw [ht.2.2 i (by omega) (by omega)]
    refine hQ _ _ _ _ ?_
    exact m_trace hJ (by omega) (by omega) ht.2.1.1 ht.2.1.2 (by omega) (fun q => ⟨J, rfl, rfl, hX⟩) (fun q => by exfalso; omega)
  · show Ev d 140 8 [some (vr 0), some (vi i)] [vi (-1000000)] (SX I ch kd) Q
    refine ev_ireturn k140_8 ?_
    have ht := hO.2.2.2.2.1
    unfold TRC at ht
    refine hQ _ _ _ _ ?_
    exact m_trace hJ (by omega) (by omega) ht.2.1.1 ht.2.1.2 (by omega) (fun q => by exfalso; omega) (fun q => ⟨J, rfl, rfl, hX⟩)
