def updF (f : Int → Int) (k v : Int) : Int → Int := fun b => if b = k then v else f b
def cutW (f : Int → Int) (a : Int) : Int → Int := fun b => if 0 ≤ b ∧ b < 48 then f (a + b) else 0
theorem cp_cut {J : Nat → Int → Int} (hz : ZR J) {f : Int → Int} {a : Int} {t : Nat} (t0 : 6 ≤ t ∧ t ≤ 8) : cpW f a (J t) 0 48 = cutW f a := by
  funext x
  unfold cpW cutW
  by_cases q : 0 ≤ x ∧ x < 48
  · rw [if_pos (by omega), if_pos q, show a + (x - 0) = a + x by omega]
  · rw [if_neg (by omega), if_neg q, hz t t0.1 t0.2 x (by omega)]
theorem nt_lt {f w : Int → Int} {n i : Int} (hz : ∀ x : Int, (x < 0 ∨ 48 ≤ x) → w x = 0) (i1 : i ≤ n) : cutW (cpW w 0 f (48 * n) 48) (48 * i) = if i = n then w else cutW f (48 * i) := by
  funext b
  unfold cutW cpW
  by_cases q : i = n
  · rw [if_pos q]
    by_cases hb : 0 ≤ b ∧ b < 48
    · rw [if_pos hb, if_pos (by omega), show 0 + (48 * i + b - 48 * n) = b by omega]
    · rw [if_neg hb, hz b (by omega)]
  · rw [if_neg q]
    by_cases hb : 0 ≤ b ∧ b < 48
    · rw [if_pos hb, if_neg (by omega), if_pos hb]
    · rw [if_neg hb, if_neg hb]
def shF (f : Int → Int) (i : Int) : Int → Int := fun b => if 0 ≤ b ∧ b < i then f (b + 48) else f b
theorem cut_sh {f : Int → Int} {i : Int} (i0 : 0 ≤ i) (i1 : i < 23) : cutW (shF f 1104) (48 * i) = cutW f (48 * (i + 1)) := by
  funext b
  unfold cutW shF
  by_cases hb : 0 ≤ b ∧ b < 48
  · rw [if_pos hb, if_pos (by omega), if_pos hb, show 48 * i + b + 48 = 48 * (i + 1) + b by omega]
  · rw [if_neg hb, if_neg hb]
/-- an act is noted -/
def NTM (J J' : Nat → Int → Int) : Prop := J' 0 17 = (if J 0 17 = 24 then 24 else J 0 17 + 1) ∧ ∀ i, 0 ≤ i → i < J' 0 17 → cutW (J' 9) (48 * i) = if i = J' 0 17 - 1 then J 6 else cutW (J 9) (48 * (if J 0 17 = 24 then i + 1 else i))
theorem NTM.fr {J J' K : Nat → Int → Int} (h : NTM J J') (h0 : K 0 17 = J' 0 17) (h9 : K 9 = J' 9) : NTM J K := by
  unfold NTM at h ⊢
  rw [h0, h9]
  exact h
/-- behind an act the room is u -/
def ACT (J J' : Nat → Int → Int) (u : Int → Int) : Prop := RZ J' ∧ J' 6 = u ∧ NTM J J' ∧ (∀ b, b ≠ 17 → J' 0 b = J 0 b) ∧ ∀ a, (a ≠ 0 ∧ a ≠ 6 ∧ a ≠ 9) → J' a = J a
/-- rows: lanes, how many, items -/
def ROM (J J' : Nat → Int → Int) (l m f : Int → Int) : Prop := RZ J' ∧ J' 0 4 = 0 ∧ (∀ b, b ≠ 4 → J' 0 b = J 0 b) ∧ J' 1 = l ∧ J' 2 = m ∧ J' 3 = f ∧ ∀ a, (a ≠ 0 ∧ a ≠ 1 ∧ a ≠ 2 ∧ a ≠ 3 ∧ a ≠ 4) → J' a = J a

set_option maxHeartbeats 1000000 in
theorem m_rowz {d : Nat} {K : Nat → Int → Int} {Q : Option jV → jS → Prop} {r l m : Int} (r0 : 0 ≤ r) (r7 : r ≤ 7) (hE : ∀ (J' : Nat → Int → Int) (x : Option jV), RZ J' → (∀ b, J' 3 b = if 40 * r ≤ b ∧ b < 40 * r + 40 then 0 else K 3 b) → (∀ a, a ≠ 3 → J' a = K a) → Ev d 163 78 [some (vr 0), some (vi r), some (vi l), some (vi m), x] [] (SM J') Q) : ∀ (n : Nat) (J : Nat → Int → Int) (i : Nat), RZ J → 40 - (i : Int) < n → i ≤ 40 → (∀ b, J 3 b = if 40 * r ≤ b ∧ b < 40 * r + (i : Int) then 0 else K 3 b) → (∀ a, a ≠ 3 → J a = K a) → Ev d 163 52 [some (vr 0), some (vi r), some (vi l), some (vi m), some (vi (i : Int))] [] (SM J) Q := by
  intro n
  induction n with
  | zero =>
    intro J i hJ hi hi2 hz hF0
    exfalso; omega
  | succ n ih =>
    intro J i hJ hi hi2 hz hF0
    refine ev_s1 (L' := [some (vr 0), some (vi r), some (vi l), some (vi m), some (vi (i : Int))]) (S' := [vi (i : Int)]) k163_52 rfl rfl ?_
    refine ev_s1 (L' := [some (vr 0), some (vi r), some (vi l), some (vi m), some (vi (i : Int))]) (S' := [vi 40, vi (i : Int)]) k163_54 rfl rfl ?_
    refine ev_c_ge (t := 78) k163_56 rfl (by omega) (by omega) (by omega) (by omega) (fun h1 => ?_) (fun h1 => ?_)
    · rw [show i = 40 by omega] at hz
      exact hE _ _ hJ hz hF0
    · refine ev_s1 (L' := [some (vr 0), some (vi r), some (vi l), some (vi m), some (vi (i : Int))]) (S' := [vr 0]) k163_59 rfl rfl ?_
      refine ev_getR k163_60 (by decide) (rfl) (y_0_2) ?_
      refine ev_s1 (L' := [some (vr 0), some (vi r), some (vi l), some (vi m), some (vi (i : Int))]) (S' := [vi 40, vr 3]) k163_63 rfl rfl ?_
      refine ev_s1 (L' := [some (vr 0), some (vi r), some (vi l), some (vi m), some (vi (i : Int))]) (S' := [vi r, vi 40, vr 3]) k163_65 rfl rfl ?_
      refine ev_s1 (L' := [some (vr 0), some (vi r), some (vi l), some (vi m), some (vi (i : Int))]) (S' := [vi (40 * r), vr 3]) k163_66 rfl rfl ?_
      refine ev_s1 (L' := [some (vr 0), some (vi r), some (vi l), some (vi m), some (vi (i : Int))]) (S' := [vi (i : Int), vi (40 * r), vr 3]) k163_67 rfl rfl ?_
      refine ev_s1 (L' := [some (vr 0), some (vi r), some (vi l), some (vi m), some (vi (i : Int))]) (S' := [vi ((40 * r) + (i : Int)), vr 3]) k163_69 rfl rfl ?_
      refine ev_s1 (L' := [some (vr 0), some (vi r), some (vi l), some (vi m), some (vi (i : Int))]) (S' := [vi 0, vi ((40 * r) + (i : Int)), vr 3]) k163_70 rfl rfl ?_
      refine ev_iast k163_71 (by decide) (rfl) (by omega) (by omega) ?_
      show Ev d 163 72 [some (vr 0), some (vi r), some (vi l), some (vi m), some (vi (i : Int))] [] (SM (up J 3 ((40 * r) + (i : Int)) 0)) Q
      have hJ2 := rz_up hJ (k := 3) (j := (40 * r) + (i : Int)) (z := 0) (by omega) (by omega) (by omega)
      have g2 : ∀ aa, aa ≠ 3 → up J 3 ((40 * r) + (i : Int)) 0 aa = J aa := fun aa h => upf h
      have q2 : ∀ bb, bb ≠ (40 * r) + (i : Int) → up J 3 ((40 * r) + (i : Int)) 0 3 bb = J 3 bb := fun bb h => upN (Or.inr h)
      have e2 : up J 3 ((40 * r) + (i : Int)) 0 3 ((40 * r) + (i : Int)) = 0 := upE rfl rfl
      generalize up J 3 ((40 * r) + (i : Int)) 0 = J2 at hJ2 g2 q2 e2 ⊢
      refine ev_s1 (L' := [some (vr 0), some (vi r), some (vi l), some (vi m), some (vi ((i : Int) + 1))]) (S' := []) k163_72 rfl rfl ?_
      refine ev_goto (t := 52) k163_75 rfl ?_
      refine ih J2 (i + 1) hJ2 (by omega) (by omega) (fun b => ?_) (fun a a3 => ((g2 a (by assumption)).trans (hF0 a a3)))
      by_cases q : b = 40 * r + (i : Int)
      · rw [q, e2, if_pos (by omega)]
      · rw [q2 b q, hz b]
        by_cases q2 : 40 * r ≤ b ∧ b < 40 * r + (i : Int)
        · rw [if_pos q2, if_pos (by omega)]
        · rw [if_neg q2, if_neg (by omega)]

set_option maxHeartbeats 1000000 in
theorem m_row {d : Nat} {J : Nat → Int → Int} {Q : Option jV → jS → Prop} (hJ : RZ J) {r l n : Int} (ra : -2147483648 ≤ r) (rb : r < 2147483648) (la : -2147483648 ≤ l) (lb : l < 2147483648) (na : -2147483648 ≤ n) (nb : n < 2147483648) (hd : 2 ≤ d) (hB : ¬ ((0 ≤ r ∧ r ≤ 7) ∧ (0 ≤ l ∧ l ≤ 2) ∧ n ≤ 40) → Q (some (vi (-1000001))) (SM J)) (hx4 : ((0 ≤ r ∧ r ≤ 7) ∧ (0 ≤ l ∧ l ≤ 2) ∧ n ≤ 40) → n < 0 → ∀ J', SM4 J J' 4 → Q (some (vi (-1000010 - 4))) (SM J')) (hQ : ((0 ≤ r ∧ r ≤ 7) ∧ (0 ≤ l ∧ l ≤ 2) ∧ n ≤ 40) → 0 ≤ n → ∀ J', ROM J J' (updF (J 1) r l) (updF (J 2) r n) (fun b => if 40 * r ≤ b ∧ b < 40 * r + 40 then 0 else J 3 b) → Q (some (vi n)) (SM J')) : Cl d 163 [vr 0, vi r, vi l, vi n] (SM J) Q := by
  refine ⟨by rw [l163]; exact Nat.le_of_ble_eq_true rfl, ?_⟩
  rw [l163]
  show Ev d 163 0 [some (vr 0), some (vi r), some (vi l), some (vi n), none] [] (SM J) Q
  refine ev_s1 (L' := [some (vr 0), some (vi r), some (vi l), some (vi n), none]) (S' := [vi r]) k163_0 rfl rfl ?_
  refine ev_static (a := [vi r]) (S' := []) k163_1 rfl (Nat.le_of_ble_eq_true rfl) (by omega) ?_
  refine m_isRow (r := r) (by omega) (by omega) (by omega) (fun h1 => ?_) (fun h1 => ?_)
  · show Ev d 163 4 [some (vr 0), some (vi r), some (vi l), some (vi n), none] [vi 1] (SM J) Q
    refine ev_z_eq (t := 22) k163_4 rfl (by omega) (by omega) (fun h => absurd h (by decide)) (fun _ => ?_)
    refine ev_s1 (L' := [some (vr 0), some (vi r), some (vi l), some (vi n), none]) (S' := [vi l]) k163_7 rfl rfl ?_
    refine ev_s1 (L' := [some (vr 0), some (vi r), some (vi l), some (vi n), none]) (S' := [vi 0, vi l]) k163_8 rfl rfl ?_
    refine ev_s1 (L' := [some (vr 0), some (vi r), some (vi l), some (vi n), none]) (S' := [vi 2, vi 0, vi l]) k163_9 rfl rfl ?_
    refine ev_static (a := [vi l, vi 0, vi 2]) (S' := []) k163_10 rfl (Nat.le_of_ble_eq_true rfl) (by omega) ?_
    refine m_in (v := l) (lo := 0) (hi := 2) (by omega) (by omega) (by omega) (by omega) (by omega) (by omega) (fun h2 => ?_) (fun h2 => ?_)
    · show Ev d 163 13 [some (vr 0), some (vi r), some (vi l), some (vi n), none] [vi 1] (SM J) Q
      refine ev_z_eq (t := 22) k163_13 rfl (by omega) (by omega) (fun h => absurd h (by decide)) (fun _ => ?_)
      refine ev_s1 (L' := [some (vr 0), some (vi r), some (vi l), some (vi n), none]) (S' := [vi n]) k163_16 rfl rfl ?_
      refine ev_s1 (L' := [some (vr 0), some (vi r), some (vi l), some (vi n), none]) (S' := [vi 40, vi n]) k163_17 rfl rfl ?_
      refine ev_c_le (t := 25) k163_19 rfl (by omega) (by omega) (by omega) (by omega) (fun h3 => ?_) (fun h3 => ?_)
      · refine ev_s1 (L' := [some (vr 0), some (vi r), some (vi l), some (vi n), none]) (S' := [vi n]) k163_25 rfl rfl ?_
        refine ev_z_ge (t := 35) k163_26 rfl (by omega) (by omega) (fun h4 => ?_) (fun h4 => ?_)
        · refine ev_s1 (L' := [some (vr 0), some (vi r), some (vi l), some (vi n), none]) (S' := [vr 0]) k163_35 rfl rfl ?_
          refine ev_getR k163_36 (by decide) (rfl) (y_0_0) ?_
          refine ev_s1 (L' := [some (vr 0), some (vi r), some (vi l), some (vi n), none]) (S' := [vi r, vr 1]) k163_39 rfl rfl ?_
          refine ev_s1 (L' := [some (vr 0), some (vi r), some (vi l), some (vi n), none]) (S' := [vi l, vi r, vr 1]) k163_40 rfl rfl ?_
          refine ev_iast k163_41 (by decide) (rfl) (by omega) (by omega) ?_
          show Ev d 163 42 [some (vr 0), some (vi r), some (vi l), some (vi n), none] [] (SM (up J 1 r l)) Q
          have hJ5 := rz_up hJ (k := 1) (j := r) (z := l) (by omega) (by omega) (by omega)
          have g5 : ∀ aa, aa ≠ 1 → up J 1 r l aa = J aa := fun aa h => upf h
          have q5 : ∀ bb, bb ≠ r → up J 1 r l 1 bb = J 1 bb := fun bb h => upN (Or.inr h)
          have e5 : up J 1 r l 1 r = l := upE rfl rfl
          generalize up J 1 r l = J5 at hJ5 g5 q5 e5 ⊢
          refine ev_s1 (L' := [some (vr 0), some (vi r), some (vi l), some (vi n), none]) (S' := [vr 0]) k163_42 rfl rfl ?_
          refine ev_getR k163_43 (by decide) (rfl) (y_0_1) ?_
          refine ev_s1 (L' := [some (vr 0), some (vi r), some (vi l), some (vi n), none]) (S' := [vi r, vr 2]) k163_46 rfl rfl ?_
          refine ev_s1 (L' := [some (vr 0), some (vi r), some (vi l), some (vi n), none]) (S' := [vi n, vi r, vr 2]) k163_47 rfl rfl ?_
          refine ev_iast k163_48 (by decide) (rfl) (by omega) (by omega) ?_
          show Ev d 163 49 [some (vr 0), some (vi r), some (vi l), some (vi n), none] [] (SM (up J5 2 r n)) Q
          have hJ6 := rz_up hJ5 (k := 2) (j := r) (z := n) (by omega) (by omega) (by omega)
          have g6 : ∀ aa, aa ≠ 2 → up J5 2 r n aa = J5 aa := fun aa h => upf h
          have q6 : ∀ bb, bb ≠ r → up J5 2 r n 2 bb = J5 2 bb := fun bb h => upN (Or.inr h)
          have e6 : up J5 2 r n 2 r = n := upE rfl rfl
          generalize up J5 2 r n = J6 at hJ6 g6 q6 e6 ⊢
          refine ev_s1 (L' := [some (vr 0), some (vi r), some (vi l), some (vi n), none]) (S' := [vi 0]) k163_49 rfl rfl ?_
          refine ev_s1 (L' := [some (vr 0), some (vi r), some (vi l), some (vi n), some (vi 0)]) (S' := []) k163_50 rfl rfl ?_
          refine m_rowz (K := J6) (r := r) (l := l) (m := n) (by omega) (by omega) (fun J0 x0 hJ0 z0 f0 => ?_) 41 J6 0 hJ6 (by omega) (by omega) (fun b => by rw [if_neg (by omega)]) (fun _ _ => rfl)
          refine ev_s1 (L' := [some (vr 0), some (vi r), some (vi l), some (vi n), x0]) (S' := [vr 0]) k163_78 rfl rfl ?_
          refine ev_s1 (L' := [some (vr 0), some (vi r), some (vi l), some (vi n), x0]) (S' := [vi n, vr 0]) k163_79 rfl rfl ?_
          refine ev_virt (a := [vi n]) (S' := []) k163_80 rfl (Nat.le_of_ble_eq_true rfl) (by decide) (rfl) (by omega) ?_
          refine m_well hJ0 (v := n) (fun J7 hJ7 e7 q7 g7 => ?_)
          show Ev d 163 83 [some (vr 0), some (vi r), some (vi l), some (vi n), x0] [vi n] (SM J7) Q
          refine ev_ireturn k163_83 ?_
          exact hQ (by omega) (by omega) _ ⟨hJ7, e7, fun b hb => ((q7 b hb).trans ((congrFun (f0 0 (by decide)) b).trans ((congrFun (g6 0 (by decide)) b).trans (congrFun (g5 0 (by decide)) b)))), (by funext b; unfold updF; rw [g7 1 (by decide), f0 1 (by decide), g6 1 (by decide)]; split; (rename_i q; rw [q]; exact e5); (rename_i q; rw [q5 b q])), (by funext b; unfold updF; rw [g7 2 (by decide), f0 2 (by decide)]; split; (rename_i q; rw [q]; exact e6); (rename_i q; rw [q6 b q, g5 2 (by decide)])), (by funext b; rw [g7 3 (by decide)]; show J0 3 b = _; rw [z0 b, g6 3 (by decide), g5 3 (by decide)]), fun a ha => ((g7 a (by omega)).trans ((f0 a (by omega)).trans ((g6 a (by omega)).trans (g5 a (by omega)))))⟩
          
        · refine ev_s1 (L' := [some (vr 0), some (vi r), some (vi l), some (vi n), none]) (S' := [vr 0]) k163_29 rfl rfl ?_
          refine ev_s1 (L' := [some (vr 0), some (vi r), some (vi l), some (vi n), none]) (S' := [vi 4, vr 0]) k163_30 rfl rfl ?_
          refine ev_virt (a := [vi 4]) (S' := []) k163_31 rfl (Nat.le_of_ble_eq_true rfl) (by decide) (rfl) (by omega) ?_
          refine m_found hJ (v := 4) (by omega) (by omega) (fun J8 hJ8 e8 q8 g8 => ?_)
          show Ev d 163 34 [some (vr 0), some (vi r), some (vi l), some (vi n), none] [vi (-1000010 - 4)] (SM J8) Q
          refine ev_ireturn k163_34 ?_
          exact hx4 (by omega) (by omega) _ ⟨hJ8, e8, fun b hb => (q8 b hb).trans (rfl), fun a a0 a4 a7 a8 a12 a13 => (g8 a (by assumption))⟩
      · refine ev_ldc k163_22 ?_
        refine ev_ireturn k163_24 ?_
        exact hB (by omega)
    · show Ev d 163 13 [some (vr 0), some (vi r), some (vi l), some (vi n), none] [vi 0] (SM J) Q
      refine ev_z_eq (t := 22) k163_13 rfl (by omega) (by omega) (fun _ => ?_) (fun h => absurd h (by decide))
      refine ev_ldc k163_22 ?_
      refine ev_ireturn k163_24 ?_
      exact hB (by omega)
  · show Ev d 163 4 [some (vr 0), some (vi r), some (vi l), some (vi n), none] [vi 0] (SM J) Q
    refine ev_z_eq (t := 22) k163_4 rfl (by omega) (by omega) (fun _ => ?_) (fun h => absurd h (by decide))
    refine ev_ldc k163_22 ?_
    refine ev_ireturn k163_24 ?_
    exact hB (by omega)

set_option maxHeartbeats 1000000 in
theorem m_set {d : Nat} {J : Nat → Int → Int} {Q : Option jV → jS → Prop} (hJ : RZ J) {r i v : Int} (ra : -2147483648 ≤ r) (rb : r < 2147483648) (ia : -2147483648 ≤ i) (ib : i < 2147483648) (va : -2147483648 ≤ v) (vb : v < 2147483648) (hm : 0 ≤ r → r ≤ 7 → J 1 r ≠ -1000000 → 0 ≤ J 2 r ∧ J 2 r ≤ 40) (hd : 2 ≤ d) (hB : ¬ ((0 ≤ r ∧ r ≤ 7)) → Q (some (vi (-1000001))) (SM J)) (hx1 : ((0 ≤ r ∧ r ≤ 7)) → J 1 r = -1000000 → ∀ J', SM4 J J' 1 → Q (some (vi (-1000010 - 1))) (SM J')) (hx2 : ((0 ≤ r ∧ r ≤ 7)) → ¬ J 1 r = -1000000 → ¬ (0 ≤ i ∧ i < J 2 r) → ∀ J', SM4 J J' 2 → Q (some (vi (-1000010 - 2))) (SM J')) (hQ : ((0 ≤ r ∧ r ≤ 7)) → ¬ J 1 r = -1000000 → (0 ≤ i ∧ i < J 2 r) → ∀ J', ROM J J' (J 1) (J 2) (updF (J 3) (40 * r + i) (cutF (J 1 r) v)) → Q (some (vi (cutF (J 1 r) v))) (SM J')) : Cl d 164 [vr 0, vi r, vi i, vi v] (SM J) Q := by
  refine ⟨by rw [l164]; exact Nat.le_of_ble_eq_true rfl, ?_⟩
  rw [l164]
  show Ev d 164 0 [some (vr 0), some (vi r), some (vi i), some (vi v)] [] (SM J) Q
  refine ev_s1 (L' := [some (vr 0), some (vi r), some (vi i), some (vi v)]) (S' := [vi r]) k164_0 rfl rfl ?_
  refine ev_static (a := [vi r]) (S' := []) k164_1 rfl (Nat.le_of_ble_eq_true rfl) (by omega) ?_
  refine m_isRow (r := r) (by omega) (by omega) (by omega) (fun h1 => ?_) (fun h1 => ?_)
  · show Ev d 164 4 [some (vr 0), some (vi r), some (vi i), some (vi v)] [vi 1] (SM J) Q
    refine ev_z_ne (t := 10) k164_4 rfl (by omega) (by omega) (fun _ => ?_) (fun h => absurd h (by decide))
    refine ev_s1 (L' := [some (vr 0), some (vi r), some (vi i), some (vi v)]) (S' := [vr 0]) k164_10 rfl rfl ?_
    refine ev_s1 (L' := [some (vr 0), some (vi r), some (vi i), some (vi v)]) (S' := [vi r, vr 0]) k164_11 rfl rfl ?_
    refine ev_virt (a := [vi r]) (S' := []) k164_12 rfl (Nat.le_of_ble_eq_true rfl) (by decide) (rfl) (by omega) ?_
    refine m_isMissing hJ (r := r) (by omega) (by omega) (fun h2 => ?_) (fun h2 => ?_)
    · show Ev d 164 15 [some (vr 0), some (vi r), some (vi i), some (vi v)] [vi 1] (SM J) Q
      refine ev_z_eq (t := 24) k164_15 rfl (by omega) (by omega) (fun h => absurd h (by decide)) (fun _ => ?_)
      refine ev_s1 (L' := [some (vr 0), some (vi r), some (vi i), some (vi v)]) (S' := [vr 0]) k164_18 rfl rfl ?_
      refine ev_s1 (L' := [some (vr 0), some (vi r), some (vi i), some (vi v)]) (S' := [vi 1, vr 0]) k164_19 rfl rfl ?_
      refine ev_virt (a := [vi 1]) (S' := []) k164_20 rfl (Nat.le_of_ble_eq_true rfl) (by decide) (rfl) (by omega) ?_
      refine m_found hJ (v := 1) (by omega) (by omega) (fun J3 hJ3 e3 q3 g3 => ?_)
      show Ev d 164 23 [some (vr 0), some (vi r), some (vi i), some (vi v)] [vi (-1000010 - 1)] (SM J3) Q
      refine ev_ireturn k164_23 ?_
      exact hx1 (by omega) (by omega) _ ⟨hJ3, e3, fun b hb => (q3 b hb).trans (rfl), fun a a0 a4 a7 a8 a12 a13 => (g3 a (by assumption))⟩
    · show Ev d 164 15 [some (vr 0), some (vi r), some (vi i), some (vi v)] [vi 0] (SM J) Q
      refine ev_z_eq (t := 24) k164_15 rfl (by omega) (by omega) (fun _ => ?_) (fun h => absurd h (by decide))
      have hm1 := hm (by omega) (by omega) (by omega)
      refine ev_s1 (L' := [some (vr 0), some (vi r), some (vi i), some (vi v)]) (S' := [vi i]) k164_24 rfl rfl ?_
      refine ev_s1 (L' := [some (vr 0), some (vi r), some (vi i), some (vi v)]) (S' := [vi 0, vi i]) k164_25 rfl rfl ?_
      refine ev_s1 (L' := [some (vr 0), some (vi r), some (vi i), some (vi v)]) (S' := [vr 0, vi 0, vi i]) k164_26 rfl rfl ?_
      refine ev_getR k164_27 (by decide) (rfl) (y_0_1) ?_
      refine ev_s1 (L' := [some (vr 0), some (vi r), some (vi i), some (vi v)]) (S' := [vi r, vr 2, vi 0, vi i]) k164_30 rfl rfl ?_
      refine ev_iald k164_31 (by decide) (rfl) (by omega) (by omega) ?_
      have rr4 := hJ.1 2 r
      refine ev_s1 (L' := [some (vr 0), some (vi r), some (vi i), some (vi v)]) (S' := [vi 1, vi (J 2 r), vi 0, vi i]) k164_32 rfl rfl ?_
      refine ev_s1 (L' := [some (vr 0), some (vi r), some (vi i), some (vi v)]) (S' := [vi ((J 2 r) - 1), vi 0, vi i]) k164_33 rfl rfl ?_
      refine ev_static (a := [vi i, vi 0, vi ((J 2 r) - 1)]) (S' := []) k164_34 rfl (Nat.le_of_ble_eq_true rfl) (by omega) ?_
      refine m_in (v := i) (lo := 0) (hi := (J 2 r) - 1) (by omega) (by omega) (by omega) (by omega) (by omega) (by omega) (fun h5 => ?_) (fun h5 => ?_)
      · show Ev d 164 37 [some (vr 0), some (vi r), some (vi i), some (vi v)] [vi 1] (SM J) Q
        refine ev_z_ne (t := 46) k164_37 rfl (by omega) (by omega) (fun _ => ?_) (fun h => absurd h (by decide))
        refine ev_s1 (L' := [some (vr 0), some (vi r), some (vi i), some (vi v)]) (S' := [vr 0]) k164_46 rfl rfl ?_
        refine ev_getR k164_47 (by decide) (rfl) (y_0_2) ?_
        refine ev_s1 (L' := [some (vr 0), some (vi r), some (vi i), some (vi v)]) (S' := [vi 40, vr 3]) k164_50 rfl rfl ?_
        refine ev_s1 (L' := [some (vr 0), some (vi r), some (vi i), some (vi v)]) (S' := [vi r, vi 40, vr 3]) k164_52 rfl rfl ?_
        refine ev_s1 (L' := [some (vr 0), some (vi r), some (vi i), some (vi v)]) (S' := [vi (40 * r), vr 3]) k164_53 rfl rfl ?_
        refine ev_s1 (L' := [some (vr 0), some (vi r), some (vi i), some (vi v)]) (S' := [vi i, vi (40 * r), vr 3]) k164_54 rfl rfl ?_
        refine ev_s1 (L' := [some (vr 0), some (vi r), some (vi i), some (vi v)]) (S' := [vi ((40 * r) + i), vr 3]) k164_55 rfl rfl ?_
        refine ev_s1 (L' := [some (vr 0), some (vi r), some (vi i), some (vi v)]) (S' := [vr 0, vi ((40 * r) + i), vr 3]) k164_56 rfl rfl ?_
        refine ev_getR k164_57 (by decide) (rfl) (y_0_0) ?_
        refine ev_s1 (L' := [some (vr 0), some (vi r), some (vi i), some (vi v)]) (S' := [vi r, vr 1, vi ((40 * r) + i), vr 3]) k164_60 rfl rfl ?_
        refine ev_iald k164_61 (by decide) (rfl) (by omega) (by omega) ?_
        have rr6 := hJ.1 1 r
        refine ev_s1 (L' := [some (vr 0), some (vi r), some (vi i), some (vi v)]) (S' := [vi v, vi (J 1 r), vi ((40 * r) + i), vr 3]) k164_62 rfl rfl ?_
        refine ev_static (a := [vi (J 1 r), vi v]) (S' := [vi ((40 * r) + i), vr 3]) k164_63 rfl (Nat.le_of_ble_eq_true rfl) (by omega) ?_
        refine m_cut (l := J 1 r) (v := v) (by omega) (by omega) (?_)
        have cr63 := cut_rng (l := J 1 r) (v := v) (by omega) (by omega)
        show Ev d 164 66 [some (vr 0), some (vi r), some (vi i), some (vi v)] [vi (cutF (J 1 r) v), vi ((40 * r) + i), vr 3] (SM J) Q
        refine ev_iast k164_66 (by decide) (rfl) (by omega) (by omega) ?_
        show Ev d 164 67 [some (vr 0), some (vi r), some (vi i), some (vi v)] [] (SM (up J 3 ((40 * r) + i) (cutF (J 1 r) v))) Q
        have hJ7 := rz_up hJ (k := 3) (j := (40 * r) + i) (z := cutF (J 1 r) v) (by omega) (by omega) (by omega)
        have g7 : ∀ aa, aa ≠ 3 → up J 3 ((40 * r) + i) (cutF (J 1 r) v) aa = J aa := fun aa h => upf h
        have q7 : ∀ bb, bb ≠ (40 * r) + i → up J 3 ((40 * r) + i) (cutF (J 1 r) v) 3 bb = J 3 bb := fun bb h => upN (Or.inr h)
        have e7 : up J 3 ((40 * r) + i) (cutF (J 1 r) v) 3 ((40 * r) + i) = cutF (J 1 r) v := upE rfl rfl
        generalize up J 3 ((40 * r) + i) (cutF (J 1 r) v) = J7 at hJ7 g7 q7 e7 ⊢
        refine ev_s1 (L' := [some (vr 0), some (vi r), some (vi i), some (vi v)]) (S' := [vr 0]) k164_67 rfl rfl ?_
        refine ev_s1 (L' := [some (vr 0), some (vi r), some (vi i), some (vi v)]) (S' := [vr 0, vr 0]) k164_68 rfl rfl ?_
        refine ev_getR k164_69 (by decide) (rfl) (y_0_2) ?_
        refine ev_s1 (L' := [some (vr 0), some (vi r), some (vi i), some (vi v)]) (S' := [vi 40, vr 3, vr 0]) k164_72 rfl rfl ?_
        refine ev_s1 (L' := [some (vr 0), some (vi r), some (vi i), some (vi v)]) (S' := [vi r, vi 40, vr 3, vr 0]) k164_74 rfl rfl ?_
        refine ev_s1 (L' := [some (vr 0), some (vi r), some (vi i), some (vi v)]) (S' := [vi (40 * r), vr 3, vr 0]) k164_75 rfl rfl ?_
        refine ev_s1 (L' := [some (vr 0), some (vi r), some (vi i), some (vi v)]) (S' := [vi i, vi (40 * r), vr 3, vr 0]) k164_76 rfl rfl ?_
        refine ev_s1 (L' := [some (vr 0), some (vi r), some (vi i), some (vi v)]) (S' := [vi ((40 * r) + i), vr 3, vr 0]) k164_77 rfl rfl ?_
        refine ev_iald k164_78 (by decide) (rfl) (by omega) (by omega) ?_
        have rr8 := hJ7.1 3 ((40 * r) + i)
        rw [e7]
        rw [e7] at rr8
        refine ev_virt (a := [vi (cutF (J 1 r) v)]) (S' := []) k164_79 rfl (Nat.le_of_ble_eq_true rfl) (by decide) (rfl) (by omega) ?_
        refine m_well hJ7 (v := cutF (J 1 r) v) (fun J9 hJ9 e9 q9 g9 => ?_)
        show Ev d 164 82 [some (vr 0), some (vi r), some (vi i), some (vi v)] [vi (cutF (J 1 r) v)] (SM J9) Q
        refine ev_ireturn k164_82 ?_
        exact hQ (by omega) (by omega) (by omega) _ ⟨hJ9, e9, fun b hb => ((q9 b hb).trans (congrFun (g7 0 (by decide)) b)), (by rw [g9 1 (by decide), g7 1 (by decide)]), (by rw [g9 2 (by decide), g7 2 (by decide)]), (by funext b; unfold updF; rw [g9 3 (by decide)]; split; (rename_i q; rw [q]; exact e7); (rename_i q; rw [q7 b q])), fun a ha => ((g9 a (by omega)).trans (g7 a (by omega)))⟩
      · show Ev d 164 37 [some (vr 0), some (vi r), some (vi i), some (vi v)] [vi 0] (SM J) Q
        refine ev_z_ne (t := 46) k164_37 rfl (by omega) (by omega) (fun h => absurd h (by decide)) (fun _ => ?_)
        refine ev_s1 (L' := [some (vr 0), some (vi r), some (vi i), some (vi v)]) (S' := [vr 0]) k164_40 rfl rfl ?_
        refine ev_s1 (L' := [some (vr 0), some (vi r), some (vi i), some (vi v)]) (S' := [vi 2, vr 0]) k164_41 rfl rfl ?_
        refine ev_virt (a := [vi 2]) (S' := []) k164_42 rfl (Nat.le_of_ble_eq_true rfl) (by decide) (rfl) (by omega) ?_
        refine m_found hJ (v := 2) (by omega) (by omega) (fun J10 hJ10 e10 q10 g10 => ?_)
        show Ev d 164 45 [some (vr 0), some (vi r), some (vi i), some (vi v)] [vi (-1000010 - 2)] (SM J10) Q
        refine ev_ireturn k164_45 ?_
        exact hx2 (by omega) (by omega) (by omega) _ ⟨hJ10, e10, fun b hb => (q10 b hb).trans (rfl), fun a a0 a4 a7 a8 a12 a13 => (g10 a (by assumption))⟩
  · show Ev d 164 4 [some (vr 0), some (vi r), some (vi i), some (vi v)] [vi 0] (SM J) Q
    refine ev_z_ne (t := 10) k164_4 rfl (by omega) (by omega) (fun h => absurd h (by decide)) (fun _ => ?_)
    refine ev_ldc k164_7 ?_
    refine ev_ireturn k164_9 ?_
    exact hB (by omega)

set_option maxHeartbeats 1000000 in
theorem m_cpy1 {d : Nat} {K : Nat → Int → Int} {Q : Option jV → jS → Prop} {a i b j m : Int} (a0 : 0 ≤ a) (a7 : a ≤ 7) (i0 : 0 ≤ i) (i1 : i + m ≤ 40) (b0 : 0 ≤ b) (b7 : b ≤ 7) (j0 : 0 ≤ j) (j1 : j + m ≤ 40) (m0 : 0 ≤ m) (hE : ∀ (J' : Nat → Int → Int) (x : Int), RZ J' → (∀ y, 0 ≤ y → y < m → J' 4 y = K 3 (40 * a + i + y)) → (∀ a, a ≠ 4 → J' a = K a) → Ev d 166 126 [some (vr 0), some (vi a), some (vi i), some (vi b), some (vi j), some (vi m), some (vi x)] [] (SM J') Q) : ∀ (n : Nat) (J : Nat → Int → Int) (k : Nat), RZ J → m - k < n → (k : Int) ≤ m → (∀ y, 0 ≤ y → y < (k : Int) → J 4 y = K 3 (40 * a + i + y)) → (∀ a, a ≠ 4 → J a = K a) → Ev d 166 92 [some (vr 0), some (vi a), some (vi i), some (vi b), some (vi j), some (vi m), some (vi (k : Int))] [] (SM J) Q := by
  intro n
  induction n with
  | zero =>
    intro J k hJ hk hk2 hz hF0
    exfalso; omega
  | succ n ih =>
    intro J k hJ hk hk2 hz hF0
    refine ev_s1 (L' := [some (vr 0), some (vi a), some (vi i), some (vi b), some (vi j), some (vi m), some (vi (k : Int))]) (S' := [vi (k : Int)]) k166_92 rfl rfl ?_
    refine ev_s1 (L' := [some (vr 0), some (vi a), some (vi i), some (vi b), some (vi j), some (vi m), some (vi (k : Int))]) (S' := [vi m, vi (k : Int)]) k166_94 rfl rfl ?_
    refine ev_c_ge (t := 126) k166_96 rfl (by omega) (by omega) (by omega) (by omega) (fun h1 => ?_) (fun h1 => ?_)
    · exact hE _ _ hJ (fun y y0 y1 => hz y y0 (by omega)) hF0
    · refine ev_s1 (L' := [some (vr 0), some (vi a), some (vi i), some (vi b), some (vi j), some (vi m), some (vi (k : Int))]) (S' := [vr 0]) k166_99 rfl rfl ?_
      refine ev_getR k166_100 (by decide) (rfl) (y_0_3) ?_
      refine ev_s1 (L' := [some (vr 0), some (vi a), some (vi i), some (vi b), some (vi j), some (vi m), some (vi (k : Int))]) (S' := [vi (k : Int), vr 4]) k166_103 rfl rfl ?_
      refine ev_s1 (L' := [some (vr 0), some (vi a), some (vi i), some (vi b), some (vi j), some (vi m), some (vi (k : Int))]) (S' := [vr 0, vi (k : Int), vr 4]) k166_105 rfl rfl ?_
      refine ev_getR k166_106 (by decide) (rfl) (y_0_2) ?_
      refine ev_s1 (L' := [some (vr 0), some (vi a), some (vi i), some (vi b), some (vi j), some (vi m), some (vi (k : Int))]) (S' := [vi 40, vr 3, vi (k : Int), vr 4]) k166_109 rfl rfl ?_
      refine ev_s1 (L' := [some (vr 0), some (vi a), some (vi i), some (vi b), some (vi j), some (vi m), some (vi (k : Int))]) (S' := [vi a, vi 40, vr 3, vi (k : Int), vr 4]) k166_111 rfl rfl ?_
      refine ev_s1 (L' := [some (vr 0), some (vi a), some (vi i), some (vi b), some (vi j), some (vi m), some (vi (k : Int))]) (S' := [vi (40 * a), vr 3, vi (k : Int), vr 4]) k166_112 rfl rfl ?_
      refine ev_s1 (L' := [some (vr 0), some (vi a), some (vi i), some (vi b), some (vi j), some (vi m), some (vi (k : Int))]) (S' := [vi i, vi (40 * a), vr 3, vi (k : Int), vr 4]) k166_113 rfl rfl ?_
      refine ev_s1 (L' := [some (vr 0), some (vi a), some (vi i), some (vi b), some (vi j), some (vi m), some (vi (k : Int))]) (S' := [vi ((40 * a) + i), vr 3, vi (k : Int), vr 4]) k166_114 rfl rfl ?_
      refine ev_s1 (L' := [some (vr 0), some (vi a), some (vi i), some (vi b), some (vi j), some (vi m), some (vi (k : Int))]) (S' := [vi (k : Int), vi ((40 * a) + i), vr 3, vi (k : Int), vr 4]) k166_115 rfl rfl ?_
      refine ev_s1 (L' := [some (vr 0), some (vi a), some (vi i), some (vi b), some (vi j), some (vi m), some (vi (k : Int))]) (S' := [vi (((40 * a) + i) + (k : Int)), vr 3, vi (k : Int), vr 4]) k166_117 rfl rfl ?_
      refine ev_iald k166_118 (by decide) (rfl) (by omega) (by omega) ?_
      have rr2 := hJ.1 3 (((40 * a) + i) + (k : Int))
      rw [hF0 3 (by decide)]
      rw [hF0 3 (by decide)] at rr2
      refine ev_iast k166_119 (by decide) (rfl) (by omega) (by omega) ?_
      show Ev d 166 120 [some (vr 0), some (vi a), some (vi i), some (vi b), some (vi j), some (vi m), some (vi (k : Int))] [] (SM (up J 4 (k : Int) (K 3 (((40 * a) + i) + (k : Int))))) Q
      have hJ3 := rz_up hJ (k := 4) (j := (k : Int)) (z := K 3 (((40 * a) + i) + (k : Int))) (by omega) (by omega) (by omega)
      have g3 : ∀ aa, aa ≠ 4 → up J 4 (k : Int) (K 3 (((40 * a) + i) + (k : Int))) aa = J aa := fun aa h => upf h
      have q3 : ∀ bb, bb ≠ (k : Int) → up J 4 (k : Int) (K 3 (((40 * a) + i) + (k : Int))) 4 bb = J 4 bb := fun bb h => upN (Or.inr h)
      have e3 : up J 4 (k : Int) (K 3 (((40 * a) + i) + (k : Int))) 4 (k : Int) = K 3 (((40 * a) + i) + (k : Int)) := upE rfl rfl
      generalize up J 4 (k : Int) (K 3 (((40 * a) + i) + (k : Int))) = J3 at hJ3 g3 q3 e3 ⊢
      refine ev_s1 (L' := [some (vr 0), some (vi a), some (vi i), some (vi b), some (vi j), some (vi m), some (vi ((k : Int) + 1))]) (S' := []) k166_120 rfl rfl ?_
      refine ev_goto (t := 92) k166_123 rfl ?_
      refine ih J3 (k + 1) hJ3 (by omega) (by omega) (fun y y0 y1 => ?_) (fun a a4 => ((g3 a (by assumption)).trans (hF0 a a4)))
      by_cases q : y = (k : Int)
      · rw [q, e3]
      · rw [q3 y q]; exact hz y y0 (by omega)

set_option maxHeartbeats 1000000 in
theorem m_cpy2 {d : Nat} {K : Nat → Int → Int} {Q : Option jV → jS → Prop} {a i b j m : Int} (a0 : 0 ≤ a) (a7 : a ≤ 7) (i0 : 0 ≤ i) (i1 : i + m ≤ 40) (b0 : 0 ≤ b) (b7 : b ≤ 7) (j0 : 0 ≤ j) (j1 : j + m ≤ 40) (m0 : 0 ≤ m) {f : Int → Int} (hf : K 3 = f) (h4 : ∀ y, 0 ≤ y → y < m → K 4 y = f (40 * a + i + y)) (hE : ∀ (J' : Nat → Int → Int) (x : Int), RZ J' → J' 3 = (fun y => if 40 * b + j ≤ y ∧ y < 40 * b + j + m then f (40 * a + i + (y - (40 * b + j))) else f y) → (∀ a, a ≠ 3 → J' a = K a) → Ev d 166 164 [some (vr 0), some (vi a), some (vi i), some (vi b), some (vi j), some (vi m), some (vi x)] [] (SM J') Q) : ∀ (n : Nat) (J : Nat → Int → Int) (k : Nat), RZ J → m - k < n → (k : Int) ≤ m → J 3 = (fun y => if 40 * b + j ≤ y ∧ y < 40 * b + j + (k : Int) then f (40 * a + i + (y - (40 * b + j))) else f y) → (∀ a, a ≠ 3 → J a = K a) → Ev d 166 129 [some (vr 0), some (vi a), some (vi i), some (vi b), some (vi j), some (vi m), some (vi (k : Int))] [] (SM J) Q := by
  intro n
  induction n with
  | zero =>
    intro J k hJ hk hk2 hz hF0
    exfalso; omega
  | succ n ih =>
    intro J k hJ hk hk2 hz hF0
    refine ev_s1 (L' := [some (vr 0), some (vi a), some (vi i), some (vi b), some (vi j), some (vi m), some (vi (k : Int))]) (S' := [vi (k : Int)]) k166_129 rfl rfl ?_
    refine ev_s1 (L' := [some (vr 0), some (vi a), some (vi i), some (vi b), some (vi j), some (vi m), some (vi (k : Int))]) (S' := [vi m, vi (k : Int)]) k166_131 rfl rfl ?_
    refine ev_c_ge (t := 164) k166_133 rfl (by omega) (by omega) (by omega) (by omega) (fun h1 => ?_) (fun h1 => ?_)
    · rw [show (k : Int) = m by omega] at hz
      exact hE _ _ hJ hz hF0
    · refine ev_s1 (L' := [some (vr 0), some (vi a), some (vi i), some (vi b), some (vi j), some (vi m), some (vi (k : Int))]) (S' := [vr 0]) k166_136 rfl rfl ?_
      refine ev_getR k166_137 (by decide) (rfl) (y_0_2) ?_
      refine ev_s1 (L' := [some (vr 0), some (vi a), some (vi i), some (vi b), some (vi j), some (vi m), some (vi (k : Int))]) (S' := [vi 40, vr 3]) k166_140 rfl rfl ?_
      refine ev_s1 (L' := [some (vr 0), some (vi a), some (vi i), some (vi b), some (vi j), some (vi m), some (vi (k : Int))]) (S' := [vi b, vi 40, vr 3]) k166_142 rfl rfl ?_
      refine ev_s1 (L' := [some (vr 0), some (vi a), some (vi i), some (vi b), some (vi j), some (vi m), some (vi (k : Int))]) (S' := [vi (40 * b), vr 3]) k166_143 rfl rfl ?_
      refine ev_s1 (L' := [some (vr 0), some (vi a), some (vi i), some (vi b), some (vi j), some (vi m), some (vi (k : Int))]) (S' := [vi j, vi (40 * b), vr 3]) k166_144 rfl rfl ?_
      refine ev_s1 (L' := [some (vr 0), some (vi a), some (vi i), some (vi b), some (vi j), some (vi m), some (vi (k : Int))]) (S' := [vi ((40 * b) + j), vr 3]) k166_146 rfl rfl ?_
      refine ev_s1 (L' := [some (vr 0), some (vi a), some (vi i), some (vi b), some (vi j), some (vi m), some (vi (k : Int))]) (S' := [vi (k : Int), vi ((40 * b) + j), vr 3]) k166_147 rfl rfl ?_
      refine ev_s1 (L' := [some (vr 0), some (vi a), some (vi i), some (vi b), some (vi j), some (vi m), some (vi (k : Int))]) (S' := [vi (((40 * b) + j) + (k : Int)), vr 3]) k166_149 rfl rfl ?_
      refine ev_s1 (L' := [some (vr 0), some (vi a), some (vi i), some (vi b), some (vi j), some (vi m), some (vi (k : Int))]) (S' := [vr 0, vi (((40 * b) + j) + (k : Int)), vr 3]) k166_150 rfl rfl ?_
      refine ev_getR k166_151 (by decide) (rfl) (y_0_3) ?_
      refine ev_s1 (L' := [some (vr 0), some (vi a), some (vi i), some (vi b), some (vi j), some (vi m), some (vi (k : Int))]) (S' := [vi (k : Int), vr 4, vi (((40 * b) + j) + (k : Int)), vr 3]) k166_154 rfl rfl ?_
      refine ev_iald k166_156 (by decide) (rfl) (by omega) (by omega) ?_
      have rr2 := hJ.1 4 (k : Int)
      rw [hF0 4 (by decide), h4 (k : Int) (by omega) (by omega)]
      rw [hF0 4 (by decide), h4 (k : Int) (by omega) (by omega)] at rr2
      refine ev_iast k166_157 (by decide) (rfl) (by omega) (by omega) ?_
      show Ev d 166 158 [some (vr 0), some (vi a), some (vi i), some (vi b), some (vi j), some (vi m), some (vi (k : Int))] [] (SM (up J 3 (((40 * b) + j) + (k : Int)) (f (40 * a + i + (k : Int))))) Q
      have hJ3 := rz_up hJ (k := 3) (j := ((40 * b) + j) + (k : Int)) (z := f (40 * a + i + (k : Int))) (by omega) (by omega) (by omega)
      have g3 : ∀ aa, aa ≠ 3 → up J 3 (((40 * b) + j) + (k : Int)) (f (40 * a + i + (k : Int))) aa = J aa := fun aa h => upf h
      have q3 : ∀ bb, bb ≠ ((40 * b) + j) + (k : Int) → up J 3 (((40 * b) + j) + (k : Int)) (f (40 * a + i + (k : Int))) 3 bb = J 3 bb := fun bb h => upN (Or.inr h)
      have e3 : up J 3 (((40 * b) + j) + (k : Int)) (f (40 * a + i + (k : Int))) 3 (((40 * b) + j) + (k : Int)) = f (40 * a + i + (k : Int)) := upE rfl rfl
      generalize up J 3 (((40 * b) + j) + (k : Int)) (f (40 * a + i + (k : Int))) = J3 at hJ3 g3 q3 e3 ⊢
      refine ev_s1 (L' := [some (vr 0), some (vi a), some (vi i), some (vi b), some (vi j), some (vi m), some (vi ((k : Int) + 1))]) (S' := []) k166_158 rfl rfl ?_
      refine ev_goto (t := 129) k166_161 rfl ?_
      refine ih J3 (k + 1) hJ3 (by omega) (by omega) ?_ (fun a a3 => ((g3 a (by assumption)).trans (hF0 a a3)))
      funext y
      by_cases q : y = 40 * b + j + (k : Int)
      · rw [q, e3, if_pos (by omega), show 40 * a + i + (40 * b + j + (k : Int) - (40 * b + j)) = 40 * a + i + (k : Int) by omega]
      · rw [q3 y q, hz]
        show (if _ then _ else _) = _
        by_cases q2 : 40 * b + j ≤ y ∧ y < 40 * b + j + (k : Int)
        · rw [if_pos q2, if_pos (by omega)]
        · rw [if_neg q2, if_neg (by omega)]

set_option maxHeartbeats 1000000 in
theorem m_copy {d : Nat} {J : Nat → Int → Int} {Q : Option jV → jS → Prop} (hJ : RZ J) {a i b j n : Int} (aa : -2147483648 ≤ a) (ab : a < 2147483648) (ia : -2147483648 ≤ i) (ib : i < 2147483648) (ba : -2147483648 ≤ b) (bb : b < 2147483648) (ja : -2147483648 ≤ j) (jb : j < 2147483648) (na : -2147483648 ≤ n) (nb : n < 2147483648) (hm : ∀ r, 0 ≤ r → r ≤ 7 → J 1 r ≠ -1000000 → 0 ≤ J 2 r ∧ J 2 r ≤ 40) (hd : 2 ≤ d) (hB : ¬ ((0 ≤ a ∧ a ≤ 7) ∧ (0 ≤ b ∧ b ≤ 7)) → Q (some (vi (-1000001))) (SM J)) (hx1 : ((0 ≤ a ∧ a ≤ 7) ∧ (0 ≤ b ∧ b ≤ 7)) → (J 1 a = -1000000 ∨ J 1 b = -1000000) → ∀ J', SM4 J J' 1 → Q (some (vi (-1000010 - 1))) (SM J')) (hx5 : ((0 ≤ a ∧ a ≤ 7) ∧ (0 ≤ b ∧ b ≤ 7)) → ¬ (J 1 a = -1000000 ∨ J 1 b = -1000000) → J 1 a ≠ J 1 b → ∀ J', SM4 J J' 5 → Q (some (vi (-1000010 - 5))) (SM J')) (hx2 : ((0 ≤ a ∧ a ≤ 7) ∧ (0 ≤ b ∧ b ≤ 7)) → ¬ (J 1 a = -1000000 ∨ J 1 b = -1000000) → J 1 a = J 1 b → ¬ (0 ≤ i ∧ 0 ≤ j ∧ 0 ≤ n ∧ i + n ≤ J 2 a ∧ j + n ≤ J 2 b) → ∀ J', SM4 J J' 2 → Q (some (vi (-1000010 - 2))) (SM J')) (hQ : ((0 ≤ a ∧ a ≤ 7) ∧ (0 ≤ b ∧ b ≤ 7)) → ¬ (J 1 a = -1000000 ∨ J 1 b = -1000000) → J 1 a = J 1 b → (0 ≤ i ∧ 0 ≤ j ∧ 0 ≤ n ∧ i + n ≤ J 2 a ∧ j + n ≤ J 2 b) → ∀ J', ROM J J' (J 1) (J 2) (fun y => if 40 * b + j ≤ y ∧ y < 40 * b + j + n then J 3 (40 * a + i + (y - (40 * b + j))) else J 3 y) → Q (some (vi n)) (SM J')) : Cl d 166 [vr 0, vi a, vi i, vi b, vi j, vi n] (SM J) Q := by
  refine ⟨by rw [l166]; exact Nat.le_of_ble_eq_true rfl, ?_⟩
  rw [l166]
  show Ev d 166 0 [some (vr 0), some (vi a), some (vi i), some (vi b), some (vi j), some (vi n), none] [] (SM J) Q
  refine ev_s1 (L' := [some (vr 0), some (vi a), some (vi i), some (vi b), some (vi j), some (vi n), none]) (S' := [vi a]) k166_0 rfl rfl ?_
  refine ev_static (a := [vi a]) (S' := []) k166_1 rfl (Nat.le_of_ble_eq_true rfl) (by omega) ?_
  refine m_isRow (r := a) (by omega) (by omega) (by omega) (fun h1 => ?_) (fun h1 => ?_)
  · show Ev d 166 4 [some (vr 0), some (vi a), some (vi i), some (vi b), some (vi j), some (vi n), none] [vi 1] (SM J) Q
    refine ev_z_eq (t := 14) k166_4 rfl (by omega) (by omega) (fun h => absurd h (by decide)) (fun _ => ?_)
    refine ev_s1 (L' := [some (vr 0), some (vi a), some (vi i), some (vi b), some (vi j), some (vi n), none]) (S' := [vi b]) k166_7 rfl rfl ?_
    refine ev_static (a := [vi b]) (S' := []) k166_8 rfl (Nat.le_of_ble_eq_true rfl) (by omega) ?_
    refine m_isRow (r := b) (by omega) (by omega) (by omega) (fun h2 => ?_) (fun h2 => ?_)
    · show Ev d 166 11 [some (vr 0), some (vi a), some (vi i), some (vi b), some (vi j), some (vi n), none] [vi 1] (SM J) Q
      refine ev_z_ne (t := 17) k166_11 rfl (by omega) (by omega) (fun _ => ?_) (fun h => absurd h (by decide))
      refine ev_s1 (L' := [some (vr 0), some (vi a), some (vi i), some (vi b), some (vi j), some (vi n), none]) (S' := [vr 0]) k166_17 rfl rfl ?_
      refine ev_s1 (L' := [some (vr 0), some (vi a), some (vi i), some (vi b), some (vi j), some (vi n), none]) (S' := [vi a, vr 0]) k166_18 rfl rfl ?_
      refine ev_virt (a := [vi a]) (S' := []) k166_19 rfl (Nat.le_of_ble_eq_true rfl) (by decide) (rfl) (by omega) ?_
      refine m_isMissing hJ (r := a) (by omega) (by omega) (fun h3 => ?_) (fun h3 => ?_)
      · show Ev d 166 22 [some (vr 0), some (vi a), some (vi i), some (vi b), some (vi j), some (vi n), none] [vi 1] (SM J) Q
        refine ev_z_ne (t := 33) k166_22 rfl (by omega) (by omega) (fun _ => ?_) (fun h => absurd h (by decide))
        refine ev_s1 (L' := [some (vr 0), some (vi a), some (vi i), some (vi b), some (vi j), some (vi n), none]) (S' := [vr 0]) k166_33 rfl rfl ?_
        refine ev_s1 (L' := [some (vr 0), some (vi a), some (vi i), some (vi b), some (vi j), some (vi n), none]) (S' := [vi 1, vr 0]) k166_34 rfl rfl ?_
        refine ev_virt (a := [vi 1]) (S' := []) k166_35 rfl (Nat.le_of_ble_eq_true rfl) (by decide) (rfl) (by omega) ?_
        refine m_found hJ (v := 1) (by omega) (by omega) (fun J4 hJ4 e4 q4 g4 => ?_)
        show Ev d 166 38 [some (vr 0), some (vi a), some (vi i), some (vi b), some (vi j), some (vi n), none] [vi (-1000010 - 1)] (SM J4) Q
        refine ev_ireturn k166_38 ?_
        exact hx1 (by omega) (by omega) _ ⟨hJ4, e4, fun b hb => (q4 b hb).trans (rfl), fun a a0 a4 a7 a8 a12 a13 => (g4 a (by assumption))⟩
      · show Ev d 166 22 [some (vr 0), some (vi a), some (vi i), some (vi b), some (vi j), some (vi n), none] [vi 0] (SM J) Q
        refine ev_z_ne (t := 33) k166_22 rfl (by omega) (by omega) (fun h => absurd h (by decide)) (fun _ => ?_)
        refine ev_s1 (L' := [some (vr 0), some (vi a), some (vi i), some (vi b), some (vi j), some (vi n), none]) (S' := [vr 0]) k166_25 rfl rfl ?_
        refine ev_s1 (L' := [some (vr 0), some (vi a), some (vi i), some (vi b), some (vi j), some (vi n), none]) (S' := [vi b, vr 0]) k166_26 rfl rfl ?_
        refine ev_virt (a := [vi b]) (S' := []) k166_27 rfl (Nat.le_of_ble_eq_true rfl) (by decide) (rfl) (by omega) ?_
        refine m_isMissing hJ (r := b) (by omega) (by omega) (fun h5 => ?_) (fun h5 => ?_)
        · show Ev d 166 30 [some (vr 0), some (vi a), some (vi i), some (vi b), some (vi j), some (vi n), none] [vi 1] (SM J) Q
          refine ev_z_eq (t := 39) k166_30 rfl (by omega) (by omega) (fun h => absurd h (by decide)) (fun _ => ?_)
          refine ev_s1 (L' := [some (vr 0), some (vi a), some (vi i), some (vi b), some (vi j), some (vi n), none]) (S' := [vr 0]) k166_33 rfl rfl ?_
          refine ev_s1 (L' := [some (vr 0), some (vi a), some (vi i), some (vi b), some (vi j), some (vi n), none]) (S' := [vi 1, vr 0]) k166_34 rfl rfl ?_
          refine ev_virt (a := [vi 1]) (S' := []) k166_35 rfl (Nat.le_of_ble_eq_true rfl) (by decide) (rfl) (by omega) ?_
          refine m_found hJ (v := 1) (by omega) (by omega) (fun J6 hJ6 e6 q6 g6 => ?_)
          show Ev d 166 38 [some (vr 0), some (vi a), some (vi i), some (vi b), some (vi j), some (vi n), none] [vi (-1000010 - 1)] (SM J6) Q
          refine ev_ireturn k166_38 ?_
          exact hx1 (by omega) (by omega) _ ⟨hJ6, e6, fun b hb => (q6 b hb).trans (rfl), fun a a0 a4 a7 a8 a12 a13 => (g6 a (by assumption))⟩
        · show Ev d 166 30 [some (vr 0), some (vi a), some (vi i), some (vi b), some (vi j), some (vi n), none] [vi 0] (SM J) Q
          refine ev_z_eq (t := 39) k166_30 rfl (by omega) (by omega) (fun _ => ?_) (fun h => absurd h (by decide))
          refine ev_s1 (L' := [some (vr 0), some (vi a), some (vi i), some (vi b), some (vi j), some (vi n), none]) (S' := [vr 0]) k166_39 rfl rfl ?_
          refine ev_getR k166_40 (by decide) (rfl) (y_0_0) ?_
          refine ev_s1 (L' := [some (vr 0), some (vi a), some (vi i), some (vi b), some (vi j), some (vi n), none]) (S' := [vi a, vr 1]) k166_43 rfl rfl ?_
          refine ev_iald k166_44 (by decide) (rfl) (by omega) (by omega) ?_
          have rr7 := hJ.1 1 a
          refine ev_s1 (L' := [some (vr 0), some (vi a), some (vi i), some (vi b), some (vi j), some (vi n), none]) (S' := [vr 0, vi (J 1 a)]) k166_45 rfl rfl ?_
          refine ev_getR k166_46 (by decide) (rfl) (y_0_0) ?_
          refine ev_s1 (L' := [some (vr 0), some (vi a), some (vi i), some (vi b), some (vi j), some (vi n), none]) (S' := [vi b, vr 1, vi (J 1 a)]) k166_49 rfl rfl ?_
          refine ev_iald k166_50 (by decide) (rfl) (by omega) (by omega) ?_
          have rr8 := hJ.1 1 b
          refine ev_c_eq (t := 60) k166_51 rfl (by omega) (by omega) (by omega) (by omega) (fun h9 => ?_) (fun h9 => ?_)
          · have hm1 := hm a (by omega) (by omega) (by omega)
            have hm2 := hm b (by omega) (by omega) (by omega)
            refine ev_s1 (L' := [some (vr 0), some (vi a), some (vi i), some (vi b), some (vi j), some (vi n), none]) (S' := [vr 0]) k166_60 rfl rfl ?_
            refine ev_s1 (L' := [some (vr 0), some (vi a), some (vi i), some (vi b), some (vi j), some (vi n), none]) (S' := [vi a, vr 0]) k166_61 rfl rfl ?_
            refine ev_s1 (L' := [some (vr 0), some (vi a), some (vi i), some (vi b), some (vi j), some (vi n), none]) (S' := [vi i, vi a, vr 0]) k166_62 rfl rfl ?_
            refine ev_s1 (L' := [some (vr 0), some (vi a), some (vi i), some (vi b), some (vi j), some (vi n), none]) (S' := [vi n, vi i, vi a, vr 0]) k166_63 rfl rfl ?_
            refine ev_virt (a := [vi a, vi i, vi n]) (S' := []) k166_65 rfl (Nat.le_of_ble_eq_true rfl) (by decide) (rfl) (by omega) ?_
            refine m_isPart hJ (r := a) (i := i) (n := n) (by omega) (by omega) (by omega) (by omega) (by omega) (by omega) (fun h10 => ?_) (fun h10 => ?_)
            · show Ev d 166 68 [some (vr 0), some (vi a), some (vi i), some (vi b), some (vi j), some (vi n), none] [vi 1] (SM J) Q
              refine ev_z_eq (t := 83) k166_68 rfl (by omega) (by omega) (fun h => absurd h (by decide)) (fun _ => ?_)
              refine ev_s1 (L' := [some (vr 0), some (vi a), some (vi i), some (vi b), some (vi j), some (vi n), none]) (S' := [vr 0]) k166_71 rfl rfl ?_
              refine ev_s1 (L' := [some (vr 0), some (vi a), some (vi i), some (vi b), some (vi j), some (vi n), none]) (S' := [vi b, vr 0]) k166_72 rfl rfl ?_
              refine ev_s1 (L' := [some (vr 0), some (vi a), some (vi i), some (vi b), some (vi j), some (vi n), none]) (S' := [vi j, vi b, vr 0]) k166_73 rfl rfl ?_
              refine ev_s1 (L' := [some (vr 0), some (vi a), some (vi i), some (vi b), some (vi j), some (vi n), none]) (S' := [vi n, vi j, vi b, vr 0]) k166_75 rfl rfl ?_
              refine ev_virt (a := [vi b, vi j, vi n]) (S' := []) k166_77 rfl (Nat.le_of_ble_eq_true rfl) (by decide) (rfl) (by omega) ?_
              refine m_isPart hJ (r := b) (i := j) (n := n) (by omega) (by omega) (by omega) (by omega) (by omega) (by omega) (fun h11 => ?_) (fun h11 => ?_)
              · show Ev d 166 80 [some (vr 0), some (vi a), some (vi i), some (vi b), some (vi j), some (vi n), none] [vi 1] (SM J) Q
                refine ev_z_ne (t := 89) k166_80 rfl (by omega) (by omega) (fun _ => ?_) (fun h => absurd h (by decide))
                refine ev_s1 (L' := [some (vr 0), some (vi a), some (vi i), some (vi b), some (vi j), some (vi n), none]) (S' := [vi 0]) k166_89 rfl rfl ?_
                refine ev_s1 (L' := [some (vr 0), some (vi a), some (vi i), some (vi b), some (vi j), some (vi n), some (vi 0)]) (S' := []) k166_90 rfl rfl ?_
                refine m_cpy1 (K := J) (a := a) (i := i) (b := b) (j := j) (m := n) (by omega) (by omega) (by omega) (by omega) (by omega) (by omega) (by omega) (by omega) (by omega) (fun J0 x0 hJ0 z0 f0 => ?_) 41 J 0 hJ (by omega) (by omega) (fun y y0 y1 => absurd y1 (by omega)) (fun _ _ => rfl)
                refine ev_s1 (L' := [some (vr 0), some (vi a), some (vi i), some (vi b), some (vi j), some (vi n), some (vi x0)]) (S' := [vi 0]) k166_126 rfl rfl ?_
                refine ev_s1 (L' := [some (vr 0), some (vi a), some (vi i), some (vi b), some (vi j), some (vi n), some (vi 0)]) (S' := []) k166_127 rfl rfl ?_
                refine m_cpy2 (K := J0) (a := a) (i := i) (b := b) (j := j) (m := n) (by omega) (by omega) (by omega) (by omega) (by omega) (by omega) (by omega) (by omega) (by omega) (f := J 3) (by rw [f0 3 (by decide)]) z0 (fun J1 x1 hJ1 z1 f1 => ?_) 41 J0 0 hJ0 (by omega) (by omega) ?_ (fun _ _ => rfl)
                rotate_left
                · rw [show J0 3 = J 3 from (by rw [f0 3 (by decide)])]
                  funext y
                  rw [if_neg (by omega)]
                refine ev_s1 (L' := [some (vr 0), some (vi a), some (vi i), some (vi b), some (vi j), some (vi n), some (vi x1)]) (S' := [vr 0]) k166_164 rfl rfl ?_
                refine ev_s1 (L' := [some (vr 0), some (vi a), some (vi i), some (vi b), some (vi j), some (vi n), some (vi x1)]) (S' := [vi n, vr 0]) k166_165 rfl rfl ?_
                refine ev_virt (a := [vi n]) (S' := []) k166_167 rfl (Nat.le_of_ble_eq_true rfl) (by decide) (rfl) (by omega) ?_
                refine m_well hJ1 (v := n) (fun J12 hJ12 e12 q12 g12 => ?_)
                show Ev d 166 170 [some (vr 0), some (vi a), some (vi i), some (vi b), some (vi j), some (vi n), some (vi x1)] [vi n] (SM J12) Q
                refine ev_ireturn k166_170 ?_
                exact hQ (by omega) (by omega) (by omega) (by omega) _ ⟨hJ12, e12, fun b hb => ((q12 b hb).trans ((congrFun (f1 0 (by decide)) b).trans (congrFun (f0 0 (by decide)) b))), (by rw [g12 1 (by decide), f1 1 (by decide), f0 1 (by decide)]), (by rw [g12 2 (by decide), f1 2 (by decide), f0 2 (by decide)]), (by rw [g12 3 (by decide), z1]), fun a ha => ((g12 a (by omega)).trans ((f1 a (by omega)).trans (f0 a (by omega))))⟩
                
                
              · show Ev d 166 80 [some (vr 0), some (vi a), some (vi i), some (vi b), some (vi j), some (vi n), none] [vi 0] (SM J) Q
                refine ev_z_ne (t := 89) k166_80 rfl (by omega) (by omega) (fun h => absurd h (by decide)) (fun _ => ?_)
                refine ev_s1 (L' := [some (vr 0), some (vi a), some (vi i), some (vi b), some (vi j), some (vi n), none]) (S' := [vr 0]) k166_83 rfl rfl ?_
                refine ev_s1 (L' := [some (vr 0), some (vi a), some (vi i), some (vi b), some (vi j), some (vi n), none]) (S' := [vi 2, vr 0]) k166_84 rfl rfl ?_
                refine ev_virt (a := [vi 2]) (S' := []) k166_85 rfl (Nat.le_of_ble_eq_true rfl) (by decide) (rfl) (by omega) ?_
                refine m_found hJ (v := 2) (by omega) (by omega) (fun J13 hJ13 e13 q13 g13 => ?_)
                show Ev d 166 88 [some (vr 0), some (vi a), some (vi i), some (vi b), some (vi j), some (vi n), none] [vi (-1000010 - 2)] (SM J13) Q
                refine ev_ireturn k166_88 ?_
                exact hx2 (by omega) (by omega) (by omega) (by omega) _ ⟨hJ13, e13, fun b hb => (q13 b hb).trans (rfl), fun a a0 a4 a7 a8 a12 a13 => (g13 a (by assumption))⟩
            · show Ev d 166 68 [some (vr 0), some (vi a), some (vi i), some (vi b), some (vi j), some (vi n), none] [vi 0] (SM J) Q
              refine ev_z_eq (t := 83) k166_68 rfl (by omega) (by omega) (fun _ => ?_) (fun h => absurd h (by decide))
              refine ev_s1 (L' := [some (vr 0), some (vi a), some (vi i), some (vi b), some (vi j), some (vi n), none]) (S' := [vr 0]) k166_83 rfl rfl ?_
              refine ev_s1 (L' := [some (vr 0), some (vi a), some (vi i), some (vi b), some (vi j), some (vi n), none]) (S' := [vi 2, vr 0]) k166_84 rfl rfl ?_
              refine ev_virt (a := [vi 2]) (S' := []) k166_85 rfl (Nat.le_of_ble_eq_true rfl) (by decide) (rfl) (by omega) ?_
              refine m_found hJ (v := 2) (by omega) (by omega) (fun J14 hJ14 e14 q14 g14 => ?_)
              show Ev d 166 88 [some (vr 0), some (vi a), some (vi i), some (vi b), some (vi j), some (vi n), none] [vi (-1000010 - 2)] (SM J14) Q
              refine ev_ireturn k166_88 ?_
              exact hx2 (by omega) (by omega) (by omega) (by omega) _ ⟨hJ14, e14, fun b hb => (q14 b hb).trans (rfl), fun a a0 a4 a7 a8 a12 a13 => (g14 a (by assumption))⟩
          · refine ev_s1 (L' := [some (vr 0), some (vi a), some (vi i), some (vi b), some (vi j), some (vi n), none]) (S' := [vr 0]) k166_54 rfl rfl ?_
            refine ev_s1 (L' := [some (vr 0), some (vi a), some (vi i), some (vi b), some (vi j), some (vi n), none]) (S' := [vi 5, vr 0]) k166_55 rfl rfl ?_
            refine ev_virt (a := [vi 5]) (S' := []) k166_56 rfl (Nat.le_of_ble_eq_true rfl) (by decide) (rfl) (by omega) ?_
            refine m_found hJ (v := 5) (by omega) (by omega) (fun J15 hJ15 e15 q15 g15 => ?_)
            show Ev d 166 59 [some (vr 0), some (vi a), some (vi i), some (vi b), some (vi j), some (vi n), none] [vi (-1000010 - 5)] (SM J15) Q
            refine ev_ireturn k166_59 ?_
            exact hx5 (by omega) (by omega) (by omega) _ ⟨hJ15, e15, fun b hb => (q15 b hb).trans (rfl), fun a a0 a4 a7 a8 a12 a13 => (g15 a (by assumption))⟩
    · show Ev d 166 11 [some (vr 0), some (vi a), some (vi i), some (vi b), some (vi j), some (vi n), none] [vi 0] (SM J) Q
      refine ev_z_ne (t := 17) k166_11 rfl (by omega) (by omega) (fun h => absurd h (by decide)) (fun _ => ?_)
      refine ev_ldc k166_14 ?_
      refine ev_ireturn k166_16 ?_
      exact hB (by omega)
  · show Ev d 166 4 [some (vr 0), some (vi a), some (vi i), some (vi b), some (vi j), some (vi n), none] [vi 0] (SM J) Q
    refine ev_z_eq (t := 14) k166_4 rfl (by omega) (by omega) (fun _ => ?_) (fun h => absurd h (by decide))
    refine ev_ldc k166_14 ?_
    refine ev_ireturn k166_16 ?_
    exact hB (by omega)

set_option maxHeartbeats 1000000 in
theorem m_drop {d : Nat} {J : Nat → Int → Int} {Q : Option jV → jS → Prop} (hJ : RZ J) {r : Int} (ra : -2147483648 ≤ r) (rb : r < 2147483648) (hd : 2 ≤ d) (hB : ¬ ((0 ≤ r ∧ r ≤ 7)) → Q (some (vi (-1000001))) (SM J)) (hx1 : ((0 ≤ r ∧ r ≤ 7)) → J 1 r = -1000000 → ∀ J', SM4 J J' 1 → Q (some (vi (-1000010 - 1))) (SM J')) (hQ : ((0 ≤ r ∧ r ≤ 7)) → ¬ J 1 r = -1000000 → ∀ J', ROM J J' (updF (J 1) r (-1000000)) (J 2) (J 3) → Q (some (vi (J 2 r))) (SM J')) : Cl d 167 [vr 0, vi r] (SM J) Q := by
  refine ⟨by rw [l167]; exact Nat.le_of_ble_eq_true rfl, ?_⟩
  rw [l167]
  show Ev d 167 0 [some (vr 0), some (vi r)] [] (SM J) Q
  refine ev_s1 (L' := [some (vr 0), some (vi r)]) (S' := [vi r]) k167_0 rfl rfl ?_
  refine ev_static (a := [vi r]) (S' := []) k167_1 rfl (Nat.le_of_ble_eq_true rfl) (by omega) ?_
  refine m_isRow (r := r) (by omega) (by omega) (by omega) (fun h1 => ?_) (fun h1 => ?_)
  · show Ev d 167 4 [some (vr 0), some (vi r)] [vi 1] (SM J) Q
    refine ev_z_ne (t := 10) k167_4 rfl (by omega) (by omega) (fun _ => ?_) (fun h => absurd h (by decide))
    refine ev_s1 (L' := [some (vr 0), some (vi r)]) (S' := [vr 0]) k167_10 rfl rfl ?_
    refine ev_s1 (L' := [some (vr 0), some (vi r)]) (S' := [vi r, vr 0]) k167_11 rfl rfl ?_
    refine ev_virt (a := [vi r]) (S' := []) k167_12 rfl (Nat.le_of_ble_eq_true rfl) (by decide) (rfl) (by omega) ?_
    refine m_isMissing hJ (r := r) (by omega) (by omega) (fun h2 => ?_) (fun h2 => ?_)
    · show Ev d 167 15 [some (vr 0), some (vi r)] [vi 1] (SM J) Q
      refine ev_z_eq (t := 24) k167_15 rfl (by omega) (by omega) (fun h => absurd h (by decide)) (fun _ => ?_)
      refine ev_s1 (L' := [some (vr 0), some (vi r)]) (S' := [vr 0]) k167_18 rfl rfl ?_
      refine ev_s1 (L' := [some (vr 0), some (vi r)]) (S' := [vi 1, vr 0]) k167_19 rfl rfl ?_
      refine ev_virt (a := [vi 1]) (S' := []) k167_20 rfl (Nat.le_of_ble_eq_true rfl) (by decide) (rfl) (by omega) ?_
      refine m_found hJ (v := 1) (by omega) (by omega) (fun J3 hJ3 e3 q3 g3 => ?_)
      show Ev d 167 23 [some (vr 0), some (vi r)] [vi (-1000010 - 1)] (SM J3) Q
      refine ev_ireturn k167_23 ?_
      exact hx1 (by omega) (by omega) _ ⟨hJ3, e3, fun b hb => (q3 b hb).trans (rfl), fun a a0 a4 a7 a8 a12 a13 => (g3 a (by assumption))⟩
    · show Ev d 167 15 [some (vr 0), some (vi r)] [vi 0] (SM J) Q
      refine ev_z_eq (t := 24) k167_15 rfl (by omega) (by omega) (fun _ => ?_) (fun h => absurd h (by decide))
      refine ev_s1 (L' := [some (vr 0), some (vi r)]) (S' := [vr 0]) k167_24 rfl rfl ?_
      refine ev_getR k167_25 (by decide) (rfl) (y_0_0) ?_
      refine ev_s1 (L' := [some (vr 0), some (vi r)]) (S' := [vi r, vr 1]) k167_28 rfl rfl ?_
      refine ev_ldc k167_29 ?_
      refine ev_iast k167_31 (by decide) (rfl) (by omega) (by omega) ?_
      show Ev d 167 32 [some (vr 0), some (vi r)] [] (SM (up J 1 r (-1000000))) Q
      have hJ4 := rz_up hJ (k := 1) (j := r) (z := (-1000000)) (by omega) (by omega) (by omega)
      have g4 : ∀ aa, aa ≠ 1 → up J 1 r (-1000000) aa = J aa := fun aa h => upf h
      have q4 : ∀ bb, bb ≠ r → up J 1 r (-1000000) 1 bb = J 1 bb := fun bb h => upN (Or.inr h)
      have e4 : up J 1 r (-1000000) 1 r = (-1000000) := upE rfl rfl
      generalize up J 1 r (-1000000) = J4 at hJ4 g4 q4 e4 ⊢
      refine ev_s1 (L' := [some (vr 0), some (vi r)]) (S' := [vr 0]) k167_32 rfl rfl ?_
      refine ev_s1 (L' := [some (vr 0), some (vi r)]) (S' := [vr 0, vr 0]) k167_33 rfl rfl ?_
      refine ev_getR k167_34 (by decide) (rfl) (y_0_1) ?_
      refine ev_s1 (L' := [some (vr 0), some (vi r)]) (S' := [vi r, vr 2, vr 0]) k167_37 rfl rfl ?_
      refine ev_iald k167_38 (by decide) (rfl) (by omega) (by omega) ?_
      have rr5 := hJ4.1 2 r
      rw [g4 2 (by decide)]
      rw [g4 2 (by decide)] at rr5
      refine ev_virt (a := [vi (J 2 r)]) (S' := []) k167_39 rfl (Nat.le_of_ble_eq_true rfl) (by decide) (rfl) (by omega) ?_
      refine m_well hJ4 (v := J 2 r) (fun J6 hJ6 e6 q6 g6 => ?_)
      show Ev d 167 42 [some (vr 0), some (vi r)] [vi (J 2 r)] (SM J6) Q
      refine ev_ireturn k167_42 ?_
      exact hQ (by omega) (by omega) _ ⟨hJ6, e6, fun b hb => ((q6 b hb).trans (congrFun (g4 0 (by decide)) b)), (by funext b; unfold updF; rw [g6 1 (by decide)]; split; (rename_i q; rw [q]; exact e4); (rename_i q; rw [q4 b q])), (by rw [g6 2 (by decide), g4 2 (by decide)]), (by rw [g6 3 (by decide), g4 3 (by decide)]), fun a ha => ((g6 a (by omega)).trans (g4 a (by omega)))⟩
  · show Ev d 167 4 [some (vr 0), some (vi r)] [vi 0] (SM J) Q
    refine ev_z_ne (t := 10) k167_4 rfl (by omega) (by omega) (fun h => absurd h (by decide)) (fun _ => ?_)
    refine ev_ldc k167_7 ?_
    refine ev_ireturn k167_9 ?_
    exact hB (by omega)

set_option maxHeartbeats 1000000 in
theorem m_feed {d : Nat} {J : Nat → Int → Int} {Q : Option jV → jS → Prop} (hJ : RZ J) {v : Int} (va : -2147483648 ≤ v) (vb : v < 2147483648) (t0 : 0 ≤ J 0 6) (t1 : J 0 6 ≤ 100) (hd : 1 ≤ d) (hB : ¬ (0 ≤ v ∧ v ≤ 255) → Q (some (vi (-1000001))) (SM J)) (hF : (0 ≤ v ∧ v ≤ 255) → J 0 6 = 100 → Q (some (vi (-1000003))) (SM J)) (hQ : (0 ≤ v ∧ v ≤ 255) → J 0 6 ≠ 100 → ∀ J', RZ J' → J' 0 6 = J 0 6 + 1 → (∀ b, b ≠ 6 → J' 0 b = J 0 b) → J' 5 = updF (J 5) (J 0 6) v → (∀ a, (a ≠ 0 ∧ a ≠ 5) → J' a = J a) → Q (some (vi (J 0 6 + 1))) (SM J')) : Cl d 168 [vr 0, vi v] (SM J) Q := by
  refine ⟨by rw [l168]; exact Nat.le_of_ble_eq_true rfl, ?_⟩
  rw [l168]
  show Ev d 168 0 [some (vr 0), some (vi v)] [] (SM J) Q
  refine ev_s1 (L' := [some (vr 0), some (vi v)]) (S' := [vi v]) k168_0 rfl rfl ?_
  refine ev_s1 (L' := [some (vr 0), some (vi v)]) (S' := [vi 0, vi v]) k168_1 rfl rfl ?_
  refine ev_s1 (L' := [some (vr 0), some (vi v)]) (S' := [vi 255, vi 0, vi v]) k168_2 rfl rfl ?_
  refine ev_static (a := [vi v, vi 0, vi 255]) (S' := []) k168_5 rfl (Nat.le_of_ble_eq_true rfl) (by omega) ?_
  refine m_in (v := v) (lo := 0) (hi := 255) (by omega) (by omega) (by omega) (by omega) (by omega) (by omega) (fun h1 => ?_) (fun h1 => ?_)
  · show Ev d 168 8 [some (vr 0), some (vi v)] [vi 1] (SM J) Q
    refine ev_z_ne (t := 14) k168_8 rfl (by omega) (by omega) (fun _ => ?_) (fun h => absurd h (by decide))
    refine ev_s1 (L' := [some (vr 0), some (vi v)]) (S' := [vr 0]) k168_14 rfl rfl ?_
    refine ev_getI k168_15 (by decide) (rfl) ?_
    show Ev d 168 18 [some (vr 0), some (vi v)] [vi (J 0 6)] (SM J) Q
    have rr2 := hJ.1 0 6
    refine ev_s1 (L' := [some (vr 0), some (vi v)]) (S' := [vi 100, vi (J 0 6)]) k168_18 rfl rfl ?_
    refine ev_c_ne (t := 26) k168_20 rfl (by omega) (by omega) (by omega) (by omega) (fun h3 => ?_) (fun h3 => ?_)
    · refine ev_s1 (L' := [some (vr 0), some (vi v)]) (S' := [vr 0]) k168_26 rfl rfl ?_
      refine ev_getR k168_27 (by decide) (rfl) (y_0_5) ?_
      refine ev_s1 (L' := [some (vr 0), some (vi v)]) (S' := [vr 0, vr 5]) k168_30 rfl rfl ?_
      refine ev_getI k168_31 (by decide) (rfl) ?_
      show Ev d 168 34 [some (vr 0), some (vi v)] [vi (J 0 6), vr 5] (SM J) Q
      have rr4 := hJ.1 0 6
      refine ev_s1 (L' := [some (vr 0), some (vi v)]) (S' := [vi v, vi (J 0 6), vr 5]) k168_34 rfl rfl ?_
      refine ev_iast k168_35 (by decide) (rfl) (by omega) (by omega) ?_
      show Ev d 168 36 [some (vr 0), some (vi v)] [] (SM (up J 5 (J 0 6) v)) Q
      have hJ5 := rz_up hJ (k := 5) (j := J 0 6) (z := v) (by omega) (by omega) (by omega)
      have g5 : ∀ aa, aa ≠ 5 → up J 5 (J 0 6) v aa = J aa := fun aa h => upf h
      have q5 : ∀ bb, bb ≠ J 0 6 → up J 5 (J 0 6) v 5 bb = J 5 bb := fun bb h => upN (Or.inr h)
      have e5 : up J 5 (J 0 6) v 5 (J 0 6) = v := upE rfl rfl
      generalize up J 5 (J 0 6) v = J5 at hJ5 g5 q5 e5 ⊢
      refine ev_s1 (L' := [some (vr 0), some (vi v)]) (S' := [vr 0]) k168_36 rfl rfl ?_
      refine ev_s1 (L' := [some (vr 0), some (vi v)]) (S' := [vr 0, vr 0]) k168_37 rfl rfl ?_
      refine ev_getI k168_38 (by decide) (rfl) ?_
      show Ev d 168 41 [some (vr 0), some (vi v)] [vi (J5 0 6), vr 0] (SM J5) Q
      have rr6 := hJ5.1 0 6
      rw [g5 0 (by decide)]
      rw [g5 0 (by decide)] at rr6
      refine ev_s1 (L' := [some (vr 0), some (vi v)]) (S' := [vi 1, vi (J 0 6), vr 0]) k168_41 rfl rfl ?_
      refine ev_s1 (L' := [some (vr 0), some (vi v)]) (S' := [vi ((J 0 6) + 1), vr 0]) k168_42 rfl rfl ?_
      refine ev_putI k168_43 (by decide) (rfl) ?_
      show Ev d 168 46 [some (vr 0), some (vi v)] [] (SM (up J5 0 6 ((J 0 6) + 1))) Q
      have hJ7 := rz_up hJ5 (k := 0) (j := 6) (z := (J 0 6) + 1) (by omega) (by omega) (by omega)
      have g7 : ∀ aa, aa ≠ 0 → up J5 0 6 ((J 0 6) + 1) aa = J5 aa := fun aa h => upf h
      have q7 : ∀ bb, bb ≠ 6 → up J5 0 6 ((J 0 6) + 1) 0 bb = J5 0 bb := fun bb h => upN (Or.inr h)
      have e7 : up J5 0 6 ((J 0 6) + 1) 0 6 = (J 0 6) + 1 := upE rfl rfl
      generalize up J5 0 6 ((J 0 6) + 1) = J7 at hJ7 g7 q7 e7 ⊢
      refine ev_s1 (L' := [some (vr 0), some (vi v)]) (S' := [vr 0]) k168_46 rfl rfl ?_
      refine ev_getI k168_47 (by decide) (rfl) ?_
      show Ev d 168 50 [some (vr 0), some (vi v)] [vi (J7 0 6)] (SM J7) Q
      have rr8 := hJ7.1 0 6
      rw [e7]
      rw [e7] at rr8
      refine ev_ireturn k168_50 ?_
      exact hQ (by omega) (by omega) _ hJ7 e7 (fun b hb => (q7 b hb).trans (congrFun (g5 0 (by decide)) b)) (by rw [g7 5 (by decide)]; funext b; unfold updF; split; (rename_i q; rw [q]; exact e5); (rename_i q; exact q5 b q)) (fun a ha => ((g7 a (by omega)).trans (g5 a (by omega))))
    · refine ev_ldc k168_23 ?_
      refine ev_ireturn k168_25 ?_
      exact hF (by omega) (by omega)
  · show Ev d 168 8 [some (vr 0), some (vi v)] [vi 0] (SM J) Q
    refine ev_z_ne (t := 14) k168_8 rfl (by omega) (by omega) (fun h => absurd h (by decide)) (fun _ => ?_)
    refine ev_ldc k168_11 ?_
    refine ev_ireturn k168_13 ?_
    exact hB (by omega)

set_option maxHeartbeats 1000000 in
theorem m_nsh {d : Nat} {K : Nat → Int → Int} {Q : Option jV → jS → Prop} {f : Int → Int} (hf : K 9 = f) (hE : ∀ (J' : Nat → Int → Int) (x : Int), RZ J' → J' 9 = shF f 1104 → (∀ a, a ≠ 9 → J' a = K a) → Ev d 191 39 [some (vr 0), some (vi x)] [] (SM J') Q) : ∀ (n : Nat) (J : Nat → Int → Int) (i : Nat), RZ J → 1104 - (i : Int) < n → i ≤ 1104 → J 9 = shF f (i : Int) → (∀ a, a ≠ 9 → J a = K a) → Ev d 191 11 [some (vr 0), some (vi (i : Int))] [] (SM J) Q := by
  intro n
  induction n with
  | zero =>
    intro J i hJ hi hi2 hz hF0
    exfalso; omega
  | succ n ih =>
    intro J i hJ hi hi2 hz hF0
    refine ev_s1 (L' := [some (vr 0), some (vi (i : Int))]) (S' := [vi (i : Int)]) k191_11 rfl rfl ?_
    refine ev_s1 (L' := [some (vr 0), some (vi (i : Int))]) (S' := [vi 1104, vi (i : Int)]) k191_12 rfl rfl ?_
    refine ev_c_ge (t := 39) k191_15 rfl (by omega) (by omega) (by omega) (by omega) (fun h1 => ?_) (fun h1 => ?_)
    · rw [show (i : Int) = 1104 by omega] at hz
      exact hE _ _ hJ hz hF0
    · refine ev_s1 (L' := [some (vr 0), some (vi (i : Int))]) (S' := [vr 0]) k191_18 rfl rfl ?_
      refine ev_getR k191_19 (by decide) (rfl) (y_0_16) ?_
      refine ev_s1 (L' := [some (vr 0), some (vi (i : Int))]) (S' := [vi (i : Int), vr 9]) k191_22 rfl rfl ?_
      refine ev_s1 (L' := [some (vr 0), some (vi (i : Int))]) (S' := [vr 0, vi (i : Int), vr 9]) k191_23 rfl rfl ?_
      refine ev_getR k191_24 (by decide) (rfl) (y_0_16) ?_
      refine ev_s1 (L' := [some (vr 0), some (vi (i : Int))]) (S' := [vi (i : Int), vr 9, vi (i : Int), vr 9]) k191_27 rfl rfl ?_
      refine ev_s1 (L' := [some (vr 0), some (vi (i : Int))]) (S' := [vi 48, vi (i : Int), vr 9, vi (i : Int), vr 9]) k191_28 rfl rfl ?_
      refine ev_s1 (L' := [some (vr 0), some (vi (i : Int))]) (S' := [vi ((i : Int) + 48), vr 9, vi (i : Int), vr 9]) k191_30 rfl rfl ?_
      refine ev_iald k191_31 (by decide) (rfl) (by omega) (by omega) ?_
      have rr2 := hJ.1 9 ((i : Int) + 48)
      rw [hz]
      rw [hz] at rr2
      refine ev_iast k191_32 (by decide) (rfl) (by omega) (by omega) ?_
      show Ev d 191 33 [some (vr 0), some (vi (i : Int))] [] (SM (up J 9 (i : Int) ((shF f (i : Int)) ((i : Int) + 48)))) Q
      have hJ3 := rz_up hJ (k := 9) (j := (i : Int)) (z := (shF f (i : Int)) ((i : Int) + 48)) (by omega) (by omega) (by omega)
      have g3 : ∀ aa, aa ≠ 9 → up J 9 (i : Int) ((shF f (i : Int)) ((i : Int) + 48)) aa = J aa := fun aa h => upf h
      have q3 : ∀ bb, bb ≠ (i : Int) → up J 9 (i : Int) ((shF f (i : Int)) ((i : Int) + 48)) 9 bb = J 9 bb := fun bb h => upN (Or.inr h)
      have e3 : up J 9 (i : Int) ((shF f (i : Int)) ((i : Int) + 48)) 9 (i : Int) = (shF f (i : Int)) ((i : Int) + 48) := upE rfl rfl
      generalize up J 9 (i : Int) ((shF f (i : Int)) ((i : Int) + 48)) = J3 at hJ3 g3 q3 e3 ⊢
      refine ev_s1 (L' := [some (vr 0), some (vi ((i : Int) + 1))]) (S' := []) k191_33 rfl rfl ?_
      refine ev_goto (t := 11) k191_36 rfl ?_
      refine ih J3 (i + 1) hJ3 (by omega) (by omega) ?_ (fun a a9 => ((g3 a (by assumption)).trans (hF0 a a9)))
      funext b
      by_cases q : b = (i : Int)
      · rw [q, e3]
        unfold shF
        rw [if_neg (by omega), if_pos (by omega)]
      · rw [q3 b q, hz]
        unfold shF
        by_cases q2 : 0 ≤ b ∧ b < (i : Int)
        · rw [if_pos q2, if_pos (by omega)]
        · rw [if_neg q2, if_neg (by omega)]

set_option maxHeartbeats 1000000 in
theorem m_notes {d : Nat} {J : Nat → Int → Int} {Q : Option jV → jS → Prop} (hJ : RZ J) (t0 : 0 ≤ J 0 17) (t1 : J 0 17 ≤ 24) (hd : 1 ≤ d) (hQ : ∀ J', RZ J' → NTM J J' → (∀ b, b ≠ 17 → J' 0 b = J 0 b) → (∀ a, (a ≠ 0 ∧ a ≠ 9) → J' a = J a) → Q none (SM J')) : Cl d 191 [vr 0] (SM J) Q := by
  refine ⟨by rw [l191]; exact Nat.le_of_ble_eq_true rfl, ?_⟩
  rw [l191]
  show Ev d 191 0 [some (vr 0), none] [] (SM J) Q
  refine ev_s1 (L' := [some (vr 0), none]) (S' := [vr 0]) k191_0 rfl rfl ?_
  refine ev_getI k191_1 (by decide) (rfl) ?_
  show Ev d 191 4 [some (vr 0), none] [vi (J 0 17)] (SM J) Q
  have rr1 := hJ.1 0 17
  refine ev_s1 (L' := [some (vr 0), none]) (S' := [vi 24, vi (J 0 17)]) k191_4 rfl rfl ?_
  refine ev_c_ne (t := 49) k191_6 rfl (by omega) (by omega) (by omega) (by omega) (fun h2 => ?_) (fun h2 => ?_)
  · refine ev_s1 (L' := [some (vr 0), none]) (S' := [vr 0]) k191_49 rfl rfl ?_
    refine ev_getR k191_50 (by decide) (rfl) (y_0_13) ?_
    refine ev_s1 (L' := [some (vr 0), none]) (S' := [vi 0, vr 6]) k191_53 rfl rfl ?_
    refine ev_s1 (L' := [some (vr 0), none]) (S' := [vr 0, vi 0, vr 6]) k191_54 rfl rfl ?_
    refine ev_getR k191_55 (by decide) (rfl) (y_0_16) ?_
    refine ev_s1 (L' := [some (vr 0), none]) (S' := [vi 48, vr 9, vi 0, vr 6]) k191_58 rfl rfl ?_
    refine ev_s1 (L' := [some (vr 0), none]) (S' := [vr 0, vi 48, vr 9, vi 0, vr 6]) k191_60 rfl rfl ?_
    refine ev_getI k191_61 (by decide) (rfl) ?_
    show Ev d 191 64 [some (vr 0), none] [vi (J 0 17), vi 48, vr 9, vi 0, vr 6] (SM J) Q
    have rr3 := hJ.1 0 17
    refine ev_s1 (L' := [some (vr 0), none]) (S' := [vi (48 * (J 0 17)), vr 9, vi 0, vr 6]) k191_64 rfl rfl ?_
    refine ev_static (a := [vr 6, vi 0, vr 9, vi (48 * (J 0 17))]) (S' := []) k191_65 rfl (Nat.le_of_ble_eq_true rfl) (by omega) ?_
    refine m_copies hJ (f := 6) (t := 9) (lf := 48) (lt := 1152) (a := 0) (b := 48 * (J 0 17)) (by decide) ⟨by decide, rfl⟩ ⟨by decide, rfl⟩ (by omega) (by omega) (by omega) (by omega) (by omega) (by decide) (by decide) (fun J4 hJ4 w4 f4 => ?_)
    show Ev d 191 68 [some (vr 0), none] [] (SM J4) Q
    refine ev_s1 (L' := [some (vr 0), none]) (S' := [vr 0]) k191_68 rfl rfl ?_
    refine ev_s1 (L' := [some (vr 0), none]) (S' := [vr 0, vr 0]) k191_69 rfl rfl ?_
    refine ev_getI k191_70 (by decide) (rfl) ?_
    show Ev d 191 73 [some (vr 0), none] [vi (J4 0 17), vr 0] (SM J4) Q
    have rr5 := hJ4.1 0 17
    rw [f4 0 (by decide)]
    rw [f4 0 (by decide)] at rr5
    refine ev_s1 (L' := [some (vr 0), none]) (S' := [vi 1, vi (J 0 17), vr 0]) k191_73 rfl rfl ?_
    refine ev_s1 (L' := [some (vr 0), none]) (S' := [vi ((J 0 17) + 1), vr 0]) k191_74 rfl rfl ?_
    refine ev_putI k191_75 (by decide) (rfl) ?_
    show Ev d 191 78 [some (vr 0), none] [] (SM (up J4 0 17 ((J 0 17) + 1))) Q
    have hJ6 := rz_up hJ4 (k := 0) (j := 17) (z := (J 0 17) + 1) (by omega) (by omega) (by omega)
    have g6 : ∀ aa, aa ≠ 0 → up J4 0 17 ((J 0 17) + 1) aa = J4 aa := fun aa h => upf h
    have q6 : ∀ bb, bb ≠ 17 → up J4 0 17 ((J 0 17) + 1) 0 bb = J4 0 bb := fun bb h => upN (Or.inr h)
    have e6 : up J4 0 17 ((J 0 17) + 1) 0 17 = (J 0 17) + 1 := upE rfl rfl
    generalize up J4 0 17 ((J 0 17) + 1) = J6 at hJ6 g6 q6 e6 ⊢
    refine ev_return k191_78 ?_
    refine hQ _ hJ6 ⟨by rw [e6]; rw [if_neg (by omega)], fun i i0 i1 => ?_⟩ (fun b hb => ((q6 b hb).trans (congrFun (f4 0 (by decide)) b))) (fun a ha => ((g6 a (by omega)).trans (f4 a (by omega))))
    rw [e6] at i1
    rw [g6 9 (by decide), w4, e6]
    rw [nt_lt (hJ.2 6 (by decide) (by decide)) (by omega), if_neg (show ¬ J 0 17 = 24 by omega)]
    by_cases q : i = J 0 17
    · rw [if_pos q, if_pos (by omega)]
    · rw [if_neg q, if_neg (by omega)]
  · refine ev_s1 (L' := [some (vr 0), none]) (S' := [vi 0]) k191_9 rfl rfl ?_
    refine ev_s1 (L' := [some (vr 0), some (vi 0)]) (S' := []) k191_10 rfl rfl ?_
    refine m_nsh (K := J) (f := J 9) rfl (fun J0 x0 hJ0 z0 f0 => ?_) 1105 J 0 hJ (by omega) (by omega) (by funext b; unfold shF; rw [if_neg (by omega)]) (fun _ _ => rfl)
    refine ev_s1 (L' := [some (vr 0), some (vi x0)]) (S' := [vr 0]) k191_39 rfl rfl ?_
    refine ev_s1 (L' := [some (vr 0), some (vi x0)]) (S' := [vr 0, vr 0]) k191_40 rfl rfl ?_
    refine ev_getI k191_41 (by decide) (rfl) ?_
    show Ev d 191 44 [some (vr 0), some (vi x0)] [vi (J0 0 17), vr 0] (SM J0) Q
    have rr7 := hJ0.1 0 17
    rw [f0 0 (by decide)]
    rw [f0 0 (by decide)] at rr7
    refine ev_s1 (L' := [some (vr 0), some (vi x0)]) (S' := [vi 1, vi (J 0 17), vr 0]) k191_44 rfl rfl ?_
    refine ev_s1 (L' := [some (vr 0), some (vi x0)]) (S' := [vi ((J 0 17) - 1), vr 0]) k191_45 rfl rfl ?_
    refine ev_putI k191_46 (by decide) (rfl) ?_
    show Ev d 191 49 [some (vr 0), some (vi x0)] [] (SM (up J0 0 17 ((J 0 17) - 1))) Q
    have hJ8 := rz_up hJ0 (k := 0) (j := 17) (z := (J 0 17) - 1) (by omega) (by omega) (by omega)
    have g8 : ∀ aa, aa ≠ 0 → up J0 0 17 ((J 0 17) - 1) aa = J0 aa := fun aa h => upf h
    have q8 : ∀ bb, bb ≠ 17 → up J0 0 17 ((J 0 17) - 1) 0 bb = J0 0 bb := fun bb h => upN (Or.inr h)
    have e8 : up J0 0 17 ((J 0 17) - 1) 0 17 = (J 0 17) - 1 := upE rfl rfl
    generalize up J0 0 17 ((J 0 17) - 1) = J8 at hJ8 g8 q8 e8 ⊢
    refine ev_s1 (L' := [some (vr 0), some (vi x0)]) (S' := [vr 0]) k191_49 rfl rfl ?_
    refine ev_getR k191_50 (by decide) (rfl) (y_0_13) ?_
    refine ev_s1 (L' := [some (vr 0), some (vi x0)]) (S' := [vi 0, vr 6]) k191_53 rfl rfl ?_
    refine ev_s1 (L' := [some (vr 0), some (vi x0)]) (S' := [vr 0, vi 0, vr 6]) k191_54 rfl rfl ?_
    refine ev_getR k191_55 (by decide) (rfl) (y_0_16) ?_
    refine ev_s1 (L' := [some (vr 0), some (vi x0)]) (S' := [vi 48, vr 9, vi 0, vr 6]) k191_58 rfl rfl ?_
    refine ev_s1 (L' := [some (vr 0), some (vi x0)]) (S' := [vr 0, vi 48, vr 9, vi 0, vr 6]) k191_60 rfl rfl ?_
    refine ev_getI k191_61 (by decide) (rfl) ?_
    show Ev d 191 64 [some (vr 0), some (vi x0)] [vi (J8 0 17), vi 48, vr 9, vi 0, vr 6] (SM J8) Q
    have rr9 := hJ8.1 0 17
    rw [e8]
    rw [e8] at rr9
    refine ev_s1 (L' := [some (vr 0), some (vi x0)]) (S' := [vi (48 * ((J 0 17) - 1)), vr 9, vi 0, vr 6]) k191_64 rfl rfl ?_
    refine ev_static (a := [vr 6, vi 0, vr 9, vi (48 * ((J 0 17) - 1))]) (S' := []) k191_65 rfl (Nat.le_of_ble_eq_true rfl) (by omega) ?_
    refine m_copies hJ8 (f := 6) (t := 9) (lf := 48) (lt := 1152) (a := 0) (b := 48 * ((J 0 17) - 1)) (by decide) ⟨by decide, rfl⟩ ⟨by decide, rfl⟩ (by omega) (by omega) (by omega) (by omega) (by omega) (by decide) (by decide) (fun J10 hJ10 w10 f10 => ?_)
    rw [g8 6 (by decide), f0 6 (by decide), g8 9 (by decide), z0] at w10
    show Ev d 191 68 [some (vr 0), some (vi x0)] [] (SM J10) Q
    refine ev_s1 (L' := [some (vr 0), some (vi x0)]) (S' := [vr 0]) k191_68 rfl rfl ?_
    refine ev_s1 (L' := [some (vr 0), some (vi x0)]) (S' := [vr 0, vr 0]) k191_69 rfl rfl ?_
    refine ev_getI k191_70 (by decide) (rfl) ?_
    show Ev d 191 73 [some (vr 0), some (vi x0)] [vi (J10 0 17), vr 0] (SM J10) Q
    have rr11 := hJ10.1 0 17
    rw [f10 0 (by decide), e8]
    rw [f10 0 (by decide), e8] at rr11
    refine ev_s1 (L' := [some (vr 0), some (vi x0)]) (S' := [vi 1, vi ((J 0 17) - 1), vr 0]) k191_73 rfl rfl ?_
    refine ev_s1 (L' := [some (vr 0), some (vi x0)]) (S' := [vi (((J 0 17) - 1) + 1), vr 0]) k191_74 rfl rfl ?_
    refine ev_putI k191_75 (by decide) (rfl) ?_
    show Ev d 191 78 [some (vr 0), some (vi x0)] [] (SM (up J10 0 17 (((J 0 17) - 1) + 1))) Q
    have hJ12 := rz_up hJ10 (k := 0) (j := 17) (z := ((J 0 17) - 1) + 1) (by omega) (by omega) (by omega)
    have g12 : ∀ aa, aa ≠ 0 → up J10 0 17 (((J 0 17) - 1) + 1) aa = J10 aa := fun aa h => upf h
    have q12 : ∀ bb, bb ≠ 17 → up J10 0 17 (((J 0 17) - 1) + 1) 0 bb = J10 0 bb := fun bb h => upN (Or.inr h)
    have e12 : up J10 0 17 (((J 0 17) - 1) + 1) 0 17 = ((J 0 17) - 1) + 1 := upE rfl rfl
    generalize up J10 0 17 (((J 0 17) - 1) + 1) = J12 at hJ12 g12 q12 e12 ⊢
    refine ev_return k191_78 ?_
    refine hQ _ hJ12 ⟨by rw [e12]; rw [if_pos (by omega)]; omega, fun i i0 i1 => ?_⟩ (fun b hb => ((q12 b hb).trans ((congrFun (f10 0 (by decide)) b).trans ((q8 b hb).trans (congrFun (f0 0 (by decide)) b))))) (fun a ha => ((g12 a (by omega)).trans ((f10 a (by omega)).trans ((g8 a (by omega)).trans (f0 a (by omega))))))
    rw [e12] at i1
    rw [g12 9 (by decide), w10, e12]
    rw [nt_lt (hJ.2 6 (by decide) (by decide)) (by omega), if_pos (show J 0 17 = 24 by omega)]
    by_cases q : i = J 0 17 - 1
    · rw [if_pos q, if_pos (by omega)]
    · rw [if_neg q, if_neg (by omega), cut_sh i0 (by omega)]
    

set_option maxHeartbeats 1000000 in
theorem m_sit {d : Nat} {J : Nat → Int → Int} {Q : Option jV → jS → Prop} (hJ : RZ J) (hw : OKW (J 6)) (t0 : 0 ≤ J 0 17) (t1 : J 0 17 ≤ 24) {g c : Int} (ga : -2147483648 ≤ g) (gb : g < 2147483648) (ca : -2147483648 ≤ c) (cb : c < 2147483648) (hd : 4 ≤ d) (hB : ¬ ((0 ≤ g ∧ g < J 6 2) ∧ (0 ≤ c ∧ c < J 6 1)) → Q (some (vi (-1000001))) (SM J)) (hS : ((0 ≤ g ∧ g < J 6 2) ∧ (0 ≤ c ∧ c < J 6 1)) → J 6 (28 + 4 * g + 2) ≠ 0 ∨ sitW (J 6) c ≠ -1000000 → Q (some (vi (-1000002))) (SM J)) (hQ : ((0 ≤ g ∧ g < J 6 2) ∧ (0 ≤ c ∧ c < J 6 1)) → ¬ (J 6 (28 + 4 * g + 2) ≠ 0 ∨ sitW (J 6) c ≠ -1000000) → ∀ J', ACT J J' (putsW (J 6) g c) → Q (some (vi (bearW (J 6) c (J 6 (28 + 4 * g))))) (SM J')) : Cl d 192 [vr 0, vi g, vi c] (SM J) Q := by
  have w0 := hw.1
  have w1 := hw.2.1
  have w2 := hw.2.2.1
  refine ⟨by rw [l192]; exact Nat.le_of_ble_eq_true rfl, ?_⟩
  rw [l192]
  show Ev d 192 0 [some (vr 0), some (vi g), some (vi c)] [] (SM J) Q
  refine ev_s1 (L' := [some (vr 0), some (vi g), some (vi c)]) (S' := [vr 0]) k192_0 rfl rfl ?_
  refine ev_s1 (L' := [some (vr 0), some (vi g), some (vi c)]) (S' := [vi g, vr 0]) k192_1 rfl rfl ?_
  refine ev_virt (a := [vi g]) (S' := []) k192_2 rfl (Nat.le_of_ble_eq_true rfl) (by decide) (rfl) (by omega) ?_
  refine m_isGuest hJ (g := g) (by omega) (by omega) (by omega) (by omega) (fun h1 => ?_) (fun h1 => ?_)
  · show Ev d 192 5 [some (vr 0), some (vi g), some (vi c)] [vi 1] (SM J) Q
    refine ev_z_eq (t := 16) k192_5 rfl (by omega) (by omega) (fun h => absurd h (by decide)) (fun _ => ?_)
    refine ev_s1 (L' := [some (vr 0), some (vi g), some (vi c)]) (S' := [vr 0]) k192_8 rfl rfl ?_
    refine ev_s1 (L' := [some (vr 0), some (vi g), some (vi c)]) (S' := [vi c, vr 0]) k192_9 rfl rfl ?_
    refine ev_virt (a := [vi c]) (S' := []) k192_10 rfl (Nat.le_of_ble_eq_true rfl) (by decide) (rfl) (by omega) ?_
    refine m_isChair hJ (c := c) (by omega) (by omega) (by omega) (by omega) (fun h2 => ?_) (fun h2 => ?_)
    · show Ev d 192 13 [some (vr 0), some (vi g), some (vi c)] [vi 1] (SM J) Q
      refine ev_z_ne (t := 19) k192_13 rfl (by omega) (by omega) (fun _ => ?_) (fun h => absurd h (by decide))
      have wat := (hw.2.2.2.2.1 g (by omega) (by omega)).2.2.1
      refine ev_s1 (L' := [some (vr 0), some (vi g), some (vi c)]) (S' := [vr 0]) k192_19 rfl rfl ?_
      refine ev_getR k192_20 (by decide) (rfl) (y_0_13) ?_
      refine ev_s1 (L' := [some (vr 0), some (vi g), some (vi c)]) (S' := [vi 28, vr 6]) k192_23 rfl rfl ?_
      refine ev_s1 (L' := [some (vr 0), some (vi g), some (vi c)]) (S' := [vi 4, vi 28, vr 6]) k192_25 rfl rfl ?_
      refine ev_s1 (L' := [some (vr 0), some (vi g), some (vi c)]) (S' := [vi g, vi 4, vi 28, vr 6]) k192_26 rfl rfl ?_
      refine ev_s1 (L' := [some (vr 0), some (vi g), some (vi c)]) (S' := [vi (4 * g), vi 28, vr 6]) k192_27 rfl rfl ?_
      refine ev_s1 (L' := [some (vr 0), some (vi g), some (vi c)]) (S' := [vi (28 + (4 * g)), vr 6]) k192_28 rfl rfl ?_
      refine ev_s1 (L' := [some (vr 0), some (vi g), some (vi c)]) (S' := [vi 2, vi (28 + (4 * g)), vr 6]) k192_29 rfl rfl ?_
      refine ev_s1 (L' := [some (vr 0), some (vi g), some (vi c)]) (S' := [vi ((28 + (4 * g)) + 2), vr 6]) k192_30 rfl rfl ?_
      refine ev_iald k192_31 (by decide) (rfl) (by omega) (by omega) ?_
      have rr3 := hJ.1 6 ((28 + (4 * g)) + 2)
      refine ev_z_gt (t := 48) k192_32 rfl (by omega) (by omega) (fun h4 => ?_) (fun h4 => ?_)
      · refine ev_ldc k192_48 ?_
        refine ev_ireturn k192_50 ?_
        exact hS (by omega) (by omega)
      · refine ev_s1 (L' := [some (vr 0), some (vi g), some (vi c)]) (S' := [vr 0]) k192_35 rfl rfl ?_
        refine ev_getR k192_36 (by decide) (rfl) (y_0_13) ?_
        refine ev_s1 (L' := [some (vr 0), some (vi g), some (vi c)]) (S' := [vi c, vr 6]) k192_39 rfl rfl ?_
        refine ev_static (a := [vr 6, vi c]) (S' := []) k192_40 rfl (Nat.le_of_ble_eq_true rfl) (by omega) ?_
        refine m_sitter hJ (k := 6) (by decide) (c := c) (by omega) (by omega) (by omega) (by omega) (?_)
        have sr40 := sit_rng (J 6) c (by omega)
        show Ev d 192 43 [some (vr 0), some (vi g), some (vi c)] [vi (sitW (J 6) c)] (SM J) Q
        refine ev_ldc k192_43 ?_
        refine ev_c_eq (t := 51) k192_45 rfl (by omega) (by omega) (by omega) (by omega) (fun h5 => ?_) (fun h5 => ?_)
        · refine ev_s1 (L' := [some (vr 0), some (vi g), some (vi c)]) (S' := [vr 0]) k192_51 rfl rfl ?_
          refine ev_virt (a := []) (S' := []) k192_52 rfl (Nat.le_of_ble_eq_true rfl) (by decide) (rfl) (by omega) ?_
          refine m_notes hJ (by omega) (by omega) (by omega) (fun J6 hJ6 nt6 q6 f6 => ?_)
          show Ev d 192 55 [some (vr 0), some (vi g), some (vi c)] [] (SM J6) Q
          refine ev_s1 (L' := [some (vr 0), some (vi g), some (vi c)]) (S' := [vr 0]) k192_55 rfl rfl ?_
          refine ev_getR k192_56 (by decide) (rfl) (y_0_13) ?_
          refine ev_s1 (L' := [some (vr 0), some (vi g), some (vi c)]) (S' := [vi g, vr 6]) k192_59 rfl rfl ?_
          refine ev_s1 (L' := [some (vr 0), some (vi g), some (vi c)]) (S' := [vi c, vi g, vr 6]) k192_60 rfl rfl ?_
          refine ev_static (a := [vr 6, vi g, vi c]) (S' := []) k192_61 rfl (Nat.le_of_ble_eq_true rfl) (by omega) ?_
          refine m_puts hJ6 (k := 6) (by decide) (g := g) (c := c) (by omega) (by omega) (by omega) (by omega) (by rw [f6 6 (by decide)]; exact (hw.2.2.2.1 c (by omega) (by omega))) (by rw [f6 6 (by decide)]; exact (hw.2.2.2.2.1 g (by omega) (by omega)).1) (by rw [f6 6 (by decide)]; exact (hw.2.2.2.2.1 g (by omega) (by omega)).2.1) (by omega) (fun J7 hJ7 w7 f7 => ?_)
          rw [f6 6 (by decide)] at w7
          show Ev d 192 64 [some (vr 0), some (vi g), some (vi c)] [] (SM J7) Q
          refine ev_s1 (L' := [some (vr 0), some (vi g), some (vi c)]) (S' := [vr 0]) k192_64 rfl rfl ?_
          refine ev_getR k192_65 (by decide) (rfl) (y_0_13) ?_
          refine ev_s1 (L' := [some (vr 0), some (vi g), some (vi c)]) (S' := [vi 28, vr 6]) k192_68 rfl rfl ?_
          refine ev_s1 (L' := [some (vr 0), some (vi g), some (vi c)]) (S' := [vi 4, vi 28, vr 6]) k192_70 rfl rfl ?_
          refine ev_s1 (L' := [some (vr 0), some (vi g), some (vi c)]) (S' := [vi g, vi 4, vi 28, vr 6]) k192_71 rfl rfl ?_
          refine ev_s1 (L' := [some (vr 0), some (vi g), some (vi c)]) (S' := [vi (4 * g), vi 28, vr 6]) k192_72 rfl rfl ?_
          refine ev_s1 (L' := [some (vr 0), some (vi g), some (vi c)]) (S' := [vi (28 + (4 * g)), vr 6]) k192_73 rfl rfl ?_
          refine ev_s1 (L' := [some (vr 0), some (vi g), some (vi c)]) (S' := [vi 3, vi (28 + (4 * g)), vr 6]) k192_74 rfl rfl ?_
          refine ev_s1 (L' := [some (vr 0), some (vi g), some (vi c)]) (S' := [vi ((28 + (4 * g)) + 3), vr 6]) k192_75 rfl rfl ?_
          refine ev_iald k192_76 (by decide) (rfl) (by omega) (by omega) ?_
          have rr8 := hJ7.1 6 ((28 + (4 * g)) + 3)
          rw [w7]
          rw [w7] at rr8
          refine ev_ireturn k192_77 ?_
          rw [show putsW (J 6) g c (28 + 4 * g + 3) = bearW (J 6) c (J 6 (28 + 4 * g)) by rw [puts_b (by omega) (by omega) (by omega), if_pos rfl]]
          exact hQ (by omega) (by omega) _ ⟨hJ7, (by rw [w7]), nt6.fr (by rw [f7 0 (by decide)]) (by rw [f7 9 (by decide)]), fun b hb => ((congrFun (f7 0 (by decide)) b).trans (q6 b hb)), fun a ha => ((f7 a (by omega)).trans (f6 a (by omega)))⟩
        · refine ev_ldc k192_48 ?_
          refine ev_ireturn k192_50 ?_
          exact hS (by omega) (by omega)
    · show Ev d 192 13 [some (vr 0), some (vi g), some (vi c)] [vi 0] (SM J) Q
      refine ev_z_ne (t := 19) k192_13 rfl (by omega) (by omega) (fun h => absurd h (by decide)) (fun _ => ?_)
      refine ev_ldc k192_16 ?_
      refine ev_ireturn k192_18 ?_
      exact hB (by omega)
  · show Ev d 192 5 [some (vr 0), some (vi g), some (vi c)] [vi 0] (SM J) Q
    refine ev_z_eq (t := 16) k192_5 rfl (by omega) (by omega) (fun _ => ?_) (fun h => absurd h (by decide))
    refine ev_ldc k192_16 ?_
    refine ev_ireturn k192_18 ?_
    exact hB (by omega)

set_option maxHeartbeats 1000000 in
theorem m_rise {d : Nat} {J : Nat → Int → Int} {Q : Option jV → jS → Prop} (hJ : RZ J) (hw : OKW (J 6)) (t0 : 0 ≤ J 0 17) (t1 : J 0 17 ≤ 24) {g : Int} (ga : -2147483648 ≤ g) (gb : g < 2147483648) (hd : 3 ≤ d) (hB : ¬ (0 ≤ g ∧ g < J 6 2) → Q (some (vi (-1000001))) (SM J)) (hS : (0 ≤ g ∧ g < J 6 2) → J 6 (28 + 4 * g + 2) = 0 → Q (some (vi (-1000002))) (SM J)) (hQ : (0 ≤ g ∧ g < J 6 2) → J 6 (28 + 4 * g + 2) ≠ 0 → ∀ J', ACT J J' (liftW (J 6) g) → Q (some (vi (J 6 (28 + 4 * g + 2) - 1))) (SM J')) : Cl d 193 [vr 0, vi g] (SM J) Q := by
  have w0 := hw.1
  have w1 := hw.2.1
  have w2 := hw.2.2.1
  refine ⟨by rw [l193]; exact Nat.le_of_ble_eq_true rfl, ?_⟩
  rw [l193]
  show Ev d 193 0 [some (vr 0), some (vi g), none, none] [] (SM J) Q
  refine ev_s1 (L' := [some (vr 0), some (vi g), none, none]) (S' := [vr 0]) k193_0 rfl rfl ?_
  refine ev_s1 (L' := [some (vr 0), some (vi g), none, none]) (S' := [vi g, vr 0]) k193_1 rfl rfl ?_
  refine ev_virt (a := [vi g]) (S' := []) k193_2 rfl (Nat.le_of_ble_eq_true rfl) (by decide) (rfl) (by omega) ?_
  refine m_isGuest hJ (g := g) (by omega) (by omega) (by omega) (by omega) (fun h1 => ?_) (fun h1 => ?_)
  · show Ev d 193 5 [some (vr 0), some (vi g), none, none] [vi 1] (SM J) Q
    refine ev_z_ne (t := 11) k193_5 rfl (by omega) (by omega) (fun _ => ?_) (fun h => absurd h (by decide))
    refine ev_s1 (L' := [some (vr 0), some (vi g), none, none]) (S' := [vi 28]) k193_11 rfl rfl ?_
    refine ev_s1 (L' := [some (vr 0), some (vi g), none, none]) (S' := [vi 4, vi 28]) k193_13 rfl rfl ?_
    refine ev_s1 (L' := [some (vr 0), some (vi g), none, none]) (S' := [vi g, vi 4, vi 28]) k193_14 rfl rfl ?_
    refine ev_s1 (L' := [some (vr 0), some (vi g), none, none]) (S' := [vi (4 * g), vi 28]) k193_15 rfl rfl ?_
    refine ev_s1 (L' := [some (vr 0), some (vi g), none, none]) (S' := [vi (28 + (4 * g))]) k193_16 rfl rfl ?_
    refine ev_s1 (L' := [some (vr 0), some (vi g), none, none]) (S' := [vi 2, vi (28 + (4 * g))]) k193_17 rfl rfl ?_
    refine ev_s1 (L' := [some (vr 0), some (vi g), none, none]) (S' := [vi ((28 + (4 * g)) + 2)]) k193_18 rfl rfl ?_
    refine ev_s1 (L' := [some (vr 0), some (vi g), some (vi ((28 + (4 * g)) + 2)), none]) (S' := []) k193_19 rfl rfl ?_
    refine ev_s1 (L' := [some (vr 0), some (vi g), some (vi ((28 + (4 * g)) + 2)), none]) (S' := [vr 0]) k193_20 rfl rfl ?_
    refine ev_getR k193_21 (by decide) (rfl) (y_0_13) ?_
    refine ev_s1 (L' := [some (vr 0), some (vi g), some (vi ((28 + (4 * g)) + 2)), none]) (S' := [vi ((28 + (4 * g)) + 2), vr 6]) k193_24 rfl rfl ?_
    refine ev_iald k193_25 (by decide) (rfl) (by omega) (by omega) ?_
    have rr2 := hJ.1 6 ((28 + (4 * g)) + 2)
    refine ev_z_ne (t := 32) k193_26 rfl (by omega) (by omega) (fun h3 => ?_) (fun h3 => ?_)
    · refine ev_s1 (L' := [some (vr 0), some (vi g), some (vi ((28 + (4 * g)) + 2)), none]) (S' := [vr 0]) k193_32 rfl rfl ?_
      refine ev_virt (a := []) (S' := []) k193_33 rfl (Nat.le_of_ble_eq_true rfl) (by decide) (rfl) (by omega) ?_
      refine m_notes hJ (by omega) (by omega) (by omega) (fun J4 hJ4 nt4 q4 f4 => ?_)
      show Ev d 193 36 [some (vr 0), some (vi g), some (vi ((28 + (4 * g)) + 2)), none] [] (SM J4) Q
      refine ev_s1 (L' := [some (vr 0), some (vi g), some (vi ((28 + (4 * g)) + 2)), none]) (S' := [vr 0]) k193_36 rfl rfl ?_
      refine ev_getR k193_37 (by decide) (rfl) (y_0_13) ?_
      refine ev_s1 (L' := [some (vr 0), some (vi g), some (vi ((28 + (4 * g)) + 2)), none]) (S' := [vi ((28 + (4 * g)) + 2), vr 6]) k193_40 rfl rfl ?_
      refine ev_iald k193_41 (by decide) (rfl) (by omega) (by omega) ?_
      have rr5 := hJ4.1 6 ((28 + (4 * g)) + 2)
      rw [f4 6 (by decide)]
      rw [f4 6 (by decide)] at rr5
      refine ev_s1 (L' := [some (vr 0), some (vi g), some (vi ((28 + (4 * g)) + 2)), none]) (S' := [vi 1, vi (J 6 ((28 + (4 * g)) + 2))]) k193_42 rfl rfl ?_
      refine ev_s1 (L' := [some (vr 0), some (vi g), some (vi ((28 + (4 * g)) + 2)), none]) (S' := [vi ((J 6 ((28 + (4 * g)) + 2)) - 1)]) k193_43 rfl rfl ?_
      refine ev_s1 (L' := [some (vr 0), some (vi g), some (vi ((28 + (4 * g)) + 2)), some (vi ((J 6 ((28 + (4 * g)) + 2)) - 1))]) (S' := []) k193_44 rfl rfl ?_
      refine ev_s1 (L' := [some (vr 0), some (vi g), some (vi ((28 + (4 * g)) + 2)), some (vi ((J 6 ((28 + (4 * g)) + 2)) - 1))]) (S' := [vr 0]) k193_45 rfl rfl ?_
      refine ev_getR k193_46 (by decide) (rfl) (y_0_13) ?_
      refine ev_s1 (L' := [some (vr 0), some (vi g), some (vi ((28 + (4 * g)) + 2)), some (vi ((J 6 ((28 + (4 * g)) + 2)) - 1))]) (S' := [vi ((28 + (4 * g)) + 2), vr 6]) k193_49 rfl rfl ?_
      refine ev_s1 (L' := [some (vr 0), some (vi g), some (vi ((28 + (4 * g)) + 2)), some (vi ((J 6 ((28 + (4 * g)) + 2)) - 1))]) (S' := [vi 0, vi ((28 + (4 * g)) + 2), vr 6]) k193_50 rfl rfl ?_
      refine ev_iast k193_51 (by decide) (rfl) (by omega) (by omega) ?_
      show Ev d 193 52 [some (vr 0), some (vi g), some (vi ((28 + (4 * g)) + 2)), some (vi ((J 6 ((28 + (4 * g)) + 2)) - 1))] [] (SM (up J4 6 ((28 + (4 * g)) + 2) 0)) Q
      have hJ6 := rz_up hJ4 (k := 6) (j := (28 + (4 * g)) + 2) (z := 0) (by omega) (by omega) (by omega)
      have g6 : ∀ aa, aa ≠ 6 → up J4 6 ((28 + (4 * g)) + 2) 0 aa = J4 aa := fun aa h => upf h
      have q6 : ∀ bb, bb ≠ (28 + (4 * g)) + 2 → up J4 6 ((28 + (4 * g)) + 2) 0 6 bb = J4 6 bb := fun bb h => upN (Or.inr h)
      have e6 : up J4 6 ((28 + (4 * g)) + 2) 0 6 ((28 + (4 * g)) + 2) = 0 := upE rfl rfl
      generalize up J4 6 ((28 + (4 * g)) + 2) 0 = J6 at hJ6 g6 q6 e6 ⊢
      refine ev_s1 (L' := [some (vr 0), some (vi g), some (vi ((28 + (4 * g)) + 2)), some (vi ((J 6 ((28 + (4 * g)) + 2)) - 1))]) (S' := [vi ((J 6 ((28 + (4 * g)) + 2)) - 1)]) k193_52 rfl rfl ?_
      refine ev_ireturn k193_53 ?_
      exact hQ (by omega) (by omega) _ ⟨hJ6, (by funext b; unfold liftW; split; (rename_i q; rw [q]; exact e6); (rename_i q; rw [q6 b q, f4 6 (by decide)])), nt4.fr (by rw [g6 0 (by decide)]) (by rw [g6 9 (by decide)]), fun b hb => ((congrFun (g6 0 (by decide)) b).trans (q4 b hb)), fun a ha => ((g6 a (by omega)).trans (f4 a (by omega)))⟩
    · refine ev_ldc k193_29 ?_
      refine ev_ireturn k193_31 ?_
      exact hS (by omega) (by omega)
  · show Ev d 193 5 [some (vr 0), some (vi g), none, none] [vi 0] (SM J) Q
    refine ev_z_ne (t := 11) k193_5 rfl (by omega) (by omega) (fun h => absurd h (by decide)) (fun _ => ?_)
    refine ev_ldc k193_8 ?_
    refine ev_ireturn k193_10 ?_
    exact hB (by omega)

set_option maxHeartbeats 1000000 in
theorem m_recane {d : Nat} {J : Nat → Int → Int} {Q : Option jV → jS → Prop} (hJ : RZ J) (hw : OKW (J 6)) (t0 : 0 ≤ J 0 17) (t1 : J 0 17 ≤ 24) {c : Int} (ca : -2147483648 ≤ c) (cb : c < 2147483648) (hd : 3 ≤ d) (hB : ¬ (0 ≤ c ∧ c < J 6 1) → Q (some (vi (-1000001))) (SM J)) (hQ : (0 ≤ c ∧ c < J 6 1) → ∀ J', ACT J J' (canW (J 6) c) → Q (some (vi (J 6 (3 + 5 * c + 2)))) (SM J')) : Cl d 194 [vr 0, vi c] (SM J) Q := by
  have w0 := hw.1
  have w1 := hw.2.1
  have w2 := hw.2.2.1
  refine ⟨by rw [l194]; exact Nat.le_of_ble_eq_true rfl, ?_⟩
  rw [l194]
  show Ev d 194 0 [some (vr 0), some (vi c), none] [] (SM J) Q
  refine ev_s1 (L' := [some (vr 0), some (vi c), none]) (S' := [vr 0]) k194_0 rfl rfl ?_
  refine ev_s1 (L' := [some (vr 0), some (vi c), none]) (S' := [vi c, vr 0]) k194_1 rfl rfl ?_
  refine ev_virt (a := [vi c]) (S' := []) k194_2 rfl (Nat.le_of_ble_eq_true rfl) (by decide) (rfl) (by omega) ?_
  refine m_isChair hJ (c := c) (by omega) (by omega) (by omega) (by omega) (fun h1 => ?_) (fun h1 => ?_)
  · show Ev d 194 5 [some (vr 0), some (vi c), none] [vi 1] (SM J) Q
    refine ev_z_ne (t := 11) k194_5 rfl (by omega) (by omega) (fun _ => ?_) (fun h => absurd h (by decide))
    refine ev_s1 (L' := [some (vr 0), some (vi c), none]) (S' := [vr 0]) k194_11 rfl rfl ?_
    refine ev_virt (a := []) (S' := []) k194_12 rfl (Nat.le_of_ble_eq_true rfl) (by decide) (rfl) (by omega) ?_
    refine m_notes hJ (by omega) (by omega) (by omega) (fun J2 hJ2 nt2 q2 f2 => ?_)
    show Ev d 194 15 [some (vr 0), some (vi c), none] [] (SM J2) Q
    refine ev_s1 (L' := [some (vr 0), some (vi c), none]) (S' := [vr 0]) k194_15 rfl rfl ?_
    refine ev_getR k194_16 (by decide) (rfl) (y_0_13) ?_
    refine ev_s1 (L' := [some (vr 0), some (vi c), none]) (S' := [vi 3, vr 6]) k194_19 rfl rfl ?_
    refine ev_s1 (L' := [some (vr 0), some (vi c), none]) (S' := [vi 5, vi 3, vr 6]) k194_20 rfl rfl ?_
    refine ev_s1 (L' := [some (vr 0), some (vi c), none]) (S' := [vi c, vi 5, vi 3, vr 6]) k194_21 rfl rfl ?_
    refine ev_s1 (L' := [some (vr 0), some (vi c), none]) (S' := [vi (5 * c), vi 3, vr 6]) k194_22 rfl rfl ?_
    refine ev_s1 (L' := [some (vr 0), some (vi c), none]) (S' := [vi (3 + (5 * c)), vr 6]) k194_23 rfl rfl ?_
    refine ev_s1 (L' := [some (vr 0), some (vi c), none]) (S' := [vi 2, vi (3 + (5 * c)), vr 6]) k194_24 rfl rfl ?_
    refine ev_s1 (L' := [some (vr 0), some (vi c), none]) (S' := [vi ((3 + (5 * c)) + 2), vr 6]) k194_25 rfl rfl ?_
    refine ev_iald k194_26 (by decide) (rfl) (by omega) (by omega) ?_
    have rr3 := hJ2.1 6 ((3 + (5 * c)) + 2)
    rw [f2 6 (by decide)]
    rw [f2 6 (by decide)] at rr3
    refine ev_s1 (L' := [some (vr 0), some (vi c), some (vi (J 6 ((3 + (5 * c)) + 2)))]) (S' := []) k194_27 rfl rfl ?_
    refine ev_s1 (L' := [some (vr 0), some (vi c), some (vi (J 6 ((3 + (5 * c)) + 2)))]) (S' := [vr 0]) k194_28 rfl rfl ?_
    refine ev_getR k194_29 (by decide) (rfl) (y_0_13) ?_
    refine ev_s1 (L' := [some (vr 0), some (vi c), some (vi (J 6 ((3 + (5 * c)) + 2)))]) (S' := [vi 3, vr 6]) k194_32 rfl rfl ?_
    refine ev_s1 (L' := [some (vr 0), some (vi c), some (vi (J 6 ((3 + (5 * c)) + 2)))]) (S' := [vi 5, vi 3, vr 6]) k194_33 rfl rfl ?_
    refine ev_s1 (L' := [some (vr 0), some (vi c), some (vi (J 6 ((3 + (5 * c)) + 2)))]) (S' := [vi c, vi 5, vi 3, vr 6]) k194_34 rfl rfl ?_
    refine ev_s1 (L' := [some (vr 0), some (vi c), some (vi (J 6 ((3 + (5 * c)) + 2)))]) (S' := [vi (5 * c), vi 3, vr 6]) k194_35 rfl rfl ?_
    refine ev_s1 (L' := [some (vr 0), some (vi c), some (vi (J 6 ((3 + (5 * c)) + 2)))]) (S' := [vi (3 + (5 * c)), vr 6]) k194_36 rfl rfl ?_
    refine ev_s1 (L' := [some (vr 0), some (vi c), some (vi (J 6 ((3 + (5 * c)) + 2)))]) (S' := [vi 2, vi (3 + (5 * c)), vr 6]) k194_37 rfl rfl ?_
    refine ev_s1 (L' := [some (vr 0), some (vi c), some (vi (J 6 ((3 + (5 * c)) + 2)))]) (S' := [vi ((3 + (5 * c)) + 2), vr 6]) k194_38 rfl rfl ?_
    refine ev_s1 (L' := [some (vr 0), some (vi c), some (vi (J 6 ((3 + (5 * c)) + 2)))]) (S' := [vi 0, vi ((3 + (5 * c)) + 2), vr 6]) k194_39 rfl rfl ?_
    refine ev_iast k194_40 (by decide) (rfl) (by omega) (by omega) ?_
    show Ev d 194 41 [some (vr 0), some (vi c), some (vi (J 6 ((3 + (5 * c)) + 2)))] [] (SM (up J2 6 ((3 + (5 * c)) + 2) 0)) Q
    have hJ4 := rz_up hJ2 (k := 6) (j := (3 + (5 * c)) + 2) (z := 0) (by omega) (by omega) (by omega)
    have g4 : ∀ aa, aa ≠ 6 → up J2 6 ((3 + (5 * c)) + 2) 0 aa = J2 aa := fun aa h => upf h
    have q4 : ∀ bb, bb ≠ (3 + (5 * c)) + 2 → up J2 6 ((3 + (5 * c)) + 2) 0 6 bb = J2 6 bb := fun bb h => upN (Or.inr h)
    have e4 : up J2 6 ((3 + (5 * c)) + 2) 0 6 ((3 + (5 * c)) + 2) = 0 := upE rfl rfl
    generalize up J2 6 ((3 + (5 * c)) + 2) 0 = J4 at hJ4 g4 q4 e4 ⊢
    refine ev_s1 (L' := [some (vr 0), some (vi c), some (vi (J 6 ((3 + (5 * c)) + 2)))]) (S' := [vi (J 6 ((3 + (5 * c)) + 2))]) k194_41 rfl rfl ?_
    refine ev_ireturn k194_42 ?_
    exact hQ (by omega) _ ⟨hJ4, (by funext b; unfold canW; split; (rename_i q; rw [q]; exact e4); (rename_i q; rw [q4 b q, f2 6 (by decide)])), nt2.fr (by rw [g4 0 (by decide)]) (by rw [g4 9 (by decide)]), fun b hb => ((congrFun (g4 0 (by decide)) b).trans (q2 b hb)), fun a ha => ((g4 a (by omega)).trans (f2 a (by omega)))⟩
  · show Ev d 194 5 [some (vr 0), some (vi c), none] [vi 0] (SM J) Q
    refine ev_z_ne (t := 11) k194_5 rfl (by omega) (by omega) (fun h => absurd h (by decide)) (fun _ => ?_)
    refine ev_ldc k194_8 ?_
    refine ev_ireturn k194_10 ?_
    exact hB (by omega)

set_option maxHeartbeats 1000000 in
theorem m_undo {d : Nat} {J : Nat → Int → Int} {Q : Option jV → jS → Prop} (hJ : RZ J) (t0 : 0 ≤ J 0 17) (t1 : J 0 17 ≤ 24) (hd : 1 ≤ d) (hS : J 0 17 = 0 → Q (some (vi (-1000002))) (SM J)) (hQ : J 0 17 ≠ 0 → ∀ J', RZ J' → J' 6 = cutW (J 9) (48 * (J 0 17 - 1)) → J' 0 17 = J 0 17 - 1 → (∀ b, b ≠ 17 → J' 0 b = J 0 b) → (∀ a, (a ≠ 0 ∧ a ≠ 6) → J' a = J a) → Q (some (vi (J 0 17 - 1))) (SM J')) : Cl d 196 [vr 0] (SM J) Q := by
  refine ⟨by rw [l196]; exact Nat.le_of_ble_eq_true rfl, ?_⟩
  rw [l196]
  show Ev d 196 0 [some (vr 0)] [] (SM J) Q
  refine ev_s1 (L' := [some (vr 0)]) (S' := [vr 0]) k196_0 rfl rfl ?_
  refine ev_getI k196_1 (by decide) (rfl) ?_
  show Ev d 196 4 [some (vr 0)] [vi (J 0 17)] (SM J) Q
  have rr1 := hJ.1 0 17
  refine ev_z_ne (t := 10) k196_4 rfl (by omega) (by omega) (fun h2 => ?_) (fun h2 => ?_)
  · refine ev_s1 (L' := [some (vr 0)]) (S' := [vr 0]) k196_10 rfl rfl ?_
    refine ev_s1 (L' := [some (vr 0)]) (S' := [vr 0, vr 0]) k196_11 rfl rfl ?_
    refine ev_getI k196_12 (by decide) (rfl) ?_
    show Ev d 196 15 [some (vr 0)] [vi (J 0 17), vr 0] (SM J) Q
    have rr3 := hJ.1 0 17
    refine ev_s1 (L' := [some (vr 0)]) (S' := [vi 1, vi (J 0 17), vr 0]) k196_15 rfl rfl ?_
    refine ev_s1 (L' := [some (vr 0)]) (S' := [vi ((J 0 17) - 1), vr 0]) k196_16 rfl rfl ?_
    refine ev_putI k196_17 (by decide) (rfl) ?_
    show Ev d 196 20 [some (vr 0)] [] (SM (up J 0 17 ((J 0 17) - 1))) Q
    have hJ4 := rz_up hJ (k := 0) (j := 17) (z := (J 0 17) - 1) (by omega) (by omega) (by omega)
    have g4 : ∀ aa, aa ≠ 0 → up J 0 17 ((J 0 17) - 1) aa = J aa := fun aa h => upf h
    have q4 : ∀ bb, bb ≠ 17 → up J 0 17 ((J 0 17) - 1) 0 bb = J 0 bb := fun bb h => upN (Or.inr h)
    have e4 : up J 0 17 ((J 0 17) - 1) 0 17 = (J 0 17) - 1 := upE rfl rfl
    generalize up J 0 17 ((J 0 17) - 1) = J4 at hJ4 g4 q4 e4 ⊢
    refine ev_s1 (L' := [some (vr 0)]) (S' := [vr 0]) k196_20 rfl rfl ?_
    refine ev_getR k196_21 (by decide) (rfl) (y_0_16) ?_
    refine ev_s1 (L' := [some (vr 0)]) (S' := [vi 48, vr 9]) k196_24 rfl rfl ?_
    refine ev_s1 (L' := [some (vr 0)]) (S' := [vr 0, vi 48, vr 9]) k196_26 rfl rfl ?_
    refine ev_getI k196_27 (by decide) (rfl) ?_
    show Ev d 196 30 [some (vr 0)] [vi (J4 0 17), vi 48, vr 9] (SM J4) Q
    have rr5 := hJ4.1 0 17
    rw [e4]
    rw [e4] at rr5
    refine ev_s1 (L' := [some (vr 0)]) (S' := [vi (48 * ((J 0 17) - 1)), vr 9]) k196_30 rfl rfl ?_
    refine ev_s1 (L' := [some (vr 0)]) (S' := [vr 0, vi (48 * ((J 0 17) - 1)), vr 9]) k196_31 rfl rfl ?_
    refine ev_getR k196_32 (by decide) (rfl) (y_0_13) ?_
    refine ev_s1 (L' := [some (vr 0)]) (S' := [vi 0, vr 6, vi (48 * ((J 0 17) - 1)), vr 9]) k196_35 rfl rfl ?_
    refine ev_static (a := [vr 9, vi (48 * ((J 0 17) - 1)), vr 6, vi 0]) (S' := []) k196_36 rfl (Nat.le_of_ble_eq_true rfl) (by omega) ?_
    refine m_copies hJ4 (f := 9) (t := 6) (lf := 1152) (lt := 48) (a := 48 * ((J 0 17) - 1)) (b := 0) (by decide) ⟨by decide, rfl⟩ ⟨by decide, rfl⟩ (by omega) (by omega) (by omega) (by omega) (by omega) (by decide) (by decide) (fun J6 hJ6 w6 f6 => ?_)
    rw [g4 9 (by decide), g4 6 (by decide)] at w6
    show Ev d 196 39 [some (vr 0)] [] (SM J6) Q
    refine ev_s1 (L' := [some (vr 0)]) (S' := [vr 0]) k196_39 rfl rfl ?_
    refine ev_getI k196_40 (by decide) (rfl) ?_
    show Ev d 196 43 [some (vr 0)] [vi (J6 0 17)] (SM J6) Q
    have rr7 := hJ6.1 0 17
    rw [f6 0 (by decide), e4]
    rw [f6 0 (by decide), e4] at rr7
    refine ev_ireturn k196_43 ?_
    exact hQ (by omega) _ hJ6 (by rw [w6]; exact cp_cut (t := 6) hJ.2 (by decide)) (by rw [f6 0 (by decide)]; exact e4) (fun b hb => (congrFun (f6 0 (by decide)) b).trans (q4 b hb)) (fun a ha => ((f6 a (by omega)).trans (g4 a (by omega))))
  · refine ev_ldc k196_7 ?_
    refine ev_ireturn k196_9 ?_
    exact hS (by omega)
