/-- the law's letter -/
theorem m_takeA {d : Nat} {J : Nat → Int → Int} {Q : Option jV → jS → Prop} (hJ : RZ J) {T : Int → Int} {z p k0 i : Int} (h : PST J T z p 0 k0) (hi : (i = 1 ∧ T p = 97) ∨ (i = 0 ∧ T p ≠ 97)) (hd : 3 ≤ d) (hQ : ∀ J' v, RZ J' → PST J' T z (sgP T p 0 97) (sgM T p 0 97) k0 → FRP J J' → Q (some (vi v)) (SM J')) : Cl d 172 [vr 0, vi i, vi 1] (SM J) Q := by
  refine m_takes hJ h (by omega) (by decide) (by decide) hd (fun hm => absurd rfl hm) (fun hm h0 J' hJ' hp fr => ?_) (fun hm h1 J' hJ' hp fr => ?_)
  · refine hQ J' _ hJ' ?_ fr
    have ns : ¬ T p = 97 := by omega
    unfold sgP sgM
    rw [if_neg (fun q => ns q.2), if_neg (by decide), if_neg ns]
    exact hp
  · refine hQ J' _ hJ' ?_ fr
    have ns : T p = 97 := by omega
    have se := sg_e (p := p) (s := 97) (by omega) ns
    unfold sgP sgM
    rw [if_pos ⟨rfl, ns⟩, if_neg (by decide), if_pos ns, ← se]
    exact hp
theorem lv_ok {T : Int → Int} (h : lM3 T = 0) : lM2 T = 0 ∧ 0 ≤ lV T ∧ lV T ≤ 9 := by
  have k2 := (sg_ok h).1
  have g2 := nu_ok k2
  exact ⟨k2, g2.2.1, g2.2.2⟩

set_option maxHeartbeats 1000000 in
theorem m_r95 {d : Nat} {J : Nat → Int → Int} {Q : Option jV → jS → Prop} (hJ : RZ J) {K : Nat → Int → Int} {T : Int → Int} {z k0 : Int} {p : Int} {x : Option jV} (h : PST J T z p 0 k0) (hlm : lM3 T = 0) (l0 : 0 ≤ lV T) (l9 : lV T ≤ 9) (hq : p = lP3 T) (hG : CHD (J 7) T p (lV T) 0) (hfr : FR7 K J) (hd : 7 ≤ d) (hF : ∀ J', paM T z ≠ 0 → RZ J' → J' 0 7 = paM T z → J' 0 6 = 0 → FR6 K J' → Q (some (vi (-1000100 - (paG T).1))) (SM J')) (hY : ∀ J', paM T z = 0 → RZ J' → GHD (J' 6) T (lP3 T) (lV T) (paC T).2.2.toNat (paC T).1 (paG T).2.2.toNat → OKW (J' 6) → J' 6 1 = (paC T).2.2 → J' 6 2 = (paG T).2.2 → J' 0 7 = k0 → J' 0 6 = 0 → J' 0 17 = 0 → (∀ b, (b ≠ 6 ∧ b ≠ 17 ∧ (b < 7 ∨ 12 < b)) → J' 0 b = K 0 b) → (∀ a, (a ≠ 0 ∧ a ≠ 6 ∧ a ≠ 7) → J' a = K a) → Q (some (vi ((paC T).2.2))) (SM J')) : Ev d 179 95 [some (vr 0), x] [] (SM J) Q := by
  obtain ⟨a8, a10, a11, a12, a9, a7⟩ := h.w0
  have hT := h.1
  have p0 := h.2.1.1
  have p1 := h.2.1.2
  have hz := hT.2.1
  have kr := tok_k T p
  have tv := tok_v hT p0
  have t0 := tok_0 hT p0
  refine ev_s1 (L' := [some (vr 0), x]) (S' := [vr 0]) k179_95 rfl rfl ?_
  refine ev_s1 (L' := [some (vr 0), x]) (S' := [vr 0, vr 0]) k179_96 rfl rfl ?_
  refine ev_getI k179_97 (by decide) (rfl) ?_
  show Ev d 179 100 [some (vr 0), x] [vi (J 0 11), vr 0] (SM J) Q
  have rr1 := hJ.1 0 11
  rw [a11]
  rw [a11] at rr1
  refine ev_s1 (L' := [some (vr 0), x]) (S' := [vi 1, vi (tokK T p), vr 0]) k179_100 rfl rfl ?_
  refine ev_c_ne (t := 118) k179_101 rfl (by omega) (by omega) (by omega) (by omega) (fun h2 => ?_) (fun h2 => ?_)
  · refine ev_s1 (L' := [some (vr 0), x]) (S' := [vi 0, vr 0]) k179_118 rfl rfl ?_
    refine ev_virt (a := [vi 0]) (S' := []) k179_119 rfl (Nat.le_of_ble_eq_true rfl) (by decide) (rfl) (by omega) ?_
    refine m_mustY hJ h a8 (by omega) (fun J3 hJ3 ps3 fr3 => ?_)
    show Ev d 179 122 [some (vr 0), x] [] (SM J3) Q
    have nk : kindF (T p) = 0 := by
      by_cases u : kindF (T p) = 0
      · exact u
      · have w := tok_l (T := T) (p := p) (kind_l u)
        have w1 := w.1
        have w3 : kindF (tokV T p) = kindF (T p) := by rw [w.2.1]
        have kr2 := kind_rg2 (T p)
        omega
    rw [hq] at nk
    have y := pa_no (z := z) hlm nk
    exact m_f122 (K := K) hJ3 ps3 (by decide) (by rw [y.1, hq]) y.2 (hfr.trans fr3.fr7) (by omega) hF
  · refine ev_s1 (L' := [some (vr 0), x]) (S' := [vr 0, vr 0]) k179_104 rfl rfl ?_
    refine ev_getI k179_105 (by decide) (rfl) ?_
    show Ev d 179 108 [some (vr 0), x] [vi (J 0 12), vr 0] (SM J) Q
    have rr4 := hJ.1 0 12
    rw [a12]
    rw [a12] at rr4
    refine ev_static (a := [vi (tokV T p)]) (S' := [vr 0]) k179_108 rfl (Nat.le_of_ble_eq_true rfl) (by omega) ?_
    refine m_kindOf (b := tokV T p) (by omega) (by omega) (?_)
    have kk108 := kind_rg2 (tokV T p)
    show Ev d 179 111 [some (vr 0), x] [vi (kindF (tokV T p)), vr 0] (SM J) Q
    refine ev_z_le (t := 118) k179_111 rfl (by omega) (by omega) (fun h5 => ?_) (fun h5 => ?_)
    · refine ev_s1 (L' := [some (vr 0), x]) (S' := [vi 0, vr 0]) k179_118 rfl rfl ?_
      refine ev_virt (a := [vi 0]) (S' := []) k179_119 rfl (Nat.le_of_ble_eq_true rfl) (by decide) (rfl) (by omega) ?_
      refine m_mustY hJ h a8 (by omega) (fun J6 hJ6 ps6 fr6 => ?_)
      show Ev d 179 122 [some (vr 0), x] [] (SM J6) Q
      have nk : kindF (T p) = 0 := by
        by_cases u : kindF (T p) = 0
        · exact u
        · have w := tok_l (T := T) (p := p) (kind_l u)
          have w1 := w.1
          have w3 : kindF (tokV T p) = kindF (T p) := by rw [w.2.1]
          have kr2 := kind_rg2 (T p)
          omega
      rw [hq] at nk
      have y := pa_no (z := z) hlm nk
      exact m_f122 (K := K) hJ6 ps6 (by decide) (by rw [y.1, hq]) y.2 (hfr.trans fr6.fr7) (by omega) hF
    · refine ev_s1 (L' := [some (vr 0), x]) (S' := [vi 1, vr 0]) k179_114 rfl rfl ?_
      refine ev_goto (t := 119) k179_115 rfl ?_
      refine ev_virt (a := [vi 1]) (S' := []) k179_119 rfl (Nat.le_of_ble_eq_true rfl) (by decide) (rfl) (by omega) ?_
      refine m_must1 hJ (by omega) (?_)
      show Ev d 179 122 [some (vr 0), x] [] (SM J) Q
      have lt := tok_1 (T := T) (p := p) (by omega)
      have tl := tok_l lt
      have hkz : kindF (T p) ≠ 0 := by rw [← tl.2.1]; omega
      exact m_rcl (K := K) hlm l0 l9 (q := p) hq hkz hd hF hY 7 J 0 p x hJ (by omega) (by omega) h rfl rfl hG hfr

set_option maxHeartbeats 1000000 in
theorem m_rz {d : Nat} {K : Nat → Int → Int} {Q : Option jV → jS → Prop} (hE : ∀ (J' : Nat → Int → Int) (x : Option jV), RZ J' → (∀ b, J' 7 b = 0) → (∀ a, a ≠ 7 → J' a = K a) → Ev d 179 21 [some (vr 0), x] [] (SM J') Q) : ∀ (n : Nat) (J : Nat → Int → Int) (i : Nat), RZ J → 48 - (i : Int) < n → i ≤ 48 → (∀ b, (0 ≤ b ∧ b < (i : Int)) → J 7 b = 0) → (∀ a, a ≠ 7 → J a = K a) → Ev d 179 2 [some (vr 0), some (vi (i : Int))] [] (SM J) Q := by
  intro n
  induction n with
  | zero =>
    intro J i hJ hi hi2 hz0 hF0
    exfalso; omega
  | succ n ih =>
    intro J i hJ hi hi2 hz0 hF0
    refine ev_s1 (L' := [some (vr 0), some (vi (i : Int))]) (S' := [vi (i : Int)]) k179_2 rfl rfl ?_
    refine ev_s1 (L' := [some (vr 0), some (vi (i : Int))]) (S' := [vi 48, vi (i : Int)]) k179_3 rfl rfl ?_
    refine ev_c_ge (t := 21) k179_5 rfl (by omega) (by omega) (by omega) (by omega) (fun h1 => ?_) (fun h1 => ?_)
    · refine hE _ _ hJ (fun b => ?_) hF0
      by_cases q : 0 ≤ b ∧ b < 48
      · exact hz0 b (by omega)
      · exact hJ.2 7 (by decide) (by decide) b (by omega)
    · refine ev_s1 (L' := [some (vr 0), some (vi (i : Int))]) (S' := [vr 0]) k179_8 rfl rfl ?_
      refine ev_getR k179_9 (by decide) (rfl) (y_0_14) ?_
      refine ev_s1 (L' := [some (vr 0), some (vi (i : Int))]) (S' := [vi (i : Int), vr 7]) k179_12 rfl rfl ?_
      refine ev_s1 (L' := [some (vr 0), some (vi (i : Int))]) (S' := [vi 0, vi (i : Int), vr 7]) k179_13 rfl rfl ?_
      refine ev_iast k179_14 (by decide) (rfl) (by omega) (by omega) ?_
      show Ev d 179 15 [some (vr 0), some (vi (i : Int))] [] (SM (up J 7 (i : Int) 0)) Q
      have hJ2 := rz_up hJ (k := 7) (j := (i : Int)) (z := 0) (by omega) (by omega) (by omega)
      have g2 : ∀ aa, aa ≠ 7 → up J 7 (i : Int) 0 aa = J aa := fun aa h => upf h
      have q2 : ∀ bb, bb ≠ (i : Int) → up J 7 (i : Int) 0 7 bb = J 7 bb := fun bb h => upN (Or.inr h)
      have e2 : up J 7 (i : Int) 0 7 (i : Int) = 0 := upE rfl rfl
      generalize up J 7 (i : Int) 0 = J2 at hJ2 g2 q2 e2 ⊢
      refine ev_s1 (L' := [some (vr 0), some (vi ((i : Int) + 1))]) (S' := []) k179_15 rfl rfl ?_
      refine ev_goto (t := 2) k179_18 rfl ?_
      refine ih J2 (i + 1) hJ2 (by omega) (by omega) (fun b hb => ?_) (fun a ha => (g2 a ha).trans (hF0 a ha))
      by_cases q : b = (i : Int)
      · rw [q, e2]
      · rw [q2 _ q]; exact hz0 b (by omega)

set_option maxHeartbeats 1000000 in
theorem m_room {d : Nat} {J : Nat → Int → Int} {Q : Option jV → jS → Prop} (hJ : RZ J) {T : Int → Int} {z : Int} (hT : TPE J T z) (hd : 7 ≤ d) (hF : ∀ J', paM T z ≠ 0 → RZ J' → J' 0 7 = paM T z → J' 0 6 = 0 → FR6 J J' → Q (some (vi (-1000100 - (paG T).1))) (SM J')) (hY : ∀ J', paM T z = 0 → RZ J' → GHD (J' 6) T (lP3 T) (lV T) (paC T).2.2.toNat (paC T).1 (paG T).2.2.toNat → OKW (J' 6) → J' 6 1 = (paC T).2.2 → J' 6 2 = (paG T).2.2 → J' 0 7 = J 0 7 → J' 0 6 = 0 → J' 0 17 = 0 → (∀ b, (b ≠ 6 ∧ b ≠ 17 ∧ (b < 7 ∨ 12 < b)) → J' 0 b = J 0 b) → (∀ a, (a ≠ 0 ∧ a ≠ 6 ∧ a ≠ 7) → J' a = J a) → Q (some (vi ((paC T).2.2))) (SM J')) : Cl d 179 [vr 0] (SM J) Q := by
  have hz := hT.2.1
  refine ⟨by rw [l179]; exact Nat.le_of_ble_eq_true rfl, ?_⟩
  rw [l179]
  show Ev d 179 0 [some (vr 0), none] [] (SM J) Q
  refine ev_s1 (L' := [some (vr 0), none]) (S' := [vi 0]) k179_0 rfl rfl ?_
  refine ev_s1 (L' := [some (vr 0), some (vi 0)]) (S' := []) k179_1 rfl rfl ?_
  refine m_rz (K := J) (fun J0 x0 hJ0 z0 f0 => ?_) 49 J 0 hJ (by omega) (by omega) (fun b hb => absurd hb (by omega)) (fun _ _ => rfl)
  refine ev_s1 (L' := [some (vr 0), x0]) (S' := [vr 0]) k179_21 rfl rfl ?_
  refine ev_s1 (L' := [some (vr 0), x0]) (S' := [vi 0, vr 0]) k179_22 rfl rfl ?_
  refine ev_putI k179_23 (by decide) (rfl) ?_
  show Ev d 179 26 [some (vr 0), x0] [] (SM (up J0 0 9 0)) Q
  have hJ1 := rz_up hJ0 (k := 0) (j := 9) (z := 0) (by omega) (by omega) (by omega)
  have g1 : ∀ aa, aa ≠ 0 → up J0 0 9 0 aa = J0 aa := fun aa h => upf h
  have q1 : ∀ bb, bb ≠ 9 → up J0 0 9 0 0 bb = J0 0 bb := fun bb h => upN (Or.inr h)
  have e1 : up J0 0 9 0 0 9 = 0 := upE rfl rfl
  generalize up J0 0 9 0 = J1 at hJ1 g1 q1 e1 ⊢
  refine ev_s1 (L' := [some (vr 0), x0]) (S' := [vr 0]) k179_26 rfl rfl ?_
  refine ev_s1 (L' := [some (vr 0), x0]) (S' := [vi (-1), vr 0]) k179_27 rfl rfl ?_
  refine ev_putI k179_28 (by decide) (rfl) ?_
  show Ev d 179 31 [some (vr 0), x0] [] (SM (up J1 0 8 (-1))) Q
  have hJ2 := rz_up hJ1 (k := 0) (j := 8) (z := (-1)) (by omega) (by omega) (by omega)
  have g2 : ∀ aa, aa ≠ 0 → up J1 0 8 (-1) aa = J1 aa := fun aa h => upf h
  have q2 : ∀ bb, bb ≠ 8 → up J1 0 8 (-1) 0 bb = J1 0 bb := fun bb h => upN (Or.inr h)
  have e2 : up J1 0 8 (-1) 0 8 = (-1) := upE rfl rfl
  generalize up J1 0 8 (-1) = J2 at hJ2 g2 q2 e2 ⊢
  refine ev_s1 (L' := [some (vr 0), x0]) (S' := [vr 0]) k179_31 rfl rfl ?_
  refine ev_virt (a := []) (S' := []) k179_32 rfl (Nat.le_of_ble_eq_true rfl) (by decide) (rfl) (by omega) ?_
  refine m_advances hJ2 (hT.fr (by rw [q2 6 (by decide), q1 6 (by decide), f0 0 (by decide)]) (by rw [g2 5 (by decide), g1 5 (by decide), f0 5 (by decide)])) (p := 0) (by rw [q2 9 (by decide), e1]) (by omega) (by omega) (by omega) (fun J3 hJ3 y93 y103 y113 y123 fr3 => ?_)
  show Ev d 179 35 [some (vr 0), x0] [] (SM J3) Q
  have hp0 : PST J3 T z 0 0 (J 0 7) := ⟨(hT.fr (by rw [fr3.1 6 (by decide), q2 6 (by decide), q1 6 (by decide), f0 0 (by decide)]) (by rw [fr3.2 5 (by decide), g2 5 (by decide), g1 5 (by decide), f0 5 (by decide)])), ⟨by decide, hz.1⟩, Or.inl ⟨rfl, by rw [fr3.1 8 (by decide), e2], y103, y113, y123, y93, by rw [fr3.1 7 (by decide), q2 7 (by decide), q1 7 (by decide), f0 0 (by decide)]⟩⟩
  have kr := tok_k T 0
  have tv := tok_v hT (show (0 : Int) ≤ 0 by decide)
  have ta : (tokK T 0 = 1 ∧ tokV T 0 = 97) ↔ T 0 = 97 := by
    constructor
    · intro u
      have w := tok_l (tok_1 u.1)
      omega
    · intro u
      have w := tok_l (T := T) (p := 0) (by omega)
      omega
  refine ev_s1 (L' := [some (vr 0), x0]) (S' := [vr 0]) k179_35 rfl rfl ?_
  refine ev_s1 (L' := [some (vr 0), x0]) (S' := [vr 0, vr 0]) k179_36 rfl rfl ?_
  refine ev_getI k179_37 (by decide) (rfl) ?_
  show Ev d 179 40 [some (vr 0), x0] [vi (J3 0 11), vr 0] (SM J3) Q
  have rr4 := hJ3.1 0 11
  rw [y113]
  rw [y113] at rr4
  refine ev_s1 (L' := [some (vr 0), x0]) (S' := [vi 1, vi (tokK T 0), vr 0]) k179_40 rfl rfl ?_
  refine ev_c_ne (t := 57) k179_41 rfl (by omega) (by omega) (by omega) (by omega) (fun h5 => ?_) (fun h5 => ?_)
  · refine ev_s1 (L' := [some (vr 0), x0]) (S' := [vi 0, vr 0]) k179_57 rfl rfl ?_
    refine ev_s1 (L' := [some (vr 0), x0]) (S' := [vi 1, vi 0, vr 0]) k179_58 rfl rfl ?_
    refine ev_virt (a := [vi 0, vi 1]) (S' := []) k179_59 rfl (Nat.le_of_ble_eq_true rfl) (by decide) (rfl) (by omega) ?_
    refine m_takeA hJ3 hp0 (i := 0) (by omega) (by omega) (fun J6 v6 hJ6 ps6 fr6 => ?_)
    show Ev d 179 62 [some (vr 0), x0] [vi v6] (SM J6) Q
    refine ev_s1 (L' := [some (vr 0), x0]) (S' := []) k179_62 rfl rfl ?_
    refine ev_s1 (L' := [some (vr 0), x0]) (S' := [vr 0]) k179_63 rfl rfl ?_
    refine ev_getR k179_64 (by decide) (rfl) (y_0_14) ?_
    refine ev_s1 (L' := [some (vr 0), x0]) (S' := [vi 0, vr 7]) k179_67 rfl rfl ?_
    refine ev_s1 (L' := [some (vr 0), x0]) (S' := [vr 0, vi 0, vr 7]) k179_68 rfl rfl ?_
    refine ev_s1 (L' := [some (vr 0), x0]) (S' := [vi 0, vr 0, vi 0, vr 7]) k179_69 rfl rfl ?_
    refine ev_s1 (L' := [some (vr 0), x0]) (S' := [vi 9, vi 0, vr 0, vi 0, vr 7]) k179_70 rfl rfl ?_
    refine ev_virt (a := [vi 0, vi 9]) (S' := [vi 0, vr 7]) k179_72 rfl (Nat.le_of_ble_eq_true rfl) (by decide) (rfl) (by omega) ?_
    refine m_figure hJ6 ps6 (by omega) (by omega) (by omega) (by omega) (by omega) (fun J7 v7 hJ7 ps7 vn7 fr7 vl7 vu7 => ?_)
    show Ev d 179 75 [some (vr 0), x0] [vi v7, vi 0, vr 7] (SM J7) Q
    refine ev_iast k179_75 (by decide) (rfl) (by omega) (by omega) ?_
    show Ev d 179 76 [some (vr 0), x0] [] (SM (up J7 7 0 v7)) Q
    have hJ8 := rz_up hJ7 (k := 7) (j := 0) (z := v7) (by omega) (by omega) (by omega)
    have g8 : ∀ aa, aa ≠ 7 → up J7 7 0 v7 aa = J7 aa := fun aa h => upf h
    have q8 : ∀ bb, bb ≠ 0 → up J7 7 0 v7 7 bb = J7 7 bb := fun bb h => upN (Or.inr h)
    have e8 : up J7 7 0 v7 7 0 = v7 := upE rfl rfl
    generalize up J7 7 0 v7 = J8 at hJ8 g8 q8 e8 ⊢
    have ps8 := ps7.fr (g8 0 (by decide)) (g8 5 (by decide))
    refine ev_s1 (L' := [some (vr 0), x0]) (S' := [vr 0]) k179_76 rfl rfl ?_
    refine ev_s1 (L' := [some (vr 0), x0]) (S' := [vr 0, vr 0]) k179_77 rfl rfl ?_
    refine ev_getI k179_78 (by decide) (rfl) ?_
    show Ev d 179 81 [some (vr 0), x0] [vi (J8 0 11), vr 0] (SM J8) Q
    have rr9 := hJ8.1 0 11
    rw [g8 0 (by decide)]
    rw [g8 0 (by decide)] at rr9
    refine ev_s1 (L' := [some (vr 0), x0]) (S' := [vi 4, vi (J7 0 11), vr 0]) k179_81 rfl rfl ?_
    refine ev_c_ne (t := 89) k179_82 rfl (by omega) (by omega) (by omega) (by omega) (fun h10 => ?_) (fun h10 => ?_)
    · refine ev_s1 (L' := [some (vr 0), x0]) (S' := [vi 0, vr 0]) k179_89 rfl rfl ?_
      refine ev_s1 (L' := [some (vr 0), x0]) (S' := [vi 1, vi 0, vr 0]) k179_90 rfl rfl ?_
      refine ev_virt (a := [vi 0, vi 1]) (S' := []) k179_91 rfl (Nat.le_of_ble_eq_true rfl) (by decide) (rfl) (by omega) ?_
      refine m_takeS hJ8 ps8 (i := 0) (t := 4) (s := 59) (by decide) (by rw [g8 0 (by decide)]; omega) (by omega) (fun J11 v11 hJ11 ps11 fr11 => ?_)
      show Ev d 179 94 [some (vr 0), x0] [vi v11] (SM J11) Q
      refine ev_s1 (L' := [some (vr 0), x0]) (S' := []) k179_94 rfl rfl ?_
      have hfr : FR7 J J11 := ⟨fun b hb => ((fr11.1 b (by omega)).trans ((congrFun (g8 0 (by decide)) b).trans ((fr7.1 b (by omega)).trans ((fr6.1 b (by omega)).trans ((fr3.1 b (by omega)).trans ((q2 b (by omega)).trans ((q1 b (by omega)).trans (congrFun (f0 0 (by decide)) b)))))))), fun a ha => ((fr11.2 a (by omega)).trans ((g8 a (by omega)).trans ((fr7.2 a (by omega)).trans ((fr6.2 a (by omega)).trans ((fr3.2 a (by omega)).trans ((g2 a (by omega)).trans ((g1 a (by omega)).trans (f0 a (by omega)))))))))⟩
      have d7 : ∀ b, b ≠ 0 → J11 7 b = 0 := fun b hb => by rw [fr11.2 7 (by decide), q8 b hb, fr7.2 7 (by decide), fr6.2 7 (by decide), fr3.2 7 (by decide), g2 7 (by decide), g1 7 (by decide)]; exact z0 b
      have d0 : J11 7 0 = v7 := by rw [fr11.2 7 (by decide)]; exact e8
      by_cases hm : lM3 T = 0
      · have lk := lv_ok hm
        have hv : v7 = lV T := vn7 lk.1
        have ps2 : PST J11 T z (lP3 T) (lM3 T) (J 0 7) := ps11
        rw [hm] at ps2
        exact m_r95 (K := J) hJ11 ps2 hm lk.2.1 lk.2.2 rfl ⟨by rw [d0, hv], d7 1 (by decide), d7 2 (by decide), fun j hj => absurd hj (Nat.not_lt_zero j), fun b hb => d7 b (by omega)⟩ hfr hd hF hY
      · have ps2 : PST J11 T z (lP3 T) (lM3 T) (J 0 7) := ps11
        have y := pa_law (z := z) hm
        exact m_f95 (K := J) hJ11 ps2 hm y.1 y.2 hfr (by omega) hF
    · refine ev_s1 (L' := [some (vr 0), x0]) (S' := [vi 1, vr 0]) k179_85 rfl rfl ?_
      refine ev_goto (t := 90) k179_86 rfl ?_
      refine ev_s1 (L' := [some (vr 0), x0]) (S' := [vi 1, vi 1, vr 0]) k179_90 rfl rfl ?_
      refine ev_virt (a := [vi 1, vi 1]) (S' := []) k179_91 rfl (Nat.le_of_ble_eq_true rfl) (by decide) (rfl) (by omega) ?_
      refine m_takeS hJ8 ps8 (i := 1) (t := 4) (s := 59) (by decide) (by rw [g8 0 (by decide)]; omega) (by omega) (fun J12 v12 hJ12 ps12 fr12 => ?_)
      show Ev d 179 94 [some (vr 0), x0] [vi v12] (SM J12) Q
      refine ev_s1 (L' := [some (vr 0), x0]) (S' := []) k179_94 rfl rfl ?_
      have hfr : FR7 J J12 := ⟨fun b hb => ((fr12.1 b (by omega)).trans ((congrFun (g8 0 (by decide)) b).trans ((fr7.1 b (by omega)).trans ((fr6.1 b (by omega)).trans ((fr3.1 b (by omega)).trans ((q2 b (by omega)).trans ((q1 b (by omega)).trans (congrFun (f0 0 (by decide)) b)))))))), fun a ha => ((fr12.2 a (by omega)).trans ((g8 a (by omega)).trans ((fr7.2 a (by omega)).trans ((fr6.2 a (by omega)).trans ((fr3.2 a (by omega)).trans ((g2 a (by omega)).trans ((g1 a (by omega)).trans (f0 a (by omega)))))))))⟩
      have d7 : ∀ b, b ≠ 0 → J12 7 b = 0 := fun b hb => by rw [fr12.2 7 (by decide), q8 b hb, fr7.2 7 (by decide), fr6.2 7 (by decide), fr3.2 7 (by decide), g2 7 (by decide), g1 7 (by decide)]; exact z0 b
      have d0 : J12 7 0 = v7 := by rw [fr12.2 7 (by decide)]; exact e8
      by_cases hm : lM3 T = 0
      · have lk := lv_ok hm
        have hv : v7 = lV T := vn7 lk.1
        have ps2 : PST J12 T z (lP3 T) (lM3 T) (J 0 7) := ps12
        rw [hm] at ps2
        exact m_r95 (K := J) hJ12 ps2 hm lk.2.1 lk.2.2 rfl ⟨by rw [d0, hv], d7 1 (by decide), d7 2 (by decide), fun j hj => absurd hj (Nat.not_lt_zero j), fun b hb => d7 b (by omega)⟩ hfr hd hF hY
      · have ps2 : PST J12 T z (lP3 T) (lM3 T) (J 0 7) := ps12
        have y := pa_law (z := z) hm
        exact m_f95 (K := J) hJ12 ps2 hm y.1 y.2 hfr (by omega) hF
  · refine ev_s1 (L' := [some (vr 0), x0]) (S' := [vr 0, vr 0]) k179_44 rfl rfl ?_
    refine ev_getI k179_45 (by decide) (rfl) ?_
    show Ev d 179 48 [some (vr 0), x0] [vi (J3 0 12), vr 0] (SM J3) Q
    have rr13 := hJ3.1 0 12
    rw [y123]
    rw [y123] at rr13
    refine ev_s1 (L' := [some (vr 0), x0]) (S' := [vi 97, vi (tokV T 0), vr 0]) k179_48 rfl rfl ?_
    refine ev_c_ne (t := 57) k179_50 rfl (by omega) (by omega) (by omega) (by omega) (fun h14 => ?_) (fun h14 => ?_)
    · refine ev_s1 (L' := [some (vr 0), x0]) (S' := [vi 0, vr 0]) k179_57 rfl rfl ?_
      refine ev_s1 (L' := [some (vr 0), x0]) (S' := [vi 1, vi 0, vr 0]) k179_58 rfl rfl ?_
      refine ev_virt (a := [vi 0, vi 1]) (S' := []) k179_59 rfl (Nat.le_of_ble_eq_true rfl) (by decide) (rfl) (by omega) ?_
      refine m_takeA hJ3 hp0 (i := 0) (by omega) (by omega) (fun J15 v15 hJ15 ps15 fr15 => ?_)
      show Ev d 179 62 [some (vr 0), x0] [vi v15] (SM J15) Q
      refine ev_s1 (L' := [some (vr 0), x0]) (S' := []) k179_62 rfl rfl ?_
      refine ev_s1 (L' := [some (vr 0), x0]) (S' := [vr 0]) k179_63 rfl rfl ?_
      refine ev_getR k179_64 (by decide) (rfl) (y_0_14) ?_
      refine ev_s1 (L' := [some (vr 0), x0]) (S' := [vi 0, vr 7]) k179_67 rfl rfl ?_
      refine ev_s1 (L' := [some (vr 0), x0]) (S' := [vr 0, vi 0, vr 7]) k179_68 rfl rfl ?_
      refine ev_s1 (L' := [some (vr 0), x0]) (S' := [vi 0, vr 0, vi 0, vr 7]) k179_69 rfl rfl ?_
      refine ev_s1 (L' := [some (vr 0), x0]) (S' := [vi 9, vi 0, vr 0, vi 0, vr 7]) k179_70 rfl rfl ?_
      refine ev_virt (a := [vi 0, vi 9]) (S' := [vi 0, vr 7]) k179_72 rfl (Nat.le_of_ble_eq_true rfl) (by decide) (rfl) (by omega) ?_
      refine m_figure hJ15 ps15 (by omega) (by omega) (by omega) (by omega) (by omega) (fun J16 v16 hJ16 ps16 vn16 fr16 vl16 vu16 => ?_)
      show Ev d 179 75 [some (vr 0), x0] [vi v16, vi 0, vr 7] (SM J16) Q
      refine ev_iast k179_75 (by decide) (rfl) (by omega) (by omega) ?_
      show Ev d 179 76 [some (vr 0), x0] [] (SM (up J16 7 0 v16)) Q
      have hJ17 := rz_up hJ16 (k := 7) (j := 0) (z := v16) (by omega) (by omega) (by omega)
      have g17 : ∀ aa, aa ≠ 7 → up J16 7 0 v16 aa = J16 aa := fun aa h => upf h
      have q17 : ∀ bb, bb ≠ 0 → up J16 7 0 v16 7 bb = J16 7 bb := fun bb h => upN (Or.inr h)
      have e17 : up J16 7 0 v16 7 0 = v16 := upE rfl rfl
      generalize up J16 7 0 v16 = J17 at hJ17 g17 q17 e17 ⊢
      have ps17 := ps16.fr (g17 0 (by decide)) (g17 5 (by decide))
      refine ev_s1 (L' := [some (vr 0), x0]) (S' := [vr 0]) k179_76 rfl rfl ?_
      refine ev_s1 (L' := [some (vr 0), x0]) (S' := [vr 0, vr 0]) k179_77 rfl rfl ?_
      refine ev_getI k179_78 (by decide) (rfl) ?_
      show Ev d 179 81 [some (vr 0), x0] [vi (J17 0 11), vr 0] (SM J17) Q
      have rr18 := hJ17.1 0 11
      rw [g17 0 (by decide)]
      rw [g17 0 (by decide)] at rr18
      refine ev_s1 (L' := [some (vr 0), x0]) (S' := [vi 4, vi (J16 0 11), vr 0]) k179_81 rfl rfl ?_
      refine ev_c_ne (t := 89) k179_82 rfl (by omega) (by omega) (by omega) (by omega) (fun h19 => ?_) (fun h19 => ?_)
      · refine ev_s1 (L' := [some (vr 0), x0]) (S' := [vi 0, vr 0]) k179_89 rfl rfl ?_
        refine ev_s1 (L' := [some (vr 0), x0]) (S' := [vi 1, vi 0, vr 0]) k179_90 rfl rfl ?_
        refine ev_virt (a := [vi 0, vi 1]) (S' := []) k179_91 rfl (Nat.le_of_ble_eq_true rfl) (by decide) (rfl) (by omega) ?_
        refine m_takeS hJ17 ps17 (i := 0) (t := 4) (s := 59) (by decide) (by rw [g17 0 (by decide)]; omega) (by omega) (fun J20 v20 hJ20 ps20 fr20 => ?_)
        show Ev d 179 94 [some (vr 0), x0] [vi v20] (SM J20) Q
        refine ev_s1 (L' := [some (vr 0), x0]) (S' := []) k179_94 rfl rfl ?_
        have hfr : FR7 J J20 := ⟨fun b hb => ((fr20.1 b (by omega)).trans ((congrFun (g17 0 (by decide)) b).trans ((fr16.1 b (by omega)).trans ((fr15.1 b (by omega)).trans ((fr3.1 b (by omega)).trans ((q2 b (by omega)).trans ((q1 b (by omega)).trans (congrFun (f0 0 (by decide)) b)))))))), fun a ha => ((fr20.2 a (by omega)).trans ((g17 a (by omega)).trans ((fr16.2 a (by omega)).trans ((fr15.2 a (by omega)).trans ((fr3.2 a (by omega)).trans ((g2 a (by omega)).trans ((g1 a (by omega)).trans (f0 a (by omega)))))))))⟩
        have d7 : ∀ b, b ≠ 0 → J20 7 b = 0 := fun b hb => by rw [fr20.2 7 (by decide), q17 b hb, fr16.2 7 (by decide), fr15.2 7 (by decide), fr3.2 7 (by decide), g2 7 (by decide), g1 7 (by decide)]; exact z0 b
        have d0 : J20 7 0 = v16 := by rw [fr20.2 7 (by decide)]; exact e17
        by_cases hm : lM3 T = 0
        · have lk := lv_ok hm
          have hv : v16 = lV T := vn16 lk.1
          have ps2 : PST J20 T z (lP3 T) (lM3 T) (J 0 7) := ps20
          rw [hm] at ps2
          exact m_r95 (K := J) hJ20 ps2 hm lk.2.1 lk.2.2 rfl ⟨by rw [d0, hv], d7 1 (by decide), d7 2 (by decide), fun j hj => absurd hj (Nat.not_lt_zero j), fun b hb => d7 b (by omega)⟩ hfr hd hF hY
        · have ps2 : PST J20 T z (lP3 T) (lM3 T) (J 0 7) := ps20
          have y := pa_law (z := z) hm
          exact m_f95 (K := J) hJ20 ps2 hm y.1 y.2 hfr (by omega) hF
      · refine ev_s1 (L' := [some (vr 0), x0]) (S' := [vi 1, vr 0]) k179_85 rfl rfl ?_
        refine ev_goto (t := 90) k179_86 rfl ?_
        refine ev_s1 (L' := [some (vr 0), x0]) (S' := [vi 1, vi 1, vr 0]) k179_90 rfl rfl ?_
        refine ev_virt (a := [vi 1, vi 1]) (S' := []) k179_91 rfl (Nat.le_of_ble_eq_true rfl) (by decide) (rfl) (by omega) ?_
        refine m_takeS hJ17 ps17 (i := 1) (t := 4) (s := 59) (by decide) (by rw [g17 0 (by decide)]; omega) (by omega) (fun J21 v21 hJ21 ps21 fr21 => ?_)
        show Ev d 179 94 [some (vr 0), x0] [vi v21] (SM J21) Q
        refine ev_s1 (L' := [some (vr 0), x0]) (S' := []) k179_94 rfl rfl ?_
        have hfr : FR7 J J21 := ⟨fun b hb => ((fr21.1 b (by omega)).trans ((congrFun (g17 0 (by decide)) b).trans ((fr16.1 b (by omega)).trans ((fr15.1 b (by omega)).trans ((fr3.1 b (by omega)).trans ((q2 b (by omega)).trans ((q1 b (by omega)).trans (congrFun (f0 0 (by decide)) b)))))))), fun a ha => ((fr21.2 a (by omega)).trans ((g17 a (by omega)).trans ((fr16.2 a (by omega)).trans ((fr15.2 a (by omega)).trans ((fr3.2 a (by omega)).trans ((g2 a (by omega)).trans ((g1 a (by omega)).trans (f0 a (by omega)))))))))⟩
        have d7 : ∀ b, b ≠ 0 → J21 7 b = 0 := fun b hb => by rw [fr21.2 7 (by decide), q17 b hb, fr16.2 7 (by decide), fr15.2 7 (by decide), fr3.2 7 (by decide), g2 7 (by decide), g1 7 (by decide)]; exact z0 b
        have d0 : J21 7 0 = v16 := by rw [fr21.2 7 (by decide)]; exact e17
        by_cases hm : lM3 T = 0
        · have lk := lv_ok hm
          have hv : v16 = lV T := vn16 lk.1
          have ps2 : PST J21 T z (lP3 T) (lM3 T) (J 0 7) := ps21
          rw [hm] at ps2
          exact m_r95 (K := J) hJ21 ps2 hm lk.2.1 lk.2.2 rfl ⟨by rw [d0, hv], d7 1 (by decide), d7 2 (by decide), fun j hj => absurd hj (Nat.not_lt_zero j), fun b hb => d7 b (by omega)⟩ hfr hd hF hY
        · have ps2 : PST J21 T z (lP3 T) (lM3 T) (J 0 7) := ps21
          have y := pa_law (z := z) hm
          exact m_f95 (K := J) hJ21 ps2 hm y.1 y.2 hfr (by omega) hF
    · refine ev_s1 (L' := [some (vr 0), x0]) (S' := [vi 1, vr 0]) k179_53 rfl rfl ?_
      refine ev_goto (t := 58) k179_54 rfl ?_
      refine ev_s1 (L' := [some (vr 0), x0]) (S' := [vi 1, vi 1, vr 0]) k179_58 rfl rfl ?_
      refine ev_virt (a := [vi 1, vi 1]) (S' := []) k179_59 rfl (Nat.le_of_ble_eq_true rfl) (by decide) (rfl) (by omega) ?_
      refine m_takeA hJ3 hp0 (i := 1) (by omega) (by omega) (fun J22 v22 hJ22 ps22 fr22 => ?_)
      show Ev d 179 62 [some (vr 0), x0] [vi v22] (SM J22) Q
      refine ev_s1 (L' := [some (vr 0), x0]) (S' := []) k179_62 rfl rfl ?_
      refine ev_s1 (L' := [some (vr 0), x0]) (S' := [vr 0]) k179_63 rfl rfl ?_
      refine ev_getR k179_64 (by decide) (rfl) (y_0_14) ?_
      refine ev_s1 (L' := [some (vr 0), x0]) (S' := [vi 0, vr 7]) k179_67 rfl rfl ?_
      refine ev_s1 (L' := [some (vr 0), x0]) (S' := [vr 0, vi 0, vr 7]) k179_68 rfl rfl ?_
      refine ev_s1 (L' := [some (vr 0), x0]) (S' := [vi 0, vr 0, vi 0, vr 7]) k179_69 rfl rfl ?_
      refine ev_s1 (L' := [some (vr 0), x0]) (S' := [vi 9, vi 0, vr 0, vi 0, vr 7]) k179_70 rfl rfl ?_
      refine ev_virt (a := [vi 0, vi 9]) (S' := [vi 0, vr 7]) k179_72 rfl (Nat.le_of_ble_eq_true rfl) (by decide) (rfl) (by omega) ?_
      refine m_figure hJ22 ps22 (by omega) (by omega) (by omega) (by omega) (by omega) (fun J23 v23 hJ23 ps23 vn23 fr23 vl23 vu23 => ?_)
      show Ev d 179 75 [some (vr 0), x0] [vi v23, vi 0, vr 7] (SM J23) Q
      refine ev_iast k179_75 (by decide) (rfl) (by omega) (by omega) ?_
      show Ev d 179 76 [some (vr 0), x0] [] (SM (up J23 7 0 v23)) Q
      have hJ24 := rz_up hJ23 (k := 7) (j := 0) (z := v23) (by omega) (by omega) (by omega)
      have g24 : ∀ aa, aa ≠ 7 → up J23 7 0 v23 aa = J23 aa := fun aa h => upf h
      have q24 : ∀ bb, bb ≠ 0 → up J23 7 0 v23 7 bb = J23 7 bb := fun bb h => upN (Or.inr h)
      have e24 : up J23 7 0 v23 7 0 = v23 := upE rfl rfl
      generalize up J23 7 0 v23 = J24 at hJ24 g24 q24 e24 ⊢
      have ps24 := ps23.fr (g24 0 (by decide)) (g24 5 (by decide))
      refine ev_s1 (L' := [some (vr 0), x0]) (S' := [vr 0]) k179_76 rfl rfl ?_
      refine ev_s1 (L' := [some (vr 0), x0]) (S' := [vr 0, vr 0]) k179_77 rfl rfl ?_
      refine ev_getI k179_78 (by decide) (rfl) ?_
      show Ev d 179 81 [some (vr 0), x0] [vi (J24 0 11), vr 0] (SM J24) Q
      have rr25 := hJ24.1 0 11
      rw [g24 0 (by decide)]
      rw [g24 0 (by decide)] at rr25
      refine ev_s1 (L' := [some (vr 0), x0]) (S' := [vi 4, vi (J23 0 11), vr 0]) k179_81 rfl rfl ?_
      refine ev_c_ne (t := 89) k179_82 rfl (by omega) (by omega) (by omega) (by omega) (fun h26 => ?_) (fun h26 => ?_)
      · refine ev_s1 (L' := [some (vr 0), x0]) (S' := [vi 0, vr 0]) k179_89 rfl rfl ?_
        refine ev_s1 (L' := [some (vr 0), x0]) (S' := [vi 1, vi 0, vr 0]) k179_90 rfl rfl ?_
        refine ev_virt (a := [vi 0, vi 1]) (S' := []) k179_91 rfl (Nat.le_of_ble_eq_true rfl) (by decide) (rfl) (by omega) ?_
        refine m_takeS hJ24 ps24 (i := 0) (t := 4) (s := 59) (by decide) (by rw [g24 0 (by decide)]; omega) (by omega) (fun J27 v27 hJ27 ps27 fr27 => ?_)
        show Ev d 179 94 [some (vr 0), x0] [vi v27] (SM J27) Q
        refine ev_s1 (L' := [some (vr 0), x0]) (S' := []) k179_94 rfl rfl ?_
        have hfr : FR7 J J27 := ⟨fun b hb => ((fr27.1 b (by omega)).trans ((congrFun (g24 0 (by decide)) b).trans ((fr23.1 b (by omega)).trans ((fr22.1 b (by omega)).trans ((fr3.1 b (by omega)).trans ((q2 b (by omega)).trans ((q1 b (by omega)).trans (congrFun (f0 0 (by decide)) b)))))))), fun a ha => ((fr27.2 a (by omega)).trans ((g24 a (by omega)).trans ((fr23.2 a (by omega)).trans ((fr22.2 a (by omega)).trans ((fr3.2 a (by omega)).trans ((g2 a (by omega)).trans ((g1 a (by omega)).trans (f0 a (by omega)))))))))⟩
        have d7 : ∀ b, b ≠ 0 → J27 7 b = 0 := fun b hb => by rw [fr27.2 7 (by decide), q24 b hb, fr23.2 7 (by decide), fr22.2 7 (by decide), fr3.2 7 (by decide), g2 7 (by decide), g1 7 (by decide)]; exact z0 b
        have d0 : J27 7 0 = v23 := by rw [fr27.2 7 (by decide)]; exact e24
        by_cases hm : lM3 T = 0
        · have lk := lv_ok hm
          have hv : v23 = lV T := vn23 lk.1
          have ps2 : PST J27 T z (lP3 T) (lM3 T) (J 0 7) := ps27
          rw [hm] at ps2
          exact m_r95 (K := J) hJ27 ps2 hm lk.2.1 lk.2.2 rfl ⟨by rw [d0, hv], d7 1 (by decide), d7 2 (by decide), fun j hj => absurd hj (Nat.not_lt_zero j), fun b hb => d7 b (by omega)⟩ hfr hd hF hY
        · have ps2 : PST J27 T z (lP3 T) (lM3 T) (J 0 7) := ps27
          have y := pa_law (z := z) hm
          exact m_f95 (K := J) hJ27 ps2 hm y.1 y.2 hfr (by omega) hF
      · refine ev_s1 (L' := [some (vr 0), x0]) (S' := [vi 1, vr 0]) k179_85 rfl rfl ?_
        refine ev_goto (t := 90) k179_86 rfl ?_
        refine ev_s1 (L' := [some (vr 0), x0]) (S' := [vi 1, vi 1, vr 0]) k179_90 rfl rfl ?_
        refine ev_virt (a := [vi 1, vi 1]) (S' := []) k179_91 rfl (Nat.le_of_ble_eq_true rfl) (by decide) (rfl) (by omega) ?_
        refine m_takeS hJ24 ps24 (i := 1) (t := 4) (s := 59) (by decide) (by rw [g24 0 (by decide)]; omega) (by omega) (fun J28 v28 hJ28 ps28 fr28 => ?_)
        show Ev d 179 94 [some (vr 0), x0] [vi v28] (SM J28) Q
        refine ev_s1 (L' := [some (vr 0), x0]) (S' := []) k179_94 rfl rfl ?_
        have hfr : FR7 J J28 := ⟨fun b hb => ((fr28.1 b (by omega)).trans ((congrFun (g24 0 (by decide)) b).trans ((fr23.1 b (by omega)).trans ((fr22.1 b (by omega)).trans ((fr3.1 b (by omega)).trans ((q2 b (by omega)).trans ((q1 b (by omega)).trans (congrFun (f0 0 (by decide)) b)))))))), fun a ha => ((fr28.2 a (by omega)).trans ((g24 a (by omega)).trans ((fr23.2 a (by omega)).trans ((fr22.2 a (by omega)).trans ((fr3.2 a (by omega)).trans ((g2 a (by omega)).trans ((g1 a (by omega)).trans (f0 a (by omega)))))))))⟩
        have d7 : ∀ b, b ≠ 0 → J28 7 b = 0 := fun b hb => by rw [fr28.2 7 (by decide), q24 b hb, fr23.2 7 (by decide), fr22.2 7 (by decide), fr3.2 7 (by decide), g2 7 (by decide), g1 7 (by decide)]; exact z0 b
        have d0 : J28 7 0 = v23 := by rw [fr28.2 7 (by decide)]; exact e24
        by_cases hm : lM3 T = 0
        · have lk := lv_ok hm
          have hv : v23 = lV T := vn23 lk.1
          have ps2 : PST J28 T z (lP3 T) (lM3 T) (J 0 7) := ps28
          rw [hm] at ps2
          exact m_r95 (K := J) hJ28 ps2 hm lk.2.1 lk.2.2 rfl ⟨by rw [d0, hv], d7 1 (by decide), d7 2 (by decide), fun j hj => absurd hj (Nat.not_lt_zero j), fun b hb => d7 b (by omega)⟩ hfr hd hF hY
        · have ps2 : PST J28 T z (lP3 T) (lM3 T) (J 0 7) := ps28
          have y := pa_law (z := z) hm
          exact m_f95 (K := J) hJ28 ps2 hm y.1 y.2 hfr (by omega) hF
  
