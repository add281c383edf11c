set_option maxHeartbeats 1000000 in
theorem m_seat0 {d : Nat} {J : Nat → Int → Int} {Q : Option jV → jS → Prop} (hJ : RZ J) {w : Int → Int} {i : Int} {x : Option jV} (hw6 : J 6 = w) (i0 : 0 ≤ i) (i1 : i ≤ 10) (hQ : Q (some (vi 0)) (SM J)) : Ev d 202 17 [some (vr 0), some (vi 0), some (vi i), x] [] (SM J) Q := by
  refine ev_s1 (L' := [some (vr 0), some (vi 0), some (vi i), x]) (S' := [vi i]) k202_17 rfl rfl ?_
  refine ev_s1 (L' := [some (vr 0), some (vi 0), some (vi i), x]) (S' := [vr 0, vi i]) k202_18 rfl rfl ?_
  refine ev_getR k202_19 (by decide) (rfl) (y_0_13) ?_
  refine ev_s1 (L' := [some (vr 0), some (vi 0), some (vi i), x]) (S' := [vi 2, vr 6, vi i]) k202_22 rfl rfl ?_
  refine ev_iald k202_23 (by decide) (rfl) (by omega) (by omega) ?_
  have rr1 := hJ.1 6 2
  rw [hw6]
  rw [hw6] at rr1
  refine ev_c_ge (t := 126) k202_24 rfl (by omega) (by omega) (by omega) (by omega) (fun h2 => ?_) (fun h2 => ?_)
  · refine ev_s1 (L' := [some (vr 0), some (vi 0), some (vi i), x]) (S' := [vi 0]) k202_126 rfl rfl ?_
    refine ev_zreturn k202_127 (by decide) ?_
    exact hQ
  · refine ev_s1 (L' := [some (vr 0), some (vi 0), some (vi i), x]) (S' := [vi 0]) k202_27 rfl rfl ?_
    refine ev_z_eq (t := 126) k202_28 rfl (by omega) (by omega) (fun _ => ?_) (fun h => absurd h (by decide))
    refine ev_s1 (L' := [some (vr 0), some (vi 0), some (vi i), x]) (S' := [vi 0]) k202_126 rfl rfl ?_
    refine ev_zreturn k202_127 (by decide) ?_
    exact hQ

set_option maxHeartbeats 1000000 in
theorem m_seatl {d : Nat} {K : Nat → Int → Int} {Q : Option jV → jS → Prop} {w : Int → Int} {l : Nat → Int} (hw : OKW w) (hw6 : K 6 = w) (hl12 : ∀ j : Nat, j < 5 → K 12 j = l j) (hlr : ∀ j : Nat, (j : Int) < w 2 → 0 ≤ l j ∧ l j < w 1) (hd : 5 ≤ d) (hT : ∀ J' v, RZ J' → J' 8 = v → OKW v → v 2 = w 2 → (∀ a, fa1 w (w 2).toNat 0 w l a = weiW v a) → (∀ a, a ≠ 8 → J' a = K a) → Q (some (vi 1)) (SM J')) (hF : ∀ J', RZ J' → (∀ a, fa1 w (w 2).toNat 0 w l a = a) → (∀ a, a ≠ 8 → J' a = K a) → Q (some (vi 0)) (SM J')) : ∀ (n : Nat) (J : Nat → Int → Int) (i : Nat) (v : Int → Int) (x : Option jV), RZ J → w 2 - i < n → (i : Int) ≤ w 2 → J 8 = v → OKW v → v 1 = w 1 → v 2 = w 2 → (∀ x, (i : Int) ≤ x → x < w 2 → v (28 + 4 * x + 2) = w (28 + 4 * x + 2)) → (∀ a, fa1 w (w 2).toNat 0 w l a = fa1 w ((w 2).toNat - i) (i : Int) v (fun j => l (i + j)) a) → (∀ a, a ≠ 8 → J a = K a) → Ev d 202 17 [some (vr 0), some (vi 1), some (vi (i : Int)), x] [] (SM J) Q := by
  intro n
  induction n with
  | zero =>
    intro J i v x hJ hi hi2 hv8 hv v1 v2 hx hfa hF0
    have w2 := hw.2.2.1
    exfalso; omega
  | succ n ih =>
    intro J i v x hJ hi hi2 hv8 hv v1 v2 hx hfa hF0
    have w1 := hw.2.1
    have w2 := hw.2.2.1
    refine ev_s1 (L' := [some (vr 0), some (vi 1), some (vi (i : Int)), x]) (S' := [vi (i : Int)]) k202_17 rfl rfl ?_
    refine ev_s1 (L' := [some (vr 0), some (vi 1), some (vi (i : Int)), x]) (S' := [vr 0, vi (i : Int)]) k202_18 rfl rfl ?_
    refine ev_getR k202_19 (by decide) (rfl) (y_0_13) ?_
    refine ev_s1 (L' := [some (vr 0), some (vi 1), some (vi (i : Int)), x]) (S' := [vi 2, vr 6, vi (i : Int)]) k202_22 rfl rfl ?_
    refine ev_iald k202_23 (by decide) (rfl) (by omega) (by omega) ?_
    have rr1 := hJ.1 6 2
    rw [hF0 6 (by decide), hw6]
    rw [hF0 6 (by decide), hw6] at rr1
    refine ev_c_ge (t := 126) k202_24 rfl (by omega) (by omega) (by omega) (by omega) (fun h2 => ?_) (fun h2 => ?_)
    · refine ev_s1 (L' := [some (vr 0), some (vi 1), some (vi (i : Int)), x]) (S' := [vi 1]) k202_126 rfl rfl ?_
      refine ev_zreturn k202_127 (by decide) ?_
      refine hT _ v hJ hv8 hv v2 (fun a => ?_) hF0
      rw [hfa a, show (w 2).toNat - i = 0 by omega]
      rfl
    · refine ev_s1 (L' := [some (vr 0), some (vi 1), some (vi (i : Int)), x]) (S' := [vi 1]) k202_27 rfl rfl ?_
      refine ev_z_eq (t := 126) k202_28 rfl (by omega) (by omega) (fun h => absurd h (by decide)) (fun _ => ?_)
      refine ev_s1 (L' := [some (vr 0), some (vi 1), some (vi (i : Int)), x]) (S' := [vr 0]) k202_31 rfl rfl ?_
      refine ev_getR k202_32 (by decide) (rfl) (y_0_13) ?_
      refine ev_s1 (L' := [some (vr 0), some (vi 1), some (vi (i : Int)), x]) (S' := [vi 28, vr 6]) k202_35 rfl rfl ?_
      refine ev_s1 (L' := [some (vr 0), some (vi 1), some (vi (i : Int)), x]) (S' := [vi 4, vi 28, vr 6]) k202_37 rfl rfl ?_
      refine ev_s1 (L' := [some (vr 0), some (vi 1), some (vi (i : Int)), x]) (S' := [vi (i : Int), vi 4, vi 28, vr 6]) k202_38 rfl rfl ?_
      refine ev_s1 (L' := [some (vr 0), some (vi 1), some (vi (i : Int)), x]) (S' := [vi (4 * (i : Int)), vi 28, vr 6]) k202_39 rfl rfl ?_
      refine ev_s1 (L' := [some (vr 0), some (vi 1), some (vi (i : Int)), x]) (S' := [vi (28 + (4 * (i : Int))), vr 6]) k202_40 rfl rfl ?_
      refine ev_s1 (L' := [some (vr 0), some (vi 1), some (vi (i : Int)), x]) (S' := [vi 2, vi (28 + (4 * (i : Int))), vr 6]) k202_41 rfl rfl ?_
      refine ev_s1 (L' := [some (vr 0), some (vi 1), some (vi (i : Int)), x]) (S' := [vi ((28 + (4 * (i : Int))) + 2), vr 6]) k202_42 rfl rfl ?_
      refine ev_iald k202_43 (by decide) (rfl) (by omega) (by omega) ?_
      have rr3 := hJ.1 6 ((28 + (4 * (i : Int))) + 2)
      rw [hF0 6 (by decide), hw6]
      rw [hF0 6 (by decide), hw6] at rr3
      refine ev_z_le (t := 51) k202_44 rfl (by omega) (by omega) (fun h4 => ?_) (fun h4 => ?_)
      · refine ev_s1 (L' := [some (vr 0), some (vi 1), some (vi (i : Int)), x]) (S' := [vi 0]) k202_51 rfl rfl ?_
        refine ev_s1 (L' := [some (vr 0), some (vi 1), some (vi (i : Int)), some (vi 0)]) (S' := []) k202_52 rfl rfl ?_
        have lr := hlr i (by omega)
        have wat := (hw.2.2.2.2.1 (i : Int) (by omega) (by omega)).2.2.1
        refine ev_s1 (L' := [some (vr 0), some (vi 1), some (vi (i : Int)), some (vi 0)]) (S' := [vi 0]) k202_53 rfl rfl ?_
        refine ev_z_eq (t := 74) k202_54 rfl (by omega) (by omega) (fun _ => ?_) (fun h => absurd h (by decide))
        refine ev_s1 (L' := [some (vr 0), some (vi 1), some (vi (i : Int)), some (vi 0)]) (S' := [vr 0]) k202_74 rfl rfl ?_
        refine ev_getR k202_75 (by decide) (rfl) (y_0_15) ?_
        refine ev_s1 (L' := [some (vr 0), some (vi 1), some (vi (i : Int)), some (vi 0)]) (S' := [vr 0, vr 8]) k202_78 rfl rfl ?_
        refine ev_getR k202_79 (by decide) (rfl) (y_0_20) ?_
        refine ev_s1 (L' := [some (vr 0), some (vi 1), some (vi (i : Int)), some (vi 0)]) (S' := [vi (i : Int), vr 12, vr 8]) k202_82 rfl rfl ?_
        refine ev_iald k202_83 (by decide) (rfl) (by omega) (by omega) ?_
        have rr5 := hJ.1 12 (i : Int)
        rw [hF0 12 (by decide), hl12 i (by omega)]
        rw [hF0 12 (by decide), hl12 i (by omega)] at rr5
        refine ev_static (a := [vr 8, vi (l i)]) (S' := []) k202_84 rfl (Nat.le_of_ble_eq_true rfl) (by omega) ?_
        refine m_sitter hJ (k := 8) (by decide) (c := l i) (by omega) (by omega) (by rw [hv8]; omega) (by rw [hv8]; omega) (?_)
        rw [hv8]
        have sr84 := sit_rng v (l i) (by omega)
        show Ev d 202 87 [some (vr 0), some (vi 1), some (vi (i : Int)), some (vi 0)] [vi (sitW v (l i))] (SM J) Q
        refine ev_ldc k202_87 ?_
        refine ev_c_ne (t := 96) k202_89 rfl (by omega) (by omega) (by omega) (by omega) (fun h6 => ?_) (fun h6 => ?_)
        · refine ev_s1 (L' := [some (vr 0), some (vi 1), some (vi (i : Int)), some (vi 0)]) (S' := [vi 0]) k202_96 rfl rfl ?_
          refine ev_s1 (L' := [some (vr 0), some (vi 0), some (vi (i : Int)), some (vi 0)]) (S' := []) k202_97 rfl rfl ?_
          refine ev_s1 (L' := [some (vr 0), some (vi 0), some (vi (i : Int)), some (vi 0)]) (S' := [vi 0]) k202_98 rfl rfl ?_
          refine ev_z_eq (t := 120) k202_99 rfl (by omega) (by omega) (fun _ => ?_) (fun h => absurd h (by decide))
          refine ev_s1 (L' := [some (vr 0), some (vi 0), some (vi ((i : Int) + 1)), some (vi 0)]) (S' := []) k202_120 rfl rfl ?_
          refine ev_goto (t := 17) k202_123 rfl ?_
          refine m_seat0 hJ (w := w) (by rw [hF0 6 (by decide), hw6]) (by omega) (by omega) (hF _ hJ (fun a => ?_) (fun a ha => (hF0 a (ha))))
          rw [hfa a, show (w 2).toNat - i = ((w 2).toNat - (i + 1)) + 1 by omega, fa1]
          show (if okS w v (i : Int) (l i) = true then fa1 w _ _ (if w (28 + 4 * (i : Int) + 2) = 0 then putsW v (i : Int) (l i) else v) (fun j => l (i + (j + 1))) a else a) = _
          rw [if_neg (show ¬ okS w v (i : Int) (l i) = true by unfold okS; rw [if_pos (by omega)]; simp only [decide_eq_true_eq]; omega)]
        · refine ev_s1 (L' := [some (vr 0), some (vi 1), some (vi (i : Int)), some (vi 0)]) (S' := [vi 1]) k202_92 rfl rfl ?_
          refine ev_goto (t := 97) k202_93 rfl ?_
          refine ev_s1 (L' := [some (vr 0), some (vi 1), some (vi (i : Int)), some (vi 0)]) (S' := []) k202_97 rfl rfl ?_
          refine ev_s1 (L' := [some (vr 0), some (vi 1), some (vi (i : Int)), some (vi 0)]) (S' := [vi 1]) k202_98 rfl rfl ?_
          refine ev_z_eq (t := 120) k202_99 rfl (by omega) (by omega) (fun h => absurd h (by decide)) (fun _ => ?_)
          refine ev_s1 (L' := [some (vr 0), some (vi 1), some (vi (i : Int)), some (vi 0)]) (S' := [vi 0]) k202_102 rfl rfl ?_
          refine ev_z_ne (t := 120) k202_103 rfl (by omega) (by omega) (fun h => absurd h (by decide)) (fun _ => ?_)
          refine ev_s1 (L' := [some (vr 0), some (vi 1), some (vi (i : Int)), some (vi 0)]) (S' := [vr 0]) k202_106 rfl rfl ?_
          refine ev_getR k202_107 (by decide) (rfl) (y_0_15) ?_
          refine ev_s1 (L' := [some (vr 0), some (vi 1), some (vi (i : Int)), some (vi 0)]) (S' := [vi (i : Int), vr 8]) k202_110 rfl rfl ?_
          refine ev_s1 (L' := [some (vr 0), some (vi 1), some (vi (i : Int)), some (vi 0)]) (S' := [vr 0, vi (i : Int), vr 8]) k202_111 rfl rfl ?_
          refine ev_getR k202_112 (by decide) (rfl) (y_0_20) ?_
          refine ev_s1 (L' := [some (vr 0), some (vi 1), some (vi (i : Int)), some (vi 0)]) (S' := [vi (i : Int), vr 12, vi (i : Int), vr 8]) k202_115 rfl rfl ?_
          refine ev_iald k202_116 (by decide) (rfl) (by omega) (by omega) ?_
          have rr7 := hJ.1 12 (i : Int)
          rw [hF0 12 (by decide), hl12 i (by omega)]
          rw [hF0 12 (by decide), hl12 i (by omega)] at rr7
          refine ev_static (a := [vr 8, vi (i : Int), vi (l i)]) (S' := []) k202_117 rfl (Nat.le_of_ble_eq_true rfl) (by omega) ?_
          refine m_puts hJ (k := 8) (by decide) (g := (i : Int)) (c := l i) (by omega) (by omega) (by omega) (by omega) (by rw [hv8]; exact (hv.2.2.2.1 (l i) (by omega) (by omega))) (by rw [hv8]; exact (hv.2.2.2.2.1 (i : Int) (by omega) (by omega)).1) (by rw [hv8]; exact (hv.2.2.2.2.1 (i : Int) (by omega) (by omega)).2.1) (by omega) (fun J8 hJ8 w8 f8 => ?_)
          rw [hv8] at w8
          show Ev d 202 120 [some (vr 0), some (vi 1), some (vi (i : Int)), some (vi 0)] [] (SM J8) Q
          refine ev_s1 (L' := [some (vr 0), some (vi 1), some (vi ((i : Int) + 1)), some (vi 0)]) (S' := []) k202_120 rfl rfl ?_
          refine ev_goto (t := 17) k202_123 rfl ?_
          refine ih J8 (i + 1) (putsW v (i : Int) (l i)) _ hJ8 (by omega) (by omega) w8 (puts_ok hv (by omega) (by omega) (by omega) (by omega) (by omega)) ?_ ?_ (fun x x0 x1 => ?_) (fun a => ?_) (fun a ha => ((f8 a (ha)).trans (hF0 a (ha))))
          · rw [puts_lo (by omega) (by omega) (by decide)]; exact v1
          · rw [puts_lo (by omega) (by omega) (by decide)]; exact v2
          · rw [puts_at (by omega) (by omega) (by omega), if_neg (by omega)]; exact hx x (by omega) x1
          · rw [hfa a, show (w 2).toNat - i = ((w 2).toNat - (i + 1)) + 1 by omega, fa1]
            show (if okS w v (i : Int) (l i) = true then fa1 w _ _ (if w (28 + 4 * (i : Int) + 2) = 0 then putsW v (i : Int) (l i) else v) (fun j => l (i + (j + 1))) a else a) = _
            rw [if_pos (show okS w v (i : Int) (l i) = true by unfold okS; rw [if_pos (by omega)]; exact decide_eq_true (by omega)), if_pos (by omega)]
            exact fa_congr _ _ _ _ _ _ (fun j _ => by rw [show i + (j + 1) = i + 1 + j by omega])
      · refine ev_s1 (L' := [some (vr 0), some (vi 1), some (vi (i : Int)), x]) (S' := [vi 1]) k202_47 rfl rfl ?_
        refine ev_goto (t := 52) k202_48 rfl ?_
        refine ev_s1 (L' := [some (vr 0), some (vi 1), some (vi (i : Int)), some (vi 1)]) (S' := []) k202_52 rfl rfl ?_
        have lr := hlr i (by omega)
        have wat := (hw.2.2.2.2.1 (i : Int) (by omega) (by omega)).2.2.1
        refine ev_s1 (L' := [some (vr 0), some (vi 1), some (vi (i : Int)), some (vi 1)]) (S' := [vi 1]) k202_53 rfl rfl ?_
        refine ev_z_eq (t := 74) k202_54 rfl (by omega) (by omega) (fun h => absurd h (by decide)) (fun _ => ?_)
        refine ev_s1 (L' := [some (vr 0), some (vi 1), some (vi (i : Int)), some (vi 1)]) (S' := [vr 0]) k202_57 rfl rfl ?_
        refine ev_getR k202_58 (by decide) (rfl) (y_0_20) ?_
        refine ev_s1 (L' := [some (vr 0), some (vi 1), some (vi (i : Int)), some (vi 1)]) (S' := [vi (i : Int), vr 12]) k202_61 rfl rfl ?_
        refine ev_iald k202_62 (by decide) (rfl) (by omega) (by omega) ?_
        have rr9 := hJ.1 12 (i : Int)
        rw [hF0 12 (by decide), hl12 i (by omega)]
        rw [hF0 12 (by decide), hl12 i (by omega)] at rr9
        refine ev_z_ne (t := 70) k202_63 rfl (by omega) (by omega) (fun h10 => ?_) (fun h10 => ?_)
        · refine ev_s1 (L' := [some (vr 0), some (vi 1), some (vi (i : Int)), some (vi 1)]) (S' := [vi 0]) k202_70 rfl rfl ?_
          refine ev_goto (t := 97) k202_71 rfl ?_
          refine ev_s1 (L' := [some (vr 0), some (vi 0), some (vi (i : Int)), some (vi 1)]) (S' := []) k202_97 rfl rfl ?_
          refine ev_s1 (L' := [some (vr 0), some (vi 0), some (vi (i : Int)), some (vi 1)]) (S' := [vi 0]) k202_98 rfl rfl ?_
          refine ev_z_eq (t := 120) k202_99 rfl (by omega) (by omega) (fun _ => ?_) (fun h => absurd h (by decide))
          refine ev_s1 (L' := [some (vr 0), some (vi 0), some (vi ((i : Int) + 1)), some (vi 1)]) (S' := []) k202_120 rfl rfl ?_
          refine ev_goto (t := 17) k202_123 rfl ?_
          refine m_seat0 hJ (w := w) (by rw [hF0 6 (by decide), hw6]) (by omega) (by omega) (hF _ hJ (fun a => ?_) (fun a ha => (hF0 a (ha))))
          rw [hfa a, show (w 2).toNat - i = ((w 2).toNat - (i + 1)) + 1 by omega, fa1]
          show (if okS w v (i : Int) (l i) = true then fa1 w _ _ (if w (28 + 4 * (i : Int) + 2) = 0 then putsW v (i : Int) (l i) else v) (fun j => l (i + (j + 1))) a else a) = _
          rw [if_neg (show ¬ okS w v (i : Int) (l i) = true by unfold okS; rw [if_neg (by omega)]; simp only [decide_eq_true_eq]; omega)]
        · refine ev_s1 (L' := [some (vr 0), some (vi 1), some (vi (i : Int)), some (vi 1)]) (S' := [vi 1]) k202_66 rfl rfl ?_
          refine ev_goto (t := 97) k202_67 rfl ?_
          refine ev_s1 (L' := [some (vr 0), some (vi 1), some (vi (i : Int)), some (vi 1)]) (S' := []) k202_97 rfl rfl ?_
          refine ev_s1 (L' := [some (vr 0), some (vi 1), some (vi (i : Int)), some (vi 1)]) (S' := [vi 1]) k202_98 rfl rfl ?_
          refine ev_z_eq (t := 120) k202_99 rfl (by omega) (by omega) (fun h => absurd h (by decide)) (fun _ => ?_)
          refine ev_s1 (L' := [some (vr 0), some (vi 1), some (vi (i : Int)), some (vi 1)]) (S' := [vi 1]) k202_102 rfl rfl ?_
          refine ev_z_ne (t := 120) k202_103 rfl (by omega) (by omega) (fun _ => ?_) (fun h => absurd h (by decide))
          refine ev_s1 (L' := [some (vr 0), some (vi 1), some (vi ((i : Int) + 1)), some (vi 1)]) (S' := []) k202_120 rfl rfl ?_
          refine ev_goto (t := 17) k202_123 rfl ?_
          refine ih J (i + 1) v _ hJ (by omega) (by omega) hv8 hv v1 v2 (fun x x0 x1 => hx x (by omega) x1) (fun a => ?_) (fun a ha => (hF0 a (ha)))
          rw [hfa a, show (w 2).toNat - i = ((w 2).toNat - (i + 1)) + 1 by omega, fa1]
          show (if okS w v (i : Int) (l i) = true then fa1 w _ _ (if w (28 + 4 * (i : Int) + 2) = 0 then putsW v (i : Int) (l i) else v) (fun j => l (i + (j + 1))) a else a) = _
          rw [if_pos (show okS w v (i : Int) (l i) = true by unfold okS; rw [if_neg (by omega)]; exact decide_eq_true (by omega)), if_neg (by omega)]
          exact fa_congr _ _ _ _ _ _ (fun j _ => by rw [show i + (j + 1) = i + 1 + j by omega])

set_option maxHeartbeats 1000000 in
theorem m_seats {d : Nat} {J : Nat → Int → Int} {Q : Option jV → jS → Prop} (hJ : RZ J) {w : Int → Int} {l : Nat → Int} (hw : OKW w) (hw6 : J 6 = w) (hl12 : ∀ j : Nat, j < 5 → J 12 j = l j) (hlr : ∀ j : Nat, (j : Int) < w 2 → 0 ≤ l j ∧ l j < w 1) (hd : 5 ≤ d) (hT : ∀ J' v, RZ J' → J' 8 = v → OKW v → v 2 = w 2 → (∀ a, fa1 w (w 2).toNat 0 w l a = weiW v a) → (∀ a, a ≠ 8 → J' a = J a) → Q (some (vi 1)) (SM J')) (hF : ∀ J', RZ J' → (∀ a, fa1 w (w 2).toNat 0 w l a = a) → (∀ a, a ≠ 8 → J' a = J a) → Q (some (vi 0)) (SM J')) : Cl d 202 [vr 0] (SM J) Q := by
  have w1 := hw.2.1
  have w2 := hw.2.2.1
  refine ⟨by rw [l202]; exact Nat.le_of_ble_eq_true rfl, ?_⟩
  rw [l202]
  show Ev d 202 0 [some (vr 0), none, none, none] [] (SM J) Q
  refine ev_s1 (L' := [some (vr 0), none, none, none]) (S' := [vr 0]) k202_0 rfl rfl ?_
  refine ev_getR k202_1 (by decide) (rfl) (y_0_13) ?_
  refine ev_s1 (L' := [some (vr 0), none, none, none]) (S' := [vi 0, vr 6]) k202_4 rfl rfl ?_
  refine ev_s1 (L' := [some (vr 0), none, none, none]) (S' := [vr 0, vi 0, vr 6]) k202_5 rfl rfl ?_
  refine ev_getR k202_6 (by decide) (rfl) (y_0_15) ?_
  refine ev_s1 (L' := [some (vr 0), none, none, none]) (S' := [vi 0, vr 8, vi 0, vr 6]) k202_9 rfl rfl ?_
  refine ev_static (a := [vr 6, vi 0, vr 8, vi 0]) (S' := []) k202_10 rfl (Nat.le_of_ble_eq_true rfl) (by omega) ?_
  refine m_copies hJ (f := 6) (t := 8) (lf := 48) (lt := 48) (a := 0) (b := 0) (by decide) ⟨by decide, rfl⟩ ⟨by decide, rfl⟩ (by omega) (by omega) (by omega) (by omega) (by omega) (by decide) (by decide) (fun J1 hJ1 w1 f1 => ?_)
  rw [cp_full hJ.2 (by decide) (by decide)] at w1
  rw [hw6] at w1
  show Ev d 202 13 [some (vr 0), none, none, none] [] (SM J1) Q
  refine ev_s1 (L' := [some (vr 0), none, none, none]) (S' := [vi 1]) k202_13 rfl rfl ?_
  refine ev_s1 (L' := [some (vr 0), some (vi 1), none, none]) (S' := []) k202_14 rfl rfl ?_
  refine ev_s1 (L' := [some (vr 0), some (vi 1), none, none]) (S' := [vi 0]) k202_15 rfl rfl ?_
  refine ev_s1 (L' := [some (vr 0), some (vi 1), some (vi 0), none]) (S' := []) k202_16 rfl rfl ?_
  exact m_seatl (K := J) hw hw6 hl12 hlr hd hT hF 6 J1 0 w _ hJ1 (by omega) (by omega) (by rw [w1]) hw rfl rfl (fun _ _ _ => rfl) (fun a => fa_congr _ _ _ _ _ _ (fun j _ => by rw [Nat.zero_add])) (fun a ha => (f1 a (ha)))

set_option maxHeartbeats 1000000 in
theorem m_seaz {d : Nat} {K : Nat → Int → Int} {Q : Option jV → jS → Prop} {k : Int} (hE : ∀ (J' : Nat → Int → Int) (x : Int), RZ J' → (∀ j : Nat, j < 5 → J' 12 j = 0) → (∀ a, a ≠ 12 → J' a = K a) → Ev d 203 42 [some (vr 0), some (vi k), some (vi x), none, none] [] (SM J') Q) : ∀ (n : Nat) (J : Nat → Int → Int) (i : Nat) (x : Option jV), RZ J → 5 - (i : Int) < n → i ≤ 5 → (∀ j : Nat, j < i → J 12 j = 0) → (∀ a, a ≠ 12 → J a = K a) → Ev d 203 24 [some (vr 0), some (vi k), some (vi (i : Int)), none, none] [] (SM J) Q := by
  intro n
  induction n with
  | zero =>
    intro J i x hJ hi hi2
    exfalso; omega
  | succ n ih =>
    intro J i x hJ hi hi2 hz0 hF0
    refine ev_s1 (L' := [some (vr 0), some (vi k), some (vi (i : Int)), none, none]) (S' := [vi (i : Int)]) k203_24 rfl rfl ?_
    refine ev_s1 (L' := [some (vr 0), some (vi k), some (vi (i : Int)), none, none]) (S' := [vi 5, vi (i : Int)]) k203_25 rfl rfl ?_
    refine ev_c_ge (t := 42) k203_26 rfl (by omega) (by omega) (by omega) (by omega) (fun h1 => ?_) (fun h1 => ?_)
    · exact hE _ _ hJ (fun j hj => hz0 j (by omega)) hF0
    · refine ev_s1 (L' := [some (vr 0), some (vi k), some (vi (i : Int)), none, none]) (S' := [vr 0]) k203_29 rfl rfl ?_
      refine ev_getR k203_30 (by decide) (rfl) (y_0_20) ?_
      refine ev_s1 (L' := [some (vr 0), some (vi k), some (vi (i : Int)), none, none]) (S' := [vi (i : Int), vr 12]) k203_33 rfl rfl ?_
      refine ev_s1 (L' := [some (vr 0), some (vi k), some (vi (i : Int)), none, none]) (S' := [vi 0, vi (i : Int), vr 12]) k203_34 rfl rfl ?_
      refine ev_iast k203_35 (by decide) (rfl) (by omega) (by omega) ?_
      show Ev d 203 36 [some (vr 0), some (vi k), some (vi (i : Int)), none, none] [] (SM (up J 12 (i : Int) 0)) Q
      have hJ2 := rz_up hJ (k := 12) (j := (i : Int)) (z := 0) (by omega) (by omega) (by omega)
      have g2 : ∀ aa, aa ≠ 12 → up J 12 (i : Int) 0 aa = J aa := fun aa h => upf h
      have q2 : ∀ bb, bb ≠ (i : Int) → up J 12 (i : Int) 0 12 bb = J 12 bb := fun bb h => upN (Or.inr h)
      have e2 : up J 12 (i : Int) 0 12 (i : Int) = 0 := upE rfl rfl
      generalize up J 12 (i : Int) 0 = J2 at hJ2 g2 q2 e2 ⊢
      refine ev_s1 (L' := [some (vr 0), some (vi k), some (vi ((i : Int) + 1)), none, none]) (S' := []) k203_36 rfl rfl ?_
      refine ev_goto (t := 24) k203_39 rfl ?_
      refine ih J2 (i + 1) x hJ2 (by omega) (by omega) (fun j hj => ?_) (fun a ha => (g2 a ha).trans (hF0 a ha))
      by_cases q : (j : Int) = (i : Int)
      · rw [q, e2]
      · rw [q2 _ q]; exact hz0 j (by omega)

set_option maxHeartbeats 1000000 in
theorem m_seab {d : Nat} {K : Nat → Int → Int} {Q : Option jV → jS → Prop} {k z : Int} {w v : Int → Int} (hw6 : K 6 = w) (hv8 : K 8 = v) (w2 : 0 ≤ w 2 ∧ w 2 ≤ 5) (hv : ∀ g, 0 ≤ g → g < w 2 → 0 ≤ v (28 + 4 * g + 2) ∧ v (28 + 4 * g + 2) ≤ 5) (hE : ∀ (J' : Nat → Int → Int) (x : Int), RZ J' → (∀ b, 0 ≤ b → b < w 2 → J' 13 b = v (28 + 4 * b + 2) - 1) → (∀ a, a ≠ 13 → J' a = K a) → Ev d 203 120 [some (vr 0), some (vi k), some (vi z), some (vi 1), some (vi x)] [] (SM J') Q) : ∀ (n : Nat) (J : Nat → Int → Int) (i : Nat), RZ J → w 2 - i < n → (i : Int) ≤ w 2 → (∀ b, 0 ≤ b → b < (i : Int) → J 13 b = v (28 + 4 * b + 2) - 1) → (∀ a, a ≠ 13 → J a = K a) → Ev d 203 80 [some (vr 0), some (vi k), some (vi z), some (vi 1), some (vi (i : Int))] [] (SM J) Q := by
  intro n
  induction n with
  | zero =>
    intro J i hJ hi hi2
    exfalso; omega
  | succ n ih =>
    intro J i hJ hi hi2 hb hF0
    have hvi := hv (i : Int) (by omega)
    refine ev_s1 (L' := [some (vr 0), some (vi k), some (vi z), some (vi 1), some (vi (i : Int))]) (S' := [vi (i : Int)]) k203_80 rfl rfl ?_
    refine ev_s1 (L' := [some (vr 0), some (vi k), some (vi z), some (vi 1), some (vi (i : Int))]) (S' := [vr 0, vi (i : Int)]) k203_82 rfl rfl ?_
    refine ev_getR k203_83 (by decide) (rfl) (y_0_13) ?_
    refine ev_s1 (L' := [some (vr 0), some (vi k), some (vi z), some (vi 1), some (vi (i : Int))]) (S' := [vi 2, vr 6, vi (i : Int)]) k203_86 rfl rfl ?_
    refine ev_iald k203_87 (by decide) (rfl) (by omega) (by omega) ?_
    have rr1 := hJ.1 6 2
    rw [hF0 6 (by decide), hw6]
    rw [hF0 6 (by decide), hw6] at rr1
    refine ev_c_ge (t := 120) k203_88 rfl (by omega) (by omega) (by omega) (by omega) (fun h2 => ?_) (fun h2 => ?_)
    · exact hE _ _ hJ (fun b b0 b1 => hb b b0 (by omega)) hF0
    · refine ev_s1 (L' := [some (vr 0), some (vi k), some (vi z), some (vi 1), some (vi (i : Int))]) (S' := [vr 0]) k203_91 rfl rfl ?_
      refine ev_getR k203_92 (by decide) (rfl) (y_0_21) ?_
      refine ev_s1 (L' := [some (vr 0), some (vi k), some (vi z), some (vi 1), some (vi (i : Int))]) (S' := [vi (i : Int), vr 13]) k203_95 rfl rfl ?_
      refine ev_s1 (L' := [some (vr 0), some (vi k), some (vi z), some (vi 1), some (vi (i : Int))]) (S' := [vr 0, vi (i : Int), vr 13]) k203_97 rfl rfl ?_
      refine ev_getR k203_98 (by decide) (rfl) (y_0_15) ?_
      refine ev_s1 (L' := [some (vr 0), some (vi k), some (vi z), some (vi 1), some (vi (i : Int))]) (S' := [vi 28, vr 8, vi (i : Int), vr 13]) k203_101 rfl rfl ?_
      refine ev_s1 (L' := [some (vr 0), some (vi k), some (vi z), some (vi 1), some (vi (i : Int))]) (S' := [vi 4, vi 28, vr 8, vi (i : Int), vr 13]) k203_103 rfl rfl ?_
      refine ev_s1 (L' := [some (vr 0), some (vi k), some (vi z), some (vi 1), some (vi (i : Int))]) (S' := [vi (i : Int), vi 4, vi 28, vr 8, vi (i : Int), vr 13]) k203_104 rfl rfl ?_
      refine ev_s1 (L' := [some (vr 0), some (vi k), some (vi z), some (vi 1), some (vi (i : Int))]) (S' := [vi (4 * (i : Int)), vi 28, vr 8, vi (i : Int), vr 13]) k203_106 rfl rfl ?_
      refine ev_s1 (L' := [some (vr 0), some (vi k), some (vi z), some (vi 1), some (vi (i : Int))]) (S' := [vi (28 + (4 * (i : Int))), vr 8, vi (i : Int), vr 13]) k203_107 rfl rfl ?_
      refine ev_s1 (L' := [some (vr 0), some (vi k), some (vi z), some (vi 1), some (vi (i : Int))]) (S' := [vi 2, vi (28 + (4 * (i : Int))), vr 8, vi (i : Int), vr 13]) k203_108 rfl rfl ?_
      refine ev_s1 (L' := [some (vr 0), some (vi k), some (vi z), some (vi 1), some (vi (i : Int))]) (S' := [vi ((28 + (4 * (i : Int))) + 2), vr 8, vi (i : Int), vr 13]) k203_109 rfl rfl ?_
      refine ev_iald k203_110 (by decide) (rfl) (by omega) (by omega) ?_
      have rr3 := hJ.1 8 ((28 + (4 * (i : Int))) + 2)
      rw [hF0 8 (by decide), hv8]
      rw [hF0 8 (by decide), hv8] at rr3
      refine ev_s1 (L' := [some (vr 0), some (vi k), some (vi z), some (vi 1), some (vi (i : Int))]) (S' := [vi 1, vi (v ((28 + (4 * (i : Int))) + 2)), vi (i : Int), vr 13]) k203_111 rfl rfl ?_
      refine ev_s1 (L' := [some (vr 0), some (vi k), some (vi z), some (vi 1), some (vi (i : Int))]) (S' := [vi ((v ((28 + (4 * (i : Int))) + 2)) - 1), vi (i : Int), vr 13]) k203_112 rfl rfl ?_
      refine ev_iast k203_113 (by decide) (rfl) (by omega) (by omega) ?_
      show Ev d 203 114 [some (vr 0), some (vi k), some (vi z), some (vi 1), some (vi (i : Int))] [] (SM (up J 13 (i : Int) ((v ((28 + (4 * (i : Int))) + 2)) - 1))) Q
      have hJ4 := rz_up hJ (k := 13) (j := (i : Int)) (z := (v ((28 + (4 * (i : Int))) + 2)) - 1) (by omega) (by omega) (by omega)
      have g4 : ∀ aa, aa ≠ 13 → up J 13 (i : Int) ((v ((28 + (4 * (i : Int))) + 2)) - 1) aa = J aa := fun aa h => upf h
      have q4 : ∀ bb, bb ≠ (i : Int) → up J 13 (i : Int) ((v ((28 + (4 * (i : Int))) + 2)) - 1) 13 bb = J 13 bb := fun bb h => upN (Or.inr h)
      have e4 : up J 13 (i : Int) ((v ((28 + (4 * (i : Int))) + 2)) - 1) 13 (i : Int) = (v ((28 + (4 * (i : Int))) + 2)) - 1 := upE rfl rfl
      generalize up J 13 (i : Int) ((v ((28 + (4 * (i : Int))) + 2)) - 1) = J4 at hJ4 g4 q4 e4 ⊢
      refine ev_s1 (L' := [some (vr 0), some (vi k), some (vi z), some (vi 1), some (vi ((i : Int) + 1))]) (S' := []) k203_114 rfl rfl ?_
      refine ev_goto (t := 80) k203_117 rfl ?_
      refine ih J4 (i + 1) hJ4 (by omega) (by omega) (fun b b0 b1 => ?_) (fun a ha => (g4 a ha).trans (hF0 a ha))
      by_cases q : b = (i : Int)
      · rw [q, e4]
      · rw [q4 _ q]; exact hb b b0 (by omega)

theorem m_seats2 {d : Nat} {J : Nat → Int → Int} {Q : Option jV → jS → Prop} (hJ : RZ J) {w : Int → Int} {t : Int} (hw : OKW w) (hw6 : J 6 = w) (hw1 : 1 ≤ w 1) (hl : ∀ j : Nat, j < (w 2).toNat → J 12 j = dgW (w 1) (w 2).toNat t j) (hd : 5 ≤ d) (hT : ∀ J' v, RZ J' → J' 8 = v → OKW v → v 2 = w 2 → (∀ a, fa1 w (w 2).toNat 0 w (dgW (w 1) (w 2).toNat t) a = weiW v a) → (∀ a, a ≠ 8 → J' a = J a) → Q (some (vi 1)) (SM J')) (hF : ∀ J', RZ J' → (∀ a, fa1 w (w 2).toNat 0 w (dgW (w 1) (w 2).toNat t) a = a) → (∀ a, a ≠ 8 → J' a = J a) → Q (some (vi 0)) (SM J')) : Cl d 202 [vr 0] (SM J) Q := by
  have e : ∀ a, fa1 w (w 2).toNat 0 w (fun j => J 12 j) a = fa1 w (w 2).toNat 0 w (dgW (w 1) (w 2).toNat t) a := fun a => fa_congr _ _ _ _ _ _ (fun j hj => hl j hj)
  refine m_seats hJ (w := w) (l := fun j => J 12 j) hw hw6 (fun _ _ => rfl) (fun j hj => ?_) hd (fun J' v a1 a2 a3 a4 a5 a6 => hT J' v a1 a2 a3 a4 (fun a => by rw [← e a]; exact a5 a) a6) (fun J' a1 a2 a3 => hF J' a1 (fun a => by rw [← e a]; exact a2 a) a3)
  rw [hl j (by omega)]
  exact dg_rng hw1

set_option maxHeartbeats 1000000 in
theorem m_seam {d : Nat} {K : Nat → Int → Int} {Q : Option jV → jS → Prop} {k : Int} {w : Int → Int} (hw : OKW w) (hw6 : K 6 = w) (hw1 : 1 ≤ w 1) (k0 : -1 ≤ k) (k4 : k ≤ 4) (hd : 6 ≤ d) (hQ : ∀ J', RZ J' → (∀ a, a ≠ 8 → a ≠ 12 → a ≠ 13 → J' a = K a) → Q (some (vi (seaA w k))) (SM J')) : ∀ (n : Nat) (J : Nat → Int → Int) (t : Nat) (a : bA) (z : Int) (x : Option jV), RZ J → pwW (w 1) (w 2).toNat - (t : Int) < n → restW (w 1) (t : Int) (w 2).toNat = 0 → (∀ j : Nat, j < (w 2).toNat → J 12 j = dgW (w 1) (w 2).toNat (t : Int) j) → z = a.1 → (a.1 ≠ -1000000 → ∀ b, 0 ≤ b → b < w 2 → J 13 b = a.2 b) → (∀ a, a ≠ 8 → a ≠ 12 → a ≠ 13 → J a = K a) → a = folC (fun t a => fa1 w (w 2).toNat 0 w (dgW (w 1) (w 2).toNat t) a) t (-1000000, fun _ => 0) → (-1000000 ≤ z ∧ z ≤ 100) → Ev d 203 47 [some (vr 0), some (vi k), some (vi z), some (vi 1), x] [] (SM J) Q := by
  intro n
  induction n with
  | zero =>
    intro J t a z x hJ hi hz hl haz hB hF0 ha hzr
    have := (rest_zero hw1 (show (0 : Int) ≤ (t : Int) by omega) (w 2).toNat).mp hz
    exfalso; omega
  | succ n ih =>
    intro J t a z x hJ hi hz hl haz hB hF0 ha hzr
    have w1 := hw.2.1
    have w2 := hw.2.2.1
    refine ev_s1 (L' := [some (vr 0), some (vi k), some (vi z), some (vi 1), x]) (S' := [vi 1]) k203_47 rfl rfl ?_
    refine ev_z_eq (t := 140) k203_48 rfl (by omega) (by omega) (fun h => absurd h (by decide)) (fun _ => ?_)
    refine ev_s1 (L' := [some (vr 0), some (vi k), some (vi z), some (vi 1), x]) (S' := [vr 0]) k203_51 rfl rfl ?_
    refine ev_virt (a := []) (S' := []) k203_52 rfl (Nat.le_of_ble_eq_true rfl) (by decide) (rfl) (by omega) ?_
    refine m_seats2 hJ (w := w) (t := (t : Int)) hw (by rw [hF0 6 (by decide) (by decide) (by decide), hw6]) hw1 hl (by omega) (fun J1 v1 hJ1 w1 o1 u1 fz1 f1 => ?_) (fun J1 hJ1 fz1 f1 => ?_)
    · show Ev d 203 55 [some (vr 0), some (vi k), some (vi z), some (vi 1), x] [vi 1] (SM J1) Q
      refine ev_z_eq (t := 120) k203_55 rfl (by omega) (by omega) (fun h => absurd h (by decide)) (fun _ => ?_)
      refine ev_s1 (L' := [some (vr 0), some (vi k), some (vi z), some (vi 1), x]) (S' := [vr 0]) k203_58 rfl rfl ?_
      refine ev_getR k203_59 (by decide) (rfl) (y_0_15) ?_
      refine ev_static (a := [vr 8]) (S' := []) k203_62 rfl (Nat.le_of_ble_eq_true rfl) (by omega) ?_
      refine m_peace hJ1 (k := 8) (by decide) (by rw [w1]; exact o1) (by omega) (?_)
      rw [w1]
      have pr62 := pe_rng o1
      show Ev d 203 65 [some (vr 0), some (vi k), some (vi z), some (vi 1), x] [vi (peW v1)] (SM J1) Q
      refine ev_s1 (L' := [some (vr 0), some (vi k), some (vi z), some (vi 1), x]) (S' := [vi z, vi (peW v1)]) k203_65 rfl rfl ?_
      refine ev_c_le (t := 120) k203_66 rfl (by omega) (by omega) (by omega) (by omega) (fun h2 => ?_) (fun h2 => ?_)
      · refine ev_s1 (L' := [some (vr 0), some (vi k), some (vi z), some (vi 1), x]) (S' := [vr 0]) k203_120 rfl rfl ?_
        refine ev_s1 (L' := [some (vr 0), some (vi k), some (vi z), some (vi 1), x]) (S' := [vr 0, vr 0]) k203_121 rfl rfl ?_
        refine ev_getR k203_122 (by decide) (rfl) (y_0_13) ?_
        refine ev_s1 (L' := [some (vr 0), some (vi k), some (vi z), some (vi 1), x]) (S' := [vi 2, vr 6, vr 0]) k203_125 rfl rfl ?_
        refine ev_iald k203_126 (by decide) (rfl) (by omega) (by omega) ?_
        have rr3 := hJ1.1 6 2
        rw [f1 6 (by decide), hF0 6 (by decide) (by decide) (by decide), hw6]
        rw [f1 6 (by decide), hF0 6 (by decide) (by decide) (by decide), hw6] at rr3
        have ew2 : (((w 2).toNat : Nat) : Int) = w 2 := by omega
        rw [← ew2]
        refine ev_s1 (L' := [some (vr 0), some (vi k), some (vi z), some (vi 1), x]) (S' := [vr 0, vi (((w 2).toNat : Nat) : Int), vr 0]) k203_127 rfl rfl ?_
        refine ev_getR k203_128 (by decide) (rfl) (y_0_13) ?_
        refine ev_s1 (L' := [some (vr 0), some (vi k), some (vi z), some (vi 1), x]) (S' := [vi 1, vr 6, vi (((w 2).toNat : Nat) : Int), vr 0]) k203_131 rfl rfl ?_
        refine ev_iald k203_132 (by decide) (rfl) (by omega) (by omega) ?_
        have rr4 := hJ1.1 6 1
        rw [f1 6 (by decide), hF0 6 (by decide) (by decide) (by decide), hw6]
        rw [f1 6 (by decide), hF0 6 (by decide) (by decide) (by decide), hw6] at rr4
        refine ev_virt (a := [vi (((w 2).toNat : Nat) : Int), vi (w 1)]) (S' := []) k203_133 rfl (Nat.le_of_ble_eq_true rfl) (by decide) (rfl) (by omega) ?_
        refine m_counts hJ1 (G := w 1) (t := (t : Int)) (m := (w 2).toNat) hw1 (by omega) (by omega) (by omega) hz (fun j hj => by rw [f1 12 (by decide)]; exact hl j hj) (fun z5 J5 hJ5 l5 f5 => ?_) (fun z5 J5 hJ5 f5 => ?_)
        · show Ev d 203 136 [some (vr 0), some (vi k), some (vi z), some (vi 1), x] [vi 1] (SM J5) Q
          refine ev_s1 (L' := [some (vr 0), some (vi k), some (vi z), some (vi 1), x]) (S' := []) k203_136 rfl rfl ?_
          refine ev_goto (t := 47) k203_137 rfl ?_
          refine ih J5 (t + 1) a _ _ hJ5 (by have := (rest_zero hw1 (by omega) (w 2).toNat).mp z5; omega) (by exact z5) (by exact l5) haz (fun q b b0 b1 => by rw [f5 13 (by decide), f1 13 (by decide)]; exact hB q b b0 b1) (fun a a8 a12 a13 => ((f5 a (by first | exact a8 | exact a12 | exact a13)).trans ((f1 a (by first | exact a8 | exact a12 | exact a13)).trans (hF0 a a8 a12 a13)))) (by rw [folC, ← ha]; exact ((fz1 a).trans (by unfold weiW; rw [if_neg (by omega)])).symm) (by omega)
        · show Ev d 203 136 [some (vr 0), some (vi k), some (vi z), some (vi 1), x] [vi 0] (SM J5) Q
          refine ev_s1 (L' := [some (vr 0), some (vi k), some (vi z), some (vi 0), x]) (S' := []) k203_136 rfl rfl ?_
          refine ev_goto (t := 47) k203_137 rfl ?_
          refine ev_s1 (L' := [some (vr 0), some (vi k), some (vi z), some (vi 0), x]) (S' := [vi 0]) k203_47 rfl rfl ?_
          refine ev_z_eq (t := 140) k203_48 rfl (by omega) (by omega) (fun _ => ?_) (fun h => absurd h (by decide))
          have tl : t + 1 = (w 1).toNat ^ (w 2).toNat := by
            have h1 := (rest_zero hw1 (show (0 : Int) ≤ (t : Int) by omega) (w 2).toNat).mp hz
            have h2 : ¬ ((t : Int) + 1 < pwW (w 1) (w 2).toNat) := fun q => z5 ((rest_zero hw1 (by omega) (w 2).toNat).mpr q)
            rw [pw_nat hw1] at h1 h2
            omega
          have hA0 : a = folC (fun t a => fa1 w (w 2).toNat 0 w (dgW (w 1) (w 2).toNat t) a) (t + 1) (-1000000, fun _ => 0) := (by rw [folC, ← ha]; exact ((fz1 a).trans (by unfold weiW; rw [if_neg (by omega)])).symm)
          have hR : seaR w = a := by
            have h1 := fold_nst (w := w) hw1 (w 2).toNat 0 w (-1000000, fun _ => 0)
            rw [← tl, nst_eq (w 2).toNat 0 w w _ (EQt.refl w) hw rfl rfl (by omega) (by omega) (fun _ _ _ => rfl)] at h1
            unfold seaR
            rw [← h1]
            exact hA0.symm
          have hB2 : a.1 ≠ -1000000 → ∀ b, 0 ≤ b → b < w 2 → J 13 b = a.2 b := fun q b b0 b1 => by exact hB q b b0 b1
          have hA1 : (seaR w).1 = z := by rw [hR]; exact haz.symm
          refine ev_s1 (L' := [some (vr 0), some (vi k), some (vi z), some (vi 0), x]) (S' := [vi k]) k203_140 rfl rfl ?_
          refine ev_s1 (L' := [some (vr 0), some (vi k), some (vi z), some (vi 0), x]) (S' := [vi (-1), vi k]) k203_141 rfl rfl ?_
          refine ev_c_eq (t := 151) k203_142 rfl (by omega) (by omega) (by omega) (by omega) (fun h6 => ?_) (fun h6 => ?_)
          · refine ev_s1 (L' := [some (vr 0), some (vi k), some (vi z), some (vi 0), x]) (S' := [vi z]) k203_151 rfl rfl ?_
            refine ev_goto (t := 174) k203_152 rfl ?_
            refine ev_ireturn k203_174 ?_
            have es : seaA w k = z := by unfold seaA; rw [if_pos (by omega)]; exact hA1
            rw [es] at hQ
            exact hQ _ hJ5 (fun a a8 a12 a13 => ((f5 a (by first | exact a8 | exact a12 | exact a13)).trans ((f1 a (by first | exact a8 | exact a12 | exact a13)).trans (hF0 a a8 a12 a13))))
          · refine ev_s1 (L' := [some (vr 0), some (vi k), some (vi z), some (vi 0), x]) (S' := [vi z]) k203_145 rfl rfl ?_
            refine ev_ldc k203_146 ?_
            refine ev_c_ne (t := 155) k203_148 rfl (by omega) (by omega) (by omega) (by omega) (fun h7 => ?_) (fun h7 => ?_)
            · refine ev_s1 (L' := [some (vr 0), some (vi k), some (vi z), some (vi 0), x]) (S' := [vr 0]) k203_155 rfl rfl ?_
              refine ev_s1 (L' := [some (vr 0), some (vi k), some (vi z), some (vi 0), x]) (S' := [vi k, vr 0]) k203_156 rfl rfl ?_
              refine ev_virt (a := [vi k]) (S' := []) k203_157 rfl (Nat.le_of_ble_eq_true rfl) (by decide) (rfl) (by omega) ?_
              refine m_isGuest hJ5 (g := k) (by omega) (by omega) (by rw [f5 6 (by decide), f1 6 (by decide), hF0 6 (by decide) (by decide) (by decide), hw6]; omega) (by omega) (fun h8 => ?_) (fun h8 => ?_)
              · rw [f5 6 (by decide), f1 6 (by decide), hF0 6 (by decide) (by decide) (by decide), hw6] at h8
                show Ev d 203 160 [some (vr 0), some (vi k), some (vi z), some (vi 0), x] [vi 1] (SM J5) Q
                refine ev_z_eq (t := 172) k203_160 rfl (by omega) (by omega) (fun h => absurd h (by decide)) (fun _ => ?_)
                refine ev_s1 (L' := [some (vr 0), some (vi k), some (vi z), some (vi 0), x]) (S' := [vr 0]) k203_163 rfl rfl ?_
                refine ev_getR k203_164 (by decide) (rfl) (y_0_21) ?_
                refine ev_s1 (L' := [some (vr 0), some (vi k), some (vi z), some (vi 0), x]) (S' := [vi k, vr 13]) k203_167 rfl rfl ?_
                refine ev_iald k203_168 (by decide) (rfl) (by omega) (by omega) ?_
                have rr9 := hJ5.1 13 k
                rw [f5 13 (by decide), f1 13 (by decide)]
                rw [f5 13 (by decide), f1 13 (by decide)] at rr9
                refine ev_goto (t := 174) k203_169 rfl ?_
                refine ev_ireturn k203_174 ?_
                have es : seaA w k = J 13 k := by
                  unfold seaA
                  rw [if_neg (by omega), if_pos (by omega), hR]
                  exact (hB2 (by rw [hR] at hA1; omega) k (by omega) (by omega)).symm
                rw [es] at hQ
                exact hQ _ hJ5 (fun a a8 a12 a13 => ((f5 a (by first | exact a8 | exact a12 | exact a13)).trans ((f1 a (by first | exact a8 | exact a12 | exact a13)).trans (hF0 a a8 a12 a13))))
              · rw [f5 6 (by decide), f1 6 (by decide), hF0 6 (by decide) (by decide) (by decide), hw6] at h8
                show Ev d 203 160 [some (vr 0), some (vi k), some (vi z), some (vi 0), x] [vi 0] (SM J5) Q
                refine ev_z_eq (t := 172) k203_160 rfl (by omega) (by omega) (fun _ => ?_) (fun h => absurd h (by decide))
                refine ev_ldc k203_172 ?_
                refine ev_ireturn k203_174 ?_
                have es : seaA w k = -1000000 := by unfold seaA; rw [if_neg (by omega), if_neg (by omega)]
                rw [es] at hQ
                exact hQ _ hJ5 (fun a a8 a12 a13 => ((f5 a (by first | exact a8 | exact a12 | exact a13)).trans ((f1 a (by first | exact a8 | exact a12 | exact a13)).trans (hF0 a a8 a12 a13))))
            · refine ev_s1 (L' := [some (vr 0), some (vi k), some (vi z), some (vi 0), x]) (S' := [vi z]) k203_151 rfl rfl ?_
              refine ev_goto (t := 174) k203_152 rfl ?_
              refine ev_ireturn k203_174 ?_
              have es : seaA w k = z := by unfold seaA; rw [if_pos (by omega)]; exact hA1
              rw [es] at hQ
              exact hQ _ hJ5 (fun a a8 a12 a13 => ((f5 a (by first | exact a8 | exact a12 | exact a13)).trans ((f1 a (by first | exact a8 | exact a12 | exact a13)).trans (hF0 a a8 a12 a13))))
      · refine ev_s1 (L' := [some (vr 0), some (vi k), some (vi z), some (vi 1), x]) (S' := [vr 0]) k203_69 rfl rfl ?_
        refine ev_getR k203_70 (by decide) (rfl) (y_0_15) ?_
        refine ev_static (a := [vr 8]) (S' := []) k203_73 rfl (Nat.le_of_ble_eq_true rfl) (by omega) ?_
        refine m_peace hJ1 (k := 8) (by decide) (by rw [w1]; exact o1) (by omega) (?_)
        rw [w1]
        have pr73 := pe_rng o1
        show Ev d 203 76 [some (vr 0), some (vi k), some (vi z), some (vi 1), x] [vi (peW v1)] (SM J1) Q
        refine ev_s1 (L' := [some (vr 0), some (vi k), some (vi (peW v1)), some (vi 1), x]) (S' := []) k203_76 rfl rfl ?_
        refine ev_s1 (L' := [some (vr 0), some (vi k), some (vi (peW v1)), some (vi 1), x]) (S' := [vi 0]) k203_77 rfl rfl ?_
        refine ev_s1 (L' := [some (vr 0), some (vi k), some (vi (peW v1)), some (vi 1), some (vi 0)]) (S' := []) k203_78 rfl rfl ?_
        refine m_seab (K := J1) (w := w) (v := v1) (by rw [f1 6 (by decide), hF0 6 (by decide) (by decide) (by decide), hw6]) w1 w2 (fun g g0 g1 => by have := (o1.2.2.2.2.1 g g0 (by omega)).2.2.1; have := o1.2.1; omega) (fun J0 x0 hJ0 wb f0 => ?_) 6 J1 0 hJ1 (by omega) (by omega) (fun b b0 b1 => absurd b1 (by omega)) (fun _ _ => rfl)
        refine ev_s1 (L' := [some (vr 0), some (vi k), some (vi (peW v1)), some (vi 1), some (vi x0)]) (S' := [vr 0]) k203_120 rfl rfl ?_
        refine ev_s1 (L' := [some (vr 0), some (vi k), some (vi (peW v1)), some (vi 1), some (vi x0)]) (S' := [vr 0, vr 0]) k203_121 rfl rfl ?_
        refine ev_getR k203_122 (by decide) (rfl) (y_0_13) ?_
        refine ev_s1 (L' := [some (vr 0), some (vi k), some (vi (peW v1)), some (vi 1), some (vi x0)]) (S' := [vi 2, vr 6, vr 0]) k203_125 rfl rfl ?_
        refine ev_iald k203_126 (by decide) (rfl) (by omega) (by omega) ?_
        have rr10 := hJ0.1 6 2
        rw [f0 6 (by decide), f1 6 (by decide), hF0 6 (by decide) (by decide) (by decide), hw6]
        rw [f0 6 (by decide), f1 6 (by decide), hF0 6 (by decide) (by decide) (by decide), hw6] at rr10
        have ew2 : (((w 2).toNat : Nat) : Int) = w 2 := by omega
        rw [← ew2]
        refine ev_s1 (L' := [some (vr 0), some (vi k), some (vi (peW v1)), some (vi 1), some (vi x0)]) (S' := [vr 0, vi (((w 2).toNat : Nat) : Int), vr 0]) k203_127 rfl rfl ?_
        refine ev_getR k203_128 (by decide) (rfl) (y_0_13) ?_
        refine ev_s1 (L' := [some (vr 0), some (vi k), some (vi (peW v1)), some (vi 1), some (vi x0)]) (S' := [vi 1, vr 6, vi (((w 2).toNat : Nat) : Int), vr 0]) k203_131 rfl rfl ?_
        refine ev_iald k203_132 (by decide) (rfl) (by omega) (by omega) ?_
        have rr11 := hJ0.1 6 1
        rw [f0 6 (by decide), f1 6 (by decide), hF0 6 (by decide) (by decide) (by decide), hw6]
        rw [f0 6 (by decide), f1 6 (by decide), hF0 6 (by decide) (by decide) (by decide), hw6] at rr11
        refine ev_virt (a := [vi (((w 2).toNat : Nat) : Int), vi (w 1)]) (S' := []) k203_133 rfl (Nat.le_of_ble_eq_true rfl) (by decide) (rfl) (by omega) ?_
        refine m_counts hJ0 (G := w 1) (t := (t : Int)) (m := (w 2).toNat) hw1 (by omega) (by omega) (by omega) hz (fun j hj => by rw [f0 12 (by decide), f1 12 (by decide)]; exact hl j hj) (fun z12 J12 hJ12 l12 f12 => ?_) (fun z12 J12 hJ12 f12 => ?_)
        · show Ev d 203 136 [some (vr 0), some (vi k), some (vi (peW v1)), some (vi 1), some (vi x0)] [vi 1] (SM J12) Q
          refine ev_s1 (L' := [some (vr 0), some (vi k), some (vi (peW v1)), some (vi 1), some (vi x0)]) (S' := []) k203_136 rfl rfl ?_
          refine ev_goto (t := 47) k203_137 rfl ?_
          refine ih J12 (t + 1) (weiW v1 a) _ _ hJ12 (by have := (rest_zero hw1 (by omega) (w 2).toNat).mp z12; omega) (by exact z12) (by exact l12) (by unfold weiW; rw [if_pos (by omega)]) (fun _ b b0 b1 => by rw [f12 13 (by decide)]; rw [wb b b0 b1]; unfold weiW; rw [if_pos (by omega)]; show _ = if _ then _ else _; rw [if_pos ⟨b0, by omega⟩]) (fun a a8 a12 a13 => ((f12 a (by first | exact a8 | exact a12 | exact a13)).trans ((f0 a (by first | exact a8 | exact a12 | exact a13)).trans ((f1 a (by first | exact a8 | exact a12 | exact a13)).trans (hF0 a a8 a12 a13))))) (by rw [folC, ← ha]; exact (fz1 a).symm) (by omega)
        · show Ev d 203 136 [some (vr 0), some (vi k), some (vi (peW v1)), some (vi 1), some (vi x0)] [vi 0] (SM J12) Q
          refine ev_s1 (L' := [some (vr 0), some (vi k), some (vi (peW v1)), some (vi 0), some (vi x0)]) (S' := []) k203_136 rfl rfl ?_
          refine ev_goto (t := 47) k203_137 rfl ?_
          refine ev_s1 (L' := [some (vr 0), some (vi k), some (vi (peW v1)), some (vi 0), some (vi x0)]) (S' := [vi 0]) k203_47 rfl rfl ?_
          refine ev_z_eq (t := 140) k203_48 rfl (by omega) (by omega) (fun _ => ?_) (fun h => absurd h (by decide))
          have tl : t + 1 = (w 1).toNat ^ (w 2).toNat := by
            have h1 := (rest_zero hw1 (show (0 : Int) ≤ (t : Int) by omega) (w 2).toNat).mp hz
            have h2 : ¬ ((t : Int) + 1 < pwW (w 1) (w 2).toNat) := fun q => z12 ((rest_zero hw1 (by omega) (w 2).toNat).mpr q)
            rw [pw_nat hw1] at h1 h2
            omega
          have hA0 : (weiW v1 a) = folC (fun t a => fa1 w (w 2).toNat 0 w (dgW (w 1) (w 2).toNat t) a) (t + 1) (-1000000, fun _ => 0) := (by rw [folC, ← ha]; exact (fz1 a).symm)
          have hR : seaR w = (weiW v1 a) := by
            have h1 := fold_nst (w := w) hw1 (w 2).toNat 0 w (-1000000, fun _ => 0)
            rw [← tl, nst_eq (w 2).toNat 0 w w _ (EQt.refl w) hw rfl rfl (by omega) (by omega) (fun _ _ _ => rfl)] at h1
            unfold seaR
            rw [← h1]
            exact hA0.symm
          have hB2 : (weiW v1 a).1 ≠ -1000000 → ∀ b, 0 ≤ b → b < w 2 → J0 13 b = (weiW v1 a).2 b := fun _ b b0 b1 => by rw [wb b b0 b1]; unfold weiW; rw [if_pos (by omega)]; show _ = if _ then _ else _; rw [if_pos ⟨b0, by omega⟩]
          have hA1 : (seaR w).1 = peW v1 := by rw [hR]; unfold weiW; rw [if_pos (by omega)]
          refine ev_s1 (L' := [some (vr 0), some (vi k), some (vi (peW v1)), some (vi 0), some (vi x0)]) (S' := [vi k]) k203_140 rfl rfl ?_
          refine ev_s1 (L' := [some (vr 0), some (vi k), some (vi (peW v1)), some (vi 0), some (vi x0)]) (S' := [vi (-1), vi k]) k203_141 rfl rfl ?_
          refine ev_c_eq (t := 151) k203_142 rfl (by omega) (by omega) (by omega) (by omega) (fun h13 => ?_) (fun h13 => ?_)
          · refine ev_s1 (L' := [some (vr 0), some (vi k), some (vi (peW v1)), some (vi 0), some (vi x0)]) (S' := [vi (peW v1)]) k203_151 rfl rfl ?_
            refine ev_goto (t := 174) k203_152 rfl ?_
            refine ev_ireturn k203_174 ?_
            have es : seaA w k = peW v1 := by unfold seaA; rw [if_pos (by omega)]; exact hA1
            rw [es] at hQ
            exact hQ _ hJ12 (fun a a8 a12 a13 => ((f12 a (by first | exact a8 | exact a12 | exact a13)).trans ((f0 a (by first | exact a8 | exact a12 | exact a13)).trans ((f1 a (by first | exact a8 | exact a12 | exact a13)).trans (hF0 a a8 a12 a13)))))
          · refine ev_s1 (L' := [some (vr 0), some (vi k), some (vi (peW v1)), some (vi 0), some (vi x0)]) (S' := [vi (peW v1)]) k203_145 rfl rfl ?_
            refine ev_ldc k203_146 ?_
            refine ev_c_ne (t := 155) k203_148 rfl (by omega) (by omega) (by omega) (by omega) (fun h14 => ?_) (fun h14 => ?_)
            · refine ev_s1 (L' := [some (vr 0), some (vi k), some (vi (peW v1)), some (vi 0), some (vi x0)]) (S' := [vr 0]) k203_155 rfl rfl ?_
              refine ev_s1 (L' := [some (vr 0), some (vi k), some (vi (peW v1)), some (vi 0), some (vi x0)]) (S' := [vi k, vr 0]) k203_156 rfl rfl ?_
              refine ev_virt (a := [vi k]) (S' := []) k203_157 rfl (Nat.le_of_ble_eq_true rfl) (by decide) (rfl) (by omega) ?_
              refine m_isGuest hJ12 (g := k) (by omega) (by omega) (by rw [f12 6 (by decide), f0 6 (by decide), f1 6 (by decide), hF0 6 (by decide) (by decide) (by decide), hw6]; omega) (by omega) (fun h15 => ?_) (fun h15 => ?_)
              · rw [f12 6 (by decide), f0 6 (by decide), f1 6 (by decide), hF0 6 (by decide) (by decide) (by decide), hw6] at h15
                show Ev d 203 160 [some (vr 0), some (vi k), some (vi (peW v1)), some (vi 0), some (vi x0)] [vi 1] (SM J12) Q
                refine ev_z_eq (t := 172) k203_160 rfl (by omega) (by omega) (fun h => absurd h (by decide)) (fun _ => ?_)
                refine ev_s1 (L' := [some (vr 0), some (vi k), some (vi (peW v1)), some (vi 0), some (vi x0)]) (S' := [vr 0]) k203_163 rfl rfl ?_
                refine ev_getR k203_164 (by decide) (rfl) (y_0_21) ?_
                refine ev_s1 (L' := [some (vr 0), some (vi k), some (vi (peW v1)), some (vi 0), some (vi x0)]) (S' := [vi k, vr 13]) k203_167 rfl rfl ?_
                refine ev_iald k203_168 (by decide) (rfl) (by omega) (by omega) ?_
                have rr16 := hJ12.1 13 k
                rw [f12 13 (by decide)]
                rw [f12 13 (by decide)] at rr16
                refine ev_goto (t := 174) k203_169 rfl ?_
                refine ev_ireturn k203_174 ?_
                have es : seaA w k = J0 13 k := by
                  unfold seaA
                  rw [if_neg (by omega), if_pos (by omega), hR]
                  exact (hB2 (by rw [hR] at hA1; omega) k (by omega) (by omega)).symm
                rw [es] at hQ
                exact hQ _ hJ12 (fun a a8 a12 a13 => ((f12 a (by first | exact a8 | exact a12 | exact a13)).trans ((f0 a (by first | exact a8 | exact a12 | exact a13)).trans ((f1 a (by first | exact a8 | exact a12 | exact a13)).trans (hF0 a a8 a12 a13)))))
              · rw [f12 6 (by decide), f0 6 (by decide), f1 6 (by decide), hF0 6 (by decide) (by decide) (by decide), hw6] at h15
                show Ev d 203 160 [some (vr 0), some (vi k), some (vi (peW v1)), some (vi 0), some (vi x0)] [vi 0] (SM J12) Q
                refine ev_z_eq (t := 172) k203_160 rfl (by omega) (by omega) (fun _ => ?_) (fun h => absurd h (by decide))
                refine ev_ldc k203_172 ?_
                refine ev_ireturn k203_174 ?_
                have es : seaA w k = -1000000 := by unfold seaA; rw [if_neg (by omega), if_neg (by omega)]
                rw [es] at hQ
                exact hQ _ hJ12 (fun a a8 a12 a13 => ((f12 a (by first | exact a8 | exact a12 | exact a13)).trans ((f0 a (by first | exact a8 | exact a12 | exact a13)).trans ((f1 a (by first | exact a8 | exact a12 | exact a13)).trans (hF0 a a8 a12 a13)))))
            · refine ev_s1 (L' := [some (vr 0), some (vi k), some (vi (peW v1)), some (vi 0), some (vi x0)]) (S' := [vi (peW v1)]) k203_151 rfl rfl ?_
              refine ev_goto (t := 174) k203_152 rfl ?_
              refine ev_ireturn k203_174 ?_
              have es : seaA w k = peW v1 := by unfold seaA; rw [if_pos (by omega)]; exact hA1
              rw [es] at hQ
              exact hQ _ hJ12 (fun a a8 a12 a13 => ((f12 a (by first | exact a8 | exact a12 | exact a13)).trans ((f0 a (by first | exact a8 | exact a12 | exact a13)).trans ((f1 a (by first | exact a8 | exact a12 | exact a13)).trans (hF0 a a8 a12 a13)))))
        
    · show Ev d 203 55 [some (vr 0), some (vi k), some (vi z), some (vi 1), x] [vi 0] (SM J1) Q
      refine ev_z_eq (t := 120) k203_55 rfl (by omega) (by omega) (fun _ => ?_) (fun h => absurd h (by decide))
      refine ev_s1 (L' := [some (vr 0), some (vi k), some (vi z), some (vi 1), x]) (S' := [vr 0]) k203_120 rfl rfl ?_
      refine ev_s1 (L' := [some (vr 0), some (vi k), some (vi z), some (vi 1), x]) (S' := [vr 0, vr 0]) k203_121 rfl rfl ?_
      refine ev_getR k203_122 (by decide) (rfl) (y_0_13) ?_
      refine ev_s1 (L' := [some (vr 0), some (vi k), some (vi z), some (vi 1), x]) (S' := [vi 2, vr 6, vr 0]) k203_125 rfl rfl ?_
      refine ev_iald k203_126 (by decide) (rfl) (by omega) (by omega) ?_
      have rr17 := hJ1.1 6 2
      rw [f1 6 (by decide), hF0 6 (by decide) (by decide) (by decide), hw6]
      rw [f1 6 (by decide), hF0 6 (by decide) (by decide) (by decide), hw6] at rr17
      have ew2 : (((w 2).toNat : Nat) : Int) = w 2 := by omega
      rw [← ew2]
      refine ev_s1 (L' := [some (vr 0), some (vi k), some (vi z), some (vi 1), x]) (S' := [vr 0, vi (((w 2).toNat : Nat) : Int), vr 0]) k203_127 rfl rfl ?_
      refine ev_getR k203_128 (by decide) (rfl) (y_0_13) ?_
      refine ev_s1 (L' := [some (vr 0), some (vi k), some (vi z), some (vi 1), x]) (S' := [vi 1, vr 6, vi (((w 2).toNat : Nat) : Int), vr 0]) k203_131 rfl rfl ?_
      refine ev_iald k203_132 (by decide) (rfl) (by omega) (by omega) ?_
      have rr18 := hJ1.1 6 1
      rw [f1 6 (by decide), hF0 6 (by decide) (by decide) (by decide), hw6]
      rw [f1 6 (by decide), hF0 6 (by decide) (by decide) (by decide), hw6] at rr18
      refine ev_virt (a := [vi (((w 2).toNat : Nat) : Int), vi (w 1)]) (S' := []) k203_133 rfl (Nat.le_of_ble_eq_true rfl) (by decide) (rfl) (by omega) ?_
      refine m_counts hJ1 (G := w 1) (t := (t : Int)) (m := (w 2).toNat) hw1 (by omega) (by omega) (by omega) hz (fun j hj => by rw [f1 12 (by decide)]; exact hl j hj) (fun z19 J19 hJ19 l19 f19 => ?_) (fun z19 J19 hJ19 f19 => ?_)
      · show Ev d 203 136 [some (vr 0), some (vi k), some (vi z), some (vi 1), x] [vi 1] (SM J19) Q
        refine ev_s1 (L' := [some (vr 0), some (vi k), some (vi z), some (vi 1), x]) (S' := []) k203_136 rfl rfl ?_
        refine ev_goto (t := 47) k203_137 rfl ?_
        refine ih J19 (t + 1) a _ _ hJ19 (by have := (rest_zero hw1 (by omega) (w 2).toNat).mp z19; omega) (by exact z19) (by exact l19) haz (fun q b b0 b1 => by rw [f19 13 (by decide), f1 13 (by decide)]; exact hB q b b0 b1) (fun a a8 a12 a13 => ((f19 a (by first | exact a8 | exact a12 | exact a13)).trans ((f1 a (by first | exact a8 | exact a12 | exact a13)).trans (hF0 a a8 a12 a13)))) (by rw [folC, ← ha]; exact (fz1 a).symm) (by omega)
      · show Ev d 203 136 [some (vr 0), some (vi k), some (vi z), some (vi 1), x] [vi 0] (SM J19) Q
        refine ev_s1 (L' := [some (vr 0), some (vi k), some (vi z), some (vi 0), x]) (S' := []) k203_136 rfl rfl ?_
        refine ev_goto (t := 47) k203_137 rfl ?_
        refine ev_s1 (L' := [some (vr 0), some (vi k), some (vi z), some (vi 0), x]) (S' := [vi 0]) k203_47 rfl rfl ?_
        refine ev_z_eq (t := 140) k203_48 rfl (by omega) (by omega) (fun _ => ?_) (fun h => absurd h (by decide))
        have tl : t + 1 = (w 1).toNat ^ (w 2).toNat := by
          have h1 := (rest_zero hw1 (show (0 : Int) ≤ (t : Int) by omega) (w 2).toNat).mp hz
          have h2 : ¬ ((t : Int) + 1 < pwW (w 1) (w 2).toNat) := fun q => z19 ((rest_zero hw1 (by omega) (w 2).toNat).mpr q)
          rw [pw_nat hw1] at h1 h2
          omega
        have hA0 : a = folC (fun t a => fa1 w (w 2).toNat 0 w (dgW (w 1) (w 2).toNat t) a) (t + 1) (-1000000, fun _ => 0) := (by rw [folC, ← ha]; exact (fz1 a).symm)
        have hR : seaR w = a := by
          have h1 := fold_nst (w := w) hw1 (w 2).toNat 0 w (-1000000, fun _ => 0)
          rw [← tl, nst_eq (w 2).toNat 0 w w _ (EQt.refl w) hw rfl rfl (by omega) (by omega) (fun _ _ _ => rfl)] at h1
          unfold seaR
          rw [← h1]
          exact hA0.symm
        have hB2 : a.1 ≠ -1000000 → ∀ b, 0 ≤ b → b < w 2 → J 13 b = a.2 b := fun q b b0 b1 => by exact hB q b b0 b1
        have hA1 : (seaR w).1 = z := by rw [hR]; exact haz.symm
        refine ev_s1 (L' := [some (vr 0), some (vi k), some (vi z), some (vi 0), x]) (S' := [vi k]) k203_140 rfl rfl ?_
        refine ev_s1 (L' := [some (vr 0), some (vi k), some (vi z), some (vi 0), x]) (S' := [vi (-1), vi k]) k203_141 rfl rfl ?_
        refine ev_c_eq (t := 151) k203_142 rfl (by omega) (by omega) (by omega) (by omega) (fun h20 => ?_) (fun h20 => ?_)
        · refine ev_s1 (L' := [some (vr 0), some (vi k), some (vi z), some (vi 0), x]) (S' := [vi z]) k203_151 rfl rfl ?_
          refine ev_goto (t := 174) k203_152 rfl ?_
          refine ev_ireturn k203_174 ?_
          have es : seaA w k = z := by unfold seaA; rw [if_pos (by omega)]; exact hA1
          rw [es] at hQ
          exact hQ _ hJ19 (fun a a8 a12 a13 => ((f19 a (by first | exact a8 | exact a12 | exact a13)).trans ((f1 a (by first | exact a8 | exact a12 | exact a13)).trans (hF0 a a8 a12 a13))))
        · refine ev_s1 (L' := [some (vr 0), some (vi k), some (vi z), some (vi 0), x]) (S' := [vi z]) k203_145 rfl rfl ?_
          refine ev_ldc k203_146 ?_
          refine ev_c_ne (t := 155) k203_148 rfl (by omega) (by omega) (by omega) (by omega) (fun h21 => ?_) (fun h21 => ?_)
          · refine ev_s1 (L' := [some (vr 0), some (vi k), some (vi z), some (vi 0), x]) (S' := [vr 0]) k203_155 rfl rfl ?_
            refine ev_s1 (L' := [some (vr 0), some (vi k), some (vi z), some (vi 0), x]) (S' := [vi k, vr 0]) k203_156 rfl rfl ?_
            refine ev_virt (a := [vi k]) (S' := []) k203_157 rfl (Nat.le_of_ble_eq_true rfl) (by decide) (rfl) (by omega) ?_
            refine m_isGuest hJ19 (g := k) (by omega) (by omega) (by rw [f19 6 (by decide), f1 6 (by decide), hF0 6 (by decide) (by decide) (by decide), hw6]; omega) (by omega) (fun h22 => ?_) (fun h22 => ?_)
            · rw [f19 6 (by decide), f1 6 (by decide), hF0 6 (by decide) (by decide) (by decide), hw6] at h22
              show Ev d 203 160 [some (vr 0), some (vi k), some (vi z), some (vi 0), x] [vi 1] (SM J19) Q
              refine ev_z_eq (t := 172) k203_160 rfl (by omega) (by omega) (fun h => absurd h (by decide)) (fun _ => ?_)
              refine ev_s1 (L' := [some (vr 0), some (vi k), some (vi z), some (vi 0), x]) (S' := [vr 0]) k203_163 rfl rfl ?_
              refine ev_getR k203_164 (by decide) (rfl) (y_0_21) ?_
              refine ev_s1 (L' := [some (vr 0), some (vi k), some (vi z), some (vi 0), x]) (S' := [vi k, vr 13]) k203_167 rfl rfl ?_
              refine ev_iald k203_168 (by decide) (rfl) (by omega) (by omega) ?_
              have rr23 := hJ19.1 13 k
              rw [f19 13 (by decide), f1 13 (by decide)]
              rw [f19 13 (by decide), f1 13 (by decide)] at rr23
              refine ev_goto (t := 174) k203_169 rfl ?_
              refine ev_ireturn k203_174 ?_
              have es : seaA w k = J 13 k := by
                unfold seaA
                rw [if_neg (by omega), if_pos (by omega), hR]
                exact (hB2 (by rw [hR] at hA1; omega) k (by omega) (by omega)).symm
              rw [es] at hQ
              exact hQ _ hJ19 (fun a a8 a12 a13 => ((f19 a (by first | exact a8 | exact a12 | exact a13)).trans ((f1 a (by first | exact a8 | exact a12 | exact a13)).trans (hF0 a a8 a12 a13))))
            · rw [f19 6 (by decide), f1 6 (by decide), hF0 6 (by decide) (by decide) (by decide), hw6] at h22
              show Ev d 203 160 [some (vr 0), some (vi k), some (vi z), some (vi 0), x] [vi 0] (SM J19) Q
              refine ev_z_eq (t := 172) k203_160 rfl (by omega) (by omega) (fun _ => ?_) (fun h => absurd h (by decide))
              refine ev_ldc k203_172 ?_
              refine ev_ireturn k203_174 ?_
              have es : seaA w k = -1000000 := by unfold seaA; rw [if_neg (by omega), if_neg (by omega)]
              rw [es] at hQ
              exact hQ _ hJ19 (fun a a8 a12 a13 => ((f19 a (by first | exact a8 | exact a12 | exact a13)).trans ((f1 a (by first | exact a8 | exact a12 | exact a13)).trans (hF0 a a8 a12 a13))))
          · refine ev_s1 (L' := [some (vr 0), some (vi k), some (vi z), some (vi 0), x]) (S' := [vi z]) k203_151 rfl rfl ?_
            refine ev_goto (t := 174) k203_152 rfl ?_
            refine ev_ireturn k203_174 ?_
            have es : seaA w k = z := by unfold seaA; rw [if_pos (by omega)]; exact hA1
            rw [es] at hQ
            exact hQ _ hJ19 (fun a a8 a12 a13 => ((f19 a (by first | exact a8 | exact a12 | exact a13)).trans ((f1 a (by first | exact a8 | exact a12 | exact a13)).trans (hF0 a a8 a12 a13))))
