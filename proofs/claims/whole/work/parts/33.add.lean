theorem rX14 {ch : Int → Nat} {kd : Nat → Nat} {x : Int} (h0 : 0 ≤ x) (h1 : x < 5) : rX ch kd 14 x = some (ch x) := by simp [rX, h0, h1]

set_option maxHeartbeats 2000000 in
theorem c_addChair {d : Nat} {I : Nat → Int → Int} {ch : Int → Nat} {kd : Nat → Nat} {Q : Option jV → jS → Prop} {ρ : Nat} {cc : Int → Nat} (hρ : isRm ρ cc ch kd) (hI : Rg I) (n0 : 0 ≤ I ρ 6) (n5 : I ρ 6 < 5) {nu mn st su : Int} (nu1 : 1 ≤ nu) (nu5 : nu ≤ 5) (mn1 : 0 ≤ mn) (mn9 : mn ≤ 9) (st0 : 0 ≤ st) (st9 : st ≤ 16) (su0 : 0 ≤ su) (su3 : su ≤ 3) {c : Nat} (hcc : c = cc (I ρ 6)) (hQ : Q none (SX (up (up (up (up (up (up I c 1 mn) c 2 st) c 3 su) c 4 0) c 5 (-1000000)) ρ 6 (I ρ 6 + 1)) ch (kdU kd c (7 + nu.toNat)))) : Cl d 81 [vr ρ, vi nu, vi mn, vi st, vi su] (SX I ch kd) Q := by
  obtain ⟨s0, s1, s2, s3, s4, s5, q0, q1, q2, q3, q4, q5, hlt⟩ := rm_f hρ
  have w0 : I ρ 6 = I ρ 6 := rfl
  have hcx := hρ.2.1 (I ρ 6) n0 n5
  have hcy := hρ.2.2.2 (I ρ 6) n0 n5
  rw [← hcc] at hcx hcy
  have hcz := (shp_c hcx.2).1
  refine ⟨by rw [l81]; exact Nat.le_of_ble_eq_true rfl, ?_⟩
  rw [l81]
  show Ev d 81 0 [some (vr ρ), some (vi nu), some (vi mn), some (vi st), some (vi su), none] [] (SX I ch kd) Q
  refine ev_s1 (L' := [some (vr ρ), some (vi nu), some (vi mn), some (vi st), some (vi su), none]) (S' := [vr ρ]) k81_0 rfl rfl ?_
  refine ev_getI k81_1 (by omega) (s0) ?_
  show Ev d 81 4 [some (vr ρ), some (vi nu), some (vi mn), some (vi st), some (vi su), none] [vi (I ρ 6)] (SX I ch kd) Q
  have rr1 := hI ρ 6
  refine ev_s1 (L' := [some (vr ρ), some (vi nu), some (vi mn), some (vi st), some (vi su), none]) (S' := [vi 5, vi (I ρ 6)]) k81_4 rfl rfl ?_
  refine ev_c_ge (t := 22) k81_5 rfl (by omega) (by omega) (by omega) (by omega) (fun h2 => ?_) (fun h2 => ?_)
  · refine ev_return k81_22 ?_
    exfalso; omega
  · refine ev_s1 (L' := [some (vr ρ), some (vi nu), some (vi mn), some (vi st), some (vi su), none]) (S' := [vi nu]) k81_8 rfl rfl ?_
    refine ev_s1 (L' := [some (vr ρ), some (vi nu), some (vi mn), some (vi st), some (vi su), none]) (S' := [vi 1, vi nu]) k81_9 rfl rfl ?_
    refine ev_c_lt (t := 22) k81_10 rfl (by omega) (by omega) (by omega) (by omega) (fun h3 => ?_) (fun h3 => ?_)
    · refine ev_return k81_22 ?_
      exfalso; omega
    · refine ev_s1 (L' := [some (vr ρ), some (vi nu), some (vi mn), some (vi st), some (vi su), none]) (S' := [vi nu]) k81_13 rfl rfl ?_
      refine ev_s1 (L' := [some (vr ρ), some (vi nu), some (vi mn), some (vi st), some (vi su), none]) (S' := [vr ρ, vi nu]) k81_14 rfl rfl ?_
      refine ev_getR k81_15 (by omega) (s0) ((rm_f (hρ.kd _)).2.2.2.2.2.2.1) ?_
      refine ev_len k81_18 (by decide) (rfl) (by decide) (by decide) ?_
      show Ev d 81 19 [some (vr ρ), some (vi nu), some (vi mn), some (vi st), some (vi su), none] [vi 5, vi nu] (SX I ch kd) Q
      refine ev_c_le (t := 23) k81_19 rfl (by omega) (by omega) (by omega) (by omega) (fun h4 => ?_) (fun h4 => ?_)
      · refine ev_s1 (L' := [some (vr ρ), some (vi nu), some (vi mn), some (vi st), some (vi su), none]) (S' := [vr ρ]) k81_23 rfl rfl ?_
        refine ev_getR k81_24 (by omega) (s0) ((rm_f (hρ.kd _)).2.2.2.2.2.2.2.1) ?_
        refine ev_s1 (L' := [some (vr ρ), some (vi nu), some (vi mn), some (vi st), some (vi su), none]) (S' := [vr ρ, vr (ρ + 1)]) k81_27 rfl rfl ?_
        refine ev_getI k81_28 (by omega) (s0) ?_
        show Ev d 81 31 [some (vr ρ), some (vi nu), some (vi mn), some (vi st), some (vi su), none] [vi (I ρ 6), vr (ρ + 1)] (SX I ch kd) Q
        have rr5 := hI ρ 6
        refine ev_aald (q := c) k81_31 (by omega) (s1) (by decide) (by decide) (by omega) (by omega) (hcx.1) ?_
        refine ev_s1 (L' := [some (vr ρ), some (vi nu), some (vi mn), some (vi st), some (vi su), some (vr c)]) (S' := []) k81_32 rfl rfl ?_
        refine ev_s1 (L' := [some (vr ρ), some (vi nu), some (vi mn), some (vi st), some (vi su), some (vr c)]) (S' := [vr c]) k81_34 rfl rfl ?_
        refine ev_s1 (L' := [some (vr ρ), some (vi nu), some (vi mn), some (vi st), some (vi su), some (vr c)]) (S' := [vr ρ, vr c]) k81_36 rfl rfl ?_
        refine ev_getR k81_37 (by omega) (s0) ((rm_f (hρ.kd _)).2.2.2.2.2.2.1) ?_
        refine ev_s1 (L' := [some (vr ρ), some (vi nu), some (vi mn), some (vi st), some (vi su), some (vr c)]) (S' := [vi nu, vr 7, vr c]) k81_40 rfl rfl ?_
        refine ev_s1 (L' := [some (vr ρ), some (vi nu), some (vi mn), some (vi st), some (vi su), some (vr c)]) (S' := [vi 1, vi nu, vr 7, vr c]) k81_41 rfl rfl ?_
        refine ev_s1 (L' := [some (vr ρ), some (vi nu), some (vi mn), some (vi st), some (vi su), some (vr c)]) (S' := [vi (nu - 1), vr 7, vr c]) k81_42 rfl rfl ?_
        refine ev_aald (q := 8 + Int.toNat (nu - 1)) k81_43 (by decide) (rfl) (by decide) (by decide) (by omega) (by omega) (rX7 (by omega) (by omega)) ?_
        refine ev_putR k81_44 (by omega) ((shp_c hcx.2).2) ?_
        rw [show up (rX ch kd) c ((0 : Nat) : Int) (some (8 + Int.toNat (nu - 1))) = rX ch (kdU kd c (8 + Int.toNat (nu - 1))) from rX_kd hcx.2]
        show Ev d 81 47 [some (vr ρ), some (vi nu), some (vi mn), some (vi st), some (vi su), some (vr c)] [] (SX I ch (kdU kd c (8 + Int.toNat (nu - 1)))) Q
        refine ev_s1 (L' := [some (vr ρ), some (vi nu), some (vi mn), some (vi st), some (vi su), some (vr c)]) (S' := [vr c]) k81_47 rfl rfl ?_
        refine ev_s1 (L' := [some (vr ρ), some (vi nu), some (vi mn), some (vi st), some (vi su), some (vr c)]) (S' := [vi mn, vr c]) k81_49 rfl rfl ?_
        refine ev_putI k81_50 (by omega) ((shp_c hcx.2).2) ?_
        show Ev d 81 53 [some (vr ρ), some (vi nu), some (vi mn), some (vi st), some (vi su), some (vr c)] [] (SX (up I c 1 mn) ch (kdU kd c (8 + Int.toNat (nu - 1)))) Q
        have hI6 := rg_up hI (k := c) (j := 1) (z := mn) (by omega) (by omega)
        generalize hE6 : up I c 1 mn = I6 at hI6 ⊢
        have f6_0 : I6 ρ 6 = I ρ 6 := by rw [← hE6]; exact (upN (Or.inl (by omega))).trans w0
        refine ev_s1 (L' := [some (vr ρ), some (vi nu), some (vi mn), some (vi st), some (vi su), some (vr c)]) (S' := [vr c]) k81_53 rfl rfl ?_
        refine ev_s1 (L' := [some (vr ρ), some (vi nu), some (vi mn), some (vi st), some (vi su), some (vr c)]) (S' := [vi st, vr c]) k81_55 rfl rfl ?_
        refine ev_putI k81_56 (by omega) ((shp_c hcx.2).2) ?_
        show Ev d 81 59 [some (vr ρ), some (vi nu), some (vi mn), some (vi st), some (vi su), some (vr c)] [] (SX (up I6 c 2 st) ch (kdU kd c (8 + Int.toNat (nu - 1)))) Q
        have hI7 := rg_up hI6 (k := c) (j := 2) (z := st) (by omega) (by omega)
        generalize hE7 : up I6 c 2 st = I7 at hI7 ⊢
        have f7_0 : I7 ρ 6 = I ρ 6 := by rw [← hE7]; exact (upN (Or.inl (by omega))).trans f6_0
        refine ev_s1 (L' := [some (vr ρ), some (vi nu), some (vi mn), some (vi st), some (vi su), some (vr c)]) (S' := [vr c]) k81_59 rfl rfl ?_
        refine ev_s1 (L' := [some (vr ρ), some (vi nu), some (vi mn), some (vi st), some (vi su), some (vr c)]) (S' := [vi su, vr c]) k81_61 rfl rfl ?_
        refine ev_putI k81_63 (by omega) ((shp_c hcx.2).2) ?_
        show Ev d 81 66 [some (vr ρ), some (vi nu), some (vi mn), some (vi st), some (vi su), some (vr c)] [] (SX (up I7 c 3 su) ch (kdU kd c (8 + Int.toNat (nu - 1)))) Q
        have hI8 := rg_up hI7 (k := c) (j := 3) (z := su) (by omega) (by omega)
        generalize hE8 : up I7 c 3 su = I8 at hI8 ⊢
        have f8_0 : I8 ρ 6 = I ρ 6 := by rw [← hE8]; exact (upN (Or.inl (by omega))).trans f7_0
        refine ev_s1 (L' := [some (vr ρ), some (vi nu), some (vi mn), some (vi st), some (vi su), some (vr c)]) (S' := [vr c]) k81_66 rfl rfl ?_
        refine ev_s1 (L' := [some (vr ρ), some (vi nu), some (vi mn), some (vi st), some (vi su), some (vr c)]) (S' := [vi 0, vr c]) k81_68 rfl rfl ?_
        refine ev_putI k81_69 (by omega) ((shp_c hcx.2).2) ?_
        show Ev d 81 72 [some (vr ρ), some (vi nu), some (vi mn), some (vi st), some (vi su), some (vr c)] [] (SX (up I8 c 4 0) ch (kdU kd c (8 + Int.toNat (nu - 1)))) Q
        have hI9 := rg_up hI8 (k := c) (j := 4) (z := 0) (by omega) (by omega)
        generalize hE9 : up I8 c 4 0 = I9 at hI9 ⊢
        have f9_0 : I9 ρ 6 = I ρ 6 := by rw [← hE9]; exact (upN (Or.inl (by omega))).trans f8_0
        refine ev_s1 (L' := [some (vr ρ), some (vi nu), some (vi mn), some (vi st), some (vi su), some (vr c)]) (S' := [vr c]) k81_72 rfl rfl ?_
        refine ev_ldc k81_74 ?_
        refine ev_putI k81_76 (by omega) ((shp_c hcx.2).2) ?_
        show Ev d 81 79 [some (vr ρ), some (vi nu), some (vi mn), some (vi st), some (vi su), some (vr c)] [] (SX (up I9 c 5 (-1000000)) ch (kdU kd c (8 + Int.toNat (nu - 1)))) Q
        have hI10 := rg_up hI9 (k := c) (j := 5) (z := (-1000000)) (by omega) (by omega)
        generalize hE10 : up I9 c 5 (-1000000) = I10 at hI10 ⊢
        have f10_0 : I10 ρ 6 = I ρ 6 := by rw [← hE10]; exact (upN (Or.inl (by omega))).trans f9_0
        refine ev_s1 (L' := [some (vr ρ), some (vi nu), some (vi mn), some (vi st), some (vi su), some (vr c)]) (S' := [vr ρ]) k81_79 rfl rfl ?_
        refine ev_s1 (L' := [some (vr ρ), some (vi nu), some (vi mn), some (vi st), some (vi su), some (vr c)]) (S' := [vr ρ, vr ρ]) k81_80 rfl rfl ?_
        refine ev_getI k81_81 (by omega) (s0) ?_
        show Ev d 81 84 [some (vr ρ), some (vi nu), some (vi mn), some (vi st), some (vi su), some (vr c)] [vi (I10 ρ 6), vr ρ] (SX I10 ch (kdU kd c (8 + Int.toNat (nu - 1)))) Q
        have rr11 := hI10 ρ 6
        rw [f10_0]
        rw [f10_0] at rr11
        refine ev_s1 (L' := [some (vr ρ), some (vi nu), some (vi mn), some (vi st), some (vi su), some (vr c)]) (S' := [vi 1, vi (I ρ 6), vr ρ]) k81_84 rfl rfl ?_
        refine ev_s1 (L' := [some (vr ρ), some (vi nu), some (vi mn), some (vi st), some (vi su), some (vr c)]) (S' := [vi ((I ρ 6) + 1), vr ρ]) k81_85 rfl rfl ?_
        refine ev_putI k81_86 (by omega) (s0) ?_
        show Ev d 81 89 [some (vr ρ), some (vi nu), some (vi mn), some (vi st), some (vi su), some (vr c)] [] (SX (up I10 ρ 6 ((I ρ 6) + 1)) ch (kdU kd c (8 + Int.toNat (nu - 1)))) Q
        have hI12 := rg_up hI10 (k := ρ) (j := 6) (z := (I ρ 6) + 1) (by omega) (by omega)
        generalize hE12 : up I10 ρ 6 ((I ρ 6) + 1) = I12 at hI12 ⊢
        have f12_0 : I12 ρ 6 = (I ρ 6) + 1 := by rw [← hE12]; exact upE rfl rfl
        refine ev_return k81_89 ?_
        subst hE12
        subst hE10
        subst hE9
        subst hE8
        subst hE7
        subst hE6
        rw [show 8 + Int.toNat (nu - 1) = 7 + nu.toNat by omega]
        exact hQ
      · refine ev_return k81_22 ?_
        exfalso; omega

set_option maxHeartbeats 1000000 in
theorem c_addGuest {d : Nat} {I : Nat → Int → Int} {ch : Int → Nat} {kd : Nat → Nat} {Q : Option jV → jS → Prop} {ρ : Nat} {cc : Int → Nat} (hρ : isRm ρ cc ch kd) (hI : Rg I) (n0 : 0 ≤ I ρ 7) (n5 : I ρ 7 < 5) {ow wi : Int} (o1 : 0 ≤ ow) (o2 : ow ≤ 9) (w1 : 1 ≤ wi) (w2 : wi ≤ 9) (hQ : Q none (SX (up (up (up (up (up I (ρ + 2) (I ρ 7) ow) (ρ + 3) (I ρ 7) wi) (ρ + 4) (I ρ 7) (-1000000)) (ρ + 5) (I ρ 7) (-1000000)) ρ 7 (I ρ 7 + 1)) ch kd)) : Cl d 82 [vr ρ, vi ow, vi wi] (SX I ch kd) Q := by
  obtain ⟨s0, s1, s2, s3, s4, s5, q0, q1, q2, q3, q4, q5, hlt⟩ := rm_f hρ
  have w0 : I ρ 7 = I ρ 7 := rfl
  refine ⟨by rw [l82]; exact Nat.le_of_ble_eq_true rfl, ?_⟩
  rw [l82]
  show Ev d 82 0 [some (vr ρ), some (vi ow), some (vi wi)] [] (SX I ch kd) Q
  refine ev_s1 (L' := [some (vr ρ), some (vi ow), some (vi wi)]) (S' := [vr ρ]) k82_0 rfl rfl ?_
  refine ev_getI k82_1 (by omega) (s0) ?_
  show Ev d 82 4 [some (vr ρ), some (vi ow), some (vi wi)] [vi (I ρ 7)] (SX I ch kd) Q
  have rr1 := hI ρ 7
  refine ev_s1 (L' := [some (vr ρ), some (vi ow), some (vi wi)]) (S' := [vi 5, vi (I ρ 7)]) k82_4 rfl rfl ?_
  refine ev_c_lt (t := 9) k82_5 rfl (by omega) (by omega) (by omega) (by omega) (fun h2 => ?_) (fun h2 => ?_)
  · refine ev_s1 (L' := [some (vr ρ), some (vi ow), some (vi wi)]) (S' := [vr ρ]) k82_9 rfl rfl ?_
    refine ev_getR k82_10 (by omega) (s0) (q2) ?_
    refine ev_s1 (L' := [some (vr ρ), some (vi ow), some (vi wi)]) (S' := [vr ρ, vr (ρ + 2)]) k82_13 rfl rfl ?_
    refine ev_getI k82_14 (by omega) (s0) ?_
    show Ev d 82 17 [some (vr ρ), some (vi ow), some (vi wi)] [vi (I ρ 7), vr (ρ + 2)] (SX I ch kd) Q
    have rr3 := hI ρ 7
    refine ev_s1 (L' := [some (vr ρ), some (vi ow), some (vi wi)]) (S' := [vi ow, vi (I ρ 7), vr (ρ + 2)]) k82_17 rfl rfl ?_
    refine ev_iast k82_18 (by omega) (s2) (by omega) (by omega) ?_
    show Ev d 82 19 [some (vr ρ), some (vi ow), some (vi wi)] [] (SX (up I (ρ + 2) (I ρ 7) ow) ch kd) Q
    have hI4 := rg_up hI (k := ρ + 2) (j := I ρ 7) (z := ow) (by omega) (by omega)
    generalize hE4 : up I (ρ + 2) (I ρ 7) ow = I4 at hI4 ⊢
    have f4_0 : I4 ρ 7 = I ρ 7 := by rw [← hE4]; exact (upN (Or.inl (by omega))).trans w0
    refine ev_s1 (L' := [some (vr ρ), some (vi ow), some (vi wi)]) (S' := [vr ρ]) k82_19 rfl rfl ?_
    refine ev_getR k82_20 (by omega) (s0) (q3) ?_
    refine ev_s1 (L' := [some (vr ρ), some (vi ow), some (vi wi)]) (S' := [vr ρ, vr (ρ + 3)]) k82_23 rfl rfl ?_
    refine ev_getI k82_24 (by omega) (s0) ?_
    show Ev d 82 27 [some (vr ρ), some (vi ow), some (vi wi)] [vi (I4 ρ 7), vr (ρ + 3)] (SX I4 ch kd) Q
    have rr5 := hI4 ρ 7
    rw [f4_0]
    rw [f4_0] at rr5
    refine ev_s1 (L' := [some (vr ρ), some (vi ow), some (vi wi)]) (S' := [vi wi, vi (I ρ 7), vr (ρ + 3)]) k82_27 rfl rfl ?_
    refine ev_iast k82_28 (by omega) (s3) (by omega) (by omega) ?_
    show Ev d 82 29 [some (vr ρ), some (vi ow), some (vi wi)] [] (SX (up I4 (ρ + 3) (I ρ 7) wi) ch kd) Q
    have hI6 := rg_up hI4 (k := ρ + 3) (j := I ρ 7) (z := wi) (by omega) (by omega)
    generalize hE6 : up I4 (ρ + 3) (I ρ 7) wi = I6 at hI6 ⊢
    have f6_0 : I6 ρ 7 = I ρ 7 := by rw [← hE6]; exact (upN (Or.inl (by omega))).trans f4_0
    refine ev_s1 (L' := [some (vr ρ), some (vi ow), some (vi wi)]) (S' := [vr ρ]) k82_29 rfl rfl ?_
    refine ev_getR k82_30 (by omega) (s0) (q4) ?_
    refine ev_s1 (L' := [some (vr ρ), some (vi ow), some (vi wi)]) (S' := [vr ρ, vr (ρ + 4)]) k82_33 rfl rfl ?_
    refine ev_getI k82_34 (by omega) (s0) ?_
    show Ev d 82 37 [some (vr ρ), some (vi ow), some (vi wi)] [vi (I6 ρ 7), vr (ρ + 4)] (SX I6 ch kd) Q
    have rr7 := hI6 ρ 7
    rw [f6_0]
    rw [f6_0] at rr7
    refine ev_ldc k82_37 ?_
    refine ev_iast k82_39 (by omega) (s4) (by omega) (by omega) ?_
    show Ev d 82 40 [some (vr ρ), some (vi ow), some (vi wi)] [] (SX (up I6 (ρ + 4) (I ρ 7) (-1000000)) ch kd) Q
    have hI8 := rg_up hI6 (k := ρ + 4) (j := I ρ 7) (z := (-1000000)) (by omega) (by omega)
    generalize hE8 : up I6 (ρ + 4) (I ρ 7) (-1000000) = I8 at hI8 ⊢
    have f8_0 : I8 ρ 7 = I ρ 7 := by rw [← hE8]; exact (upN (Or.inl (by omega))).trans f6_0
    refine ev_s1 (L' := [some (vr ρ), some (vi ow), some (vi wi)]) (S' := [vr ρ]) k82_40 rfl rfl ?_
    refine ev_getR k82_41 (by omega) (s0) (q5) ?_
    refine ev_s1 (L' := [some (vr ρ), some (vi ow), some (vi wi)]) (S' := [vr ρ, vr (ρ + 5)]) k82_44 rfl rfl ?_
    refine ev_getI k82_45 (by omega) (s0) ?_
    show Ev d 82 48 [some (vr ρ), some (vi ow), some (vi wi)] [vi (I8 ρ 7), vr (ρ + 5)] (SX I8 ch kd) Q
    have rr9 := hI8 ρ 7
    rw [f8_0]
    rw [f8_0] at rr9
    refine ev_ldc k82_48 ?_
    refine ev_iast k82_50 (by omega) (s5) (by omega) (by omega) ?_
    show Ev d 82 51 [some (vr ρ), some (vi ow), some (vi wi)] [] (SX (up I8 (ρ + 5) (I ρ 7) (-1000000)) ch kd) Q
    have hI10 := rg_up hI8 (k := ρ + 5) (j := I ρ 7) (z := (-1000000)) (by omega) (by omega)
    generalize hE10 : up I8 (ρ + 5) (I ρ 7) (-1000000) = I10 at hI10 ⊢
    have f10_0 : I10 ρ 7 = I ρ 7 := by rw [← hE10]; exact (upN (Or.inl (by omega))).trans f8_0
    refine ev_s1 (L' := [some (vr ρ), some (vi ow), some (vi wi)]) (S' := [vr ρ]) k82_51 rfl rfl ?_
    refine ev_s1 (L' := [some (vr ρ), some (vi ow), some (vi wi)]) (S' := [vr ρ, vr ρ]) k82_52 rfl rfl ?_
    refine ev_getI k82_53 (by omega) (s0) ?_
    show Ev d 82 56 [some (vr ρ), some (vi ow), some (vi wi)] [vi (I10 ρ 7), vr ρ] (SX I10 ch kd) Q
    have rr11 := hI10 ρ 7
    rw [f10_0]
    rw [f10_0] at rr11
    refine ev_s1 (L' := [some (vr ρ), some (vi ow), some (vi wi)]) (S' := [vi 1, vi (I ρ 7), vr ρ]) k82_56 rfl rfl ?_
    refine ev_s1 (L' := [some (vr ρ), some (vi ow), some (vi wi)]) (S' := [vi ((I ρ 7) + 1), vr ρ]) k82_57 rfl rfl ?_
    refine ev_putI k82_58 (by omega) (s0) ?_
    show Ev d 82 61 [some (vr ρ), some (vi ow), some (vi wi)] [] (SX (up I10 ρ 7 ((I ρ 7) + 1)) ch kd) Q
    have hI12 := rg_up hI10 (k := ρ) (j := 7) (z := (I ρ 7) + 1) (by omega) (by omega)
    generalize hE12 : up I10 ρ 7 ((I ρ 7) + 1) = I12 at hI12 ⊢
    have f12_0 : I12 ρ 7 = (I ρ 7) + 1 := by rw [← hE12]; exact upE rfl rfl
    refine ev_return k82_61 ?_
    subst hE12
    subst hE10
    subst hE8
    subst hE6
    subst hE4
    exact hQ
  · refine ev_return k82_8 ?_
    exfalso; omega

set_option maxHeartbeats 2000000 in
theorem c_seatGuest {d : Nat} {I : Nat → Int → Int} {ch : Int → Nat} {kd : Nat → Nat} {Q : Option jV → jS → Prop} {ρ : Nat} {cc : Int → Nat} (hρ : isRm ρ cc ch kd) (hI : Rg I) {g i : Int} (hd : 4 ≤ d) (g0 : 0 ≤ g) (g1 : g < 5) (hi0 : 0 ≤ i) (hi1 : i < 5) (hkd : 8 ≤ kd (cc i) ∧ kd (cc i) ≤ 12) (hcr : CR I (cc i)) (o1 : 0 ≤ I (ρ + 2) g) (o2 : I (ρ + 2) g ≤ 9) (w1 : 1 ≤ I (ρ + 3) g) (w2 : I (ρ + 3) g ≤ 9) (hQ : Q none (SX (up (up (up (sitC I (cc i) (kd (cc i)) (I (ρ + 2) g) (I (ρ + 3) g)) (ρ + 4) g i) (ρ + 5) g (bearF (kd (cc i)) (I (cc i) 1) (I (cc i) 2) (I (cc i) 4) (I (ρ + 2) g))) (cc i) 5 g) ch kd)) : Cl d 88 [vr ρ, vi g, vi i] (SX I ch kd) Q := by
  obtain ⟨s0, s1, s2, s3, s4, s5, q0, q1, q2, q3, q4, q5, hlt⟩ := rm_f hρ
  have hcx := hρ.2.1 i hi0 hi1
  have hcz := (shp_c hcx.2).1
  have hJr := sit_rg (c := cc i) (k := kd (cc i)) (w := I (ρ + 3) g) hI o1 o2
  have hb := bear_rng (k := kd (cc i)) (m := I (cc i) 1) (s := I (cc i) 2) (t := I (cc i) 4) (o := I (ρ + 2) g) hcr.1 hcr.2.1 hcr.2.2.1 hcr.2.2.2.1 o1 o2
  refine ⟨by rw [l88]; exact Nat.le_of_ble_eq_true rfl, ?_⟩
  rw [l88]
  show Ev d 88 0 [some (vr ρ), some (vi g), some (vi i)] [] (SX I ch kd) Q
  refine ev_s1 (L' := [some (vr ρ), some (vi g), some (vi i)]) (S' := [vr ρ]) k88_0 rfl rfl ?_
  refine ev_s1 (L' := [some (vr ρ), some (vi g), some (vi i)]) (S' := [vi g, vr ρ]) k88_1 rfl rfl ?_
  refine ev_s1 (L' := [some (vr ρ), some (vi g), some (vi i)]) (S' := [vi i, vi g, vr ρ]) k88_2 rfl rfl ?_
  refine ev_s1 (L' := [some (vr ρ), some (vi g), some (vi i)]) (S' := [vr ρ, vi i, vi g, vr ρ]) k88_3 rfl rfl ?_
  refine ev_getR k88_4 (by omega) (s0) (q1) ?_
  refine ev_s1 (L' := [some (vr ρ), some (vi g), some (vi i)]) (S' := [vi i, vr (ρ + 1), vi i, vi g, vr ρ]) k88_7 rfl rfl ?_
  refine ev_aald (q := cc i) k88_8 (by omega) (s1) (by decide) (by decide) (by omega) (by omega) (hcx.1) ?_
  refine ev_s1 (L' := [some (vr ρ), some (vi g), some (vi i)]) (S' := [vr ρ, vr (cc i), vi i, vi g, vr ρ]) k88_9 rfl rfl ?_
  refine ev_getR k88_10 (by omega) (s0) (q2) ?_
  refine ev_s1 (L' := [some (vr ρ), some (vi g), some (vi i)]) (S' := [vi g, vr (ρ + 2), vr (cc i), vi i, vi g, vr ρ]) k88_13 rfl rfl ?_
  refine ev_iald k88_14 (by omega) (s2) (by omega) (by omega) ?_
  have rr1 := hI (ρ + 2) g
  refine ev_s1 (L' := [some (vr ρ), some (vi g), some (vi i)]) (S' := [vr ρ, vi (I (ρ + 2) g), vr (cc i), vi i, vi g, vr ρ]) k88_15 rfl rfl ?_
  refine ev_getR k88_16 (by omega) (s0) (q3) ?_
  refine ev_s1 (L' := [some (vr ρ), some (vi g), some (vi i)]) (S' := [vi g, vr (ρ + 3), vi (I (ρ + 2) g), vr (cc i), vi i, vi g, vr ρ]) k88_19 rfl rfl ?_
  refine ev_iald k88_20 (by omega) (s3) (by omega) (by omega) ?_
  have rr2 := hI (ρ + 3) g
  refine ev_virt (a := [vi (I (ρ + 2) g), vi (I (ρ + 3) g)]) (S' := [vi i, vi g, vr ρ]) k88_21 rfl (Nat.le_of_ble_eq_true rfl) (by omega) ((shp_c hcx.2).2) (by omega) ?_
  refine c_bear (c := cc i) (own := I (ρ + 2) g) (will := I (ρ + 3) g) (by omega) hcx.2 hkd hcr o1 o2 hI w1 w2 (?_)
  generalize hbv : bearF (kd (cc i)) (I (cc i) 1) (I (cc i) 2) (I (cc i) 4) (I (ρ + 2) g) = bv at hb hQ ⊢
  generalize hJ : sitC I (cc i) (kd (cc i)) (I (ρ + 2) g) (I (ρ + 3) g) = J at hQ hJr ⊢
  show Ev d 88 24 [some (vr ρ), some (vi g), some (vi i)] [vi bv, vi i, vi g, vr ρ] (SX J ch kd) Q
  refine ev_virt (a := [vi g, vi i, vi bv]) (S' := []) k88_24 rfl (Nat.le_of_ble_eq_true rfl) (by omega) (s0) (by omega) ?_
  refine c_putGuest hρ hJr (g := g) (i := i) (v := bv) g0 g1 hi0 hi1 (by omega) (by omega) (?_)
  show Ev d 88 27 [some (vr ρ), some (vi g), some (vi i)] [] (SX (up (up (up J (ρ + 4) g i) (ρ + 5) g bv) (cc i) 5 g) ch kd) Q
  refine ev_return k88_27 ?_
  exact hQ

/-- who sits on two chairs that have changed places sits where they now are -/
def swI (I : Nat → Int → Int) (ch : Int → Nat) (x : Int) : Nat → Int → Int := if 0 ≤ I (ch x) 5 ∧ I (ch x) 5 < I 13 7 then up (if 0 ≤ I (ch (x + 1)) 5 ∧ I (ch (x + 1)) 5 < I 13 7 then up I 17 (I (ch (x + 1)) 5) x else I) 17 (I (ch x) 5) (x + 1) else (if 0 ≤ I (ch (x + 1)) 5 ∧ I (ch (x + 1)) 5 < I 13 7 then up I 17 (I (ch (x + 1)) 5) x else I)

set_option maxHeartbeats 2000000 in
theorem c_swap {d : Nat} {I : Nat → Int → Int} {ch : Int → Nat} {kd : Nat → Nat} {Q : Option jV → jS → Prop} (hρ : isRm 13 ch ch kd) (hI : Rg I) (hd : 1 ≤ d) {x : Int} (x0 : 0 ≤ x) (x1 : x + 1 < 5) (hM : I 13 7 ≤ 5) (hρ2 : ∀ ch2, ch2 = (chU (chU ch x (ch (x + 1))) (x + 1) (ch x)) → isRm 13 ch2 ch2 kd) (hQ : Q none (SX (swI I ch x) (chU (chU ch x (ch (x + 1))) (x + 1) (ch x)) kd)) : Cl d 91 [vr 13, vi x] (SX I ch kd) Q := by
  have w0 : I (ch x) 5 = I (ch x) 5 := rfl
  have w1 : I (ch (x + 1)) 5 = I (ch (x + 1)) 5 := rfl
  have w2 : I 13 7 = I 13 7 := rfl
  have hx0 := hρ.2.1 x (by omega) (by omega)
  have hx1 := hρ.2.1 (x + 1) (by omega) (by omega)
  have hl0 := (shp_c hx0.2).1
  have hl1 := (shp_c hx1.2).1
  have hb0 := hρ.2.2.2 x (by omega) (by omega)
  have hb1 := hρ.2.2.2 (x + 1) (by omega) (by omega)
  refine ⟨by rw [l91]; exact Nat.le_of_ble_eq_true rfl, ?_⟩
  rw [l91]
  show Ev d 91 0 [some (vr 13), some (vi x), none, none] [] (SX I ch kd) Q
  refine ev_s1 (L' := [some (vr 13), some (vi x), none, none]) (S' := [vr 13]) k91_0 rfl rfl ?_
  refine ev_getR k91_1 (by decide) (rfl) (x_13_1 ch kd) ?_
  refine ev_s1 (L' := [some (vr 13), some (vi x), none, none]) (S' := [vi x, vr 14]) k91_4 rfl rfl ?_
  refine ev_aald (q := ch x) k91_5 (by decide) (rfl) (by decide) (by decide) (by omega) (by omega) (rX14 (by omega) (by omega)) ?_
  refine ev_s1 (L' := [some (vr 13), some (vi x), some (vr (ch x)), none]) (S' := []) k91_6 rfl rfl ?_
  refine ev_s1 (L' := [some (vr 13), some (vi x), some (vr (ch x)), none]) (S' := [vr 13]) k91_7 rfl rfl ?_
  refine ev_getR k91_8 (by decide) (rfl) (x_13_1 ch kd) ?_
  refine ev_s1 (L' := [some (vr 13), some (vi x), some (vr (ch x)), none]) (S' := [vi x, vr 14]) k91_11 rfl rfl ?_
  refine ev_s1 (L' := [some (vr 13), some (vi x), some (vr (ch x)), none]) (S' := [vr 13, vi x, vr 14]) k91_12 rfl rfl ?_
  refine ev_getR k91_13 (by decide) (rfl) (x_13_1 ch kd) ?_
  refine ev_s1 (L' := [some (vr 13), some (vi x), some (vr (ch x)), none]) (S' := [vi x, vr 14, vi x, vr 14]) k91_16 rfl rfl ?_
  refine ev_s1 (L' := [some (vr 13), some (vi x), some (vr (ch x)), none]) (S' := [vi 1, vi x, vr 14, vi x, vr 14]) k91_17 rfl rfl ?_
  refine ev_s1 (L' := [some (vr 13), some (vi x), some (vr (ch x)), none]) (S' := [vi (x + 1), vr 14, vi x, vr 14]) k91_18 rfl rfl ?_
  refine ev_aald (q := ch (x + 1)) k91_19 (by decide) (rfl) (by decide) (by decide) (by omega) (by omega) (rX14 (by omega) (by omega)) ?_
  refine ev_aast k91_20 (by decide) (rfl) (by omega) ((shp_c hx1.2).2) (by decide) (by decide) (by decide) rfl (by omega) (by omega) ?_
  rw [show up (rX ch kd) 14 x (some (ch (x + 1))) = rX (chU ch x (ch (x + 1))) kd from rX_ch (by omega) (by omega)]
  show Ev d 91 21 [some (vr 13), some (vi x), some (vr (ch x)), none] [] (SX I (chU ch x (ch (x + 1))) kd) Q
  refine ev_s1 (L' := [some (vr 13), some (vi x), some (vr (ch x)), none]) (S' := [vr 13]) k91_21 rfl rfl ?_
  refine ev_getR k91_22 (by decide) (rfl) (x_13_1 (chU ch x (ch (x + 1))) kd) ?_
  refine ev_s1 (L' := [some (vr 13), some (vi x), some (vr (ch x)), none]) (S' := [vi x, vr 14]) k91_25 rfl rfl ?_
  refine ev_s1 (L' := [some (vr 13), some (vi x), some (vr (ch x)), none]) (S' := [vi 1, vi x, vr 14]) k91_26 rfl rfl ?_
  refine ev_s1 (L' := [some (vr 13), some (vi x), some (vr (ch x)), none]) (S' := [vi (x + 1), vr 14]) k91_27 rfl rfl ?_
  refine ev_s1 (L' := [some (vr 13), some (vi x), some (vr (ch x)), none]) (S' := [vr (ch x), vi (x + 1), vr 14]) k91_28 rfl rfl ?_
  refine ev_aast k91_29 (by decide) (rfl) (by omega) ((shp_c hx0.2).2) (by decide) (by decide) (by decide) rfl (by omega) (by omega) ?_
  rw [show up (rX (chU ch x (ch (x + 1))) kd) 14 (x + 1) (some (ch x)) = rX (chU (chU ch x (ch (x + 1))) (x + 1) (ch x)) kd from rX_ch (by omega) (by omega)]
  show Ev d 91 30 [some (vr 13), some (vi x), some (vr (ch x)), none] [] (SX I (chU (chU ch x (ch (x + 1))) (x + 1) (ch x)) kd) Q
  refine ev_s1 (L' := [some (vr 13), some (vi x), some (vr (ch x)), none]) (S' := [vi x]) k91_30 rfl rfl ?_
  refine ev_s1 (L' := [some (vr 13), some (vi x), some (vr (ch x)), some (vi x)]) (S' := []) k91_31 rfl rfl ?_
  refine ev_s1 (L' := [some (vr 13), some (vi x), some (vr (ch x)), some (vi x)]) (S' := [vi x]) k91_32 rfl rfl ?_
  refine ev_s1 (L' := [some (vr 13), some (vi x), some (vr (ch x)), some (vi x)]) (S' := [vi x, vi x]) k91_33 rfl rfl ?_
  refine ev_s1 (L' := [some (vr 13), some (vi x), some (vr (ch x)), some (vi x)]) (S' := [vi 1, vi x, vi x]) k91_34 rfl rfl ?_
  refine ev_s1 (L' := [some (vr 13), some (vi x), some (vr (ch x)), some (vi x)]) (S' := [vi (x + 1), vi x]) k91_35 rfl rfl ?_
  refine ev_c_gt (t := 76) k91_36 rfl (by omega) (by omega) (by omega) (by omega) (fun h1 => ?_) (fun h1 => ?_)
  · exfalso; omega
  · refine ev_s1 (L' := [some (vr 13), some (vi x), some (vr (ch x)), some (vi x)]) (S' := [vr 13]) k91_39 rfl rfl ?_
    refine ev_s1 (L' := [some (vr 13), some (vi x), some (vr (ch x)), some (vi x)]) (S' := [vr 13, vr 13]) k91_40 rfl rfl ?_
    refine ev_getR k91_41 (by decide) (rfl) (x_13_1 (chU (chU ch x (ch (x + 1))) (x + 1) (ch x)) kd) ?_
    refine ev_s1 (L' := [some (vr 13), some (vi x), some (vr (ch x)), some (vi x)]) (S' := [vi x, vr 14, vr 13]) k91_44 rfl rfl ?_
    refine ev_aald (q := ch (x + 1)) k91_45 (by decide) (rfl) (by decide) (by decide) (by omega) (by omega) ((rX14 (by omega) (by omega)).trans (by simp [chU, show ¬ x = x + 1 from by omega])) ?_
    refine ev_getI k91_46 (by omega) ((shp_c hx1.2).2) ?_
    show Ev d 91 49 [some (vr 13), some (vi x), some (vr (ch x)), some (vi x)] [vi (I (ch (x + 1)) 5), vr 13] (SX I (chU (chU ch x (ch (x + 1))) (x + 1) (ch x)) kd) Q
    have rr2 := hI (ch (x + 1)) 5
    refine ev_virt (a := [vi (I (ch (x + 1)) 5)]) (S' := []) k91_49 rfl (Nat.le_of_ble_eq_true rfl) (by decide) (rfl) (by omega) ?_
    refine c_hasGuest (hρ2 _ rfl) hI (i := I (ch (x + 1)) 5) (by omega) (by omega) (fun hh => ?_) (fun hh => ?_)
    · show Ev d 91 52 [some (vr 13), some (vi x), some (vr (ch x)), some (vi x)] [vi 1] (SX I (chU (chU ch x (ch (x + 1))) (x + 1) (ch x)) kd) Q
      refine ev_z_eq (t := 70) k91_52 rfl (by omega) (by omega) (fun h => absurd h (by decide)) (fun _ => ?_)
      refine ev_s1 (L' := [some (vr 13), some (vi x), some (vr (ch x)), some (vi x)]) (S' := [vr 13]) k91_55 rfl rfl ?_
      refine ev_getR k91_56 (by decide) (rfl) (x_13_4 (chU (chU ch x (ch (x + 1))) (x + 1) (ch x)) kd) ?_
      refine ev_s1 (L' := [some (vr 13), some (vi x), some (vr (ch x)), some (vi x)]) (S' := [vr 13, vr 17]) k91_59 rfl rfl ?_
      refine ev_getR k91_60 (by decide) (rfl) (x_13_1 (chU (chU ch x (ch (x + 1))) (x + 1) (ch x)) kd) ?_
      refine ev_s1 (L' := [some (vr 13), some (vi x), some (vr (ch x)), some (vi x)]) (S' := [vi x, vr 14, vr 17]) k91_63 rfl rfl ?_
      refine ev_aald (q := ch (x + 1)) k91_64 (by decide) (rfl) (by decide) (by decide) (by omega) (by omega) ((rX14 (by omega) (by omega)).trans (by simp [chU, show ¬ x = x + 1 from by omega])) ?_
      refine ev_getI k91_65 (by omega) ((shp_c hx1.2).2) ?_
      show Ev d 91 68 [some (vr 13), some (vi x), some (vr (ch x)), some (vi x)] [vi (I (ch (x + 1)) 5), vr 17] (SX I (chU (chU ch x (ch (x + 1))) (x + 1) (ch x)) kd) Q
      have rr3 := hI (ch (x + 1)) 5
      refine ev_s1 (L' := [some (vr 13), some (vi x), some (vr (ch x)), some (vi x)]) (S' := [vi x, vi (I (ch (x + 1)) 5), vr 17]) k91_68 rfl rfl ?_
      refine ev_iast k91_69 (by decide) (rfl) (by omega) (by omega) ?_
      show Ev d 91 70 [some (vr 13), some (vi x), some (vr (ch x)), some (vi x)] [] (SX (up I 17 (I (ch (x + 1)) 5) x) (chU (chU ch x (ch (x + 1))) (x + 1) (ch x)) kd) Q
      have hI4 := rg_up hI (k := 17) (j := I (ch (x + 1)) 5) (z := x) (by omega) (by omega)
      generalize hE4 : up I 17 (I (ch (x + 1)) 5) x = I4 at hI4 ⊢
      have f4_0 : I4 (ch x) 5 = I (ch x) 5 := by rw [← hE4]; exact (upN (Or.inl (by omega))).trans w0
      have f4_1 : I4 (ch (x + 1)) 5 = I (ch (x + 1)) 5 := by rw [← hE4]; exact (upN (Or.inl (by omega))).trans w1
      have f4_2 : I4 13 7 = I 13 7 := by rw [← hE4]; exact (upN (Or.inl (by decide))).trans w2
      refine ev_s1 (L' := [some (vr 13), some (vi x), some (vr (ch x)), some (vi (x + 1))]) (S' := []) k91_70 rfl rfl ?_
      refine ev_goto (t := 32) k91_73 rfl ?_
      refine ev_s1 (L' := [some (vr 13), some (vi x), some (vr (ch x)), some (vi (x + 1))]) (S' := [vi (x + 1)]) k91_32 rfl rfl ?_
      refine ev_s1 (L' := [some (vr 13), some (vi x), some (vr (ch x)), some (vi (x + 1))]) (S' := [vi x, vi (x + 1)]) k91_33 rfl rfl ?_
      refine ev_s1 (L' := [some (vr 13), some (vi x), some (vr (ch x)), some (vi (x + 1))]) (S' := [vi 1, vi x, vi (x + 1)]) k91_34 rfl rfl ?_
      refine ev_s1 (L' := [some (vr 13), some (vi x), some (vr (ch x)), some (vi (x + 1))]) (S' := [vi (x + 1), vi (x + 1)]) k91_35 rfl rfl ?_
      refine ev_c_gt (t := 76) k91_36 rfl (by omega) (by omega) (by omega) (by omega) (fun h5 => ?_) (fun h5 => ?_)
      · exfalso; omega
      · refine ev_s1 (L' := [some (vr 13), some (vi x), some (vr (ch x)), some (vi (x + 1))]) (S' := [vr 13]) k91_39 rfl rfl ?_
        refine ev_s1 (L' := [some (vr 13), some (vi x), some (vr (ch x)), some (vi (x + 1))]) (S' := [vr 13, vr 13]) k91_40 rfl rfl ?_
        refine ev_getR k91_41 (by decide) (rfl) (x_13_1 (chU (chU ch x (ch (x + 1))) (x + 1) (ch x)) kd) ?_
        refine ev_s1 (L' := [some (vr 13), some (vi x), some (vr (ch x)), some (vi (x + 1))]) (S' := [vi (x + 1), vr 14, vr 13]) k91_44 rfl rfl ?_
        refine ev_aald (q := ch x) k91_45 (by decide) (rfl) (by decide) (by decide) (by omega) (by omega) ((rX14 (by omega) (by omega)).trans (by simp [chU, show ¬ x = x + 1 from by omega])) ?_
        refine ev_getI k91_46 (by omega) ((shp_c hx0.2).2) ?_
        show Ev d 91 49 [some (vr 13), some (vi x), some (vr (ch x)), some (vi (x + 1))] [vi (I4 (ch x) 5), vr 13] (SX I4 (chU (chU ch x (ch (x + 1))) (x + 1) (ch x)) kd) Q
        have rr6 := hI4 (ch x) 5
        rw [f4_0]
        rw [f4_0] at rr6
        refine ev_virt (a := [vi (I (ch x) 5)]) (S' := []) k91_49 rfl (Nat.le_of_ble_eq_true rfl) (by decide) (rfl) (by omega) ?_
        refine c_hasGuest (hρ2 _ rfl) hI4 (i := I (ch x) 5) (by omega) (by omega) (fun hh => ?_) (fun hh => ?_)
        · show Ev d 91 52 [some (vr 13), some (vi x), some (vr (ch x)), some (vi (x + 1))] [vi 1] (SX I4 (chU (chU ch x (ch (x + 1))) (x + 1) (ch x)) kd) Q
          refine ev_z_eq (t := 70) k91_52 rfl (by omega) (by omega) (fun h => absurd h (by decide)) (fun _ => ?_)
          refine ev_s1 (L' := [some (vr 13), some (vi x), some (vr (ch x)), some (vi (x + 1))]) (S' := [vr 13]) k91_55 rfl rfl ?_
          refine ev_getR k91_56 (by decide) (rfl) (x_13_4 (chU (chU ch x (ch (x + 1))) (x + 1) (ch x)) kd) ?_
          refine ev_s1 (L' := [some (vr 13), some (vi x), some (vr (ch x)), some (vi (x + 1))]) (S' := [vr 13, vr 17]) k91_59 rfl rfl ?_
          refine ev_getR k91_60 (by decide) (rfl) (x_13_1 (chU (chU ch x (ch (x + 1))) (x + 1) (ch x)) kd) ?_
          refine ev_s1 (L' := [some (vr 13), some (vi x), some (vr (ch x)), some (vi (x + 1))]) (S' := [vi (x + 1), vr 14, vr 17]) k91_63 rfl rfl ?_
          refine ev_aald (q := ch x) k91_64 (by decide) (rfl) (by decide) (by decide) (by omega) (by omega) ((rX14 (by omega) (by omega)).trans (by simp [chU, show ¬ x = x + 1 from by omega])) ?_
          refine ev_getI k91_65 (by omega) ((shp_c hx0.2).2) ?_
          show Ev d 91 68 [some (vr 13), some (vi x), some (vr (ch x)), some (vi (x + 1))] [vi (I4 (ch x) 5), vr 17] (SX I4 (chU (chU ch x (ch (x + 1))) (x + 1) (ch x)) kd) Q
          have rr7 := hI4 (ch x) 5
          rw [f4_0]
          rw [f4_0] at rr7
          refine ev_s1 (L' := [some (vr 13), some (vi x), some (vr (ch x)), some (vi (x + 1))]) (S' := [vi (x + 1), vi (I (ch x) 5), vr 17]) k91_68 rfl rfl ?_
          refine ev_iast k91_69 (by decide) (rfl) (by omega) (by omega) ?_
          show Ev d 91 70 [some (vr 13), some (vi x), some (vr (ch x)), some (vi (x + 1))] [] (SX (up I4 17 (I (ch x) 5) (x + 1)) (chU (chU ch x (ch (x + 1))) (x + 1) (ch x)) kd) Q
          have hI8 := rg_up hI4 (k := 17) (j := I (ch x) 5) (z := x + 1) (by omega) (by omega)
          generalize hE8 : up I4 17 (I (ch x) 5) (x + 1) = I8 at hI8 ⊢
          have f8_0 : I8 (ch x) 5 = I (ch x) 5 := by rw [← hE8]; exact (upN (Or.inl (by omega))).trans f4_0
          have f8_1 : I8 (ch (x + 1)) 5 = I (ch (x + 1)) 5 := by rw [← hE8]; exact (upN (Or.inl (by omega))).trans f4_1
          have f8_2 : I8 13 7 = I 13 7 := by rw [← hE8]; exact (upN (Or.inl (by decide))).trans f4_2
          refine ev_s1 (L' := [some (vr 13), some (vi x), some (vr (ch x)), some (vi ((x + 1) + 1))]) (S' := []) k91_70 rfl rfl ?_
          refine ev_goto (t := 32) k91_73 rfl ?_
          refine ev_s1 (L' := [some (vr 13), some (vi x), some (vr (ch x)), some (vi ((x + 1) + 1))]) (S' := [vi ((x + 1) + 1)]) k91_32 rfl rfl ?_
          refine ev_s1 (L' := [some (vr 13), some (vi x), some (vr (ch x)), some (vi ((x + 1) + 1))]) (S' := [vi x, vi ((x + 1) + 1)]) k91_33 rfl rfl ?_
          refine ev_s1 (L' := [some (vr 13), some (vi x), some (vr (ch x)), some (vi ((x + 1) + 1))]) (S' := [vi 1, vi x, vi ((x + 1) + 1)]) k91_34 rfl rfl ?_
          refine ev_s1 (L' := [some (vr 13), some (vi x), some (vr (ch x)), some (vi ((x + 1) + 1))]) (S' := [vi (x + 1), vi ((x + 1) + 1)]) k91_35 rfl rfl ?_
          refine ev_c_gt (t := 76) k91_36 rfl (by omega) (by omega) (by omega) (by omega) (fun h9 => ?_) (fun h9 => ?_)
          · refine ev_return k91_76 ?_
            subst hE8
            subst hE4
            unfold swI at hQ
            first | (rw [if_pos (by omega), if_pos (by omega)] at hQ; exact hQ) | (rw [if_pos (by omega), if_neg (by omega)] at hQ; exact hQ) | (rw [if_neg (by omega), if_pos (by omega)] at hQ; exact hQ) | (rw [if_neg (by omega), if_neg (by omega)] at hQ; exact hQ)
          · exfalso; omega
        · show Ev d 91 52 [some (vr 13), some (vi x), some (vr (ch x)), some (vi (x + 1))] [vi 0] (SX I4 (chU (chU ch x (ch (x + 1))) (x + 1) (ch x)) kd) Q
          refine ev_z_eq (t := 70) k91_52 rfl (by omega) (by omega) (fun _ => ?_) (fun h => absurd h (by decide))
          refine ev_s1 (L' := [some (vr 13), some (vi x), some (vr (ch x)), some (vi ((x + 1) + 1))]) (S' := []) k91_70 rfl rfl ?_
          refine ev_goto (t := 32) k91_73 rfl ?_
          refine ev_s1 (L' := [some (vr 13), some (vi x), some (vr (ch x)), some (vi ((x + 1) + 1))]) (S' := [vi ((x + 1) + 1)]) k91_32 rfl rfl ?_
          refine ev_s1 (L' := [some (vr 13), some (vi x), some (vr (ch x)), some (vi ((x + 1) + 1))]) (S' := [vi x, vi ((x + 1) + 1)]) k91_33 rfl rfl ?_
          refine ev_s1 (L' := [some (vr 13), some (vi x), some (vr (ch x)), some (vi ((x + 1) + 1))]) (S' := [vi 1, vi x, vi ((x + 1) + 1)]) k91_34 rfl rfl ?_
          refine ev_s1 (L' := [some (vr 13), some (vi x), some (vr (ch x)), some (vi ((x + 1) + 1))]) (S' := [vi (x + 1), vi ((x + 1) + 1)]) k91_35 rfl rfl ?_
          refine ev_c_gt (t := 76) k91_36 rfl (by omega) (by omega) (by omega) (by omega) (fun h10 => ?_) (fun h10 => ?_)
          · refine ev_return k91_76 ?_
            subst hE4
            unfold swI at hQ
            first | (rw [if_pos (by omega), if_pos (by omega)] at hQ; exact hQ) | (rw [if_pos (by omega), if_neg (by omega)] at hQ; exact hQ) | (rw [if_neg (by omega), if_pos (by omega)] at hQ; exact hQ) | (rw [if_neg (by omega), if_neg (by omega)] at hQ; exact hQ)
          · exfalso; omega
    · show Ev d 91 52 [some (vr 13), some (vi x), some (vr (ch x)), some (vi x)] [vi 0] (SX I (chU (chU ch x (ch (x + 1))) (x + 1) (ch x)) kd) Q
      refine ev_z_eq (t := 70) k91_52 rfl (by omega) (by omega) (fun _ => ?_) (fun h => absurd h (by decide))
      refine ev_s1 (L' := [some (vr 13), some (vi x), some (vr (ch x)), some (vi (x + 1))]) (S' := []) k91_70 rfl rfl ?_
      refine ev_goto (t := 32) k91_73 rfl ?_
      refine ev_s1 (L' := [some (vr 13), some (vi x), some (vr (ch x)), some (vi (x + 1))]) (S' := [vi (x + 1)]) k91_32 rfl rfl ?_
      refine ev_s1 (L' := [some (vr 13), some (vi x), some (vr (ch x)), some (vi (x + 1))]) (S' := [vi x, vi (x + 1)]) k91_33 rfl rfl ?_
      refine ev_s1 (L' := [some (vr 13), some (vi x), some (vr (ch x)), some (vi (x + 1))]) (S' := [vi 1, vi x, vi (x + 1)]) k91_34 rfl rfl ?_
      refine ev_s1 (L' := [some (vr 13), some (vi x), some (vr (ch x)), some (vi (x + 1))]) (S' := [vi (x + 1), vi (x + 1)]) k91_35 rfl rfl ?_
      refine ev_c_gt (t := 76) k91_36 rfl (by omega) (by omega) (by omega) (by omega) (fun h11 => ?_) (fun h11 => ?_)
      · exfalso; omega
      · refine ev_s1 (L' := [some (vr 13), some (vi x), some (vr (ch x)), some (vi (x + 1))]) (S' := [vr 13]) k91_39 rfl rfl ?_
        refine ev_s1 (L' := [some (vr 13), some (vi x), some (vr (ch x)), some (vi (x + 1))]) (S' := [vr 13, vr 13]) k91_40 rfl rfl ?_
        refine ev_getR k91_41 (by decide) (rfl) (x_13_1 (chU (chU ch x (ch (x + 1))) (x + 1) (ch x)) kd) ?_
        refine ev_s1 (L' := [some (vr 13), some (vi x), some (vr (ch x)), some (vi (x + 1))]) (S' := [vi (x + 1), vr 14, vr 13]) k91_44 rfl rfl ?_
        refine ev_aald (q := ch x) k91_45 (by decide) (rfl) (by decide) (by decide) (by omega) (by omega) ((rX14 (by omega) (by omega)).trans (by simp [chU, show ¬ x = x + 1 from by omega])) ?_
        refine ev_getI k91_46 (by omega) ((shp_c hx0.2).2) ?_
        show Ev d 91 49 [some (vr 13), some (vi x), some (vr (ch x)), some (vi (x + 1))] [vi (I (ch x) 5), vr 13] (SX I (chU (chU ch x (ch (x + 1))) (x + 1) (ch x)) kd) Q
        have rr12 := hI (ch x) 5
        refine ev_virt (a := [vi (I (ch x) 5)]) (S' := []) k91_49 rfl (Nat.le_of_ble_eq_true rfl) (by decide) (rfl) (by omega) ?_
        refine c_hasGuest (hρ2 _ rfl) hI (i := I (ch x) 5) (by omega) (by omega) (fun hh => ?_) (fun hh => ?_)
        · show Ev d 91 52 [some (vr 13), some (vi x), some (vr (ch x)), some (vi (x + 1))] [vi 1] (SX I (chU (chU ch x (ch (x + 1))) (x + 1) (ch x)) kd) Q
          refine ev_z_eq (t := 70) k91_52 rfl (by omega) (by omega) (fun h => absurd h (by decide)) (fun _ => ?_)
          refine ev_s1 (L' := [some (vr 13), some (vi x), some (vr (ch x)), some (vi (x + 1))]) (S' := [vr 13]) k91_55 rfl rfl ?_
          refine ev_getR k91_56 (by decide) (rfl) (x_13_4 (chU (chU ch x (ch (x + 1))) (x + 1) (ch x)) kd) ?_
          refine ev_s1 (L' := [some (vr 13), some (vi x), some (vr (ch x)), some (vi (x + 1))]) (S' := [vr 13, vr 17]) k91_59 rfl rfl ?_
          refine ev_getR k91_60 (by decide) (rfl) (x_13_1 (chU (chU ch x (ch (x + 1))) (x + 1) (ch x)) kd) ?_
          refine ev_s1 (L' := [some (vr 13), some (vi x), some (vr (ch x)), some (vi (x + 1))]) (S' := [vi (x + 1), vr 14, vr 17]) k91_63 rfl rfl ?_
          refine ev_aald (q := ch x) k91_64 (by decide) (rfl) (by decide) (by decide) (by omega) (by omega) ((rX14 (by omega) (by omega)).trans (by simp [chU, show ¬ x = x + 1 from by omega])) ?_
          refine ev_getI k91_65 (by omega) ((shp_c hx0.2).2) ?_
          show Ev d 91 68 [some (vr 13), some (vi x), some (vr (ch x)), some (vi (x + 1))] [vi (I (ch x) 5), vr 17] (SX I (chU (chU ch x (ch (x + 1))) (x + 1) (ch x)) kd) Q
          have rr13 := hI (ch x) 5
          refine ev_s1 (L' := [some (vr 13), some (vi x), some (vr (ch x)), some (vi (x + 1))]) (S' := [vi (x + 1), vi (I (ch x) 5), vr 17]) k91_68 rfl rfl ?_
          refine ev_iast k91_69 (by decide) (rfl) (by omega) (by omega) ?_
          show Ev d 91 70 [some (vr 13), some (vi x), some (vr (ch x)), some (vi (x + 1))] [] (SX (up I 17 (I (ch x) 5) (x + 1)) (chU (chU ch x (ch (x + 1))) (x + 1) (ch x)) kd) Q
          have hI14 := rg_up hI (k := 17) (j := I (ch x) 5) (z := x + 1) (by omega) (by omega)
          generalize hE14 : up I 17 (I (ch x) 5) (x + 1) = I14 at hI14 ⊢
          have f14_0 : I14 (ch x) 5 = I (ch x) 5 := by rw [← hE14]; exact (upN (Or.inl (by omega))).trans w0
          have f14_1 : I14 (ch (x + 1)) 5 = I (ch (x + 1)) 5 := by rw [← hE14]; exact (upN (Or.inl (by omega))).trans w1
          have f14_2 : I14 13 7 = I 13 7 := by rw [← hE14]; exact (upN (Or.inl (by decide))).trans w2
          refine ev_s1 (L' := [some (vr 13), some (vi x), some (vr (ch x)), some (vi ((x + 1) + 1))]) (S' := []) k91_70 rfl rfl ?_
          refine ev_goto (t := 32) k91_73 rfl ?_
          refine ev_s1 (L' := [some (vr 13), some (vi x), some (vr (ch x)), some (vi ((x + 1) + 1))]) (S' := [vi ((x + 1) + 1)]) k91_32 rfl rfl ?_
          refine ev_s1 (L' := [some (vr 13), some (vi x), some (vr (ch x)), some (vi ((x + 1) + 1))]) (S' := [vi x, vi ((x + 1) + 1)]) k91_33 rfl rfl ?_
          refine ev_s1 (L' := [some (vr 13), some (vi x), some (vr (ch x)), some (vi ((x + 1) + 1))]) (S' := [vi 1, vi x, vi ((x + 1) + 1)]) k91_34 rfl rfl ?_
          refine ev_s1 (L' := [some (vr 13), some (vi x), some (vr (ch x)), some (vi ((x + 1) + 1))]) (S' := [vi (x + 1), vi ((x + 1) + 1)]) k91_35 rfl rfl ?_
          refine ev_c_gt (t := 76) k91_36 rfl (by omega) (by omega) (by omega) (by omega) (fun h15 => ?_) (fun h15 => ?_)
          · refine ev_return k91_76 ?_
            subst hE14
            unfold swI at hQ
            first | (rw [if_pos (by omega), if_pos (by omega)] at hQ; exact hQ) | (rw [if_pos (by omega), if_neg (by omega)] at hQ; exact hQ) | (rw [if_neg (by omega), if_pos (by omega)] at hQ; exact hQ) | (rw [if_neg (by omega), if_neg (by omega)] at hQ; exact hQ)
          · exfalso; omega
        · show Ev d 91 52 [some (vr 13), some (vi x), some (vr (ch x)), some (vi (x + 1))] [vi 0] (SX I (chU (chU ch x (ch (x + 1))) (x + 1) (ch x)) kd) Q
          refine ev_z_eq (t := 70) k91_52 rfl (by omega) (by omega) (fun _ => ?_) (fun h => absurd h (by decide))
          refine ev_s1 (L' := [some (vr 13), some (vi x), some (vr (ch x)), some (vi ((x + 1) + 1))]) (S' := []) k91_70 rfl rfl ?_
          refine ev_goto (t := 32) k91_73 rfl ?_
          refine ev_s1 (L' := [some (vr 13), some (vi x), some (vr (ch x)), some (vi ((x + 1) + 1))]) (S' := [vi ((x + 1) + 1)]) k91_32 rfl rfl ?_
          refine ev_s1 (L' := [some (vr 13), some (vi x), some (vr (ch x)), some (vi ((x + 1) + 1))]) (S' := [vi x, vi ((x + 1) + 1)]) k91_33 rfl rfl ?_
          refine ev_s1 (L' := [some (vr 13), some (vi x), some (vr (ch x)), some (vi ((x + 1) + 1))]) (S' := [vi 1, vi x, vi ((x + 1) + 1)]) k91_34 rfl rfl ?_
          refine ev_s1 (L' := [some (vr 13), some (vi x), some (vr (ch x)), some (vi ((x + 1) + 1))]) (S' := [vi (x + 1), vi ((x + 1) + 1)]) k91_35 rfl rfl ?_
          refine ev_c_gt (t := 76) k91_36 rfl (by omega) (by omega) (by omega) (by omega) (fun h16 => ?_) (fun h16 => ?_)
          · refine ev_return k91_76 ?_
            unfold swI at hQ
            first | (rw [if_pos (by omega), if_pos (by omega)] at hQ; exact hQ) | (rw [if_pos (by omega), if_neg (by omega)] at hQ; exact hQ) | (rw [if_neg (by omega), if_pos (by omega)] at hQ; exact hQ) | (rw [if_neg (by omega), if_neg (by omega)] at hQ; exact hQ)
          · exfalso; omega
