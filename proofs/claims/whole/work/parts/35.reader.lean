/-! the reader: 24; its tape 25, 26; at: 24 3, mistake: 24 4 -/
def tapF (I : Nat → Int → Int) (i : Int) : Int := if i < I 25 1 then I 26 i else -1
def figB (b : Int) : Bool := decide (48 ≤ b) && decide (b ≤ 57)
def kindF (b : Int) : Int := if b = 112 then 1 else if b = 114 then 2 else if b = 98 then 3 else if b = 116 then 4 else if b = 100 then 5 else 0
theorem ln25 : isL2 25 100 := ⟨by decide, rfl, rfl, by decide, fun _ _ => rfl⟩
theorem ln27 : isL2 27 53 := ⟨by decide, rfl, rfl, by decide, fun _ _ => rfl⟩
theorem tap_rg {I : Nat → Int → Int} (hI : Rg I) (i : Int) : -2147483648 ≤ tapF I i ∧ tapF I i < 2147483648 := by
  have := hI 26 i
  unfold tapF
  split <;> omega

set_option maxHeartbeats 1000000 in
theorem c_byteAt {d : Nat} {I : Nat → Int → Int} {ch : Int → Nat} {kd : Nat → Nat} {Q : Option jV → jS → Prop} (hI : Rg I) (z0 : 0 ≤ I 25 1) (z1 : I 25 1 ≤ 100) (hd : 1 ≤ d) {i : Int} (i0 : 0 ≤ i) (i1 : i < 2000) (hQ : Q (some (vi (tapF I i))) (SX I ch kd)) : Cl d 70 [vr 24, vi i] (SX I ch kd) Q := by
  refine ⟨by rw [l70]; exact Nat.le_of_ble_eq_true rfl, ?_⟩
  rw [l70]
  show Ev d 70 0 [some (vr 24), some (vi i)] [] (SX I ch kd) Q
  refine ev_s1 (L' := [some (vr 24), some (vi i)]) (S' := [vi i]) k70_0 rfl rfl ?_
  refine ev_s1 (L' := [some (vr 24), some (vi i)]) (S' := [vr 24, vi i]) k70_1 rfl rfl ?_
  refine ev_getR k70_2 (by decide) (rfl) (x_24_0 ch kd) ?_
  refine ev_getI k70_5 (by decide) (rfl) ?_
  show Ev d 70 8 [some (vr 24), some (vi i)] [vi (I 25 1), vi i] (SX I ch kd) Q
  have rr1 := hI 25 1
  refine ev_c_ge (t := 22) k70_8 rfl (by omega) (by omega) (by omega) (by omega) (fun h2 => ?_) (fun h2 => ?_)
  · refine ev_s1 (L' := [some (vr 24), some (vi i)]) (S' := [vi (-1)]) k70_22 rfl rfl ?_
    refine ev_ireturn k70_23 ?_
    unfold tapF at hQ
    rw [if_neg (by omega)] at hQ
    exact hQ
  · refine ev_s1 (L' := [some (vr 24), some (vi i)]) (S' := [vr 24]) k70_11 rfl rfl ?_
    refine ev_getR k70_12 (by decide) (rfl) (x_24_0 ch kd) ?_
    refine ev_s1 (L' := [some (vr 24), some (vi i)]) (S' := [vi i, vr 25]) k70_15 rfl rfl ?_
    refine ev_virt (a := [vi i]) (S' := []) k70_16 rfl (Nat.le_of_ble_eq_true rfl) (by decide) (rfl) (by omega) ?_
    refine c_numberAt ln25 hI (i := i) (by omega) (by omega) (by omega) (fun hh hh2 => ?_) (fun hh => absurd (show 0 ≤ i ∧ i < I 25 1 by omega) hh)
    show Ev d 70 19 [some (vr 24), some (vi i)] [vi (I 26 i)] (SX I ch kd) Q
    refine ev_goto (t := 23) k70_19 rfl ?_
    refine ev_ireturn k70_23 ?_
    unfold tapF at hQ
    rw [if_pos (by omega)] at hQ
    exact hQ

set_option maxHeartbeats 1000000 in
theorem c_ahead {d : Nat} {I : Nat → Int → Int} {ch : Int → Nat} {kd : Nat → Nat} {Q : Option jV → jS → Prop} (hI : Rg I) (z0 : 0 ≤ I 25 1) (z1 : I 25 1 ≤ 100) (hd : 2 ≤ d) (i0 : 0 ≤ I 24 3) (i1 : I 24 3 < 2000) (hQ : Q (some (vi (tapF I (I 24 3)))) (SX I ch kd)) : Cl d 69 [vr 24] (SX I ch kd) Q := by
  refine ⟨by rw [l69]; exact Nat.le_of_ble_eq_true rfl, ?_⟩
  rw [l69]
  show Ev d 69 0 [some (vr 24)] [] (SX I ch kd) Q
  refine ev_s1 (L' := [some (vr 24)]) (S' := [vr 24]) k69_0 rfl rfl ?_
  refine ev_s1 (L' := [some (vr 24)]) (S' := [vr 24, vr 24]) k69_1 rfl rfl ?_
  refine ev_getI k69_2 (by decide) (rfl) ?_
  show Ev d 69 5 [some (vr 24)] [vi (I 24 3), vr 24] (SX I ch kd) Q
  have rr1 := hI 24 3
  refine ev_virt (a := [vi (I 24 3)]) (S' := []) k69_5 rfl (Nat.le_of_ble_eq_true rfl) (by decide) (rfl) (by omega) ?_
  refine c_byteAt hI z0 z1 (by omega) (i := I 24 3) (by omega) (by omega) (?_)
  have tr5 := tap_rg hI (I 24 3)
  show Ev d 69 8 [some (vr 24)] [vi (tapF I (I 24 3))] (SX I ch kd) Q
  refine ev_ireturn k69_8 ?_
  exact hQ

set_option maxHeartbeats 1000000 in
theorem c_isFigure {d : Nat} {I : Nat → Int → Int} {ch : Int → Nat} {kd : Nat → Nat} {Q : Option jV → jS → Prop} (hI : Rg I) {b : Int} (b0 : -2147483648 ≤ b) (b1 : b < 2147483648) (hT : figB b = true → Q (some (vi 1)) (SX I ch kd)) (hF : figB b = false → Q (some (vi 0)) (SX I ch kd)) : Cl d 71 [vi b] (SX I ch kd) Q := by
  refine ⟨by rw [l71]; exact Nat.le_of_ble_eq_true rfl, ?_⟩
  rw [l71]
  show Ev d 71 0 [some (vi b)] [] (SX I ch kd) Q
  refine ev_s1 (L' := [some (vi b)]) (S' := [vi b]) k71_0 rfl rfl ?_
  refine ev_s1 (L' := [some (vi b)]) (S' := [vi 48, vi b]) k71_1 rfl rfl ?_
  refine ev_c_lt (t := 16) k71_3 rfl (by omega) (by omega) (by omega) (by omega) (fun h1 => ?_) (fun h1 => ?_)
  · refine ev_s1 (L' := [some (vi b)]) (S' := [vi 0]) k71_16 rfl rfl ?_
    refine ev_zreturn k71_17 (by decide) ?_
    exact hF (by simp [figB]; omega)
  · refine ev_s1 (L' := [some (vi b)]) (S' := [vi b]) k71_6 rfl rfl ?_
    refine ev_s1 (L' := [some (vi b)]) (S' := [vi 57, vi b]) k71_7 rfl rfl ?_
    refine ev_c_gt (t := 16) k71_9 rfl (by omega) (by omega) (by omega) (by omega) (fun h2 => ?_) (fun h2 => ?_)
    · refine ev_s1 (L' := [some (vi b)]) (S' := [vi 0]) k71_16 rfl rfl ?_
      refine ev_zreturn k71_17 (by decide) ?_
      exact hF (by simp [figB]; omega)
    · refine ev_s1 (L' := [some (vi b)]) (S' := [vi 1]) k71_12 rfl rfl ?_
      refine ev_goto (t := 17) k71_13 rfl ?_
      refine ev_zreturn k71_17 (by decide) ?_
      exact hT (by simp [figB]; omega)

set_option maxHeartbeats 1000000 in
theorem c_kindBy {d : Nat} {I : Nat → Int → Int} {ch : Int → Nat} {kd : Nat → Nat} {Q : Option jV → jS → Prop} (hI : Rg I) {b : Int} (b0 : -2147483648 ≤ b) (b1 : b < 2147483648) (hQ : Q (some (vi (kindF b))) (SX I ch kd)) : Cl d 72 [vi b] (SX I ch kd) Q := by
  refine ⟨by rw [l72]; exact Nat.le_of_ble_eq_true rfl, ?_⟩
  rw [l72]
  show Ev d 72 0 [some (vi b)] [] (SX I ch kd) Q
  refine ev_s1 (L' := [some (vi b)]) (S' := [vi b]) k72_0 rfl rfl ?_
  rcases (show b = 98 ∨ b = 100 ∨ b = 112 ∨ b = 114 ∨ b = 116 ∨ (b ≠ 98 ∧ b ≠ 100 ∧ b ≠ 112 ∧ b ≠ 114 ∧ b ≠ 116) by omega) with hs1 | hs1 | hs1 | hs1 | hs1 | hs1
  · refine ev_lsw (t := 56) k72_1 hs1 rfl ?_
    refine ev_s1 (L' := [some (vi b)]) (S' := [vi 3]) k72_56 rfl rfl ?_
    refine ev_ireturn k72_57 ?_
    have e : kindF b = 3 := by unfold kindF; repeat (first | rw [if_pos (by omega)] | rw [if_neg (by omega)])
    rw [e] at hQ; exact hQ
  · refine ev_lsw (t := 60) k72_1 hs1 rfl ?_
    refine ev_s1 (L' := [some (vi b)]) (S' := [vi 5]) k72_60 rfl rfl ?_
    refine ev_ireturn k72_61 ?_
    have e : kindF b = 5 := by unfold kindF; repeat (first | rw [if_pos (by omega)] | rw [if_neg (by omega)])
    rw [e] at hQ; exact hQ
  · refine ev_lsw (t := 52) k72_1 hs1 rfl ?_
    refine ev_s1 (L' := [some (vi b)]) (S' := [vi 1]) k72_52 rfl rfl ?_
    refine ev_ireturn k72_53 ?_
    have e : kindF b = 1 := by unfold kindF; repeat (first | rw [if_pos (by omega)] | rw [if_neg (by omega)])
    rw [e] at hQ; exact hQ
  · refine ev_lsw (t := 54) k72_1 hs1 rfl ?_
    refine ev_s1 (L' := [some (vi b)]) (S' := [vi 2]) k72_54 rfl rfl ?_
    refine ev_ireturn k72_55 ?_
    have e : kindF b = 2 := by unfold kindF; repeat (first | rw [if_pos (by omega)] | rw [if_neg (by omega)])
    rw [e] at hQ; exact hQ
  · refine ev_lsw (t := 58) k72_1 hs1 rfl ?_
    refine ev_s1 (L' := [some (vi b)]) (S' := [vi 4]) k72_58 rfl rfl ?_
    refine ev_ireturn k72_59 ?_
    have e : kindF b = 4 := by unfold kindF; repeat (first | rw [if_pos (by omega)] | rw [if_neg (by omega)])
    rw [e] at hQ; exact hQ
  · refine ev_lsd (t := 62) k72_1 (by omega) (by omega) (by decide) (by simp only [Op.lookupswitch.offset_cons, Op.lookupswitch.offset_nil]; rw [if_neg (by omega), if_neg (by omega), if_neg (by omega), if_neg (by omega), if_neg (by omega)]) rfl ?_
    refine ev_s1 (L' := [some (vi b)]) (S' := [vi 0]) k72_62 rfl rfl ?_
    refine ev_ireturn k72_63 ?_
    have e : kindF b = 0 := by unfold kindF; repeat (first | rw [if_pos (by omega)] | rw [if_neg (by omega)])
    rw [e] at hQ; exact hQ

set_option maxHeartbeats 1000000 in
theorem c_fail {d : Nat} {I : Nat → Int → Int} {ch : Int → Nat} {kd : Nat → Nat} {Q : Option jV → jS → Prop} (hI : Rg I) {b : Int} (b0 : 1 ≤ b) (b1 : b ≤ 3) (hT : I 24 4 = 0 → Q none (SX (up I 24 4 b) ch kd)) (hF : I 24 4 ≠ 0 → Q none (SX I ch kd)) : Cl d 73 [vr 24, vi b] (SX I ch kd) Q := by
  refine ⟨by rw [l73]; exact Nat.le_of_ble_eq_true rfl, ?_⟩
  rw [l73]
  show Ev d 73 0 [some (vr 24), some (vi b)] [] (SX I ch kd) Q
  refine ev_s1 (L' := [some (vr 24), some (vi b)]) (S' := [vr 24]) k73_0 rfl rfl ?_
  refine ev_getI k73_1 (by decide) (rfl) ?_
  show Ev d 73 4 [some (vr 24), some (vi b)] [vi (I 24 4)] (SX I ch kd) Q
  have rr1 := hI 24 4
  refine ev_z_ne (t := 12) k73_4 rfl (by omega) (by omega) (fun h2 => ?_) (fun h2 => ?_)
  · refine ev_return k73_12 ?_
    exact hF (by omega)
  · refine ev_s1 (L' := [some (vr 24), some (vi b)]) (S' := [vr 24]) k73_7 rfl rfl ?_
    refine ev_s1 (L' := [some (vr 24), some (vi b)]) (S' := [vi b, vr 24]) k73_8 rfl rfl ?_
    refine ev_putI k73_9 (by decide) (rfl) ?_
    show Ev d 73 12 [some (vr 24), some (vi b)] [] (SX (up I 24 4 b) ch kd) Q
    have hI3 := rg_up hI (k := 24) (j := 4) (z := b) (by omega) (by omega)
    generalize hE3 : up I 24 4 b = I3 at hI3 ⊢
    refine ev_return k73_12 ?_
    subst hE3
    exact hT (by omega)

set_option maxHeartbeats 1000000 in
theorem c_readSign {d : Nat} {I : Nat → Int → Int} {ch : Int → Nat} {kd : Nat → Nat} {Q : Option jV → jS → Prop} (hI : Rg I) (z0 : 0 ≤ I 25 1) (z1 : I 25 1 ≤ 100) (i0 : 0 ≤ I 24 3) (i1 : I 24 3 < 2000) (hd : 3 ≤ d) {s : Int} (s0 : -2147483648 ≤ s) (s1 : s < 2147483648) (hN : I 24 4 ≠ 0 → Q none (SX I ch kd)) (hT : I 24 4 = 0 → tapF I (I 24 3) = s → Q none (SX (up I 24 3 (I 24 3 + 1)) ch kd)) (hF : I 24 4 = 0 → tapF I (I 24 3) ≠ s → Q none (SX (up I 24 4 1) ch kd)) : Cl d 67 [vr 24, vi s] (SX I ch kd) Q := by
  refine ⟨by rw [l67]; exact Nat.le_of_ble_eq_true rfl, ?_⟩
  rw [l67]
  show Ev d 67 0 [some (vr 24), some (vi s)] [] (SX I ch kd) Q
  refine ev_s1 (L' := [some (vr 24), some (vi s)]) (S' := [vr 24]) k67_0 rfl rfl ?_
  refine ev_getI k67_1 (by decide) (rfl) ?_
  show Ev d 67 4 [some (vr 24), some (vi s)] [vi (I 24 4)] (SX I ch kd) Q
  have rr1 := hI 24 4
  refine ev_z_eq (t := 8) k67_4 rfl (by omega) (by omega) (fun h2 => ?_) (fun h2 => ?_)
  · refine ev_s1 (L' := [some (vr 24), some (vi s)]) (S' := [vr 24]) k67_8 rfl rfl ?_
    refine ev_virt (a := []) (S' := []) k67_9 rfl (Nat.le_of_ble_eq_true rfl) (by decide) (rfl) (by omega) ?_
    refine c_ahead hI z0 z1 (by omega) i0 i1 (?_)
    have tr9 := tap_rg hI (I 24 3)
    show Ev d 67 12 [some (vr 24), some (vi s)] [vi (tapF I (I 24 3))] (SX I ch kd) Q
    refine ev_s1 (L' := [some (vr 24), some (vi s)]) (S' := [vi s, vi (tapF I (I 24 3))]) k67_12 rfl rfl ?_
    refine ev_c_ne (t := 29) k67_13 rfl (by omega) (by omega) (by omega) (by omega) (fun h3 => ?_) (fun h3 => ?_)
    · refine ev_s1 (L' := [some (vr 24), some (vi s)]) (S' := [vr 24]) k67_29 rfl rfl ?_
      refine ev_s1 (L' := [some (vr 24), some (vi s)]) (S' := [vi 1, vr 24]) k67_30 rfl rfl ?_
      refine ev_virt (a := [vi 1]) (S' := []) k67_31 rfl (Nat.le_of_ble_eq_true rfl) (by decide) (rfl) (by omega) ?_
      refine c_fail hI (b := 1) (by omega) (by omega) (fun _ => ?_) (fun hh => absurd (show I 24 4 = 0 by omega) hh)
      have hI4 := rg_up hI (k := 24) (j := 4) (z := 1) (by omega) (by omega)
      generalize hE4 : up I 24 4 1 = I4 at hI4 ⊢
      show Ev d 67 34 [some (vr 24), some (vi s)] [] (SX I4 ch kd) Q
      refine ev_return k67_34 ?_
      subst hE4
      exact hF (by omega) (by omega)
    · refine ev_s1 (L' := [some (vr 24), some (vi s)]) (S' := [vr 24]) k67_16 rfl rfl ?_
      refine ev_s1 (L' := [some (vr 24), some (vi s)]) (S' := [vr 24, vr 24]) k67_17 rfl rfl ?_
      refine ev_getI k67_18 (by decide) (rfl) ?_
      show Ev d 67 21 [some (vr 24), some (vi s)] [vi (I 24 3), vr 24] (SX I ch kd) Q
      have rr5 := hI 24 3
      refine ev_s1 (L' := [some (vr 24), some (vi s)]) (S' := [vi 1, vi (I 24 3), vr 24]) k67_21 rfl rfl ?_
      refine ev_s1 (L' := [some (vr 24), some (vi s)]) (S' := [vi ((I 24 3) + 1), vr 24]) k67_22 rfl rfl ?_
      refine ev_putI k67_23 (by decide) (rfl) ?_
      show Ev d 67 26 [some (vr 24), some (vi s)] [] (SX (up I 24 3 ((I 24 3) + 1)) ch kd) Q
      have hI6 := rg_up hI (k := 24) (j := 3) (z := (I 24 3) + 1) (by omega) (by omega)
      generalize hE6 : up I 24 3 ((I 24 3) + 1) = I6 at hI6 ⊢
      refine ev_goto (t := 34) k67_26 rfl ?_
      refine ev_return k67_34 ?_
      subst hE6
      exact hT (by omega) (by omega)
  · refine ev_return k67_7 ?_
    exact hN (by omega)
