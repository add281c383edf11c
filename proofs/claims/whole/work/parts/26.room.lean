/-! rooms -/
def isRm (ρ : Nat) (cc : Int → Nat) (ch : Int → Nat) (kd : Nat → Nat) : Prop := (ρ = 13 ∨ ρ = 29 ∨ ρ = 45) ∧ (∀ i, 0 ≤ i → i < 5 → rX ch kd (ρ + 1) i = some (cc i) ∧ isCh (cc i) = true) ∧ (∀ i j, 0 ≤ i → i < 5 → 0 ≤ j → j < 5 → cc i = cc j → i = j) ∧ ∀ i, 0 ≤ i → i < 5 → ρ + 6 ≤ cc i ∧ cc i ≤ ρ + 10
theorem rm_f {ρ : Nat} {cc : Int → Nat} {ch : Int → Nat} {kd : Nat → Nat} (h : isRm ρ cc ch kd) : shX ρ = (8, 0) ∧ shX (ρ + 1) = (54, 5) ∧ shX (ρ + 2) = (50, 5) ∧ shX (ρ + 3) = (50, 5) ∧ shX (ρ + 4) = (50, 5) ∧ shX (ρ + 5) = (50, 5) ∧ rX ch kd ρ 0 = some 7 ∧ rX ch kd ρ 1 = some (ρ + 1) ∧ rX ch kd ρ 2 = some (ρ + 2) ∧ rX ch kd ρ 3 = some (ρ + 3) ∧ rX ch kd ρ 4 = some (ρ + 4) ∧ rX ch kd ρ 5 = some (ρ + 5) ∧ ρ + 10 < 56 := by
  rcases h.1 with rfl | rfl | rfl <;> exact ⟨rfl, rfl, rfl, rfl, rfl, rfl, rfl, rfl, rfl, rfl, rfl, rfl, by decide⟩

set_option maxHeartbeats 1000000 in
theorem c_hasChair {d : Nat} {I : Nat → Int → Int} {ch : Int → Nat} {kd : Nat → Nat} {Q : Option jV → jS → Prop} {ρ : Nat} {cc : Int → Nat} (hρ : isRm ρ cc ch kd) (hI : Rg I) {i : Int} (hi0 : -2147483648 ≤ i) (hi1 : i < 2147483648) (hT : (0 ≤ i ∧ i < I ρ 6) → Q (some (vi 1)) (SX I ch kd)) (hF : ¬ (0 ≤ i ∧ i < I ρ 6) → Q (some (vi 0)) (SX I ch kd)) : Cl d 84 [vr ρ, vi i] (SX I ch kd) Q := by
  obtain ⟨s0, s1, s2, s3, s4, s5, q0, q1, q2, q3, q4, q5, hlt⟩ := rm_f hρ
  refine ⟨by rw [l84]; exact Nat.le_of_ble_eq_true rfl, ?_⟩
  rw [l84]
  show Ev d 84 0 [some (vr ρ), some (vi i)] [] (SX I ch kd) Q
  refine ev_s1 (L' := [some (vr ρ), some (vi i)]) (S' := [vi i]) k84_0 rfl rfl ?_
  refine ev_z_lt (t := 16) k84_1 rfl (by omega) (by omega) (fun h1 => ?_) (fun h1 => ?_)
  · refine ev_s1 (L' := [some (vr ρ), some (vi i)]) (S' := [vi 0]) k84_16 rfl rfl ?_
    refine ev_zreturn k84_17 (by decide) ?_
    exact hF (by omega)
  · refine ev_s1 (L' := [some (vr ρ), some (vi i)]) (S' := [vi i]) k84_4 rfl rfl ?_
    refine ev_s1 (L' := [some (vr ρ), some (vi i)]) (S' := [vr ρ, vi i]) k84_5 rfl rfl ?_
    refine ev_getI k84_6 (by omega) (s0) ?_
    show Ev d 84 9 [some (vr ρ), some (vi i)] [vi (I ρ 6), vi i] (SX I ch kd) Q
    have rr2 := hI ρ 6
    refine ev_c_ge (t := 16) k84_9 rfl (by omega) (by omega) (by omega) (by omega) (fun h3 => ?_) (fun h3 => ?_)
    · refine ev_s1 (L' := [some (vr ρ), some (vi i)]) (S' := [vi 0]) k84_16 rfl rfl ?_
      refine ev_zreturn k84_17 (by decide) ?_
      exact hF (by omega)
    · refine ev_s1 (L' := [some (vr ρ), some (vi i)]) (S' := [vi 1]) k84_12 rfl rfl ?_
      refine ev_goto (t := 17) k84_13 rfl ?_
      refine ev_zreturn k84_17 (by decide) ?_
      exact hT (by omega)

set_option maxHeartbeats 1000000 in
theorem c_hasGuest {d : Nat} {I : Nat → Int → Int} {ch : Int → Nat} {kd : Nat → Nat} {Q : Option jV → jS → Prop} {ρ : Nat} {cc : Int → Nat} (hρ : isRm ρ cc ch kd) (hI : Rg I) {i : Int} (hi0 : -2147483648 ≤ i) (hi1 : i < 2147483648) (hT : (0 ≤ i ∧ i < I ρ 7) → Q (some (vi 1)) (SX I ch kd)) (hF : ¬ (0 ≤ i ∧ i < I ρ 7) → Q (some (vi 0)) (SX I ch kd)) : Cl d 85 [vr ρ, vi i] (SX I ch kd) Q := by
  obtain ⟨s0, s1, s2, s3, s4, s5, q0, q1, q2, q3, q4, q5, hlt⟩ := rm_f hρ
  refine ⟨by rw [l85]; exact Nat.le_of_ble_eq_true rfl, ?_⟩
  rw [l85]
  show Ev d 85 0 [some (vr ρ), some (vi i)] [] (SX I ch kd) Q
  refine ev_s1 (L' := [some (vr ρ), some (vi i)]) (S' := [vi i]) k85_0 rfl rfl ?_
  refine ev_z_lt (t := 16) k85_1 rfl (by omega) (by omega) (fun h1 => ?_) (fun h1 => ?_)
  · refine ev_s1 (L' := [some (vr ρ), some (vi i)]) (S' := [vi 0]) k85_16 rfl rfl ?_
    refine ev_zreturn k85_17 (by decide) ?_
    exact hF (by omega)
  · refine ev_s1 (L' := [some (vr ρ), some (vi i)]) (S' := [vi i]) k85_4 rfl rfl ?_
    refine ev_s1 (L' := [some (vr ρ), some (vi i)]) (S' := [vr ρ, vi i]) k85_5 rfl rfl ?_
    refine ev_getI k85_6 (by omega) (s0) ?_
    show Ev d 85 9 [some (vr ρ), some (vi i)] [vi (I ρ 7), vi i] (SX I ch kd) Q
    have rr2 := hI ρ 7
    refine ev_c_ge (t := 16) k85_9 rfl (by omega) (by omega) (by omega) (by omega) (fun h3 => ?_) (fun h3 => ?_)
    · refine ev_s1 (L' := [some (vr ρ), some (vi i)]) (S' := [vi 0]) k85_16 rfl rfl ?_
      refine ev_zreturn k85_17 (by decide) ?_
      exact hF (by omega)
    · refine ev_s1 (L' := [some (vr ρ), some (vi i)]) (S' := [vi 1]) k85_12 rfl rfl ?_
      refine ev_goto (t := 17) k85_13 rfl ?_
      refine ev_zreturn k85_17 (by decide) ?_
      exact hT (by omega)

set_option maxHeartbeats 1000000 in
theorem c_stands {d : Nat} {I : Nat → Int → Int} {ch : Int → Nat} {kd : Nat → Nat} {Q : Option jV → jS → Prop} {ρ : Nat} {cc : Int → Nat} (hρ : isRm ρ cc ch kd) (hI : Rg I) (hT : 0 < I ρ 6 → Q (some (vi 1)) (SX I ch kd)) (hF : ¬ (0 < I ρ 6) → Q (some (vi 0)) (SX I ch kd)) : Cl d 83 [vr ρ] (SX I ch kd) Q := by
  obtain ⟨s0, s1, s2, s3, s4, s5, q0, q1, q2, q3, q4, q5, hlt⟩ := rm_f hρ
  refine ⟨by rw [l83]; exact Nat.le_of_ble_eq_true rfl, ?_⟩
  rw [l83]
  show Ev d 83 0 [some (vr ρ)] [] (SX I ch kd) Q
  refine ev_s1 (L' := [some (vr ρ)]) (S' := [vr ρ]) k83_0 rfl rfl ?_
  refine ev_getI k83_1 (by omega) (s0) ?_
  show Ev d 83 4 [some (vr ρ)] [vi (I ρ 6)] (SX I ch kd) Q
  have rr1 := hI ρ 6
  refine ev_z_le (t := 11) k83_4 rfl (by omega) (by omega) (fun h2 => ?_) (fun h2 => ?_)
  · refine ev_s1 (L' := [some (vr ρ)]) (S' := [vi 0]) k83_11 rfl rfl ?_
    refine ev_zreturn k83_12 (by decide) ?_
    exact hF (by omega)
  · refine ev_s1 (L' := [some (vr ρ)]) (S' := [vi 1]) k83_7 rfl rfl ?_
    refine ev_goto (t := 12) k83_8 rfl ?_
    refine ev_zreturn k83_12 (by decide) ?_
    exact hT (by omega)

set_option maxHeartbeats 1000000 in
theorem c_isSeated {d : Nat} {I : Nat → Int → Int} {ch : Int → Nat} {kd : Nat → Nat} {Q : Option jV → jS → Prop} {ρ : Nat} {cc : Int → Nat} (hρ : isRm ρ cc ch kd) (hI : Rg I) {i : Int} (hi0 : 0 ≤ i) (hi1 : i < 5) (hT : I (ρ + 4) i ≠ -1000000 → Q (some (vi 1)) (SX I ch kd)) (hF : ¬ (I (ρ + 4) i ≠ -1000000) → Q (some (vi 0)) (SX I ch kd)) : Cl d 86 [vr ρ, vi i] (SX I ch kd) Q := by
  obtain ⟨s0, s1, s2, s3, s4, s5, q0, q1, q2, q3, q4, q5, hlt⟩ := rm_f hρ
  refine ⟨by rw [l86]; exact Nat.le_of_ble_eq_true rfl, ?_⟩
  rw [l86]
  show Ev d 86 0 [some (vr ρ), some (vi i)] [] (SX I ch kd) Q
  refine ev_s1 (L' := [some (vr ρ), some (vi i)]) (S' := [vr ρ]) k86_0 rfl rfl ?_
  refine ev_getR k86_1 (by omega) (s0) (q4) ?_
  refine ev_s1 (L' := [some (vr ρ), some (vi i)]) (S' := [vi i, vr (ρ + 4)]) k86_4 rfl rfl ?_
  refine ev_iald k86_5 (by omega) (s4) (by omega) (by omega) ?_
  have rr1 := hI (ρ + 4) i
  refine ev_ldc k86_6 ?_
  refine ev_c_eq (t := 15) k86_8 rfl (by omega) (by omega) (by omega) (by omega) (fun h2 => ?_) (fun h2 => ?_)
  · refine ev_s1 (L' := [some (vr ρ), some (vi i)]) (S' := [vi 0]) k86_15 rfl rfl ?_
    refine ev_zreturn k86_16 (by decide) ?_
    exact hF (by omega)
  · refine ev_s1 (L' := [some (vr ρ), some (vi i)]) (S' := [vi 1]) k86_11 rfl rfl ?_
    refine ev_goto (t := 16) k86_12 rfl ?_
    refine ev_zreturn k86_16 (by decide) ?_
    exact hT (by omega)

set_option maxHeartbeats 1000000 in
theorem c_isTaken {d : Nat} {I : Nat → Int → Int} {ch : Int → Nat} {kd : Nat → Nat} {Q : Option jV → jS → Prop} {ρ : Nat} {cc : Int → Nat} (hρ : isRm ρ cc ch kd) (hI : Rg I) {i : Int} (hi0 : 0 ≤ i) (hi1 : i < 5) (hT : I (cc i) 5 ≠ -1000000 → Q (some (vi 1)) (SX I ch kd)) (hF : ¬ (I (cc i) 5 ≠ -1000000) → Q (some (vi 0)) (SX I ch kd)) : Cl d 87 [vr ρ, vi i] (SX I ch kd) Q := by
  obtain ⟨s0, s1, s2, s3, s4, s5, q0, q1, q2, q3, q4, q5, hlt⟩ := rm_f hρ
  refine ⟨by rw [l87]; exact Nat.le_of_ble_eq_true rfl, ?_⟩
  rw [l87]
  show Ev d 87 0 [some (vr ρ), some (vi i)] [] (SX I ch kd) Q
  refine ev_s1 (L' := [some (vr ρ), some (vi i)]) (S' := [vr ρ]) k87_0 rfl rfl ?_
  refine ev_getR k87_1 (by omega) (s0) (q1) ?_
  refine ev_s1 (L' := [some (vr ρ), some (vi i)]) (S' := [vi i, vr (ρ + 1)]) k87_4 rfl rfl ?_
  have hc1 := hρ.2.1 i (by omega) (by omega)
  have hl1 := (shp_c hc1.2).1
  refine ev_aald (q := cc i) k87_5 (by omega) (s1) (by decide) (by decide) (by omega) (by omega) (hc1.1) ?_
  refine ev_getI k87_6 (by omega) ((shp_c hc1.2).2) ?_
  show Ev d 87 9 [some (vr ρ), some (vi i)] [vi (I (cc i) 5)] (SX I ch kd) Q
  have rr2 := hI (cc i) 5
  refine ev_ldc k87_9 ?_
  refine ev_c_eq (t := 18) k87_11 rfl (by omega) (by omega) (by omega) (by omega) (fun h3 => ?_) (fun h3 => ?_)
  · refine ev_s1 (L' := [some (vr ρ), some (vi i)]) (S' := [vi 0]) k87_18 rfl rfl ?_
    refine ev_zreturn k87_19 (by decide) ?_
    exact hF (by omega)
  · refine ev_s1 (L' := [some (vr ρ), some (vi i)]) (S' := [vi 1]) k87_14 rfl rfl ?_
    refine ev_goto (t := 19) k87_15 rfl ?_
    refine ev_zreturn k87_19 (by decide) ?_
    exact hT (by omega)

set_option maxHeartbeats 1000000 in
theorem c_empty {d : Nat} {I : Nat → Int → Int} {ch : Int → Nat} {kd : Nat → Nat} {Q : Option jV → jS → Prop} {ρ : Nat} {cc : Int → Nat} (hρ : isRm ρ cc ch kd) (hI : Rg I) (hQ : Q none (SX (up (up (up I ρ 6 0) ρ 7 0) ρ 8 0) ch kd)) : Cl d 80 [vr ρ] (SX I ch kd) Q := by
  obtain ⟨s0, s1, s2, s3, s4, s5, q0, q1, q2, q3, q4, q5, hlt⟩ := rm_f hρ
  refine ⟨by rw [l80]; exact Nat.le_of_ble_eq_true rfl, ?_⟩
  rw [l80]
  show Ev d 80 0 [some (vr ρ)] [] (SX I ch kd) Q
  refine ev_s1 (L' := [some (vr ρ)]) (S' := [vr ρ]) k80_0 rfl rfl ?_
  refine ev_s1 (L' := [some (vr ρ)]) (S' := [vi 0, vr ρ]) k80_1 rfl rfl ?_
  refine ev_putI k80_2 (by omega) (s0) ?_
  show Ev d 80 5 [some (vr ρ)] [] (SX (up I ρ 6 0) ch kd) Q
  refine ev_s1 (L' := [some (vr ρ)]) (S' := [vr ρ]) k80_5 rfl rfl ?_
  refine ev_s1 (L' := [some (vr ρ)]) (S' := [vi 0, vr ρ]) k80_6 rfl rfl ?_
  refine ev_putI k80_7 (by omega) (s0) ?_
  show Ev d 80 10 [some (vr ρ)] [] (SX (up (up I ρ 6 0) ρ 7 0) ch kd) Q
  refine ev_s1 (L' := [some (vr ρ)]) (S' := [vr ρ]) k80_10 rfl rfl ?_
  refine ev_s1 (L' := [some (vr ρ)]) (S' := [vi 0, vr ρ]) k80_11 rfl rfl ?_
  refine ev_putI k80_12 (by omega) (s0) ?_
  show Ev d 80 15 [some (vr ρ)] [] (SX (up (up (up I ρ 6 0) ρ 7 0) ρ 8 0) ch kd) Q
  refine ev_return k80_15 ?_
  exact hQ

set_option maxHeartbeats 1000000 in
theorem c_putGuest {d : Nat} {I : Nat → Int → Int} {ch : Int → Nat} {kd : Nat → Nat} {Q : Option jV → jS → Prop} {ρ : Nat} {cc : Int → Nat} (hρ : isRm ρ cc ch kd) (hI : Rg I) {g i v : Int} (g0 : 0 ≤ g) (g1 : g < 5) (hi0 : 0 ≤ i) (hi1 : i < 5) (v0 : -2147483648 ≤ v) (v1 : v < 2147483648) (hQ : Q none (SX (up (up (up I (ρ + 4) g i) (ρ + 5) g v) (cc i) 5 g) ch kd)) : Cl d 89 [vr ρ, vi g, vi i, vi v] (SX I ch kd) Q := by
  obtain ⟨s0, s1, s2, s3, s4, s5, q0, q1, q2, q3, q4, q5, hlt⟩ := rm_f hρ
  refine ⟨by rw [l89]; exact Nat.le_of_ble_eq_true rfl, ?_⟩
  rw [l89]
  show Ev d 89 0 [some (vr ρ), some (vi g), some (vi i), some (vi v)] [] (SX I ch kd) Q
  refine ev_s1 (L' := [some (vr ρ), some (vi g), some (vi i), some (vi v)]) (S' := [vr ρ]) k89_0 rfl rfl ?_
  refine ev_getR k89_1 (by omega) (s0) (q4) ?_
  refine ev_s1 (L' := [some (vr ρ), some (vi g), some (vi i), some (vi v)]) (S' := [vi g, vr (ρ + 4)]) k89_4 rfl rfl ?_
  refine ev_s1 (L' := [some (vr ρ), some (vi g), some (vi i), some (vi v)]) (S' := [vi i, vi g, vr (ρ + 4)]) k89_5 rfl rfl ?_
  refine ev_iast k89_6 (by omega) (s4) (by omega) (by omega) ?_
  show Ev d 89 7 [some (vr ρ), some (vi g), some (vi i), some (vi v)] [] (SX (up I (ρ + 4) g i) ch kd) Q
  have hI1 := rg_up hI (k := ρ + 4) (j := g) (z := i) (by omega) (by omega)
  generalize hE1 : up I (ρ + 4) g i = I1 at hI1 ⊢
  refine ev_s1 (L' := [some (vr ρ), some (vi g), some (vi i), some (vi v)]) (S' := [vr ρ]) k89_7 rfl rfl ?_
  refine ev_getR k89_8 (by omega) (s0) (q5) ?_
  refine ev_s1 (L' := [some (vr ρ), some (vi g), some (vi i), some (vi v)]) (S' := [vi g, vr (ρ + 5)]) k89_11 rfl rfl ?_
  refine ev_s1 (L' := [some (vr ρ), some (vi g), some (vi i), some (vi v)]) (S' := [vi v, vi g, vr (ρ + 5)]) k89_12 rfl rfl ?_
  refine ev_iast k89_13 (by omega) (s5) (by omega) (by omega) ?_
  show Ev d 89 14 [some (vr ρ), some (vi g), some (vi i), some (vi v)] [] (SX (up I1 (ρ + 5) g v) ch kd) Q
  have hI2 := rg_up hI1 (k := ρ + 5) (j := g) (z := v) (by omega) (by omega)
  generalize hE2 : up I1 (ρ + 5) g v = I2 at hI2 ⊢
  refine ev_s1 (L' := [some (vr ρ), some (vi g), some (vi i), some (vi v)]) (S' := [vr ρ]) k89_14 rfl rfl ?_
  refine ev_getR k89_15 (by omega) (s0) (q1) ?_
  refine ev_s1 (L' := [some (vr ρ), some (vi g), some (vi i), some (vi v)]) (S' := [vi i, vr (ρ + 1)]) k89_18 rfl rfl ?_
  have hc3 := hρ.2.1 i (by omega) (by omega)
  have hl3 := (shp_c hc3.2).1
  refine ev_aald (q := cc i) k89_19 (by omega) (s1) (by decide) (by decide) (by omega) (by omega) (hc3.1) ?_
  refine ev_s1 (L' := [some (vr ρ), some (vi g), some (vi i), some (vi v)]) (S' := [vi g, vr (cc i)]) k89_20 rfl rfl ?_
  refine ev_putI k89_21 (by omega) ((shp_c hc3.2).2) ?_
  show Ev d 89 24 [some (vr ρ), some (vi g), some (vi i), some (vi v)] [] (SX (up I2 (cc i) 5 g) ch kd) Q
  have hI4 := rg_up hI2 (k := cc i) (j := 5) (z := g) (by omega) (by omega)
  generalize hE4 : up I2 (cc i) 5 g = I4 at hI4 ⊢
  refine ev_return k89_24 ?_
  subst hE4
  subst hE2
  subst hE1
  exact hQ

set_option maxHeartbeats 1000000 in
theorem c_isTrio {d : Nat} {I : Nat → Int → Int} {ch : Int → Nat} {kd : Nat → Nat} {Q : Option jV → jS → Prop} {ρ : Nat} {cc : Int → Nat} (hρ : isRm ρ cc ch kd) (hI : Rg I) {i : Int} (hi0 : 0 ≤ i) (hi1 : i < 3) (hT : (I (cc (i + 1)) 3 = I (cc i) 3 ∧ I (cc (i + 2)) 3 = I (cc i) 3) → Q (some (vi 1)) (SX I ch kd)) (hF : ¬ (I (cc (i + 1)) 3 = I (cc i) 3 ∧ I (cc (i + 2)) 3 = I (cc i) 3) → Q (some (vi 0)) (SX I ch kd)) : Cl d 94 [vr ρ, vi i] (SX I ch kd) Q := by
  obtain ⟨s0, s1, s2, s3, s4, s5, q0, q1, q2, q3, q4, q5, hlt⟩ := rm_f hρ
  refine ⟨by rw [l94]; exact Nat.le_of_ble_eq_true rfl, ?_⟩
  rw [l94]
  show Ev d 94 0 [some (vr ρ), some (vi i), none] [] (SX I ch kd) Q
  refine ev_s1 (L' := [some (vr ρ), some (vi i), none]) (S' := [vr ρ]) k94_0 rfl rfl ?_
  refine ev_getR k94_1 (by omega) (s0) (q1) ?_
  refine ev_s1 (L' := [some (vr ρ), some (vi i), none]) (S' := [vi i, vr (ρ + 1)]) k94_4 rfl rfl ?_
  have hc1 := hρ.2.1 i (by omega) (by omega)
  have hl1 := (shp_c hc1.2).1
  refine ev_aald (q := cc i) k94_5 (by omega) (s1) (by decide) (by decide) (by omega) (by omega) (hc1.1) ?_
  refine ev_getI k94_6 (by omega) ((shp_c hc1.2).2) ?_
  show Ev d 94 9 [some (vr ρ), some (vi i), none] [vi (I (cc i) 3)] (SX I ch kd) Q
  have rr2 := hI (cc i) 3
  refine ev_s1 (L' := [some (vr ρ), some (vi i), some (vi (I (cc i) 3))]) (S' := []) k94_9 rfl rfl ?_
  refine ev_s1 (L' := [some (vr ρ), some (vi i), some (vi (I (cc i) 3))]) (S' := [vr ρ]) k94_10 rfl rfl ?_
  refine ev_getR k94_11 (by omega) (s0) (q1) ?_
  refine ev_s1 (L' := [some (vr ρ), some (vi i), some (vi (I (cc i) 3))]) (S' := [vi i, vr (ρ + 1)]) k94_14 rfl rfl ?_
  refine ev_s1 (L' := [some (vr ρ), some (vi i), some (vi (I (cc i) 3))]) (S' := [vi 1, vi i, vr (ρ + 1)]) k94_15 rfl rfl ?_
  refine ev_s1 (L' := [some (vr ρ), some (vi i), some (vi (I (cc i) 3))]) (S' := [vi (i + 1), vr (ρ + 1)]) k94_16 rfl rfl ?_
  have hc3 := hρ.2.1 (i + 1) (by omega) (by omega)
  have hl3 := (shp_c hc3.2).1
  refine ev_aald (q := cc (i + 1)) k94_17 (by omega) (s1) (by decide) (by decide) (by omega) (by omega) (hc3.1) ?_
  refine ev_getI k94_18 (by omega) ((shp_c hc3.2).2) ?_
  show Ev d 94 21 [some (vr ρ), some (vi i), some (vi (I (cc i) 3))] [vi (I (cc (i + 1)) 3)] (SX I ch kd) Q
  have rr4 := hI (cc (i + 1)) 3
  refine ev_s1 (L' := [some (vr ρ), some (vi i), some (vi (I (cc i) 3))]) (S' := [vi (I (cc i) 3), vi (I (cc (i + 1)) 3)]) k94_21 rfl rfl ?_
  refine ev_c_ne (t := 44) k94_22 rfl (by omega) (by omega) (by omega) (by omega) (fun h5 => ?_) (fun h5 => ?_)
  · refine ev_s1 (L' := [some (vr ρ), some (vi i), some (vi (I (cc i) 3))]) (S' := [vi 0]) k94_44 rfl rfl ?_
    refine ev_zreturn k94_45 (by decide) ?_
    exact hF (by omega)
  · refine ev_s1 (L' := [some (vr ρ), some (vi i), some (vi (I (cc i) 3))]) (S' := [vr ρ]) k94_25 rfl rfl ?_
    refine ev_getR k94_26 (by omega) (s0) (q1) ?_
    refine ev_s1 (L' := [some (vr ρ), some (vi i), some (vi (I (cc i) 3))]) (S' := [vi i, vr (ρ + 1)]) k94_29 rfl rfl ?_
    refine ev_s1 (L' := [some (vr ρ), some (vi i), some (vi (I (cc i) 3))]) (S' := [vi 2, vi i, vr (ρ + 1)]) k94_30 rfl rfl ?_
    refine ev_s1 (L' := [some (vr ρ), some (vi i), some (vi (I (cc i) 3))]) (S' := [vi (i + 2), vr (ρ + 1)]) k94_31 rfl rfl ?_
    have hc6 := hρ.2.1 (i + 2) (by omega) (by omega)
    have hl6 := (shp_c hc6.2).1
    refine ev_aald (q := cc (i + 2)) k94_32 (by omega) (s1) (by decide) (by decide) (by omega) (by omega) (hc6.1) ?_
    refine ev_getI k94_33 (by omega) ((shp_c hc6.2).2) ?_
    show Ev d 94 36 [some (vr ρ), some (vi i), some (vi (I (cc i) 3))] [vi (I (cc (i + 2)) 3)] (SX I ch kd) Q
    have rr7 := hI (cc (i + 2)) 3
    refine ev_s1 (L' := [some (vr ρ), some (vi i), some (vi (I (cc i) 3))]) (S' := [vi (I (cc i) 3), vi (I (cc (i + 2)) 3)]) k94_36 rfl rfl ?_
    refine ev_c_ne (t := 44) k94_37 rfl (by omega) (by omega) (by omega) (by omega) (fun h8 => ?_) (fun h8 => ?_)
    · refine ev_s1 (L' := [some (vr ρ), some (vi i), some (vi (I (cc i) 3))]) (S' := [vi 0]) k94_44 rfl rfl ?_
      refine ev_zreturn k94_45 (by decide) ?_
      exact hF (by omega)
    · refine ev_s1 (L' := [some (vr ρ), some (vi i), some (vi (I (cc i) 3))]) (S' := [vi 1]) k94_40 rfl rfl ?_
      refine ev_goto (t := 45) k94_41 rfl ?_
      refine ev_zreturn k94_45 (by decide) ?_
      exact hT (by omega)

set_option maxHeartbeats 1000000 in
theorem c_isLike {d : Nat} {I : Nat → Int → Int} {ch : Int → Nat} {kd : Nat → Nat} {Q : Option jV → jS → Prop} {c : Nat} {x y : Int} (hc : isCh c = true) (hI : Rg I) (x0 : -2147483648 ≤ x) (x1 : x < 2147483648) (y0 : -2147483648 ≤ y) (y1 : y < 2147483648) (hT : (I c 1 = x ∧ I c 2 = y) → Q (some (vi 1)) (SX I ch kd)) (hF : ¬ (I c 1 = x ∧ I c 2 = y) → Q (some (vi 0)) (SX I ch kd)) : Cl d 9 [vr c, vi x, vi y] (SX I ch kd) Q := by
  have hcl := (shp_c hc).1
  refine ⟨by rw [l9]; exact Nat.le_of_ble_eq_true rfl, ?_⟩
  rw [l9]
  show Ev d 9 0 [some (vr c), some (vi x), some (vi y)] [] (SX I ch kd) Q
  refine ev_s1 (L' := [some (vr c), some (vi x), some (vi y)]) (S' := [vr c]) k9_0 rfl rfl ?_
  refine ev_getI k9_1 (by omega) ((shp_c hc).2) ?_
  show Ev d 9 4 [some (vr c), some (vi x), some (vi y)] [vi (I c 1)] (SX I ch kd) Q
  have rr1 := hI c 1
  refine ev_s1 (L' := [some (vr c), some (vi x), some (vi y)]) (S' := [vi x, vi (I c 1)]) k9_4 rfl rfl ?_
  refine ev_c_ne (t := 20) k9_5 rfl (by omega) (by omega) (by omega) (by omega) (fun h2 => ?_) (fun h2 => ?_)
  · refine ev_s1 (L' := [some (vr c), some (vi x), some (vi y)]) (S' := [vi 0]) k9_20 rfl rfl ?_
    refine ev_zreturn k9_21 (by decide) ?_
    exact hF (by omega)
  · refine ev_s1 (L' := [some (vr c), some (vi x), some (vi y)]) (S' := [vr c]) k9_8 rfl rfl ?_
    refine ev_getI k9_9 (by omega) ((shp_c hc).2) ?_
    show Ev d 9 12 [some (vr c), some (vi x), some (vi y)] [vi (I c 2)] (SX I ch kd) Q
    have rr3 := hI c 2
    refine ev_s1 (L' := [some (vr c), some (vi x), some (vi y)]) (S' := [vi y, vi (I c 2)]) k9_12 rfl rfl ?_
    refine ev_c_ne (t := 20) k9_13 rfl (by omega) (by omega) (by omega) (by omega) (fun h4 => ?_) (fun h4 => ?_)
    · refine ev_s1 (L' := [some (vr c), some (vi x), some (vi y)]) (S' := [vi 0]) k9_20 rfl rfl ?_
      refine ev_zreturn k9_21 (by decide) ?_
      exact hF (by omega)
    · refine ev_s1 (L' := [some (vr c), some (vi x), some (vi y)]) (S' := [vi 1]) k9_16 rfl rfl ?_
      refine ev_goto (t := 21) k9_17 rfl ?_
      refine ev_zreturn k9_21 (by decide) ?_
      exact hT (by omega)
