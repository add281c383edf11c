/-- a line of the class: its cell, its row of so many places -/
def isL2 (k cap : Nat) : Prop := k + 1 < 125 ∧ shX k = (4, 0) ∧ shX (k + 1) = (50, cap) ∧ cap ≤ 100 ∧ ∀ ch kd, rX ch kd k 0 = some (k + 1)

set_option maxHeartbeats 1000000 in
theorem c_clear {d : Nat} {I : Nat → Int → Int} {ch : Int → Nat} {kd : Nat → Nat} {Q : Option jV → jS → Prop} {k cap : Nat} (hl : isL2 k cap) (hQ : Q none (SX (up (up I k 1 0) k 2 0) ch kd)) : Cl d 46 [vr k] (SX I ch kd) Q := by
  have hk := hl.1
  have hcap := hl.2.2.2.1
  refine ⟨by rw [l46]; exact Nat.le_of_ble_eq_true rfl, ?_⟩
  rw [l46]
  show Ev d 46 0 [some (vr k)] [] (SX I ch kd) Q
  refine ev_s1 (L' := [some (vr k)]) (S' := [vr k]) k46_0 rfl rfl ?_
  refine ev_s1 (L' := [some (vr k)]) (S' := [vi 0, vr k]) k46_1 rfl rfl ?_
  refine ev_putI k46_2 (by omega) (hl.2.1) ?_
  show Ev d 46 5 [some (vr k)] [] (SX (up I k 1 0) ch kd) Q
  refine ev_s1 (L' := [some (vr k)]) (S' := [vr k]) k46_5 rfl rfl ?_
  refine ev_s1 (L' := [some (vr k)]) (S' := [vi 0, vr k]) k46_6 rfl rfl ?_
  refine ev_putI k46_7 (by omega) (hl.2.1) ?_
  show Ev d 46 10 [some (vr k)] [] (SX (up (up I k 1 0) k 2 0) ch kd) Q
  refine ev_return k46_10 ?_
  exact hQ

set_option maxHeartbeats 1000000 in
theorem c_rewind {d : Nat} {I : Nat → Int → Int} {ch : Int → Nat} {kd : Nat → Nat} {Q : Option jV → jS → Prop} {k cap : Nat} (hl : isL2 k cap) (hQ : Q none (SX (up I k 2 0) ch kd)) : Cl d 50 [vr k] (SX I ch kd) Q := by
  have hk := hl.1
  have hcap := hl.2.2.2.1
  refine ⟨by rw [l50]; exact Nat.le_of_ble_eq_true rfl, ?_⟩
  rw [l50]
  show Ev d 50 0 [some (vr k)] [] (SX I ch kd) Q
  refine ev_s1 (L' := [some (vr k)]) (S' := [vr k]) k50_0 rfl rfl ?_
  refine ev_s1 (L' := [some (vr k)]) (S' := [vi 0, vr k]) k50_1 rfl rfl ?_
  refine ev_putI k50_2 (by omega) (hl.2.1) ?_
  show Ev d 50 5 [some (vr k)] [] (SX (up I k 2 0) ch kd) Q
  refine ev_return k50_5 ?_
  exact hQ

set_option maxHeartbeats 1000000 in
theorem c_push {d : Nat} {I : Nat → Int → Int} {ch : Int → Nat} {kd : Nat → Nat} {Q : Option jV → jS → Prop} {k cap : Nat} {v : Int} (hl : isL2 k cap) (hI : Rg I) (h0 : 0 ≤ I k 1) (hF : (cap : Int) ≤ I k 1 → Q (some (vi 0)) (SX I ch kd)) (hT : I k 1 < (cap : Int) → Q (some (vi 1)) (SX (up (up I (k + 1) (I k 1) v) k 1 (I k 1 + 1)) ch kd)) : Cl d 47 [vr k, vi v] (SX I ch kd) Q := by
  have hk := hl.1
  have hcap := hl.2.2.2.1
  refine ⟨by rw [l47]; exact Nat.le_of_ble_eq_true rfl, ?_⟩
  rw [l47]
  show Ev d 47 0 [some (vr k), some (vi v)] [] (SX I ch kd) Q
  refine ev_s1 (L' := [some (vr k), some (vi v)]) (S' := [vr k]) k47_0 rfl rfl ?_
  refine ev_getI k47_1 (by omega) (hl.2.1) ?_
  show Ev d 47 4 [some (vr k), some (vi v)] [vi (I k 1)] (SX I ch kd) Q
  have rr1 := hI k 1
  refine ev_s1 (L' := [some (vr k), some (vi v)]) (S' := [vr k, vi (I k 1)]) k47_4 rfl rfl ?_
  refine ev_getR k47_5 (by omega) (hl.2.1) (hl.2.2.2.2 ch kd) ?_
  refine ev_len k47_8 (by omega) (hl.2.2.1) (by decide) (by decide) ?_
  show Ev d 47 9 [some (vr k), some (vi v)] [vi cap, vi (I k 1)] (SX I ch kd) Q
  refine ev_c_lt (t := 14) k47_9 rfl (by omega) (by omega) (by omega) (by omega) (fun h2 => ?_) (fun h2 => ?_)
  · refine ev_s1 (L' := [some (vr k), some (vi v)]) (S' := [vr k]) k47_14 rfl rfl ?_
    refine ev_getR k47_15 (by omega) (hl.2.1) (hl.2.2.2.2 ch kd) ?_
    refine ev_s1 (L' := [some (vr k), some (vi v)]) (S' := [vr k, vr (k + 1)]) k47_18 rfl rfl ?_
    refine ev_getI k47_19 (by omega) (hl.2.1) ?_
    show Ev d 47 22 [some (vr k), some (vi v)] [vi (I k 1), vr (k + 1)] (SX I ch kd) Q
    have rr3 := hI k 1
    refine ev_s1 (L' := [some (vr k), some (vi v)]) (S' := [vi v, vi (I k 1), vr (k + 1)]) k47_22 rfl rfl ?_
    refine ev_iast k47_23 (by omega) (hl.2.2.1) (by omega) (by omega) ?_
    show Ev d 47 24 [some (vr k), some (vi v)] [] (SX (up I (k + 1) (I k 1) v) ch kd) Q
    refine ev_s1 (L' := [some (vr k), some (vi v)]) (S' := [vr k]) k47_24 rfl rfl ?_
    refine ev_s1 (L' := [some (vr k), some (vi v)]) (S' := [vr k, vr k]) k47_25 rfl rfl ?_
    refine ev_getI k47_26 (by omega) (hl.2.1) ?_
    show Ev d 47 29 [some (vr k), some (vi v)] [vi ((up I (k + 1) (I k 1) v) k 1), vr k] (SX (up I (k + 1) (I k 1) v) ch kd) Q
    refine ev_s1 (L' := [some (vr k), some (vi v)]) (S' := [vi 1, vi ((up I (k + 1) (I k 1) v) k 1), vr k]) k47_29 rfl rfl ?_
    refine ev_s1 (L' := [some (vr k), some (vi v)]) (S' := [vi (((up I (k + 1) (I k 1) v) k 1) + 1), vr k]) k47_30 rfl rfl ?_
    refine ev_putI k47_31 (by omega) (hl.2.1) ?_
    show Ev d 47 34 [some (vr k), some (vi v)] [] (SX (up (up I (k + 1) (I k 1) v) k 1 (((up I (k + 1) (I k 1) v) k 1) + 1)) ch kd) Q
    refine ev_s1 (L' := [some (vr k), some (vi v)]) (S' := [vi 1]) k47_34 rfl rfl ?_
    refine ev_zreturn k47_35 (by decide) ?_
    rw [show up I (k + 1) (I k 1) v k 1 = I k 1 from upN (Or.inl (by omega))]
    exact hT (by omega)
  · refine ev_s1 (L' := [some (vr k), some (vi v)]) (S' := [vi 0]) k47_12 rfl rfl ?_
    refine ev_zreturn k47_13 (by decide) ?_
    exact hF (by omega)

set_option maxHeartbeats 1000000 in
theorem c_numberAt {d : Nat} {I : Nat → Int → Int} {ch : Int → Nat} {kd : Nat → Nat} {Q : Option jV → jS → Prop} {k cap : Nat} {i : Int} (hl : isL2 k cap) (hI : Rg I) (hi0 : -2147483648 ≤ i) (hi1 : i < 2147483648) (h1 : I k 1 ≤ (cap : Int)) (hT : 0 ≤ i → i < I k 1 → Q (some (vi (I (k + 1) i))) (SX I ch kd)) (hF : ¬ (0 ≤ i ∧ i < I k 1) → Q (some (vi (-1000000))) (SX I ch kd)) : Cl d 48 [vr k, vi i] (SX I ch kd) Q := by
  have hk := hl.1
  have hcap := hl.2.2.2.1
  refine ⟨by rw [l48]; exact Nat.le_of_ble_eq_true rfl, ?_⟩
  rw [l48]
  show Ev d 48 0 [some (vr k), some (vi i)] [] (SX I ch kd) Q
  refine ev_s1 (L' := [some (vr k), some (vi i)]) (S' := [vi i]) k48_0 rfl rfl ?_
  refine ev_z_lt (t := 21) k48_1 rfl (by omega) (by omega) (fun h1 => ?_) (fun h1 => ?_)
  · refine ev_ldc k48_21 ?_
    refine ev_ireturn k48_23 ?_
    exact hF (by omega)
  · refine ev_s1 (L' := [some (vr k), some (vi i)]) (S' := [vi i]) k48_4 rfl rfl ?_
    refine ev_s1 (L' := [some (vr k), some (vi i)]) (S' := [vr k, vi i]) k48_5 rfl rfl ?_
    refine ev_getI k48_6 (by omega) (hl.2.1) ?_
    show Ev d 48 9 [some (vr k), some (vi i)] [vi (I k 1), vi i] (SX I ch kd) Q
    have rr2 := hI k 1
    refine ev_c_ge (t := 21) k48_9 rfl (by omega) (by omega) (by omega) (by omega) (fun h3 => ?_) (fun h3 => ?_)
    · refine ev_ldc k48_21 ?_
      refine ev_ireturn k48_23 ?_
      exact hF (by omega)
    · refine ev_s1 (L' := [some (vr k), some (vi i)]) (S' := [vr k]) k48_12 rfl rfl ?_
      refine ev_getR k48_13 (by omega) (hl.2.1) (hl.2.2.2.2 ch kd) ?_
      refine ev_s1 (L' := [some (vr k), some (vi i)]) (S' := [vi i, vr (k + 1)]) k48_16 rfl rfl ?_
      refine ev_iald k48_17 (by omega) (hl.2.2.1) (by omega) (by omega) ?_
      have rr4 := hI (k + 1) i
      refine ev_goto (t := 23) k48_18 rfl ?_
      refine ev_ireturn k48_23 ?_
      exact hT (by omega) (by omega)

set_option maxHeartbeats 1000000 in
theorem c_holds {d : Nat} {I : Nat → Int → Int} {ch : Int → Nat} {kd : Nat → Nat} {Q : Option jV → jS → Prop} {k cap : Nat} {i n : Int} (hl : isL2 k cap) (hI : Rg I) (hi0 : -2147483648 ≤ i) (hi1 : i < 2147483648) (hn0 : -2147483648 ≤ n) (hn1 : n < 2147483648) (h1 : I k 1 ≤ (cap : Int)) (hT : 0 ≤ i → 0 ≤ n → i + n ≤ I k 1 → Q (some (vi 1)) (SX I ch kd)) (hF : ¬ (0 ≤ i ∧ 0 ≤ n ∧ i + n ≤ I k 1) → Q (some (vi 0)) (SX I ch kd)) : Cl d 49 [vr k, vi i, vi n] (SX I ch kd) Q := by
  have hk := hl.1
  have hcap := hl.2.2.2.1
  refine ⟨by rw [l49]; exact Nat.le_of_ble_eq_true rfl, ?_⟩
  rw [l49]
  show Ev d 49 0 [some (vr k), some (vi i), some (vi n)] [] (SX I ch kd) Q
  refine ev_s1 (L' := [some (vr k), some (vi i), some (vi n)]) (S' := [vi i]) k49_0 rfl rfl ?_
  refine ev_z_lt (t := 30) k49_1 rfl (by omega) (by omega) (fun h1 => ?_) (fun h1 => ?_)
  · refine ev_s1 (L' := [some (vr k), some (vi i), some (vi n)]) (S' := [vi 0]) k49_30 rfl rfl ?_
    refine ev_zreturn k49_31 (by decide) ?_
    exact hF (by omega)
  · refine ev_s1 (L' := [some (vr k), some (vi i), some (vi n)]) (S' := [vi n]) k49_4 rfl rfl ?_
    refine ev_z_lt (t := 30) k49_5 rfl (by omega) (by omega) (fun h2 => ?_) (fun h2 => ?_)
    · refine ev_s1 (L' := [some (vr k), some (vi i), some (vi n)]) (S' := [vi 0]) k49_30 rfl rfl ?_
      refine ev_zreturn k49_31 (by decide) ?_
      exact hF (by omega)
    · refine ev_s1 (L' := [some (vr k), some (vi i), some (vi n)]) (S' := [vi i]) k49_8 rfl rfl ?_
      refine ev_s1 (L' := [some (vr k), some (vi i), some (vi n)]) (S' := [vr k, vi i]) k49_9 rfl rfl ?_
      refine ev_getI k49_10 (by omega) (hl.2.1) ?_
      show Ev d 49 13 [some (vr k), some (vi i), some (vi n)] [vi (I k 1), vi i] (SX I ch kd) Q
      have rr3 := hI k 1
      refine ev_c_gt (t := 30) k49_13 rfl (by omega) (by omega) (by omega) (by omega) (fun h4 => ?_) (fun h4 => ?_)
      · refine ev_s1 (L' := [some (vr k), some (vi i), some (vi n)]) (S' := [vi 0]) k49_30 rfl rfl ?_
        refine ev_zreturn k49_31 (by decide) ?_
        exact hF (by omega)
      · refine ev_s1 (L' := [some (vr k), some (vi i), some (vi n)]) (S' := [vi n]) k49_16 rfl rfl ?_
        refine ev_s1 (L' := [some (vr k), some (vi i), some (vi n)]) (S' := [vr k, vi n]) k49_17 rfl rfl ?_
        refine ev_getI k49_18 (by omega) (hl.2.1) ?_
        show Ev d 49 21 [some (vr k), some (vi i), some (vi n)] [vi (I k 1), vi n] (SX I ch kd) Q
        have rr5 := hI k 1
        refine ev_s1 (L' := [some (vr k), some (vi i), some (vi n)]) (S' := [vi i, vi (I k 1), vi n]) k49_21 rfl rfl ?_
        refine ev_s1 (L' := [some (vr k), some (vi i), some (vi n)]) (S' := [vi ((I k 1) - i), vi n]) k49_22 rfl rfl ?_
        refine ev_c_gt (t := 30) k49_23 rfl (by omega) (by omega) (by omega) (by omega) (fun h6 => ?_) (fun h6 => ?_)
        · refine ev_s1 (L' := [some (vr k), some (vi i), some (vi n)]) (S' := [vi 0]) k49_30 rfl rfl ?_
          refine ev_zreturn k49_31 (by decide) ?_
          exact hF (by omega)
        · refine ev_s1 (L' := [some (vr k), some (vi i), some (vi n)]) (S' := [vi 1]) k49_26 rfl rfl ?_
          refine ev_goto (t := 31) k49_27 rfl ?_
          refine ev_zreturn k49_31 (by decide) ?_
          exact hT (by omega) (by omega) (by omega)

set_option maxHeartbeats 1000000 in
theorem c_next {d : Nat} {I : Nat → Int → Int} {ch : Int → Nat} {kd : Nat → Nat} {Q : Option jV → jS → Prop} {k cap : Nat} (hl : isL2 k cap) (hI : Rg I) (h0 : 0 ≤ I k 2) (h1 : I k 1 ≤ (cap : Int)) (hF : I k 1 ≤ I k 2 → Q (some (vi (-1000000))) (SX I ch kd)) (hT : I k 2 < I k 1 → Q (some (vi (I (k + 1) (I k 2)))) (SX (up I k 2 (I k 2 + 1)) ch kd)) : Cl d 51 [vr k] (SX I ch kd) Q := by
  have hk := hl.1
  have hcap := hl.2.2.2.1
  refine ⟨by rw [l51]; exact Nat.le_of_ble_eq_true rfl, ?_⟩
  rw [l51]
  show Ev d 51 0 [some (vr k)] [] (SX I ch kd) Q
  refine ev_s1 (L' := [some (vr k)]) (S' := [vr k]) k51_0 rfl rfl ?_
  refine ev_getI k51_1 (by omega) (hl.2.1) ?_
  show Ev d 51 4 [some (vr k)] [vi (I k 2)] (SX I ch kd) Q
  have rr1 := hI k 2
  refine ev_s1 (L' := [some (vr k)]) (S' := [vr k, vi (I k 2)]) k51_4 rfl rfl ?_
  refine ev_getI k51_5 (by omega) (hl.2.1) ?_
  show Ev d 51 8 [some (vr k)] [vi (I k 1), vi (I k 2)] (SX I ch kd) Q
  have rr2 := hI k 1
  refine ev_c_lt (t := 14) k51_8 rfl (by omega) (by omega) (by omega) (by omega) (fun h3 => ?_) (fun h3 => ?_)
  · refine ev_s1 (L' := [some (vr k)]) (S' := [vr k]) k51_14 rfl rfl ?_
    refine ev_s1 (L' := [some (vr k)]) (S' := [vr k, vr k]) k51_15 rfl rfl ?_
    refine ev_getI k51_16 (by omega) (hl.2.1) ?_
    show Ev d 51 19 [some (vr k)] [vi (I k 2), vr k] (SX I ch kd) Q
    have rr4 := hI k 2
    refine ev_s1 (L' := [some (vr k)]) (S' := [vi 1, vi (I k 2), vr k]) k51_19 rfl rfl ?_
    refine ev_s1 (L' := [some (vr k)]) (S' := [vi ((I k 2) + 1), vr k]) k51_20 rfl rfl ?_
    refine ev_putI k51_21 (by omega) (hl.2.1) ?_
    show Ev d 51 24 [some (vr k)] [] (SX (up I k 2 ((I k 2) + 1)) ch kd) Q
    have hI5 := rg_up hI (k := k) (j := 2) (z := (I k 2) + 1) (by omega) (by omega)
    generalize hE5 : up I k 2 ((I k 2) + 1) = I5 at hI5 ⊢
    have e2 : I5 k 2 = I k 2 + 1 := by rw [← hE5]; exact upE rfl rfl
    refine ev_s1 (L' := [some (vr k)]) (S' := [vr k]) k51_24 rfl rfl ?_
    refine ev_getR k51_25 (by omega) (hl.2.1) (hl.2.2.2.2 ch kd) ?_
    refine ev_s1 (L' := [some (vr k)]) (S' := [vr k, vr (k + 1)]) k51_28 rfl rfl ?_
    refine ev_getI k51_29 (by omega) (hl.2.1) ?_
    show Ev d 51 32 [some (vr k)] [vi (I5 k 2), vr (k + 1)] (SX I5 ch kd) Q
    have rr6 := hI5 k 2
    refine ev_s1 (L' := [some (vr k)]) (S' := [vi 1, vi (I5 k 2), vr (k + 1)]) k51_32 rfl rfl ?_
    refine ev_s1 (L' := [some (vr k)]) (S' := [vi ((I5 k 2) - 1), vr (k + 1)]) k51_33 rfl rfl ?_
    refine ev_iald k51_34 (by omega) (hl.2.2.1) (by omega) (by omega) ?_
    have rr7 := hI5 (k + 1) ((I5 k 2) - 1)
    refine ev_ireturn k51_35 ?_
    subst hE5
    rw [upE rfl rfl, upN (I := I) (k := k) (j := 2) (z := I k 2 + 1) (a := k + 1) (b := I k 2 + 1 - 1) (Or.inl (by omega)), show I k 2 + 1 - 1 = I k 2 by omega]
    exact hT (by omega)
  · refine ev_ldc k51_11 ?_
    refine ev_ireturn k51_13 ?_
    exact hF (by omega)
