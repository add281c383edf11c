/-! peace of a room of the class -/
def absI (x : Int) : Int := if 0 ≤ x then x else -x
/-- the peace of a chair and the next one -/
def pbF (I : Nat → Int → Int) (ρ : Nat) (cc : Int → Nat) (i : Int) : Int := if (0 ≤ I (cc i) 5 ∧ I (cc i) 5 < I ρ 7) ∧ (0 ≤ I (cc (i + 1)) 5 ∧ I (cc (i + 1)) 5 < I ρ 7) then 10 - absI (I (ρ + 5) (I (cc i) 5) - I (ρ + 5) (I (cc (i + 1)) 5)) else 0
/-- the strife of three chairs of a set that are taken -/
def trF (I : Nat → Int → Int) (ρ : Nat) (cc : Int → Nat) (i : Int) : Int := if (I (cc (i + 1)) 3 = I (cc i) 3 ∧ I (cc (i + 2)) 3 = I (cc i) 3) ∧ I (cc i) 5 ≠ -1000000 ∧ I (cc (i + 1)) 5 ≠ -1000000 ∧ I (cc (i + 2)) 5 ≠ -1000000 then I ρ 8 else 0
def peF (I : Nat → Int → Int) (ρ : Nat) (cc : Int → Nat) : Int := sumF (pbF I ρ cc) (I ρ 6 - 1).toNat - sumF (trF I ρ cc) (I ρ 6 - 2).toNat
/-- bearings are small -/
def BR (I : Nat → Int → Int) (ρ : Nat) : Prop := ∀ g, 0 ≤ g → g < I ρ 7 → -1000000 ≤ I (ρ + 5) g ∧ I (ρ + 5) g ≤ 1000000

set_option maxHeartbeats 1000000 in
theorem c_peaceBehind {d : Nat} {I : Nat → Int → Int} {ch : Int → Nat} {kd : Nat → Nat} {Q : Option jV → jS → Prop} {ρ : Nat} {cc : Int → Nat} (hρ : isRm ρ cc ch kd) (hI : Rg I) (hd : 1 ≤ d) {i : Int} (hi0 : 0 ≤ i) (hi1 : i < 4) (hN0 : 0 ≤ I ρ 7) (hN : I ρ 7 ≤ 5) (hB : BR I ρ) (hQ : Q (some (vi (pbF I ρ cc i))) (SX I ch kd)) : Cl d 93 [vr ρ, vi i] (SX I ch kd) Q := by
  obtain ⟨s0, s1, s2, s3, s4, s5, q0, q1, q2, q3, q4, q5, hlt⟩ := rm_f hρ
  refine ⟨by rw [l93]; exact Nat.le_of_ble_eq_true rfl, ?_⟩
  rw [l93]
  show Ev d 93 0 [some (vr ρ), some (vi i), none, none] [] (SX I ch kd) Q
  refine ev_s1 (L' := [some (vr ρ), some (vi i), none, none]) (S' := [vr ρ]) k93_0 rfl rfl ?_
  refine ev_getR k93_1 (by omega) (s0) (q1) ?_
  refine ev_s1 (L' := [some (vr ρ), some (vi i), none, none]) (S' := [vi i, vr (ρ + 1)]) k93_4 rfl rfl ?_
  have hc1 := hρ.2.1 i (by omega) (by omega)
  have hl1 := (shp_c hc1.2).1
  refine ev_aald (q := cc i) k93_5 (by omega) (s1) (by decide) (by decide) (by omega) (by omega) (hc1.1) ?_
  refine ev_getI k93_6 (by omega) ((shp_c hc1.2).2) ?_
  show Ev d 93 9 [some (vr ρ), some (vi i), none, none] [vi (I (cc i) 5)] (SX I ch kd) Q
  have rr2 := hI (cc i) 5
  refine ev_s1 (L' := [some (vr ρ), some (vi i), some (vi (I (cc i) 5)), none]) (S' := []) k93_9 rfl rfl ?_
  refine ev_s1 (L' := [some (vr ρ), some (vi i), some (vi (I (cc i) 5)), none]) (S' := [vr ρ]) k93_10 rfl rfl ?_
  refine ev_getR k93_11 (by omega) (s0) (q1) ?_
  refine ev_s1 (L' := [some (vr ρ), some (vi i), some (vi (I (cc i) 5)), none]) (S' := [vi i, vr (ρ + 1)]) k93_14 rfl rfl ?_
  refine ev_s1 (L' := [some (vr ρ), some (vi i), some (vi (I (cc i) 5)), none]) (S' := [vi 1, vi i, vr (ρ + 1)]) k93_15 rfl rfl ?_
  refine ev_s1 (L' := [some (vr ρ), some (vi i), some (vi (I (cc i) 5)), none]) (S' := [vi (i + 1), vr (ρ + 1)]) k93_16 rfl rfl ?_
  have hc3 := hρ.2.1 (i + 1) (by omega) (by omega)
  have hl3 := (shp_c hc3.2).1
  refine ev_aald (q := cc (i + 1)) k93_17 (by omega) (s1) (by decide) (by decide) (by omega) (by omega) (hc3.1) ?_
  refine ev_getI k93_18 (by omega) ((shp_c hc3.2).2) ?_
  show Ev d 93 21 [some (vr ρ), some (vi i), some (vi (I (cc i) 5)), none] [vi (I (cc (i + 1)) 5)] (SX I ch kd) Q
  have rr4 := hI (cc (i + 1)) 5
  refine ev_s1 (L' := [some (vr ρ), some (vi i), some (vi (I (cc i) 5)), some (vi (I (cc (i + 1)) 5))]) (S' := []) k93_21 rfl rfl ?_
  refine ev_s1 (L' := [some (vr ρ), some (vi i), some (vi (I (cc i) 5)), some (vi (I (cc (i + 1)) 5))]) (S' := [vr ρ]) k93_22 rfl rfl ?_
  refine ev_s1 (L' := [some (vr ρ), some (vi i), some (vi (I (cc i) 5)), some (vi (I (cc (i + 1)) 5))]) (S' := [vi (I (cc i) 5), vr ρ]) k93_23 rfl rfl ?_
  refine ev_virt (a := [vi (I (cc i) 5)]) (S' := []) k93_24 rfl (Nat.le_of_ble_eq_true rfl) (by omega) (s0) (by omega) ?_
  refine c_hasGuest hρ hI (i := I (cc i) 5) (by omega) (by omega) (fun hh => ?_) (fun hh => ?_)
  · show Ev d 93 27 [some (vr ρ), some (vi i), some (vi (I (cc i) 5)), some (vi (I (cc (i + 1)) 5))] [vi 1] (SX I ch kd) Q
    refine ev_z_eq (t := 38) k93_27 rfl (by omega) (by omega) (fun h => absurd h (by decide)) (fun _ => ?_)
    refine ev_s1 (L' := [some (vr ρ), some (vi i), some (vi (I (cc i) 5)), some (vi (I (cc (i + 1)) 5))]) (S' := [vr ρ]) k93_30 rfl rfl ?_
    refine ev_s1 (L' := [some (vr ρ), some (vi i), some (vi (I (cc i) 5)), some (vi (I (cc (i + 1)) 5))]) (S' := [vi (I (cc (i + 1)) 5), vr ρ]) k93_31 rfl rfl ?_
    refine ev_virt (a := [vi (I (cc (i + 1)) 5)]) (S' := []) k93_32 rfl (Nat.le_of_ble_eq_true rfl) (by omega) (s0) (by omega) ?_
    refine c_hasGuest hρ hI (i := I (cc (i + 1)) 5) (by omega) (by omega) (fun hh => ?_) (fun hh => ?_)
    · show Ev d 93 35 [some (vr ρ), some (vi i), some (vi (I (cc i) 5)), some (vi (I (cc (i + 1)) 5))] [vi 1] (SX I ch kd) Q
      refine ev_z_ne (t := 40) k93_35 rfl (by omega) (by omega) (fun _ => ?_) (fun h => absurd h (by decide))
      refine ev_s1 (L' := [some (vr ρ), some (vi i), some (vi (I (cc i) 5)), some (vi (I (cc (i + 1)) 5))]) (S' := [vi 10]) k93_40 rfl rfl ?_
      refine ev_s1 (L' := [some (vr ρ), some (vi i), some (vi (I (cc i) 5)), some (vi (I (cc (i + 1)) 5))]) (S' := [vr ρ, vi 10]) k93_42 rfl rfl ?_
      refine ev_getR k93_43 (by omega) (s0) (q5) ?_
      refine ev_s1 (L' := [some (vr ρ), some (vi i), some (vi (I (cc i) 5)), some (vi (I (cc (i + 1)) 5))]) (S' := [vi (I (cc i) 5), vr (ρ + 5), vi 10]) k93_46 rfl rfl ?_
      refine ev_iald k93_47 (by omega) (s5) (by omega) (by omega) ?_
      have rr5 := hI (ρ + 5) (I (cc i) 5)
      refine ev_s1 (L' := [some (vr ρ), some (vi i), some (vi (I (cc i) 5)), some (vi (I (cc (i + 1)) 5))]) (S' := [vr ρ, vi (I (ρ + 5) (I (cc i) 5)), vi 10]) k93_48 rfl rfl ?_
      refine ev_getR k93_49 (by omega) (s0) (q5) ?_
      refine ev_s1 (L' := [some (vr ρ), some (vi i), some (vi (I (cc i) 5)), some (vi (I (cc (i + 1)) 5))]) (S' := [vi (I (cc (i + 1)) 5), vr (ρ + 5), vi (I (ρ + 5) (I (cc i) 5)), vi 10]) k93_52 rfl rfl ?_
      refine ev_iald k93_53 (by omega) (s5) (by omega) (by omega) ?_
      have rr6 := hI (ρ + 5) (I (cc (i + 1)) 5)
      refine ev_s1 (L' := [some (vr ρ), some (vi i), some (vi (I (cc i) 5)), some (vi (I (cc (i + 1)) 5))]) (S' := [vi ((I (ρ + 5) (I (cc i) 5)) - (I (ρ + 5) (I (cc (i + 1)) 5))), vi 10]) k93_54 rfl rfl ?_
      have b1 := hB (I (cc i) 5) (by omega) (by omega)
      have b2 := hB (I (cc (i + 1)) 5) (by omega) (by omega)
      refine ev_abs k93_55 (by omega) (by omega) (Nat.le_of_ble_eq_true rfl) ?_
      refine ev_s1 (L' := [some (vr ρ), some (vi i), some (vi (I (cc i) 5)), some (vi (I (cc (i + 1)) 5))]) (S' := [vi (10 - (if 0 ≤ ((I (ρ + 5) (I (cc i) 5)) - (I (ρ + 5) (I (cc (i + 1)) 5))) then (I (ρ + 5) (I (cc i) 5)) - (I (ρ + 5) (I (cc (i + 1)) 5)) else -((I (ρ + 5) (I (cc i) 5)) - (I (ρ + 5) (I (cc (i + 1)) 5)))))]) k93_58 rfl rfl ?_
      refine ev_ireturn k93_59 ?_
      unfold pbF at hQ
      rw [if_pos (by omega)] at hQ
      exact hQ
    · show Ev d 93 35 [some (vr ρ), some (vi i), some (vi (I (cc i) 5)), some (vi (I (cc (i + 1)) 5))] [vi 0] (SX I ch kd) Q
      refine ev_z_ne (t := 40) k93_35 rfl (by omega) (by omega) (fun h => absurd h (by decide)) (fun _ => ?_)
      refine ev_s1 (L' := [some (vr ρ), some (vi i), some (vi (I (cc i) 5)), some (vi (I (cc (i + 1)) 5))]) (S' := [vi 0]) k93_38 rfl rfl ?_
      refine ev_ireturn k93_39 ?_
      unfold pbF at hQ
      rw [if_neg (by omega)] at hQ
      exact hQ
  · show Ev d 93 27 [some (vr ρ), some (vi i), some (vi (I (cc i) 5)), some (vi (I (cc (i + 1)) 5))] [vi 0] (SX I ch kd) Q
    refine ev_z_eq (t := 38) k93_27 rfl (by omega) (by omega) (fun _ => ?_) (fun h => absurd h (by decide))
    refine ev_s1 (L' := [some (vr ρ), some (vi i), some (vi (I (cc i) 5)), some (vi (I (cc (i + 1)) 5))]) (S' := [vi 0]) k93_38 rfl rfl ?_
    refine ev_ireturn k93_39 ?_
    unfold pbF at hQ
    rw [if_neg (by omega)] at hQ
    exact hQ

set_option maxHeartbeats 1000000 in
theorem l_peace2 {d : Nat} {I : Nat → Int → Int} {ch : Int → Nat} {kd : Nat → Nat} {Q : Option jV → jS → Prop} {ρ : Nat} {cc : Int → Nat} (hρ : isRm ρ cc ch kd) (hI : Rg I) (hd : 2 ≤ d) (hN0 : 0 ≤ I ρ 6) (hN : I ρ 6 ≤ 5) (hM0 : 0 ≤ I ρ 7) (hM : I ρ 7 ≤ 5) (hB : BR I ρ) (hQ : Q (some (vi (peF I ρ cc))) (SX I ch kd)) : ∀ (n : Nat) (i : Nat) (t : Int), I ρ 6 - i < n → ((i : Int) ≤ I ρ 6 - 2 ∨ i = 0) → t = sumF (pbF I ρ cc) (I ρ 6 - 1).toNat - sumF (trF I ρ cc) i → Ev d 92 30 [some (vr ρ), some (vi t), some (vi (i : Int))] [] (SX I ch kd) Q := by
  obtain ⟨s0, s1, s2, s3, s4, s5, q0, q1, q2, q3, q4, q5, hlt⟩ := rm_f hρ
  intro n
  induction n with
  | zero => intro i t hn hi ht; exfalso; omega
  | succ n ih =>
    intro i t hn hi ht
    refine ev_s1 (L' := [some (vr ρ), some (vi t), some (vi (i : Int))]) (S' := [vi (i : Int)]) k92_30 rfl rfl ?_
    refine ev_s1 (L' := [some (vr ρ), some (vi t), some (vi (i : Int))]) (S' := [vi 2, vi (i : Int)]) k92_31 rfl rfl ?_
    refine ev_s1 (L' := [some (vr ρ), some (vi t), some (vi (i : Int))]) (S' := [vi ((i : Int) + 2)]) k92_32 rfl rfl ?_
    refine ev_s1 (L' := [some (vr ρ), some (vi t), some (vi (i : Int))]) (S' := [vr ρ, vi ((i : Int) + 2)]) k92_33 rfl rfl ?_
    refine ev_getI k92_34 (by omega) (s0) ?_
    show Ev d 92 37 [some (vr ρ), some (vi t), some (vi (i : Int))] [vi (I ρ 6), vi ((i : Int) + 2)] (SX I ch kd) Q
    have rr1 := hI ρ 6
    refine ev_c_ge (t := 89) k92_37 rfl (by omega) (by omega) (by omega) (by omega) (fun h2 => ?_) (fun h2 => ?_)
    · refine ev_s1 (L' := [some (vr ρ), some (vi t), some (vi (i : Int))]) (S' := [vi t]) k92_89 rfl rfl ?_
      refine ev_ireturn k92_90 ?_
      unfold peF at hQ
      rw [show (I ρ 6 - 2).toNat = i by omega, ← ht] at hQ
      exact hQ
    · refine ev_s1 (L' := [some (vr ρ), some (vi t), some (vi (i : Int))]) (S' := [vr ρ]) k92_40 rfl rfl ?_
      refine ev_s1 (L' := [some (vr ρ), some (vi t), some (vi (i : Int))]) (S' := [vi (i : Int), vr ρ]) k92_41 rfl rfl ?_
      refine ev_virt (a := [vi (i : Int)]) (S' := []) k92_42 rfl (Nat.le_of_ble_eq_true rfl) (by omega) (s0) (by omega) ?_
      refine c_isTrio hρ hI (i := (i : Int)) (by omega) (by omega) (fun hh => ?_) (fun hh => ?_)
      · show Ev d 92 45 [some (vr ρ), some (vi t), some (vi (i : Int))] [vi 1] (SX I ch kd) Q
        refine ev_z_eq (t := 83) k92_45 rfl (by omega) (by omega) (fun h => absurd h (by decide)) (fun _ => ?_)
        refine ev_s1 (L' := [some (vr ρ), some (vi t), some (vi (i : Int))]) (S' := [vr ρ]) k92_48 rfl rfl ?_
        refine ev_s1 (L' := [some (vr ρ), some (vi t), some (vi (i : Int))]) (S' := [vi (i : Int), vr ρ]) k92_49 rfl rfl ?_
        refine ev_virt (a := [vi (i : Int)]) (S' := []) k92_50 rfl (Nat.le_of_ble_eq_true rfl) (by omega) (s0) (by omega) ?_
        refine c_isTaken hρ hI (i := (i : Int)) (by omega) (by omega) (fun hh => ?_) (fun hh => ?_)
        · show Ev d 92 53 [some (vr ρ), some (vi t), some (vi (i : Int))] [vi 1] (SX I ch kd) Q
          refine ev_z_eq (t := 83) k92_53 rfl (by omega) (by omega) (fun h => absurd h (by decide)) (fun _ => ?_)
          refine ev_s1 (L' := [some (vr ρ), some (vi t), some (vi (i : Int))]) (S' := [vr ρ]) k92_56 rfl rfl ?_
          refine ev_s1 (L' := [some (vr ρ), some (vi t), some (vi (i : Int))]) (S' := [vi (i : Int), vr ρ]) k92_57 rfl rfl ?_
          refine ev_s1 (L' := [some (vr ρ), some (vi t), some (vi (i : Int))]) (S' := [vi 1, vi (i : Int), vr ρ]) k92_58 rfl rfl ?_
          refine ev_s1 (L' := [some (vr ρ), some (vi t), some (vi (i : Int))]) (S' := [vi ((i : Int) + 1), vr ρ]) k92_59 rfl rfl ?_
          refine ev_virt (a := [vi ((i : Int) + 1)]) (S' := []) k92_60 rfl (Nat.le_of_ble_eq_true rfl) (by omega) (s0) (by omega) ?_
          refine c_isTaken hρ hI (i := (i : Int) + 1) (by omega) (by omega) (fun hh => ?_) (fun hh => ?_)
          · show Ev d 92 63 [some (vr ρ), some (vi t), some (vi (i : Int))] [vi 1] (SX I ch kd) Q
            refine ev_z_eq (t := 83) k92_63 rfl (by omega) (by omega) (fun h => absurd h (by decide)) (fun _ => ?_)
            refine ev_s1 (L' := [some (vr ρ), some (vi t), some (vi (i : Int))]) (S' := [vr ρ]) k92_66 rfl rfl ?_
            refine ev_s1 (L' := [some (vr ρ), some (vi t), some (vi (i : Int))]) (S' := [vi (i : Int), vr ρ]) k92_67 rfl rfl ?_
            refine ev_s1 (L' := [some (vr ρ), some (vi t), some (vi (i : Int))]) (S' := [vi 2, vi (i : Int), vr ρ]) k92_68 rfl rfl ?_
            refine ev_s1 (L' := [some (vr ρ), some (vi t), some (vi (i : Int))]) (S' := [vi ((i : Int) + 2), vr ρ]) k92_69 rfl rfl ?_
            refine ev_virt (a := [vi ((i : Int) + 2)]) (S' := []) k92_70 rfl (Nat.le_of_ble_eq_true rfl) (by omega) (s0) (by omega) ?_
            refine c_isTaken hρ hI (i := (i : Int) + 2) (by omega) (by omega) (fun hh => ?_) (fun hh => ?_)
            · show Ev d 92 73 [some (vr ρ), some (vi t), some (vi (i : Int))] [vi 1] (SX I ch kd) Q
              refine ev_z_eq (t := 83) k92_73 rfl (by omega) (by omega) (fun h => absurd h (by decide)) (fun _ => ?_)
              refine ev_s1 (L' := [some (vr ρ), some (vi t), some (vi (i : Int))]) (S' := [vi t]) k92_76 rfl rfl ?_
              refine ev_s1 (L' := [some (vr ρ), some (vi t), some (vi (i : Int))]) (S' := [vr ρ, vi t]) k92_77 rfl rfl ?_
              refine ev_getI k92_78 (by omega) (s0) ?_
              show Ev d 92 81 [some (vr ρ), some (vi t), some (vi (i : Int))] [vi (I ρ 8), vi t] (SX I ch kd) Q
              have rr3 := hI ρ 8
              refine ev_s1 (L' := [some (vr ρ), some (vi t), some (vi (i : Int))]) (S' := [vi (t - (I ρ 8))]) k92_81 rfl rfl ?_
              refine ev_s1 (L' := [some (vr ρ), some (vi (t - (I ρ 8))), some (vi (i : Int))]) (S' := []) k92_82 rfl rfl ?_
              refine ev_s1 (L' := [some (vr ρ), some (vi (t - (I ρ 8))), some (vi ((i : Int) + 1))]) (S' := []) k92_83 rfl rfl ?_
              refine ev_goto (t := 30) k92_86 rfl ?_
              exact ih (i + 1) _ (by omega) (by omega) (by rw [ht, sumF]; unfold trF; rw [if_pos (by omega)]; omega)
            · show Ev d 92 73 [some (vr ρ), some (vi t), some (vi (i : Int))] [vi 0] (SX I ch kd) Q
              refine ev_z_eq (t := 83) k92_73 rfl (by omega) (by omega) (fun _ => ?_) (fun h => absurd h (by decide))
              refine ev_s1 (L' := [some (vr ρ), some (vi t), some (vi ((i : Int) + 1))]) (S' := []) k92_83 rfl rfl ?_
              refine ev_goto (t := 30) k92_86 rfl ?_
              exact ih (i + 1) _ (by omega) (by omega) (by rw [ht, sumF]; unfold trF; rw [if_neg (by omega)]; omega)
          · show Ev d 92 63 [some (vr ρ), some (vi t), some (vi (i : Int))] [vi 0] (SX I ch kd) Q
            refine ev_z_eq (t := 83) k92_63 rfl (by omega) (by omega) (fun _ => ?_) (fun h => absurd h (by decide))
            refine ev_s1 (L' := [some (vr ρ), some (vi t), some (vi ((i : Int) + 1))]) (S' := []) k92_83 rfl rfl ?_
            refine ev_goto (t := 30) k92_86 rfl ?_
            exact ih (i + 1) _ (by omega) (by omega) (by rw [ht, sumF]; unfold trF; rw [if_neg (by omega)]; omega)
        · show Ev d 92 53 [some (vr ρ), some (vi t), some (vi (i : Int))] [vi 0] (SX I ch kd) Q
          refine ev_z_eq (t := 83) k92_53 rfl (by omega) (by omega) (fun _ => ?_) (fun h => absurd h (by decide))
          refine ev_s1 (L' := [some (vr ρ), some (vi t), some (vi ((i : Int) + 1))]) (S' := []) k92_83 rfl rfl ?_
          refine ev_goto (t := 30) k92_86 rfl ?_
          exact ih (i + 1) _ (by omega) (by omega) (by rw [ht, sumF]; unfold trF; rw [if_neg (by omega)]; omega)
      · show Ev d 92 45 [some (vr ρ), some (vi t), some (vi (i : Int))] [vi 0] (SX I ch kd) Q
        refine ev_z_eq (t := 83) k92_45 rfl (by omega) (by omega) (fun _ => ?_) (fun h => absurd h (by decide))
        refine ev_s1 (L' := [some (vr ρ), some (vi t), some (vi ((i : Int) + 1))]) (S' := []) k92_83 rfl rfl ?_
        refine ev_goto (t := 30) k92_86 rfl ?_
        exact ih (i + 1) _ (by omega) (by omega) (by rw [ht, sumF]; unfold trF; rw [if_neg (by omega)]; omega)

set_option maxHeartbeats 1000000 in
theorem l_peace1 {d : Nat} {I : Nat → Int → Int} {ch : Int → Nat} {kd : Nat → Nat} {Q : Option jV → jS → Prop} {ρ : Nat} {cc : Int → Nat} (hρ : isRm ρ cc ch kd) (hI : Rg I) (hd : 2 ≤ d) (hN0 : 0 ≤ I ρ 6) (hN : I ρ 6 ≤ 5) (hM0 : 0 ≤ I ρ 7) (hM : I ρ 7 ≤ 5) (hB : BR I ρ) (hQ : Q (some (vi (peF I ρ cc))) (SX I ch kd)) : ∀ (n : Nat) (i : Nat) (t : Int), I ρ 6 - i < n → ((i : Int) ≤ I ρ 6 - 1 ∨ i = 0) → t = sumF (pbF I ρ cc) i → Ev d 92 4 [some (vr ρ), some (vi t), some (vi (i : Int))] [] (SX I ch kd) Q := by
  obtain ⟨s0, s1, s2, s3, s4, s5, q0, q1, q2, q3, q4, q5, hlt⟩ := rm_f hρ
  intro n
  induction n with
  | zero => intro i t hn hi ht; exfalso; omega
  | succ n ih =>
    intro i t hn hi ht
    refine ev_s1 (L' := [some (vr ρ), some (vi t), some (vi (i : Int))]) (S' := [vi (i : Int)]) k92_4 rfl rfl ?_
    refine ev_s1 (L' := [some (vr ρ), some (vi t), some (vi (i : Int))]) (S' := [vi 1, vi (i : Int)]) k92_5 rfl rfl ?_
    refine ev_s1 (L' := [some (vr ρ), some (vi t), some (vi (i : Int))]) (S' := [vi ((i : Int) + 1)]) k92_6 rfl rfl ?_
    refine ev_s1 (L' := [some (vr ρ), some (vi t), some (vi (i : Int))]) (S' := [vr ρ, vi ((i : Int) + 1)]) k92_7 rfl rfl ?_
    refine ev_getI k92_8 (by omega) (s0) ?_
    show Ev d 92 11 [some (vr ρ), some (vi t), some (vi (i : Int))] [vi (I ρ 6), vi ((i : Int) + 1)] (SX I ch kd) Q
    have rr1 := hI ρ 6
    refine ev_c_ge (t := 28) k92_11 rfl (by omega) (by omega) (by omega) (by omega) (fun h2 => ?_) (fun h2 => ?_)
    · refine ev_s1 (L' := [some (vr ρ), some (vi t), some (vi (i : Int))]) (S' := [vi 0]) k92_28 rfl rfl ?_
      refine ev_s1 (L' := [some (vr ρ), some (vi t), some (vi 0)]) (S' := []) k92_29 rfl rfl ?_
      exact l_peace2 hρ hI hd hN0 hN hM0 hM hB hQ 6 0 t (by omega) (Or.inr rfl) (by rw [ht, show (I ρ 6 - 1).toNat = i by omega]; simp [sumF])
    · refine ev_s1 (L' := [some (vr ρ), some (vi t), some (vi (i : Int))]) (S' := [vi t]) k92_14 rfl rfl ?_
      refine ev_s1 (L' := [some (vr ρ), some (vi t), some (vi (i : Int))]) (S' := [vr ρ, vi t]) k92_15 rfl rfl ?_
      refine ev_s1 (L' := [some (vr ρ), some (vi t), some (vi (i : Int))]) (S' := [vi (i : Int), vr ρ, vi t]) k92_16 rfl rfl ?_
      refine ev_virt (a := [vi (i : Int)]) (S' := [vi t]) k92_17 rfl (Nat.le_of_ble_eq_true rfl) (by omega) (s0) (by omega) ?_
      refine c_peaceBehind hρ hI (by omega) (i := (i : Int)) (by omega) (by omega) hM0 hM hB (?_)
      show Ev d 92 20 [some (vr ρ), some (vi t), some (vi (i : Int))] [vi (pbF I ρ cc (i : Int)), vi t] (SX I ch kd) Q
      refine ev_s1 (L' := [some (vr ρ), some (vi t), some (vi (i : Int))]) (S' := [vi (t + (pbF I ρ cc (i : Int)))]) k92_20 rfl rfl ?_
      refine ev_s1 (L' := [some (vr ρ), some (vi (t + (pbF I ρ cc (i : Int)))), some (vi (i : Int))]) (S' := []) k92_21 rfl rfl ?_
      refine ev_s1 (L' := [some (vr ρ), some (vi (t + (pbF I ρ cc (i : Int)))), some (vi ((i : Int) + 1))]) (S' := []) k92_22 rfl rfl ?_
      refine ev_goto (t := 4) k92_25 rfl ?_
      exact ih (i + 1) _ (by omega) (by omega) (by rw [ht]; rfl)

set_option maxHeartbeats 1000000 in
theorem c_peaceNow {d : Nat} {I : Nat → Int → Int} {ch : Int → Nat} {kd : Nat → Nat} {Q : Option jV → jS → Prop} {ρ : Nat} {cc : Int → Nat} (hρ : isRm ρ cc ch kd) (hI : Rg I) (hd : 2 ≤ d) (hN0 : 0 ≤ I ρ 6) (hN : I ρ 6 ≤ 5) (hM0 : 0 ≤ I ρ 7) (hM : I ρ 7 ≤ 5) (hB : BR I ρ) (hQ : Q (some (vi (peF I ρ cc))) (SX I ch kd)) : Cl d 92 [vr ρ] (SX I ch kd) Q := by
  obtain ⟨s0, s1, s2, s3, s4, s5, q0, q1, q2, q3, q4, q5, hlt⟩ := rm_f hρ
  refine ⟨by rw [l92]; exact Nat.le_of_ble_eq_true rfl, ?_⟩
  rw [l92]
  show Ev d 92 0 [some (vr ρ), none, none] [] (SX I ch kd) Q
  refine ev_s1 (L' := [some (vr ρ), none, none]) (S' := [vi 0]) k92_0 rfl rfl ?_
  refine ev_s1 (L' := [some (vr ρ), some (vi 0), none]) (S' := []) k92_1 rfl rfl ?_
  refine ev_s1 (L' := [some (vr ρ), some (vi 0), none]) (S' := [vi 0]) k92_2 rfl rfl ?_
  refine ev_s1 (L' := [some (vr ρ), some (vi 0), some (vi 0)]) (S' := []) k92_3 rfl rfl ?_
  exact l_peace1 hρ hI hd hN0 hN hM0 hM hB hQ 6 0 0 (by omega) (Or.inr rfl) rfl

set_option maxHeartbeats 1000000 in
theorem c_liftGuest {d : Nat} {I : Nat → Int → Int} {ch : Int → Nat} {kd : Nat → Nat} {Q : Option jV → jS → Prop} {ρ : Nat} {cc : Int → Nat} (hρ : isRm ρ cc ch kd) (hI : Rg I) {g : Int} (g0 : 0 ≤ g) (g1 : g < 5) (hN0 : 0 ≤ I ρ 6) (hN : I ρ 6 ≤ 5) (hd : 1 ≤ d) (hT : (0 ≤ I (ρ + 4) g ∧ I (ρ + 4) g < I ρ 6) → Q none (SX (up (up (up I (cc (I (ρ + 4) g)) 5 (-1000000)) (ρ + 4) g (-1000000)) (ρ + 5) g (-1000000)) ch kd)) (hF : ¬ (0 ≤ I (ρ + 4) g ∧ I (ρ + 4) g < I ρ 6) → Q none (SX (up (up I (ρ + 4) g (-1000000)) (ρ + 5) g (-1000000)) ch kd)) : Cl d 90 [vr ρ, vi g] (SX I ch kd) Q := by
  obtain ⟨s0, s1, s2, s3, s4, s5, q0, q1, q2, q3, q4, q5, hlt⟩ := rm_f hρ
  refine ⟨by rw [l90]; exact Nat.le_of_ble_eq_true rfl, ?_⟩
  rw [l90]
  show Ev d 90 0 [some (vr ρ), some (vi g)] [] (SX I ch kd) Q
  refine ev_s1 (L' := [some (vr ρ), some (vi g)]) (S' := [vr ρ]) k90_0 rfl rfl ?_
  refine ev_s1 (L' := [some (vr ρ), some (vi g)]) (S' := [vr ρ, vr ρ]) k90_1 rfl rfl ?_
  refine ev_getR k90_2 (by omega) (s0) (q4) ?_
  refine ev_s1 (L' := [some (vr ρ), some (vi g)]) (S' := [vi g, vr (ρ + 4), vr ρ]) k90_5 rfl rfl ?_
  refine ev_iald k90_6 (by omega) (s4) (by omega) (by omega) ?_
  have rr1 := hI (ρ + 4) g
  refine ev_virt (a := [vi (I (ρ + 4) g)]) (S' := []) k90_7 rfl (Nat.le_of_ble_eq_true rfl) (by omega) (s0) (by omega) ?_
  refine c_hasChair hρ hI (i := I (ρ + 4) g) (by omega) (by omega) (fun hh => ?_) (fun hh => ?_)
  · show Ev d 90 10 [some (vr ρ), some (vi g)] [vi 1] (SX I ch kd) Q
    refine ev_z_eq (t := 29) k90_10 rfl (by omega) (by omega) (fun h => absurd h (by decide)) (fun _ => ?_)
    refine ev_s1 (L' := [some (vr ρ), some (vi g)]) (S' := [vr ρ]) k90_13 rfl rfl ?_
    refine ev_getR k90_14 (by omega) (s0) (q1) ?_
    refine ev_s1 (L' := [some (vr ρ), some (vi g)]) (S' := [vr ρ, vr (ρ + 1)]) k90_17 rfl rfl ?_
    refine ev_getR k90_18 (by omega) (s0) (q4) ?_
    refine ev_s1 (L' := [some (vr ρ), some (vi g)]) (S' := [vi g, vr (ρ + 4), vr (ρ + 1)]) k90_21 rfl rfl ?_
    refine ev_iald k90_22 (by omega) (s4) (by omega) (by omega) ?_
    have rr2 := hI (ρ + 4) g
    have hc3 := hρ.2.1 (I (ρ + 4) g) (by omega) (by omega)
    have hl3 := (shp_c hc3.2).1
    refine ev_aald (q := cc (I (ρ + 4) g)) k90_23 (by omega) (s1) (by decide) (by decide) (by omega) (by omega) (hc3.1) ?_
    refine ev_ldc k90_24 ?_
    refine ev_putI k90_26 (by omega) ((shp_c hc3.2).2) ?_
    show Ev d 90 29 [some (vr ρ), some (vi g)] [] (SX (up I (cc (I (ρ + 4) g)) 5 (-1000000)) ch kd) Q
    have hI4 := rg_up hI (k := cc (I (ρ + 4) g)) (j := 5) (z := (-1000000)) (by omega) (by omega)
    generalize hE4 : up I (cc (I (ρ + 4) g)) 5 (-1000000) = I4 at hI4 ⊢
    refine ev_s1 (L' := [some (vr ρ), some (vi g)]) (S' := [vr ρ]) k90_29 rfl rfl ?_
    refine ev_getR k90_30 (by omega) (s0) (q4) ?_
    refine ev_s1 (L' := [some (vr ρ), some (vi g)]) (S' := [vi g, vr (ρ + 4)]) k90_33 rfl rfl ?_
    refine ev_ldc k90_34 ?_
    refine ev_iast k90_36 (by omega) (s4) (by omega) (by omega) ?_
    show Ev d 90 37 [some (vr ρ), some (vi g)] [] (SX (up I4 (ρ + 4) g (-1000000)) ch kd) Q
    have hI5 := rg_up hI4 (k := ρ + 4) (j := g) (z := (-1000000)) (by omega) (by omega)
    generalize hE5 : up I4 (ρ + 4) g (-1000000) = I5 at hI5 ⊢
    refine ev_s1 (L' := [some (vr ρ), some (vi g)]) (S' := [vr ρ]) k90_37 rfl rfl ?_
    refine ev_getR k90_38 (by omega) (s0) (q5) ?_
    refine ev_s1 (L' := [some (vr ρ), some (vi g)]) (S' := [vi g, vr (ρ + 5)]) k90_41 rfl rfl ?_
    refine ev_ldc k90_42 ?_
    refine ev_iast k90_44 (by omega) (s5) (by omega) (by omega) ?_
    show Ev d 90 45 [some (vr ρ), some (vi g)] [] (SX (up I5 (ρ + 5) g (-1000000)) ch kd) Q
    have hI6 := rg_up hI5 (k := ρ + 5) (j := g) (z := (-1000000)) (by omega) (by omega)
    generalize hE6 : up I5 (ρ + 5) g (-1000000) = I6 at hI6 ⊢
    refine ev_return k90_45 ?_
    subst hE6
    subst hE5
    subst hE4
    exact hT ⟨by omega, by omega⟩
  · show Ev d 90 10 [some (vr ρ), some (vi g)] [vi 0] (SX I ch kd) Q
    refine ev_z_eq (t := 29) k90_10 rfl (by omega) (by omega) (fun _ => ?_) (fun h => absurd h (by decide))
    refine ev_s1 (L' := [some (vr ρ), some (vi g)]) (S' := [vr ρ]) k90_29 rfl rfl ?_
    refine ev_getR k90_30 (by omega) (s0) (q4) ?_
    refine ev_s1 (L' := [some (vr ρ), some (vi g)]) (S' := [vi g, vr (ρ + 4)]) k90_33 rfl rfl ?_
    refine ev_ldc k90_34 ?_
    refine ev_iast k90_36 (by omega) (s4) (by omega) (by omega) ?_
    show Ev d 90 37 [some (vr ρ), some (vi g)] [] (SX (up I (ρ + 4) g (-1000000)) ch kd) Q
    have hI7 := rg_up hI (k := ρ + 4) (j := g) (z := (-1000000)) (by omega) (by omega)
    generalize hE7 : up I (ρ + 4) g (-1000000) = I7 at hI7 ⊢
    refine ev_s1 (L' := [some (vr ρ), some (vi g)]) (S' := [vr ρ]) k90_37 rfl rfl ?_
    refine ev_getR k90_38 (by omega) (s0) (q5) ?_
    refine ev_s1 (L' := [some (vr ρ), some (vi g)]) (S' := [vi g, vr (ρ + 5)]) k90_41 rfl rfl ?_
    refine ev_ldc k90_42 ?_
    refine ev_iast k90_44 (by omega) (s5) (by omega) (by omega) ?_
    show Ev d 90 45 [some (vr ρ), some (vi g)] [] (SX (up I7 (ρ + 5) g (-1000000)) ch kd) Q
    have hI8 := rg_up hI7 (k := ρ + 5) (j := g) (z := (-1000000)) (by omega) (by omega)
    generalize hE8 : up I7 (ρ + 5) g (-1000000) = I8 at hI8 ⊢
    refine ev_return k90_45 ?_
    subst hE8
    subst hE7
    exact hF (by omega)
