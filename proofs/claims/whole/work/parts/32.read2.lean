theorem isRm.kd {ρ : Nat} {cc ch : Int → Nat} {kd : Nat → Nat} (kd2 : Nat → Nat) (h : isRm ρ cc ch kd) : isRm ρ cc ch kd2 := by
  refine ⟨h.1, fun i h0 h1 => ⟨?_, (h.2.1 i h0 h1).2⟩, h.2.2⟩
  rw [← (h.2.1 i h0 h1).1]
  rcases h.1 with rfl | rfl | rfl <;> rfl
theorem rX7 {ch : Int → Nat} {kd : Nat → Nat} {x : Int} (h0 : 0 ≤ x) (h1 : x < 5) : rX ch kd 7 x = some (8 + x.toNat) := by simp [rX, isCh, isLn, h0, h1]
theorem no_P {ρ : Nat} {cc ch : Int → Nat} {kd : Nat → Nat} (hρ : isRm ρ cc ch kd) {a : Nat} {b : Int} (h : a < ρ ∨ ρ + 10 < a) : ¬ hasP ρ cc a b := by
  rintro (⟨rfl, -, -⟩ | ⟨h1, h2, -⟩ | ⟨h1, -⟩)
  · omega
  · omega
  · obtain ⟨i, -, -, -, -, h3, h4⟩ := in_c hρ h1
    omega
def kdR (kd : Nat → Nat) (c : Nat) (v : Int) : Nat → Nat := if 1 ≤ v ∧ v ≤ 5 then kdU kd c (7 + v.toNat) else kd
def kdL (kd : Nat → Nat) (cc : Int → Nat) (P : Int → Int) : Nat → Nat → Nat
  | 0 => kd
  | i + 1 => kdR (kdL kd cc P i) (cc (i : Int)) (P (3 + 6 * (i : Int)))
theorem c_nextR {d : Nat} {I : Nat → Int → Int} {ch : Int → Nat} {kd : Nat → Nat} {Q : Option jV → jS → Prop} {ρ k : Nat} {cc : Int → Nat} {n n2 : Int} (hρ : isRm ρ cc ch kd) (hl : isL2 k 53) (hI : Rg I) (hkρ : k + 1 < ρ ∨ ρ + 10 < k) (hsz : I k 1 = 53) (n0 : 0 ≤ n) (n1 : n < 53) (e : n2 = n + 1) (hQ : Q (some (vi (I (k + 1) n))) (SX (up (rds I ρ cc k n) k 2 n2) ch kd)) : Cl d 51 [vr k] (SX (rds I ρ cc k n) ch kd) Q := by
  have e1 : rds I ρ cc k n k 1 = 53 := by rw [rds_o (by omega) (no_P hρ (by omega)), hsz]
  refine c_next hl (rds_rg hI n0 (by omega)) (by rw [rds_m]; exact n0) (by rw [e1]; decide) (fun h => absurd h (by rw [rds_m, e1]; omega)) (fun _ => ?_)
  rw [rds_m, rds_o (by omega) (no_P hρ (by omega)), ← e]
  exact hQ

set_option maxHeartbeats 2000000 in
theorem c_readC {d : Nat} {I : Nat → Int → Int} {ch : Int → Nat} {kd : Nat → Nat} {Q : Option jV → jS → Prop} {ρ : Nat} {cc : Int → Nat} (hρ : isRm ρ cc ch kd) (hI : Rg I) (hd : 1 ≤ d) {k : Nat} (hl : isL2 k 53) (hkρ : k + 1 < ρ ∨ ρ + 10 < k) (hsz : I k 1 = 53) {i n : Int} (hn : n = 3 + 6 * i) (hi0 : 0 ≤ i) (hi1 : i < 5) (hQ : Q none (SX (rds I ρ cc k (n + 6)) ch (kdR kd (cc i) (I (k + 1) n)))) : Cl d 12 [vr (cc i), vr k, vr 7] (SX (rds I ρ cc k n) ch kd) Q := by
  obtain ⟨s0, s1, s2, s3, s4, s5, q0, q1, q2, q3, q4, q5, hlt⟩ := rm_f hρ
  have hk1 := hl.1
  have hcx := hρ.2.1 i hi0 hi1
  have hcy := hρ.2.2.2 i hi0 hi1
  have hcz := (shp_c hcx.2).1
  have hrr := hI (k + 1) n
  refine ⟨by rw [l12]; exact Nat.le_of_ble_eq_true rfl, ?_⟩
  rw [l12]
  show Ev d 12 0 [some (vr (cc i)), some (vr k), some (vr 7), none] [] (SX (rds I ρ cc k n) ch kd) Q
  refine ev_s1 (L' := [some (vr (cc i)), some (vr k), some (vr 7), none]) (S' := [vr k]) k12_0 rfl rfl ?_
  refine ev_virt (a := []) (S' := []) k12_1 rfl (Nat.le_of_ble_eq_true rfl) (by omega) (hl.2.1) (by omega) ?_
  refine c_nextR (hρ.kd _) hl hI hkρ hsz (n := n) (n2 := n + 1) (by omega) (by omega) (by omega) (?_)
  rw [rds_k hρ (n2 := n + 1) hn hi0 hi1 (by omega)]
  show Ev d 12 4 [some (vr (cc i)), some (vr k), some (vr 7), none] [vi (I (k + 1) n)] (SX (rds I ρ cc k (n + 1)) ch kd) Q
  refine ev_s1 (L' := [some (vr (cc i)), some (vr k), some (vr 7), some (vi (I (k + 1) n))]) (S' := []) k12_4 rfl rfl ?_
  refine ev_s1 (L' := [some (vr (cc i)), some (vr k), some (vr 7), some (vi (I (k + 1) n))]) (S' := [vi (I (k + 1) n)]) k12_5 rfl rfl ?_
  refine ev_s1 (L' := [some (vr (cc i)), some (vr k), some (vr 7), some (vi (I (k + 1) n))]) (S' := [vi 1, vi (I (k + 1) n)]) k12_6 rfl rfl ?_
  refine ev_c_lt (t := 25) k12_7 rfl (by omega) (by omega) (by omega) (by omega) (fun h1 => ?_) (fun h1 => ?_)
  · refine ev_s1 (L' := [some (vr (cc i)), some (vr k), some (vr 7), some (vi (I (k + 1) n))]) (S' := [vr (cc i)]) k12_25 rfl rfl ?_
    refine ev_s1 (L' := [some (vr (cc i)), some (vr k), some (vr 7), some (vi (I (k + 1) n))]) (S' := [vr k, vr (cc i)]) k12_26 rfl rfl ?_
    refine ev_virt (a := []) (S' := [vr (cc i)]) k12_27 rfl (Nat.le_of_ble_eq_true rfl) (by omega) (hl.2.1) (by omega) ?_
    refine c_nextR (hρ.kd _) hl hI hkρ hsz (n := n + 1) (n2 := n + 2) (by omega) (by omega) (by omega) (?_)
    show Ev d 12 30 [some (vr (cc i)), some (vr k), some (vr 7), some (vi (I (k + 1) n))] [vi (I (k + 1) (n + 1)), vr (cc i)] (SX (up (rds I ρ cc k (n + 1)) k 2 (n + 2)) ch kd) Q
    refine ev_putI k12_30 (by omega) ((shp_c hcx.2).2) ?_
    show Ev d 12 33 [some (vr (cc i)), some (vr k), some (vr 7), some (vi (I (k + 1) n))] [] (SX (up (up (rds I ρ cc k (n + 1)) k 2 (n + 2)) (cc i) 1 (I (k + 1) (n + 1))) ch kd) Q
    rw [rds_s hρ (a0 := cc i) (b0 := 1) (n := n + 1) (n2 := n + 2) (by omega) (Or.inr (Or.inr ⟨(inv_c hρ hi0 hi1).2, by decide, by decide⟩)) (by rw [pos_c hρ hi0 hi1]; omega) (by omega)]
    refine ev_s1 (L' := [some (vr (cc i)), some (vr k), some (vr 7), some (vi (I (k + 1) n))]) (S' := [vr (cc i)]) k12_33 rfl rfl ?_
    refine ev_s1 (L' := [some (vr (cc i)), some (vr k), some (vr 7), some (vi (I (k + 1) n))]) (S' := [vr k, vr (cc i)]) k12_34 rfl rfl ?_
    refine ev_virt (a := []) (S' := [vr (cc i)]) k12_35 rfl (Nat.le_of_ble_eq_true rfl) (by omega) (hl.2.1) (by omega) ?_
    refine c_nextR (hρ.kd _) hl hI hkρ hsz (n := n + 2) (n2 := n + 3) (by omega) (by omega) (by omega) (?_)
    show Ev d 12 38 [some (vr (cc i)), some (vr k), some (vr 7), some (vi (I (k + 1) n))] [vi (I (k + 1) (n + 2)), vr (cc i)] (SX (up (rds I ρ cc k (n + 2)) k 2 (n + 3)) ch kd) Q
    refine ev_putI k12_38 (by omega) ((shp_c hcx.2).2) ?_
    show Ev d 12 41 [some (vr (cc i)), some (vr k), some (vr 7), some (vi (I (k + 1) n))] [] (SX (up (up (rds I ρ cc k (n + 2)) k 2 (n + 3)) (cc i) 2 (I (k + 1) (n + 2))) ch kd) Q
    rw [rds_s hρ (a0 := cc i) (b0 := 2) (n := n + 2) (n2 := n + 3) (by omega) (Or.inr (Or.inr ⟨(inv_c hρ hi0 hi1).2, by decide, by decide⟩)) (by rw [pos_c hρ hi0 hi1]; omega) (by omega)]
    refine ev_s1 (L' := [some (vr (cc i)), some (vr k), some (vr 7), some (vi (I (k + 1) n))]) (S' := [vr (cc i)]) k12_41 rfl rfl ?_
    refine ev_s1 (L' := [some (vr (cc i)), some (vr k), some (vr 7), some (vi (I (k + 1) n))]) (S' := [vr k, vr (cc i)]) k12_42 rfl rfl ?_
    refine ev_virt (a := []) (S' := [vr (cc i)]) k12_43 rfl (Nat.le_of_ble_eq_true rfl) (by omega) (hl.2.1) (by omega) ?_
    refine c_nextR (hρ.kd _) hl hI hkρ hsz (n := n + 3) (n2 := n + 4) (by omega) (by omega) (by omega) (?_)
    show Ev d 12 46 [some (vr (cc i)), some (vr k), some (vr 7), some (vi (I (k + 1) n))] [vi (I (k + 1) (n + 3)), vr (cc i)] (SX (up (rds I ρ cc k (n + 3)) k 2 (n + 4)) ch kd) Q
    refine ev_putI k12_46 (by omega) ((shp_c hcx.2).2) ?_
    show Ev d 12 49 [some (vr (cc i)), some (vr k), some (vr 7), some (vi (I (k + 1) n))] [] (SX (up (up (rds I ρ cc k (n + 3)) k 2 (n + 4)) (cc i) 3 (I (k + 1) (n + 3))) ch kd) Q
    rw [rds_s hρ (a0 := cc i) (b0 := 3) (n := n + 3) (n2 := n + 4) (by omega) (Or.inr (Or.inr ⟨(inv_c hρ hi0 hi1).2, by decide, by decide⟩)) (by rw [pos_c hρ hi0 hi1]; omega) (by omega)]
    refine ev_s1 (L' := [some (vr (cc i)), some (vr k), some (vr 7), some (vi (I (k + 1) n))]) (S' := [vr (cc i)]) k12_49 rfl rfl ?_
    refine ev_s1 (L' := [some (vr (cc i)), some (vr k), some (vr 7), some (vi (I (k + 1) n))]) (S' := [vr k, vr (cc i)]) k12_50 rfl rfl ?_
    refine ev_virt (a := []) (S' := [vr (cc i)]) k12_51 rfl (Nat.le_of_ble_eq_true rfl) (by omega) (hl.2.1) (by omega) ?_
    refine c_nextR (hρ.kd _) hl hI hkρ hsz (n := n + 4) (n2 := n + 5) (by omega) (by omega) (by omega) (?_)
    show Ev d 12 54 [some (vr (cc i)), some (vr k), some (vr 7), some (vi (I (k + 1) n))] [vi (I (k + 1) (n + 4)), vr (cc i)] (SX (up (rds I ρ cc k (n + 4)) k 2 (n + 5)) ch kd) Q
    refine ev_putI k12_54 (by omega) ((shp_c hcx.2).2) ?_
    show Ev d 12 57 [some (vr (cc i)), some (vr k), some (vr 7), some (vi (I (k + 1) n))] [] (SX (up (up (rds I ρ cc k (n + 4)) k 2 (n + 5)) (cc i) 4 (I (k + 1) (n + 4))) ch kd) Q
    rw [rds_s hρ (a0 := cc i) (b0 := 4) (n := n + 4) (n2 := n + 5) (by omega) (Or.inr (Or.inr ⟨(inv_c hρ hi0 hi1).2, by decide, by decide⟩)) (by rw [pos_c hρ hi0 hi1]; omega) (by omega)]
    refine ev_s1 (L' := [some (vr (cc i)), some (vr k), some (vr 7), some (vi (I (k + 1) n))]) (S' := [vr (cc i)]) k12_57 rfl rfl ?_
    refine ev_s1 (L' := [some (vr (cc i)), some (vr k), some (vr 7), some (vi (I (k + 1) n))]) (S' := [vr k, vr (cc i)]) k12_58 rfl rfl ?_
    refine ev_virt (a := []) (S' := [vr (cc i)]) k12_59 rfl (Nat.le_of_ble_eq_true rfl) (by omega) (hl.2.1) (by omega) ?_
    refine c_nextR (hρ.kd _) hl hI hkρ hsz (n := n + 5) (n2 := n + 6) (by omega) (by omega) (by omega) (?_)
    show Ev d 12 62 [some (vr (cc i)), some (vr k), some (vr 7), some (vi (I (k + 1) n))] [vi (I (k + 1) (n + 5)), vr (cc i)] (SX (up (rds I ρ cc k (n + 5)) k 2 (n + 6)) ch kd) Q
    refine ev_putI k12_62 (by omega) ((shp_c hcx.2).2) ?_
    show Ev d 12 65 [some (vr (cc i)), some (vr k), some (vr 7), some (vi (I (k + 1) n))] [] (SX (up (up (rds I ρ cc k (n + 5)) k 2 (n + 6)) (cc i) 5 (I (k + 1) (n + 5))) ch kd) Q
    rw [rds_s hρ (a0 := cc i) (b0 := 5) (n := n + 5) (n2 := n + 6) (by omega) (Or.inr (Or.inr ⟨(inv_c hρ hi0 hi1).2, by decide, by decide⟩)) (by rw [pos_c hρ hi0 hi1]; omega) (by omega)]
    refine ev_return k12_65 ?_
    unfold kdR at hQ
    rw [if_neg (by omega)] at hQ
    exact hQ
  · refine ev_s1 (L' := [some (vr (cc i)), some (vr k), some (vr 7), some (vi (I (k + 1) n))]) (S' := [vi (I (k + 1) n)]) k12_10 rfl rfl ?_
    refine ev_s1 (L' := [some (vr (cc i)), some (vr k), some (vr 7), some (vi (I (k + 1) n))]) (S' := [vr 7, vi (I (k + 1) n)]) k12_11 rfl rfl ?_
    refine ev_len k12_12 (by decide) (rfl) (by decide) (by decide) ?_
    show Ev d 12 13 [some (vr (cc i)), some (vr k), some (vr 7), some (vi (I (k + 1) n))] [vi 5, vi (I (k + 1) n)] (SX (rds I ρ cc k (n + 1)) ch kd) Q
    refine ev_c_gt (t := 25) k12_13 rfl (by omega) (by omega) (by omega) (by omega) (fun h2 => ?_) (fun h2 => ?_)
    · refine ev_s1 (L' := [some (vr (cc i)), some (vr k), some (vr 7), some (vi (I (k + 1) n))]) (S' := [vr (cc i)]) k12_25 rfl rfl ?_
      refine ev_s1 (L' := [some (vr (cc i)), some (vr k), some (vr 7), some (vi (I (k + 1) n))]) (S' := [vr k, vr (cc i)]) k12_26 rfl rfl ?_
      refine ev_virt (a := []) (S' := [vr (cc i)]) k12_27 rfl (Nat.le_of_ble_eq_true rfl) (by omega) (hl.2.1) (by omega) ?_
      refine c_nextR (hρ.kd _) hl hI hkρ hsz (n := n + 1) (n2 := n + 2) (by omega) (by omega) (by omega) (?_)
      show Ev d 12 30 [some (vr (cc i)), some (vr k), some (vr 7), some (vi (I (k + 1) n))] [vi (I (k + 1) (n + 1)), vr (cc i)] (SX (up (rds I ρ cc k (n + 1)) k 2 (n + 2)) ch kd) Q
      refine ev_putI k12_30 (by omega) ((shp_c hcx.2).2) ?_
      show Ev d 12 33 [some (vr (cc i)), some (vr k), some (vr 7), some (vi (I (k + 1) n))] [] (SX (up (up (rds I ρ cc k (n + 1)) k 2 (n + 2)) (cc i) 1 (I (k + 1) (n + 1))) ch kd) Q
      rw [rds_s hρ (a0 := cc i) (b0 := 1) (n := n + 1) (n2 := n + 2) (by omega) (Or.inr (Or.inr ⟨(inv_c hρ hi0 hi1).2, by decide, by decide⟩)) (by rw [pos_c hρ hi0 hi1]; omega) (by omega)]
      refine ev_s1 (L' := [some (vr (cc i)), some (vr k), some (vr 7), some (vi (I (k + 1) n))]) (S' := [vr (cc i)]) k12_33 rfl rfl ?_
      refine ev_s1 (L' := [some (vr (cc i)), some (vr k), some (vr 7), some (vi (I (k + 1) n))]) (S' := [vr k, vr (cc i)]) k12_34 rfl rfl ?_
      refine ev_virt (a := []) (S' := [vr (cc i)]) k12_35 rfl (Nat.le_of_ble_eq_true rfl) (by omega) (hl.2.1) (by omega) ?_
      refine c_nextR (hρ.kd _) hl hI hkρ hsz (n := n + 2) (n2 := n + 3) (by omega) (by omega) (by omega) (?_)
      show Ev d 12 38 [some (vr (cc i)), some (vr k), some (vr 7), some (vi (I (k + 1) n))] [vi (I (k + 1) (n + 2)), vr (cc i)] (SX (up (rds I ρ cc k (n + 2)) k 2 (n + 3)) ch kd) Q
      refine ev_putI k12_38 (by omega) ((shp_c hcx.2).2) ?_
      show Ev d 12 41 [some (vr (cc i)), some (vr k), some (vr 7), some (vi (I (k + 1) n))] [] (SX (up (up (rds I ρ cc k (n + 2)) k 2 (n + 3)) (cc i) 2 (I (k + 1) (n + 2))) ch kd) Q
      rw [rds_s hρ (a0 := cc i) (b0 := 2) (n := n + 2) (n2 := n + 3) (by omega) (Or.inr (Or.inr ⟨(inv_c hρ hi0 hi1).2, by decide, by decide⟩)) (by rw [pos_c hρ hi0 hi1]; omega) (by omega)]
      refine ev_s1 (L' := [some (vr (cc i)), some (vr k), some (vr 7), some (vi (I (k + 1) n))]) (S' := [vr (cc i)]) k12_41 rfl rfl ?_
      refine ev_s1 (L' := [some (vr (cc i)), some (vr k), some (vr 7), some (vi (I (k + 1) n))]) (S' := [vr k, vr (cc i)]) k12_42 rfl rfl ?_
      refine ev_virt (a := []) (S' := [vr (cc i)]) k12_43 rfl (Nat.le_of_ble_eq_true rfl) (by omega) (hl.2.1) (by omega) ?_
      refine c_nextR (hρ.kd _) hl hI hkρ hsz (n := n + 3) (n2 := n + 4) (by omega) (by omega) (by omega) (?_)
      show Ev d 12 46 [some (vr (cc i)), some (vr k), some (vr 7), some (vi (I (k + 1) n))] [vi (I (k + 1) (n + 3)), vr (cc i)] (SX (up (rds I ρ cc k (n + 3)) k 2 (n + 4)) ch kd) Q
      refine ev_putI k12_46 (by omega) ((shp_c hcx.2).2) ?_
      show Ev d 12 49 [some (vr (cc i)), some (vr k), some (vr 7), some (vi (I (k + 1) n))] [] (SX (up (up (rds I ρ cc k (n + 3)) k 2 (n + 4)) (cc i) 3 (I (k + 1) (n + 3))) ch kd) Q
      rw [rds_s hρ (a0 := cc i) (b0 := 3) (n := n + 3) (n2 := n + 4) (by omega) (Or.inr (Or.inr ⟨(inv_c hρ hi0 hi1).2, by decide, by decide⟩)) (by rw [pos_c hρ hi0 hi1]; omega) (by omega)]
      refine ev_s1 (L' := [some (vr (cc i)), some (vr k), some (vr 7), some (vi (I (k + 1) n))]) (S' := [vr (cc i)]) k12_49 rfl rfl ?_
      refine ev_s1 (L' := [some (vr (cc i)), some (vr k), some (vr 7), some (vi (I (k + 1) n))]) (S' := [vr k, vr (cc i)]) k12_50 rfl rfl ?_
      refine ev_virt (a := []) (S' := [vr (cc i)]) k12_51 rfl (Nat.le_of_ble_eq_true rfl) (by omega) (hl.2.1) (by omega) ?_
      refine c_nextR (hρ.kd _) hl hI hkρ hsz (n := n + 4) (n2 := n + 5) (by omega) (by omega) (by omega) (?_)
      show Ev d 12 54 [some (vr (cc i)), some (vr k), some (vr 7), some (vi (I (k + 1) n))] [vi (I (k + 1) (n + 4)), vr (cc i)] (SX (up (rds I ρ cc k (n + 4)) k 2 (n + 5)) ch kd) Q
      refine ev_putI k12_54 (by omega) ((shp_c hcx.2).2) ?_
      show Ev d 12 57 [some (vr (cc i)), some (vr k), some (vr 7), some (vi (I (k + 1) n))] [] (SX (up (up (rds I ρ cc k (n + 4)) k 2 (n + 5)) (cc i) 4 (I (k + 1) (n + 4))) ch kd) Q
      rw [rds_s hρ (a0 := cc i) (b0 := 4) (n := n + 4) (n2 := n + 5) (by omega) (Or.inr (Or.inr ⟨(inv_c hρ hi0 hi1).2, by decide, by decide⟩)) (by rw [pos_c hρ hi0 hi1]; omega) (by omega)]
      refine ev_s1 (L' := [some (vr (cc i)), some (vr k), some (vr 7), some (vi (I (k + 1) n))]) (S' := [vr (cc i)]) k12_57 rfl rfl ?_
      refine ev_s1 (L' := [some (vr (cc i)), some (vr k), some (vr 7), some (vi (I (k + 1) n))]) (S' := [vr k, vr (cc i)]) k12_58 rfl rfl ?_
      refine ev_virt (a := []) (S' := [vr (cc i)]) k12_59 rfl (Nat.le_of_ble_eq_true rfl) (by omega) (hl.2.1) (by omega) ?_
      refine c_nextR (hρ.kd _) hl hI hkρ hsz (n := n + 5) (n2 := n + 6) (by omega) (by omega) (by omega) (?_)
      show Ev d 12 62 [some (vr (cc i)), some (vr k), some (vr 7), some (vi (I (k + 1) n))] [vi (I (k + 1) (n + 5)), vr (cc i)] (SX (up (rds I ρ cc k (n + 5)) k 2 (n + 6)) ch kd) Q
      refine ev_putI k12_62 (by omega) ((shp_c hcx.2).2) ?_
      show Ev d 12 65 [some (vr (cc i)), some (vr k), some (vr 7), some (vi (I (k + 1) n))] [] (SX (up (up (rds I ρ cc k (n + 5)) k 2 (n + 6)) (cc i) 5 (I (k + 1) (n + 5))) ch kd) Q
      rw [rds_s hρ (a0 := cc i) (b0 := 5) (n := n + 5) (n2 := n + 6) (by omega) (Or.inr (Or.inr ⟨(inv_c hρ hi0 hi1).2, by decide, by decide⟩)) (by rw [pos_c hρ hi0 hi1]; omega) (by omega)]
      refine ev_return k12_65 ?_
      unfold kdR at hQ
      rw [if_neg (by omega)] at hQ
      exact hQ
    · refine ev_s1 (L' := [some (vr (cc i)), some (vr k), some (vr 7), some (vi (I (k + 1) n))]) (S' := [vr (cc i)]) k12_16 rfl rfl ?_
      refine ev_s1 (L' := [some (vr (cc i)), some (vr k), some (vr 7), some (vi (I (k + 1) n))]) (S' := [vr 7, vr (cc i)]) k12_17 rfl rfl ?_
      refine ev_s1 (L' := [some (vr (cc i)), some (vr k), some (vr 7), some (vi (I (k + 1) n))]) (S' := [vi (I (k + 1) n), vr 7, vr (cc i)]) k12_18 rfl rfl ?_
      refine ev_s1 (L' := [some (vr (cc i)), some (vr k), some (vr 7), some (vi (I (k + 1) n))]) (S' := [vi 1, vi (I (k + 1) n), vr 7, vr (cc i)]) k12_19 rfl rfl ?_
      refine ev_s1 (L' := [some (vr (cc i)), some (vr k), some (vr 7), some (vi (I (k + 1) n))]) (S' := [vi ((I (k + 1) n) - 1), vr 7, vr (cc i)]) k12_20 rfl rfl ?_
      refine ev_aald (q := 8 + Int.toNat ((I (k + 1) n) - 1)) k12_21 (by decide) (rfl) (by decide) (by decide) (by omega) (by omega) (rX7 (by omega) (by omega)) ?_
      refine ev_putR k12_22 (by omega) ((shp_c hcx.2).2) ?_
      rw [show up (rX ch kd) (cc i) ((0 : Nat) : Int) (some (8 + Int.toNat ((I (k + 1) n) - 1))) = rX ch (kdU kd (cc i) (8 + Int.toNat ((I (k + 1) n) - 1))) from rX_kd hcx.2]
      show Ev d 12 25 [some (vr (cc i)), some (vr k), some (vr 7), some (vi (I (k + 1) n))] [] (SX (rds I ρ cc k (n + 1)) ch (kdU kd (cc i) (8 + Int.toNat ((I (k + 1) n) - 1)))) Q
      refine ev_s1 (L' := [some (vr (cc i)), some (vr k), some (vr 7), some (vi (I (k + 1) n))]) (S' := [vr (cc i)]) k12_25 rfl rfl ?_
      refine ev_s1 (L' := [some (vr (cc i)), some (vr k), some (vr 7), some (vi (I (k + 1) n))]) (S' := [vr k, vr (cc i)]) k12_26 rfl rfl ?_
      refine ev_virt (a := []) (S' := [vr (cc i)]) k12_27 rfl (Nat.le_of_ble_eq_true rfl) (by omega) (hl.2.1) (by omega) ?_
      refine c_nextR (hρ.kd _) hl hI hkρ hsz (n := n + 1) (n2 := n + 2) (by omega) (by omega) (by omega) (?_)
      show Ev d 12 30 [some (vr (cc i)), some (vr k), some (vr 7), some (vi (I (k + 1) n))] [vi (I (k + 1) (n + 1)), vr (cc i)] (SX (up (rds I ρ cc k (n + 1)) k 2 (n + 2)) ch (kdU kd (cc i) (8 + Int.toNat ((I (k + 1) n) - 1)))) Q
      refine ev_putI k12_30 (by omega) ((shp_c hcx.2).2) ?_
      show Ev d 12 33 [some (vr (cc i)), some (vr k), some (vr 7), some (vi (I (k + 1) n))] [] (SX (up (up (rds I ρ cc k (n + 1)) k 2 (n + 2)) (cc i) 1 (I (k + 1) (n + 1))) ch (kdU kd (cc i) (8 + Int.toNat ((I (k + 1) n) - 1)))) Q
      rw [rds_s hρ (a0 := cc i) (b0 := 1) (n := n + 1) (n2 := n + 2) (by omega) (Or.inr (Or.inr ⟨(inv_c hρ hi0 hi1).2, by decide, by decide⟩)) (by rw [pos_c hρ hi0 hi1]; omega) (by omega)]
      refine ev_s1 (L' := [some (vr (cc i)), some (vr k), some (vr 7), some (vi (I (k + 1) n))]) (S' := [vr (cc i)]) k12_33 rfl rfl ?_
      refine ev_s1 (L' := [some (vr (cc i)), some (vr k), some (vr 7), some (vi (I (k + 1) n))]) (S' := [vr k, vr (cc i)]) k12_34 rfl rfl ?_
      refine ev_virt (a := []) (S' := [vr (cc i)]) k12_35 rfl (Nat.le_of_ble_eq_true rfl) (by omega) (hl.2.1) (by omega) ?_
      refine c_nextR (hρ.kd _) hl hI hkρ hsz (n := n + 2) (n2 := n + 3) (by omega) (by omega) (by omega) (?_)
      show Ev d 12 38 [some (vr (cc i)), some (vr k), some (vr 7), some (vi (I (k + 1) n))] [vi (I (k + 1) (n + 2)), vr (cc i)] (SX (up (rds I ρ cc k (n + 2)) k 2 (n + 3)) ch (kdU kd (cc i) (8 + Int.toNat ((I (k + 1) n) - 1)))) Q
      refine ev_putI k12_38 (by omega) ((shp_c hcx.2).2) ?_
      show Ev d 12 41 [some (vr (cc i)), some (vr k), some (vr 7), some (vi (I (k + 1) n))] [] (SX (up (up (rds I ρ cc k (n + 2)) k 2 (n + 3)) (cc i) 2 (I (k + 1) (n + 2))) ch (kdU kd (cc i) (8 + Int.toNat ((I (k + 1) n) - 1)))) Q
      rw [rds_s hρ (a0 := cc i) (b0 := 2) (n := n + 2) (n2 := n + 3) (by omega) (Or.inr (Or.inr ⟨(inv_c hρ hi0 hi1).2, by decide, by decide⟩)) (by rw [pos_c hρ hi0 hi1]; omega) (by omega)]
      refine ev_s1 (L' := [some (vr (cc i)), some (vr k), some (vr 7), some (vi (I (k + 1) n))]) (S' := [vr (cc i)]) k12_41 rfl rfl ?_
      refine ev_s1 (L' := [some (vr (cc i)), some (vr k), some (vr 7), some (vi (I (k + 1) n))]) (S' := [vr k, vr (cc i)]) k12_42 rfl rfl ?_
      refine ev_virt (a := []) (S' := [vr (cc i)]) k12_43 rfl (Nat.le_of_ble_eq_true rfl) (by omega) (hl.2.1) (by omega) ?_
      refine c_nextR (hρ.kd _) hl hI hkρ hsz (n := n + 3) (n2 := n + 4) (by omega) (by omega) (by omega) (?_)
      show Ev d 12 46 [some (vr (cc i)), some (vr k), some (vr 7), some (vi (I (k + 1) n))] [vi (I (k + 1) (n + 3)), vr (cc i)] (SX (up (rds I ρ cc k (n + 3)) k 2 (n + 4)) ch (kdU kd (cc i) (8 + Int.toNat ((I (k + 1) n) - 1)))) Q
      refine ev_putI k12_46 (by omega) ((shp_c hcx.2).2) ?_
      show Ev d 12 49 [some (vr (cc i)), some (vr k), some (vr 7), some (vi (I (k + 1) n))] [] (SX (up (up (rds I ρ cc k (n + 3)) k 2 (n + 4)) (cc i) 3 (I (k + 1) (n + 3))) ch (kdU kd (cc i) (8 + Int.toNat ((I (k + 1) n) - 1)))) Q
      rw [rds_s hρ (a0 := cc i) (b0 := 3) (n := n + 3) (n2 := n + 4) (by omega) (Or.inr (Or.inr ⟨(inv_c hρ hi0 hi1).2, by decide, by decide⟩)) (by rw [pos_c hρ hi0 hi1]; omega) (by omega)]
      refine ev_s1 (L' := [some (vr (cc i)), some (vr k), some (vr 7), some (vi (I (k + 1) n))]) (S' := [vr (cc i)]) k12_49 rfl rfl ?_
      refine ev_s1 (L' := [some (vr (cc i)), some (vr k), some (vr 7), some (vi (I (k + 1) n))]) (S' := [vr k, vr (cc i)]) k12_50 rfl rfl ?_
      refine ev_virt (a := []) (S' := [vr (cc i)]) k12_51 rfl (Nat.le_of_ble_eq_true rfl) (by omega) (hl.2.1) (by omega) ?_
      refine c_nextR (hρ.kd _) hl hI hkρ hsz (n := n + 4) (n2 := n + 5) (by omega) (by omega) (by omega) (?_)
      show Ev d 12 54 [some (vr (cc i)), some (vr k), some (vr 7), some (vi (I (k + 1) n))] [vi (I (k + 1) (n + 4)), vr (cc i)] (SX (up (rds I ρ cc k (n + 4)) k 2 (n + 5)) ch (kdU kd (cc i) (8 + Int.toNat ((I (k + 1) n) - 1)))) Q
      refine ev_putI k12_54 (by omega) ((shp_c hcx.2).2) ?_
      show Ev d 12 57 [some (vr (cc i)), some (vr k), some (vr 7), some (vi (I (k + 1) n))] [] (SX (up (up (rds I ρ cc k (n + 4)) k 2 (n + 5)) (cc i) 4 (I (k + 1) (n + 4))) ch (kdU kd (cc i) (8 + Int.toNat ((I (k + 1) n) - 1)))) Q
      rw [rds_s hρ (a0 := cc i) (b0 := 4) (n := n + 4) (n2 := n + 5) (by omega) (Or.inr (Or.inr ⟨(inv_c hρ hi0 hi1).2, by decide, by decide⟩)) (by rw [pos_c hρ hi0 hi1]; omega) (by omega)]
      refine ev_s1 (L' := [some (vr (cc i)), some (vr k), some (vr 7), some (vi (I (k + 1) n))]) (S' := [vr (cc i)]) k12_57 rfl rfl ?_
      refine ev_s1 (L' := [some (vr (cc i)), some (vr k), some (vr 7), some (vi (I (k + 1) n))]) (S' := [vr k, vr (cc i)]) k12_58 rfl rfl ?_
      refine ev_virt (a := []) (S' := [vr (cc i)]) k12_59 rfl (Nat.le_of_ble_eq_true rfl) (by omega) (hl.2.1) (by omega) ?_
      refine c_nextR (hρ.kd _) hl hI hkρ hsz (n := n + 5) (n2 := n + 6) (by omega) (by omega) (by omega) (?_)
      show Ev d 12 62 [some (vr (cc i)), some (vr k), some (vr 7), some (vi (I (k + 1) n))] [vi (I (k + 1) (n + 5)), vr (cc i)] (SX (up (rds I ρ cc k (n + 5)) k 2 (n + 6)) ch (kdU kd (cc i) (8 + Int.toNat ((I (k + 1) n) - 1)))) Q
      refine ev_putI k12_62 (by omega) ((shp_c hcx.2).2) ?_
      show Ev d 12 65 [some (vr (cc i)), some (vr k), some (vr 7), some (vi (I (k + 1) n))] [] (SX (up (up (rds I ρ cc k (n + 5)) k 2 (n + 6)) (cc i) 5 (I (k + 1) (n + 5))) ch (kdU kd (cc i) (8 + Int.toNat ((I (k + 1) n) - 1)))) Q
      rw [rds_s hρ (a0 := cc i) (b0 := 5) (n := n + 5) (n2 := n + 6) (by omega) (Or.inr (Or.inr ⟨(inv_c hρ hi0 hi1).2, by decide, by decide⟩)) (by rw [pos_c hρ hi0 hi1]; omega) (by omega)]
      refine ev_return k12_65 ?_
      unfold kdR at hQ
      rw [if_pos (by omega)] at hQ
      rw [show 8 + Int.toNat (I (k + 1) n - 1) = 7 + (I (k + 1) n).toNat by omega]
      exact hQ

set_option maxHeartbeats 2000000 in
theorem l_readG {d : Nat} {I : Nat → Int → Int} {ch : Int → Nat} {kd : Nat → Nat} {Q : Option jV → jS → Prop} {ρ : Nat} {cc : Int → Nat} (hρ : isRm ρ cc ch kd) (hI : Rg I) {k : Nat} (hd : 2 ≤ d) (hl : isL2 k 53) (hkρ : k + 1 < ρ ∨ ρ + 10 < k) (hsz : I k 1 = 53) (hQ : Q none (SX (rds I ρ cc k 53) ch (kdL kd cc (fun b => I (k + 1) b) 5))) : ∀ (n i : Nat), 5 - (i : Int) < n → (i : Int) ≤ 5 → Ev d 102 57 [some (vr ρ), some (vr k), some (vi (i : Int))] [] (SX (rds I ρ cc k (33 + 4 * (i : Int))) ch (kdL kd cc (fun b => I (k + 1) b) 5)) Q := by
  obtain ⟨s0, s1, s2, s3, s4, s5, q0, q1, q2, q3, q4, q5, hlt⟩ := rm_f (hρ.kd (kdL kd cc (fun b => I (k + 1) b) 5))
  have hk1 := hl.1
  intro n
  induction n with
  | zero => intro i h1 h2; exfalso; omega
  | succ n ih =>
    intro i hn hi
    refine ev_s1 (L' := [some (vr ρ), some (vr k), some (vi (i : Int))]) (S' := [vi (i : Int)]) k102_57 rfl rfl ?_
    refine ev_s1 (L' := [some (vr ρ), some (vr k), some (vi (i : Int))]) (S' := [vi 5, vi (i : Int)]) k102_58 rfl rfl ?_
    refine ev_c_ge (t := 108) k102_59 rfl (by omega) (by omega) (by omega) (by omega) (fun h1 => ?_) (fun h1 => ?_)
    · refine ev_return k102_108 ?_
      rw [show 33 + 4 * (i : Int) = 53 by omega]
      exact hQ
    · refine ev_s1 (L' := [some (vr ρ), some (vr k), some (vi (i : Int))]) (S' := [vr ρ]) k102_62 rfl rfl ?_
      refine ev_getR k102_63 (by omega) (s0) (q2) ?_
      refine ev_s1 (L' := [some (vr ρ), some (vr k), some (vi (i : Int))]) (S' := [vi (i : Int), vr (ρ + 2)]) k102_66 rfl rfl ?_
      refine ev_s1 (L' := [some (vr ρ), some (vr k), some (vi (i : Int))]) (S' := [vr k, vi (i : Int), vr (ρ + 2)]) k102_67 rfl rfl ?_
      refine ev_virt (a := []) (S' := [vi (i : Int), vr (ρ + 2)]) k102_68 rfl (Nat.le_of_ble_eq_true rfl) (by omega) (hl.2.1) (by omega) ?_
      refine c_nextR (hρ.kd _) hl hI hkρ hsz (n := 33 + 4 * (i : Int)) (n2 := 33 + 4 * (i : Int) + 1) (by omega) (by omega) (by omega) (?_)
      show Ev d 102 71 [some (vr ρ), some (vr k), some (vi (i : Int))] [vi (I (k + 1) (33 + 4 * (i : Int))), vi (i : Int), vr (ρ + 2)] (SX (up (rds I ρ cc k (33 + 4 * (i : Int))) k 2 (33 + 4 * (i : Int) + 1)) ch (kdL kd cc (fun b => I (k + 1) b) 5)) Q
      refine ev_iast k102_71 (by omega) (s2) (by omega) (by omega) ?_
      show Ev d 102 72 [some (vr ρ), some (vr k), some (vi (i : Int))] [] (SX (up (up (rds I ρ cc k (33 + 4 * (i : Int))) k 2 (33 + 4 * (i : Int) + 1)) (ρ + 2) (i : Int) (I (k + 1) (33 + 4 * (i : Int)))) ch (kdL kd cc (fun b => I (k + 1) b) 5)) Q
      rw [rds_s hρ (a0 := ρ + 2) (b0 := (i : Int)) (n := 33 + 4 * (i : Int)) (n2 := 33 + 4 * (i : Int) + 1) (by omega) (Or.inr (Or.inl ⟨by omega, by omega, by omega, by omega⟩)) (by have := pos_g (ρ := ρ) (cc := cc) (r := 0) (b := (i : Int)) (by decide); rw [show ρ + 2 + 0 = ρ + 2 from rfl] at this; rw [this]; omega) (by omega)]
      refine ev_s1 (L' := [some (vr ρ), some (vr k), some (vi (i : Int))]) (S' := [vr ρ]) k102_72 rfl rfl ?_
      refine ev_getR k102_73 (by omega) (s0) (q3) ?_
      refine ev_s1 (L' := [some (vr ρ), some (vr k), some (vi (i : Int))]) (S' := [vi (i : Int), vr (ρ + 3)]) k102_76 rfl rfl ?_
      refine ev_s1 (L' := [some (vr ρ), some (vr k), some (vi (i : Int))]) (S' := [vr k, vi (i : Int), vr (ρ + 3)]) k102_77 rfl rfl ?_
      refine ev_virt (a := []) (S' := [vi (i : Int), vr (ρ + 3)]) k102_78 rfl (Nat.le_of_ble_eq_true rfl) (by omega) (hl.2.1) (by omega) ?_
      refine c_nextR (hρ.kd _) hl hI hkρ hsz (n := 33 + 4 * (i : Int) + 1) (n2 := 33 + 4 * (i : Int) + 2) (by omega) (by omega) (by omega) (?_)
      show Ev d 102 81 [some (vr ρ), some (vr k), some (vi (i : Int))] [vi (I (k + 1) (33 + 4 * (i : Int) + 1)), vi (i : Int), vr (ρ + 3)] (SX (up (rds I ρ cc k (33 + 4 * (i : Int) + 1)) k 2 (33 + 4 * (i : Int) + 2)) ch (kdL kd cc (fun b => I (k + 1) b) 5)) Q
      refine ev_iast k102_81 (by omega) (s3) (by omega) (by omega) ?_
      show Ev d 102 82 [some (vr ρ), some (vr k), some (vi (i : Int))] [] (SX (up (up (rds I ρ cc k (33 + 4 * (i : Int) + 1)) k 2 (33 + 4 * (i : Int) + 2)) (ρ + 3) (i : Int) (I (k + 1) (33 + 4 * (i : Int) + 1))) ch (kdL kd cc (fun b => I (k + 1) b) 5)) Q
      rw [rds_s hρ (a0 := ρ + 3) (b0 := (i : Int)) (n := 33 + 4 * (i : Int) + 1) (n2 := 33 + 4 * (i : Int) + 2) (by omega) (Or.inr (Or.inl ⟨by omega, by omega, by omega, by omega⟩)) (by have := pos_g (ρ := ρ) (cc := cc) (r := 1) (b := (i : Int)) (by decide); rw [show ρ + 2 + 1 = ρ + 3 from rfl] at this; rw [this]; omega) (by omega)]
      refine ev_s1 (L' := [some (vr ρ), some (vr k), some (vi (i : Int))]) (S' := [vr ρ]) k102_82 rfl rfl ?_
      refine ev_getR k102_83 (by omega) (s0) (q4) ?_
      refine ev_s1 (L' := [some (vr ρ), some (vr k), some (vi (i : Int))]) (S' := [vi (i : Int), vr (ρ + 4)]) k102_86 rfl rfl ?_
      refine ev_s1 (L' := [some (vr ρ), some (vr k), some (vi (i : Int))]) (S' := [vr k, vi (i : Int), vr (ρ + 4)]) k102_87 rfl rfl ?_
      refine ev_virt (a := []) (S' := [vi (i : Int), vr (ρ + 4)]) k102_88 rfl (Nat.le_of_ble_eq_true rfl) (by omega) (hl.2.1) (by omega) ?_
      refine c_nextR (hρ.kd _) hl hI hkρ hsz (n := 33 + 4 * (i : Int) + 2) (n2 := 33 + 4 * (i : Int) + 3) (by omega) (by omega) (by omega) (?_)
      show Ev d 102 91 [some (vr ρ), some (vr k), some (vi (i : Int))] [vi (I (k + 1) (33 + 4 * (i : Int) + 2)), vi (i : Int), vr (ρ + 4)] (SX (up (rds I ρ cc k (33 + 4 * (i : Int) + 2)) k 2 (33 + 4 * (i : Int) + 3)) ch (kdL kd cc (fun b => I (k + 1) b) 5)) Q
      refine ev_iast k102_91 (by omega) (s4) (by omega) (by omega) ?_
      show Ev d 102 92 [some (vr ρ), some (vr k), some (vi (i : Int))] [] (SX (up (up (rds I ρ cc k (33 + 4 * (i : Int) + 2)) k 2 (33 + 4 * (i : Int) + 3)) (ρ + 4) (i : Int) (I (k + 1) (33 + 4 * (i : Int) + 2))) ch (kdL kd cc (fun b => I (k + 1) b) 5)) Q
      rw [rds_s hρ (a0 := ρ + 4) (b0 := (i : Int)) (n := 33 + 4 * (i : Int) + 2) (n2 := 33 + 4 * (i : Int) + 3) (by omega) (Or.inr (Or.inl ⟨by omega, by omega, by omega, by omega⟩)) (by have := pos_g (ρ := ρ) (cc := cc) (r := 2) (b := (i : Int)) (by decide); rw [show ρ + 2 + 2 = ρ + 4 from rfl] at this; rw [this]; omega) (by omega)]
      refine ev_s1 (L' := [some (vr ρ), some (vr k), some (vi (i : Int))]) (S' := [vr ρ]) k102_92 rfl rfl ?_
      refine ev_getR k102_93 (by omega) (s0) (q5) ?_
      refine ev_s1 (L' := [some (vr ρ), some (vr k), some (vi (i : Int))]) (S' := [vi (i : Int), vr (ρ + 5)]) k102_96 rfl rfl ?_
      refine ev_s1 (L' := [some (vr ρ), some (vr k), some (vi (i : Int))]) (S' := [vr k, vi (i : Int), vr (ρ + 5)]) k102_97 rfl rfl ?_
      refine ev_virt (a := []) (S' := [vi (i : Int), vr (ρ + 5)]) k102_98 rfl (Nat.le_of_ble_eq_true rfl) (by omega) (hl.2.1) (by omega) ?_
      refine c_nextR (hρ.kd _) hl hI hkρ hsz (n := 33 + 4 * (i : Int) + 3) (n2 := 33 + 4 * (i : Int) + 4) (by omega) (by omega) (by omega) (?_)
      show Ev d 102 101 [some (vr ρ), some (vr k), some (vi (i : Int))] [vi (I (k + 1) (33 + 4 * (i : Int) + 3)), vi (i : Int), vr (ρ + 5)] (SX (up (rds I ρ cc k (33 + 4 * (i : Int) + 3)) k 2 (33 + 4 * (i : Int) + 4)) ch (kdL kd cc (fun b => I (k + 1) b) 5)) Q
      refine ev_iast k102_101 (by omega) (s5) (by omega) (by omega) ?_
      show Ev d 102 102 [some (vr ρ), some (vr k), some (vi (i : Int))] [] (SX (up (up (rds I ρ cc k (33 + 4 * (i : Int) + 3)) k 2 (33 + 4 * (i : Int) + 4)) (ρ + 5) (i : Int) (I (k + 1) (33 + 4 * (i : Int) + 3))) ch (kdL kd cc (fun b => I (k + 1) b) 5)) Q
      rw [rds_s hρ (a0 := ρ + 5) (b0 := (i : Int)) (n := 33 + 4 * (i : Int) + 3) (n2 := 33 + 4 * (i : Int) + 4) (by omega) (Or.inr (Or.inl ⟨by omega, by omega, by omega, by omega⟩)) (by have := pos_g (ρ := ρ) (cc := cc) (r := 3) (b := (i : Int)) (by decide); rw [show ρ + 2 + 3 = ρ + 5 from rfl] at this; rw [this]; omega) (by omega)]
      refine ev_s1 (L' := [some (vr ρ), some (vr k), some (vi ((i : Int) + 1))]) (S' := []) k102_102 rfl rfl ?_
      refine ev_goto (t := 57) k102_105 rfl ?_
      rw [show 33 + 4 * (i : Int) + 4 = 33 + 4 * ((i + 1 : Nat) : Int) by omega]
      exact ih (i + 1) (by omega) (by omega)

set_option maxHeartbeats 2000000 in
theorem l_readK {d : Nat} {I : Nat → Int → Int} {ch : Int → Nat} {kd : Nat → Nat} {Q : Option jV → jS → Prop} {ρ : Nat} {cc : Int → Nat} (hρ : isRm ρ cc ch kd) (hI : Rg I) {k : Nat} (hd : 2 ≤ d) (hl : isL2 k 53) (hkρ : k + 1 < ρ ∨ ρ + 10 < k) (hsz : I k 1 = 53) (hQ : Q none (SX (rds I ρ cc k 53) ch (kdL kd cc (fun b => I (k + 1) b) 5))) : ∀ (n i : Nat), 5 - (i : Int) < n → (i : Int) ≤ 5 → Ev d 102 30 [some (vr ρ), some (vr k), some (vi (i : Int))] [] (SX (rds I ρ cc k (3 + 6 * (i : Int))) ch (kdL kd cc (fun b => I (k + 1) b) i)) Q := by
  have hk1 := hl.1
  intro n
  induction n with
  | zero => intro i h1 h2; exfalso; omega
  | succ n ih =>
    intro i hn hi
    obtain ⟨s0, s1, s2, s3, s4, s5, q0, q1, q2, q3, q4, q5, hlt⟩ := rm_f (hρ.kd (kdL kd cc (fun b => I (k + 1) b) i))
    refine ev_s1 (L' := [some (vr ρ), some (vr k), some (vi (i : Int))]) (S' := [vi (i : Int)]) k102_30 rfl rfl ?_
    refine ev_s1 (L' := [some (vr ρ), some (vr k), some (vi (i : Int))]) (S' := [vi 5, vi (i : Int)]) k102_31 rfl rfl ?_
    refine ev_c_ge (t := 55) k102_32 rfl (by omega) (by omega) (by omega) (by omega) (fun h1 => ?_) (fun h1 => ?_)
    · refine ev_s1 (L' := [some (vr ρ), some (vr k), some (vi (i : Int))]) (S' := [vi 0]) k102_55 rfl rfl ?_
      refine ev_s1 (L' := [some (vr ρ), some (vr k), some (vi 0)]) (S' := []) k102_56 rfl rfl ?_
      rw [show 3 + 6 * (i : Int) = 33 + 4 * ((0 : Nat) : Int) by omega, show i = 5 by omega]
      exact l_readG hρ hI hd hl hkρ hsz hQ 6 0 (by omega) (by omega)
    · refine ev_s1 (L' := [some (vr ρ), some (vr k), some (vi (i : Int))]) (S' := [vr ρ]) k102_35 rfl rfl ?_
      refine ev_getR k102_36 (by omega) (s0) (q1) ?_
      refine ev_s1 (L' := [some (vr ρ), some (vr k), some (vi (i : Int))]) (S' := [vi (i : Int), vr (ρ + 1)]) k102_39 rfl rfl ?_
      have hcx := (hρ.kd (kdL kd cc (fun b => I (k + 1) b) i)).2.1 (i : Int) (by omega) (by omega)
      have hcz := (shp_c hcx.2).1
      refine ev_aald (q := cc (i : Int)) k102_40 (by omega) (s1) (by decide) (by decide) (by omega) (by omega) (hcx.1) ?_
      refine ev_s1 (L' := [some (vr ρ), some (vr k), some (vi (i : Int))]) (S' := [vr k, vr (cc (i : Int))]) k102_41 rfl rfl ?_
      refine ev_s1 (L' := [some (vr ρ), some (vr k), some (vi (i : Int))]) (S' := [vr ρ, vr k, vr (cc (i : Int))]) k102_42 rfl rfl ?_
      refine ev_getR k102_43 (by omega) (s0) (q0) ?_
      refine ev_virt (a := [vr k, vr 7]) (S' := []) k102_46 rfl (Nat.le_of_ble_eq_true rfl) (by omega) ((shp_c hcx.2).2) (by omega) ?_
      refine c_readC (hρ.kd _) hI (by omega) hl hkρ hsz (i := (i : Int)) (n := 3 + 6 * (i : Int)) rfl (by omega) (by omega) (?_)
      show Ev d 102 49 [some (vr ρ), some (vr k), some (vi (i : Int))] [] (SX (rds I ρ cc k (3 + 6 * (i : Int) + 6)) ch (kdR (kdL kd cc (fun b => I (k + 1) b) i) (cc (i : Int)) (I (k + 1) (3 + 6 * (i : Int))))) Q
      refine ev_s1 (L' := [some (vr ρ), some (vr k), some (vi ((i : Int) + 1))]) (S' := []) k102_49 rfl rfl ?_
      refine ev_goto (t := 30) k102_52 rfl ?_
      rw [show 3 + 6 * (i : Int) + 6 = 3 + 6 * ((i + 1 : Nat) : Int) by omega]
      exact ih (i + 1) (by omega) (by omega)

set_option maxHeartbeats 2000000 in
theorem c_readFrom {d : Nat} {I : Nat → Int → Int} {ch : Int → Nat} {kd : Nat → Nat} {Q : Option jV → jS → Prop} {ρ : Nat} {cc : Int → Nat} (hρ : isRm ρ cc ch kd) (hI : Rg I) {k : Nat} (hd : 2 ≤ d) (hl : isL2 k 53) (hkρ : k + 1 < ρ ∨ ρ + 10 < k) (hsz : I k 1 = 53) (hQ : Q none (SX (rds I ρ cc k 53) ch (kdL kd cc (fun b => I (k + 1) b) 5))) : Cl d 102 [vr ρ, vr k] (SX I ch kd) Q := by
  obtain ⟨s0, s1, s2, s3, s4, s5, q0, q1, q2, q3, q4, q5, hlt⟩ := rm_f hρ
  have hk1 := hl.1
  have hpos : ∀ (a : Nat) (b : Int), hasP ρ cc a b → 0 ≤ posP ρ cc a b := by
    rintro a b (⟨rfl, g1, g2⟩ | ⟨g1, g2, g3, g4⟩ | ⟨g1, g2, g3⟩)
    · rw [pos_r]; omega
    · obtain ⟨r, rfl⟩ : ∃ r, a = ρ + 2 + r := ⟨a - ρ - 2, by omega⟩
      rw [pos_g (by omega)]; omega
    · obtain ⟨j, j0, j1, rfl, -, -⟩ := in_c hρ g1
      rw [pos_c hρ j0 j1]; omega
  refine ⟨by rw [l102]; exact Nat.le_of_ble_eq_true rfl, ?_⟩
  rw [l102]
  show Ev d 102 0 [some (vr ρ), some (vr k), none] [] (SX I ch kd) Q
  refine ev_s1 (L' := [some (vr ρ), some (vr k), none]) (S' := [vr k]) k102_0 rfl rfl ?_
  refine ev_virt (a := []) (S' := []) k102_1 rfl (Nat.le_of_ble_eq_true rfl) (by omega) (hl.2.1) (by omega) ?_
  refine c_rewind hl (?_)
  rw [rds_0 (ρ := ρ) (cc := cc) (n := 0) rfl hpos]
  show Ev d 102 4 [some (vr ρ), some (vr k), none] [] (SX (rds I ρ cc k 0) ch kd) Q
  refine ev_s1 (L' := [some (vr ρ), some (vr k), none]) (S' := [vr ρ]) k102_4 rfl rfl ?_
  refine ev_s1 (L' := [some (vr ρ), some (vr k), none]) (S' := [vr k, vr ρ]) k102_5 rfl rfl ?_
  refine ev_virt (a := []) (S' := [vr ρ]) k102_6 rfl (Nat.le_of_ble_eq_true rfl) (by omega) (hl.2.1) (by omega) ?_
  refine c_nextR hρ hl hI hkρ hsz (n := 0) (n2 := 1) (by omega) (by omega) (by omega) (?_)
  show Ev d 102 9 [some (vr ρ), some (vr k), none] [vi (I (k + 1) 0), vr ρ] (SX (up (rds I ρ cc k 0) k 2 1) ch kd) Q
  refine ev_putI k102_9 (by omega) (s0) ?_
  show Ev d 102 12 [some (vr ρ), some (vr k), none] [] (SX (up (up (rds I ρ cc k 0) k 2 1) ρ 6 (I (k + 1) 0)) ch kd) Q
  rw [rds_s hρ (a0 := ρ) (b0 := 6) (n := 0) (n2 := 1) (by omega) (Or.inl ⟨rfl, by decide, by decide⟩) (by rw [pos_r]; decide) (by decide)]
  refine ev_s1 (L' := [some (vr ρ), some (vr k), none]) (S' := [vr ρ]) k102_12 rfl rfl ?_
  refine ev_s1 (L' := [some (vr ρ), some (vr k), none]) (S' := [vr k, vr ρ]) k102_13 rfl rfl ?_
  refine ev_virt (a := []) (S' := [vr ρ]) k102_14 rfl (Nat.le_of_ble_eq_true rfl) (by omega) (hl.2.1) (by omega) ?_
  refine c_nextR hρ hl hI hkρ hsz (n := 1) (n2 := 2) (by omega) (by omega) (by omega) (?_)
  show Ev d 102 17 [some (vr ρ), some (vr k), none] [vi (I (k + 1) 1), vr ρ] (SX (up (rds I ρ cc k 1) k 2 2) ch kd) Q
  refine ev_putI k102_17 (by omega) (s0) ?_
  show Ev d 102 20 [some (vr ρ), some (vr k), none] [] (SX (up (up (rds I ρ cc k 1) k 2 2) ρ 7 (I (k + 1) 1)) ch kd) Q
  rw [rds_s hρ (a0 := ρ) (b0 := 7) (n := 1) (n2 := 2) (by omega) (Or.inl ⟨rfl, by decide, by decide⟩) (by rw [pos_r]; decide) (by decide)]
  refine ev_s1 (L' := [some (vr ρ), some (vr k), none]) (S' := [vr ρ]) k102_20 rfl rfl ?_
  refine ev_s1 (L' := [some (vr ρ), some (vr k), none]) (S' := [vr k, vr ρ]) k102_21 rfl rfl ?_
  refine ev_virt (a := []) (S' := [vr ρ]) k102_22 rfl (Nat.le_of_ble_eq_true rfl) (by omega) (hl.2.1) (by omega) ?_
  refine c_nextR hρ hl hI hkρ hsz (n := 2) (n2 := 3) (by omega) (by omega) (by omega) (?_)
  show Ev d 102 25 [some (vr ρ), some (vr k), none] [vi (I (k + 1) 2), vr ρ] (SX (up (rds I ρ cc k 2) k 2 3) ch kd) Q
  refine ev_putI k102_25 (by omega) (s0) ?_
  show Ev d 102 28 [some (vr ρ), some (vr k), none] [] (SX (up (up (rds I ρ cc k 2) k 2 3) ρ 8 (I (k + 1) 2)) ch kd) Q
  rw [rds_s hρ (a0 := ρ) (b0 := 8) (n := 2) (n2 := 3) (by omega) (Or.inl ⟨rfl, by decide, by decide⟩) (by rw [pos_r]; decide) (by decide)]
  refine ev_s1 (L' := [some (vr ρ), some (vr k), none]) (S' := [vi 0]) k102_28 rfl rfl ?_
  refine ev_s1 (L' := [some (vr ρ), some (vr k), some (vi 0)]) (S' := []) k102_29 rfl rfl ?_
  exact l_readK hρ hI hd hl hkρ hsz hQ 6 0 (by omega) (by omega)
