/-! counts, sums, sets of bits -/
def cntF (p : Int → Bool) : Nat → Int
  | 0 => 0
  | n + 1 => cntF p n + (if p (n : Int) then 1 else 0)
def sumF (f : Int → Int) : Nat → Int
  | 0 => 0
  | n + 1 => sumF f n + f (n : Int)
def orB (b i : Int) : Int := ((Int.toNat b ||| Int.toNat (1 * 2 ^ Int.toNat i) : Nat) : Int)
def bitsF (p : Int → Bool) : Nat → Int
  | 0 => 0
  | n + 1 => if p (n : Int) then orB (bitsF p n) (n : Int) else bitsF p n
theorem cnt_rng (p : Int → Bool) : ∀ n : Nat, 0 ≤ cntF p n ∧ cntF p n ≤ n := by
  intro n
  induction n with
  | zero => simp [cntF]
  | succ n ih =>
    unfold cntF
    split <;> omega
theorem p2_eq (i : Nat) : Int.toNat (1 * 2 ^ Int.toNat (i : Int)) = 2 ^ i := by
  have h : (2 : Int) ^ i = ((2 ^ i : Nat) : Int) := (Int.natCast_pow 2 i).symm
  rw [Int.one_mul, Int.toNat_natCast, h]
  exact Int.toNat_natCast _
theorem p2_rng (i : Nat) (h : i < 20) : 0 ≤ (1 : Int) * 2 ^ Int.toNat (i : Int) ∧ (1 : Int) * 2 ^ Int.toNat (i : Int) < 2147483648 := by
  have h1 : (1 : Int) * 2 ^ Int.toNat (i : Int) = ((2 ^ i : Nat) : Int) := by
    rw [Int.one_mul, Int.toNat_natCast]
    exact (Int.natCast_pow 2 i).symm
  have h2 : 2 ^ i < 2 ^ 20 := Nat.pow_lt_pow_right (by decide) h
  have h3 : 2 ^ i < 2147483648 := Nat.lt_trans h2 (by decide)
  rw [h1]
  generalize 2 ^ i = z at h3
  omega
theorem cnt_t {p : Int → Bool} {n : Nat} (h : p (n : Int) = true) : cntF p (n + 1) = cntF p n + 1 := by rw [cntF, if_pos h]
theorem cnt_f {p : Int → Bool} {n : Nat} (h : p (n : Int) = false) : cntF p (n + 1) = cntF p n := by rw [cntF, if_neg (by rw [h]; decide), Int.add_zero]
theorem bits_t {p : Int → Bool} {n : Nat} (h : p (n : Int) = true) : bitsF p (n + 1) = orB (bitsF p n) (n : Int) := by rw [bitsF, if_pos h]
theorem bits_f {p : Int → Bool} {n : Nat} (h : p (n : Int) = false) : bitsF p (n + 1) = bitsF p n := by rw [bitsF, if_neg (by rw [h]; decide)]
theorem bits_rng (p : Int → Bool) : ∀ n : Nat, 0 ≤ bitsF p n ∧ (bitsF p n).toNat < 2 ^ n := by
  intro n
  induction n with
  | zero => exact ⟨by simp [bitsF], by simp [bitsF]⟩
  | succ n ih =>
    have h1 : (2 : Nat) ^ n < 2 ^ (n + 1) := Nat.pow_lt_pow_right (by decide) (by omega)
    unfold bitsF
    split
    · unfold orB
      refine ⟨Int.natCast_nonneg _, ?_⟩
      rw [Int.toNat_natCast, p2_eq]
      exact Nat.or_lt_two_pow (by omega) h1
    · exact ⟨ih.1, by omega⟩
theorem bits_lt (p : Int → Bool) {n : Nat} (hn : n ≤ 20) : 0 ≤ bitsF p n ∧ bitsF p n < 2147483648 := by
  have h := bits_rng p n
  have h2 : (2 : Nat) ^ n ≤ 2 ^ 20 := Nat.pow_le_pow_right (by decide) hn
  omega
theorem or0 {b : Int} (h : 0 ≤ b) : ((Int.toNat b ||| Int.toNat 0 : Nat) : Int) = b := by
  simp; omega

set_option maxHeartbeats 1000000 in
theorem l_firstFree {d : Nat} {I : Nat → Int → Int} {ch : Int → Nat} {kd : Nat → Nat} {Q : Option jV → jS → Prop} {ρ : Nat} {cc : Int → Nat} (hρ : isRm ρ cc ch kd) (hI : Rg I) (hd : 1 ≤ d) (hN0 : 0 ≤ I ρ 6) (hN : I ρ 6 ≤ 5) (hT : ∀ i : Nat, (i : Int) < I ρ 6 → (∀ j : Nat, j < i → I (cc j) 5 ≠ -1000000) → I (cc i) 5 = -1000000 → Q (some (vi (i : Int))) (SX I ch kd)) (hF : (∀ j : Nat, (j : Int) < I ρ 6 → I (cc j) 5 ≠ -1000000) → Q (some (vi (-1000000))) (SX I ch kd)) : ∀ (n : Nat) (i : Nat), I ρ 6 - i < n → ((i : Int) ≤ I ρ 6 ∨ i = 0) → (∀ j : Nat, j < i → I (cc j) 5 ≠ -1000000) → Ev d 97 2 [some (vr ρ), some (vi (i : Int))] [] (SX I ch kd) Q := by
  obtain ⟨s0, s1, s2, s3, s4, s5, q0, q1, q2, q3, q4, q5, hlt⟩ := rm_f hρ
  intro n
  induction n with
  | zero => intro i hn hi ha; exfalso; omega
  | succ n ih =>
    intro i hn hi ha
    refine ev_s1 (L' := [some (vr ρ), some (vi (i : Int))]) (S' := [vi (i : Int)]) k97_2 rfl rfl ?_
    refine ev_s1 (L' := [some (vr ρ), some (vi (i : Int))]) (S' := [vr ρ, vi (i : Int)]) k97_3 rfl rfl ?_
    refine ev_getI k97_4 (by omega) (s0) ?_
    show Ev d 97 7 [some (vr ρ), some (vi (i : Int))] [vi (I ρ 6), vi (i : Int)] (SX I ch kd) Q
    have rr1 := hI ρ 6
    refine ev_c_ge (t := 26) k97_7 rfl (by omega) (by omega) (by omega) (by omega) (fun h2 => ?_) (fun h2 => ?_)
    · refine ev_ldc k97_26 ?_
      refine ev_ireturn k97_28 ?_
      exact hF (fun j hj => ha j (by omega))
    · refine ev_s1 (L' := [some (vr ρ), some (vi (i : Int))]) (S' := [vr ρ]) k97_10 rfl rfl ?_
      refine ev_s1 (L' := [some (vr ρ), some (vi (i : Int))]) (S' := [vi (i : Int), vr ρ]) k97_11 rfl rfl ?_
      refine ev_virt (a := [vi (i : Int)]) (S' := []) k97_12 rfl (Nat.le_of_ble_eq_true rfl) (by omega) (s0) (by omega) ?_
      refine c_isTaken hρ hI (i := (i : Int)) (by omega) (by omega) (fun hh => ?_) (fun hh => ?_)
      · show Ev d 97 15 [some (vr ρ), some (vi (i : Int))] [vi 1] (SX I ch kd) Q
        refine ev_z_ne (t := 20) k97_15 rfl (by omega) (by omega) (fun _ => ?_) (fun h => absurd h (by decide))
        refine ev_s1 (L' := [some (vr ρ), some (vi ((i : Int) + 1))]) (S' := []) k97_20 rfl rfl ?_
        refine ev_goto (t := 2) k97_23 rfl ?_
        exact ih (i + 1) (by omega) (by omega) (fun j hj => by rcases Nat.lt_or_ge j i with q | q; exact ha j q; exact (show j = i by omega) ▸ hh)
      · show Ev d 97 15 [some (vr ρ), some (vi (i : Int))] [vi 0] (SX I ch kd) Q
        refine ev_z_ne (t := 20) k97_15 rfl (by omega) (by omega) (fun h => absurd h (by decide)) (fun _ => ?_)
        refine ev_s1 (L' := [some (vr ρ), some (vi (i : Int))]) (S' := [vi (i : Int)]) k97_18 rfl rfl ?_
        refine ev_ireturn k97_19 ?_
        exact hT i (by omega) ha (by omega)

set_option maxHeartbeats 1000000 in
theorem c_firstFree {d : Nat} {I : Nat → Int → Int} {ch : Int → Nat} {kd : Nat → Nat} {Q : Option jV → jS → Prop} {ρ : Nat} {cc : Int → Nat} (hρ : isRm ρ cc ch kd) (hI : Rg I) (hd : 1 ≤ d) (hN0 : 0 ≤ I ρ 6) (hN : I ρ 6 ≤ 5) (hT : ∀ i : Nat, (i : Int) < I ρ 6 → (∀ j : Nat, j < i → I (cc j) 5 ≠ -1000000) → I (cc i) 5 = -1000000 → Q (some (vi (i : Int))) (SX I ch kd)) (hF : (∀ j : Nat, (j : Int) < I ρ 6 → I (cc j) 5 ≠ -1000000) → Q (some (vi (-1000000))) (SX I ch kd)) : Cl d 97 [vr ρ] (SX I ch kd) Q := by
  obtain ⟨s0, s1, s2, s3, s4, s5, q0, q1, q2, q3, q4, q5, hlt⟩ := rm_f hρ
  refine ⟨by rw [l97]; exact Nat.le_of_ble_eq_true rfl, ?_⟩
  rw [l97]
  show Ev d 97 0 [some (vr ρ), none] [] (SX I ch kd) Q
  refine ev_s1 (L' := [some (vr ρ), none]) (S' := [vi 0]) k97_0 rfl rfl ?_
  refine ev_s1 (L' := [some (vr ρ), some (vi 0)]) (S' := []) k97_1 rfl rfl ?_
  exact l_firstFree hρ hI hd hN0 hN hT hF 6 0 (by omega) (Or.inr rfl) (fun j hj => absurd hj (Nat.not_lt_zero j))

set_option maxHeartbeats 1000000 in
theorem l_trioCount {d : Nat} {I : Nat → Int → Int} {ch : Int → Nat} {kd : Nat → Nat} {Q : Option jV → jS → Prop} {ρ : Nat} {cc : Int → Nat} (hρ : isRm ρ cc ch kd) (hI : Rg I) (hd : 1 ≤ d) (hN0 : 0 ≤ I ρ 6) (hN : I ρ 6 ≤ 5) (hQ : Q (some (vi (cntF (fun i => decide (I (cc (i + 1)) 3 = I (cc i) 3 ∧ I (cc (i + 2)) 3 = I (cc i) 3)) (I ρ 6 - 2).toNat))) (SX I ch kd)) : ∀ (n : Nat) (i : Nat) (t : Int), I ρ 6 - i < n → ((i : Int) ≤ I ρ 6 - 2 ∨ i = 0) → t = cntF (fun i => decide (I (cc (i + 1)) 3 = I (cc i) 3 ∧ I (cc (i + 2)) 3 = I (cc i) 3)) i → Ev d 95 4 [some (vr ρ), some (vi t), some (vi (i : Int))] [] (SX I ch kd) Q := by
  obtain ⟨s0, s1, s2, s3, s4, s5, q0, q1, q2, q3, q4, q5, hlt⟩ := rm_f hρ
  intro n
  induction n with
  | zero => intro i t hn hi ht; exfalso; omega
  | succ n ih =>
    intro i t hn hi ht
    refine ev_s1 (L' := [some (vr ρ), some (vi t), some (vi (i : Int))]) (S' := [vi (i : Int)]) k95_4 rfl rfl ?_
    refine ev_s1 (L' := [some (vr ρ), some (vi t), some (vi (i : Int))]) (S' := [vi 2, vi (i : Int)]) k95_5 rfl rfl ?_
    refine ev_s1 (L' := [some (vr ρ), some (vi t), some (vi (i : Int))]) (S' := [vi ((i : Int) + 2)]) k95_6 rfl rfl ?_
    refine ev_s1 (L' := [some (vr ρ), some (vi t), some (vi (i : Int))]) (S' := [vr ρ, vi ((i : Int) + 2)]) k95_7 rfl rfl ?_
    refine ev_getI k95_8 (by omega) (s0) ?_
    show Ev d 95 11 [some (vr ρ), some (vi t), some (vi (i : Int))] [vi (I ρ 6), vi ((i : Int) + 2)] (SX I ch kd) Q
    have rr1 := hI ρ 6
    refine ev_c_ge (t := 31) k95_11 rfl (by omega) (by omega) (by omega) (by omega) (fun h2 => ?_) (fun h2 => ?_)
    · refine ev_s1 (L' := [some (vr ρ), some (vi t), some (vi (i : Int))]) (S' := [vi t]) k95_31 rfl rfl ?_
      refine ev_ireturn k95_32 ?_
      rw [show (I ρ 6 - 2).toNat = i by omega, ← ht] at hQ
      exact hQ
    · refine ev_s1 (L' := [some (vr ρ), some (vi t), some (vi (i : Int))]) (S' := [vr ρ]) k95_14 rfl rfl ?_
      refine ev_s1 (L' := [some (vr ρ), some (vi t), some (vi (i : Int))]) (S' := [vi (i : Int), vr ρ]) k95_15 rfl rfl ?_
      refine ev_virt (a := [vi (i : Int)]) (S' := []) k95_16 rfl (Nat.le_of_ble_eq_true rfl) (by omega) (s0) (by omega) ?_
      refine c_isTrio hρ hI (i := (i : Int)) (by omega) (by omega) (fun hh => ?_) (fun hh => ?_)
      · show Ev d 95 19 [some (vr ρ), some (vi t), some (vi (i : Int))] [vi 1] (SX I ch kd) Q
        refine ev_z_eq (t := 25) k95_19 rfl (by omega) (by omega) (fun h => absurd h (by decide)) (fun _ => ?_)
        refine ev_s1 (L' := [some (vr ρ), some (vi (t + 1)), some (vi (i : Int))]) (S' := []) k95_22 rfl rfl ?_
        refine ev_s1 (L' := [some (vr ρ), some (vi (t + 1)), some (vi ((i : Int) + 1))]) (S' := []) k95_25 rfl rfl ?_
        refine ev_goto (t := 4) k95_28 rfl ?_
        exact ih (i + 1) _ (by omega) (by omega) (by rw [ht]; exact (cnt_t (decide_eq_true hh)).symm)
      · show Ev d 95 19 [some (vr ρ), some (vi t), some (vi (i : Int))] [vi 0] (SX I ch kd) Q
        refine ev_z_eq (t := 25) k95_19 rfl (by omega) (by omega) (fun _ => ?_) (fun h => absurd h (by decide))
        refine ev_s1 (L' := [some (vr ρ), some (vi t), some (vi ((i : Int) + 1))]) (S' := []) k95_25 rfl rfl ?_
        refine ev_goto (t := 4) k95_28 rfl ?_
        exact ih (i + 1) _ (by omega) (by omega) (by rw [ht]; exact (cnt_f (decide_eq_false hh)).symm)

set_option maxHeartbeats 1000000 in
theorem c_trioCount {d : Nat} {I : Nat → Int → Int} {ch : Int → Nat} {kd : Nat → Nat} {Q : Option jV → jS → Prop} {ρ : Nat} {cc : Int → Nat} (hρ : isRm ρ cc ch kd) (hI : Rg I) (hd : 1 ≤ d) (hN0 : 0 ≤ I ρ 6) (hN : I ρ 6 ≤ 5) (hQ : Q (some (vi (cntF (fun i => decide (I (cc (i + 1)) 3 = I (cc i) 3 ∧ I (cc (i + 2)) 3 = I (cc i) 3)) (I ρ 6 - 2).toNat))) (SX I ch kd)) : Cl d 95 [vr ρ] (SX I ch kd) Q := by
  obtain ⟨s0, s1, s2, s3, s4, s5, q0, q1, q2, q3, q4, q5, hlt⟩ := rm_f hρ
  refine ⟨by rw [l95]; exact Nat.le_of_ble_eq_true rfl, ?_⟩
  rw [l95]
  show Ev d 95 0 [some (vr ρ), none, none] [] (SX I ch kd) Q
  refine ev_s1 (L' := [some (vr ρ), none, none]) (S' := [vi 0]) k95_0 rfl rfl ?_
  refine ev_s1 (L' := [some (vr ρ), some (vi 0), none]) (S' := []) k95_1 rfl rfl ?_
  refine ev_s1 (L' := [some (vr ρ), some (vi 0), none]) (S' := [vi 0]) k95_2 rfl rfl ?_
  refine ev_s1 (L' := [some (vr ρ), some (vi 0), some (vi 0)]) (S' := []) k95_3 rfl rfl ?_
  exact l_trioCount hρ hI hd hN0 hN hQ 6 0 0 (by omega) (Or.inr rfl) rfl

set_option maxHeartbeats 1000000 in
theorem l_seatedGuests {d : Nat} {I : Nat → Int → Int} {ch : Int → Nat} {kd : Nat → Nat} {Q : Option jV → jS → Prop} {ρ : Nat} {cc : Int → Nat} (hρ : isRm ρ cc ch kd) (hI : Rg I) (hd : 1 ≤ d) (hN0 : 0 ≤ I ρ 7) (hN : I ρ 7 ≤ 5) (hQ : Q (some (vi (bitsF (fun i => decide (I (ρ + 4) i ≠ -1000000)) (I ρ 7).toNat))) (SX I ch kd)) : ∀ (n : Nat) (i : Nat) (t : Int), I ρ 7 - i < n → ((i : Int) ≤ I ρ 7 ∨ i = 0) → t = bitsF (fun i => decide (I (ρ + 4) i ≠ -1000000)) i → Ev d 98 4 [some (vr ρ), some (vi t), some (vi (i : Int))] [] (SX I ch kd) Q := by
  obtain ⟨s0, s1, s2, s3, s4, s5, q0, q1, q2, q3, q4, q5, hlt⟩ := rm_f hρ
  intro n
  induction n with
  | zero => intro i t hn hi ht; exfalso; omega
  | succ n ih =>
    intro i t hn hi ht
    refine ev_s1 (L' := [some (vr ρ), some (vi t), some (vi (i : Int))]) (S' := [vi (i : Int)]) k98_4 rfl rfl ?_
    refine ev_s1 (L' := [some (vr ρ), some (vi t), some (vi (i : Int))]) (S' := [vr ρ, vi (i : Int)]) k98_5 rfl rfl ?_
    refine ev_getI k98_6 (by omega) (s0) ?_
    show Ev d 98 9 [some (vr ρ), some (vi t), some (vi (i : Int))] [vi (I ρ 7), vi (i : Int)] (SX I ch kd) Q
    have rr1 := hI ρ 7
    refine ev_c_ge (t := 32) k98_9 rfl (by omega) (by omega) (by omega) (by omega) (fun h2 => ?_) (fun h2 => ?_)
    · refine ev_s1 (L' := [some (vr ρ), some (vi t), some (vi (i : Int))]) (S' := [vi t]) k98_32 rfl rfl ?_
      refine ev_ireturn k98_33 ?_
      rw [show (I ρ 7).toNat = i by omega, ← ht] at hQ
      exact hQ
    · refine ev_s1 (L' := [some (vr ρ), some (vi t), some (vi (i : Int))]) (S' := [vr ρ]) k98_12 rfl rfl ?_
      refine ev_s1 (L' := [some (vr ρ), some (vi t), some (vi (i : Int))]) (S' := [vi (i : Int), vr ρ]) k98_13 rfl rfl ?_
      refine ev_virt (a := [vi (i : Int)]) (S' := []) k98_14 rfl (Nat.le_of_ble_eq_true rfl) (by omega) (s0) (by omega) ?_
      refine c_isSeated hρ hI (i := (i : Int)) (by omega) (by omega) (fun hh => ?_) (fun hh => ?_)
      · show Ev d 98 17 [some (vr ρ), some (vi t), some (vi (i : Int))] [vi 1] (SX I ch kd) Q
        refine ev_z_eq (t := 26) k98_17 rfl (by omega) (by omega) (fun h => absurd h (by decide)) (fun _ => ?_)
        refine ev_s1 (L' := [some (vr ρ), some (vi t), some (vi (i : Int))]) (S' := [vi t]) k98_20 rfl rfl ?_
        refine ev_s1 (L' := [some (vr ρ), some (vi t), some (vi (i : Int))]) (S' := [vi 1, vi t]) k98_21 rfl rfl ?_
        refine ev_s1 (L' := [some (vr ρ), some (vi t), some (vi (i : Int))]) (S' := [vi (i : Int), vi 1, vi t]) k98_22 rfl rfl ?_
        refine ev_ishl k98_23 (by omega) (by omega) ?_
        refine ev_ior k98_24 (by have := bits_lt (fun i => decide (I (ρ + 4) i ≠ -1000000)) (n := i) (by omega); omega) (by have := bits_lt (fun i => decide (I (ρ + 4) i ≠ -1000000)) (n := i) (by omega); omega) ((p2_rng i (by omega)).1) ((p2_rng i (by omega)).2) ?_
        refine ev_s1 (L' := [some (vr ρ), some (vi ((Int.toNat t ||| Int.toNat (1 * 2 ^ Int.toNat (i : Int)) : Nat) : Int)), some (vi (i : Int))]) (S' := []) k98_25 rfl rfl ?_
        refine ev_s1 (L' := [some (vr ρ), some (vi ((Int.toNat t ||| Int.toNat (1 * 2 ^ Int.toNat (i : Int)) : Nat) : Int)), some (vi ((i : Int) + 1))]) (S' := []) k98_26 rfl rfl ?_
        refine ev_goto (t := 4) k98_29 rfl ?_
        exact ih (i + 1) _ (by omega) (by omega) (by rw [bits_t (decide_eq_true hh), ← ht]; rfl)
      · show Ev d 98 17 [some (vr ρ), some (vi t), some (vi (i : Int))] [vi 0] (SX I ch kd) Q
        refine ev_z_eq (t := 26) k98_17 rfl (by omega) (by omega) (fun _ => ?_) (fun h => absurd h (by decide))
        refine ev_s1 (L' := [some (vr ρ), some (vi t), some (vi ((i : Int) + 1))]) (S' := []) k98_26 rfl rfl ?_
        refine ev_goto (t := 4) k98_29 rfl ?_
        exact ih (i + 1) _ (by omega) (by omega) (by rw [bits_f (decide_eq_false hh)]; exact ht)

set_option maxHeartbeats 1000000 in
theorem c_seatedGuests {d : Nat} {I : Nat → Int → Int} {ch : Int → Nat} {kd : Nat → Nat} {Q : Option jV → jS → Prop} {ρ : Nat} {cc : Int → Nat} (hρ : isRm ρ cc ch kd) (hI : Rg I) (hd : 1 ≤ d) (hN0 : 0 ≤ I ρ 7) (hN : I ρ 7 ≤ 5) (hQ : Q (some (vi (bitsF (fun i => decide (I (ρ + 4) i ≠ -1000000)) (I ρ 7).toNat))) (SX I ch kd)) : Cl d 98 [vr ρ] (SX I ch kd) Q := by
  obtain ⟨s0, s1, s2, s3, s4, s5, q0, q1, q2, q3, q4, q5, hlt⟩ := rm_f hρ
  refine ⟨by rw [l98]; exact Nat.le_of_ble_eq_true rfl, ?_⟩
  rw [l98]
  show Ev d 98 0 [some (vr ρ), none, none] [] (SX I ch kd) Q
  refine ev_s1 (L' := [some (vr ρ), none, none]) (S' := [vi 0]) k98_0 rfl rfl ?_
  refine ev_s1 (L' := [some (vr ρ), some (vi 0), none]) (S' := []) k98_1 rfl rfl ?_
  refine ev_s1 (L' := [some (vr ρ), some (vi 0), none]) (S' := [vi 0]) k98_2 rfl rfl ?_
  refine ev_s1 (L' := [some (vr ρ), some (vi 0), some (vi 0)]) (S' := []) k98_3 rfl rfl ?_
  exact l_seatedGuests hρ hI hd hN0 hN hQ 6 0 0 (by omega) (Or.inr rfl) rfl

set_option maxHeartbeats 1000000 in
theorem l_takenChairs {d : Nat} {I : Nat → Int → Int} {ch : Int → Nat} {kd : Nat → Nat} {Q : Option jV → jS → Prop} {ρ : Nat} {cc : Int → Nat} (hρ : isRm ρ cc ch kd) (hI : Rg I) (hd : 1 ≤ d) (hN0 : 0 ≤ I ρ 6) (hN : I ρ 6 ≤ 5) (hQ : Q (some (vi (bitsF (fun i => decide (I (cc i) 5 ≠ -1000000)) (I ρ 6).toNat))) (SX I ch kd)) : ∀ (n : Nat) (i : Nat) (t : Int), I ρ 6 - i < n → ((i : Int) ≤ I ρ 6 ∨ i = 0) → t = bitsF (fun i => decide (I (cc i) 5 ≠ -1000000)) i → Ev d 99 4 [some (vr ρ), some (vi t), some (vi (i : Int))] [] (SX I ch kd) Q := by
  obtain ⟨s0, s1, s2, s3, s4, s5, q0, q1, q2, q3, q4, q5, hlt⟩ := rm_f hρ
  intro n
  induction n with
  | zero => intro i t hn hi ht; exfalso; omega
  | succ n ih =>
    intro i t hn hi ht
    refine ev_s1 (L' := [some (vr ρ), some (vi t), some (vi (i : Int))]) (S' := [vi (i : Int)]) k99_4 rfl rfl ?_
    refine ev_s1 (L' := [some (vr ρ), some (vi t), some (vi (i : Int))]) (S' := [vr ρ, vi (i : Int)]) k99_5 rfl rfl ?_
    refine ev_getI k99_6 (by omega) (s0) ?_
    show Ev d 99 9 [some (vr ρ), some (vi t), some (vi (i : Int))] [vi (I ρ 6), vi (i : Int)] (SX I ch kd) Q
    have rr1 := hI ρ 6
    refine ev_c_ge (t := 32) k99_9 rfl (by omega) (by omega) (by omega) (by omega) (fun h2 => ?_) (fun h2 => ?_)
    · refine ev_s1 (L' := [some (vr ρ), some (vi t), some (vi (i : Int))]) (S' := [vi t]) k99_32 rfl rfl ?_
      refine ev_ireturn k99_33 ?_
      rw [show (I ρ 6).toNat = i by omega, ← ht] at hQ
      exact hQ
    · refine ev_s1 (L' := [some (vr ρ), some (vi t), some (vi (i : Int))]) (S' := [vr ρ]) k99_12 rfl rfl ?_
      refine ev_s1 (L' := [some (vr ρ), some (vi t), some (vi (i : Int))]) (S' := [vi (i : Int), vr ρ]) k99_13 rfl rfl ?_
      refine ev_virt (a := [vi (i : Int)]) (S' := []) k99_14 rfl (Nat.le_of_ble_eq_true rfl) (by omega) (s0) (by omega) ?_
      refine c_isTaken hρ hI (i := (i : Int)) (by omega) (by omega) (fun hh => ?_) (fun hh => ?_)
      · show Ev d 99 17 [some (vr ρ), some (vi t), some (vi (i : Int))] [vi 1] (SX I ch kd) Q
        refine ev_z_eq (t := 26) k99_17 rfl (by omega) (by omega) (fun h => absurd h (by decide)) (fun _ => ?_)
        refine ev_s1 (L' := [some (vr ρ), some (vi t), some (vi (i : Int))]) (S' := [vi t]) k99_20 rfl rfl ?_
        refine ev_s1 (L' := [some (vr ρ), some (vi t), some (vi (i : Int))]) (S' := [vi 1, vi t]) k99_21 rfl rfl ?_
        refine ev_s1 (L' := [some (vr ρ), some (vi t), some (vi (i : Int))]) (S' := [vi (i : Int), vi 1, vi t]) k99_22 rfl rfl ?_
        refine ev_ishl k99_23 (by omega) (by omega) ?_
        refine ev_ior k99_24 (by have := bits_lt (fun i => decide (I (cc i) 5 ≠ -1000000)) (n := i) (by omega); omega) (by have := bits_lt (fun i => decide (I (cc i) 5 ≠ -1000000)) (n := i) (by omega); omega) ((p2_rng i (by omega)).1) ((p2_rng i (by omega)).2) ?_
        refine ev_s1 (L' := [some (vr ρ), some (vi ((Int.toNat t ||| Int.toNat (1 * 2 ^ Int.toNat (i : Int)) : Nat) : Int)), some (vi (i : Int))]) (S' := []) k99_25 rfl rfl ?_
        refine ev_s1 (L' := [some (vr ρ), some (vi ((Int.toNat t ||| Int.toNat (1 * 2 ^ Int.toNat (i : Int)) : Nat) : Int)), some (vi ((i : Int) + 1))]) (S' := []) k99_26 rfl rfl ?_
        refine ev_goto (t := 4) k99_29 rfl ?_
        exact ih (i + 1) _ (by omega) (by omega) (by rw [bits_t (decide_eq_true hh), ← ht]; rfl)
      · show Ev d 99 17 [some (vr ρ), some (vi t), some (vi (i : Int))] [vi 0] (SX I ch kd) Q
        refine ev_z_eq (t := 26) k99_17 rfl (by omega) (by omega) (fun _ => ?_) (fun h => absurd h (by decide))
        refine ev_s1 (L' := [some (vr ρ), some (vi t), some (vi ((i : Int) + 1))]) (S' := []) k99_26 rfl rfl ?_
        refine ev_goto (t := 4) k99_29 rfl ?_
        exact ih (i + 1) _ (by omega) (by omega) (by rw [bits_f (decide_eq_false hh)]; exact ht)

set_option maxHeartbeats 1000000 in
theorem c_takenChairs {d : Nat} {I : Nat → Int → Int} {ch : Int → Nat} {kd : Nat → Nat} {Q : Option jV → jS → Prop} {ρ : Nat} {cc : Int → Nat} (hρ : isRm ρ cc ch kd) (hI : Rg I) (hd : 1 ≤ d) (hN0 : 0 ≤ I ρ 6) (hN : I ρ 6 ≤ 5) (hQ : Q (some (vi (bitsF (fun i => decide (I (cc i) 5 ≠ -1000000)) (I ρ 6).toNat))) (SX I ch kd)) : Cl d 99 [vr ρ] (SX I ch kd) Q := by
  obtain ⟨s0, s1, s2, s3, s4, s5, q0, q1, q2, q3, q4, q5, hlt⟩ := rm_f hρ
  refine ⟨by rw [l99]; exact Nat.le_of_ble_eq_true rfl, ?_⟩
  rw [l99]
  show Ev d 99 0 [some (vr ρ), none, none] [] (SX I ch kd) Q
  refine ev_s1 (L' := [some (vr ρ), none, none]) (S' := [vi 0]) k99_0 rfl rfl ?_
  refine ev_s1 (L' := [some (vr ρ), some (vi 0), none]) (S' := []) k99_1 rfl rfl ?_
  refine ev_s1 (L' := [some (vr ρ), some (vi 0), none]) (S' := [vi 0]) k99_2 rfl rfl ?_
  refine ev_s1 (L' := [some (vr ρ), some (vi 0), some (vi 0)]) (S' := []) k99_3 rfl rfl ?_
  exact l_takenChairs hρ hI hd hN0 hN hQ 6 0 0 (by omega) (Or.inr rfl) rfl

set_option maxHeartbeats 1000000 in
theorem l_firstTrio {d : Nat} {I : Nat → Int → Int} {ch : Int → Nat} {kd : Nat → Nat} {Q : Option jV → jS → Prop} {ρ : Nat} {cc : Int → Nat} (hρ : isRm ρ cc ch kd) (hI : Rg I) (hd : 1 ≤ d) (hN0 : 0 ≤ I ρ 6) (hN : I ρ 6 ≤ 5) (hT : ∀ i : Nat, (i : Int) + 2 < I ρ 6 → (∀ j : Nat, j < i → ¬ (I (cc (j + 1)) 3 = I (cc j) 3 ∧ I (cc (j + 2)) 3 = I (cc j) 3)) → (I (cc (i + 1)) 3 = I (cc i) 3 ∧ I (cc (i + 2)) 3 = I (cc i) 3) → Q (some (vi (i : Int))) (SX I ch kd)) (hF : (∀ j : Nat, (j : Int) + 2 < I ρ 6 → ¬ (I (cc (j + 1)) 3 = I (cc j) 3 ∧ I (cc (j + 2)) 3 = I (cc j) 3)) → Q (some (vi (-1000000))) (SX I ch kd)) : ∀ (n : Nat) (i : Nat), I ρ 6 - i < n → ((i : Int) ≤ I ρ 6 - 2 ∨ i = 0) → (∀ j : Nat, j < i → ¬ (I (cc (j + 1)) 3 = I (cc j) 3 ∧ I (cc (j + 2)) 3 = I (cc j) 3)) → Ev d 96 2 [some (vr ρ), some (vi (i : Int))] [] (SX I ch kd) Q := by
  obtain ⟨s0, s1, s2, s3, s4, s5, q0, q1, q2, q3, q4, q5, hlt⟩ := rm_f hρ
  intro n
  induction n with
  | zero => intro i hn hi ha; exfalso; omega
  | succ n ih =>
    intro i hn hi ha
    refine ev_s1 (L' := [some (vr ρ), some (vi (i : Int))]) (S' := [vi (i : Int)]) k96_2 rfl rfl ?_
    refine ev_s1 (L' := [some (vr ρ), some (vi (i : Int))]) (S' := [vi 2, vi (i : Int)]) k96_3 rfl rfl ?_
    refine ev_s1 (L' := [some (vr ρ), some (vi (i : Int))]) (S' := [vi ((i : Int) + 2)]) k96_4 rfl rfl ?_
    refine ev_s1 (L' := [some (vr ρ), some (vi (i : Int))]) (S' := [vr ρ, vi ((i : Int) + 2)]) k96_5 rfl rfl ?_
    refine ev_getI k96_6 (by omega) (s0) ?_
    show Ev d 96 9 [some (vr ρ), some (vi (i : Int))] [vi (I ρ 6), vi ((i : Int) + 2)] (SX I ch kd) Q
    have rr1 := hI ρ 6
    refine ev_c_ge (t := 28) k96_9 rfl (by omega) (by omega) (by omega) (by omega) (fun h2 => ?_) (fun h2 => ?_)
    · refine ev_ldc k96_28 ?_
      refine ev_ireturn k96_30 ?_
      exact hF (fun j hj => ha j (by omega))
    · refine ev_s1 (L' := [some (vr ρ), some (vi (i : Int))]) (S' := [vr ρ]) k96_12 rfl rfl ?_
      refine ev_s1 (L' := [some (vr ρ), some (vi (i : Int))]) (S' := [vi (i : Int), vr ρ]) k96_13 rfl rfl ?_
      refine ev_virt (a := [vi (i : Int)]) (S' := []) k96_14 rfl (Nat.le_of_ble_eq_true rfl) (by omega) (s0) (by omega) ?_
      refine c_isTrio hρ hI (i := (i : Int)) (by omega) (by omega) (fun hh => ?_) (fun hh => ?_)
      · show Ev d 96 17 [some (vr ρ), some (vi (i : Int))] [vi 1] (SX I ch kd) Q
        refine ev_z_eq (t := 22) k96_17 rfl (by omega) (by omega) (fun h => absurd h (by decide)) (fun _ => ?_)
        refine ev_s1 (L' := [some (vr ρ), some (vi (i : Int))]) (S' := [vi (i : Int)]) k96_20 rfl rfl ?_
        refine ev_ireturn k96_21 ?_
        exact hT i (by omega) ha hh
      · show Ev d 96 17 [some (vr ρ), some (vi (i : Int))] [vi 0] (SX I ch kd) Q
        refine ev_z_eq (t := 22) k96_17 rfl (by omega) (by omega) (fun _ => ?_) (fun h => absurd h (by decide))
        refine ev_s1 (L' := [some (vr ρ), some (vi ((i : Int) + 1))]) (S' := []) k96_22 rfl rfl ?_
        refine ev_goto (t := 2) k96_25 rfl ?_
        exact ih (i + 1) (by omega) (by omega) (fun j hj => by rcases Nat.lt_or_ge j i with q | q; exact ha j q; exact (show j = i by omega) ▸ hh)

set_option maxHeartbeats 1000000 in
theorem c_firstTrio {d : Nat} {I : Nat → Int → Int} {ch : Int → Nat} {kd : Nat → Nat} {Q : Option jV → jS → Prop} {ρ : Nat} {cc : Int → Nat} (hρ : isRm ρ cc ch kd) (hI : Rg I) (hd : 1 ≤ d) (hN0 : 0 ≤ I ρ 6) (hN : I ρ 6 ≤ 5) (hT : ∀ i : Nat, (i : Int) + 2 < I ρ 6 → (∀ j : Nat, j < i → ¬ (I (cc (j + 1)) 3 = I (cc j) 3 ∧ I (cc (j + 2)) 3 = I (cc j) 3)) → (I (cc (i + 1)) 3 = I (cc i) 3 ∧ I (cc (i + 2)) 3 = I (cc i) 3) → Q (some (vi (i : Int))) (SX I ch kd)) (hF : (∀ j : Nat, (j : Int) + 2 < I ρ 6 → ¬ (I (cc (j + 1)) 3 = I (cc j) 3 ∧ I (cc (j + 2)) 3 = I (cc j) 3)) → Q (some (vi (-1000000))) (SX I ch kd)) : Cl d 96 [vr ρ] (SX I ch kd) Q := by
  obtain ⟨s0, s1, s2, s3, s4, s5, q0, q1, q2, q3, q4, q5, hlt⟩ := rm_f hρ
  refine ⟨by rw [l96]; exact Nat.le_of_ble_eq_true rfl, ?_⟩
  rw [l96]
  show Ev d 96 0 [some (vr ρ), none] [] (SX I ch kd) Q
  refine ev_s1 (L' := [some (vr ρ), none]) (S' := [vi 0]) k96_0 rfl rfl ?_
  refine ev_s1 (L' := [some (vr ρ), some (vi 0)]) (S' := []) k96_1 rfl rfl ?_
  exact l_firstTrio hρ hI hd hN0 hN hT hF 6 0 (by omega) (Or.inr rfl) (fun j hj => absurd hj (Nat.not_lt_zero j))

set_option maxHeartbeats 1000000 in
theorem l_allManners {d : Nat} {I : Nat → Int → Int} {ch : Int → Nat} {kd : Nat → Nat} {Q : Option jV → jS → Prop} {ρ : Nat} {cc : Int → Nat} (hρ : isRm ρ cc ch kd) (hI : Rg I) (hN0 : 0 ≤ I ρ 6) (hN : I ρ 6 ≤ 5) (hQ : Q (some (vi (sumF (fun i => I (cc i) 1) (I ρ 6).toNat))) (SX I ch kd)) : ∀ (n : Nat) (i : Nat) (t : Int), I ρ 6 - i < n → ((i : Int) ≤ I ρ 6 ∨ i = 0) → t = sumF (fun i => I (cc i) 1) i → Ev d 100 4 [some (vr ρ), some (vi t), some (vi (i : Int))] [] (SX I ch kd) Q := by
  obtain ⟨s0, s1, s2, s3, s4, s5, q0, q1, q2, q3, q4, q5, hlt⟩ := rm_f hρ
  intro n
  induction n with
  | zero => intro i t hn hi ht; exfalso; omega
  | succ n ih =>
    intro i t hn hi ht
    refine ev_s1 (L' := [some (vr ρ), some (vi t), some (vi (i : Int))]) (S' := [vi (i : Int)]) k100_4 rfl rfl ?_
    refine ev_s1 (L' := [some (vr ρ), some (vi t), some (vi (i : Int))]) (S' := [vr ρ, vi (i : Int)]) k100_5 rfl rfl ?_
    refine ev_getI k100_6 (by omega) (s0) ?_
    show Ev d 100 9 [some (vr ρ), some (vi t), some (vi (i : Int))] [vi (I ρ 6), vi (i : Int)] (SX I ch kd) Q
    have rr1 := hI ρ 6
    refine ev_c_ge (t := 30) k100_9 rfl (by omega) (by omega) (by omega) (by omega) (fun h2 => ?_) (fun h2 => ?_)
    · refine ev_s1 (L' := [some (vr ρ), some (vi t), some (vi (i : Int))]) (S' := [vi t]) k100_30 rfl rfl ?_
      refine ev_ireturn k100_31 ?_
      rw [show (I ρ 6).toNat = i by omega, ← ht] at hQ
      exact hQ
    · refine ev_s1 (L' := [some (vr ρ), some (vi t), some (vi (i : Int))]) (S' := [vi t]) k100_12 rfl rfl ?_
      refine ev_s1 (L' := [some (vr ρ), some (vi t), some (vi (i : Int))]) (S' := [vr ρ, vi t]) k100_13 rfl rfl ?_
      refine ev_getR k100_14 (by omega) (s0) (q1) ?_
      refine ev_s1 (L' := [some (vr ρ), some (vi t), some (vi (i : Int))]) (S' := [vi (i : Int), vr (ρ + 1), vi t]) k100_17 rfl rfl ?_
      have hc3 := hρ.2.1 (i : Int) (by omega) (by omega)
      have hl3 := (shp_c hc3.2).1
      refine ev_aald (q := cc (i : Int)) k100_18 (by omega) (s1) (by decide) (by decide) (by omega) (by omega) (hc3.1) ?_
      refine ev_getI k100_19 (by omega) ((shp_c hc3.2).2) ?_
      show Ev d 100 22 [some (vr ρ), some (vi t), some (vi (i : Int))] [vi (I (cc (i : Int)) 1), vi t] (SX I ch kd) Q
      have rr4 := hI (cc (i : Int)) 1
      refine ev_s1 (L' := [some (vr ρ), some (vi t), some (vi (i : Int))]) (S' := [vi (t + (I (cc (i : Int)) 1))]) k100_22 rfl rfl ?_
      refine ev_s1 (L' := [some (vr ρ), some (vi (t + (I (cc (i : Int)) 1))), some (vi (i : Int))]) (S' := []) k100_23 rfl rfl ?_
      refine ev_s1 (L' := [some (vr ρ), some (vi (t + (I (cc (i : Int)) 1))), some (vi ((i : Int) + 1))]) (S' := []) k100_24 rfl rfl ?_
      refine ev_goto (t := 4) k100_27 rfl ?_
      exact ih (i + 1) _ (by omega) (by omega) (by rw [ht]; rfl)

set_option maxHeartbeats 1000000 in
theorem c_allManners {d : Nat} {I : Nat → Int → Int} {ch : Int → Nat} {kd : Nat → Nat} {Q : Option jV → jS → Prop} {ρ : Nat} {cc : Int → Nat} (hρ : isRm ρ cc ch kd) (hI : Rg I) (hN0 : 0 ≤ I ρ 6) (hN : I ρ 6 ≤ 5) (hQ : Q (some (vi (sumF (fun i => I (cc i) 1) (I ρ 6).toNat))) (SX I ch kd)) : Cl d 100 [vr ρ] (SX I ch kd) Q := by
  obtain ⟨s0, s1, s2, s3, s4, s5, q0, q1, q2, q3, q4, q5, hlt⟩ := rm_f hρ
  refine ⟨by rw [l100]; exact Nat.le_of_ble_eq_true rfl, ?_⟩
  rw [l100]
  show Ev d 100 0 [some (vr ρ), none, none] [] (SX I ch kd) Q
  refine ev_s1 (L' := [some (vr ρ), none, none]) (S' := [vi 0]) k100_0 rfl rfl ?_
  refine ev_s1 (L' := [some (vr ρ), some (vi 0), none]) (S' := []) k100_1 rfl rfl ?_
  refine ev_s1 (L' := [some (vr ρ), some (vi 0), none]) (S' := [vi 0]) k100_2 rfl rfl ?_
  refine ev_s1 (L' := [some (vr ρ), some (vi 0), some (vi 0)]) (S' := []) k100_3 rfl rfl ?_
  exact l_allManners hρ hI hN0 hN hQ 6 0 0 (by omega) (Or.inr rfl) rfl
