theorem bits_congr {p q : Int → Bool} : ∀ {n : Nat}, (∀ j : Nat, j < n → p (j : Int) = q (j : Int)) → bitsF p n = bitsF q n := by
  intro n
  induction n with
  | zero => intro _; rfl
  | succ n ih =>
    intro h
    rw [bitsF, bitsF, ih (fun j hj => h j (by omega)), h n (by omega)]
theorem cnt_congr {p q : Int → Bool} : ∀ {n : Nat}, (∀ j : Nat, j < n → p (j : Int) = q (j : Int)) → cntF p n = cntF q n := by
  intro n
  induction n with
  | zero => intro _; rfl
  | succ n ih =>
    intro h
    rw [cntF, cntF, ih (fun j hj => h j (by omega)), h n (by omega)]
theorem sum_congr {p q : Int → Int} : ∀ {n : Nat}, (∀ j : Nat, j < n → p (j : Int) = q (j : Int)) → sumF p n = sumF q n := by
  intro n
  induction n with
  | zero => intro _; rfl
  | succ n ih =>
    intro h
    rw [sumF, sumF, ih (fun j hj => h j (by omega)), h n (by omega)]
theorem cnt_tail {p : Int → Bool} {k : Nat} : ∀ {n : Nat}, k ≤ n → (∀ j : Nat, k ≤ j → j < n → p (j : Int) = false) → cntF p n = cntF p k := by
  intro n
  induction n with
  | zero => intro h _; rw [show k = 0 by omega]
  | succ n ih =>
    intro h hf
    rcases Nat.lt_or_ge n k with q | q
    · rw [show k = n + 1 by omega]
    · rw [cnt_f (hf n q (by omega))]
      exact ih q (fun j h1 h2 => hf j h1 (by omega))
def freW (w : Int → Int) : Int := firstF (fun c => decide (sitW w c = -1000000)) (w 1).toNat
def seaW (w : Int → Int) : Int := bitsF (fun g => decide (w (28 + 4 * g + 2) ≠ 0)) (w 2).toNat
def takW (w : Int → Int) : Int := bitsF (fun c => decide (sitW w c ≠ -1000000)) (w 1).toNat
section RO
variable {d : Nat} {I : Nat → Int → Int} {ch : Int → Nat} {kd : Nat → Nat} {Q : Option jV → jS → Prop} {ρ : Nat} {cc : Int → Nat} {u : Int → Int}
theorem g_free (hρ : isRm ρ cc ch kd) (hI : Rg I) (hR : RW I ρ cc kd u) (hw : OKW u) (hd : 1 ≤ d) (hQ : Q (some (vi (freW u))) (SX I ch kd)) : Cl d 97 [vr ρ] (SX I ch kd) Q := by
  have e6 := hR.1
  have w1 := hw.2.1
  refine c_firstFree hρ hI hd (by omega) (by omega) (fun i h1 h2 h3 => ?_) (fun h => ?_)
  · have e : freW u = (i : Int) := by
      refine first_at (decide_eq_true ?_) (fun j hj => decide_eq_false ?_) (by omega)
      · rw [← (hR.2.2.2.1 i (by omega) (by omega)).2.2.2.2.2]; exact h3
      · rw [← (hR.2.2.2.1 j (by omega) (by omega)).2.2.2.2.2]; exact h2 j hj
    rw [e] at hQ
    exact hQ
  · have e : freW u = -1000000 := by
      refine first_no (fun j hj => decide_eq_false ?_)
      rw [← (hR.2.2.2.1 j (by omega) (by omega)).2.2.2.2.2]; exact h j (by omega)
    rw [e] at hQ
    exact hQ
theorem g_seated (hρ : isRm ρ cc ch kd) (hI : Rg I) (hR : RW I ρ cc kd u) (hw : OKW u) {g : Int} (g0 : 0 ≤ g) (g1 : g < u 2) (hT : u (28 + 4 * g + 2) ≠ 0 → Q (some (vi 1)) (SX I ch kd)) (hF : u (28 + 4 * g + 2) = 0 → Q (some (vi 0)) (SX I ch kd)) : Cl d 86 [vr ρ, vi g] (SX I ch kd) Q := by
  have w2 := hw.2.2.1
  have e := (hR.2.2.2.2 g g0 g1).2.2.1
  have o := (hw.2.2.2.2.1 g g0 g1).2.2.1
  refine c_isSeated hρ hI g0 (by omega) (fun h => hT (fun q => ?_)) (fun h => hF ?_)
  · rw [if_pos q] at e; exact h e
  · by_cases q : u (28 + 4 * g + 2) = 0
    · exact q
    · rw [if_neg q] at e; omega
theorem g_taken (hρ : isRm ρ cc ch kd) (hI : Rg I) (hR : RW I ρ cc kd u) (hw : OKW u) {c : Int} (c0 : 0 ≤ c) (c1 : c < u 1) (hT : sitW u c ≠ -1000000 → Q (some (vi 1)) (SX I ch kd)) (hF : sitW u c = -1000000 → Q (some (vi 0)) (SX I ch kd)) : Cl d 87 [vr ρ, vi c] (SX I ch kd) Q := by
  have w1 := hw.2.1
  have e := (hR.2.2.2.1 c c0 c1).2.2.2.2.2
  refine c_isTaken hρ hI c0 (by omega) (fun h => hT (by rw [← e]; exact h)) (fun h => hF (by rw [← e]; omega))
theorem g_peace (hρ : isRm ρ cc ch kd) (hI : Rg I) (hR : RW I ρ cc kd u) (hw : OKW u) (hd : 2 ≤ d) (hQ : Q (some (vi (peW u))) (SX I ch kd)) : Cl d 92 [vr ρ] (SX I ch kd) Q := by
  have e6 := hR.1
  have e7 := hR.2.1
  have w1 := hw.2.1
  have w2 := hw.2.2.1
  refine c_peaceNow hρ hI hd (by omega) (by omega) (by omega) (by omega) (fun g g0 g1 => ?_) ?_
  · have e := (hR.2.2.2.2 g g0 (by omega)).2.2.2
    have o := (hw.2.2.2.2.1 g g0 (by omega)).2.2.2
    rw [e]
    split
    · decide
    · rename_i q; have := o q; omega
  · rw [hR.peace hw]; exact hQ
theorem g_mann (hρ : isRm ρ cc ch kd) (hI : Rg I) (hR : RW I ρ cc kd u) (hw : OKW u) (hQ : Q (some (vi (sumF (fun c => u (3 + 5 * c + 1)) (u 1).toNat))) (SX I ch kd)) : Cl d 100 [vr ρ] (SX I ch kd) Q := by
  have e6 := hR.1
  have w1 := hw.2.1
  refine c_allManners hρ hI (by omega) (by omega) ?_
  rw [e6, sum_congr (q := fun c => u (3 + 5 * c + 1)) (fun j hj => (hR.2.2.2.1 j (by omega) (by omega)).2.1)]
  exact hQ
theorem g_seas (hρ : isRm ρ cc ch kd) (hI : Rg I) (hR : RW I ρ cc kd u) (hw : OKW u) (hd : 1 ≤ d) (hQ : Q (some (vi (seaW u))) (SX I ch kd)) : Cl d 98 [vr ρ] (SX I ch kd) Q := by
  have e7 := hR.2.1
  have w2 := hw.2.2.1
  refine c_seatedGuests hρ hI hd (by omega) (by omega) ?_
  rw [e7, bits_congr (q := fun g => decide (u (28 + 4 * g + 2) ≠ 0)) (fun j hj => ?_)]
  · exact hQ
  · have e := (hR.2.2.2.2 j (by omega) (by omega)).2.2.1
    have o := (hw.2.2.2.2.1 j (by omega) (by omega)).2.2.1
    refine decide_eq_decide.mpr ?_
    rw [e]
    split <;> omega
theorem g_taks (hρ : isRm ρ cc ch kd) (hI : Rg I) (hR : RW I ρ cc kd u) (hw : OKW u) (hd : 1 ≤ d) (hQ : Q (some (vi (takW u))) (SX I ch kd)) : Cl d 99 [vr ρ] (SX I ch kd) Q := by
  have e6 := hR.1
  have w1 := hw.2.1
  refine c_takenChairs hρ hI hd (by omega) (by omega) ?_
  rw [e6, bits_congr (q := fun c => decide (sitW u c ≠ -1000000)) (fun j hj => ?_)]
  · exact hQ
  · rw [(hR.2.2.2.1 j (by omega) (by omega)).2.2.2.2.2]
theorem g_trios (hρ : isRm ρ cc ch kd) (hI : Rg I) (hR : RW I ρ cc kd u) (hw : OKW u) (hd : 1 ≤ d) (hQ : Q (some (vi (cntF (triB u) (u 1).toNat))) (SX I ch kd)) : Cl d 95 [vr ρ] (SX I ch kd) Q := by
  have e6 := hR.1
  have w1 := hw.2.1
  refine c_trioCount hρ hI hd (by omega) (by omega) ?_
  rw [e6, cnt_congr (q := triB u) (fun j hj => ?_)]
  · rw [cnt_tail (k := (u 1 - 2).toNat) (by omega) (fun j h1 h2 => by unfold triB; exact decide_eq_false (fun q => by omega))] at hQ
    exact hQ
  · have a0 := (hR.2.2.2.1 j (by omega) (by omega)).2.2.2.1
    have a1 := (hR.2.2.2.1 (j + 1) (by omega) (by omega)).2.2.2.1
    have a2 := (hR.2.2.2.1 (j + 2) (by omega) (by omega)).2.2.2.1
    rw [a0, a1, a2, show 3 + 5 * ((j : Int) + 1) + 3 = 3 + 5 * (j : Int) + 5 + 3 by omega, show 3 + 5 * ((j : Int) + 2) + 3 = 3 + 5 * (j : Int) + 10 + 3 by omega]
    unfold triB
    refine decide_eq_decide.mpr ⟨fun q => ⟨by omega, q.1, q.2⟩, fun q => q.2⟩
theorem g_trio1 (hρ : isRm ρ cc ch kd) (hI : Rg I) (hR : RW I ρ cc kd u) (hw : OKW u) (hd : 1 ≤ d) (hQ : Q (some (vi (firstF (triB u) (u 1).toNat))) (SX I ch kd)) : Cl d 96 [vr ρ] (SX I ch kd) Q := by
  have e6 := hR.1
  have w1 := hw.2.1
  have key : ∀ j : Nat, (j : Int) + 2 < u 1 → ((I (cc (j + 1)) 3 = I (cc j) 3 ∧ I (cc (j + 2)) 3 = I (cc j) 3) ↔ triB u j = true) := by
    intro j hj
    have a0 := (hR.2.2.2.1 j (by omega) (by omega)).2.2.2.1
    have a1 := (hR.2.2.2.1 (j + 1) (by omega) (by omega)).2.2.2.1
    have a2 := (hR.2.2.2.1 (j + 2) (by omega) (by omega)).2.2.2.1
    rw [a0, a1, a2, show 3 + 5 * ((j : Int) + 1) + 3 = 3 + 5 * (j : Int) + 5 + 3 by omega, show 3 + 5 * ((j : Int) + 2) + 3 = 3 + 5 * (j : Int) + 10 + 3 by omega]
    unfold triB
    rw [decide_eq_true_iff]
    exact ⟨fun q => ⟨by omega, q.1, q.2⟩, fun q => q.2⟩
  refine c_firstTrio hρ hI hd (by omega) (by omega) (fun i h1 h2 h3 => ?_) (fun h => ?_)
  · rw [first_at (i := i) ((key i (by omega)).mp h3) (fun j hj => by
      have := h2 j hj
      rw [key j (by omega)] at this
      exact Bool.eq_false_iff.mpr this) (by omega)] at hQ
    exact hQ
  · rw [first_no (fun j hj => by
      by_cases q : (j : Int) + 2 < u 1
      · have := h j (by omega)
        rw [key j q] at this
        exact Bool.eq_false_iff.mpr this
      · unfold triB; exact decide_eq_false (fun y => q y.1))] at hQ
    exact hQ
theorem g_seat (hρ : isRm ρ cc ch kd) (hI : Rg I) (hR : RW I ρ cc kd u) (hw : OKW u) (hK : ∀ i, 0 ≤ i → i < 5 → 8 ≤ kd (cc i) ∧ kd (cc i) ≤ 12) (hd : 4 ≤ d) {g c : Int} (g0 : 0 ≤ g) (g1 : g < u 2) (c0 : 0 ≤ c) (c1 : c < u 1) (ha : u (28 + 4 * g + 2) = 0) (hs : sitW u c = -1000000) (hQ : ∀ I', Rg I' → RW I' ρ cc kd (putsW u g c) → OKW (putsW u g c) → (∀ (a : Nat) (b : Int), (a < ρ ∨ ρ + 10 < a) → I' a b = I a b) → Q none (SX I' ch kd)) : Cl d 88 [vr ρ, vi g, vi c] (SX I ch kd) Q := by
  have w1 := hw.2.1
  have w2 := hw.2.2.1
  have hb := hρ.2.2.2 c c0 (by omega)
  obtain ⟨k0, k1, k2, k3, k4, k5⟩ := hR.2.2.2.1 c c0 c1
  obtain ⟨o0, o1, o2, o3⟩ := hR.2.2.2.2 g g0 g1
  obtain ⟨q0, q1, q2, q3, q4⟩ := hw.2.2.2.1 c c0 c1
  obtain ⟨p0, p1, p2, p3⟩ := hw.2.2.2.2.1 g g0 g1
  have hcr : CR I (cc c) := ⟨by omega, by omega, by omega, by omega, by omega, by omega⟩
  refine c_seatGuest hρ hI hd g0 (by omega) c0 (by omega) (hK c c0 (by omega)) hcr (by omega) (by omega) (by omega) (by omega) ?_
  have hbr := bear_rng (k := kd (cc c)) (m := I (cc c) 1) (s := I (cc c) 2) (t := I (cc c) 4) (o := I (ρ + 2) g) hcr.1 hcr.2.1 hcr.2.2.1 hcr.2.2.2.1 (by omega) (by omega)
  refine hQ _ (rg_up (rg_up (rg_up (sit_rg hI (by omega) (by omega)) (by omega) (by omega)) (by omega) (by omega)) (by omega) (by omega)) (hR.puts hρ hw g0 g1 c0 c1 ha hs) (puts_ok hw g0 g1 c0 c1 hs) (fun a b q => ?_)
  rw [upN (by omega), upN (by omega), upN (by omega), sit_o (by omega)]
theorem g_lift (hρ : isRm ρ cc ch kd) (hI : Rg I) (hR : RW I ρ cc kd u) (hw : OKW u) (hd : 1 ≤ d) {g : Int} (g0 : 0 ≤ g) (g1 : g < u 2) (ha : u (28 + 4 * g + 2) ≠ 0) (hQ : ∀ I', Rg I' → RW I' ρ cc kd (liftW u g) → OKW (liftW u g) → (∀ (a : Nat) (b : Int), (a < ρ ∨ ρ + 10 < a) → I' a b = I a b) → Q none (SX I' ch kd)) : Cl d 90 [vr ρ, vi g] (SX I ch kd) Q := by
  have w1 := hw.2.1
  have w2 := hw.2.2.1
  have e6 := hR.1
  have e := (hR.2.2.2.2 g g0 g1).2.2.1
  have o := (hw.2.2.2.2.1 g g0 g1).2.2.1
  rw [if_neg ha] at e
  have hb := hρ.2.2.2 (I (ρ + 4) g) (by omega) (by omega)
  refine c_liftGuest hρ hI g0 (by omega) (by omega) (by omega) hd (fun h => ?_) (fun h => absurd (show 0 ≤ I (ρ + 4) g ∧ I (ρ + 4) g < I ρ 6 by omega) h)
  refine hQ _ (rg_up (rg_up (rg_up hI (by omega) (by omega)) (by omega) (by omega)) (by omega) (by omega)) (hR.lift hρ hw g0 g1 ha rfl) (lift_ok hw g0) (fun a b q => ?_)
  rw [upN (by omega), upN (by omega), upN (by omega)]
end RO
