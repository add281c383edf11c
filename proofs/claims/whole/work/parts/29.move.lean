/-! links that change: a chair's kind, the room's chairs -/
def kdU (kd : Nat → Nat) (c q : Nat) : Nat → Nat := fun a => if a = c then q else kd a
def chU (ch : Int → Nat) (i : Int) (q : Nat) : Int → Nat := fun j => if j = i then q else ch j
theorem ch14 {c : Nat} (h : isCh c = true) : (c == 14) = false := by
  simp only [isCh, Bool.or_eq_true, Bool.and_eq_true, Nat.ble_eq] at h
  simp only [beq_eq_false_iff_ne]
  omega
theorem rX_kd {ch : Int → Nat} {kd : Nat → Nat} {c q : Nat} (h : isCh c = true) : up (rX ch kd) c 0 (some q) = rX ch (kdU kd c q) := by
  funext a b
  by_cases ha : a = c
  · subst ha
    by_cases hb : b = 0
    · subst hb
      rw [up_at, rX_c h]
      simp [kdU]
    · rw [up_off hb]
      unfold rX
      rw [ch14 h, h]
      simp [hb]
  · rw [show up (rX ch kd) c 0 (some q) a b = rX ch kd a b from by unfold up; rw [if_neg (fun q => ha q.1)]]
    unfold rX
    simp only [kdU, if_neg ha]
theorem rX_ch {ch : Int → Nat} {kd : Nat → Nat} {q : Nat} {i : Int} (h0 : 0 ≤ i) (h1 : i < 5) : up (rX ch kd) 14 i (some q) = rX (chU ch i q) kd := by
  funext a b
  by_cases ha : a = 14
  · subst ha
    by_cases hb : b = i
    · subst hb
      rw [up_at]
      simp [rX, chU, h0, h1]
    · rw [up_off hb]
      simp [rX, chU, hb]
  · rw [show up (rX ch kd) 14 i (some q) a b = rX ch kd a b from by unfold up; rw [if_neg (fun q => ha q.1)]]
    have h14 : (a == 14) = false := by simp only [beq_eq_false_iff_ne]; exact ha
    unfold rX
    rw [h14]
    rfl
/-- a chair's numbers taken from another's -/
def cpC (I : Nat → Int → Int) (c o : Nat) : Nat → Int → Int := fun a b => if a = c ∧ 1 ≤ b ∧ b ≤ 5 then I o b else I a b
theorem cp_ext {I J : Nat → Int → Int} {c o : Nat} (h1 : J c 1 = I o 1) (h2 : J c 2 = I o 2) (h3 : J c 3 = I o 3) (h4 : J c 4 = I o 4) (h5 : J c 5 = I o 5) (hf : ∀ (a : Nat) (b : Int), (a ≠ c ∨ b < 1 ∨ 5 < b) → J a b = I a b) : J = cpC I c o := by
  funext a b
  unfold cpC
  by_cases h : a = c ∧ 1 ≤ b ∧ b ≤ 5
  · rw [if_pos h]
    obtain ⟨rfl, h6, h7⟩ := h
    rcases (show b = 1 ∨ b = 2 ∨ b = 3 ∨ b = 4 ∨ b = 5 by omega) with rfl | rfl | rfl | rfl | rfl <;> assumption
  · rw [if_neg h]
    exact hf a b (by omega)

set_option maxHeartbeats 1000000 in
theorem c_takeAfter {d : Nat} {I : Nat → Int → Int} {ch : Int → Nat} {kd : Nat → Nat} {Q : Option jV → jS → Prop} {c o : Nat} (hc : isCh c = true) (ho : isCh o = true) (hco : c ≠ o) (hI : Rg I) (hQ : Q none (SX (cpC I c o) ch (kdU kd c (kd o)))) : Cl d 10 [vr c, vr o] (SX I ch kd) Q := by
  have hcl := (shp_c hc).1
  have hol := (shp_c ho).1
  have f0_0 : I c 1 = I c 1 := rfl
  have f0_1 : I c 2 = I c 2 := rfl
  have f0_2 : I c 3 = I c 3 := rfl
  have f0_3 : I c 4 = I c 4 := rfl
  have f0_4 : I c 5 = I c 5 := rfl
  have f0_5 : I o 1 = I o 1 := rfl
  have f0_6 : I o 2 = I o 2 := rfl
  have f0_7 : I o 3 = I o 3 := rfl
  have f0_8 : I o 4 = I o 4 := rfl
  have f0_9 : I o 5 = I o 5 := rfl
  refine ⟨by rw [l10]; exact Nat.le_of_ble_eq_true rfl, ?_⟩
  rw [l10]
  show Ev d 10 0 [some (vr c), some (vr o)] [] (SX I ch kd) Q
  refine ev_s1 (L' := [some (vr c), some (vr o)]) (S' := [vr c]) k10_0 rfl rfl ?_
  refine ev_s1 (L' := [some (vr c), some (vr o)]) (S' := [vr o, vr c]) k10_1 rfl rfl ?_
  refine ev_getR k10_2 (by omega) ((shp_c ho).2) (rX_c ho) ?_
  refine ev_putR k10_5 (by omega) ((shp_c hc).2) ?_
  rw [show up (rX ch kd) c ((0 : Nat) : Int) (some (kd o)) = rX ch (kdU kd c (kd o)) from rX_kd hc]
  show Ev d 10 8 [some (vr c), some (vr o)] [] (SX I ch (kdU kd c (kd o))) Q
  refine ev_s1 (L' := [some (vr c), some (vr o)]) (S' := [vr c]) k10_8 rfl rfl ?_
  refine ev_s1 (L' := [some (vr c), some (vr o)]) (S' := [vr o, vr c]) k10_9 rfl rfl ?_
  refine ev_getI k10_10 (by omega) ((shp_c ho).2) ?_
  show Ev d 10 13 [some (vr c), some (vr o)] [vi (I o 1), vr c] (SX I ch (kdU kd c (kd o))) Q
  have rr1 := hI o 1
  refine ev_putI k10_13 (by omega) ((shp_c hc).2) ?_
  show Ev d 10 16 [some (vr c), some (vr o)] [] (SX (up I c 1 (I o 1)) ch (kdU kd c (kd o))) Q
  have hI2 := rg_up hI (k := c) (j := 1) (z := I o 1) (by omega) (by omega)
  generalize hE2 : up I c 1 (I o 1) = I2 at hI2 ⊢
  have f2_0 : I2 c 1 = I o 1 := by rw [← hE2]; exact upE rfl rfl
  have f2_1 : I2 c 2 = I c 2 := by rw [← hE2]; exact (upN (Or.inr (by decide))).trans f0_1
  have f2_2 : I2 c 3 = I c 3 := by rw [← hE2]; exact (upN (Or.inr (by decide))).trans f0_2
  have f2_3 : I2 c 4 = I c 4 := by rw [← hE2]; exact (upN (Or.inr (by decide))).trans f0_3
  have f2_4 : I2 c 5 = I c 5 := by rw [← hE2]; exact (upN (Or.inr (by decide))).trans f0_4
  have f2_5 : I2 o 1 = I o 1 := by rw [← hE2]; exact (upN (Or.inl (by omega))).trans f0_5
  have f2_6 : I2 o 2 = I o 2 := by rw [← hE2]; exact (upN (Or.inl (by omega))).trans f0_6
  have f2_7 : I2 o 3 = I o 3 := by rw [← hE2]; exact (upN (Or.inl (by omega))).trans f0_7
  have f2_8 : I2 o 4 = I o 4 := by rw [← hE2]; exact (upN (Or.inl (by omega))).trans f0_8
  have f2_9 : I2 o 5 = I o 5 := by rw [← hE2]; exact (upN (Or.inl (by omega))).trans f0_9
  have g2 : ∀ (a : Nat) (b : Int), (a ≠ c ∨ b < 1 ∨ 5 < b) → I2 a b = I a b := fun a b hf => by rw [← hE2]; exact (upN (by omega)).trans ((fun a b _ => rfl : ∀ (a : Nat) (b : Int), (a ≠ c ∨ b < 1 ∨ 5 < b) → I a b = I a b) a b hf)
  refine ev_s1 (L' := [some (vr c), some (vr o)]) (S' := [vr c]) k10_16 rfl rfl ?_
  refine ev_s1 (L' := [some (vr c), some (vr o)]) (S' := [vr o, vr c]) k10_17 rfl rfl ?_
  refine ev_getI k10_18 (by omega) ((shp_c ho).2) ?_
  show Ev d 10 21 [some (vr c), some (vr o)] [vi (I2 o 2), vr c] (SX I2 ch (kdU kd c (kd o))) Q
  have rr3 := hI2 o 2
  rw [f2_6]
  rw [f2_6] at rr3
  refine ev_putI k10_21 (by omega) ((shp_c hc).2) ?_
  show Ev d 10 24 [some (vr c), some (vr o)] [] (SX (up I2 c 2 (I o 2)) ch (kdU kd c (kd o))) Q
  have hI4 := rg_up hI2 (k := c) (j := 2) (z := I o 2) (by omega) (by omega)
  generalize hE4 : up I2 c 2 (I o 2) = I4 at hI4 ⊢
  have f4_0 : I4 c 1 = I o 1 := by rw [← hE4]; exact (upN (Or.inr (by decide))).trans f2_0
  have f4_1 : I4 c 2 = I o 2 := by rw [← hE4]; exact upE rfl rfl
  have f4_2 : I4 c 3 = I c 3 := by rw [← hE4]; exact (upN (Or.inr (by decide))).trans f2_2
  have f4_3 : I4 c 4 = I c 4 := by rw [← hE4]; exact (upN (Or.inr (by decide))).trans f2_3
  have f4_4 : I4 c 5 = I c 5 := by rw [← hE4]; exact (upN (Or.inr (by decide))).trans f2_4
  have f4_5 : I4 o 1 = I o 1 := by rw [← hE4]; exact (upN (Or.inl (by omega))).trans f2_5
  have f4_6 : I4 o 2 = I o 2 := by rw [← hE4]; exact (upN (Or.inl (by omega))).trans f2_6
  have f4_7 : I4 o 3 = I o 3 := by rw [← hE4]; exact (upN (Or.inl (by omega))).trans f2_7
  have f4_8 : I4 o 4 = I o 4 := by rw [← hE4]; exact (upN (Or.inl (by omega))).trans f2_8
  have f4_9 : I4 o 5 = I o 5 := by rw [← hE4]; exact (upN (Or.inl (by omega))).trans f2_9
  have g4 : ∀ (a : Nat) (b : Int), (a ≠ c ∨ b < 1 ∨ 5 < b) → I4 a b = I a b := fun a b hf => by rw [← hE4]; exact (upN (by omega)).trans (g2 a b hf)
  refine ev_s1 (L' := [some (vr c), some (vr o)]) (S' := [vr c]) k10_24 rfl rfl ?_
  refine ev_s1 (L' := [some (vr c), some (vr o)]) (S' := [vr o, vr c]) k10_25 rfl rfl ?_
  refine ev_getI k10_26 (by omega) ((shp_c ho).2) ?_
  show Ev d 10 29 [some (vr c), some (vr o)] [vi (I4 o 3), vr c] (SX I4 ch (kdU kd c (kd o))) Q
  have rr5 := hI4 o 3
  rw [f4_7]
  rw [f4_7] at rr5
  refine ev_putI k10_29 (by omega) ((shp_c hc).2) ?_
  show Ev d 10 32 [some (vr c), some (vr o)] [] (SX (up I4 c 3 (I o 3)) ch (kdU kd c (kd o))) Q
  have hI6 := rg_up hI4 (k := c) (j := 3) (z := I o 3) (by omega) (by omega)
  generalize hE6 : up I4 c 3 (I o 3) = I6 at hI6 ⊢
  have f6_0 : I6 c 1 = I o 1 := by rw [← hE6]; exact (upN (Or.inr (by decide))).trans f4_0
  have f6_1 : I6 c 2 = I o 2 := by rw [← hE6]; exact (upN (Or.inr (by decide))).trans f4_1
  have f6_2 : I6 c 3 = I o 3 := by rw [← hE6]; exact upE rfl rfl
  have f6_3 : I6 c 4 = I c 4 := by rw [← hE6]; exact (upN (Or.inr (by decide))).trans f4_3
  have f6_4 : I6 c 5 = I c 5 := by rw [← hE6]; exact (upN (Or.inr (by decide))).trans f4_4
  have f6_5 : I6 o 1 = I o 1 := by rw [← hE6]; exact (upN (Or.inl (by omega))).trans f4_5
  have f6_6 : I6 o 2 = I o 2 := by rw [← hE6]; exact (upN (Or.inl (by omega))).trans f4_6
  have f6_7 : I6 o 3 = I o 3 := by rw [← hE6]; exact (upN (Or.inl (by omega))).trans f4_7
  have f6_8 : I6 o 4 = I o 4 := by rw [← hE6]; exact (upN (Or.inl (by omega))).trans f4_8
  have f6_9 : I6 o 5 = I o 5 := by rw [← hE6]; exact (upN (Or.inl (by omega))).trans f4_9
  have g6 : ∀ (a : Nat) (b : Int), (a ≠ c ∨ b < 1 ∨ 5 < b) → I6 a b = I a b := fun a b hf => by rw [← hE6]; exact (upN (by omega)).trans (g4 a b hf)
  refine ev_s1 (L' := [some (vr c), some (vr o)]) (S' := [vr c]) k10_32 rfl rfl ?_
  refine ev_s1 (L' := [some (vr c), some (vr o)]) (S' := [vr o, vr c]) k10_33 rfl rfl ?_
  refine ev_getI k10_34 (by omega) ((shp_c ho).2) ?_
  show Ev d 10 37 [some (vr c), some (vr o)] [vi (I6 o 4), vr c] (SX I6 ch (kdU kd c (kd o))) Q
  have rr7 := hI6 o 4
  rw [f6_8]
  rw [f6_8] at rr7
  refine ev_putI k10_37 (by omega) ((shp_c hc).2) ?_
  show Ev d 10 40 [some (vr c), some (vr o)] [] (SX (up I6 c 4 (I o 4)) ch (kdU kd c (kd o))) Q
  have hI8 := rg_up hI6 (k := c) (j := 4) (z := I o 4) (by omega) (by omega)
  generalize hE8 : up I6 c 4 (I o 4) = I8 at hI8 ⊢
  have f8_0 : I8 c 1 = I o 1 := by rw [← hE8]; exact (upN (Or.inr (by decide))).trans f6_0
  have f8_1 : I8 c 2 = I o 2 := by rw [← hE8]; exact (upN (Or.inr (by decide))).trans f6_1
  have f8_2 : I8 c 3 = I o 3 := by rw [← hE8]; exact (upN (Or.inr (by decide))).trans f6_2
  have f8_3 : I8 c 4 = I o 4 := by rw [← hE8]; exact upE rfl rfl
  have f8_4 : I8 c 5 = I c 5 := by rw [← hE8]; exact (upN (Or.inr (by decide))).trans f6_4
  have f8_5 : I8 o 1 = I o 1 := by rw [← hE8]; exact (upN (Or.inl (by omega))).trans f6_5
  have f8_6 : I8 o 2 = I o 2 := by rw [← hE8]; exact (upN (Or.inl (by omega))).trans f6_6
  have f8_7 : I8 o 3 = I o 3 := by rw [← hE8]; exact (upN (Or.inl (by omega))).trans f6_7
  have f8_8 : I8 o 4 = I o 4 := by rw [← hE8]; exact (upN (Or.inl (by omega))).trans f6_8
  have f8_9 : I8 o 5 = I o 5 := by rw [← hE8]; exact (upN (Or.inl (by omega))).trans f6_9
  have g8 : ∀ (a : Nat) (b : Int), (a ≠ c ∨ b < 1 ∨ 5 < b) → I8 a b = I a b := fun a b hf => by rw [← hE8]; exact (upN (by omega)).trans (g6 a b hf)
  refine ev_s1 (L' := [some (vr c), some (vr o)]) (S' := [vr c]) k10_40 rfl rfl ?_
  refine ev_s1 (L' := [some (vr c), some (vr o)]) (S' := [vr o, vr c]) k10_41 rfl rfl ?_
  refine ev_getI k10_42 (by omega) ((shp_c ho).2) ?_
  show Ev d 10 45 [some (vr c), some (vr o)] [vi (I8 o 5), vr c] (SX I8 ch (kdU kd c (kd o))) Q
  have rr9 := hI8 o 5
  rw [f8_9]
  rw [f8_9] at rr9
  refine ev_putI k10_45 (by omega) ((shp_c hc).2) ?_
  show Ev d 10 48 [some (vr c), some (vr o)] [] (SX (up I8 c 5 (I o 5)) ch (kdU kd c (kd o))) Q
  have hI10 := rg_up hI8 (k := c) (j := 5) (z := I o 5) (by omega) (by omega)
  generalize hE10 : up I8 c 5 (I o 5) = I10 at hI10 ⊢
  have f10_0 : I10 c 1 = I o 1 := by rw [← hE10]; exact (upN (Or.inr (by decide))).trans f8_0
  have f10_1 : I10 c 2 = I o 2 := by rw [← hE10]; exact (upN (Or.inr (by decide))).trans f8_1
  have f10_2 : I10 c 3 = I o 3 := by rw [← hE10]; exact (upN (Or.inr (by decide))).trans f8_2
  have f10_3 : I10 c 4 = I o 4 := by rw [← hE10]; exact (upN (Or.inr (by decide))).trans f8_3
  have f10_4 : I10 c 5 = I o 5 := by rw [← hE10]; exact upE rfl rfl
  have f10_5 : I10 o 1 = I o 1 := by rw [← hE10]; exact (upN (Or.inl (by omega))).trans f8_5
  have f10_6 : I10 o 2 = I o 2 := by rw [← hE10]; exact (upN (Or.inl (by omega))).trans f8_6
  have f10_7 : I10 o 3 = I o 3 := by rw [← hE10]; exact (upN (Or.inl (by omega))).trans f8_7
  have f10_8 : I10 o 4 = I o 4 := by rw [← hE10]; exact (upN (Or.inl (by omega))).trans f8_8
  have f10_9 : I10 o 5 = I o 5 := by rw [← hE10]; exact (upN (Or.inl (by omega))).trans f8_9
  have g10 : ∀ (a : Nat) (b : Int), (a ≠ c ∨ b < 1 ∨ 5 < b) → I10 a b = I a b := fun a b hf => by rw [← hE10]; exact (upN (by omega)).trans (g8 a b hf)
  refine ev_return k10_48 ?_
  have e := cp_ext (I := I) (J := I10) (c := c) (o := o) f10_0 f10_1 f10_2 f10_3 f10_4 g10
  rw [e]; exact hQ

theorem sit_rg {I : Nat → Int → Int} {c k : Nat} {o w : Int} (hI : Rg I) (o1 : 0 ≤ o) (o2 : o ≤ 9) : Rg (sitC I c k o w) := by
  intro a b
  have h1 := hI c 1
  have h2 := hI c 2
  have h4 := hI c 4
  have h := hI a b
  unfold sitC manA strA satA strW manW
  split
  · split
    · omega
    · split <;> omega
  · split
    · split <;> (try split) <;> omega
    · split
      · split <;> omega
      · exact h
theorem bear_rng {k : Nat} {m s t o : Int} (h1 : 0 ≤ m) (h2 : m ≤ 9) (h3 : 0 ≤ s) (h4 : s ≤ 16) (h5 : 0 ≤ o) (h6 : o ≤ 9) : 0 ≤ bearF k m s t o ∧ bearF k m s t o ≤ 9 := by
  have a1 := mix_rng h1 h2 h3 h4 h5 h6
  have a2 := mix_rng (m := (m + 1) % 10) (by omega) (by omega) h3 h4 h5 h6
  unfold bearF mixF
  repeat' split
  all_goals omega
theorem sit_o {I : Nat → Int → Int} {c k a : Nat} {o w b : Int} (h : a ≠ c ∨ b = 3 ∨ b = 5) : sitC I c k o w a b = I a b := by
  unfold sitC
  rw [if_neg (by omega), if_neg (by omega), if_neg (by omega)]
