/-! what the reader does, in the style: every store that is so -/
theorem rdst_id {I : Nat → Int → Int} {p μ : Int} (h3 : I 24 3 = p) (h4 : I 24 4 = μ) : rdst I p μ = I := by
  funext a b
  unfold rdst up
  by_cases q4 : a = 24 ∧ b = 4
  · rw [if_pos q4, q4.1, q4.2, h4]
  · rw [if_neg q4]
    by_cases q3 : a = 24 ∧ b = 3
    · rw [if_pos q3, q3.1, q3.2, h3]
    · rw [if_neg q3]
def chP (T : Int → Int) (n p : Int) : Int := if 5 ≤ n then p else cP6 T p
def chM (T : Int → Int) (n p : Int) : Int := if 5 ≤ n then 3 else cM6 T p
def guP (T : Int → Int) (n p : Int) : Int := if 5 ≤ n then p else gP4 T p
def guM (T : Int → Int) (n p : Int) : Int := if 5 ≤ n then 3 else gM4 T p
/-- a chair of the draft as it was told from a place on -/
def tolC (I : Nat → Int → Int) (kd : Nat → Nat) (T : Int → Int) (p n : Int) : Prop := kd (dcc n) = 7 + Int.toNat (kindF (T p)) ∧ I (dcc n) 1 = cV1 T p ∧ I (dcc n) 2 = cV2 T p ∧ I (dcc n) 3 = cV3 T p ∧ I (dcc n) 4 = 0 ∧ I (dcc n) 5 = -1000000
def tolG (I : Nat → Int → Int) (T : Int → Int) (p n : Int) : Prop := I 31 n = gV1 T p ∧ I 32 n = gV2 T p ∧ I 33 n = -1000000 ∧ I 34 n = -1000000
theorem ch_rng {I : Nat → Int → Int} {n p : Int} (p0 : 0 ≤ p) (p1 : p < I 25 1) : 0 ≤ chP (tapF I) n p ∧ chP (tapF I) n p ≤ I 25 1 ∧ 0 ≤ chM (tapF I) n p ∧ chM (tapF I) n p ≤ 3 := by
  obtain ⟨-, -, -, -, -, a6⟩ := c_all (I := I) p0 p1
  unfold chP chM
  split <;> omega
theorem gu_rng {I : Nat → Int → Int} {n p : Int} (p0 : 0 ≤ p) (p1 : p < I 25 1) : 0 ≤ guP (tapF I) n p ∧ guP (tapF I) n p ≤ I 25 1 ∧ 0 ≤ guM (tapF I) n p ∧ guM (tapF I) n p ≤ 3 := by
  obtain ⟨-, -, -, a4⟩ := g_all (I := I) p0 p1
  unfold guP guM
  split <;> omega
theorem g_readChair {d : Nat} {I : Nat → Int → Int} {ch : Int → Nat} {kd : Nat → Nat} {Q : Option jV → jS → Prop} (hI : Rg I) (z0 : 0 ≤ I 25 1) (z1 : I 25 1 ≤ 100) {p n : Int} (e3 : I 24 3 = p) (e4 : I 24 4 = 0) (p0 : 0 ≤ p) (hk : kindF (tapF I p) ≠ 0) (en : I 29 6 = n) (n0 : 0 ≤ n) (hd : 4 ≤ d)
    (hB : chM (tapF I) n p ≠ 0 → ∀ I', Rg I' → I' 24 3 = chP (tapF I) n p → I' 24 4 = chM (tapF I) n p → (∀ (a : Nat) (b : Int), a ≠ 24 → I' a b = I a b) → Q none (SX I' ch kd))
    (hG : chM (tapF I) n p = 0 → n < 5 → ∀ I' kd', Rg I' → I' 24 3 = chP (tapF I) n p → I' 24 4 = 0 → I' 29 6 = n + 1 → tolC I' kd' (tapF I) p n → (∀ (a : Nat) (b : Int), a ≠ 24 → a ≠ dcc n → (a ≠ 29 ∨ b ≠ 6) → I' a b = I a b) → (∀ a, a ≠ dcc n → kd' a = kd a) → Q none (SX I' ch kd')) : Cl d 64 [vr 24] (SX I ch kd) Q := by
  have pz := tap_end (kind_tap hk)
  have kr := kind_rng (tapF I p)
  obtain ⟨a1, a2, a3, a4, a5, a6⟩ := c_all p0 pz
  have ok := @c_ok (tapF I) p
  have e := rdst_id e3 e4
  have key : Cl d 64 [vr 24] (SX (rdst I p 0) ch kd) Q := by
    refine c_readChair hI z0 z1 p0 hk (by omega) (fun h => ?_) (fun h h2 => ?_) (fun h h2 => ?_) hd
    · have q1 : chM (tapF I) n p = 3 := by unfold chM; rw [if_pos (by omega)]
      have q2 : chP (tapF I) n p = p := by unfold chP; rw [if_pos (by omega)]
      rw [q1, q2] at hB
      exact hB (by decide) _ (rdst_rg hI (by omega) (by omega) (by omega) (by omega)) rdst_p rdst_m (fun a b q => rdst_o q)
    · have q1 : chM (tapF I) n p = cM6 (tapF I) p := by unfold chM; rw [if_neg (by omega)]
      have q2 : chP (tapF I) n p = cP6 (tapF I) p := by unfold chP; rw [if_neg (by omega)]
      rw [q1, q2] at hB
      exact hB h2 _ (rdst_rg hI (by omega) (by omega) (by omega) (by omega)) rdst_p rdst_m (fun a b q => rdst_o q)
    · have q1 : chM (tapF I) n p = cM6 (tapF I) p := by unfold chM; rw [if_neg (by omega)]
      have q2 : chP (tapF I) n p = cP6 (tapF I) p := by unfold chP; rw [if_neg (by omega)]
      rw [q1, q2] at hG
      have hd35 : 35 ≤ dcc n := by unfold dcc; omega
      have ok := ok h2
      rw [en]
      refine hG h2 (by omega) _ _ ?_ ?_ ?_ ?_ ?_ ?_ ?_
      · unfold adC
        exact rg_up (rg_up (rg_up (rg_up (rg_up (rg_up (rdst_rg hI (by omega) (by omega) (by omega) (by omega)) (by omega) (by omega)) (by omega) (by omega)) (by omega) (by omega)) (by omega) (by omega)) (by omega) (by omega)) (by rw [rdst_o (by decide)]; omega) (by rw [rdst_o (by decide)]; omega)
      · unfold adC
        rw [upN (by omega), upN (by omega), upN (by omega), upN (by omega), upN (by omega), upN (by omega)]
        exact rdst_p
      · unfold adC
        rw [upN (by omega), upN (by omega), upN (by omega), upN (by omega), upN (by omega), upN (by omega)]
        exact rdst_m.trans h2
      · unfold adC
        rw [upE rfl rfl, rdst_o (by decide), en]
      · unfold adC tolC
        refine ⟨by unfold kdU; rw [if_pos rfl], ?_, ?_, ?_, ?_, ?_⟩
        · rw [upN (by omega), upN (by omega), upN (by omega), upN (by omega), upN (by omega), upE rfl rfl]
        · rw [upN (by omega), upN (by omega), upN (by omega), upN (by omega), upE rfl rfl]
        · rw [upN (by omega), upN (by omega), upN (by omega), upE rfl rfl]
        · rw [upN (by omega), upN (by omega), upE rfl rfl]
        · rw [upN (by omega), upE rfl rfl]
      · intro a b x1 x2 x3
        unfold adC
        rw [upN (by omega), upN (by omega), upN (by omega), upN (by omega), upN (by omega), upN (by omega)]
        exact rdst_o x1
      · intro a x1
        unfold kdU
        rw [if_neg x1]
  rw [e] at key
  exact key
theorem g_readGuest {d : Nat} {I : Nat → Int → Int} {ch : Int → Nat} {kd : Nat → Nat} {Q : Option jV → jS → Prop} (hI : Rg I) (z0 : 0 ≤ I 25 1) (z1 : I 25 1 ≤ 100) {p n : Int} (e3 : I 24 3 = p) (e4 : I 24 4 = 0) (p0 : 0 ≤ p) (pz : p < I 25 1) (en : I 29 7 = n) (n0 : 0 ≤ n) (hd : 4 ≤ d)
    (hB : guM (tapF I) n p ≠ 0 → ∀ I', Rg I' → I' 24 3 = guP (tapF I) n p → I' 24 4 = guM (tapF I) n p → (∀ (a : Nat) (b : Int), a ≠ 24 → I' a b = I a b) → Q none (SX I' ch kd))
    (hG : guM (tapF I) n p = 0 → n < 5 → ∀ I', Rg I' → I' 24 3 = guP (tapF I) n p → I' 24 4 = 0 → I' 29 7 = n + 1 → tolG I' (tapF I) p n → (∀ (a : Nat) (b : Int), a ≠ 24 → ((a < 31 ∨ 34 < a) ∨ b ≠ n) → (a ≠ 29 ∨ b ≠ 7) → I' a b = I a b) → Q none (SX I' ch kd)) : Cl d 66 [vr 24] (SX I ch kd) Q := by
  obtain ⟨a1, a2, a3, a4⟩ := g_all p0 pz
  have ok := @g_ok (tapF I) p
  have e := rdst_id e3 e4
  have key : Cl d 66 [vr 24] (SX (rdst I p 0) ch kd) Q := by
    refine c_readGuest hI z0 z1 p0 pz (by omega) (fun h => ?_) (fun h h2 => ?_) (fun h h2 => ?_) hd
    · have q1 : guM (tapF I) n p = 3 := by unfold guM; rw [if_pos (by omega)]
      have q2 : guP (tapF I) n p = p := by unfold guP; rw [if_pos (by omega)]
      rw [q1, q2] at hB
      exact hB (by decide) _ (rdst_rg hI (by omega) (by omega) (by omega) (by omega)) rdst_p rdst_m (fun a b q => rdst_o q)
    · have q1 : guM (tapF I) n p = gM4 (tapF I) p := by unfold guM; rw [if_neg (by omega)]
      have q2 : guP (tapF I) n p = gP4 (tapF I) p := by unfold guP; rw [if_neg (by omega)]
      rw [q1, q2] at hB
      exact hB h2 _ (rdst_rg hI (by omega) (by omega) (by omega) (by omega)) rdst_p rdst_m (fun a b q => rdst_o q)
    · have q1 : guM (tapF I) n p = gM4 (tapF I) p := by unfold guM; rw [if_neg (by omega)]
      have q2 : guP (tapF I) n p = gP4 (tapF I) p := by unfold guP; rw [if_neg (by omega)]
      rw [q1, q2] at hG
      have ok := ok h2
      rw [en]
      refine hG h2 (by omega) _ ?_ ?_ ?_ ?_ ?_ ?_
      · unfold adG
        exact rg_up (rg_up (rg_up (rg_up (rg_up (rdst_rg hI (by omega) (by omega) (by omega) (by omega)) (by omega) (by omega)) (by omega) (by omega)) (by omega) (by omega)) (by omega) (by omega)) (by omega) (by omega)
      · unfold adG
        rw [upN (by omega), upN (by omega), upN (by omega), upN (by omega), upN (by omega)]
        exact rdst_p
      · unfold adG
        rw [upN (by omega), upN (by omega), upN (by omega), upN (by omega), upN (by omega)]
        exact rdst_m.trans h2
      · unfold adG
        rw [upE rfl rfl]
      · unfold adG tolG
        refine ⟨?_, ?_, ?_, ?_⟩
        · rw [upN (by omega), upN (by omega), upN (by omega), upN (by omega), upE rfl rfl]
        · rw [upN (by omega), upN (by omega), upN (by omega), upE rfl rfl]
        · rw [upN (by omega), upN (by omega), upE rfl rfl]
        · rw [upN (by omega), upE rfl rfl]
      · intro a b x1 x2 x3
        unfold adG
        rw [upN (by omega), upN (by omega), upN (by omega), upN (by omega), upN (by omega)]
        exact rdst_o x1
  rw [e] at key
  exact key
