/-! a room being read from a page: its first n numbers have been read -/
def invC (cc : Int → Nat) (a : Nat) : Int := if a = cc 0 then 0 else if a = cc 1 then 1 else if a = cc 2 then 2 else if a = cc 3 then 3 else 4
def inC5 (cc : Int → Nat) (a : Nat) : Prop := a = cc 0 ∨ a = cc 1 ∨ a = cc 2 ∨ a = cc 3 ∨ a = cc 4
def hasP (ρ : Nat) (cc : Int → Nat) (a : Nat) (b : Int) : Prop := (a = ρ ∧ 6 ≤ b ∧ b ≤ 8) ∨ (ρ + 2 ≤ a ∧ a ≤ ρ + 5 ∧ 0 ≤ b ∧ b < 5) ∨ (inC5 cc a ∧ 1 ≤ b ∧ b ≤ 5)
def posP (ρ : Nat) (cc : Int → Nat) (a : Nat) (b : Int) : Int := if a = ρ then b - 6 else if a ≤ ρ + 5 then 33 + 4 * b + ((a - ρ - 2 : Nat) : Int) else 3 + 6 * invC cc a + b
noncomputable def rds (I : Nat → Int → Int) (ρ : Nat) (cc : Int → Nat) (k : Nat) (n : Int) : Nat → Int → Int := fun a b => if a = k ∧ b = 2 then n else @ite _ (hasP ρ cc a b ∧ posP ρ cc a b < n) (Classical.propDecidable _) (I (k + 1) (posP ρ cc a b)) (I a b)
section RD
variable {I : Nat → Int → Int} {ρ k : Nat} {cc : Int → Nat} {ch : Int → Nat} {kd : Nat → Nat} {n : Int}
theorem inv_c (hρ : isRm ρ cc ch kd) {i : Int} (h0 : 0 ≤ i) (h1 : i < 5) : invC cc (cc i) = i ∧ inC5 cc (cc i) := by
  have inj := hρ.2.2.1
  unfold invC inC5
  rcases (show i = 0 ∨ i = 1 ∨ i = 2 ∨ i = 3 ∨ i = 4 by omega) with rfl | rfl | rfl | rfl | rfl
  · simp
  · rw [if_neg (fun q => absurd (inj _ _ (by decide) (by decide) (by decide) (by decide) q) (by decide)), if_pos rfl]; simp
  · rw [if_neg (fun q => absurd (inj _ _ (by decide) (by decide) (by decide) (by decide) q) (by decide)), if_neg (fun q => absurd (inj _ _ (by decide) (by decide) (by decide) (by decide) q) (by decide)), if_pos rfl]; simp
  · rw [if_neg (fun q => absurd (inj _ _ (by decide) (by decide) (by decide) (by decide) q) (by decide)), if_neg (fun q => absurd (inj _ _ (by decide) (by decide) (by decide) (by decide) q) (by decide)), if_neg (fun q => absurd (inj _ _ (by decide) (by decide) (by decide) (by decide) q) (by decide)), if_pos rfl]; simp
  · rw [if_neg (fun q => absurd (inj _ _ (by decide) (by decide) (by decide) (by decide) q) (by decide)), if_neg (fun q => absurd (inj _ _ (by decide) (by decide) (by decide) (by decide) q) (by decide)), if_neg (fun q => absurd (inj _ _ (by decide) (by decide) (by decide) (by decide) q) (by decide)), if_neg (fun q => absurd (inj _ _ (by decide) (by decide) (by decide) (by decide) q) (by decide))]; simp
theorem in_c (hρ : isRm ρ cc ch kd) {a : Nat} (h : inC5 cc a) : ∃ i : Int, 0 ≤ i ∧ i < 5 ∧ a = cc i ∧ invC cc a = i ∧ ρ + 6 ≤ a ∧ a ≤ ρ + 10 := by
  have hb := hρ.2.2.2
  rcases h with rfl | rfl | rfl | rfl | rfl
  · exact ⟨0, by decide, by decide, rfl, (inv_c hρ (by decide) (by decide)).1, hb 0 (by decide) (by decide)⟩
  · exact ⟨1, by decide, by decide, rfl, (inv_c hρ (by decide) (by decide)).1, hb 1 (by decide) (by decide)⟩
  · exact ⟨2, by decide, by decide, rfl, (inv_c hρ (by decide) (by decide)).1, hb 2 (by decide) (by decide)⟩
  · exact ⟨3, by decide, by decide, rfl, (inv_c hρ (by decide) (by decide)).1, hb 3 (by decide) (by decide)⟩
  · exact ⟨4, by decide, by decide, rfl, (inv_c hρ (by decide) (by decide)).1, hb 4 (by decide) (by decide)⟩
theorem pos_r {b : Int} : posP ρ cc ρ b = b - 6 := by unfold posP; rw [if_pos rfl]
theorem pos_g {r : Nat} {b : Int} (h : r < 4) : posP ρ cc (ρ + 2 + r) b = 33 + 4 * b + r := by
  unfold posP
  rw [if_neg (by omega), if_pos (by omega), show ρ + 2 + r - ρ - 2 = r by omega]
theorem pos_c (hρ : isRm ρ cc ch kd) {i b : Int} (h0 : 0 ≤ i) (h1 : i < 5) : posP ρ cc (cc i) b = 3 + 6 * i + b := by
  have := hρ.2.2.2 i h0 h1
  unfold posP
  rw [if_neg (by omega), if_neg (by omega), (inv_c hρ h0 h1).1]
/-- a place on the page belongs to one number of the room -/
theorem pos_one (hρ : isRm ρ cc ch kd) {a a2 : Nat} {b b2 : Int} (h : hasP ρ cc a b) (h2 : hasP ρ cc a2 b2) (e : posP ρ cc a b = posP ρ cc a2 b2) : a = a2 ∧ b = b2 := by
  have key : ∀ {a : Nat} {b : Int}, hasP ρ cc a b → (a = ρ ∧ 6 ≤ b ∧ b ≤ 8 ∧ posP ρ cc a b = b - 6) ∨ (∃ r : Nat, r < 4 ∧ a = ρ + 2 + r ∧ 0 ≤ b ∧ b < 5 ∧ posP ρ cc a b = 33 + 4 * b + r) ∨ (∃ i : Int, 0 ≤ i ∧ i < 5 ∧ a = cc i ∧ 1 ≤ b ∧ b ≤ 5 ∧ posP ρ cc a b = 3 + 6 * i + b) := by
    intro a b h
    rcases h with ⟨rfl, h3, h4⟩ | ⟨h3, h4, h5, h6⟩ | ⟨h3, h4, h5⟩
    · exact Or.inl ⟨rfl, h3, h4, pos_r⟩
    · obtain ⟨r, rfl⟩ : ∃ r, a = ρ + 2 + r := ⟨a - ρ - 2, by omega⟩
      exact Or.inr (Or.inl ⟨r, by omega, rfl, h5, h6, pos_g (by omega)⟩)
    · obtain ⟨i, g0, g1, rfl, -, -⟩ := in_c hρ h3
      exact Or.inr (Or.inr ⟨i, g0, g1, rfl, h4, h5, pos_c hρ g0 g1⟩)
  rcases key h with ⟨rfl, p1, p2, p3⟩ | ⟨r, p0, rfl, p1, p2, p3⟩ | ⟨i, p0, p4, rfl, p1, p2, p3⟩ <;> rcases key h2 with ⟨rfl, q1, q2, q3⟩ | ⟨r2, q0, rfl, q1, q2, q3⟩ | ⟨i2, q0, q4, rfl, q1, q2, q3⟩ <;> rw [p3, q3] at e
  · exact ⟨rfl, by omega⟩
  · omega
  · omega
  · omega
  · exact ⟨by omega, by omega⟩
  · omega
  · omega
  · omega
  · have : i = i2 := by omega
    subst this
    exact ⟨rfl, by omega⟩
theorem rds_m : rds I ρ cc k n k 2 = n := by unfold rds; rw [if_pos ⟨rfl, rfl⟩]
theorem rds_o {a : Nat} {b : Int} (h : ¬ (a = k ∧ b = 2)) (h2 : ¬ hasP ρ cc a b) : rds I ρ cc k n a b = I a b := by unfold rds; rw [if_neg h, if_neg (fun q => h2 q.1)]
theorem rds_in {a : Nat} {b : Int} (h : ¬ (a = k ∧ b = 2)) (h2 : hasP ρ cc a b) (h3 : posP ρ cc a b < n) : rds I ρ cc k n a b = I (k + 1) (posP ρ cc a b) := by unfold rds; rw [if_neg h, if_pos ⟨h2, h3⟩]
theorem rds_s (hρ : isRm ρ cc ch kd) {a0 : Nat} {b0 n2 : Int} (hk : a0 ≠ k) (h : hasP ρ cc a0 b0) (hp : posP ρ cc a0 b0 = n) (e : n2 = n + 1) : up (up (rds I ρ cc k n) k 2 n2) a0 b0 (I (k + 1) n) = rds I ρ cc k n2 := by
  funext a b
  by_cases h0 : a = a0 ∧ b = b0
  · obtain ⟨rfl, rfl⟩ := h0
    rw [up_at, rds_in (fun q => hk q.1) h (by omega), hp]
  · rw [upN (I := up (rds I ρ cc k n) k 2 n2) (k := a0) (j := b0) (a := a) (b := b) (by omega)]
    by_cases h1 : a = k ∧ b = 2
    · obtain ⟨rfl, rfl⟩ := h1
      rw [up_at, rds_m]
    · rw [upN (I := rds I ρ cc k n) (k := k) (j := 2) (a := a) (b := b) (by omega)]
      by_cases h2 : hasP ρ cc a b
      · by_cases h3 : posP ρ cc a b < n
        · rw [rds_in h1 h2 h3, rds_in h1 h2 (by omega)]
        · by_cases h4 : posP ρ cc a b = n
          · exact absurd (pos_one hρ h2 h (h4.trans hp.symm)) h0
          · unfold rds
            rw [if_neg h1, if_neg h1, if_neg (fun q => h3 q.2), if_neg (fun q => h4 (by have := q.2; omega))]
      · rw [rds_o h1 h2, rds_o h1 h2]
theorem rds_k (hρ : isRm ρ cc ch kd) {n2 i : Int} (hn : n = 3 + 6 * i) (hi0 : 0 ≤ i) (hi1 : i < 5) (e : n2 = n + 1) : up (rds I ρ cc k n) k 2 n2 = rds I ρ cc k n2 := by
  funext a b
  by_cases h1 : a = k ∧ b = 2
  · obtain ⟨rfl, rfl⟩ := h1
    rw [up_at, rds_m]
  · rw [upN (I := rds I ρ cc k n) (k := k) (j := 2) (a := a) (b := b) (by omega)]
    by_cases h2 : hasP ρ cc a b
    · by_cases h3 : posP ρ cc a b < n
      · rw [rds_in h1 h2 h3, rds_in h1 h2 (by omega)]
      · have h4 : posP ρ cc a b ≠ n := by
          rcases h2 with ⟨rfl, g1, g2⟩ | ⟨g1, g2, g3, g4⟩ | ⟨g1, g2, g3⟩
          · rw [pos_r]; omega
          · obtain ⟨r, rfl⟩ : ∃ r, a = ρ + 2 + r := ⟨a - ρ - 2, by omega⟩
            rw [pos_g (by omega)]; omega
          · obtain ⟨j, j0, j1, rfl, -, -⟩ := in_c hρ g1
            rw [pos_c hρ j0 j1]; omega
        unfold rds
        rw [if_neg h1, if_neg h1, if_neg (fun q => h3 q.2), if_neg (fun q => h4 (by have := q.2; omega))]
    · rw [rds_o h1 h2, rds_o h1 h2]
theorem rds_rg (hI : Rg I) (h0 : 0 ≤ n) (h1 : n ≤ 100) : Rg (rds I ρ cc k n) := by
  intro a b
  have q1 := hI a b
  have q2 := hI (k + 1) (posP ρ cc a b)
  unfold rds
  split
  · omega
  · split <;> assumption
theorem rds_0 {n : Int} (hn : n = 0) (h : ∀ a b, hasP ρ cc a b → 0 ≤ posP ρ cc a b) : up I k 2 0 = rds I ρ cc k n := by
  subst hn
  funext a b
  by_cases h1 : a = k ∧ b = 2
  · obtain ⟨rfl, rfl⟩ := h1
    rw [up_at, rds_m]
  · rw [upN (I := I) (k := k) (j := 2) (a := a) (b := b) (by omega)]
    unfold rds
    rw [if_neg h1, if_neg (fun q => by have := h a b q.1; omega)]
end RD
