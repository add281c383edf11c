/-! a room in the reference's words: a row of numbers w -/
def firstF (p : Int → Bool) : Nat → Int
  | 0 => -1000000
  | n + 1 => if firstF p n = -1000000 then (if p (n : Int) then (n : Int) else -1000000) else firstF p n
theorem first_no {p : Int → Bool} : ∀ {n : Nat}, (∀ j : Nat, j < n → p (j : Int) = false) → firstF p n = -1000000 := by
  intro n
  induction n with
  | zero => intro _; rfl
  | succ n ih =>
    intro h
    rw [firstF, if_pos (ih (fun j hj => h j (by omega))), h n (by omega)]
    rfl
theorem first_at {p : Int → Bool} {i : Nat} (hp : p (i : Int) = true) (h : ∀ j : Nat, j < i → p (j : Int) = false) : ∀ {n : Nat}, i < n → firstF p n = (i : Int) := by
  intro n
  induction n with
  | zero => intro q; omega
  | succ n ih =>
    intro q
    rw [firstF]
    rcases Nat.lt_or_ge i n with q2 | q2
    · rw [ih q2, if_neg (by omega)]
    · have e : i = n := by omega
      subst e
      rw [if_pos (first_no h), if_pos hp]
theorem first_cases (p : Int → Bool) : ∀ n : Nat, (firstF p n = -1000000 ∧ ∀ j : Nat, j < n → p (j : Int) = false) ∨ (∃ i : Nat, i < n ∧ firstF p n = (i : Int) ∧ p (i : Int) = true ∧ ∀ j : Nat, j < i → p (j : Int) = false) := by
  intro n
  induction n with
  | zero => exact Or.inl ⟨rfl, fun j hj => absurd hj (Nat.not_lt_zero j)⟩
  | succ n ih =>
    rcases ih with ⟨h1, h2⟩ | ⟨i, h1, h2, h3, h4⟩
    · cases hp : p (n : Int)
      · refine Or.inl ⟨?_, fun j hj => ?_⟩
        · rw [firstF, if_pos h1, hp]; rfl
        · rcases Nat.lt_or_ge j n with q | q
          · exact h2 j q
          · rw [show j = n by omega]; exact hp
      · exact Or.inr ⟨n, by omega, by rw [firstF, if_pos h1, if_pos hp], hp, h2⟩
    · exact Or.inr ⟨i, by omega, by rw [firstF, if_neg (by omega), h2], h3, h4⟩
/-- who sits on a chair -/
def sitW (w : Int → Int) (c : Int) : Int := firstF (fun g => decide (w (28 + 4 * g + 2) = c + 1)) (w 2).toNat
def OKC (w : Int → Int) (c : Int) : Prop := (1 ≤ w (3 + 5 * c) ∧ w (3 + 5 * c) ≤ 5) ∧ (0 ≤ w (3 + 5 * c + 1) ∧ w (3 + 5 * c + 1) ≤ 9) ∧ (0 ≤ w (3 + 5 * c + 2) ∧ w (3 + 5 * c + 2) ≤ 16) ∧ (0 ≤ w (3 + 5 * c + 3) ∧ w (3 + 5 * c + 3) ≤ 3) ∧ (0 ≤ w (3 + 5 * c + 4) ∧ w (3 + 5 * c + 4) ≤ 999)
def OKG (w : Int → Int) (g : Int) : Prop := (0 ≤ w (28 + 4 * g) ∧ w (28 + 4 * g) ≤ 9) ∧ (1 ≤ w (28 + 4 * g + 1) ∧ w (28 + 4 * g + 1) ≤ 9) ∧ (0 ≤ w (28 + 4 * g + 2) ∧ w (28 + 4 * g + 2) ≤ w 1) ∧ (w (28 + 4 * g + 2) ≠ 0 → 0 ≤ w (28 + 4 * g + 3) ∧ w (28 + 4 * g + 3) ≤ 9)
def OKW (w : Int → Int) : Prop := (0 ≤ w 0 ∧ w 0 ≤ 9) ∧ (0 ≤ w 1 ∧ w 1 ≤ 5) ∧ (0 ≤ w 2 ∧ w 2 ≤ 5) ∧ (∀ c, 0 ≤ c → c < w 1 → OKC w c) ∧ (∀ g, 0 ≤ g → g < w 2 → OKG w g) ∧ (∀ g h, 0 ≤ g → g < w 2 → 0 ≤ h → h < w 2 → w (28 + 4 * g + 2) = w (28 + 4 * h + 2) → w (28 + 4 * g + 2) ≠ 0 → g = h)
/-- a room of the class is as w tells -/
def RWc (I : Nat → Int → Int) (kd : Nat → Nat) (x : Nat) (w : Int → Int) (c : Int) : Prop := (kd x : Int) = w (3 + 5 * c) + 7 ∧ I x 1 = w (3 + 5 * c + 1) ∧ I x 2 = w (3 + 5 * c + 2) ∧ I x 3 = w (3 + 5 * c + 3) ∧ I x 4 = w (3 + 5 * c + 4) ∧ I x 5 = sitW w c
def RWg (I : Nat → Int → Int) (ρ : Nat) (w : Int → Int) (g : Int) : Prop := I (ρ + 2) g = w (28 + 4 * g) ∧ I (ρ + 3) g = w (28 + 4 * g + 1) ∧ I (ρ + 4) g = (if w (28 + 4 * g + 2) = 0 then -1000000 else w (28 + 4 * g + 2) - 1) ∧ I (ρ + 5) g = (if w (28 + 4 * g + 2) = 0 then -1000000 else w (28 + 4 * g + 3))
def RW (I : Nat → Int → Int) (ρ : Nat) (cc : Int → Nat) (kd : Nat → Nat) (w : Int → Int) : Prop := I ρ 6 = w 1 ∧ I ρ 7 = w 2 ∧ I ρ 8 = w 0 ∧ (∀ c, 0 ≤ c → c < w 1 → RWc I kd (cc c) w c) ∧ (∀ g, 0 ≤ g → g < w 2 → RWg I ρ w g)
/-- a page is as w tells -/
def PWc (f w : Int → Int) (c : Int) : Prop := f (3 + 6 * c) = w (3 + 5 * c) ∧ f (3 + 6 * c + 1) = w (3 + 5 * c + 1) ∧ f (3 + 6 * c + 2) = w (3 + 5 * c + 2) ∧ f (3 + 6 * c + 3) = w (3 + 5 * c + 3) ∧ f (3 + 6 * c + 4) = w (3 + 5 * c + 4) ∧ f (3 + 6 * c + 5) = sitW w c
def PWg (f w : Int → Int) (g : Int) : Prop := f (33 + 4 * g) = w (28 + 4 * g) ∧ f (33 + 4 * g + 1) = w (28 + 4 * g + 1) ∧ f (33 + 4 * g + 2) = (if w (28 + 4 * g + 2) = 0 then -1000000 else w (28 + 4 * g + 2) - 1) ∧ f (33 + 4 * g + 3) = (if w (28 + 4 * g + 2) = 0 then -1000000 else w (28 + 4 * g + 3))
def PW (f w : Int → Int) : Prop := f 0 = w 1 ∧ f 1 = w 2 ∧ f 2 = w 0 ∧ (∀ c, 0 ≤ c → c < w 1 → PWc f w c) ∧ (∀ g, 0 ≤ g → g < w 2 → PWg f w g)
theorem page_0 {I : Nat → Int → Int} {ρ : Nat} {cc : Int → Nat} {kd : Nat → Nat} : pageF I ρ cc kd 0 = I ρ 6 ∧ pageF I ρ cc kd 1 = I ρ 7 ∧ pageF I ρ cc kd 2 = I ρ 8 := ⟨rfl, rfl, rfl⟩
theorem page_g0 {I : Nat → Int → Int} {ρ : Nat} {cc : Int → Nat} {kd : Nat → Nat} {g : Int} (h0 : 0 ≤ g) (h1 : g < 5) : pageF I ρ cc kd (33 + 4 * g) = I (ρ + 2) g ∧ pageF I ρ cc kd (33 + 4 * g + 1) = I (ρ + 3) g ∧ pageF I ρ cc kd (33 + 4 * g + 2) = I (ρ + 4) g ∧ pageF I ρ cc kd (33 + 4 * g + 3) = I (ρ + 5) g := by
  have a0 := page_g (I := I) (ρ := ρ) (cc := cc) (kd := kd) (r := 0) h0 h1 (by decide)
  have a1 := page_g (I := I) (ρ := ρ) (cc := cc) (kd := kd) (r := 1) h0 h1 (by decide)
  have a2 := page_g (I := I) (ρ := ρ) (cc := cc) (kd := kd) (r := 2) h0 h1 (by decide)
  have a3 := page_g (I := I) (ρ := ρ) (cc := cc) (kd := kd) (r := 3) h0 h1 (by decide)
  refine ⟨?_, a1, a2, a3⟩
  rw [show 33 + 4 * g = 33 + 4 * g + ((0 : Nat) : Int) by omega]
  exact a0
theorem RW.page {I : Nat → Int → Int} {ρ : Nat} {cc : Int → Nat} {kd : Nat → Nat} {w f : Int → Int} (h : RW I ρ cc kd w) (h1 : w 1 ≤ 5) (h2 : w 2 ≤ 5) (hf : ∀ b, 0 ≤ b → b < 53 → f b = pageF I ρ cc kd b) : PW f w := by
  obtain ⟨e6, e7, e8, hc, hg⟩ := h
  refine ⟨?_, ?_, ?_, fun c c0 c1 => ?_, fun g g0 g1 => ?_⟩
  · rw [hf 0 (by decide) (by decide)]; exact e6
  · rw [hf 1 (by decide) (by decide)]; exact e7
  · rw [hf 2 (by decide) (by decide)]; exact e8
  · obtain ⟨k0, k1, k2, k3, k4, k5⟩ := hc c c0 c1
    unfold PWc
    rw [hf _ (by omega) (by omega), hf _ (by omega) (by omega), hf _ (by omega) (by omega), hf _ (by omega) (by omega), hf _ (by omega) (by omega), hf _ (by omega) (by omega), page_k c0 (by omega), page_c c0 (by omega) (by decide) (by decide), page_c c0 (by omega) (by decide) (by decide), page_c c0 (by omega) (by decide) (by decide), page_c c0 (by omega) (by decide) (by decide), page_c c0 (by omega) (by decide) (by decide)]
    exact ⟨by omega, k1, k2, k3, k4, k5⟩
  · obtain ⟨k0, k1, k2, k3⟩ := hg g g0 g1
    obtain ⟨q0, q1, q2, q3⟩ := page_g0 (I := I) (ρ := ρ) (cc := cc) (kd := kd) g0 (show g < 5 by omega)
    unfold PWg
    rw [hf _ (by omega) (by omega), hf _ (by omega) (by omega), hf _ (by omega) (by omega), hf _ (by omega) (by omega), q0, q1, q2, q3]
    exact ⟨k0, k1, k2, k3⟩
theorem PW.room {I : Nat → Int → Int} {ρ : Nat} {cc : Int → Nat} {kd : Nat → Nat} {w f : Int → Int} (h : PW f w) (h1 : w 1 ≤ 5) (h2 : w 2 ≤ 5) (hf : ∀ b, 0 ≤ b → b < 53 → pageF I ρ cc kd b = f b) : RW I ρ cc kd w := by
  obtain ⟨e6, e7, e8, hc, hg⟩ := h
  refine ⟨?_, ?_, ?_, fun c c0 c1 => ?_, fun g g0 g1 => ?_⟩
  · rw [← e6, ← hf 0 (by decide) (by decide)]; rfl
  · rw [← e7, ← hf 1 (by decide) (by decide)]; rfl
  · rw [← e8, ← hf 2 (by decide) (by decide)]; rfl
  · have hc := hc c c0 c1
    unfold PWc at hc
    rw [← hf _ (by omega) (by omega), ← hf _ (by omega) (by omega), ← hf _ (by omega) (by omega), ← hf _ (by omega) (by omega), ← hf _ (by omega) (by omega), ← hf _ (by omega) (by omega), page_k c0 (by omega), page_c c0 (by omega) (by decide) (by decide), page_c c0 (by omega) (by decide) (by decide), page_c c0 (by omega) (by decide) (by decide), page_c c0 (by omega) (by decide) (by decide), page_c c0 (by omega) (by decide) (by decide)] at hc
    obtain ⟨k0, k1, k2, k3, k4, k5⟩ := hc
    exact ⟨by omega, k1, k2, k3, k4, k5⟩
  · have hg := hg g g0 g1
    obtain ⟨q0, q1, q2, q3⟩ := page_g0 (I := I) (ρ := ρ) (cc := cc) (kd := kd) g0 (show g < 5 by omega)
    unfold PWg at hg
    rw [← hf _ (by omega) (by omega), ← hf _ (by omega) (by omega), ← hf _ (by omega) (by omega), ← hf _ (by omega) (by omega), q0, q1, q2, q3] at hg
    exact hg
/-- how one bears himself, how a chair is left -/
def kW (w : Int → Int) (c : Int) : Nat := (w (3 + 5 * c)).toNat + 7
def bearW (w : Int → Int) (c o : Int) : Int := bearF (kW w c) (w (3 + 5 * c + 1)) (w (3 + 5 * c + 2)) (w (3 + 5 * c + 4)) o
def sitsW (w : Int → Int) (g c : Int) : Int → Int := fun b => if b = 3 + 5 * c + 1 then manA (kW w c) (w (3 + 5 * c + 1)) (w (3 + 5 * c + 2)) (w (28 + 4 * g)) (w (28 + 4 * g + 1)) else if b = 3 + 5 * c + 2 then strA (kW w c) (w (3 + 5 * c + 2)) (w (28 + 4 * g + 1)) else if b = 3 + 5 * c + 4 then satA (w (3 + 5 * c + 4)) else w b
theorem sits_o {w : Int → Int} {g c b : Int} (h : b ≠ 3 + 5 * c + 1) (h2 : b ≠ 3 + 5 * c + 2) (h4 : b ≠ 3 + 5 * c + 4) : sitsW w g c b = w b := by
  unfold sitsW
  rw [if_neg h, if_neg h2, if_neg h4]
theorem sits_1 {w : Int → Int} {g c : Int} : sitsW w g c (3 + 5 * c + 1) = manA (kW w c) (w (3 + 5 * c + 1)) (w (3 + 5 * c + 2)) (w (28 + 4 * g)) (w (28 + 4 * g + 1)) := by
  unfold sitsW
  rw [if_pos rfl]
theorem sits_2 {w : Int → Int} {g c : Int} : sitsW w g c (3 + 5 * c + 2) = strA (kW w c) (w (3 + 5 * c + 2)) (w (28 + 4 * g + 1)) := by
  unfold sitsW
  rw [if_neg (by omega), if_pos rfl]
theorem sits_4 {w : Int → Int} {g c : Int} : sitsW w g c (3 + 5 * c + 4) = satA (w (3 + 5 * c + 4)) := by
  unfold sitsW
  rw [if_neg (by omega), if_neg (by omega), if_pos rfl]
theorem sit_okc {w : Int → Int} {g c : Int} (hc : OKC w c) (ho : 0 ≤ w (28 + 4 * g) ∧ w (28 + 4 * g) ≤ 9) : OKC (sitsW w g c) c := by
  obtain ⟨h0, h1, h2, h3, h4⟩ := hc
  unfold OKC
  rw [sits_1, sits_2, sits_4, sits_o (by omega) (by omega) (by omega), sits_o (by omega) (by omega) (by omega)]
  unfold manA strA satA strW manW
  refine ⟨h0, ?_, ?_, h3, ?_⟩
  · repeat' split
    all_goals omega
  · repeat' split
    all_goals omega
  · split <;> omega
theorem bear_okc {w : Int → Int} {c o : Int} (hc : OKC w c) (o1 : 0 ≤ o) (o2 : o ≤ 9) : 0 ≤ bearW w c o ∧ bearW w c o ≤ 9 := bear_rng hc.2.1.1 hc.2.1.2 hc.2.2.1.1 hc.2.2.1.2 o1 o2
/-- the room now: where its chairs are, that it is as w tells, that w is well -/
def NOWX (I : Nat → Int → Int) (ch : Int → Nat) (kd : Nat → Nat) (w : Int → Int) : Prop := isRm 13 ch ch kd ∧ RW I 13 ch kd w ∧ OKW w ∧ (∀ i, 0 ≤ i → i < 5 → 8 ≤ kd (ch i) ∧ kd (ch i) ≤ 12)
/-- only the cells 40 to 56 (what is tried) have changed -/
def FSx (I I' : Nat → Int → Int) (kd kd' : Nat → Nat) : Prop := Rg I' ∧ (∀ (a : Nat) (b : Int), (a < 40 ∨ 56 < a) → I' a b = I a b) ∧ (∀ a, a < 40 → kd' a = kd a)
theorem FSx.trans {I I' I'' : Nat → Int → Int} {kd kd' kd'' : Nat → Nat} (h : FSx I I' kd kd') (h2 : FSx I' I'' kd' kd'') : FSx I I'' kd kd'' := ⟨h2.1, fun a b q => (h2.2.1 a b q).trans (h.2.1 a b q), fun a q => (h2.2.2 a q).trans (h.2.2 a q)⟩
theorem FSx.refl {I : Nat → Int → Int} {kd : Nat → Nat} (h : Rg I) : FSx I I kd kd := ⟨h, fun _ _ _ => rfl, fun _ _ => rfl⟩
theorem NOWX.fs {I I' : Nat → Int → Int} {ch : Int → Nat} {kd kd' : Nat → Nat} {w : Int → Int} (h : NOWX I ch kd w) (hf : FSx I I' kd kd') : NOWX I' ch kd' w := by
  obtain ⟨h1, h2, h3, h4⟩ := h
  refine ⟨h1.kd _, ?_, h3, fun i i0 i1 => ?_⟩
  · obtain ⟨e6, e7, e8, hc, hg⟩ := h2
    refine ⟨?_, ?_, ?_, fun c c0 c1 => ?_, fun g g0 g1 => ?_⟩
    · rw [hf.2.1 _ _ (by omega)]; exact e6
    · rw [hf.2.1 _ _ (by omega)]; exact e7
    · rw [hf.2.1 _ _ (by omega)]; exact e8
    · have hb := h1.2.2.2 c c0 (by have := h3.2.1; omega)
      unfold RWc
      rw [hf.2.2 _ (by omega), hf.2.1 _ _ (by omega), hf.2.1 _ _ (by omega), hf.2.1 _ _ (by omega), hf.2.1 _ _ (by omega), hf.2.1 _ _ (by omega)]
      exact hc c c0 c1
    · unfold RWg
      rw [hf.2.1 _ _ (by omega), hf.2.1 _ _ (by omega), hf.2.1 _ _ (by omega), hf.2.1 _ _ (by omega)]
      exact hg g g0 g1
  · have hb := h1.2.2.2 i i0 i1
    rw [hf.2.2 _ (by omega)]
    exact h4 i i0 i1
/-- the stool is as a chair of w -/
def STL (I : Nat → Int → Int) (kd : Nat → Nat) (w : Int → Int) (c : Int) : Prop := (kd 56 : Int) = w (3 + 5 * c) + 7 ∧ I 56 1 = w (3 + 5 * c + 1) ∧ I 56 2 = w (3 + 5 * c + 2) ∧ I 56 4 = w (3 + 5 * c + 4) ∧ OKC w c
theorem STL.kw {I : Nat → Int → Int} {kd : Nat → Nat} {w : Int → Int} {c : Int} (h : STL I kd w c) : kd 56 = kW w c := by
  obtain ⟨h0, -, -, -, h5⟩ := h
  have := h5.1
  unfold kW
  omega
theorem STL.cr {I : Nat → Int → Int} {kd : Nat → Nat} {w : Int → Int} {c : Int} (h : STL I kd w c) : CR I 56 ∧ 8 ≤ kd 56 ∧ kd 56 ≤ 12 := by
  obtain ⟨h0, h1, h2, h4, h5⟩ := h
  obtain ⟨q0, q1, q2, q3, q4⟩ := h5
  unfold CR
  rw [h1, h2, h4]
  exact ⟨⟨q1.1, q1.2, q2.1, q2.2, q4.1, q4.2⟩, by omega, by omega⟩
