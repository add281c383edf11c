/-! THE TWO OBJECTS BETWEEN CALLS -/
def ROWX (I J : Nat → Int → Int) : Prop := ∀ r, 0 ≤ r → r ≤ 7 → (I 2 r = -1 ∧ J 1 r = -1000000) ∨ (I 2 r = J 1 r ∧ (0 ≤ J 1 r ∧ J 1 r ≤ 2) ∧ I (57 + 2 * r.toNat) 1 = J 2 r ∧ (0 ≤ J 2 r ∧ J 2 r ≤ 40) ∧ ∀ i, 0 ≤ i → i < J 2 r → I (58 + 2 * r.toNat) i = J 3 (40 * r + i))
def TAX (I J : Nat → Int → Int) : Prop := I 25 1 = J 0 6 ∧ (0 ≤ J 0 6 ∧ J 0 6 ≤ 100) ∧ (∀ p, p < J 0 6 → I 26 p = J 5 p) ∧ ∀ p, 0 ≤ p → p < J 0 6 → 0 ≤ J 5 p ∧ J 5 p ≤ 255
def IMX (I J : Nat → Int → Int) : Prop := ∀ k, 0 ≤ k → k ≤ 1 → (I (73 + 2 * k.toNat) 1 = 0 ∧ J 11 k = 0) ∨ (J 11 k = 1 ∧ OKW (cutW (J 10) (48 * k)) ∧ PGX I (73 + 2 * k.toNat) (cutW (J 10) (48 * k)))
def TRC (I J : Nat → Int → Int) : Prop := I 3 1 = J 0 23 ∧ (0 ≤ J 0 23 ∧ J 0 23 ≤ 16) ∧ ∀ i, 0 ≤ i → i < J 0 23 → I 4 i = J 14 i
def DKX (kd : Nat → Nat) : Prop := ∀ a, 35 ≤ a → a ≤ 39 → 8 ≤ kd a ∧ kd a ≤ 12
def ACX (I J : Nat → Int → Int) : Prop := (0 ≤ I 0 8 ∧ I 0 8 < 24) ∧ (0 ≤ I 0 9 ∧ I 0 9 ≤ 24) ∧ J 0 17 = I 0 9 ∧ ∀ i, 0 ≤ i → i < I 0 9 → OKW (cutW (J 9) (48 * i)) ∧ PGX I (77 + 2 * ((I 0 8 + i) % 24).toNat) (cutW (J 9) (48 * i))
/-- all but the room now and the acts -/
def XO (I : Nat → Int → Int) (kd : Nat → Nat) (J : Nat → Int → Int) : Prop := ROWX I J ∧ (I 0 11 = J 0 4 ∧ I 0 10 = J 0 7) ∧ TAX I J ∧ IMX I J ∧ TRC I J ∧ DKX kd
def XR (I : Nat → Int → Int) (ch : Int → Nat) (kd : Nat → Nat) (J : Nat → Int → Int) : Prop := Rg I ∧ RZ J ∧ NOWX I ch kd (J 6) ∧ ACX I J ∧ XO I kd J
theorem PGX.congr {I I' : Nat → Int → Int} {k : Nat} {w : Int → Int} (h : PGX I k w) (h1 : I' k 1 = I k 1) (h2 : ∀ b, I' (k + 1) b = I (k + 1) b) : PGX I' k w := by
  unfold PGX at h ⊢
  rw [show I' (k + 1) = I (k + 1) from funext h2, h1]
  exact h
theorem ROWX.fr {I I' J J' : Nat → Int → Int} (h : ROWX I J) (h2 : ∀ b, I' 2 b = I 2 b) (hs : ∀ a, 57 ≤ a → a ≤ 72 → I' a 1 = I a 1) (hi : ∀ a b, 57 ≤ a → a ≤ 72 → a % 2 = 0 → I' a b = I a b) (j1 : J' 1 = J 1) (j2 : J' 2 = J 2) (j3 : J' 3 = J 3) : ROWX I' J' := by
  intro r r0 r7
  rw [j1, j2, j3, h2, hs _ (by omega) (by omega)]
  rcases h r r0 r7 with q | ⟨a, b, c, e, f⟩
  · exact Or.inl q
  · exact Or.inr ⟨a, b, c, e, fun i i0 i1 => (hi _ _ (by omega) (by omega) (by omega)).trans (f i i0 i1)⟩
theorem TAX.fr {I I' J J' : Nat → Int → Int} (h : TAX I J) (hz : I' 25 1 = I 25 1) (hi : ∀ b, I' 26 b = I 26 b) (j6 : J' 0 6 = J 0 6) (j5 : J' 5 = J 5) : TAX I' J' := by
  unfold TAX at h ⊢
  rw [hz, j6, j5, show I' 26 = I 26 from funext hi]
  exact h
theorem IMX.fr {I I' J J' : Nat → Int → Int} (h : IMX I J) (hs : ∀ a, 73 ≤ a → a ≤ 76 → I' a 1 = I a 1) (hi : ∀ a b, 73 ≤ a → a ≤ 76 → a % 2 = 0 → I' a b = I a b) (j10 : J' 10 = J 10) (j11 : J' 11 = J 11) : IMX I' J' := by
  intro k k0 k1
  rw [j10, j11, hs _ (by omega) (by omega)]
  rcases h k k0 k1 with q | ⟨a, b, c⟩
  · exact Or.inl q
  · exact Or.inr ⟨a, b, c.congr (hs _ (by omega) (by omega)) (fun b => hi _ _ (by omega) (by omega) (by omega))⟩
theorem TRC.fr {I I' J J' : Nat → Int → Int} (h : TRC I J) (hz : I' 3 1 = I 3 1) (hi : ∀ b, I' 4 b = I 4 b) (j6 : J' 0 23 = J 0 23) (j5 : J' 14 = J 14) : TRC I' J' := by
  unfold TRC at h ⊢
  rw [hz, j6, j5, show I' 4 = I 4 from funext hi]
  exact h
theorem ACX.fr {I I' J J' : Nat → Int → Int} (h : ACX I J) (hs : ∀ a, 77 ≤ a → I' a 1 = I a 1) (hi : ∀ a b, 77 ≤ a → a % 2 = 0 → I' a b = I a b) (h8 : I' 0 8 = I 0 8) (h9 : I' 0 9 = I 0 9) (j17 : J' 0 17 = J 0 17) (j9 : J' 9 = J 9) : ACX I' J' := by
  obtain ⟨a, b, c, e⟩ := h
  unfold ACX
  rw [h8, h9, j17, j9]
  refine ⟨a, b, c, fun i i0 i1 => ?_⟩
  obtain ⟨x, y⟩ := e i i0 i1
  exact ⟨x, y.congr (hs _ (by omega)) (fun b => hi _ _ (by omega) (by omega))⟩
/-- what a call that tries and looks leaves as it is -/
def KEP (I I' : Nat → Int → Int) : Prop := (∀ a b, (a = 2 ∨ a = 4 ∨ a = 26 ∨ (a % 2 = 0 ∧ 57 ≤ a)) → I' a b = I a b) ∧ (∀ a, (a = 3 ∨ a = 25 ∨ 57 ≤ a) → I' a 1 = I a 1) ∧ ∀ b, 8 ≤ b → I' 0 b = I 0 b
def KEM (J J' : Nat → Int → Int) : Prop := (∀ b, (b < 7 ∨ 12 < b ∨ b = 7) → J' 0 b = J 0 b) ∧ ∀ a, (a = 1 ∨ a = 2 ∨ a = 3 ∨ a = 5 ∨ a = 9 ∨ a = 10 ∨ a = 11 ∨ a = 14) → J' a = J a
theorem XO.fr {I I' J J' : Nat → Int → Int} {kd kd' : Nat → Nat} (h : XO I kd J) (hI : KEP I I') (hJ : KEM J J') (hk : ∀ a, 35 ≤ a → a ≤ 39 → kd' a = kd a) : XO I' kd' J' := by
  obtain ⟨h1, h2, h3, h4, h5, h6⟩ := h
  refine ⟨?_, ⟨?_, ?_⟩, ?_, ?_, ?_, fun a a0 a1 => by rw [hk a a0 a1]; exact h6 a a0 a1⟩
  · exact h1.fr (fun b => hI.1 _ _ (by omega)) (fun a a0 a1 => hI.2.1 a (by omega)) (fun a b a0 a1 a2 => hI.1 a b (by omega)) (hJ.2 1 (by omega)) (hJ.2 2 (by omega)) (hJ.2 3 (by omega))
  · rw [hI.2.2 11 (by decide), hJ.1 4 (by decide)]; exact h2.1
  · rw [hI.2.2 10 (by decide), hJ.1 7 (by decide)]; exact h2.2
  · exact h3.fr (hI.2.1 _ (by omega)) (fun b => hI.1 _ _ (by omega)) (hJ.1 6 (by decide)) (hJ.2 5 (by omega))
  · exact h4.fr (fun a a0 a1 => hI.2.1 a (by omega)) (fun a b a0 a1 a2 => hI.1 a b (by omega)) (hJ.2 10 (by omega)) (hJ.2 11 (by omega))
  · exact h5.fr (hI.2.1 _ (by omega)) (fun b => hI.1 _ _ (by omega)) (hJ.1 23 (by decide)) (hJ.2 14 (by omega))
theorem ACX.kep {I I' J J' : Nat → Int → Int} (h : ACX I J) (hI : KEP I I') (hJ : KEM J J') : ACX I' J' := h.fr (fun a a0 => hI.2.1 a (by omega)) (fun a b a0 a1 => hI.1 a b (by omega)) (hI.2.2 8 (by decide)) (hI.2.2 9 (by decide)) (hJ.1 17 (by decide)) (hJ.2 9 (by omega))
theorem FSx.kep {I I' : Nat → Int → Int} {kd kd' : Nat → Nat} (h : FSx I I' kd kd') : KEP I I' := ⟨fun a b q => h.2.1 a b (by omega), fun a q => h.2.1 a 1 (by omega), fun b _ => h.2.1 0 b (by omega)⟩
theorem FM.kem {J J' : Nat → Int → Int} (h : FM J J') : KEM J J' := ⟨fun b _ => congrFun (h.2 0 (by decide) (by decide) (by decide) (by decide) (by decide)) b, fun a q => h.2 a (by omega) (by omega) (by omega) (by omega) (by omega)⟩
theorem XR.fs {I I' J J' : Nat → Int → Int} {ch : Int → Nat} {kd kd' : Nat → Nat} (h : XR I ch kd J) (hf : FSx I I' kd kd') (hm : FM J J') : XR I' ch kd' J' := by
  obtain ⟨h1, h2, h3, h4, h5⟩ := h
  refine ⟨hf.1, hm.1, ?_, h4.kep hf.kep hm.kem, h5.fr hf.kep hm.kem (fun a a0 a1 => hf.2.2 a (by omega))⟩
  rw [hm.2 6 (by decide) (by decide) (by decide) (by decide) (by decide)]
  exact h3.fs hf
theorem FM.refl {J : Nat → Int → Int} (h : RZ J) : FM J J := ⟨h, fun _ _ _ _ _ _ => rfl⟩
theorem NOWX.fr {I I' : Nat → Int → Int} {ch : Int → Nat} {kd : Nat → Nat} {w : Int → Int} (h : NOWX I ch kd w) (hf : ∀ a b, 13 ≤ a → a ≤ 23 → I' a b = I a b) : NOWX I' ch kd w := by
  obtain ⟨h1, h2, h3, h4⟩ := h
  refine ⟨h1, ?_, h3, h4⟩
  obtain ⟨e6, e7, e8, hc, hg⟩ := h2
  refine ⟨?_, ?_, ?_, fun c c0 c1 => ?_, fun g g0 g1 => ?_⟩
  · rw [hf _ _ (by omega) (by omega)]; exact e6
  · rw [hf _ _ (by omega) (by omega)]; exact e7
  · rw [hf _ _ (by omega) (by omega)]; exact e8
  · have hb := h1.2.2.2 c c0 (by have := h3.2.1; omega)
    unfold RWc
    rw [hf _ _ (by omega) (by omega), hf _ _ (by omega) (by omega), hf _ _ (by omega) (by omega), hf _ _ (by omega) (by omega), hf _ _ (by omega) (by omega)]
    exact hc c c0 c1
  · unfold RWg
    rw [hf _ _ (by omega) (by omega), hf _ _ (by omega) (by omega), hf _ _ (by omega) (by omega), hf _ _ (by omega) (by omega)]
    exact hg g g0 g1
/-- a finding: both hold its number -/
def FX11 (I I' : Nat → Int → Int) (kd kd' : Nat → Nat) (v : Int) : Prop := Rg I' ∧ I' 0 11 = v ∧ (∀ a b, (a ≠ 0 ∨ b ≠ 11) → (a < 40 ∨ 56 < a) → I' a b = I a b) ∧ ∀ a, a < 40 → kd' a = kd a
theorem XR.find {I I' J J' : Nat → Int → Int} {ch : Int → Nat} {kd kd' : Nat → Nat} {v : Int} (h : XR I ch kd J) (hf : FX11 I I' kd kd' v) (hm : SM4 J J' v) : XR I' ch kd' J' := by
  obtain ⟨h1, h2, h3, h4, o1, o2, o3, o4, o5, o6⟩ := h
  obtain ⟨f1, f2, f3, f4⟩ := hf
  obtain ⟨m1, m2, m3, m4⟩ := hm
  refine ⟨f1, m1, ?_, ?_, ?_, ⟨?_, ?_⟩, ?_, ?_, ?_, ?_⟩
  · rw [m4 6 (by decide) (by decide) (by decide) (by decide) (by decide) (by decide)]
    have e : NOWX I ch kd' (J 6) := h3.fs (kd' := kd') ⟨h1, fun _ _ _ => rfl, f4⟩
    exact e.fr (fun a b a0 a1 => f3 a b (by omega) (by omega))
  · exact h4.fr (fun a a0 => f3 a 1 (by omega) (by omega)) (fun a b a0 a1 => f3 a b (by omega) (by omega)) (f3 0 8 (by decide) (by decide)) (f3 0 9 (by decide) (by decide)) (m3 17 (by decide)) (m4 9 (by decide) (by decide) (by decide) (by decide) (by decide) (by decide))
  · exact o1.fr (fun b => f3 _ _ (by omega) (by omega)) (fun a a0 a1 => f3 a 1 (by omega) (by omega)) (fun a b a0 a1 a2 => f3 a b (by omega) (by omega)) (m4 1 (by decide) (by decide) (by decide) (by decide) (by decide) (by decide)) (m4 2 (by decide) (by decide) (by decide) (by decide) (by decide) (by decide)) (m4 3 (by decide) (by decide) (by decide) (by decide) (by decide) (by decide))
  · rw [f2, m2]
  · rw [f3 0 10 (by decide) (by decide), m3 7 (by decide)]; exact o2.2
  · exact o3.fr (f3 _ _ (by omega) (by omega)) (fun b => f3 _ _ (by omega) (by omega)) (m3 6 (by decide)) (m4 5 (by decide) (by decide) (by decide) (by decide) (by decide) (by decide))
  · exact o4.fr (fun a a0 a1 => f3 a 1 (by omega) (by omega)) (fun a b a0 a1 a2 => f3 a b (by omega) (by omega)) (m4 10 (by decide) (by decide) (by decide) (by decide) (by decide) (by decide)) (m4 11 (by decide) (by decide) (by decide) (by decide) (by decide) (by decide))
  · exact o5.fr (f3 _ _ (by omega) (by omega)) (fun b => f3 _ _ (by omega) (by omega)) (m3 23 (by decide)) (m4 14 (by decide) (by decide) (by decide) (by decide) (by decide) (by decide))
  · intro a a0 a1; rw [f4 a (by omega)]; exact o6 a a0 a1
theorem ACX.keep {I I' J J' : Nat → Int → Int} {k : Nat} (h : ACX I J) (hn : NTM J J') (hok : OKW (J 6)) (hk : k = 77 + 2 * ((I 0 8 + I 0 9) % 24).toNat) (hp : PGX I' k (J 6)) (h9 : I' 0 9 = if I 0 9 = 24 then 24 else I 0 9 + 1) (h8 : I' 0 8 = if I 0 9 = 24 then (I 0 8 + 1) % 24 else I 0 8) (hf : ∀ a b, 77 ≤ a → a ≠ k → a ≠ k + 1 → I' a b = I a b) : ACX I' J' := by
  obtain ⟨⟨a0, a1⟩, ⟨b0, b1⟩, c, e⟩ := h
  obtain ⟨n1, n2⟩ := hn
  rw [c] at n1
  by_cases q : I 0 9 = 24
  · rw [if_pos q] at n1 h9 h8
    refine ⟨by omega, by omega, by omega, fun i i0 i1 => ?_⟩
    have n3 := n2 i i0 (by omega)
    rw [n3, h8]
    by_cases qi : i = J' 0 17 - 1
    · rw [if_pos qi]
      have ek : 77 + 2 * (((I 0 8 + 1) % 24 + i) % 24).toNat = k := by omega
      rw [ek]
      exact ⟨hok, hp⟩
    · rw [if_neg qi, if_pos (by omega)]
      obtain ⟨x, y⟩ := e (i + 1) (by omega) (by omega)
      have ek : 77 + 2 * (((I 0 8 + 1) % 24 + i) % 24).toNat = 77 + 2 * ((I 0 8 + (i + 1)) % 24).toNat := by omega
      rw [ek]
      exact ⟨x, y.congr (hf _ _ (by omega) (by omega) (by omega)) (fun b => hf _ _ (by omega) (by omega) (by omega))⟩
  · rw [if_neg q] at n1 h9 h8
    refine ⟨by omega, by omega, by omega, fun i i0 i1 => ?_⟩
    have n3 := n2 i i0 (by omega)
    rw [n3, h8]
    by_cases qi : i = J' 0 17 - 1
    · rw [if_pos qi]
      have ek : 77 + 2 * ((I 0 8 + i) % 24).toNat = k := by omega
      rw [ek]
      exact ⟨hok, hp⟩
    · rw [if_neg qi, if_neg (by omega)]
      obtain ⟨x, y⟩ := e i i0 (by omega)
      exact ⟨x, y.congr (hf _ _ (by omega) (by omega) (by omega)) (fun b => hf _ _ (by omega) (by omega) (by omega))⟩
theorem rX1 {ch : Int → Nat} {kd : Nat → Nat} {x : Int} {k : Nat} (h : k = 57 + 2 * x.toNat) (h0 : 0 ≤ x) (h1 : x ≤ 7) : rX ch kd 1 x = some k := by
  rw [h]
  simp [rX, isCh, isLn, h0, show x < 8 by omega]
theorem rX5 {ch : Int → Nat} {kd : Nat → Nat} {x : Int} {k : Nat} (h : k = 73 + 2 * x.toNat) (h0 : 0 ≤ x) (h1 : x ≤ 1) : rX ch kd 5 x = some k := by
  rw [h]
  simp [rX, isCh, isLn, h0, show x < 2 by omega]
theorem rX6 {ch : Int → Nat} {kd : Nat → Nat} {x : Int} {k : Nat} (h : k = 77 + 2 * x.toNat) (h0 : 0 ≤ x) (h1 : x < 24) : rX ch kd 6 x = some k := by
  rw [h]
  simp [rX, isCh, isLn, h0, h1]
theorem ln1 {x : Int} {k : Nat} (h : k = 57 + 2 * x.toNat) (h0 : 0 ≤ x) (h1 : x ≤ 7) : isL2 k 40 := by
  rcases (show x = 0 ∨ x = 1 ∨ x = 2 ∨ x = 3 ∨ x = 4 ∨ x = 5 ∨ x = 6 ∨ x = 7 by omega) with rfl | rfl | rfl | rfl | rfl | rfl | rfl | rfl <;> subst h <;> exact ⟨by decide, rfl, rfl, by decide, fun _ _ => rfl⟩
theorem ln5 {x : Int} {k : Nat} (h : k = 73 + 2 * x.toNat) (h0 : 0 ≤ x) (h1 : x ≤ 1) : isL2 k 53 := by
  rcases (show x = 0 ∨ x = 1 by omega) with rfl | rfl <;> subst h <;> exact ⟨by decide, rfl, rfl, by decide, fun _ _ => rfl⟩
theorem ln6 {x : Int} {k : Nat} (h : k = 77 + 2 * x.toNat) (h0 : 0 ≤ x) (h1 : x < 24) : isL2 k 53 := by
  rcases (show x = 0 ∨ x = 1 ∨ x = 2 ∨ x = 3 ∨ x = 4 ∨ x = 5 ∨ x = 6 ∨ x = 7 ∨ x = 8 ∨ x = 9 ∨ x = 10 ∨ x = 11 ∨ x = 12 ∨ x = 13 ∨ x = 14 ∨ x = 15 ∨ x = 16 ∨ x = 17 ∨ x = 18 ∨ x = 19 ∨ x = 20 ∨ x = 21 ∨ x = 22 ∨ x = 23 by omega) with rfl | rfl | rfl | rfl | rfl | rfl | rfl | rfl | rfl | rfl | rfl | rfl | rfl | rfl | rfl | rfl | rfl | rfl | rfl | rfl | rfl | rfl | rfl | rfl <;> subst h <;> exact ⟨by decide, rfl, rfl, by decide, fun _ _ => rfl⟩
theorem ln3 : isL2 3 16 := ⟨by decide, rfl, rfl, by decide, fun _ _ => rfl⟩
