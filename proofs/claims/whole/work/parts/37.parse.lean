theorem tap_end {I : Nat → Int → Int} {p : Int} (h : tapF I p ≠ -1) : p < I 25 1 := by
  unfold tapF at h
  split at h
  · assumption
  · exact absurd rfl h
theorem sg_rng {I : Nat → Int → Int} {p μ s : Int} (hs : s ≠ -1) (p0 : 0 ≤ p) (p1 : p ≤ I 25 1) (m0 : 0 ≤ μ) (m1 : μ ≤ 3) : (0 ≤ sgP (tapF I) p μ s ∧ sgP (tapF I) p μ s ≤ I 25 1) ∧ 0 ≤ sgM (tapF I) p μ s ∧ sgM (tapF I) p μ s ≤ 3 := by
  unfold sgP sgM
  refine ⟨?_, ?_⟩
  · split
    · rename_i h
      have := tap_end (I := I) (p := p) (by rw [h.2]; exact hs)
      omega
    · omega
  · repeat' split
    all_goals omega
theorem fig_end {I : Nat → Int → Int} {p : Int} (h : ¬ figB (tapF I p) = false) : p < I 25 1 := by
  apply tap_end
  intro q
  rw [q] at h
  exact h (by decide)
theorem nu_rng {I : Nat → Int → Int} {p μ lo hi : Int} (p0 : 0 ≤ p) (p1 : p ≤ I 25 1) (m0 : 0 ≤ μ) (m1 : μ ≤ 3) : (0 ≤ nuP (tapF I) p μ lo hi ∧ nuP (tapF I) p μ lo hi ≤ I 25 1) ∧ 0 ≤ nuM (tapF I) p μ lo hi ∧ nuM (tapF I) p μ lo hi ≤ 3 := by
  have hL : 0 ≤ nmL (tapF I) p ∧ p + nmL (tapF I) p ≤ I 25 1 := by
    unfold nmL
    split
    · omega
    · rename_i h1
      have := fig_end h1
      split
      · omega
      · rename_i h2
        have := fig_end h2
        split
        · omega
        · rename_i h3
          have := fig_end h3
          omega
  refine ⟨?_, ?_⟩
  · unfold nuP
    split <;> omega
  · unfold nuM
    repeat' split
    all_goals omega
/-- a chair read from its letter's place on: places, mistakes, numbers -/
def cP1 (T : Int → Int) (p : Int) : Int := nuP T (p + 1) 0 0 9
def cM1 (T : Int → Int) (p : Int) : Int := nuM T (p + 1) 0 0 9
def cP2 (T : Int → Int) (p : Int) : Int := sgP T (cP1 T p) (cM1 T p) 44
def cM2 (T : Int → Int) (p : Int) : Int := sgM T (cP1 T p) (cM1 T p) 44
def cP3 (T : Int → Int) (p : Int) : Int := nuP T (cP2 T p) (cM2 T p) 0 16
def cM3 (T : Int → Int) (p : Int) : Int := nuM T (cP2 T p) (cM2 T p) 0 16
def cP4 (T : Int → Int) (p : Int) : Int := sgP T (cP3 T p) (cM3 T p) 44
def cM4 (T : Int → Int) (p : Int) : Int := sgM T (cP3 T p) (cM3 T p) 44
def cP5 (T : Int → Int) (p : Int) : Int := nuP T (cP4 T p) (cM4 T p) 0 3
def cM5 (T : Int → Int) (p : Int) : Int := nuM T (cP4 T p) (cM4 T p) 0 3
def cP6 (T : Int → Int) (p : Int) : Int := sgP T (cP5 T p) (cM5 T p) 59
def cM6 (T : Int → Int) (p : Int) : Int := sgM T (cP5 T p) (cM5 T p) 59
def cV1 (T : Int → Int) (p : Int) : Int := nuV T (p + 1) 0 0
def cV2 (T : Int → Int) (p : Int) : Int := nuV T (cP2 T p) (cM2 T p) 0
def cV3 (T : Int → Int) (p : Int) : Int := nuV T (cP4 T p) (cM4 T p) 0
theorem c_all {I : Nat → Int → Int} {p : Int} (p0 : 0 ≤ p) (p1 : p < I 25 1) : ((0 ≤ cP1 (tapF I) p ∧ cP1 (tapF I) p ≤ I 25 1) ∧ 0 ≤ cM1 (tapF I) p ∧ cM1 (tapF I) p ≤ 3) ∧ ((0 ≤ cP2 (tapF I) p ∧ cP2 (tapF I) p ≤ I 25 1) ∧ 0 ≤ cM2 (tapF I) p ∧ cM2 (tapF I) p ≤ 3) ∧ ((0 ≤ cP3 (tapF I) p ∧ cP3 (tapF I) p ≤ I 25 1) ∧ 0 ≤ cM3 (tapF I) p ∧ cM3 (tapF I) p ≤ 3) ∧ ((0 ≤ cP4 (tapF I) p ∧ cP4 (tapF I) p ≤ I 25 1) ∧ 0 ≤ cM4 (tapF I) p ∧ cM4 (tapF I) p ≤ 3) ∧ ((0 ≤ cP5 (tapF I) p ∧ cP5 (tapF I) p ≤ I 25 1) ∧ 0 ≤ cM5 (tapF I) p ∧ cM5 (tapF I) p ≤ 3) ∧ ((0 ≤ cP6 (tapF I) p ∧ cP6 (tapF I) p ≤ I 25 1) ∧ 0 ≤ cM6 (tapF I) p ∧ cM6 (tapF I) p ≤ 3) := by
  have h1 : (0 ≤ cP1 (tapF I) p ∧ cP1 (tapF I) p ≤ I 25 1) ∧ 0 ≤ cM1 (tapF I) p ∧ cM1 (tapF I) p ≤ 3 := nu_rng (by omega) (by omega) (by decide) (by decide)
  have h2 : (0 ≤ cP2 (tapF I) p ∧ cP2 (tapF I) p ≤ I 25 1) ∧ 0 ≤ cM2 (tapF I) p ∧ cM2 (tapF I) p ≤ 3 := sg_rng (by decide) h1.1.1 h1.1.2 h1.2.1 h1.2.2
  have h3 : (0 ≤ cP3 (tapF I) p ∧ cP3 (tapF I) p ≤ I 25 1) ∧ 0 ≤ cM3 (tapF I) p ∧ cM3 (tapF I) p ≤ 3 := nu_rng h2.1.1 h2.1.2 h2.2.1 h2.2.2
  have h4 : (0 ≤ cP4 (tapF I) p ∧ cP4 (tapF I) p ≤ I 25 1) ∧ 0 ≤ cM4 (tapF I) p ∧ cM4 (tapF I) p ≤ 3 := sg_rng (by decide) h3.1.1 h3.1.2 h3.2.1 h3.2.2
  have h5 : (0 ≤ cP5 (tapF I) p ∧ cP5 (tapF I) p ≤ I 25 1) ∧ 0 ≤ cM5 (tapF I) p ∧ cM5 (tapF I) p ≤ 3 := nu_rng h4.1.1 h4.1.2 h4.2.1 h4.2.2
  exact ⟨h1, h2, h3, h4, h5, sg_rng (by decide) h5.1.1 h5.1.2 h5.2.1 h5.2.2⟩
/-- without a mistake the numbers are such as they may be -/
theorem nu_ok {T : Int → Int} {p μ lo hi : Int} (h : nuM T p μ lo hi = 0) : μ = 0 ∧ lo ≤ nuV T p μ lo ∧ nuV T p μ lo ≤ hi := by
  unfold nuM at h
  split at h
  · rename_i q; exact absurd h q
  · rename_i q
    have hm : μ = 0 := by omega
    split at h
    · cases h
    · split at h
      · cases h
      · unfold nuV
        rw [if_neg q]
        omega
theorem sg_ok {T : Int → Int} {p μ s : Int} (h : sgM T p μ s = 0) : μ = 0 ∧ T p = s := by
  unfold sgM at h
  split at h
  · rename_i q; exact absurd h q
  · split at h
    · rename_i q q2; exact ⟨by omega, q2⟩
    · cases h
theorem c_ok {T : Int → Int} {p : Int} (h : cM6 T p = 0) : 0 ≤ cV1 T p ∧ cV1 T p ≤ 9 ∧ 0 ≤ cV2 T p ∧ cV2 T p ≤ 16 ∧ 0 ≤ cV3 T p ∧ cV3 T p ≤ 3 := by
  have h5 := (sg_ok h).1
  have g5 := nu_ok h5
  have h3 := (sg_ok g5.1).1
  have g3 := nu_ok h3
  have h1 := (sg_ok g3.1).1
  have g1 := nu_ok h1
  exact ⟨g1.2.1, g1.2.2, g3.2.1, g3.2.2, g5.2.1, g5.2.2⟩
