/-- the draft: what the tape told of its chairs, guests -/
def cTol (D T : Int → Int) (p j : Int) : Prop := D (3 + 5 * j) = kindF (T p) ∧ D (3 + 5 * j + 1) = cV1 T p ∧ D (3 + 5 * j + 2) = cV2 T p ∧ D (3 + 5 * j + 3) = cV3 T p ∧ D (3 + 5 * j + 4) = 0
def gTol (D T : Int → Int) (p j : Int) : Prop := D (28 + 4 * j) = gV1 T p ∧ D (28 + 4 * j + 1) = gV2 T p ∧ D (28 + 4 * j + 2) = 0
def CHD (D T : Int → Int) (q l : Int) (n : Nat) : Prop := D 0 = l ∧ D 1 = (n : Int) ∧ D 2 = 0 ∧ (∀ j : Nat, j < n → cTol D T (pcs T q j) (j : Int) ∧ OKC D (j : Int)) ∧ ∀ b, 3 + 5 * (n : Int) ≤ b → D b = 0
def GHD (D T : Int → Int) (qc l : Int) (m : Nat) (q : Int) (n : Nat) : Prop := D 0 = l ∧ D 1 = (m : Int) ∧ D 2 = (n : Int) ∧ (∀ j : Nat, j < m → cTol D T (pcs T qc j) (j : Int) ∧ OKC D (j : Int)) ∧ (∀ j : Nat, j < n → gTol D T (pgs T q j) (j : Int) ∧ (0 ≤ D (28 + 4 * (j : Int)) ∧ D (28 + 4 * (j : Int)) ≤ 9) ∧ 1 ≤ D (28 + 4 * (j : Int) + 1) ∧ D (28 + 4 * (j : Int) + 1) ≤ 9) ∧ ∀ b, 28 + 4 * (n : Int) ≤ b → D b = 0
theorem adc_o {D : Int → Int} {n k m s t b : Int} (h1 : b ≠ 1) (h : b < 3 + 5 * n ∨ 3 + 5 * n + 3 < b) : addC D n k m s t b = D b := by
  unfold addC
  rw [if_neg h1, if_neg (by omega), if_neg (by omega), if_neg (by omega), if_neg (by omega)]
theorem adg_o {D : Int → Int} {n o w b : Int} (h1 : b ≠ 2) (h : b < 28 + 4 * n ∨ 28 + 4 * n + 1 < b) : addG D n o w b = D b := by
  unfold addG
  rw [if_neg h1, if_neg (by omega), if_neg (by omega)]
theorem chd_add {D T : Int → Int} {q l p : Int} {n : Nat} (h : CHD D T q l n) (hp : p = pcs T q n) (hk : kindF (T p) ≠ 0) (hm : cM6 T p = 0) : CHD (addC D (n : Int) (kindF (T p)) (cV1 T p) (cV2 T p) (cV3 T p)) T q l (n + 1) := by
  obtain ⟨a0, a1, a2, a3, a4⟩ := h
  have ok := c_ok hm
  have kr := kind_rg2 (T p)
  refine ⟨?_, ?_, ?_, fun j hj => ?_, fun b hb => ?_⟩
  · rw [adc_o (by decide) (by omega)]; exact a0
  · unfold addC; rw [if_pos rfl]; rfl
  · rw [adc_o (by decide) (by omega)]; exact a2
  · by_cases e : j = n
    · subst e
      have e0 : addC D (j : Int) (kindF (T p)) (cV1 T p) (cV2 T p) (cV3 T p) (3 + 5 * (j : Int)) = kindF (T p) := by
        unfold addC
        rw [if_neg (by omega), if_neg (by omega), if_neg (by omega), if_neg (by omega), if_pos rfl]
      have e1 : addC D (j : Int) (kindF (T p)) (cV1 T p) (cV2 T p) (cV3 T p) (3 + 5 * (j : Int) + 1) = cV1 T p := by
        unfold addC
        rw [if_neg (by omega), if_neg (by omega), if_neg (by omega), if_pos rfl]
      have e2 : addC D (j : Int) (kindF (T p)) (cV1 T p) (cV2 T p) (cV3 T p) (3 + 5 * (j : Int) + 2) = cV2 T p := by
        unfold addC
        rw [if_neg (by omega), if_neg (by omega), if_pos rfl]
      have e3 : addC D (j : Int) (kindF (T p)) (cV1 T p) (cV2 T p) (cV3 T p) (3 + 5 * (j : Int) + 3) = cV3 T p := by
        unfold addC
        rw [if_neg (by omega), if_pos rfl]
      have e4 : addC D (j : Int) (kindF (T p)) (cV1 T p) (cV2 T p) (cV3 T p) (3 + 5 * (j : Int) + 4) = 0 := by
        rw [adc_o (by omega) (by omega)]; exact a4 _ (by omega)
      unfold cTol OKC
      rw [e0, e1, e2, e3, e4, ← hp]
      exact ⟨⟨rfl, rfl, rfl, rfl, rfl⟩, by omega, by omega, by omega, by omega, by decide, by decide⟩
    · obtain ⟨c1, c2⟩ := a3 j (by omega)
      unfold cTol OKC at *
      rw [adc_o (by omega) (by omega), adc_o (by omega) (by omega), adc_o (by omega) (by omega), adc_o (by omega) (by omega), adc_o (by omega) (by omega)]
      exact ⟨c1, c2⟩
  · rw [adc_o (by omega) (by omega)]; exact a4 b (by omega)
theorem gu_ok {T : Int → Int} {p : Int} (h : gM4 T p = 0) : 0 ≤ gV1 T p ∧ gV1 T p ≤ 9 ∧ 1 ≤ gV2 T p ∧ gV2 T p ≤ 9 := by
  have k3 := (sg_ok h).1
  have g3 := nu_ok k3
  have k1 := (sg_ok g3.1).1
  have g1 := nu_ok k1
  exact ⟨g1.2.1, g1.2.2, g3.2.1, g3.2.2⟩
theorem ghd_add {D T : Int → Int} {qc l q p : Int} {m n : Nat} (h : GHD D T qc l m q n) (m5 : m ≤ 5) (hp : p = pgs T q n) (hm : gM4 T p = 0) : GHD (addG D (n : Int) (gV1 T p) (gV2 T p)) T qc l m q (n + 1) := by
  obtain ⟨a0, a1, a2, a3, a4, a5⟩ := h
  have ok := gu_ok hm
  refine ⟨?_, ?_, ?_, fun j hj => ?_, fun j hj => ?_, fun b hb => ?_⟩
  · rw [adg_o (by decide) (by omega)]; exact a0
  · rw [adg_o (by decide) (by omega)]; exact a1
  · unfold addG; rw [if_pos rfl]; rfl
  · obtain ⟨c1, c2⟩ := a3 j hj
    unfold cTol OKC at *
    rw [adg_o (by omega) (by omega), adg_o (by omega) (by omega), adg_o (by omega) (by omega), adg_o (by omega) (by omega), adg_o (by omega) (by omega)]
    exact ⟨c1, c2⟩
  · by_cases e : j = n
    · subst e
      have e0 : addG D (j : Int) (gV1 T p) (gV2 T p) (28 + 4 * (j : Int)) = gV1 T p := by
        unfold addG
        rw [if_neg (by omega), if_neg (by omega), if_pos rfl]
      have e1 : addG D (j : Int) (gV1 T p) (gV2 T p) (28 + 4 * (j : Int) + 1) = gV2 T p := by
        unfold addG
        rw [if_neg (by omega), if_pos rfl]
      have e2 : addG D (j : Int) (gV1 T p) (gV2 T p) (28 + 4 * (j : Int) + 2) = 0 := by
        rw [adg_o (by omega) (by omega)]; exact a5 _ (by omega)
      unfold gTol
      rw [e0, e1, e2, ← hp]
      exact ⟨⟨rfl, rfl, rfl⟩, by omega, by omega, by omega⟩
    · obtain ⟨c1, c2⟩ := a4 j (by omega)
      unfold gTol at *
      rw [adg_o (by omega) (by omega), adg_o (by omega) (by omega), adg_o (by omega) (by omega)]
      exact ⟨c1, c2⟩
  · rw [adg_o (by omega) (by omega)]; exact a5 b (by omega)
theorem ghd_ok {D T : Int → Int} {qc l q : Int} {m n : Nat} (h : GHD D T qc l m q n) (l0 : 0 ≤ l) (l9 : l ≤ 9) (m5 : m ≤ 5) (n5 : n ≤ 5) : OKW D := by
  obtain ⟨a0, a1, a2, a3, a4, a5⟩ := h
  refine ⟨by omega, by omega, by omega, fun c c0 c1 => ?_, fun g g0 g1 => ?_, fun g h g0 g1 h0 h1 e ne => ?_⟩
  · obtain ⟨j, rfl⟩ : ∃ j : Nat, c = (j : Int) := ⟨c.toNat, by omega⟩
    exact (a3 j (by omega)).2
  · obtain ⟨j, rfl⟩ : ∃ j : Nat, g = (j : Int) := ⟨g.toNat, by omega⟩
    obtain ⟨c1, c2, c3⟩ := a4 j (by omega)
    have z := c1.2.2
    exact ⟨c2, c3, by omega, fun u => absurd z u⟩
  · obtain ⟨j, rfl⟩ : ∃ j : Nat, g = (j : Int) := ⟨g.toNat, by omega⟩
    exact absurd (a4 j (by omega)).1.2.2 ne
theorem pa_law {T : Int → Int} {z : Int} (h : lM3 T ≠ 0) : (paG T).1 = lP3 T ∧ paM T z = lM3 T := by
  have e : paC T = (lP3 T, lM3 T, 0) := by unfold paC; rw [if_pos h]
  have e2 : paG T = (lP3 T, lM3 T, 0) := by unfold paG; rw [e]; exact if_pos h
  unfold paM
  rw [e2]
  exact ⟨rfl, if_neg (fun u => h u.1)⟩
theorem pa_ch {T : Int → Int} {z p μ n : Int} (h : lM3 T = 0) (hR : chR T 6 (lP3 T) 0 = (p, μ, n)) (hf : (μ ≠ 0 ∨ n ≠ 0)) : paC T = (p, μ, n) ∧ (μ ≠ 0 → (paG T).1 = p ∧ paM T z = μ) := by
  have e : paC T = (p, μ, n) := by
    unfold paC paC2
    rw [if_neg (fun u => u h), hR]
    show (p, if μ = 0 ∧ n = 0 then 1 else μ, n) = _
    rw [if_neg (by omega)]
  refine ⟨e, fun hm => ?_⟩
  have e2 : paG T = (p, μ, 0) := by unfold paG; rw [e]; exact if_pos hm
  unfold paM
  rw [e2]
  exact ⟨rfl, if_neg (fun u => hm u.1)⟩
theorem pa_no {T : Int → Int} {z : Int} (h : lM3 T = 0) (hk : kindF (T (lP3 T)) = 0) : (paG T).1 = lP3 T ∧ paM T z = 1 := by
  have e0 : chR T 6 (lP3 T) 0 = (lP3 T, 0, 0) := by rw [chR, if_pos hk]
  have e : paC T = (lP3 T, 1, 0) := by
    unfold paC paC2
    rw [if_neg (fun u => u h), e0]
    rfl
  have e2 : paG T = (lP3 T, 1, 0) := by unfold paG; rw [e]; rfl
  unfold paM
  rw [e2]
  exact ⟨rfl, rfl⟩
theorem pa_gu {T : Int → Int} {z pc nc p μ n : Int} (hC : paC T = (pc, 0, nc)) (hR : guR T 6 pc 0 = (p, μ, n)) : paG T = (p, μ, n) ∧ paM T z = if μ = 0 ∧ p < z then 1 else μ := by
  have e2 : paG T = (p, μ, n) := by
    unfold paG
    rw [hC]
    show (if (0 : Int) ≠ 0 then _ else _) = _
    rw [if_neg (by decide)]
    exact hR
  refine ⟨e2, ?_⟩
  unfold paM
  rw [e2]

set_option maxHeartbeats 1000000 in
theorem m_f95 {d : Nat} {J : Nat → Int → Int} {Q : Option jV → jS → Prop} (hJ : RZ J) {K : Nat → Int → Int} {T : Int → Int} {z k0 : Int} {p μ : Int} {x : Option jV} (h : PST J T z p μ k0) (hμ : μ ≠ 0) (hp : (paG T).1 = p) (hm : paM T z = μ) (hfr : FR7 K J) (hd : 5 ≤ d) (hF : ∀ J', paM T z ≠ 0 → RZ J' → J' 0 7 = paM T z → J' 0 6 = 0 → FR6 K J' → Q (some (vi (-1000100 - (paG T).1))) (SM J')) : Ev d 179 95 [some (vr 0), x] [] (SM J) Q := by
  obtain ⟨h8_, h7_⟩ := h.wN hμ
  have p0 := h.2.1.1
  have hz := h.1.2.1
  have p1 := h.2.1.2
  refine ev_s1 (L' := [some (vr 0), x]) (S' := [vr 0]) k179_95 rfl rfl ?_
  refine ev_s1 (L' := [some (vr 0), x]) (S' := [vr 0, vr 0]) k179_96 rfl rfl ?_
  refine ev_getI k179_97 (by decide) (rfl) ?_
  show Ev d 179 100 [some (vr 0), x] [vi (J 0 11), vr 0] (SM J) Q
  have rr1 := hJ.1 0 11
  refine ev_s1 (L' := [some (vr 0), x]) (S' := [vi 1, vi (J 0 11), vr 0]) k179_100 rfl rfl ?_
  refine ev_c_ne (t := 118) k179_101 rfl (by omega) (by omega) (by omega) (by omega) (fun h2 => ?_) (fun h2 => ?_)
  · refine ev_s1 (L' := [some (vr 0), x]) (S' := [vi 0, vr 0]) k179_118 rfl rfl ?_
    refine ev_virt (a := [vi 0]) (S' := []) k179_119 rfl (Nat.le_of_ble_eq_true rfl) (by decide) (rfl) (by omega) ?_
    refine m_mustN hJ (p := p) h8_ p0 (by omega) (?_)
    show Ev d 179 122 [some (vr 0), x] [] (SM J) Q
    refine ev_s1 (L' := [some (vr 0), x]) (S' := [vr 0]) k179_122 rfl rfl ?_
    refine ev_virt (a := []) (S' := []) k179_123 rfl (Nat.le_of_ble_eq_true rfl) (by decide) (rfl) (by omega) ?_
    refine m_isWell hJ (fun hw8 => absurd hw8 (by rw [h8_]; omega)) (fun _ => ?_)
    show Ev d 179 126 [some (vr 0), x] [vi 0] (SM J) Q
    refine ev_z_eq (t := 154) k179_126 rfl (by omega) (by omega) (fun _ => ?_) (fun h => absurd h (by decide))
    refine ev_s1 (L' := [some (vr 0), x]) (S' := [vr 0]) k179_154 rfl rfl ?_
    refine ev_virt (a := []) (S' := []) k179_155 rfl (Nat.le_of_ble_eq_true rfl) (by decide) (rfl) (by omega) ?_
    refine m_isWell hJ (fun hw8 => absurd hw8 (by rw [h8_]; omega)) (fun _ => ?_)
    show Ev d 179 158 [some (vr 0), x] [vi 0] (SM J) Q
    refine ev_z_eq (t := 185) k179_158 rfl (by omega) (by omega) (fun _ => ?_) (fun h => absurd h (by decide))
    refine ev_s1 (L' := [some (vr 0), x]) (S' := [vr 0]) k179_185 rfl rfl ?_
    refine ev_s1 (L' := [some (vr 0), x]) (S' := [vr 0, vr 0]) k179_186 rfl rfl ?_
    refine ev_getI k179_187 (by decide) (rfl) ?_
    show Ev d 179 190 [some (vr 0), x] [vi (J 0 11), vr 0] (SM J) Q
    have rr3 := hJ.1 0 11
    refine ev_z_ne (t := 197) k179_190 rfl (by omega) (by omega) (fun h4 => ?_) (fun h4 => ?_)
    · refine ev_s1 (L' := [some (vr 0), x]) (S' := [vi 0, vr 0]) k179_197 rfl rfl ?_
      refine ev_virt (a := [vi 0]) (S' := []) k179_198 rfl (Nat.le_of_ble_eq_true rfl) (by decide) (rfl) (by omega) ?_
      refine m_mustN hJ (p := p) h8_ p0 (by omega) (?_)
      show Ev d 179 201 [some (vr 0), x] [] (SM J) Q
      refine ev_s1 (L' := [some (vr 0), x]) (S' := [vr 0]) k179_201 rfl rfl ?_
      refine ev_s1 (L' := [some (vr 0), x]) (S' := [vi 0, vr 0]) k179_202 rfl rfl ?_
      refine ev_putI k179_203 (by decide) (rfl) ?_
      show Ev d 179 206 [some (vr 0), x] [] (SM (up J 0 6 0)) Q
      have hJ5 := rz_up hJ (k := 0) (j := 6) (z := 0) (by omega) (by omega) (by omega)
      have g5 : ∀ aa, aa ≠ 0 → up J 0 6 0 aa = J aa := fun aa h => upf h
      have q5 : ∀ bb, bb ≠ 6 → up J 0 6 0 0 bb = J 0 bb := fun bb h => upN (Or.inr h)
      have e5 : up J 0 6 0 0 6 = 0 := upE rfl rfl
      generalize up J 0 6 0 = J5 at hJ5 g5 q5 e5 ⊢
      refine ev_s1 (L' := [some (vr 0), x]) (S' := [vr 0]) k179_206 rfl rfl ?_
      refine ev_virt (a := []) (S' := []) k179_207 rfl (Nat.le_of_ble_eq_true rfl) (by decide) (rfl) (by omega) ?_
      refine m_isWell hJ5 (fun hw8 => absurd hw8 (by rw [q5 8 (by decide), h8_]; omega)) (fun _ => ?_)
      show Ev d 179 210 [some (vr 0), x] [vi 0] (SM J5) Q
      refine ev_z_ne (t := 221) k179_210 rfl (by omega) (by omega) (fun h => absurd h (by decide)) (fun _ => ?_)
      refine ev_ldc k179_213 ?_
      refine ev_s1 (L' := [some (vr 0), x]) (S' := [vr 0, vi (-1000100)]) k179_215 rfl rfl ?_
      refine ev_getI k179_216 (by decide) (rfl) ?_
      show Ev d 179 219 [some (vr 0), x] [vi (J5 0 8), vi (-1000100)] (SM J5) Q
      have rr6 := hJ5.1 0 8
      rw [q5 8 (by decide), h8_]
      rw [q5 8 (by decide), h8_] at rr6
      refine ev_s1 (L' := [some (vr 0), x]) (S' := [vi ((-1000100) - p)]) k179_219 rfl rfl ?_
      refine ev_ireturn k179_220 ?_
      rw [hp] at hF
      exact hF _ (by rw [hm]; exact hμ) hJ5 (by rw [q5 7 (by decide), hm]; exact h7_) e5 ⟨fun b hb => by rw [q5 b hb.1]; exact hfr.1 b hb.2, fun a ha => by rw [g5 a ha.1]; exact hfr.2 a ha⟩
    · refine ev_s1 (L' := [some (vr 0), x]) (S' := [vi 1, vr 0]) k179_193 rfl rfl ?_
      refine ev_goto (t := 198) k179_194 rfl ?_
      refine ev_virt (a := [vi 1]) (S' := []) k179_198 rfl (Nat.le_of_ble_eq_true rfl) (by decide) (rfl) (by omega) ?_
      refine m_mustN hJ (p := p) h8_ p0 (by omega) (?_)
      show Ev d 179 201 [some (vr 0), x] [] (SM J) Q
      refine ev_s1 (L' := [some (vr 0), x]) (S' := [vr 0]) k179_201 rfl rfl ?_
      refine ev_s1 (L' := [some (vr 0), x]) (S' := [vi 0, vr 0]) k179_202 rfl rfl ?_
      refine ev_putI k179_203 (by decide) (rfl) ?_
      show Ev d 179 206 [some (vr 0), x] [] (SM (up J 0 6 0)) Q
      have hJ7 := rz_up hJ (k := 0) (j := 6) (z := 0) (by omega) (by omega) (by omega)
      have g7 : ∀ aa, aa ≠ 0 → up J 0 6 0 aa = J aa := fun aa h => upf h
      have q7 : ∀ bb, bb ≠ 6 → up J 0 6 0 0 bb = J 0 bb := fun bb h => upN (Or.inr h)
      have e7 : up J 0 6 0 0 6 = 0 := upE rfl rfl
      generalize up J 0 6 0 = J7 at hJ7 g7 q7 e7 ⊢
      refine ev_s1 (L' := [some (vr 0), x]) (S' := [vr 0]) k179_206 rfl rfl ?_
      refine ev_virt (a := []) (S' := []) k179_207 rfl (Nat.le_of_ble_eq_true rfl) (by decide) (rfl) (by omega) ?_
      refine m_isWell hJ7 (fun hw8 => absurd hw8 (by rw [q7 8 (by decide), h8_]; omega)) (fun _ => ?_)
      show Ev d 179 210 [some (vr 0), x] [vi 0] (SM J7) Q
      refine ev_z_ne (t := 221) k179_210 rfl (by omega) (by omega) (fun h => absurd h (by decide)) (fun _ => ?_)
      refine ev_ldc k179_213 ?_
      refine ev_s1 (L' := [some (vr 0), x]) (S' := [vr 0, vi (-1000100)]) k179_215 rfl rfl ?_
      refine ev_getI k179_216 (by decide) (rfl) ?_
      show Ev d 179 219 [some (vr 0), x] [vi (J7 0 8), vi (-1000100)] (SM J7) Q
      have rr8 := hJ7.1 0 8
      rw [q7 8 (by decide), h8_]
      rw [q7 8 (by decide), h8_] at rr8
      refine ev_s1 (L' := [some (vr 0), x]) (S' := [vi ((-1000100) - p)]) k179_219 rfl rfl ?_
      refine ev_ireturn k179_220 ?_
      rw [hp] at hF
      exact hF _ (by rw [hm]; exact hμ) hJ7 (by rw [q7 7 (by decide), hm]; exact h7_) e7 ⟨fun b hb => by rw [q7 b hb.1]; exact hfr.1 b hb.2, fun a ha => by rw [g7 a ha.1]; exact hfr.2 a ha⟩
  · refine ev_s1 (L' := [some (vr 0), x]) (S' := [vr 0, vr 0]) k179_104 rfl rfl ?_
    refine ev_getI k179_105 (by decide) (rfl) ?_
    show Ev d 179 108 [some (vr 0), x] [vi (J 0 12), vr 0] (SM J) Q
    have rr9 := hJ.1 0 12
    refine ev_static (a := [vi (J 0 12)]) (S' := [vr 0]) k179_108 rfl (Nat.le_of_ble_eq_true rfl) (by omega) ?_
    refine m_kindOf (b := J 0 12) (by omega) (by omega) (?_)
    have kk108 := kind_rg2 (J 0 12)
    show Ev d 179 111 [some (vr 0), x] [vi (kindF (J 0 12)), vr 0] (SM J) Q
    refine ev_z_le (t := 118) k179_111 rfl (by omega) (by omega) (fun h10 => ?_) (fun h10 => ?_)
    · refine ev_s1 (L' := [some (vr 0), x]) (S' := [vi 0, vr 0]) k179_118 rfl rfl ?_
      refine ev_virt (a := [vi 0]) (S' := []) k179_119 rfl (Nat.le_of_ble_eq_true rfl) (by decide) (rfl) (by omega) ?_
      refine m_mustN hJ (p := p) h8_ p0 (by omega) (?_)
      show Ev d 179 122 [some (vr 0), x] [] (SM J) Q
      refine ev_s1 (L' := [some (vr 0), x]) (S' := [vr 0]) k179_122 rfl rfl ?_
      refine ev_virt (a := []) (S' := []) k179_123 rfl (Nat.le_of_ble_eq_true rfl) (by decide) (rfl) (by omega) ?_
      refine m_isWell hJ (fun hw8 => absurd hw8 (by rw [h8_]; omega)) (fun _ => ?_)
      show Ev d 179 126 [some (vr 0), x] [vi 0] (SM J) Q
      refine ev_z_eq (t := 154) k179_126 rfl (by omega) (by omega) (fun _ => ?_) (fun h => absurd h (by decide))
      refine ev_s1 (L' := [some (vr 0), x]) (S' := [vr 0]) k179_154 rfl rfl ?_
      refine ev_virt (a := []) (S' := []) k179_155 rfl (Nat.le_of_ble_eq_true rfl) (by decide) (rfl) (by omega) ?_
      refine m_isWell hJ (fun hw8 => absurd hw8 (by rw [h8_]; omega)) (fun _ => ?_)
      show Ev d 179 158 [some (vr 0), x] [vi 0] (SM J) Q
      refine ev_z_eq (t := 185) k179_158 rfl (by omega) (by omega) (fun _ => ?_) (fun h => absurd h (by decide))
      refine ev_s1 (L' := [some (vr 0), x]) (S' := [vr 0]) k179_185 rfl rfl ?_
      refine ev_s1 (L' := [some (vr 0), x]) (S' := [vr 0, vr 0]) k179_186 rfl rfl ?_
      refine ev_getI k179_187 (by decide) (rfl) ?_
      show Ev d 179 190 [some (vr 0), x] [vi (J 0 11), vr 0] (SM J) Q
      have rr11 := hJ.1 0 11
      refine ev_z_ne (t := 197) k179_190 rfl (by omega) (by omega) (fun h12 => ?_) (fun h12 => ?_)
      · refine ev_s1 (L' := [some (vr 0), x]) (S' := [vi 0, vr 0]) k179_197 rfl rfl ?_
        refine ev_virt (a := [vi 0]) (S' := []) k179_198 rfl (Nat.le_of_ble_eq_true rfl) (by decide) (rfl) (by omega) ?_
        refine m_mustN hJ (p := p) h8_ p0 (by omega) (?_)
        show Ev d 179 201 [some (vr 0), x] [] (SM J) Q
        refine ev_s1 (L' := [some (vr 0), x]) (S' := [vr 0]) k179_201 rfl rfl ?_
        refine ev_s1 (L' := [some (vr 0), x]) (S' := [vi 0, vr 0]) k179_202 rfl rfl ?_
        refine ev_putI k179_203 (by decide) (rfl) ?_
        show Ev d 179 206 [some (vr 0), x] [] (SM (up J 0 6 0)) Q
        have hJ13 := rz_up hJ (k := 0) (j := 6) (z := 0) (by omega) (by omega) (by omega)
        have g13 : ∀ aa, aa ≠ 0 → up J 0 6 0 aa = J aa := fun aa h => upf h
        have q13 : ∀ bb, bb ≠ 6 → up J 0 6 0 0 bb = J 0 bb := fun bb h => upN (Or.inr h)
        have e13 : up J 0 6 0 0 6 = 0 := upE rfl rfl
        generalize up J 0 6 0 = J13 at hJ13 g13 q13 e13 ⊢
        refine ev_s1 (L' := [some (vr 0), x]) (S' := [vr 0]) k179_206 rfl rfl ?_
        refine ev_virt (a := []) (S' := []) k179_207 rfl (Nat.le_of_ble_eq_true rfl) (by decide) (rfl) (by omega) ?_
        refine m_isWell hJ13 (fun hw8 => absurd hw8 (by rw [q13 8 (by decide), h8_]; omega)) (fun _ => ?_)
        show Ev d 179 210 [some (vr 0), x] [vi 0] (SM J13) Q
        refine ev_z_ne (t := 221) k179_210 rfl (by omega) (by omega) (fun h => absurd h (by decide)) (fun _ => ?_)
        refine ev_ldc k179_213 ?_
        refine ev_s1 (L' := [some (vr 0), x]) (S' := [vr 0, vi (-1000100)]) k179_215 rfl rfl ?_
        refine ev_getI k179_216 (by decide) (rfl) ?_
        show Ev d 179 219 [some (vr 0), x] [vi (J13 0 8), vi (-1000100)] (SM J13) Q
        have rr14 := hJ13.1 0 8
        rw [q13 8 (by decide), h8_]
        rw [q13 8 (by decide), h8_] at rr14
        refine ev_s1 (L' := [some (vr 0), x]) (S' := [vi ((-1000100) - p)]) k179_219 rfl rfl ?_
        refine ev_ireturn k179_220 ?_
        rw [hp] at hF
        exact hF _ (by rw [hm]; exact hμ) hJ13 (by rw [q13 7 (by decide), hm]; exact h7_) e13 ⟨fun b hb => by rw [q13 b hb.1]; exact hfr.1 b hb.2, fun a ha => by rw [g13 a ha.1]; exact hfr.2 a ha⟩
      · refine ev_s1 (L' := [some (vr 0), x]) (S' := [vi 1, vr 0]) k179_193 rfl rfl ?_
        refine ev_goto (t := 198) k179_194 rfl ?_
        refine ev_virt (a := [vi 1]) (S' := []) k179_198 rfl (Nat.le_of_ble_eq_true rfl) (by decide) (rfl) (by omega) ?_
        refine m_mustN hJ (p := p) h8_ p0 (by omega) (?_)
        show Ev d 179 201 [some (vr 0), x] [] (SM J) Q
        refine ev_s1 (L' := [some (vr 0), x]) (S' := [vr 0]) k179_201 rfl rfl ?_
        refine ev_s1 (L' := [some (vr 0), x]) (S' := [vi 0, vr 0]) k179_202 rfl rfl ?_
        refine ev_putI k179_203 (by decide) (rfl) ?_
        show Ev d 179 206 [some (vr 0), x] [] (SM (up J 0 6 0)) Q
        have hJ15 := rz_up hJ (k := 0) (j := 6) (z := 0) (by omega) (by omega) (by omega)
        have g15 : ∀ aa, aa ≠ 0 → up J 0 6 0 aa = J aa := fun aa h => upf h
        have q15 : ∀ bb, bb ≠ 6 → up J 0 6 0 0 bb = J 0 bb := fun bb h => upN (Or.inr h)
        have e15 : up J 0 6 0 0 6 = 0 := upE rfl rfl
        generalize up J 0 6 0 = J15 at hJ15 g15 q15 e15 ⊢
        refine ev_s1 (L' := [some (vr 0), x]) (S' := [vr 0]) k179_206 rfl rfl ?_
        refine ev_virt (a := []) (S' := []) k179_207 rfl (Nat.le_of_ble_eq_true rfl) (by decide) (rfl) (by omega) ?_
        refine m_isWell hJ15 (fun hw8 => absurd hw8 (by rw [q15 8 (by decide), h8_]; omega)) (fun _ => ?_)
        show Ev d 179 210 [some (vr 0), x] [vi 0] (SM J15) Q
        refine ev_z_ne (t := 221) k179_210 rfl (by omega) (by omega) (fun h => absurd h (by decide)) (fun _ => ?_)
        refine ev_ldc k179_213 ?_
        refine ev_s1 (L' := [some (vr 0), x]) (S' := [vr 0, vi (-1000100)]) k179_215 rfl rfl ?_
        refine ev_getI k179_216 (by decide) (rfl) ?_
        show Ev d 179 219 [some (vr 0), x] [vi (J15 0 8), vi (-1000100)] (SM J15) Q
        have rr16 := hJ15.1 0 8
        rw [q15 8 (by decide), h8_]
        rw [q15 8 (by decide), h8_] at rr16
        refine ev_s1 (L' := [some (vr 0), x]) (S' := [vi ((-1000100) - p)]) k179_219 rfl rfl ?_
        refine ev_ireturn k179_220 ?_
        rw [hp] at hF
        exact hF _ (by rw [hm]; exact hμ) hJ15 (by rw [q15 7 (by decide), hm]; exact h7_) e15 ⟨fun b hb => by rw [q15 b hb.1]; exact hfr.1 b hb.2, fun a ha => by rw [g15 a ha.1]; exact hfr.2 a ha⟩
    · refine ev_s1 (L' := [some (vr 0), x]) (S' := [vi 1, vr 0]) k179_114 rfl rfl ?_
      refine ev_goto (t := 119) k179_115 rfl ?_
      refine ev_virt (a := [vi 1]) (S' := []) k179_119 rfl (Nat.le_of_ble_eq_true rfl) (by decide) (rfl) (by omega) ?_
      refine m_mustN hJ (p := p) h8_ p0 (by omega) (?_)
      show Ev d 179 122 [some (vr 0), x] [] (SM J) Q
      refine ev_s1 (L' := [some (vr 0), x]) (S' := [vr 0]) k179_122 rfl rfl ?_
      refine ev_virt (a := []) (S' := []) k179_123 rfl (Nat.le_of_ble_eq_true rfl) (by decide) (rfl) (by omega) ?_
      refine m_isWell hJ (fun hw8 => absurd hw8 (by rw [h8_]; omega)) (fun _ => ?_)
      show Ev d 179 126 [some (vr 0), x] [vi 0] (SM J) Q
      refine ev_z_eq (t := 154) k179_126 rfl (by omega) (by omega) (fun _ => ?_) (fun h => absurd h (by decide))
      refine ev_s1 (L' := [some (vr 0), x]) (S' := [vr 0]) k179_154 rfl rfl ?_
      refine ev_virt (a := []) (S' := []) k179_155 rfl (Nat.le_of_ble_eq_true rfl) (by decide) (rfl) (by omega) ?_
      refine m_isWell hJ (fun hw8 => absurd hw8 (by rw [h8_]; omega)) (fun _ => ?_)
      show Ev d 179 158 [some (vr 0), x] [vi 0] (SM J) Q
      refine ev_z_eq (t := 185) k179_158 rfl (by omega) (by omega) (fun _ => ?_) (fun h => absurd h (by decide))
      refine ev_s1 (L' := [some (vr 0), x]) (S' := [vr 0]) k179_185 rfl rfl ?_
      refine ev_s1 (L' := [some (vr 0), x]) (S' := [vr 0, vr 0]) k179_186 rfl rfl ?_
      refine ev_getI k179_187 (by decide) (rfl) ?_
      show Ev d 179 190 [some (vr 0), x] [vi (J 0 11), vr 0] (SM J) Q
      have rr17 := hJ.1 0 11
      refine ev_z_ne (t := 197) k179_190 rfl (by omega) (by omega) (fun h18 => ?_) (fun h18 => ?_)
      · refine ev_s1 (L' := [some (vr 0), x]) (S' := [vi 0, vr 0]) k179_197 rfl rfl ?_
        refine ev_virt (a := [vi 0]) (S' := []) k179_198 rfl (Nat.le_of_ble_eq_true rfl) (by decide) (rfl) (by omega) ?_
        refine m_mustN hJ (p := p) h8_ p0 (by omega) (?_)
        show Ev d 179 201 [some (vr 0), x] [] (SM J) Q
        refine ev_s1 (L' := [some (vr 0), x]) (S' := [vr 0]) k179_201 rfl rfl ?_
        refine ev_s1 (L' := [some (vr 0), x]) (S' := [vi 0, vr 0]) k179_202 rfl rfl ?_
        refine ev_putI k179_203 (by decide) (rfl) ?_
        show Ev d 179 206 [some (vr 0), x] [] (SM (up J 0 6 0)) Q
        have hJ19 := rz_up hJ (k := 0) (j := 6) (z := 0) (by omega) (by omega) (by omega)
        have g19 : ∀ aa, aa ≠ 0 → up J 0 6 0 aa = J aa := fun aa h => upf h
        have q19 : ∀ bb, bb ≠ 6 → up J 0 6 0 0 bb = J 0 bb := fun bb h => upN (Or.inr h)
        have e19 : up J 0 6 0 0 6 = 0 := upE rfl rfl
        generalize up J 0 6 0 = J19 at hJ19 g19 q19 e19 ⊢
        refine ev_s1 (L' := [some (vr 0), x]) (S' := [vr 0]) k179_206 rfl rfl ?_
        refine ev_virt (a := []) (S' := []) k179_207 rfl (Nat.le_of_ble_eq_true rfl) (by decide) (rfl) (by omega) ?_
        refine m_isWell hJ19 (fun hw8 => absurd hw8 (by rw [q19 8 (by decide), h8_]; omega)) (fun _ => ?_)
        show Ev d 179 210 [some (vr 0), x] [vi 0] (SM J19) Q
        refine ev_z_ne (t := 221) k179_210 rfl (by omega) (by omega) (fun h => absurd h (by decide)) (fun _ => ?_)
        refine ev_ldc k179_213 ?_
        refine ev_s1 (L' := [some (vr 0), x]) (S' := [vr 0, vi (-1000100)]) k179_215 rfl rfl ?_
        refine ev_getI k179_216 (by decide) (rfl) ?_
        show Ev d 179 219 [some (vr 0), x] [vi (J19 0 8), vi (-1000100)] (SM J19) Q
        have rr20 := hJ19.1 0 8
        rw [q19 8 (by decide), h8_]
        rw [q19 8 (by decide), h8_] at rr20
        refine ev_s1 (L' := [some (vr 0), x]) (S' := [vi ((-1000100) - p)]) k179_219 rfl rfl ?_
        refine ev_ireturn k179_220 ?_
        rw [hp] at hF
        exact hF _ (by rw [hm]; exact hμ) hJ19 (by rw [q19 7 (by decide), hm]; exact h7_) e19 ⟨fun b hb => by rw [q19 b hb.1]; exact hfr.1 b hb.2, fun a ha => by rw [g19 a ha.1]; exact hfr.2 a ha⟩
      · refine ev_s1 (L' := [some (vr 0), x]) (S' := [vi 1, vr 0]) k179_193 rfl rfl ?_
        refine ev_goto (t := 198) k179_194 rfl ?_
        refine ev_virt (a := [vi 1]) (S' := []) k179_198 rfl (Nat.le_of_ble_eq_true rfl) (by decide) (rfl) (by omega) ?_
        refine m_mustN hJ (p := p) h8_ p0 (by omega) (?_)
        show Ev d 179 201 [some (vr 0), x] [] (SM J) Q
        refine ev_s1 (L' := [some (vr 0), x]) (S' := [vr 0]) k179_201 rfl rfl ?_
        refine ev_s1 (L' := [some (vr 0), x]) (S' := [vi 0, vr 0]) k179_202 rfl rfl ?_
        refine ev_putI k179_203 (by decide) (rfl) ?_
        show Ev d 179 206 [some (vr 0), x] [] (SM (up J 0 6 0)) Q
        have hJ21 := rz_up hJ (k := 0) (j := 6) (z := 0) (by omega) (by omega) (by omega)
        have g21 : ∀ aa, aa ≠ 0 → up J 0 6 0 aa = J aa := fun aa h => upf h
        have q21 : ∀ bb, bb ≠ 6 → up J 0 6 0 0 bb = J 0 bb := fun bb h => upN (Or.inr h)
        have e21 : up J 0 6 0 0 6 = 0 := upE rfl rfl
        generalize up J 0 6 0 = J21 at hJ21 g21 q21 e21 ⊢
        refine ev_s1 (L' := [some (vr 0), x]) (S' := [vr 0]) k179_206 rfl rfl ?_
        refine ev_virt (a := []) (S' := []) k179_207 rfl (Nat.le_of_ble_eq_true rfl) (by decide) (rfl) (by omega) ?_
        refine m_isWell hJ21 (fun hw8 => absurd hw8 (by rw [q21 8 (by decide), h8_]; omega)) (fun _ => ?_)
        show Ev d 179 210 [some (vr 0), x] [vi 0] (SM J21) Q
        refine ev_z_ne (t := 221) k179_210 rfl (by omega) (by omega) (fun h => absurd h (by decide)) (fun _ => ?_)
        refine ev_ldc k179_213 ?_
        refine ev_s1 (L' := [some (vr 0), x]) (S' := [vr 0, vi (-1000100)]) k179_215 rfl rfl ?_
        refine ev_getI k179_216 (by decide) (rfl) ?_
        show Ev d 179 219 [some (vr 0), x] [vi (J21 0 8), vi (-1000100)] (SM J21) Q
        have rr22 := hJ21.1 0 8
        rw [q21 8 (by decide), h8_]
        rw [q21 8 (by decide), h8_] at rr22
        refine ev_s1 (L' := [some (vr 0), x]) (S' := [vi ((-1000100) - p)]) k179_219 rfl rfl ?_
        refine ev_ireturn k179_220 ?_
        rw [hp] at hF
        exact hF _ (by rw [hm]; exact hμ) hJ21 (by rw [q21 7 (by decide), hm]; exact h7_) e21 ⟨fun b hb => by rw [q21 b hb.1]; exact hfr.1 b hb.2, fun a ha => by rw [g21 a ha.1]; exact hfr.2 a ha⟩

set_option maxHeartbeats 1000000 in
theorem m_f122 {d : Nat} {J : Nat → Int → Int} {Q : Option jV → jS → Prop} (hJ : RZ J) {K : Nat → Int → Int} {T : Int → Int} {z k0 : Int} {p μ : Int} {x : Option jV} (h : PST J T z p μ k0) (hμ : μ ≠ 0) (hp : (paG T).1 = p) (hm : paM T z = μ) (hfr : FR7 K J) (hd : 5 ≤ d) (hF : ∀ J', paM T z ≠ 0 → RZ J' → J' 0 7 = paM T z → J' 0 6 = 0 → FR6 K J' → Q (some (vi (-1000100 - (paG T).1))) (SM J')) : Ev d 179 122 [some (vr 0), x] [] (SM J) Q := by
  obtain ⟨h8_, h7_⟩ := h.wN hμ
  have p0 := h.2.1.1
  have hz := h.1.2.1
  have p1 := h.2.1.2
  refine ev_s1 (L' := [some (vr 0), x]) (S' := [vr 0]) k179_122 rfl rfl ?_
  refine ev_virt (a := []) (S' := []) k179_123 rfl (Nat.le_of_ble_eq_true rfl) (by decide) (rfl) (by omega) ?_
  refine m_isWell hJ (fun hw8 => absurd hw8 (by rw [h8_]; omega)) (fun _ => ?_)
  show Ev d 179 126 [some (vr 0), x] [vi 0] (SM J) Q
  refine ev_z_eq (t := 154) k179_126 rfl (by omega) (by omega) (fun _ => ?_) (fun h => absurd h (by decide))
  refine ev_s1 (L' := [some (vr 0), x]) (S' := [vr 0]) k179_154 rfl rfl ?_
  refine ev_virt (a := []) (S' := []) k179_155 rfl (Nat.le_of_ble_eq_true rfl) (by decide) (rfl) (by omega) ?_
  refine m_isWell hJ (fun hw8 => absurd hw8 (by rw [h8_]; omega)) (fun _ => ?_)
  show Ev d 179 158 [some (vr 0), x] [vi 0] (SM J) Q
  refine ev_z_eq (t := 185) k179_158 rfl (by omega) (by omega) (fun _ => ?_) (fun h => absurd h (by decide))
  refine ev_s1 (L' := [some (vr 0), x]) (S' := [vr 0]) k179_185 rfl rfl ?_
  refine ev_s1 (L' := [some (vr 0), x]) (S' := [vr 0, vr 0]) k179_186 rfl rfl ?_
  refine ev_getI k179_187 (by decide) (rfl) ?_
  show Ev d 179 190 [some (vr 0), x] [vi (J 0 11), vr 0] (SM J) Q
  have rr1 := hJ.1 0 11
  refine ev_z_ne (t := 197) k179_190 rfl (by omega) (by omega) (fun h2 => ?_) (fun h2 => ?_)
  · refine ev_s1 (L' := [some (vr 0), x]) (S' := [vi 0, vr 0]) k179_197 rfl rfl ?_
    refine ev_virt (a := [vi 0]) (S' := []) k179_198 rfl (Nat.le_of_ble_eq_true rfl) (by decide) (rfl) (by omega) ?_
    refine m_mustN hJ (p := p) h8_ p0 (by omega) (?_)
    show Ev d 179 201 [some (vr 0), x] [] (SM J) Q
    refine ev_s1 (L' := [some (vr 0), x]) (S' := [vr 0]) k179_201 rfl rfl ?_
    refine ev_s1 (L' := [some (vr 0), x]) (S' := [vi 0, vr 0]) k179_202 rfl rfl ?_
    refine ev_putI k179_203 (by decide) (rfl) ?_
    show Ev d 179 206 [some (vr 0), x] [] (SM (up J 0 6 0)) Q
    have hJ3 := rz_up hJ (k := 0) (j := 6) (z := 0) (by omega) (by omega) (by omega)
    have g3 : ∀ aa, aa ≠ 0 → up J 0 6 0 aa = J aa := fun aa h => upf h
    have q3 : ∀ bb, bb ≠ 6 → up J 0 6 0 0 bb = J 0 bb := fun bb h => upN (Or.inr h)
    have e3 : up J 0 6 0 0 6 = 0 := upE rfl rfl
    generalize up J 0 6 0 = J3 at hJ3 g3 q3 e3 ⊢
    refine ev_s1 (L' := [some (vr 0), x]) (S' := [vr 0]) k179_206 rfl rfl ?_
    refine ev_virt (a := []) (S' := []) k179_207 rfl (Nat.le_of_ble_eq_true rfl) (by decide) (rfl) (by omega) ?_
    refine m_isWell hJ3 (fun hw8 => absurd hw8 (by rw [q3 8 (by decide), h8_]; omega)) (fun _ => ?_)
    show Ev d 179 210 [some (vr 0), x] [vi 0] (SM J3) Q
    refine ev_z_ne (t := 221) k179_210 rfl (by omega) (by omega) (fun h => absurd h (by decide)) (fun _ => ?_)
    refine ev_ldc k179_213 ?_
    refine ev_s1 (L' := [some (vr 0), x]) (S' := [vr 0, vi (-1000100)]) k179_215 rfl rfl ?_
    refine ev_getI k179_216 (by decide) (rfl) ?_
    show Ev d 179 219 [some (vr 0), x] [vi (J3 0 8), vi (-1000100)] (SM J3) Q
    have rr4 := hJ3.1 0 8
    rw [q3 8 (by decide), h8_]
    rw [q3 8 (by decide), h8_] at rr4
    refine ev_s1 (L' := [some (vr 0), x]) (S' := [vi ((-1000100) - p)]) k179_219 rfl rfl ?_
    refine ev_ireturn k179_220 ?_
    rw [hp] at hF
    exact hF _ (by rw [hm]; exact hμ) hJ3 (by rw [q3 7 (by decide), hm]; exact h7_) e3 ⟨fun b hb => by rw [q3 b hb.1]; exact hfr.1 b hb.2, fun a ha => by rw [g3 a ha.1]; exact hfr.2 a ha⟩
  · refine ev_s1 (L' := [some (vr 0), x]) (S' := [vi 1, vr 0]) k179_193 rfl rfl ?_
    refine ev_goto (t := 198) k179_194 rfl ?_
    refine ev_virt (a := [vi 1]) (S' := []) k179_198 rfl (Nat.le_of_ble_eq_true rfl) (by decide) (rfl) (by omega) ?_
    refine m_mustN hJ (p := p) h8_ p0 (by omega) (?_)
    show Ev d 179 201 [some (vr 0), x] [] (SM J) Q
    refine ev_s1 (L' := [some (vr 0), x]) (S' := [vr 0]) k179_201 rfl rfl ?_
    refine ev_s1 (L' := [some (vr 0), x]) (S' := [vi 0, vr 0]) k179_202 rfl rfl ?_
    refine ev_putI k179_203 (by decide) (rfl) ?_
    show Ev d 179 206 [some (vr 0), x] [] (SM (up J 0 6 0)) Q
    have hJ5 := rz_up hJ (k := 0) (j := 6) (z := 0) (by omega) (by omega) (by omega)
    have g5 : ∀ aa, aa ≠ 0 → up J 0 6 0 aa = J aa := fun aa h => upf h
    have q5 : ∀ bb, bb ≠ 6 → up J 0 6 0 0 bb = J 0 bb := fun bb h => upN (Or.inr h)
    have e5 : up J 0 6 0 0 6 = 0 := upE rfl rfl
    generalize up J 0 6 0 = J5 at hJ5 g5 q5 e5 ⊢
    refine ev_s1 (L' := [some (vr 0), x]) (S' := [vr 0]) k179_206 rfl rfl ?_
    refine ev_virt (a := []) (S' := []) k179_207 rfl (Nat.le_of_ble_eq_true rfl) (by decide) (rfl) (by omega) ?_
    refine m_isWell hJ5 (fun hw8 => absurd hw8 (by rw [q5 8 (by decide), h8_]; omega)) (fun _ => ?_)
    show Ev d 179 210 [some (vr 0), x] [vi 0] (SM J5) Q
    refine ev_z_ne (t := 221) k179_210 rfl (by omega) (by omega) (fun h => absurd h (by decide)) (fun _ => ?_)
    refine ev_ldc k179_213 ?_
    refine ev_s1 (L' := [some (vr 0), x]) (S' := [vr 0, vi (-1000100)]) k179_215 rfl rfl ?_
    refine ev_getI k179_216 (by decide) (rfl) ?_
    show Ev d 179 219 [some (vr 0), x] [vi (J5 0 8), vi (-1000100)] (SM J5) Q
    have rr6 := hJ5.1 0 8
    rw [q5 8 (by decide), h8_]
    rw [q5 8 (by decide), h8_] at rr6
    refine ev_s1 (L' := [some (vr 0), x]) (S' := [vi ((-1000100) - p)]) k179_219 rfl rfl ?_
    refine ev_ireturn k179_220 ?_
    rw [hp] at hF
    exact hF _ (by rw [hm]; exact hμ) hJ5 (by rw [q5 7 (by decide), hm]; exact h7_) e5 ⟨fun b hb => by rw [q5 b hb.1]; exact hfr.1 b hb.2, fun a ha => by rw [g5 a ha.1]; exact hfr.2 a ha⟩

set_option maxHeartbeats 1000000 in
theorem m_f154 {d : Nat} {J : Nat → Int → Int} {Q : Option jV → jS → Prop} (hJ : RZ J) {K : Nat → Int → Int} {T : Int → Int} {z k0 : Int} {p μ : Int} {x : Option jV} (h : PST J T z p μ k0) (hμ : μ ≠ 0) (hp : (paG T).1 = p) (hm : paM T z = μ) (hfr : FR7 K J) (hd : 5 ≤ d) (hF : ∀ J', paM T z ≠ 0 → RZ J' → J' 0 7 = paM T z → J' 0 6 = 0 → FR6 K J' → Q (some (vi (-1000100 - (paG T).1))) (SM J')) : Ev d 179 154 [some (vr 0), x] [] (SM J) Q := by
  obtain ⟨h8_, h7_⟩ := h.wN hμ
  have p0 := h.2.1.1
  have hz := h.1.2.1
  have p1 := h.2.1.2
  refine ev_s1 (L' := [some (vr 0), x]) (S' := [vr 0]) k179_154 rfl rfl ?_
  refine ev_virt (a := []) (S' := []) k179_155 rfl (Nat.le_of_ble_eq_true rfl) (by decide) (rfl) (by omega) ?_
  refine m_isWell hJ (fun hw8 => absurd hw8 (by rw [h8_]; omega)) (fun _ => ?_)
  show Ev d 179 158 [some (vr 0), x] [vi 0] (SM J) Q
  refine ev_z_eq (t := 185) k179_158 rfl (by omega) (by omega) (fun _ => ?_) (fun h => absurd h (by decide))
  refine ev_s1 (L' := [some (vr 0), x]) (S' := [vr 0]) k179_185 rfl rfl ?_
  refine ev_s1 (L' := [some (vr 0), x]) (S' := [vr 0, vr 0]) k179_186 rfl rfl ?_
  refine ev_getI k179_187 (by decide) (rfl) ?_
  show Ev d 179 190 [some (vr 0), x] [vi (J 0 11), vr 0] (SM J) Q
  have rr1 := hJ.1 0 11
  refine ev_z_ne (t := 197) k179_190 rfl (by omega) (by omega) (fun h2 => ?_) (fun h2 => ?_)
  · refine ev_s1 (L' := [some (vr 0), x]) (S' := [vi 0, vr 0]) k179_197 rfl rfl ?_
    refine ev_virt (a := [vi 0]) (S' := []) k179_198 rfl (Nat.le_of_ble_eq_true rfl) (by decide) (rfl) (by omega) ?_
    refine m_mustN hJ (p := p) h8_ p0 (by omega) (?_)
    show Ev d 179 201 [some (vr 0), x] [] (SM J) Q
    refine ev_s1 (L' := [some (vr 0), x]) (S' := [vr 0]) k179_201 rfl rfl ?_
    refine ev_s1 (L' := [some (vr 0), x]) (S' := [vi 0, vr 0]) k179_202 rfl rfl ?_
    refine ev_putI k179_203 (by decide) (rfl) ?_
    show Ev d 179 206 [some (vr 0), x] [] (SM (up J 0 6 0)) Q
    have hJ3 := rz_up hJ (k := 0) (j := 6) (z := 0) (by omega) (by omega) (by omega)
    have g3 : ∀ aa, aa ≠ 0 → up J 0 6 0 aa = J aa := fun aa h => upf h
    have q3 : ∀ bb, bb ≠ 6 → up J 0 6 0 0 bb = J 0 bb := fun bb h => upN (Or.inr h)
    have e3 : up J 0 6 0 0 6 = 0 := upE rfl rfl
    generalize up J 0 6 0 = J3 at hJ3 g3 q3 e3 ⊢
    refine ev_s1 (L' := [some (vr 0), x]) (S' := [vr 0]) k179_206 rfl rfl ?_
    refine ev_virt (a := []) (S' := []) k179_207 rfl (Nat.le_of_ble_eq_true rfl) (by decide) (rfl) (by omega) ?_
    refine m_isWell hJ3 (fun hw8 => absurd hw8 (by rw [q3 8 (by decide), h8_]; omega)) (fun _ => ?_)
    show Ev d 179 210 [some (vr 0), x] [vi 0] (SM J3) Q
    refine ev_z_ne (t := 221) k179_210 rfl (by omega) (by omega) (fun h => absurd h (by decide)) (fun _ => ?_)
    refine ev_ldc k179_213 ?_
    refine ev_s1 (L' := [some (vr 0), x]) (S' := [vr 0, vi (-1000100)]) k179_215 rfl rfl ?_
    refine ev_getI k179_216 (by decide) (rfl) ?_
    show Ev d 179 219 [some (vr 0), x] [vi (J3 0 8), vi (-1000100)] (SM J3) Q
    have rr4 := hJ3.1 0 8
    rw [q3 8 (by decide), h8_]
    rw [q3 8 (by decide), h8_] at rr4
    refine ev_s1 (L' := [some (vr 0), x]) (S' := [vi ((-1000100) - p)]) k179_219 rfl rfl ?_
    refine ev_ireturn k179_220 ?_
    rw [hp] at hF
    exact hF _ (by rw [hm]; exact hμ) hJ3 (by rw [q3 7 (by decide), hm]; exact h7_) e3 ⟨fun b hb => by rw [q3 b hb.1]; exact hfr.1 b hb.2, fun a ha => by rw [g3 a ha.1]; exact hfr.2 a ha⟩
  · refine ev_s1 (L' := [some (vr 0), x]) (S' := [vi 1, vr 0]) k179_193 rfl rfl ?_
    refine ev_goto (t := 198) k179_194 rfl ?_
    refine ev_virt (a := [vi 1]) (S' := []) k179_198 rfl (Nat.le_of_ble_eq_true rfl) (by decide) (rfl) (by omega) ?_
    refine m_mustN hJ (p := p) h8_ p0 (by omega) (?_)
    show Ev d 179 201 [some (vr 0), x] [] (SM J) Q
    refine ev_s1 (L' := [some (vr 0), x]) (S' := [vr 0]) k179_201 rfl rfl ?_
    refine ev_s1 (L' := [some (vr 0), x]) (S' := [vi 0, vr 0]) k179_202 rfl rfl ?_
    refine ev_putI k179_203 (by decide) (rfl) ?_
    show Ev d 179 206 [some (vr 0), x] [] (SM (up J 0 6 0)) Q
    have hJ5 := rz_up hJ (k := 0) (j := 6) (z := 0) (by omega) (by omega) (by omega)
    have g5 : ∀ aa, aa ≠ 0 → up J 0 6 0 aa = J aa := fun aa h => upf h
    have q5 : ∀ bb, bb ≠ 6 → up J 0 6 0 0 bb = J 0 bb := fun bb h => upN (Or.inr h)
    have e5 : up J 0 6 0 0 6 = 0 := upE rfl rfl
    generalize up J 0 6 0 = J5 at hJ5 g5 q5 e5 ⊢
    refine ev_s1 (L' := [some (vr 0), x]) (S' := [vr 0]) k179_206 rfl rfl ?_
    refine ev_virt (a := []) (S' := []) k179_207 rfl (Nat.le_of_ble_eq_true rfl) (by decide) (rfl) (by omega) ?_
    refine m_isWell hJ5 (fun hw8 => absurd hw8 (by rw [q5 8 (by decide), h8_]; omega)) (fun _ => ?_)
    show Ev d 179 210 [some (vr 0), x] [vi 0] (SM J5) Q
    refine ev_z_ne (t := 221) k179_210 rfl (by omega) (by omega) (fun h => absurd h (by decide)) (fun _ => ?_)
    refine ev_ldc k179_213 ?_
    refine ev_s1 (L' := [some (vr 0), x]) (S' := [vr 0, vi (-1000100)]) k179_215 rfl rfl ?_
    refine ev_getI k179_216 (by decide) (rfl) ?_
    show Ev d 179 219 [some (vr 0), x] [vi (J5 0 8), vi (-1000100)] (SM J5) Q
    have rr6 := hJ5.1 0 8
    rw [q5 8 (by decide), h8_]
    rw [q5 8 (by decide), h8_] at rr6
    refine ev_s1 (L' := [some (vr 0), x]) (S' := [vi ((-1000100) - p)]) k179_219 rfl rfl ?_
    refine ev_ireturn k179_220 ?_
    rw [hp] at hF
    exact hF _ (by rw [hm]; exact hμ) hJ5 (by rw [q5 7 (by decide), hm]; exact h7_) e5 ⟨fun b hb => by rw [q5 b hb.1]; exact hfr.1 b hb.2, fun a ha => by rw [g5 a ha.1]; exact hfr.2 a ha⟩

set_option maxHeartbeats 1000000 in
theorem m_f185 {d : Nat} {J : Nat → Int → Int} {Q : Option jV → jS → Prop} (hJ : RZ J) {K : Nat → Int → Int} {T : Int → Int} {z k0 : Int} {p μ : Int} {x : Option jV} (h : PST J T z p μ k0) (hμ : μ ≠ 0) (hp : (paG T).1 = p) (hm : paM T z = μ) (hfr : FR7 K J) (hd : 5 ≤ d) (hF : ∀ J', paM T z ≠ 0 → RZ J' → J' 0 7 = paM T z → J' 0 6 = 0 → FR6 K J' → Q (some (vi (-1000100 - (paG T).1))) (SM J')) : Ev d 179 185 [some (vr 0), x] [] (SM J) Q := by
  obtain ⟨h8_, h7_⟩ := h.wN hμ
  have p0 := h.2.1.1
  have hz := h.1.2.1
  have p1 := h.2.1.2
  refine ev_s1 (L' := [some (vr 0), x]) (S' := [vr 0]) k179_185 rfl rfl ?_
  refine ev_s1 (L' := [some (vr 0), x]) (S' := [vr 0, vr 0]) k179_186 rfl rfl ?_
  refine ev_getI k179_187 (by decide) (rfl) ?_
  show Ev d 179 190 [some (vr 0), x] [vi (J 0 11), vr 0] (SM J) Q
  have rr1 := hJ.1 0 11
  refine ev_z_ne (t := 197) k179_190 rfl (by omega) (by omega) (fun h2 => ?_) (fun h2 => ?_)
  · refine ev_s1 (L' := [some (vr 0), x]) (S' := [vi 0, vr 0]) k179_197 rfl rfl ?_
    refine ev_virt (a := [vi 0]) (S' := []) k179_198 rfl (Nat.le_of_ble_eq_true rfl) (by decide) (rfl) (by omega) ?_
    refine m_mustN hJ (p := p) h8_ p0 (by omega) (?_)
    show Ev d 179 201 [some (vr 0), x] [] (SM J) Q
    refine ev_s1 (L' := [some (vr 0), x]) (S' := [vr 0]) k179_201 rfl rfl ?_
    refine ev_s1 (L' := [some (vr 0), x]) (S' := [vi 0, vr 0]) k179_202 rfl rfl ?_
    refine ev_putI k179_203 (by decide) (rfl) ?_
    show Ev d 179 206 [some (vr 0), x] [] (SM (up J 0 6 0)) Q
    have hJ3 := rz_up hJ (k := 0) (j := 6) (z := 0) (by omega) (by omega) (by omega)
    have g3 : ∀ aa, aa ≠ 0 → up J 0 6 0 aa = J aa := fun aa h => upf h
    have q3 : ∀ bb, bb ≠ 6 → up J 0 6 0 0 bb = J 0 bb := fun bb h => upN (Or.inr h)
    have e3 : up J 0 6 0 0 6 = 0 := upE rfl rfl
    generalize up J 0 6 0 = J3 at hJ3 g3 q3 e3 ⊢
    refine ev_s1 (L' := [some (vr 0), x]) (S' := [vr 0]) k179_206 rfl rfl ?_
    refine ev_virt (a := []) (S' := []) k179_207 rfl (Nat.le_of_ble_eq_true rfl) (by decide) (rfl) (by omega) ?_
    refine m_isWell hJ3 (fun hw8 => absurd hw8 (by rw [q3 8 (by decide), h8_]; omega)) (fun _ => ?_)
    show Ev d 179 210 [some (vr 0), x] [vi 0] (SM J3) Q
    refine ev_z_ne (t := 221) k179_210 rfl (by omega) (by omega) (fun h => absurd h (by decide)) (fun _ => ?_)
    refine ev_ldc k179_213 ?_
    refine ev_s1 (L' := [some (vr 0), x]) (S' := [vr 0, vi (-1000100)]) k179_215 rfl rfl ?_
    refine ev_getI k179_216 (by decide) (rfl) ?_
    show Ev d 179 219 [some (vr 0), x] [vi (J3 0 8), vi (-1000100)] (SM J3) Q
    have rr4 := hJ3.1 0 8
    rw [q3 8 (by decide), h8_]
    rw [q3 8 (by decide), h8_] at rr4
    refine ev_s1 (L' := [some (vr 0), x]) (S' := [vi ((-1000100) - p)]) k179_219 rfl rfl ?_
    refine ev_ireturn k179_220 ?_
    rw [hp] at hF
    exact hF _ (by rw [hm]; exact hμ) hJ3 (by rw [q3 7 (by decide), hm]; exact h7_) e3 ⟨fun b hb => by rw [q3 b hb.1]; exact hfr.1 b hb.2, fun a ha => by rw [g3 a ha.1]; exact hfr.2 a ha⟩
  · refine ev_s1 (L' := [some (vr 0), x]) (S' := [vi 1, vr 0]) k179_193 rfl rfl ?_
    refine ev_goto (t := 198) k179_194 rfl ?_
    refine ev_virt (a := [vi 1]) (S' := []) k179_198 rfl (Nat.le_of_ble_eq_true rfl) (by decide) (rfl) (by omega) ?_
    refine m_mustN hJ (p := p) h8_ p0 (by omega) (?_)
    show Ev d 179 201 [some (vr 0), x] [] (SM J) Q
    refine ev_s1 (L' := [some (vr 0), x]) (S' := [vr 0]) k179_201 rfl rfl ?_
    refine ev_s1 (L' := [some (vr 0), x]) (S' := [vi 0, vr 0]) k179_202 rfl rfl ?_
    refine ev_putI k179_203 (by decide) (rfl) ?_
    show Ev d 179 206 [some (vr 0), x] [] (SM (up J 0 6 0)) Q
    have hJ5 := rz_up hJ (k := 0) (j := 6) (z := 0) (by omega) (by omega) (by omega)
    have g5 : ∀ aa, aa ≠ 0 → up J 0 6 0 aa = J aa := fun aa h => upf h
    have q5 : ∀ bb, bb ≠ 6 → up J 0 6 0 0 bb = J 0 bb := fun bb h => upN (Or.inr h)
    have e5 : up J 0 6 0 0 6 = 0 := upE rfl rfl
    generalize up J 0 6 0 = J5 at hJ5 g5 q5 e5 ⊢
    refine ev_s1 (L' := [some (vr 0), x]) (S' := [vr 0]) k179_206 rfl rfl ?_
    refine ev_virt (a := []) (S' := []) k179_207 rfl (Nat.le_of_ble_eq_true rfl) (by decide) (rfl) (by omega) ?_
    refine m_isWell hJ5 (fun hw8 => absurd hw8 (by rw [q5 8 (by decide), h8_]; omega)) (fun _ => ?_)
    show Ev d 179 210 [some (vr 0), x] [vi 0] (SM J5) Q
    refine ev_z_ne (t := 221) k179_210 rfl (by omega) (by omega) (fun h => absurd h (by decide)) (fun _ => ?_)
    refine ev_ldc k179_213 ?_
    refine ev_s1 (L' := [some (vr 0), x]) (S' := [vr 0, vi (-1000100)]) k179_215 rfl rfl ?_
    refine ev_getI k179_216 (by decide) (rfl) ?_
    show Ev d 179 219 [some (vr 0), x] [vi (J5 0 8), vi (-1000100)] (SM J5) Q
    have rr6 := hJ5.1 0 8
    rw [q5 8 (by decide), h8_]
    rw [q5 8 (by decide), h8_] at rr6
    refine ev_s1 (L' := [some (vr 0), x]) (S' := [vi ((-1000100) - p)]) k179_219 rfl rfl ?_
    refine ev_ireturn k179_220 ?_
    rw [hp] at hF
    exact hF _ (by rw [hm]; exact hμ) hJ5 (by rw [q5 7 (by decide), hm]; exact h7_) e5 ⟨fun b hb => by rw [q5 b hb.1]; exact hfr.1 b hb.2, fun a ha => by rw [g5 a ha.1]; exact hfr.2 a ha⟩

set_option maxHeartbeats 1000000 in
theorem m_rend {d : Nat} {J : Nat → Int → Int} {Q : Option jV → jS → Prop} (hJ : RZ J) {K : Nat → Int → Int} {T : Int → Int} {z k0 : Int} {p : Int} {x : Option jV} (h : PST J T z p 0 k0) (hp : (paG T).1 = p) (hm : paM T z = if (0 : Int) = 0 ∧ p < z then 1 else 0) (hG : GHD (J 7) T (lP3 T) (lV T) (paC T).2.2.toNat (paC T).1 (paG T).2.2.toNat) (hok : OKW (J 7)) (h1c : J 7 1 = (paC T).2.2) (h2g : J 7 2 = (paG T).2.2) (hfr : FR7 K J) (hd : 5 ≤ d) (hF : ∀ J', paM T z ≠ 0 → RZ J' → J' 0 7 = paM T z → J' 0 6 = 0 → FR6 K J' → Q (some (vi (-1000100 - (paG T).1))) (SM J')) (hY : ∀ J', paM T z = 0 → RZ J' → GHD (J' 6) T (lP3 T) (lV T) (paC T).2.2.toNat (paC T).1 (paG T).2.2.toNat → OKW (J' 6) → J' 6 1 = (paC T).2.2 → J' 6 2 = (paG T).2.2 → J' 0 7 = k0 → J' 0 6 = 0 → J' 0 17 = 0 → (∀ b, (b ≠ 6 ∧ b ≠ 17 ∧ (b < 7 ∨ 12 < b)) → J' 0 b = K 0 b) → (∀ a, (a ≠ 0 ∧ a ≠ 6 ∧ a ≠ 7) → J' a = K a) → Q (some (vi ((paC T).2.2))) (SM J')) : Ev d 179 185 [some (vr 0), x] [] (SM J) Q := by
  obtain ⟨a8, a10, a11, a12, a9, a7⟩ := h.w0
  have hT := h.1
  have p0 := h.2.1.1
  have p1 := h.2.1.2
  have hz := hT.2.1
  have kr := tok_k T p
  have tv := tok_v hT p0
  have t0 := tok_0 hT p0
  refine ev_s1 (L' := [some (vr 0), x]) (S' := [vr 0]) k179_185 rfl rfl ?_
  refine ev_s1 (L' := [some (vr 0), x]) (S' := [vr 0, vr 0]) k179_186 rfl rfl ?_
  refine ev_getI k179_187 (by decide) (rfl) ?_
  show Ev d 179 190 [some (vr 0), x] [vi (J 0 11), vr 0] (SM J) Q
  have rr1 := hJ.1 0 11
  rw [a11]
  rw [a11] at rr1
  refine ev_z_ne (t := 197) k179_190 rfl (by omega) (by omega) (fun h2 => ?_) (fun h2 => ?_)
  · refine ev_s1 (L' := [some (vr 0), x]) (S' := [vi 0, vr 0]) k179_197 rfl rfl ?_
    refine ev_virt (a := [vi 0]) (S' := []) k179_198 rfl (Nat.le_of_ble_eq_true rfl) (by decide) (rfl) (by omega) ?_
    refine m_mustY hJ h a8 (by omega) (fun J3 hJ3 ps3 fr3 => ?_)
    show Ev d 179 201 [some (vr 0), x] [] (SM J3) Q
    refine ev_s1 (L' := [some (vr 0), x]) (S' := [vr 0]) k179_201 rfl rfl ?_
    refine ev_s1 (L' := [some (vr 0), x]) (S' := [vi 0, vr 0]) k179_202 rfl rfl ?_
    refine ev_putI k179_203 (by decide) (rfl) ?_
    show Ev d 179 206 [some (vr 0), x] [] (SM (up J3 0 6 0)) Q
    have hJ4 := rz_up hJ3 (k := 0) (j := 6) (z := 0) (by omega) (by omega) (by omega)
    have g4 : ∀ aa, aa ≠ 0 → up J3 0 6 0 aa = J3 aa := fun aa h => upf h
    have q4 : ∀ bb, bb ≠ 6 → up J3 0 6 0 0 bb = J3 0 bb := fun bb h => upN (Or.inr h)
    have e4 : up J3 0 6 0 0 6 = 0 := upE rfl rfl
    generalize up J3 0 6 0 = J4 at hJ4 g4 q4 e4 ⊢
    refine ev_s1 (L' := [some (vr 0), x]) (S' := [vr 0]) k179_206 rfl rfl ?_
    refine ev_virt (a := []) (S' := []) k179_207 rfl (Nat.le_of_ble_eq_true rfl) (by decide) (rfl) (by omega) ?_
    refine m_isWell hJ4 (fun hw8 => absurd hw8 (by rw [q4 8 (by decide), (ps3.wN (by decide)).1]; omega)) (fun _ => ?_)
    show Ev d 179 210 [some (vr 0), x] [vi 0] (SM J4) Q
    refine ev_z_ne (t := 221) k179_210 rfl (by omega) (by omega) (fun h => absurd h (by decide)) (fun _ => ?_)
    refine ev_ldc k179_213 ?_
    refine ev_s1 (L' := [some (vr 0), x]) (S' := [vr 0, vi (-1000100)]) k179_215 rfl rfl ?_
    refine ev_getI k179_216 (by decide) (rfl) ?_
    show Ev d 179 219 [some (vr 0), x] [vi (J4 0 8), vi (-1000100)] (SM J4) Q
    have rr5 := hJ4.1 0 8
    rw [q4 8 (by decide), (ps3.wN (by decide)).1]
    rw [q4 8 (by decide), (ps3.wN (by decide)).1] at rr5
    refine ev_s1 (L' := [some (vr 0), x]) (S' := [vi ((-1000100) - p)]) k179_219 rfl rfl ?_
    refine ev_ireturn k179_220 ?_
    have em : paM T z = 1 := by rw [hm, if_pos ⟨rfl, by omega⟩]
    rw [em, hp] at hF
    exact hF _ (by decide) hJ4 (by rw [q4 7 (by decide)]; exact (ps3.wN (by decide)).2) e4 ⟨fun b hb => by rw [q4 b hb.1, fr3.1 b hb.2]; exact hfr.1 b hb.2, fun a ha => by rw [g4 a ha.1, fr3.2 a ha.1]; exact hfr.2 a ha⟩
  · refine ev_s1 (L' := [some (vr 0), x]) (S' := [vi 1, vr 0]) k179_193 rfl rfl ?_
    refine ev_goto (t := 198) k179_194 rfl ?_
    refine ev_virt (a := [vi 1]) (S' := []) k179_198 rfl (Nat.le_of_ble_eq_true rfl) (by decide) (rfl) (by omega) ?_
    refine m_must1 hJ (by omega) (?_)
    show Ev d 179 201 [some (vr 0), x] [] (SM J) Q
    refine ev_s1 (L' := [some (vr 0), x]) (S' := [vr 0]) k179_201 rfl rfl ?_
    refine ev_s1 (L' := [some (vr 0), x]) (S' := [vi 0, vr 0]) k179_202 rfl rfl ?_
    refine ev_putI k179_203 (by decide) (rfl) ?_
    show Ev d 179 206 [some (vr 0), x] [] (SM (up J 0 6 0)) Q
    have hJ6 := rz_up hJ (k := 0) (j := 6) (z := 0) (by omega) (by omega) (by omega)
    have g6 : ∀ aa, aa ≠ 0 → up J 0 6 0 aa = J aa := fun aa h => upf h
    have q6 : ∀ bb, bb ≠ 6 → up J 0 6 0 0 bb = J 0 bb := fun bb h => upN (Or.inr h)
    have e6 : up J 0 6 0 0 6 = 0 := upE rfl rfl
    generalize up J 0 6 0 = J6 at hJ6 g6 q6 e6 ⊢
    refine ev_s1 (L' := [some (vr 0), x]) (S' := [vr 0]) k179_206 rfl rfl ?_
    refine ev_virt (a := []) (S' := []) k179_207 rfl (Nat.le_of_ble_eq_true rfl) (by decide) (rfl) (by omega) ?_
    refine m_isWell hJ6 (fun _ => ?_) (fun hw8 => absurd hw8 (by rw [q6 8 (by decide), a8]; decide))
    show Ev d 179 210 [some (vr 0), x] [vi 1] (SM J6) Q
    refine ev_z_ne (t := 221) k179_210 rfl (by omega) (by omega) (fun _ => ?_) (fun h => absurd h (by decide))
    refine ev_s1 (L' := [some (vr 0), x]) (S' := [vr 0]) k179_221 rfl rfl ?_
    refine ev_getR k179_222 (by decide) (rfl) (y_0_14) ?_
    refine ev_s1 (L' := [some (vr 0), x]) (S' := [vi 0, vr 7]) k179_225 rfl rfl ?_
    refine ev_s1 (L' := [some (vr 0), x]) (S' := [vr 0, vi 0, vr 7]) k179_226 rfl rfl ?_
    refine ev_getR k179_227 (by decide) (rfl) (y_0_13) ?_
    refine ev_s1 (L' := [some (vr 0), x]) (S' := [vi 0, vr 6, vi 0, vr 7]) k179_230 rfl rfl ?_
    refine ev_static (a := [vr 7, vi 0, vr 6, vi 0]) (S' := []) k179_231 rfl (Nat.le_of_ble_eq_true rfl) (by omega) ?_
    refine m_copies hJ6 (f := 7) (t := 6) (lf := 48) (lt := 48) (a := 0) (b := 0) (by decide) ⟨by decide, rfl⟩ ⟨by decide, rfl⟩ (by omega) (by omega) (by omega) (by omega) (by omega) (by decide) (by decide) (fun J7 hJ7 w7 f7 => ?_)
    rw [cp_full hJ6.2 (by decide) (by decide)] at w7
    rw [g6 7 (by decide)] at w7
    show Ev d 179 234 [some (vr 0), x] [] (SM J7) Q
    refine ev_s1 (L' := [some (vr 0), x]) (S' := [vr 0]) k179_234 rfl rfl ?_
    refine ev_s1 (L' := [some (vr 0), x]) (S' := [vi 0, vr 0]) k179_235 rfl rfl ?_
    refine ev_putI k179_236 (by decide) (rfl) ?_
    show Ev d 179 239 [some (vr 0), x] [] (SM (up J7 0 17 0)) Q
    have hJ8 := rz_up hJ7 (k := 0) (j := 17) (z := 0) (by omega) (by omega) (by omega)
    have g8 : ∀ aa, aa ≠ 0 → up J7 0 17 0 aa = J7 aa := fun aa h => upf h
    have q8 : ∀ bb, bb ≠ 17 → up J7 0 17 0 0 bb = J7 0 bb := fun bb h => upN (Or.inr h)
    have e8 : up J7 0 17 0 0 17 = 0 := upE rfl rfl
    generalize up J7 0 17 0 = J8 at hJ8 g8 q8 e8 ⊢
    refine ev_s1 (L' := [some (vr 0), x]) (S' := [vr 0]) k179_239 rfl rfl ?_
    refine ev_getR k179_240 (by decide) (rfl) (y_0_13) ?_
    refine ev_s1 (L' := [some (vr 0), x]) (S' := [vi 1, vr 6]) k179_243 rfl rfl ?_
    refine ev_iald k179_244 (by decide) (rfl) (by omega) (by omega) ?_
    have rr9 := hJ8.1 6 1
    rw [g8 6 (by decide), w7]
    rw [g8 6 (by decide), w7] at rr9
    refine ev_ireturn k179_245 ?_
    rw [h1c]
    have em : paM T z = 0 := by rw [hm, if_neg (by omega)]
    have ex6 : J8 6 = J 7 := by rw [g8 6 (by decide), w7]
    refine hY _ em hJ8 ?_ ?_ ?_ ?_ ?_ ?_ e8 (fun b hb => ?_) (fun a ha => ?_)
    · rw [ex6]; exact hG
    · rw [ex6]; exact hok
    · rw [ex6]; exact h1c
    · rw [ex6]; exact h2g
    · rw [q8 7 (by decide), f7 0 (by decide), q6 7 (by decide)]; exact a7
    · rw [q8 6 (by decide), f7 0 (by decide)]; exact e6
    · rw [q8 b hb.2.1, f7 0 (by decide), q6 b hb.1]; exact hfr.1 b hb.2.2
    · rw [g8 a ha.1, f7 a ha.2.1, g6 a ha.1]; exact hfr.2 a ⟨ha.1, ha.2.2⟩

set_option maxHeartbeats 1000000 in
theorem m_rgl {d : Nat} {K : Nat → Int → Int} {Q : Option jV → jS → Prop} {T : Int → Int} {z k0 : Int} (hlm : lM3 T = 0) (l0 : 0 ≤ lV T) (l9 : lV T ≤ 9) {q : Int} {m : Nat} (hC : paC T = (q, 0, (m : Int))) (m5 : m ≤ 5) (hd : 7 ≤ d) (hF : ∀ J', paM T z ≠ 0 → RZ J' → J' 0 7 = paM T z → J' 0 6 = 0 → FR6 K J' → Q (some (vi (-1000100 - (paG T).1))) (SM J')) (hY : ∀ J', paM T z = 0 → RZ J' → GHD (J' 6) T (lP3 T) (lV T) (paC T).2.2.toNat (paC T).1 (paG T).2.2.toNat → OKW (J' 6) → J' 6 1 = (paC T).2.2 → J' 6 2 = (paG T).2.2 → J' 0 7 = k0 → J' 0 6 = 0 → J' 0 17 = 0 → (∀ b, (b ≠ 6 ∧ b ≠ 17 ∧ (b < 7 ∨ 12 < b)) → J' 0 b = K 0 b) → (∀ a, (a ≠ 0 ∧ a ≠ 6 ∧ a ≠ 7) → J' a = K a) → Q (some (vi ((paC T).2.2))) (SM J')) : ∀ (k : Nat) (J : Nat → Int → Int) (n : Nat) (p : Int) (x : Option jV), RZ J → 6 - n < k → n ≤ 5 → PST J T z p 0 k0 → guR T 6 q 0 = guR T (6 - n) p (n : Int) → p = pgs T q n → GHD (J 7) T (lP3 T) (lV T) m q n → FR7 K J → Ev d 179 154 [some (vr 0), x] [] (SM J) Q := by
  intro k
  induction k with
  | zero =>
    intro J n p x hJ hk hn h hR hpg hG hfr
    exfalso; omega
  | succ k ih =>
    intro J n p x hJ hk hn h hR hpg hG hfr
    obtain ⟨a8, a10, a11, a12, a9, a7⟩ := h.w0
    have hT := h.1
    have p0 := h.2.1.1
    have p1 := h.2.1.2
    have hz := hT.2.1
    have kr := tok_k T p
    have tv := tok_v hT p0
    have t0 := tok_0 hT p0
    have hn2 := hG.2.2.1
    refine ev_s1 (L' := [some (vr 0), x]) (S' := [vr 0]) k179_154 rfl rfl ?_
    refine ev_virt (a := []) (S' := []) k179_155 rfl (Nat.le_of_ble_eq_true rfl) (by decide) (rfl) (by omega) ?_
    refine m_isWell hJ (fun _ => ?_) (fun hw8 => absurd hw8 (by rw [a8]; decide))
    show Ev d 179 158 [some (vr 0), x] [vi 1] (SM J) Q
    refine ev_z_eq (t := 185) k179_158 rfl (by omega) (by omega) (fun h => absurd h (by decide)) (fun _ => ?_)
    refine ev_s1 (L' := [some (vr 0), x]) (S' := [vr 0]) k179_161 rfl rfl ?_
    refine ev_getI k179_162 (by decide) (rfl) ?_
    show Ev d 179 165 [some (vr 0), x] [vi (J 0 11)] (SM J) Q
    have rr1 := hJ.1 0 11
    rw [a11]
    rw [a11] at rr1
    refine ev_s1 (L' := [some (vr 0), x]) (S' := [vi 1, vi (tokK T p)]) k179_165 rfl rfl ?_
    refine ev_c_ne (t := 185) k179_166 rfl (by omega) (by omega) (by omega) (by omega) (fun h2 => ?_) (fun h2 => ?_)
    · have nz : T p ≠ 122 := fun u => by have w := tok_l (T := T) (p := p) (by omega); omega
      have hR2 : guR T 6 q 0 = (p, 0, (n : Int)) := by
        rw [hR, show 6 - n = (5 - n) + 1 by omega, guR, if_pos nz]
      obtain ⟨y1, y2⟩ := pa_gu (z := z) hC hR2
      have g1 : (paG T).2.2 = (n : Int) := by rw [y1]
      have c1 : (paC T).2.2 = (m : Int) := by rw [hC]
      have c2 : (paC T).1 = q := by rw [hC]
      exact m_rend (K := K) hJ h (by rw [y1]) y2 (by rw [c1, c2, g1]; exact hG) (ghd_ok hG l0 l9 m5 (by omega)) (by rw [c1]; exact hG.2.1) (by rw [g1]; exact hG.2.2.1) hfr (by omega) hF hY
    · refine ev_s1 (L' := [some (vr 0), x]) (S' := [vr 0]) k179_169 rfl rfl ?_
      refine ev_getI k179_170 (by decide) (rfl) ?_
      show Ev d 179 173 [some (vr 0), x] [vi (J 0 12)] (SM J) Q
      have rr3 := hJ.1 0 12
      rw [a12]
      rw [a12] at rr3
      refine ev_s1 (L' := [some (vr 0), x]) (S' := [vi 122, vi (tokV T p)]) k179_173 rfl rfl ?_
      refine ev_c_ne (t := 185) k179_175 rfl (by omega) (by omega) (by omega) (by omega) (fun h4 => ?_) (fun h4 => ?_)
      · have nz : T p ≠ 122 := fun u => by have w := tok_l (T := T) (p := p) (by omega); omega
        have hR2 : guR T 6 q 0 = (p, 0, (n : Int)) := by
          rw [hR, show 6 - n = (5 - n) + 1 by omega, guR, if_pos nz]
        obtain ⟨y1, y2⟩ := pa_gu (z := z) hC hR2
        have g1 : (paG T).2.2 = (n : Int) := by rw [y1]
        have c1 : (paC T).2.2 = (m : Int) := by rw [hC]
        have c2 : (paC T).1 = q := by rw [hC]
        exact m_rend (K := K) hJ h (by rw [y1]) y2 (by rw [c1, c2, g1]; exact hG) (ghd_ok hG l0 l9 m5 (by omega)) (by rw [c1]; exact hG.2.1) (by rw [g1]; exact hG.2.2.1) hfr (by omega) hF hY
      · have lt := tok_1 (T := T) (p := p) (by omega)
        have hz2 : T p = 122 := by have w := tok_l lt; omega
        refine ev_s1 (L' := [some (vr 0), x]) (S' := [vr 0]) k179_178 rfl rfl ?_
        refine ev_virt (a := []) (S' := []) k179_179 rfl (Nat.le_of_ble_eq_true rfl) (by decide) (rfl) (by omega) ?_
        refine m_readsGuest hJ h (n := (n : Int)) hz2 hn2 (by omega) (by omega) (by omega) (fun J5 hJ5 ps5 ad5 fr5 => ?_)
        show Ev d 179 182 [some (vr 0), x] [] (SM J5) Q
        refine ev_goto (t := 154) k179_182 rfl ?_
        by_cases hmu : guM T (n : Int) p = 0
        · obtain ⟨u1, u2, u3⟩ := ad5 hmu
          rw [hmu] at ps5
          refine ih J5 (n + 1) (guP T (n : Int) p) x hJ5 (by omega) (by omega) ps5 ?_ ?_ ?_ (hfr.trans fr5)
          · rw [hR, show 6 - n = (6 - (n + 1)) + 1 by omega, guR, if_neg (fun u => u hz2), if_pos hmu]
            rfl
          · rw [pgs, ← hpg]
          · rw [u3]
            exact ghd_add hG m5 hpg u2
        · have hR2 : guR T 6 q 0 = (guP T (n : Int) p, guM T (n : Int) p, (n : Int)) := by
            rw [hR, show 6 - n = (6 - (n + 1)) + 1 by omega, guR, if_neg (fun u => u hz2), if_neg hmu]
          obtain ⟨y1, y2⟩ := pa_gu (z := z) hC hR2
          exact m_f154 (K := K) hJ5 ps5 hmu (by rw [y1]) (by rw [y2, if_neg (fun u => hmu u.1)]) (hfr.trans fr5) (by omega) hF

set_option maxHeartbeats 1000000 in
theorem m_rcl {d : Nat} {K : Nat → Int → Int} {Q : Option jV → jS → Prop} {T : Int → Int} {z k0 : Int} (hlm : lM3 T = 0) (l0 : 0 ≤ lV T) (l9 : lV T ≤ 9) {q : Int} (hq : q = lP3 T) (hkq : kindF (T q) ≠ 0) (hd : 7 ≤ d) (hF : ∀ J', paM T z ≠ 0 → RZ J' → J' 0 7 = paM T z → J' 0 6 = 0 → FR6 K J' → Q (some (vi (-1000100 - (paG T).1))) (SM J')) (hY : ∀ J', paM T z = 0 → RZ J' → GHD (J' 6) T (lP3 T) (lV T) (paC T).2.2.toNat (paC T).1 (paG T).2.2.toNat → OKW (J' 6) → J' 6 1 = (paC T).2.2 → J' 6 2 = (paG T).2.2 → J' 0 7 = k0 → J' 0 6 = 0 → J' 0 17 = 0 → (∀ b, (b ≠ 6 ∧ b ≠ 17 ∧ (b < 7 ∨ 12 < b)) → J' 0 b = K 0 b) → (∀ a, (a ≠ 0 ∧ a ≠ 6 ∧ a ≠ 7) → J' a = K a) → Q (some (vi ((paC T).2.2))) (SM J')) : ∀ (k : Nat) (J : Nat → Int → Int) (n : Nat) (p : Int) (x : Option jV), RZ J → 6 - n < k → n ≤ 5 → PST J T z p 0 k0 → chR T 6 q 0 = chR T (6 - n) p (n : Int) → p = pcs T q n → CHD (J 7) T q (lV T) n → FR7 K J → Ev d 179 122 [some (vr 0), x] [] (SM J) Q := by
  intro k
  induction k with
  | zero =>
    intro J n p x hJ hk hn h hR hpg hG hfr
    exfalso; omega
  | succ k ih =>
    intro J n p x hJ hk hn h hR hpg hG hfr
    obtain ⟨a8, a10, a11, a12, a9, a7⟩ := h.w0
    have hT := h.1
    have p0 := h.2.1.1
    have p1 := h.2.1.2
    have hz := hT.2.1
    have kr := tok_k T p
    have tv := tok_v hT p0
    have t0 := tok_0 hT p0
    have hn1 := hG.2.1
    refine ev_s1 (L' := [some (vr 0), x]) (S' := [vr 0]) k179_122 rfl rfl ?_
    refine ev_virt (a := []) (S' := []) k179_123 rfl (Nat.le_of_ble_eq_true rfl) (by decide) (rfl) (by omega) ?_
    refine m_isWell hJ (fun _ => ?_) (fun hw8 => absurd hw8 (by rw [a8]; decide))
    show Ev d 179 126 [some (vr 0), x] [vi 1] (SM J) Q
    refine ev_z_eq (t := 154) k179_126 rfl (by omega) (by omega) (fun h => absurd h (by decide)) (fun _ => ?_)
    refine ev_s1 (L' := [some (vr 0), x]) (S' := [vr 0]) k179_129 rfl rfl ?_
    refine ev_getI k179_130 (by decide) (rfl) ?_
    show Ev d 179 133 [some (vr 0), x] [vi (J 0 11)] (SM J) Q
    have rr1 := hJ.1 0 11
    rw [a11]
    rw [a11] at rr1
    refine ev_s1 (L' := [some (vr 0), x]) (S' := [vi 1, vi (tokK T p)]) k179_133 rfl rfl ?_
    refine ev_c_ne (t := 154) k179_134 rfl (by omega) (by omega) (by omega) (by omega) (fun h2 => ?_) (fun h2 => ?_)
    · have nk : kindF (T p) = 0 := by
        by_cases u : kindF (T p) = 0
        · exact u
        · have w := tok_l (T := T) (p := p) (kind_l u)
          have w1 := w.1
          have w3 : kindF (tokV T p) = kindF (T p) := by rw [w.2.1]
          have kr2 := kind_rg2 (T p)
          omega
      have n1 : n ≠ 0 := fun u => by subst u; exact hkq (by rw [show q = p from hpg.symm]; exact nk)
      have hR2 : chR T 6 q 0 = (p, 0, (n : Int)) := by
        rw [hR, show 6 - n = (5 - n) + 1 by omega, chR, if_pos nk]
      rw [hq] at hR2
      have y := (pa_ch (z := z) hlm hR2 (Or.inr (by omega))).1
      exact m_rgl (K := K) hlm l0 l9 (q := p) (m := n) y (by omega) hd hF hY 7 J 0 p x hJ (by omega) (by omega) h rfl rfl ⟨hG.1, hG.2.1, hG.2.2.1, fun j hj => by rw [← hq]; exact hG.2.2.2.1 j hj, fun j hj => absurd hj (Nat.not_lt_zero j), fun b hb => hG.2.2.2.2 b (by omega)⟩ hfr
    · refine ev_s1 (L' := [some (vr 0), x]) (S' := [vr 0]) k179_137 rfl rfl ?_
      refine ev_getI k179_138 (by decide) (rfl) ?_
      show Ev d 179 141 [some (vr 0), x] [vi (J 0 12)] (SM J) Q
      have rr3 := hJ.1 0 12
      rw [a12]
      rw [a12] at rr3
      refine ev_static (a := [vi (tokV T p)]) (S' := []) k179_141 rfl (Nat.le_of_ble_eq_true rfl) (by omega) ?_
      refine m_kindOf (b := tokV T p) (by omega) (by omega) (?_)
      have kk141 := kind_rg2 (tokV T p)
      show Ev d 179 144 [some (vr 0), x] [vi (kindF (tokV T p))] (SM J) Q
      refine ev_z_le (t := 154) k179_144 rfl (by omega) (by omega) (fun h4 => ?_) (fun h4 => ?_)
      · have nk : kindF (T p) = 0 := by
          by_cases u : kindF (T p) = 0
          · exact u
          · have w := tok_l (T := T) (p := p) (kind_l u)
            have w1 := w.1
            have w3 : kindF (tokV T p) = kindF (T p) := by rw [w.2.1]
            have kr2 := kind_rg2 (T p)
            omega
        have n1 : n ≠ 0 := fun u => by subst u; exact hkq (by rw [show q = p from hpg.symm]; exact nk)
        have hR2 : chR T 6 q 0 = (p, 0, (n : Int)) := by
          rw [hR, show 6 - n = (5 - n) + 1 by omega, chR, if_pos nk]
        rw [hq] at hR2
        have y := (pa_ch (z := z) hlm hR2 (Or.inr (by omega))).1
        exact m_rgl (K := K) hlm l0 l9 (q := p) (m := n) y (by omega) hd hF hY 7 J 0 p x hJ (by omega) (by omega) h rfl rfl ⟨hG.1, hG.2.1, hG.2.2.1, fun j hj => by rw [← hq]; exact hG.2.2.2.1 j hj, fun j hj => absurd hj (Nat.not_lt_zero j), fun b hb => hG.2.2.2.2 b (by omega)⟩ hfr
      · have lt := tok_1 (T := T) (p := p) (by omega)
        have tl := tok_l lt
        have hkz : kindF (T p) ≠ 0 := by rw [← tl.2.1]; omega
        refine ev_s1 (L' := [some (vr 0), x]) (S' := [vr 0]) k179_147 rfl rfl ?_
        refine ev_virt (a := []) (S' := []) k179_148 rfl (Nat.le_of_ble_eq_true rfl) (by decide) (rfl) (by omega) ?_
        refine m_readsChair hJ h (n := (n : Int)) hkz hn1 (by omega) (by omega) (by omega) (fun J5 hJ5 ps5 ad5 fr5 => ?_)
        show Ev d 179 151 [some (vr 0), x] [] (SM J5) Q
        refine ev_goto (t := 122) k179_151 rfl ?_
        by_cases hmu : chM T (n : Int) p = 0
        · obtain ⟨u1, u2, u3⟩ := ad5 hmu
          rw [hmu] at ps5
          refine ih J5 (n + 1) (chP T (n : Int) p) x hJ5 (by omega) (by omega) ps5 ?_ ?_ ?_ (hfr.trans fr5)
          · rw [hR, show 6 - n = (6 - (n + 1)) + 1 by omega, chR, if_neg hkz, if_pos hmu]
            rfl
          · rw [pcs, ← hpg]
          · rw [u3]
            exact chd_add hG hpg hkz u2
        · have hR2 : chR T 6 q 0 = (chP T (n : Int) p, chM T (n : Int) p, (n : Int)) := by
            rw [hR, show 6 - n = (6 - (n + 1)) + 1 by omega, chR, if_neg hkz, if_neg hmu]
          rw [hq] at hR2
          have y := (pa_ch (z := z) hlm hR2 (Or.inl hmu)).2 hmu
          exact m_f122 (K := K) hJ5 ps5 hmu y.1 y.2 (hfr.trans fr5) (by omega) hF
