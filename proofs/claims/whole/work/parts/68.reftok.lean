/-! the tape, token by token -/
def TPE (J : Nat → Int → Int) (T : Int → Int) (z : Int) : Prop := J 0 6 = z ∧ (0 ≤ z ∧ z ≤ 100) ∧ (∀ p, p < z → J 5 p = T p) ∧ (∀ p, 0 ≤ p → p < z → 0 ≤ T p ∧ T p ≤ 255) ∧ ∀ p, z ≤ p → T p = -1
theorem TPE.fr {J K : Nat → Int → Int} {T : Int → Int} {z : Int} (h : TPE J T z) (h6 : K 0 6 = J 0 6) (h5 : K 5 = J 5) : TPE K T z := by
  unfold TPE at h ⊢
  rw [h6, h5]
  exact h
theorem TPE.rng {J : Nat → Int → Int} {T : Int → Int} {z p : Int} (h : TPE J T z) (p0 : 0 ≤ p) : (p < z ∧ 0 ≤ T p ∧ T p ≤ 255) ∨ (z ≤ p ∧ T p = -1) := by
  rcases Int.lt_or_le p z with q | q
  · exact Or.inl ⟨q, h.2.2.2.1 p p0 q⟩
  · exact Or.inr ⟨q, h.2.2.2.2 p q⟩
theorem fig_iff {b : Int} : figB b = true ↔ (48 ≤ b ∧ b ≤ 57) := by
  unfold figB
  rw [Bool.and_eq_true, decide_eq_true_iff, decide_eq_true_iff]
theorem fig_nf {b : Int} (h : ¬ (48 ≤ b ∧ b ≤ 57)) : figB b = false := by
  cases q : figB b
  · rfl
  · exact absurd (fig_iff.mp q) h
/-- where a run of figures ends -/
def figE (T : Int → Int) : Nat → Int → Int
  | 0, p => p
  | n + 1, p => if figB (T p) = true then figE T n (p + 1) else p
theorem figE_at {T : Int → Int} {e : Int} (he : figB (T e) = false) : ∀ (n : Nat) (p : Int), p ≤ e → e - p < n → (∀ r, p ≤ r → r < e → figB (T r) = true) → figE T n p = e := by
  intro n
  induction n with
  | zero => intro p h1 h2; exfalso; omega
  | succ n ih =>
    intro p h1 h2 h3
    rw [figE]
    by_cases q : p = e
    · rw [q, if_neg (by rw [he]; decide)]
    · rw [if_pos (h3 p (by omega) (by omega))]
      exact ih (p + 1) (by omega) (by omega) (fun r r1 r2 => h3 r (by omega) r2)
def tokE (T : Int → Int) (p : Int) : Int := if figB (T p) = true then figE T 101 p else if T p < 0 then p else p + 1
def tokK (T : Int → Int) (p : Int) : Int := if figB (T p) = true then (if figE T 101 p - p < 3 then 2 else 5) else if T p < 0 then 0 else if 97 ≤ T p ∧ T p ≤ 122 then 1 else if T p = 44 then 3 else if T p = 59 then 4 else 5
/-- the number that is told by the figures from p to q -/
def vvF (T : Int → Int) (p q : Int) : Int := if q ≤ p then 0 else if q = p + 1 then 10 * 0 + T p - 48 else 10 * (10 * 0 + T p - 48) + T (p + 1) - 48
def tokV (T : Int → Int) (p : Int) : Int := if figB (T p) = true then vvF T p (figE T 101 p) else T p
theorem vv_rng {J : Nat → Int → Int} {T : Int → Int} {z p q : Int} (h : TPE J T z) (p0 : 0 ≤ p) : -1000 ≤ vvF T p q ∧ vvF T p q ≤ 5000 := by
  have a := h.rng p0
  have b := h.rng (p := p + 1) (by omega)
  unfold vvF
  repeat' split
  all_goals omega
theorem vv_s {T : Int → Int} {p q : Int} (h : p ≤ q) (h2 : q - p < 2) : 10 * vvF T p q + T q - 48 = vvF T p (q + 1) := by
  rcases (show q = p ∨ q = p + 1 by omega) with rfl | rfl
  · unfold vvF
    rw [if_pos (by omega), if_neg (by omega), if_pos rfl]
  · unfold vvF
    rw [if_neg (by omega), if_pos rfl, if_neg (by omega), if_neg (by omega)]
theorem vv_k {T : Int → Int} {p q : Int} (h2 : ¬ q - p < 2) : vvF T p q = vvF T p (q + 1) := by
  unfold vvF
  rw [if_neg (by omega), if_neg (by omega), if_neg (by omega), if_neg (by omega)]
theorem TPE.run {J : Nat → Int → Int} {T : Int → Int} {z p : Int} (h : TPE J T z) (p0 : 0 ≤ p) (hf : figB (T p) = true) : ∃ e, p < e ∧ e ≤ z ∧ figE T 101 p = e ∧ figB (T e) = false ∧ ∀ r, p ≤ r → r < e → figB (T r) = true := by
  have key : ∀ (n : Nat) (q : Int), p ≤ q → z - q < n → q ≤ z → (∀ r, p ≤ r → r < q → figB (T r) = true) → ∃ e, q ≤ e ∧ e ≤ z ∧ figB (T e) = false ∧ ∀ r, p ≤ r → r < e → figB (T r) = true := by
    intro n
    induction n with
    | zero => intro q h1 h2 h3; exfalso; omega
    | succ n ih =>
      intro q h1 h2 h3 h4
      cases hq : figB (T q)
      · exact ⟨q, Int.le_refl _, h3, hq, h4⟩
      · have := fig_iff.mp hq
        have hz := h.rng (p := q) (by omega)
        obtain ⟨e, e1, e2, e3, e4⟩ := ih (q + 1) (by omega) (by omega) (by omega) (fun r r1 r2 => by rcases Int.lt_or_le r q with g | g; (exact h4 r r1 g); (rw [show r = q by omega]; exact hq))
        exact ⟨e, by omega, e2, e3, e4⟩
  have hz := h.rng p0
  have hf2 := fig_iff.mp hf
  have hzz := h.2.1
  obtain ⟨e, e1, e2, e3, e4⟩ := key 102 p (Int.le_refl _) (by omega) (by omega) (fun r r1 r2 => absurd r2 (by omega))
  have ne : p ≠ e := fun q => by rw [← q, hf] at e3; cases e3
  exact ⟨e, by omega, e2, figE_at e3 101 p e1 (by omega) e4, e3, e4⟩
theorem tok_e {J : Nat → Int → Int} {T : Int → Int} {z p : Int} (h : TPE J T z) (p0 : 0 ≤ p) (p1 : p ≤ z) : p ≤ tokE T p ∧ tokE T p ≤ z := by
  unfold tokE
  cases hf : figB (T p)
  · rw [if_neg (by decide)]
    have := h.rng p0
    split <;> omega
  · rw [if_pos rfl]
    obtain ⟨e, e1, e2, e3, -⟩ := h.run p0 hf
    omega
theorem tok_v {J : Nat → Int → Int} {T : Int → Int} {z p : Int} (h : TPE J T z) (p0 : 0 ≤ p) : -1000 ≤ tokV T p ∧ tokV T p ≤ 5000 := by
  unfold tokV
  have a := h.rng p0
  have b := vv_rng (q := figE T 101 p) h p0
  split <;> omega
theorem tok_k (T : Int → Int) (p : Int) : 0 ≤ tokK T p ∧ tokK T p ≤ 5 := by
  unfold tokK
  repeat' split
  all_goals omega
/-- a sign -/
theorem tok_s {T : Int → Int} {p t s : Int} (hts : (t = 3 ∧ s = 44) ∨ (t = 4 ∧ s = 59)) : tokK T p = t ↔ T p = s := by
  unfold tokK
  cases hf : figB (T p)
  · rw [if_neg (by decide)]
    repeat' split
    all_goals omega
  · have := fig_iff.mp hf
    rw [if_pos rfl]
    split <;> omega
theorem tok_l {T : Int → Int} {p : Int} (h : 97 ≤ T p ∧ T p ≤ 122) : tokK T p = 1 ∧ tokV T p = T p ∧ tokE T p = p + 1 := by
  have hf := fig_nf (b := T p) (by omega)
  unfold tokK tokV tokE
  rw [hf, if_neg (by decide), if_neg (by omega), if_pos h, if_neg (by decide), if_neg (by decide), if_neg (by omega)]
  exact ⟨rfl, rfl, rfl⟩
theorem tok_1 {T : Int → Int} {p : Int} (h : tokK T p = 1) : 97 ≤ T p ∧ T p ≤ 122 := by
  unfold tokK at h
  repeat' split at h
  all_goals omega
theorem tok_0 {J : Nat → Int → Int} {T : Int → Int} {z p : Int} (hT : TPE J T z) (p0 : 0 ≤ p) : tokK T p = 0 ↔ z ≤ p := by
  have hz := hT.rng p0
  unfold tokK
  cases hf : figB (T p)
  · rw [if_neg (by decide)]
    repeat' split
    all_goals omega
  · have := fig_iff.mp hf
    rw [if_pos rfl]
    split <;> omega
theorem sg_e {T : Int → Int} {p s : Int} (hs : s = 44 ∨ s = 59 ∨ s = 97) (h : T p = s) : tokE T p = p + 1 := by
  have hf := fig_nf (b := T p) (by omega)
  unfold tokE
  rw [hf, if_neg (by decide), if_neg (by omega)]
/-- a number -/
theorem tok_n {J : Nat → Int → Int} {T : Int → Int} {z p : Int} (h : TPE J T z) (p0 : 0 ≤ p) : (tokK T p = 2 ∧ (nmL T p = 1 ∨ nmL T p = 2) ∧ tokV T p = nmV T p ∧ tokE T p = p + nmL T p) ∨ (tokK T p ≠ 2 ∧ (nmL T p = 0 ∨ nmL T p = 3)) := by
  cases hf : figB (T p)
  · refine Or.inr ⟨?_, Or.inl (by unfold nmL; rw [if_pos hf])⟩
    unfold tokK
    rw [hf, if_neg (by decide)]
    repeat' split
    all_goals omega
  · obtain ⟨e, e1, e2, e3, e4, e5⟩ := h.run p0 hf
    have nf : ¬ figB (T p) = false := by rw [hf]; decide
    unfold tokK tokV tokE
    rw [hf, if_pos rfl, if_pos rfl, if_pos rfl, e3]
    by_cases q1 : e = p + 1
    · have g1 : figB (T (p + 1)) = false := by rw [← q1]; exact e4
      refine Or.inl ⟨if_pos (by omega), Or.inl ?_, ?_, ?_⟩
      · unfold nmL; rw [if_neg nf, if_pos g1]
      · unfold nmV vvF; rw [if_neg nf, if_pos g1, if_neg (by omega), if_pos q1]; omega
      · unfold nmL; rw [if_neg nf, if_pos g1]; exact q1
    · have g1 : ¬ figB (T (p + 1)) = false := by rw [e5 (p + 1) (by omega) (by omega)]; decide
      by_cases q2 : e = p + 2
      · have g2 : figB (T (p + 2)) = false := by rw [← q2]; exact e4
        refine Or.inl ⟨if_pos (by omega), Or.inr ?_, ?_, ?_⟩
        · unfold nmL; rw [if_neg nf, if_neg g1, if_pos g2]
        · unfold nmV vvF; rw [if_neg nf, if_neg g1, if_pos g2, if_neg (by omega), if_neg q1]; omega
        · unfold nmL; rw [if_neg nf, if_neg g1, if_pos g2]; exact q2
      · have g2 : ¬ figB (T (p + 2)) = false := by rw [e5 (p + 2) (by omega) (by omega)]; decide
        refine Or.inr ⟨by rw [if_neg (by omega)]; decide, Or.inr ?_⟩
        unfold nmL; rw [if_neg nf, if_neg g1, if_neg g2]
/-- the reader's state: at p nothing is wrong yet, or p is the place of the first fault -/
def PST (J : Nat → Int → Int) (T : Int → Int) (z p μ k0 : Int) : Prop := TPE J T z ∧ (0 ≤ p ∧ p ≤ z) ∧ ((μ = 0 ∧ J 0 8 = -1 ∧ J 0 10 = p ∧ J 0 11 = tokK T p ∧ J 0 12 = tokV T p ∧ J 0 9 = tokE T p ∧ J 0 7 = k0) ∨ (μ ≠ 0 ∧ J 0 8 = p ∧ J 0 7 = μ))
/-- only the reader's state has changed -/
def FRP (J J' : Nat → Int → Int) : Prop := (∀ b, (b < 7 ∨ 12 < b) → J' 0 b = J 0 b) ∧ ∀ a, a ≠ 0 → J' a = J a
theorem FRP.trans {J J' K : Nat → Int → Int} (h : FRP J J') (h2 : FRP J' K) : FRP J K := ⟨fun b hb => (h2.1 b hb).trans (h.1 b hb), fun a ha => (h2.2 a ha).trans (h.2 a ha)⟩
theorem FRP.refl (J : Nat → Int → Int) : FRP J J := ⟨fun _ _ => rfl, fun _ _ => rfl⟩
theorem TPE.frp {J J' : Nat → Int → Int} {T : Int → Int} {z : Int} (h : TPE J T z) (hf : FRP J J') : TPE J' T z := h.fr (hf.1 6 (by decide)) (hf.2 5 (by decide))

set_option maxHeartbeats 1000000 in
theorem m_byteAt {d : Nat} {J : Nat → Int → Int} {Q : Option jV → jS → Prop} (hJ : RZ J) {T : Int → Int} {z : Int} (hT : TPE J T z) {p : Int} (p0 : 0 ≤ p) (p1 : p < 1000) (hQ : Q (some (vi (T p))) (SM J)) : Cl d 169 [vr 0, vi p] (SM J) Q := by
  have hz := hT.2.1
  refine ⟨by rw [l169]; exact Nat.le_of_ble_eq_true rfl, ?_⟩
  rw [l169]
  show Ev d 169 0 [some (vr 0), some (vi p)] [] (SM J) Q
  refine ev_s1 (L' := [some (vr 0), some (vi p)]) (S' := [vi p]) k169_0 rfl rfl ?_
  refine ev_s1 (L' := [some (vr 0), some (vi p)]) (S' := [vr 0, vi p]) k169_1 rfl rfl ?_
  refine ev_getI k169_2 (by decide) (rfl) ?_
  show Ev d 169 5 [some (vr 0), some (vi p)] [vi (J 0 6), vi p] (SM J) Q
  have rr1 := hJ.1 0 6
  rw [hT.1]
  rw [hT.1] at rr1
  refine ev_c_ge (t := 17) k169_5 rfl (by omega) (by omega) (by omega) (by omega) (fun h2 => ?_) (fun h2 => ?_)
  · refine ev_s1 (L' := [some (vr 0), some (vi p)]) (S' := [vi (-1)]) k169_17 rfl rfl ?_
    refine ev_ireturn k169_18 ?_
    rw [hT.2.2.2.2 p (by omega)] at hQ
    exact hQ
  · refine ev_s1 (L' := [some (vr 0), some (vi p)]) (S' := [vr 0]) k169_8 rfl rfl ?_
    refine ev_getR k169_9 (by decide) (rfl) (y_0_5) ?_
    refine ev_s1 (L' := [some (vr 0), some (vi p)]) (S' := [vi p, vr 5]) k169_12 rfl rfl ?_
    refine ev_iald k169_13 (by decide) (rfl) (by omega) (by omega) ?_
    have rr3 := hJ.1 5 p
    refine ev_goto (t := 18) k169_14 rfl ?_
    refine ev_ireturn k169_18 ?_
    rw [← hT.2.2.1 p (by omega)] at hQ
    exact hQ

set_option maxHeartbeats 1000000 in
theorem m_advl {d : Nat} {K : Nat → Int → Int} {Q : Option jV → jS → Prop} {T : Int → Int} {z p y : Int} (p0 : 0 ≤ p) (hd : 1 ≤ d) (hE : ∀ (J' : Nat → Int → Int) (e : Int), RZ J' → p ≤ e → e ≤ z → J' 0 9 = e → J' 0 10 = p → J' 0 12 = vvF T p e → figB (T e) = false → (∀ r, p ≤ r → r < e → figB (T r) = true) → (∀ b, (b ≠ 9 ∧ b ≠ 12) → J' 0 b = K 0 b) → (∀ a, a ≠ 0 → J' a = K a) → Ev d 170 112 [some (vr 0), some (vi y)] [] (SM J') Q) : ∀ (n : Nat) (J : Nat → Int → Int) (q : Int), RZ J → z - q + 1 < n → p ≤ q → q ≤ z → TPE J T z → J 0 9 = q → J 0 10 = p → J 0 12 = vvF T p q → (∀ r, p ≤ r → r < q → figB (T r) = true) → (∀ b, (b ≠ 9 ∧ b ≠ 12) → J 0 b = K 0 b) → (∀ a, a ≠ 0 → J a = K a) → Ev d 170 38 [some (vr 0), some (vi y)] [] (SM J) Q := by
  intro n
  induction n with
  | zero =>
    intro J q hJ hq hq1 hq2 hT h9_ h10_ h12_ hfg hF0 hFa
    exfalso; omega
  | succ n ih =>
    intro J q hJ hq hq1 hq2 hT h9_ h10_ h12_ hfg hF0 hFa
    have hz := hT.2.1
    have vrg := vv_rng (p := p) (q := q) hT p0
    refine ev_s1 (L' := [some (vr 0), some (vi y)]) (S' := [vr 0]) k170_38 rfl rfl ?_
    refine ev_s1 (L' := [some (vr 0), some (vi y)]) (S' := [vr 0, vr 0]) k170_39 rfl rfl ?_
    refine ev_getI k170_40 (by decide) (rfl) ?_
    show Ev d 170 43 [some (vr 0), some (vi y)] [vi (J 0 9), vr 0] (SM J) Q
    have rr1 := hJ.1 0 9
    rw [h9_]
    rw [h9_] at rr1
    refine ev_virt (a := [vi q]) (S' := []) k170_43 rfl (Nat.le_of_ble_eq_true rfl) (by decide) (rfl) (by omega) ?_
    refine m_byteAt hJ hT (p := q) (by omega) (by omega) (?_)
    have tr43 := hT.rng (p := q) (by omega)
    show Ev d 170 46 [some (vr 0), some (vi y)] [vi (T q)] (SM J) Q
    refine ev_s1 (L' := [some (vr 0), some (vi y)]) (S' := [vi 48, vi (T q)]) k170_46 rfl rfl ?_
    refine ev_s1 (L' := [some (vr 0), some (vi y)]) (S' := [vi 57, vi 48, vi (T q)]) k170_48 rfl rfl ?_
    refine ev_static (a := [vi (T q), vi 48, vi 57]) (S' := []) k170_50 rfl (Nat.le_of_ble_eq_true rfl) (by omega) ?_
    refine m_in (v := T q) (lo := 48) (hi := 57) (by omega) (by omega) (by omega) (by omega) (by omega) (by omega) (fun h2 => ?_) (fun h2 => ?_)
    · show Ev d 170 53 [some (vr 0), some (vi y)] [vi 1] (SM J) Q
      refine ev_z_eq (t := 112) k170_53 rfl (by omega) (by omega) (fun h => absurd h (by decide)) (fun _ => ?_)
      refine ev_s1 (L' := [some (vr 0), some (vi y)]) (S' := [vr 0]) k170_56 rfl rfl ?_
      refine ev_s1 (L' := [some (vr 0), some (vi y)]) (S' := [vr 0, vr 0]) k170_57 rfl rfl ?_
      refine ev_getI k170_58 (by decide) (rfl) ?_
      show Ev d 170 61 [some (vr 0), some (vi y)] [vi (J 0 9), vr 0] (SM J) Q
      have rr3 := hJ.1 0 9
      rw [h9_]
      rw [h9_] at rr3
      refine ev_s1 (L' := [some (vr 0), some (vi y)]) (S' := [vr 0, vi q, vr 0]) k170_61 rfl rfl ?_
      refine ev_getI k170_62 (by decide) (rfl) ?_
      show Ev d 170 65 [some (vr 0), some (vi y)] [vi (J 0 10), vi q, vr 0] (SM J) Q
      have rr4 := hJ.1 0 10
      rw [h10_]
      rw [h10_] at rr4
      refine ev_s1 (L' := [some (vr 0), some (vi y)]) (S' := [vi (q - p), vr 0]) k170_65 rfl rfl ?_
      refine ev_s1 (L' := [some (vr 0), some (vi y)]) (S' := [vi 2, vi (q - p), vr 0]) k170_66 rfl rfl ?_
      refine ev_c_ge (t := 92) k170_67 rfl (by omega) (by omega) (by omega) (by omega) (fun h5 => ?_) (fun h5 => ?_)
      · refine ev_s1 (L' := [some (vr 0), some (vi y)]) (S' := [vr 0, vr 0]) k170_92 rfl rfl ?_
        refine ev_getI k170_93 (by decide) (rfl) ?_
        show Ev d 170 96 [some (vr 0), some (vi y)] [vi (J 0 12), vr 0] (SM J) Q
        have rr6 := hJ.1 0 12
        rw [h12_]
        rw [h12_] at rr6
        rw [vv_k (by omega)]
        have vr2 := vv_rng (p := p) (q := q + 1) hT p0
        refine ev_putI k170_96 (by decide) (rfl) ?_
        show Ev d 170 99 [some (vr 0), some (vi y)] [] (SM (up J 0 12 (vvF T p (q + 1)))) Q
        have hJ7 := rz_up hJ (k := 0) (j := 12) (z := vvF T p (q + 1)) (by omega) (by omega) (by omega)
        have g7 : ∀ aa, aa ≠ 0 → up J 0 12 (vvF T p (q + 1)) aa = J aa := fun aa h => upf h
        have q7 : ∀ bb, bb ≠ 12 → up J 0 12 (vvF T p (q + 1)) 0 bb = J 0 bb := fun bb h => upN (Or.inr h)
        have e7 : up J 0 12 (vvF T p (q + 1)) 0 12 = vvF T p (q + 1) := upE rfl rfl
        generalize up J 0 12 (vvF T p (q + 1)) = J7 at hJ7 g7 q7 e7 ⊢
        refine ev_s1 (L' := [some (vr 0), some (vi y)]) (S' := [vr 0]) k170_99 rfl rfl ?_
        refine ev_s1 (L' := [some (vr 0), some (vi y)]) (S' := [vr 0, vr 0]) k170_100 rfl rfl ?_
        refine ev_getI k170_101 (by decide) (rfl) ?_
        show Ev d 170 104 [some (vr 0), some (vi y)] [vi (J7 0 9), vr 0] (SM J7) Q
        have rr8 := hJ7.1 0 9
        rw [q7 9 (by decide), h9_]
        rw [q7 9 (by decide), h9_] at rr8
        refine ev_s1 (L' := [some (vr 0), some (vi y)]) (S' := [vi 1, vi q, vr 0]) k170_104 rfl rfl ?_
        refine ev_s1 (L' := [some (vr 0), some (vi y)]) (S' := [vi (q + 1), vr 0]) k170_105 rfl rfl ?_
        refine ev_putI k170_106 (by decide) (rfl) ?_
        show Ev d 170 109 [some (vr 0), some (vi y)] [] (SM (up J7 0 9 (q + 1))) Q
        have hJ9 := rz_up hJ7 (k := 0) (j := 9) (z := q + 1) (by omega) (by omega) (by omega)
        have g9 : ∀ aa, aa ≠ 0 → up J7 0 9 (q + 1) aa = J7 aa := fun aa h => upf h
        have q9 : ∀ bb, bb ≠ 9 → up J7 0 9 (q + 1) 0 bb = J7 0 bb := fun bb h => upN (Or.inr h)
        have e9 : up J7 0 9 (q + 1) 0 9 = q + 1 := upE rfl rfl
        generalize up J7 0 9 (q + 1) = J9 at hJ9 g9 q9 e9 ⊢
        refine ev_goto (t := 38) k170_109 rfl ?_
        exact ih J9 (q + 1) hJ9 (by omega) (by omega) (by omega) (hT.fr (by rw [q9 6 (by decide), q7 6 (by decide)]) (by rw [g9 5 (by decide), g7 5 (by decide)])) e9 (by rw [q9 10 (by decide), q7 10 (by decide)]; exact h10_) (by rw [q9 12 (by decide)]; exact e7) (fun r r1 r2 => by rcases Int.lt_or_le r q with u | u; (exact hfg r r1 u); (rw [show r = q by omega]; exact fig_iff.mpr (by omega))) (fun b hb => by rw [q9 b (by omega), q7 b (by omega)]; exact hF0 b hb) (fun a ha => by rw [g9 a ha, g7 a ha]; exact hFa a ha)
      · refine ev_s1 (L' := [some (vr 0), some (vi y)]) (S' := [vi 10, vr 0]) k170_70 rfl rfl ?_
        refine ev_s1 (L' := [some (vr 0), some (vi y)]) (S' := [vr 0, vi 10, vr 0]) k170_72 rfl rfl ?_
        refine ev_getI k170_73 (by decide) (rfl) ?_
        show Ev d 170 76 [some (vr 0), some (vi y)] [vi (J 0 12), vi 10, vr 0] (SM J) Q
        have rr10 := hJ.1 0 12
        rw [h12_]
        rw [h12_] at rr10
        refine ev_s1 (L' := [some (vr 0), some (vi y)]) (S' := [vi (10 * (vvF T p q)), vr 0]) k170_76 rfl rfl ?_
        refine ev_s1 (L' := [some (vr 0), some (vi y)]) (S' := [vr 0, vi (10 * (vvF T p q)), vr 0]) k170_77 rfl rfl ?_
        refine ev_s1 (L' := [some (vr 0), some (vi y)]) (S' := [vr 0, vr 0, vi (10 * (vvF T p q)), vr 0]) k170_78 rfl rfl ?_
        refine ev_getI k170_79 (by decide) (rfl) ?_
        show Ev d 170 82 [some (vr 0), some (vi y)] [vi (J 0 9), vr 0, vi (10 * (vvF T p q)), vr 0] (SM J) Q
        have rr11 := hJ.1 0 9
        rw [h9_]
        rw [h9_] at rr11
        refine ev_virt (a := [vi q]) (S' := [vi (10 * (vvF T p q)), vr 0]) k170_82 rfl (Nat.le_of_ble_eq_true rfl) (by decide) (rfl) (by omega) ?_
        refine m_byteAt hJ hT (p := q) (by omega) (by omega) (?_)
        have tr82 := hT.rng (p := q) (by omega)
        show Ev d 170 85 [some (vr 0), some (vi y)] [vi (T q), vi (10 * (vvF T p q)), vr 0] (SM J) Q
        refine ev_s1 (L' := [some (vr 0), some (vi y)]) (S' := [vi ((10 * (vvF T p q)) + (T q)), vr 0]) k170_85 rfl rfl ?_
        refine ev_s1 (L' := [some (vr 0), some (vi y)]) (S' := [vi 48, vi ((10 * (vvF T p q)) + (T q)), vr 0]) k170_86 rfl rfl ?_
        refine ev_s1 (L' := [some (vr 0), some (vi y)]) (S' := [vi (((10 * (vvF T p q)) + (T q)) - 48), vr 0]) k170_88 rfl rfl ?_
        refine ev_goto (t := 96) k170_89 rfl ?_
        rw [vv_s (by omega) (by omega)]
        have vr2 := vv_rng (p := p) (q := q + 1) hT p0
        refine ev_putI k170_96 (by decide) (rfl) ?_
        show Ev d 170 99 [some (vr 0), some (vi y)] [] (SM (up J 0 12 (vvF T p (q + 1)))) Q
        have hJ12 := rz_up hJ (k := 0) (j := 12) (z := vvF T p (q + 1)) (by omega) (by omega) (by omega)
        have g12 : ∀ aa, aa ≠ 0 → up J 0 12 (vvF T p (q + 1)) aa = J aa := fun aa h => upf h
        have q12 : ∀ bb, bb ≠ 12 → up J 0 12 (vvF T p (q + 1)) 0 bb = J 0 bb := fun bb h => upN (Or.inr h)
        have e12 : up J 0 12 (vvF T p (q + 1)) 0 12 = vvF T p (q + 1) := upE rfl rfl
        generalize up J 0 12 (vvF T p (q + 1)) = J12 at hJ12 g12 q12 e12 ⊢
        refine ev_s1 (L' := [some (vr 0), some (vi y)]) (S' := [vr 0]) k170_99 rfl rfl ?_
        refine ev_s1 (L' := [some (vr 0), some (vi y)]) (S' := [vr 0, vr 0]) k170_100 rfl rfl ?_
        refine ev_getI k170_101 (by decide) (rfl) ?_
        show Ev d 170 104 [some (vr 0), some (vi y)] [vi (J12 0 9), vr 0] (SM J12) Q
        have rr13 := hJ12.1 0 9
        rw [q12 9 (by decide), h9_]
        rw [q12 9 (by decide), h9_] at rr13
        refine ev_s1 (L' := [some (vr 0), some (vi y)]) (S' := [vi 1, vi q, vr 0]) k170_104 rfl rfl ?_
        refine ev_s1 (L' := [some (vr 0), some (vi y)]) (S' := [vi (q + 1), vr 0]) k170_105 rfl rfl ?_
        refine ev_putI k170_106 (by decide) (rfl) ?_
        show Ev d 170 109 [some (vr 0), some (vi y)] [] (SM (up J12 0 9 (q + 1))) Q
        have hJ14 := rz_up hJ12 (k := 0) (j := 9) (z := q + 1) (by omega) (by omega) (by omega)
        have g14 : ∀ aa, aa ≠ 0 → up J12 0 9 (q + 1) aa = J12 aa := fun aa h => upf h
        have q14 : ∀ bb, bb ≠ 9 → up J12 0 9 (q + 1) 0 bb = J12 0 bb := fun bb h => upN (Or.inr h)
        have e14 : up J12 0 9 (q + 1) 0 9 = q + 1 := upE rfl rfl
        generalize up J12 0 9 (q + 1) = J14 at hJ14 g14 q14 e14 ⊢
        refine ev_goto (t := 38) k170_109 rfl ?_
        exact ih J14 (q + 1) hJ14 (by omega) (by omega) (by omega) (hT.fr (by rw [q14 6 (by decide), q12 6 (by decide)]) (by rw [g14 5 (by decide), g12 5 (by decide)])) e14 (by rw [q14 10 (by decide), q12 10 (by decide)]; exact h10_) (by rw [q14 12 (by decide)]; exact e12) (fun r r1 r2 => by rcases Int.lt_or_le r q with u | u; (exact hfg r r1 u); (rw [show r = q by omega]; exact fig_iff.mpr (by omega))) (fun b hb => by rw [q14 b (by omega), q12 b (by omega)]; exact hF0 b hb) (fun a ha => by rw [g14 a ha, g12 a ha]; exact hFa a ha)
    · show Ev d 170 53 [some (vr 0), some (vi y)] [vi 0] (SM J) Q
      refine ev_z_eq (t := 112) k170_53 rfl (by omega) (by omega) (fun _ => ?_) (fun h => absurd h (by decide))
      exact hE _ _ hJ hq1 hq2 h9_ h10_ h12_ (fig_nf (by omega)) hfg hF0 hFa

/-- the first fault isn't touched -/
def FRP8 (J J' : Nat → Int → Int) : Prop := (∀ b, (b < 9 ∨ 12 < b) → J' 0 b = J 0 b) ∧ ∀ a, a ≠ 0 → J' a = J a

set_option maxHeartbeats 1000000 in
theorem m_advances {d : Nat} {J : Nat → Int → Int} {Q : Option jV → jS → Prop} (hJ : RZ J) {T : Int → Int} {z : Int} (hT : TPE J T z) {p : Int} (hp : J 0 9 = p) (p0 : 0 ≤ p) (p1 : p ≤ z) (hd : 2 ≤ d) (hQ : ∀ J', RZ J' → J' 0 9 = tokE T p → J' 0 10 = p → J' 0 11 = tokK T p → J' 0 12 = tokV T p → FRP8 J J' → Q none (SM J')) : Cl d 170 [vr 0] (SM J) Q := by
  have hz := hT.2.1
  have tp := hT.rng p0
  refine ⟨by rw [l170]; exact Nat.le_of_ble_eq_true rfl, ?_⟩
  rw [l170]
  show Ev d 170 0 [some (vr 0), none] [] (SM J) Q
  refine ev_s1 (L' := [some (vr 0), none]) (S' := [vr 0]) k170_0 rfl rfl ?_
  refine ev_s1 (L' := [some (vr 0), none]) (S' := [vr 0, vr 0]) k170_1 rfl rfl ?_
  refine ev_getI k170_2 (by decide) (rfl) ?_
  show Ev d 170 5 [some (vr 0), none] [vi (J 0 9), vr 0] (SM J) Q
  have rr1 := hJ.1 0 9
  rw [hp]
  rw [hp] at rr1
  refine ev_putI k170_5 (by decide) (rfl) ?_
  show Ev d 170 8 [some (vr 0), none] [] (SM (up J 0 10 p)) Q
  have hJ2 := rz_up hJ (k := 0) (j := 10) (z := p) (by omega) (by omega) (by omega)
  have g2 : ∀ aa, aa ≠ 0 → up J 0 10 p aa = J aa := fun aa h => upf h
  have q2 : ∀ bb, bb ≠ 10 → up J 0 10 p 0 bb = J 0 bb := fun bb h => upN (Or.inr h)
  have e2 : up J 0 10 p 0 10 = p := upE rfl rfl
  generalize up J 0 10 p = J2 at hJ2 g2 q2 e2 ⊢
  refine ev_s1 (L' := [some (vr 0), none]) (S' := [vr 0]) k170_8 rfl rfl ?_
  refine ev_s1 (L' := [some (vr 0), none]) (S' := [vr 0, vr 0]) k170_9 rfl rfl ?_
  refine ev_getI k170_10 (by decide) (rfl) ?_
  show Ev d 170 13 [some (vr 0), none] [vi (J2 0 9), vr 0] (SM J2) Q
  have rr3 := hJ2.1 0 9
  rw [q2 9 (by decide), hp]
  rw [q2 9 (by decide), hp] at rr3
  refine ev_virt (a := [vi p]) (S' := []) k170_13 rfl (Nat.le_of_ble_eq_true rfl) (by decide) (rfl) (by omega) ?_
  refine m_byteAt hJ2 (hT.fr (by rw [q2 6 (by decide)]) (by rw [g2 5 (by decide)])) (p := p) (by omega) (by omega) (?_)
  have tr13 := hT.rng (p := p) (by omega)
  show Ev d 170 16 [some (vr 0), none] [vi (T p)] (SM J2) Q
  refine ev_s1 (L' := [some (vr 0), some (vi (T p))]) (S' := []) k170_16 rfl rfl ?_
  refine ev_s1 (L' := [some (vr 0), some (vi (T p))]) (S' := [vr 0]) k170_17 rfl rfl ?_
  refine ev_s1 (L' := [some (vr 0), some (vi (T p))]) (S' := [vi (T p), vr 0]) k170_18 rfl rfl ?_
  refine ev_putI k170_19 (by decide) (rfl) ?_
  show Ev d 170 22 [some (vr 0), some (vi (T p))] [] (SM (up J2 0 12 (T p))) Q
  have hJ4 := rz_up hJ2 (k := 0) (j := 12) (z := T p) (by omega) (by omega) (by omega)
  have g4 : ∀ aa, aa ≠ 0 → up J2 0 12 (T p) aa = J2 aa := fun aa h => upf h
  have q4 : ∀ bb, bb ≠ 12 → up J2 0 12 (T p) 0 bb = J2 0 bb := fun bb h => upN (Or.inr h)
  have e4 : up J2 0 12 (T p) 0 12 = T p := upE rfl rfl
  generalize up J2 0 12 (T p) = J4 at hJ4 g4 q4 e4 ⊢
  refine ev_s1 (L' := [some (vr 0), some (vi (T p))]) (S' := [vi (T p)]) k170_22 rfl rfl ?_
  refine ev_s1 (L' := [some (vr 0), some (vi (T p))]) (S' := [vi 48, vi (T p)]) k170_23 rfl rfl ?_
  refine ev_s1 (L' := [some (vr 0), some (vi (T p))]) (S' := [vi 57, vi 48, vi (T p)]) k170_25 rfl rfl ?_
  refine ev_static (a := [vi (T p), vi 48, vi 57]) (S' := []) k170_27 rfl (Nat.le_of_ble_eq_true rfl) (by omega) ?_
  refine m_in (v := T p) (lo := 48) (hi := 57) (by omega) (by omega) (by omega) (by omega) (by omega) (by omega) (fun h5 => ?_) (fun h5 => ?_)
  · show Ev d 170 30 [some (vr 0), some (vi (T p))] [vi 1] (SM J4) Q
    refine ev_z_eq (t := 135) k170_30 rfl (by omega) (by omega) (fun h => absurd h (by decide)) (fun _ => ?_)
    refine ev_s1 (L' := [some (vr 0), some (vi (T p))]) (S' := [vr 0]) k170_33 rfl rfl ?_
    refine ev_s1 (L' := [some (vr 0), some (vi (T p))]) (S' := [vi 0, vr 0]) k170_34 rfl rfl ?_
    refine ev_putI k170_35 (by decide) (rfl) ?_
    show Ev d 170 38 [some (vr 0), some (vi (T p))] [] (SM (up J4 0 12 0)) Q
    have hJ6 := rz_up hJ4 (k := 0) (j := 12) (z := 0) (by omega) (by omega) (by omega)
    have g6 : ∀ aa, aa ≠ 0 → up J4 0 12 0 aa = J4 aa := fun aa h => upf h
    have q6 : ∀ bb, bb ≠ 12 → up J4 0 12 0 0 bb = J4 0 bb := fun bb h => upN (Or.inr h)
    have e6 : up J4 0 12 0 0 12 = 0 := upE rfl rfl
    generalize up J4 0 12 0 = J6 at hJ6 g6 q6 e6 ⊢
    refine m_advl (K := J6) (T := T) (z := z) (p := p) (y := T p) p0 (by omega) (fun J0 e0 hJ0 x1 x2 x9 x10 x12 xn xf q0 g0 => ?_) 103 J6 p hJ6 (by omega) (by omega) (by omega) (hT.fr (by rw [q6 6 (by decide), q4 6 (by decide), q2 6 (by decide)]) (by rw [g6 5 (by decide), g4 5 (by decide), g2 5 (by decide)])) (by rw [q6 9 (by decide), q4 9 (by decide), q2 9 (by decide), hp]) (by rw [q6 10 (by decide), q4 10 (by decide), e2]) (by rw [e6]; unfold vvF; rw [if_pos (by omega)]) (fun r r1 r2 => absurd r2 (by omega)) (fun _ _ => rfl) (fun _ _ => rfl)
    have ff : figB (T p) = true := fig_iff.mpr (by omega)
    have np : p ≠ e0 := fun u => by rw [← u, ff] at xn; cases xn
    have fe := figE_at xn 101 p x1 (by omega) xf
    have ve := vv_rng (p := p) (q := e0) hT p0
    refine ev_s1 (L' := [some (vr 0), some (vi (T p))]) (S' := [vr 0]) k170_112 rfl rfl ?_
    refine ev_s1 (L' := [some (vr 0), some (vi (T p))]) (S' := [vr 0, vr 0]) k170_113 rfl rfl ?_
    refine ev_getI k170_114 (by decide) (rfl) ?_
    show Ev d 170 117 [some (vr 0), some (vi (T p))] [vi (J0 0 9), vr 0] (SM J0) Q
    have rr7 := hJ0.1 0 9
    rw [x9]
    rw [x9] at rr7
    refine ev_s1 (L' := [some (vr 0), some (vi (T p))]) (S' := [vr 0, vi e0, vr 0]) k170_117 rfl rfl ?_
    refine ev_getI k170_118 (by decide) (rfl) ?_
    show Ev d 170 121 [some (vr 0), some (vi (T p))] [vi (J0 0 10), vi e0, vr 0] (SM J0) Q
    have rr8 := hJ0.1 0 10
    rw [x10]
    rw [x10] at rr8
    refine ev_s1 (L' := [some (vr 0), some (vi (T p))]) (S' := [vi (e0 - p), vr 0]) k170_121 rfl rfl ?_
    refine ev_s1 (L' := [some (vr 0), some (vi (T p))]) (S' := [vi 3, vi (e0 - p), vr 0]) k170_122 rfl rfl ?_
    refine ev_c_ge (t := 130) k170_123 rfl (by omega) (by omega) (by omega) (by omega) (fun h9 => ?_) (fun h9 => ?_)
    · refine ev_s1 (L' := [some (vr 0), some (vi (T p))]) (S' := [vi 5, vr 0]) k170_130 rfl rfl ?_
      refine ev_putI k170_131 (by decide) (rfl) ?_
      show Ev d 170 134 [some (vr 0), some (vi (T p))] [] (SM (up J0 0 11 5)) Q
      have hJ10 := rz_up hJ0 (k := 0) (j := 11) (z := 5) (by omega) (by omega) (by omega)
      have g10 : ∀ aa, aa ≠ 0 → up J0 0 11 5 aa = J0 aa := fun aa h => upf h
      have q10 : ∀ bb, bb ≠ 11 → up J0 0 11 5 0 bb = J0 0 bb := fun bb h => upN (Or.inr h)
      have e10 : up J0 0 11 5 0 11 = 5 := upE rfl rfl
      generalize up J0 0 11 5 = J10 at hJ10 g10 q10 e10 ⊢
      refine ev_return k170_134 ?_
      exact hQ _ hJ10 (by rw [q10 9 (by decide), x9]; unfold tokE; rw [if_pos ff]; exact fe.symm) (by rw [q10 10 (by decide), x10]) (by rw [e10]; unfold tokK; rw [if_pos ff, fe, if_neg (by omega)]) (by rw [q10 12 (by decide), x12]; unfold tokV; rw [if_pos ff, fe]) ⟨fun b hb => ((q10 b (by omega)).trans ((q0 b (by omega)).trans ((q6 b (by omega)).trans ((q4 b (by omega)).trans (q2 b (by omega)))))), fun a ha => ((g10 a ha).trans ((g0 a ha).trans ((g6 a ha).trans ((g4 a ha).trans (g2 a ha)))))⟩
    · refine ev_s1 (L' := [some (vr 0), some (vi (T p))]) (S' := [vi 2, vr 0]) k170_126 rfl rfl ?_
      refine ev_goto (t := 131) k170_127 rfl ?_
      refine ev_putI k170_131 (by decide) (rfl) ?_
      show Ev d 170 134 [some (vr 0), some (vi (T p))] [] (SM (up J0 0 11 2)) Q
      have hJ11 := rz_up hJ0 (k := 0) (j := 11) (z := 2) (by omega) (by omega) (by omega)
      have g11 : ∀ aa, aa ≠ 0 → up J0 0 11 2 aa = J0 aa := fun aa h => upf h
      have q11 : ∀ bb, bb ≠ 11 → up J0 0 11 2 0 bb = J0 0 bb := fun bb h => upN (Or.inr h)
      have e11 : up J0 0 11 2 0 11 = 2 := upE rfl rfl
      generalize up J0 0 11 2 = J11 at hJ11 g11 q11 e11 ⊢
      refine ev_return k170_134 ?_
      exact hQ _ hJ11 (by rw [q11 9 (by decide), x9]; unfold tokE; rw [if_pos ff]; exact fe.symm) (by rw [q11 10 (by decide), x10]) (by rw [e11]; unfold tokK; rw [if_pos ff, fe, if_pos (by omega)]) (by rw [q11 12 (by decide), x12]; unfold tokV; rw [if_pos ff, fe]) ⟨fun b hb => ((q11 b (by omega)).trans ((q0 b (by omega)).trans ((q6 b (by omega)).trans ((q4 b (by omega)).trans (q2 b (by omega)))))), fun a ha => ((g11 a ha).trans ((g0 a ha).trans ((g6 a ha).trans ((g4 a ha).trans (g2 a ha)))))⟩
    
  · show Ev d 170 30 [some (vr 0), some (vi (T p))] [vi 0] (SM J4) Q
    refine ev_z_eq (t := 135) k170_30 rfl (by omega) (by omega) (fun _ => ?_) (fun h => absurd h (by decide))
    have hnf : ¬ figB (T p) = true := fun u => by have := fig_iff.mp u; omega
    have t0k := tok_0 hT p0
    refine ev_s1 (L' := [some (vr 0), some (vi (T p))]) (S' := [vr 0]) k170_135 rfl rfl ?_
    refine ev_s1 (L' := [some (vr 0), some (vi (T p))]) (S' := [vi (T p), vr 0]) k170_136 rfl rfl ?_
    have kj137 : ∀ tk : Int, tk = (tokK T p) → Ev d 170 180 [some (vr 0), some (vi (T p))] [vi tk, vr 0] (SM J4) Q := by
      intro tk htk
      have kr := tok_k T p
      refine ev_putI k170_180 (by decide) (rfl) ?_
      show Ev d 170 183 [some (vr 0), some (vi (T p))] [] (SM (up J4 0 11 tk)) Q
      have hJ12 := rz_up hJ4 (k := 0) (j := 11) (z := tk) (by omega) (by omega) (by omega)
      have g12 : ∀ aa, aa ≠ 0 → up J4 0 11 tk aa = J4 aa := fun aa h => upf h
      have q12 : ∀ bb, bb ≠ 11 → up J4 0 11 tk 0 bb = J4 0 bb := fun bb h => upN (Or.inr h)
      have e12 : up J4 0 11 tk 0 11 = tk := upE rfl rfl
      generalize up J4 0 11 tk = J12 at hJ12 g12 q12 e12 ⊢
      refine ev_s1 (L' := [some (vr 0), some (vi (T p))]) (S' := [vr 0]) k170_183 rfl rfl ?_
      refine ev_s1 (L' := [some (vr 0), some (vi (T p))]) (S' := [vr 0, vr 0]) k170_184 rfl rfl ?_
      refine ev_getI k170_185 (by decide) (rfl) ?_
      show Ev d 170 188 [some (vr 0), some (vi (T p))] [vi (J12 0 9), vr 0] (SM J12) Q
      have rr13 := hJ12.1 0 9
      rw [q12 9 (by decide), q4 9 (by decide), q2 9 (by decide), hp]
      rw [q12 9 (by decide), q4 9 (by decide), q2 9 (by decide), hp] at rr13
      refine ev_s1 (L' := [some (vr 0), some (vi (T p))]) (S' := [vr 0, vi p, vr 0]) k170_188 rfl rfl ?_
      refine ev_getI k170_189 (by decide) (rfl) ?_
      show Ev d 170 192 [some (vr 0), some (vi (T p))] [vi (J12 0 11), vi p, vr 0] (SM J12) Q
      have rr14 := hJ12.1 0 11
      rw [e12]
      rw [e12] at rr14
      refine ev_z_ne (t := 199) k170_192 rfl (by omega) (by omega) (fun h15 => ?_) (fun h15 => ?_)
      · refine ev_s1 (L' := [some (vr 0), some (vi (T p))]) (S' := [vi 1, vi p, vr 0]) k170_199 rfl rfl ?_
        refine ev_s1 (L' := [some (vr 0), some (vi (T p))]) (S' := [vi (p + 1), vr 0]) k170_200 rfl rfl ?_
        refine ev_putI k170_201 (by decide) (rfl) ?_
        show Ev d 170 204 [some (vr 0), some (vi (T p))] [] (SM (up J12 0 9 (p + 1))) Q
        have hJ16 := rz_up hJ12 (k := 0) (j := 9) (z := p + 1) (by omega) (by omega) (by omega)
        have g16 : ∀ aa, aa ≠ 0 → up J12 0 9 (p + 1) aa = J12 aa := fun aa h => upf h
        have q16 : ∀ bb, bb ≠ 9 → up J12 0 9 (p + 1) 0 bb = J12 0 bb := fun bb h => upN (Or.inr h)
        have e16 : up J12 0 9 (p + 1) 0 9 = p + 1 := upE rfl rfl
        generalize up J12 0 9 (p + 1) = J16 at hJ16 g16 q16 e16 ⊢
        refine ev_return k170_204 ?_
        exact hQ _ hJ16 (by rw [e16]; unfold tokE; rw [if_neg hnf, if_neg (by omega)]) (by rw [q16 10 (by decide), q12 10 (by decide), q4 10 (by decide), e2]) (by rw [q16 11 (by decide), e12]; exact htk) (by rw [q16 12 (by decide), q12 12 (by decide), e4]; unfold tokV; rw [if_neg hnf]) ⟨fun b hb => ((q16 b (by omega)).trans ((q12 b (by omega)).trans ((q4 b (by omega)).trans (q2 b (by omega))))), fun a ha => ((g16 a ha).trans ((g12 a ha).trans ((g4 a ha).trans (g2 a ha))))⟩
      · refine ev_s1 (L' := [some (vr 0), some (vi (T p))]) (S' := [vi 0, vi p, vr 0]) k170_195 rfl rfl ?_
        refine ev_goto (t := 200) k170_196 rfl ?_
        refine ev_s1 (L' := [some (vr 0), some (vi (T p))]) (S' := [vi (p + 0), vr 0]) k170_200 rfl rfl ?_
        refine ev_putI k170_201 (by decide) (rfl) ?_
        show Ev d 170 204 [some (vr 0), some (vi (T p))] [] (SM (up J12 0 9 (p + 0))) Q
        have hJ17 := rz_up hJ12 (k := 0) (j := 9) (z := p + 0) (by omega) (by omega) (by omega)
        have g17 : ∀ aa, aa ≠ 0 → up J12 0 9 (p + 0) aa = J12 aa := fun aa h => upf h
        have q17 : ∀ bb, bb ≠ 9 → up J12 0 9 (p + 0) 0 bb = J12 0 bb := fun bb h => upN (Or.inr h)
        have e17 : up J12 0 9 (p + 0) 0 9 = p + 0 := upE rfl rfl
        generalize up J12 0 9 (p + 0) = J17 at hJ17 g17 q17 e17 ⊢
        refine ev_return k170_204 ?_
        exact hQ _ hJ17 (by rw [e17]; unfold tokE; rw [if_neg hnf, if_pos (by omega)]; omega) (by rw [q17 10 (by decide), q12 10 (by decide), q4 10 (by decide), e2]) (by rw [q17 11 (by decide), e12]; exact htk) (by rw [q17 12 (by decide), q12 12 (by decide), e4]; unfold tokV; rw [if_neg hnf]) ⟨fun b hb => ((q17 b (by omega)).trans ((q12 b (by omega)).trans ((q4 b (by omega)).trans (q2 b (by omega))))), fun a ha => ((g17 a ha).trans ((g12 a ha).trans ((g4 a ha).trans (g2 a ha))))⟩
    refine ev_z_ge (t := 144) k170_137 rfl (by omega) (by omega) (fun h18 => ?_) (fun h18 => ?_)
    · refine ev_s1 (L' := [some (vr 0), some (vi (T p))]) (S' := [vi (T p), vr 0]) k170_144 rfl rfl ?_
      refine ev_s1 (L' := [some (vr 0), some (vi (T p))]) (S' := [vi 97, vi (T p), vr 0]) k170_145 rfl rfl ?_
      refine ev_s1 (L' := [some (vr 0), some (vi (T p))]) (S' := [vi 122, vi 97, vi (T p), vr 0]) k170_147 rfl rfl ?_
      refine ev_static (a := [vi (T p), vi 97, vi 122]) (S' := [vr 0]) k170_149 rfl (Nat.le_of_ble_eq_true rfl) (by omega) ?_
      refine m_in (v := T p) (lo := 97) (hi := 122) (by omega) (by omega) (by omega) (by omega) (by omega) (by omega) (fun h19 => ?_) (fun h19 => ?_)
      · show Ev d 170 152 [some (vr 0), some (vi (T p))] [vi 1, vr 0] (SM J4) Q
        refine ev_z_eq (t := 159) k170_152 rfl (by omega) (by omega) (fun h => absurd h (by decide)) (fun _ => ?_)
        refine ev_s1 (L' := [some (vr 0), some (vi (T p))]) (S' := [vi 1, vr 0]) k170_155 rfl rfl ?_
        refine ev_goto (t := 180) k170_156 rfl ?_
        exact kj137 _ (by unfold tokK; rw [if_neg hnf]; first | rw [if_pos (by omega)] | rw [if_neg (by omega), if_pos (by omega)] | rw [if_neg (by omega), if_neg (by omega), if_pos (by omega)] | rw [if_neg (by omega), if_neg (by omega), if_neg (by omega), if_pos (by omega)] | rw [if_neg (by omega), if_neg (by omega), if_neg (by omega), if_neg (by omega)])
      · show Ev d 170 152 [some (vr 0), some (vi (T p))] [vi 0, vr 0] (SM J4) Q
        refine ev_z_eq (t := 159) k170_152 rfl (by omega) (by omega) (fun _ => ?_) (fun h => absurd h (by decide))
        refine ev_s1 (L' := [some (vr 0), some (vi (T p))]) (S' := [vi (T p), vr 0]) k170_159 rfl rfl ?_
        refine ev_s1 (L' := [some (vr 0), some (vi (T p))]) (S' := [vi 44, vi (T p), vr 0]) k170_160 rfl rfl ?_
        refine ev_c_ne (t := 169) k170_162 rfl (by omega) (by omega) (by omega) (by omega) (fun h20 => ?_) (fun h20 => ?_)
        · refine ev_s1 (L' := [some (vr 0), some (vi (T p))]) (S' := [vi (T p), vr 0]) k170_169 rfl rfl ?_
          refine ev_s1 (L' := [some (vr 0), some (vi (T p))]) (S' := [vi 59, vi (T p), vr 0]) k170_170 rfl rfl ?_
          refine ev_c_ne (t := 179) k170_172 rfl (by omega) (by omega) (by omega) (by omega) (fun h21 => ?_) (fun h21 => ?_)
          · refine ev_s1 (L' := [some (vr 0), some (vi (T p))]) (S' := [vi 5, vr 0]) k170_179 rfl rfl ?_
            exact kj137 _ (by unfold tokK; rw [if_neg hnf]; first | rw [if_pos (by omega)] | rw [if_neg (by omega), if_pos (by omega)] | rw [if_neg (by omega), if_neg (by omega), if_pos (by omega)] | rw [if_neg (by omega), if_neg (by omega), if_neg (by omega), if_pos (by omega)] | rw [if_neg (by omega), if_neg (by omega), if_neg (by omega), if_neg (by omega)])
          · refine ev_s1 (L' := [some (vr 0), some (vi (T p))]) (S' := [vi 4, vr 0]) k170_175 rfl rfl ?_
            refine ev_goto (t := 180) k170_176 rfl ?_
            exact kj137 _ (by unfold tokK; rw [if_neg hnf]; first | rw [if_pos (by omega)] | rw [if_neg (by omega), if_pos (by omega)] | rw [if_neg (by omega), if_neg (by omega), if_pos (by omega)] | rw [if_neg (by omega), if_neg (by omega), if_neg (by omega), if_pos (by omega)] | rw [if_neg (by omega), if_neg (by omega), if_neg (by omega), if_neg (by omega)])
        · refine ev_s1 (L' := [some (vr 0), some (vi (T p))]) (S' := [vi 3, vr 0]) k170_165 rfl rfl ?_
          refine ev_goto (t := 180) k170_166 rfl ?_
          exact kj137 _ (by unfold tokK; rw [if_neg hnf]; first | rw [if_pos (by omega)] | rw [if_neg (by omega), if_pos (by omega)] | rw [if_neg (by omega), if_neg (by omega), if_pos (by omega)] | rw [if_neg (by omega), if_neg (by omega), if_neg (by omega), if_pos (by omega)] | rw [if_neg (by omega), if_neg (by omega), if_neg (by omega), if_neg (by omega)])
    · refine ev_s1 (L' := [some (vr 0), some (vi (T p))]) (S' := [vi 0, vr 0]) k170_140 rfl rfl ?_
      refine ev_goto (t := 180) k170_141 rfl ?_
      exact kj137 _ (by unfold tokK; rw [if_neg hnf]; first | rw [if_pos (by omega)] | rw [if_neg (by omega), if_pos (by omega)] | rw [if_neg (by omega), if_neg (by omega), if_pos (by omega)] | rw [if_neg (by omega), if_neg (by omega), if_neg (by omega), if_pos (by omega)] | rw [if_neg (by omega), if_neg (by omega), if_neg (by omega), if_neg (by omega)])

set_option maxHeartbeats 1000000 in
theorem m_isWell {d : Nat} {J : Nat → Int → Int} {Q : Option jV → jS → Prop} (hJ : RZ J) (hT : J 0 8 < 0 → Q (some (vi 1)) (SM J)) (hF : ¬ (J 0 8 < 0) → Q (some (vi 0)) (SM J)) : Cl d 171 [vr 0] (SM J) Q := by
  refine ⟨by rw [l171]; exact Nat.le_of_ble_eq_true rfl, ?_⟩
  rw [l171]
  show Ev d 171 0 [some (vr 0)] [] (SM J) Q
  refine ev_s1 (L' := [some (vr 0)]) (S' := [vr 0]) k171_0 rfl rfl ?_
  refine ev_getI k171_1 (by decide) (rfl) ?_
  show Ev d 171 4 [some (vr 0)] [vi (J 0 8)] (SM J) Q
  have rr1 := hJ.1 0 8
  refine ev_z_ge (t := 11) k171_4 rfl (by omega) (by omega) (fun h2 => ?_) (fun h2 => ?_)
  · refine ev_s1 (L' := [some (vr 0)]) (S' := [vi 0]) k171_11 rfl rfl ?_
    refine ev_zreturn k171_12 (by decide) ?_
    exact hF (by omega)
  · refine ev_s1 (L' := [some (vr 0)]) (S' := [vi 1]) k171_7 rfl rfl ?_
    refine ev_goto (t := 12) k171_8 rfl ?_
    refine ev_zreturn k171_12 (by decide) ?_
    exact hT (by omega)

set_option maxHeartbeats 1000000 in
theorem m_takesN {d : Nat} {J : Nat → Int → Int} {Q : Option jV → jS → Prop} (hJ : RZ J) {i k p : Int} (h8_ : J 0 8 = p) (p0 : 0 ≤ p) (hd : 1 ≤ d) (hQ : Q (some (vi 0)) (SM J)) : Cl d 172 [vr 0, vi i, vi k] (SM J) Q := by
  refine ⟨by rw [l172]; exact Nat.le_of_ble_eq_true rfl, ?_⟩
  rw [l172]
  show Ev d 172 0 [some (vr 0), some (vi i), some (vi k), none] [] (SM J) Q
  refine ev_s1 (L' := [some (vr 0), some (vi i), some (vi k), none]) (S' := [vr 0]) k172_0 rfl rfl ?_
  refine ev_virt (a := []) (S' := []) k172_1 rfl (Nat.le_of_ble_eq_true rfl) (by decide) (rfl) (by omega) ?_
  refine m_isWell hJ (fun hw8 => absurd hw8 (by rw [h8_]; omega)) (fun _ => ?_)
  show Ev d 172 4 [some (vr 0), some (vi i), some (vi k), none] [vi 0] (SM J) Q
  refine ev_z_ne (t := 9) k172_4 rfl (by omega) (by omega) (fun h => absurd h (by decide)) (fun _ => ?_)
  refine ev_s1 (L' := [some (vr 0), some (vi i), some (vi k), none]) (S' := [vi 0]) k172_7 rfl rfl ?_
  refine ev_ireturn k172_8 ?_
  exact hQ

set_option maxHeartbeats 1000000 in
theorem m_takes0 {d : Nat} {J : Nat → Int → Int} {Q : Option jV → jS → Prop} (hJ : RZ J) {k p : Int} (h8_ : J 0 8 = -1) (h10_ : J 0 10 = p) (p0 : 0 ≤ p) (p1 : p < 1000) (k0 : 0 ≤ k) (k1 : k ≤ 9) (hd : 1 ≤ d) (hQ : ∀ J', RZ J' → J' 0 8 = p → J' 0 7 = k → (∀ b, (b ≠ 7 ∧ b ≠ 8) → J' 0 b = J 0 b) → (∀ a, a ≠ 0 → J' a = J a) → Q (some (vi 0)) (SM J')) : Cl d 172 [vr 0, vi 0, vi k] (SM J) Q := by
  refine ⟨by rw [l172]; exact Nat.le_of_ble_eq_true rfl, ?_⟩
  rw [l172]
  show Ev d 172 0 [some (vr 0), some (vi 0), some (vi k), none] [] (SM J) Q
  refine ev_s1 (L' := [some (vr 0), some (vi 0), some (vi k), none]) (S' := [vr 0]) k172_0 rfl rfl ?_
  refine ev_virt (a := []) (S' := []) k172_1 rfl (Nat.le_of_ble_eq_true rfl) (by decide) (rfl) (by omega) ?_
  refine m_isWell hJ (fun _ => ?_) (fun hw8 => absurd hw8 (by rw [h8_]; decide))
  show Ev d 172 4 [some (vr 0), some (vi 0), some (vi k), none] [vi 1] (SM J) Q
  refine ev_z_ne (t := 9) k172_4 rfl (by omega) (by omega) (fun _ => ?_) (fun h => absurd h (by decide))
  refine ev_s1 (L' := [some (vr 0), some (vi 0), some (vi k), none]) (S' := [vi 0]) k172_9 rfl rfl ?_
  refine ev_z_ne (t := 28) k172_10 rfl (by omega) (by omega) (fun h => absurd h (by decide)) (fun _ => ?_)
  refine ev_s1 (L' := [some (vr 0), some (vi 0), some (vi k), none]) (S' := [vr 0]) k172_13 rfl rfl ?_
  refine ev_s1 (L' := [some (vr 0), some (vi 0), some (vi k), none]) (S' := [vr 0, vr 0]) k172_14 rfl rfl ?_
  refine ev_getI k172_15 (by decide) (rfl) ?_
  show Ev d 172 18 [some (vr 0), some (vi 0), some (vi k), none] [vi (J 0 10), vr 0] (SM J) Q
  have rr1 := hJ.1 0 10
  rw [h10_]
  rw [h10_] at rr1
  refine ev_putI k172_18 (by decide) (rfl) ?_
  show Ev d 172 21 [some (vr 0), some (vi 0), some (vi k), none] [] (SM (up J 0 8 p)) Q
  have hJ2 := rz_up hJ (k := 0) (j := 8) (z := p) (by omega) (by omega) (by omega)
  have g2 : ∀ aa, aa ≠ 0 → up J 0 8 p aa = J aa := fun aa h => upf h
  have q2 : ∀ bb, bb ≠ 8 → up J 0 8 p 0 bb = J 0 bb := fun bb h => upN (Or.inr h)
  have e2 : up J 0 8 p 0 8 = p := upE rfl rfl
  generalize up J 0 8 p = J2 at hJ2 g2 q2 e2 ⊢
  refine ev_s1 (L' := [some (vr 0), some (vi 0), some (vi k), none]) (S' := [vr 0]) k172_21 rfl rfl ?_
  refine ev_s1 (L' := [some (vr 0), some (vi 0), some (vi k), none]) (S' := [vi k, vr 0]) k172_22 rfl rfl ?_
  refine ev_putI k172_23 (by decide) (rfl) ?_
  show Ev d 172 26 [some (vr 0), some (vi 0), some (vi k), none] [] (SM (up J2 0 7 k)) Q
  have hJ3 := rz_up hJ2 (k := 0) (j := 7) (z := k) (by omega) (by omega) (by omega)
  have g3 : ∀ aa, aa ≠ 0 → up J2 0 7 k aa = J2 aa := fun aa h => upf h
  have q3 : ∀ bb, bb ≠ 7 → up J2 0 7 k 0 bb = J2 0 bb := fun bb h => upN (Or.inr h)
  have e3 : up J2 0 7 k 0 7 = k := upE rfl rfl
  generalize up J2 0 7 k = J3 at hJ3 g3 q3 e3 ⊢
  refine ev_s1 (L' := [some (vr 0), some (vi 0), some (vi k), none]) (S' := [vi 0]) k172_26 rfl rfl ?_
  refine ev_ireturn k172_27 ?_
  exact hQ _ hJ3 (by rw [q3 8 (by decide)]; exact e2) e3 (fun b hb => by rw [q3 b (by omega), q2 b (by omega)]) (fun a ha => by rw [g3 a ha, g2 a ha])

set_option maxHeartbeats 1000000 in
theorem m_takes1 {d : Nat} {J : Nat → Int → Int} {Q : Option jV → jS → Prop} (hJ : RZ J) {T : Int → Int} {z : Int} (hT : TPE J T z) {k p v : Int} (h8_ : J 0 8 = -1) (h9_ : J 0 9 = p) (h12_ : J 0 12 = v) (p0 : 0 ≤ p) (p1 : p ≤ z) (hd : 3 ≤ d) (hQ : ∀ J', RZ J' → J' 0 9 = tokE T p → J' 0 10 = p → J' 0 11 = tokK T p → J' 0 12 = tokV T p → FRP8 J J' → Q (some (vi v)) (SM J')) : Cl d 172 [vr 0, vi 1, vi k] (SM J) Q := by
  have hz := hT.2.1
  refine ⟨by rw [l172]; exact Nat.le_of_ble_eq_true rfl, ?_⟩
  rw [l172]
  show Ev d 172 0 [some (vr 0), some (vi 1), some (vi k), none] [] (SM J) Q
  refine ev_s1 (L' := [some (vr 0), some (vi 1), some (vi k), none]) (S' := [vr 0]) k172_0 rfl rfl ?_
  refine ev_virt (a := []) (S' := []) k172_1 rfl (Nat.le_of_ble_eq_true rfl) (by decide) (rfl) (by omega) ?_
  refine m_isWell hJ (fun _ => ?_) (fun hw8 => absurd hw8 (by rw [h8_]; decide))
  show Ev d 172 4 [some (vr 0), some (vi 1), some (vi k), none] [vi 1] (SM J) Q
  refine ev_z_ne (t := 9) k172_4 rfl (by omega) (by omega) (fun _ => ?_) (fun h => absurd h (by decide))
  refine ev_s1 (L' := [some (vr 0), some (vi 1), some (vi k), none]) (S' := [vi 1]) k172_9 rfl rfl ?_
  refine ev_z_ne (t := 28) k172_10 rfl (by omega) (by omega) (fun _ => ?_) (fun h => absurd h (by decide))
  refine ev_s1 (L' := [some (vr 0), some (vi 1), some (vi k), none]) (S' := [vr 0]) k172_28 rfl rfl ?_
  refine ev_getI k172_29 (by decide) (rfl) ?_
  show Ev d 172 32 [some (vr 0), some (vi 1), some (vi k), none] [vi (J 0 12)] (SM J) Q
  have rr1 := hJ.1 0 12
  rw [h12_]
  rw [h12_] at rr1
  refine ev_s1 (L' := [some (vr 0), some (vi 1), some (vi k), some (vi v)]) (S' := []) k172_32 rfl rfl ?_
  refine ev_s1 (L' := [some (vr 0), some (vi 1), some (vi k), some (vi v)]) (S' := [vr 0]) k172_33 rfl rfl ?_
  refine ev_virt (a := []) (S' := []) k172_34 rfl (Nat.le_of_ble_eq_true rfl) (by decide) (rfl) (by omega) ?_
  refine m_advances hJ hT (p := p) (by rw [h9_]) (by omega) (by omega) (by omega) (fun J2 hJ2 y92 y102 y112 y122 fr2 => ?_)
  show Ev d 172 37 [some (vr 0), some (vi 1), some (vi k), some (vi v)] [] (SM J2) Q
  refine ev_s1 (L' := [some (vr 0), some (vi 1), some (vi k), some (vi v)]) (S' := [vi v]) k172_37 rfl rfl ?_
  refine ev_ireturn k172_38 ?_
  exact hQ _ hJ2 y92 y102 y112 y122 fr2

theorem m_takes {d : Nat} {J : Nat → Int → Int} {Q : Option jV → jS → Prop} (hJ : RZ J) {T : Int → Int} {z p μ k0 i k : Int} (h : PST J T z p μ k0) (hi : i = 0 ∨ i = 1) (k1 : 1 ≤ k) (k9 : k ≤ 9) (hd : 3 ≤ d) (hN : μ ≠ 0 → Q (some (vi 0)) (SM J)) (h0 : μ = 0 → i = 0 → ∀ J', RZ J' → PST J' T z p k k0 → FRP J J' → Q (some (vi 0)) (SM J')) (hY : μ = 0 → i = 1 → ∀ J', RZ J' → PST J' T z (tokE T p) 0 k0 → FRP J J' → Q (some (vi (tokV T p))) (SM J')) : Cl d 172 [vr 0, vi i, vi k] (SM J) Q := by
  obtain ⟨hT, ⟨p0, p1⟩, ⟨hm, a8, a10, a11, a12, a9, a7⟩ | ⟨hm, a8, a7⟩⟩ := h
  · have hz := hT.2.1
    rcases hi with rfl | rfl
    · refine m_takes0 hJ a8 a10 p0 (by omega) (by omega) k9 (by omega) (fun J' hJ' b8 b7 fb fa => ?_)
      have fr : FRP J J' := ⟨fun b hb => fb b (by omega), fa⟩
      exact h0 hm rfl J' hJ' ⟨hT.frp fr, ⟨p0, p1⟩, Or.inr ⟨by omega, b8, b7⟩⟩ fr
    · have te := tok_e hT p0 p1
      refine m_takes1 hJ hT a8 a9 a12 (by omega) (by omega) hd (fun J' hJ' b9 b10 b11 b12 fr8 => ?_)
      have fr : FRP J J' := ⟨fun b hb => fr8.1 b (by omega), fr8.2⟩
      exact hY hm rfl J' hJ' ⟨hT.frp fr, ⟨by omega, te.2⟩, Or.inl ⟨rfl, by rw [fr8.1 8 (by decide)]; exact a8, b10, b11, b12, b9, by rw [fr8.1 7 (by decide)]; exact a7⟩⟩ fr
  · exact m_takesN hJ a8 p0 (by omega) (hN hm)
/-- a sign is taken -/
theorem m_takeS {d : Nat} {J : Nat → Int → Int} {Q : Option jV → jS → Prop} (hJ : RZ J) {T : Int → Int} {z p μ k0 i t s : Int} (h : PST J T z p μ k0) (hts : (t = 3 ∧ s = 44) ∨ (t = 4 ∧ s = 59)) (hi : (i = 1 ∧ J 0 11 = t) ∨ (i = 0 ∧ J 0 11 ≠ t)) (hd : 3 ≤ d) (hQ : ∀ J' v, RZ J' → PST J' T z (sgP T p μ s) (sgM T p μ s) k0 → FRP J J' → Q (some (vi v)) (SM J')) : Cl d 172 [vr 0, vi i, vi 1] (SM J) Q := by
  refine m_takes hJ h (by omega) (by decide) (by decide) hd (fun hm => ?_) (fun hm h0 J' hJ' hp fr => ?_) (fun hm h1 J' hJ' hp fr => ?_)
  · refine hQ J _ hJ ?_ (FRP.refl J)
    unfold sgP sgM
    rw [if_neg (fun q => hm q.1), if_pos hm]
    exact h
  · refine hQ J' _ hJ' ?_ fr
    have a11 : J 0 11 = tokK T p := by
      rcases h.2.2 with q | q
      · exact q.2.2.2.1
      · exact absurd hm q.1
    have ns : ¬ T p = s := fun q => by have := (tok_s (p := p) hts).mpr q; omega
    unfold sgP sgM
    rw [if_neg (fun q => ns q.2), if_neg (by omega), if_neg ns]
    exact hp
  · refine hQ J' _ hJ' ?_ fr
    have a11 : J 0 11 = tokK T p := by
      rcases h.2.2 with q | q
      · exact q.2.2.2.1
      · exact absurd hm q.1
    have ns : T p = s := (tok_s (p := p) hts).mp (by omega)
    have se := sg_e (p := p) (s := s) (by omega) ns
    unfold sgP sgM
    rw [if_pos ⟨hm, ns⟩, if_neg (by omega), if_pos ns, ← se]
    exact hp

set_option maxHeartbeats 1000000 in
theorem m_figY {d : Nat} {J : Nat → Int → Int} {Q : Option jV → jS → Prop} (hJ : RZ J) {T : Int → Int} {z p k0 : Int} (h : PST J T z p 0 k0) (a8 : J 0 8 = -1) (a11 : J 0 11 = tokK T p) (a12 : J 0 12 = tokV T p) {lo hi : Int} (l0 : 0 ≤ lo) (l9 : lo ≤ 99) (u0 : 0 ≤ hi) (u9 : hi ≤ 99) (hd : 4 ≤ d) (hQ : ∀ J' v, RZ J' → PST J' T z (nuP T p 0 lo hi) (nuM T p 0 lo hi) k0 → (nuM T p 0 lo hi = 0 → v = nuV T p 0 lo) → FRP J J' → -1000 ≤ v → v ≤ 5000 → Q (some (vi v)) (SM J')) : Cl d 173 [vr 0, vi lo, vi hi] (SM J) Q := by
  have hT := h.1
  have p0 := h.2.1.1
  have tv := tok_v hT p0
  have kr := tok_k T p
  have tk := tok_n hT p0
  refine ⟨by rw [l173]; exact Nat.le_of_ble_eq_true rfl, ?_⟩
  rw [l173]
  show Ev d 173 0 [some (vr 0), some (vi lo), some (vi hi)] [] (SM J) Q
  refine ev_s1 (L' := [some (vr 0), some (vi lo), some (vi hi)]) (S' := [vr 0]) k173_0 rfl rfl ?_
  refine ev_virt (a := []) (S' := []) k173_1 rfl (Nat.le_of_ble_eq_true rfl) (by decide) (rfl) (by omega) ?_
  refine m_isWell hJ (fun _ => ?_) (fun hw8 => absurd hw8 (by rw [a8]; decide))
  show Ev d 173 4 [some (vr 0), some (vi lo), some (vi hi)] [vi 1] (SM J) Q
  refine ev_z_eq (t := 22) k173_4 rfl (by omega) (by omega) (fun h => absurd h (by decide)) (fun _ => ?_)
  refine ev_s1 (L' := [some (vr 0), some (vi lo), some (vi hi)]) (S' := [vr 0]) k173_7 rfl rfl ?_
  refine ev_getI k173_8 (by decide) (rfl) ?_
  show Ev d 173 11 [some (vr 0), some (vi lo), some (vi hi)] [vi (J 0 11)] (SM J) Q
  have rr1 := hJ.1 0 11
  rw [a11]
  rw [a11] at rr1
  refine ev_s1 (L' := [some (vr 0), some (vi lo), some (vi hi)]) (S' := [vi 2, vi (tokK T p)]) k173_11 rfl rfl ?_
  refine ev_c_eq (t := 22) k173_12 rfl (by omega) (by omega) (by omega) (by omega) (fun h2 => ?_) (fun h2 => ?_)
  · refine ev_s1 (L' := [some (vr 0), some (vi lo), some (vi hi)]) (S' := [vr 0]) k173_22 rfl rfl ?_
    refine ev_s1 (L' := [some (vr 0), some (vi lo), some (vi hi)]) (S' := [vr 0, vr 0]) k173_23 rfl rfl ?_
    refine ev_getI k173_24 (by decide) (rfl) ?_
    show Ev d 173 27 [some (vr 0), some (vi lo), some (vi hi)] [vi (J 0 12), vr 0] (SM J) Q
    have rr3 := hJ.1 0 12
    rw [a12]
    rw [a12] at rr3
    refine ev_s1 (L' := [some (vr 0), some (vi lo), some (vi hi)]) (S' := [vi lo, vi (tokV T p), vr 0]) k173_27 rfl rfl ?_
    refine ev_s1 (L' := [some (vr 0), some (vi lo), some (vi hi)]) (S' := [vi hi, vi lo, vi (tokV T p), vr 0]) k173_28 rfl rfl ?_
    refine ev_static (a := [vi (tokV T p), vi lo, vi hi]) (S' := [vr 0]) k173_29 rfl (Nat.le_of_ble_eq_true rfl) (by omega) ?_
    refine m_in (v := tokV T p) (lo := lo) (hi := hi) (by omega) (by omega) (by omega) (by omega) (by omega) (by omega) (fun h4 => ?_) (fun h4 => ?_)
    · show Ev d 173 32 [some (vr 0), some (vi lo), some (vi hi)] [vi 1, vr 0] (SM J) Q
      refine ev_s1 (L' := [some (vr 0), some (vi lo), some (vi hi)]) (S' := [vi 2, vi 1, vr 0]) k173_32 rfl rfl ?_
      refine ev_virt (a := [vi 1, vi 2]) (S' := []) k173_33 rfl (Nat.le_of_ble_eq_true rfl) (by decide) (rfl) (by omega) ?_
      refine m_takes hJ h (i := 1) (k := 2) (by decide) (by decide) (by decide) (by omega) (fun u => absurd rfl u) (fun _ u => absurd u (by decide)) (fun _ _ J5 hJ5 ps5 fr5 => ?_)
      show Ev d 173 36 [some (vr 0), some (vi lo), some (vi hi)] [vi (tokV T p)] (SM J5) Q
      refine ev_ireturn k173_36 ?_
      have l2 := tk.resolve_right (fun u => by omega)
      have l3 := l2.2.2.1
      have em : nuM T p 0 lo hi = 0 := by unfold nuM; rw [if_neg (by decide), if_neg (by omega), if_neg (by omega)]
      have ep : nuP T p 0 lo hi = tokE T p := by unfold nuP; rw [if_pos ⟨rfl, em⟩]; rw [l2.2.2.2]
      exact hQ _ _ hJ5 (by rw [ep, em]; exact ps5) (fun u => by unfold nuV; rw [if_neg (by decide)]; exact l3) fr5 (by omega) (by omega)
    · show Ev d 173 32 [some (vr 0), some (vi lo), some (vi hi)] [vi 0, vr 0] (SM J) Q
      refine ev_s1 (L' := [some (vr 0), some (vi lo), some (vi hi)]) (S' := [vi 2, vi 0, vr 0]) k173_32 rfl rfl ?_
      refine ev_virt (a := [vi 0, vi 2]) (S' := []) k173_33 rfl (Nat.le_of_ble_eq_true rfl) (by decide) (rfl) (by omega) ?_
      refine m_takes hJ h (i := 0) (k := 2) (by decide) (by decide) (by decide) (by omega) (fun u => absurd rfl u) (fun _ _ J6 hJ6 ps6 fr6 => ?_) (fun _ u => absurd u (by decide))
      show Ev d 173 36 [some (vr 0), some (vi lo), some (vi hi)] [vi 0] (SM J6) Q
      refine ev_ireturn k173_36 ?_
      have l2 := tk.resolve_right (fun u => by omega)
      have l3 := l2.2.2.1
      have em : nuM T p 0 lo hi = 2 := by unfold nuM; rw [if_neg (by decide), if_neg (by omega), if_pos (by omega)]
      have ep : nuP T p 0 lo hi = p := by unfold nuP; rw [if_neg (fun u => by rw [em] at u; exact absurd u.2 (by decide))]
      exact hQ _ _ hJ6 (by rw [ep, em]; exact ps6) (fun u => by rw [em] at u; exact absurd u (by decide)) fr6 (by omega) (by omega)
  · refine ev_s1 (L' := [some (vr 0), some (vi lo), some (vi hi)]) (S' := [vr 0]) k173_15 rfl rfl ?_
    refine ev_s1 (L' := [some (vr 0), some (vi lo), some (vi hi)]) (S' := [vi 0, vr 0]) k173_16 rfl rfl ?_
    refine ev_s1 (L' := [some (vr 0), some (vi lo), some (vi hi)]) (S' := [vi 1, vi 0, vr 0]) k173_17 rfl rfl ?_
    refine ev_virt (a := [vi 0, vi 1]) (S' := []) k173_18 rfl (Nat.le_of_ble_eq_true rfl) (by decide) (rfl) (by omega) ?_
    refine m_takes hJ h (i := 0) (k := 1) (by decide) (by decide) (by decide) (by omega) (fun u => absurd rfl u) (fun _ _ J7 hJ7 ps7 fr7 => ?_) (fun _ u => absurd u (by decide))
    show Ev d 173 21 [some (vr 0), some (vi lo), some (vi hi)] [vi 0] (SM J7) Q
    refine ev_ireturn k173_21 ?_
    have l2 := tk.resolve_left (fun u => by omega)
    have em : nuM T p 0 lo hi = 1 := by unfold nuM; rw [if_neg (by decide), if_pos l2.2]
    have ep : nuP T p 0 lo hi = p := by unfold nuP; rw [if_neg (fun u => by rw [em] at u; exact absurd u.2 (by decide))]
    exact hQ _ _ hJ7 (by rw [ep, em]; exact ps7) (fun u => by rw [em] at u; exact absurd u (by decide)) fr7 (by omega) (by omega)

set_option maxHeartbeats 1000000 in
theorem m_figN {d : Nat} {J : Nat → Int → Int} {Q : Option jV → jS → Prop} (hJ : RZ J) {p : Int} (h8_ : J 0 8 = p) (p0 : 0 ≤ p) {lo hi : Int} (l0 : 0 ≤ lo) (l9 : lo ≤ 99) (u0 : 0 ≤ hi) (u9 : hi ≤ 99) (hd : 4 ≤ d) (hQ : Q (some (vi 0)) (SM J)) : Cl d 173 [vr 0, vi lo, vi hi] (SM J) Q := by
  refine ⟨by rw [l173]; exact Nat.le_of_ble_eq_true rfl, ?_⟩
  rw [l173]
  show Ev d 173 0 [some (vr 0), some (vi lo), some (vi hi)] [] (SM J) Q
  refine ev_s1 (L' := [some (vr 0), some (vi lo), some (vi hi)]) (S' := [vr 0]) k173_0 rfl rfl ?_
  refine ev_virt (a := []) (S' := []) k173_1 rfl (Nat.le_of_ble_eq_true rfl) (by decide) (rfl) (by omega) ?_
  refine m_isWell hJ (fun hw8 => absurd hw8 (by rw [h8_]; omega)) (fun _ => ?_)
  show Ev d 173 4 [some (vr 0), some (vi lo), some (vi hi)] [vi 0] (SM J) Q
  refine ev_z_eq (t := 22) k173_4 rfl (by omega) (by omega) (fun _ => ?_) (fun h => absurd h (by decide))
  refine ev_s1 (L' := [some (vr 0), some (vi lo), some (vi hi)]) (S' := [vr 0]) k173_22 rfl rfl ?_
  refine ev_s1 (L' := [some (vr 0), some (vi lo), some (vi hi)]) (S' := [vr 0, vr 0]) k173_23 rfl rfl ?_
  refine ev_getI k173_24 (by decide) (rfl) ?_
  show Ev d 173 27 [some (vr 0), some (vi lo), some (vi hi)] [vi (J 0 12), vr 0] (SM J) Q
  have rr1 := hJ.1 0 12
  refine ev_s1 (L' := [some (vr 0), some (vi lo), some (vi hi)]) (S' := [vi lo, vi (J 0 12), vr 0]) k173_27 rfl rfl ?_
  refine ev_s1 (L' := [some (vr 0), some (vi lo), some (vi hi)]) (S' := [vi hi, vi lo, vi (J 0 12), vr 0]) k173_28 rfl rfl ?_
  refine ev_static (a := [vi (J 0 12), vi lo, vi hi]) (S' := [vr 0]) k173_29 rfl (Nat.le_of_ble_eq_true rfl) (by omega) ?_
  refine m_in (v := J 0 12) (lo := lo) (hi := hi) (by omega) (by omega) (by omega) (by omega) (by omega) (by omega) (fun h2 => ?_) (fun h2 => ?_)
  · show Ev d 173 32 [some (vr 0), some (vi lo), some (vi hi)] [vi 1, vr 0] (SM J) Q
    refine ev_s1 (L' := [some (vr 0), some (vi lo), some (vi hi)]) (S' := [vi 2, vi 1, vr 0]) k173_32 rfl rfl ?_
    refine ev_virt (a := [vi 1, vi 2]) (S' := []) k173_33 rfl (Nat.le_of_ble_eq_true rfl) (by decide) (rfl) (by omega) ?_
    refine m_takesN hJ (p := p) h8_ p0 (by omega) (?_)
    show Ev d 173 36 [some (vr 0), some (vi lo), some (vi hi)] [vi 0] (SM J) Q
    refine ev_ireturn k173_36 ?_
    exact hQ
  · show Ev d 173 32 [some (vr 0), some (vi lo), some (vi hi)] [vi 0, vr 0] (SM J) Q
    refine ev_s1 (L' := [some (vr 0), some (vi lo), some (vi hi)]) (S' := [vi 2, vi 0, vr 0]) k173_32 rfl rfl ?_
    refine ev_virt (a := [vi 0, vi 2]) (S' := []) k173_33 rfl (Nat.le_of_ble_eq_true rfl) (by decide) (rfl) (by omega) ?_
    refine m_takesN hJ (p := p) h8_ p0 (by omega) (?_)
    show Ev d 173 36 [some (vr 0), some (vi lo), some (vi hi)] [vi 0] (SM J) Q
    refine ev_ireturn k173_36 ?_
    exact hQ

theorem m_figure {d : Nat} {J : Nat → Int → Int} {Q : Option jV → jS → Prop} (hJ : RZ J) {T : Int → Int} {z p μ k0 : Int} (h : PST J T z p μ k0) {lo hi : Int} (l0 : 0 ≤ lo) (l9 : lo ≤ 99) (u0 : 0 ≤ hi) (u9 : hi ≤ 99) (hd : 4 ≤ d) (hQ : ∀ J' v, RZ J' → PST J' T z (nuP T p μ lo hi) (nuM T p μ lo hi) k0 → (nuM T p μ lo hi = 0 → v = nuV T p μ lo) → FRP J J' → -1000 ≤ v → v ≤ 5000 → Q (some (vi v)) (SM J')) : Cl d 173 [vr 0, vi lo, vi hi] (SM J) Q := by
  rcases id h.2.2 with ⟨hm, a8, a10, a11, a12, a9, a7⟩ | ⟨hm, a8, a7⟩
  · subst hm
    exact m_figY hJ h a8 a11 a12 l0 l9 u0 u9 hd hQ
  · refine m_figN hJ a8 h.2.1.1 l0 l9 u0 u9 hd (hQ J 0 hJ ?_ (fun q => ?_) (FRP.refl J) (by decide) (by decide))
    · unfold nuP nuM
      rw [if_neg (fun q => hm q.1), if_pos hm]
      exact h
    · unfold nuM at q
      rw [if_pos hm] at q
      exact absurd q hm

set_option maxHeartbeats 1000000 in
theorem m_follows {d : Nat} {J : Nat → Int → Int} {Q : Option jV → jS → Prop} (hJ : RZ J) {T : Int → Int} {z p μ k0 : Int} (h : PST J T z p μ k0) {lo hi : Int} (l0 : 0 ≤ lo) (l9 : lo ≤ 99) (u0 : 0 ≤ hi) (u9 : hi ≤ 99) (hd : 5 ≤ d) (hQ : ∀ J' v, RZ J' → PST J' T z (nuP T (sgP T p μ 44) (sgM T p μ 44) lo hi) (nuM T (sgP T p μ 44) (sgM T p μ 44) lo hi) k0 → (nuM T (sgP T p μ 44) (sgM T p μ 44) lo hi = 0 → v = nuV T (sgP T p μ 44) (sgM T p μ 44) lo) → FRP J J' → -1000 ≤ v → v ≤ 5000 → Q (some (vi v)) (SM J')) : Cl d 175 [vr 0, vi lo, vi hi] (SM J) Q := by
  refine ⟨by rw [l175]; exact Nat.le_of_ble_eq_true rfl, ?_⟩
  rw [l175]
  show Ev d 175 0 [some (vr 0), some (vi lo), some (vi hi)] [] (SM J) Q
  refine ev_s1 (L' := [some (vr 0), some (vi lo), some (vi hi)]) (S' := [vr 0]) k175_0 rfl rfl ?_
  refine ev_s1 (L' := [some (vr 0), some (vi lo), some (vi hi)]) (S' := [vr 0, vr 0]) k175_1 rfl rfl ?_
  refine ev_getI k175_2 (by decide) (rfl) ?_
  show Ev d 175 5 [some (vr 0), some (vi lo), some (vi hi)] [vi (J 0 11), vr 0] (SM J) Q
  have rr1 := hJ.1 0 11
  refine ev_s1 (L' := [some (vr 0), some (vi lo), some (vi hi)]) (S' := [vi 3, vi (J 0 11), vr 0]) k175_5 rfl rfl ?_
  refine ev_c_ne (t := 13) k175_6 rfl (by omega) (by omega) (by omega) (by omega) (fun h2 => ?_) (fun h2 => ?_)
  · refine ev_s1 (L' := [some (vr 0), some (vi lo), some (vi hi)]) (S' := [vi 0, vr 0]) k175_13 rfl rfl ?_
    refine ev_s1 (L' := [some (vr 0), some (vi lo), some (vi hi)]) (S' := [vi 1, vi 0, vr 0]) k175_14 rfl rfl ?_
    refine ev_virt (a := [vi 0, vi 1]) (S' := []) k175_15 rfl (Nat.le_of_ble_eq_true rfl) (by decide) (rfl) (by omega) ?_
    refine m_takeS hJ h (i := 0) (t := 3) (s := 44) (by decide) (by omega) (by omega) (fun J3 v3 hJ3 ps3 fr3 => ?_)
    show Ev d 175 18 [some (vr 0), some (vi lo), some (vi hi)] [vi v3] (SM J3) Q
    refine ev_s1 (L' := [some (vr 0), some (vi lo), some (vi hi)]) (S' := []) k175_18 rfl rfl ?_
    refine ev_s1 (L' := [some (vr 0), some (vi lo), some (vi hi)]) (S' := [vr 0]) k175_19 rfl rfl ?_
    refine ev_s1 (L' := [some (vr 0), some (vi lo), some (vi hi)]) (S' := [vi lo, vr 0]) k175_20 rfl rfl ?_
    refine ev_s1 (L' := [some (vr 0), some (vi lo), some (vi hi)]) (S' := [vi hi, vi lo, vr 0]) k175_21 rfl rfl ?_
    refine ev_virt (a := [vi lo, vi hi]) (S' := []) k175_22 rfl (Nat.le_of_ble_eq_true rfl) (by decide) (rfl) (by omega) ?_
    refine m_figure hJ3 ps3 (by omega) (by omega) (by omega) (by omega) (by omega) (fun J4 v4 hJ4 ps4 vn4 fr4 vl4 vu4 => ?_)
    show Ev d 175 25 [some (vr 0), some (vi lo), some (vi hi)] [vi v4] (SM J4) Q
    refine ev_ireturn k175_25 ?_
    exact hQ _ _ hJ4 ps4 vn4 (fr3.trans fr4) vl4 vu4
  · refine ev_s1 (L' := [some (vr 0), some (vi lo), some (vi hi)]) (S' := [vi 1, vr 0]) k175_9 rfl rfl ?_
    refine ev_goto (t := 14) k175_10 rfl ?_
    refine ev_s1 (L' := [some (vr 0), some (vi lo), some (vi hi)]) (S' := [vi 1, vi 1, vr 0]) k175_14 rfl rfl ?_
    refine ev_virt (a := [vi 1, vi 1]) (S' := []) k175_15 rfl (Nat.le_of_ble_eq_true rfl) (by decide) (rfl) (by omega) ?_
    refine m_takeS hJ h (i := 1) (t := 3) (s := 44) (by decide) (by omega) (by omega) (fun J5 v5 hJ5 ps5 fr5 => ?_)
    show Ev d 175 18 [some (vr 0), some (vi lo), some (vi hi)] [vi v5] (SM J5) Q
    refine ev_s1 (L' := [some (vr 0), some (vi lo), some (vi hi)]) (S' := []) k175_18 rfl rfl ?_
    refine ev_s1 (L' := [some (vr 0), some (vi lo), some (vi hi)]) (S' := [vr 0]) k175_19 rfl rfl ?_
    refine ev_s1 (L' := [some (vr 0), some (vi lo), some (vi hi)]) (S' := [vi lo, vr 0]) k175_20 rfl rfl ?_
    refine ev_s1 (L' := [some (vr 0), some (vi lo), some (vi hi)]) (S' := [vi hi, vi lo, vr 0]) k175_21 rfl rfl ?_
    refine ev_virt (a := [vi lo, vi hi]) (S' := []) k175_22 rfl (Nat.le_of_ble_eq_true rfl) (by decide) (rfl) (by omega) ?_
    refine m_figure hJ5 ps5 (by omega) (by omega) (by omega) (by omega) (by omega) (fun J6 v6 hJ6 ps6 vn6 fr6 vl6 vu6 => ?_)
    show Ev d 175 25 [some (vr 0), some (vi lo), some (vi hi)] [vi v6] (SM J6) Q
    refine ev_ireturn k175_25 ?_
    exact hQ _ _ hJ6 ps6 vn6 (fr5.trans fr6) vl6 vu6

set_option maxHeartbeats 1000000 in
theorem m_mustY {d : Nat} {J : Nat → Int → Int} {Q : Option jV → jS → Prop} (hJ : RZ J) {T : Int → Int} {z p k0 : Int} (h : PST J T z p 0 k0) (a8 : J 0 8 = -1) (hd : 4 ≤ d) (hQ : ∀ J', RZ J' → PST J' T z p 1 k0 → FRP J J' → Q none (SM J')) : Cl d 178 [vr 0, vi 0] (SM J) Q := by
  refine ⟨by rw [l178]; exact Nat.le_of_ble_eq_true rfl, ?_⟩
  rw [l178]
  show Ev d 178 0 [some (vr 0), some (vi 0)] [] (SM J) Q
  refine ev_s1 (L' := [some (vr 0), some (vi 0)]) (S' := [vr 0]) k178_0 rfl rfl ?_
  refine ev_virt (a := []) (S' := []) k178_1 rfl (Nat.le_of_ble_eq_true rfl) (by decide) (rfl) (by omega) ?_
  refine m_isWell hJ (fun _ => ?_) (fun hw8 => absurd hw8 (by rw [a8]; decide))
  show Ev d 178 4 [some (vr 0), some (vi 0)] [vi 1] (SM J) Q
  refine ev_z_eq (t := 18) k178_4 rfl (by omega) (by omega) (fun h => absurd h (by decide)) (fun _ => ?_)
  refine ev_s1 (L' := [some (vr 0), some (vi 0)]) (S' := [vi 0]) k178_7 rfl rfl ?_
  refine ev_z_ne (t := 18) k178_8 rfl (by omega) (by omega) (fun h => absurd h (by decide)) (fun _ => ?_)
  refine ev_s1 (L' := [some (vr 0), some (vi 0)]) (S' := [vr 0]) k178_11 rfl rfl ?_
  refine ev_s1 (L' := [some (vr 0), some (vi 0)]) (S' := [vi 0, vr 0]) k178_12 rfl rfl ?_
  refine ev_s1 (L' := [some (vr 0), some (vi 0)]) (S' := [vi 1, vi 0, vr 0]) k178_13 rfl rfl ?_
  refine ev_virt (a := [vi 0, vi 1]) (S' := []) k178_14 rfl (Nat.le_of_ble_eq_true rfl) (by decide) (rfl) (by omega) ?_
  refine m_takes hJ h (i := 0) (k := 1) (by decide) (by decide) (by decide) (by omega) (fun u => absurd rfl u) (fun _ _ J1 hJ1 ps1 fr1 => ?_) (fun _ u => absurd u (by decide))
  show Ev d 178 17 [some (vr 0), some (vi 0)] [vi 0] (SM J1) Q
  refine ev_s1 (L' := [some (vr 0), some (vi 0)]) (S' := []) k178_17 rfl rfl ?_
  refine ev_return k178_18 ?_
  exact hQ _ hJ1 ps1 fr1

set_option maxHeartbeats 1000000 in
theorem m_must1 {d : Nat} {J : Nat → Int → Int} {Q : Option jV → jS → Prop} (hJ : RZ J) (hd : 4 ≤ d) (hQ : Q none (SM J)) : Cl d 178 [vr 0, vi 1] (SM J) Q := by
  refine ⟨by rw [l178]; exact Nat.le_of_ble_eq_true rfl, ?_⟩
  rw [l178]
  show Ev d 178 0 [some (vr 0), some (vi 1)] [] (SM J) Q
  refine ev_s1 (L' := [some (vr 0), some (vi 1)]) (S' := [vr 0]) k178_0 rfl rfl ?_
  refine ev_virt (a := []) (S' := []) k178_1 rfl (Nat.le_of_ble_eq_true rfl) (by decide) (rfl) (by omega) ?_
  refine m_isWell hJ (fun h1 => ?_) (fun h1 => ?_)
  · show Ev d 178 4 [some (vr 0), some (vi 1)] [vi 1] (SM J) Q
    refine ev_z_eq (t := 18) k178_4 rfl (by omega) (by omega) (fun h => absurd h (by decide)) (fun _ => ?_)
    refine ev_s1 (L' := [some (vr 0), some (vi 1)]) (S' := [vi 1]) k178_7 rfl rfl ?_
    refine ev_z_ne (t := 18) k178_8 rfl (by omega) (by omega) (fun _ => ?_) (fun h => absurd h (by decide))
    refine ev_return k178_18 ?_
    exact hQ
  · show Ev d 178 4 [some (vr 0), some (vi 1)] [vi 0] (SM J) Q
    refine ev_z_eq (t := 18) k178_4 rfl (by omega) (by omega) (fun _ => ?_) (fun h => absurd h (by decide))
    refine ev_return k178_18 ?_
    exact hQ

set_option maxHeartbeats 1000000 in
theorem m_mustN {d : Nat} {J : Nat → Int → Int} {Q : Option jV → jS → Prop} (hJ : RZ J) {p i : Int} (h8_ : J 0 8 = p) (p0 : 0 ≤ p) (hd : 4 ≤ d) (hQ : Q none (SM J)) : Cl d 178 [vr 0, vi i] (SM J) Q := by
  refine ⟨by rw [l178]; exact Nat.le_of_ble_eq_true rfl, ?_⟩
  rw [l178]
  show Ev d 178 0 [some (vr 0), some (vi i)] [] (SM J) Q
  refine ev_s1 (L' := [some (vr 0), some (vi i)]) (S' := [vr 0]) k178_0 rfl rfl ?_
  refine ev_virt (a := []) (S' := []) k178_1 rfl (Nat.le_of_ble_eq_true rfl) (by decide) (rfl) (by omega) ?_
  refine m_isWell hJ (fun hw8 => absurd hw8 (by rw [h8_]; omega)) (fun _ => ?_)
  show Ev d 178 4 [some (vr 0), some (vi i)] [vi 0] (SM J) Q
  refine ev_z_eq (t := 18) k178_4 rfl (by omega) (by omega) (fun _ => ?_) (fun h => absurd h (by decide))
  refine ev_return k178_18 ?_
  exact hQ

theorem m_must {d : Nat} {J : Nat → Int → Int} {Q : Option jV → jS → Prop} (hJ : RZ J) {T : Int → Int} {z p μ k0 i : Int} (h : PST J T z p μ k0) (hi : i = 0 ∨ i = 1) (hd : 4 ≤ d) (hQ : ∀ J', RZ J' → PST J' T z p (if μ = 0 ∧ i = 0 then 1 else μ) k0 → FRP J J' → Q none (SM J')) : Cl d 178 [vr 0, vi i] (SM J) Q := by
  by_cases hm : μ = 0
  · rcases hi with rfl | rfl
    · rw [if_pos ⟨hm, rfl⟩] at hQ
      subst hm
      have a8 : J 0 8 = -1 := by
        rcases h.2.2 with q | q
        · exact q.2.1
        · exact absurd rfl q.1
      exact m_mustY hJ h a8 hd hQ
    · rw [if_neg (fun q => absurd q.2 (by decide))] at hQ
      exact m_must1 hJ hd (hQ J hJ h (FRP.refl J))
  · rw [if_neg (fun q => hm q.1)] at hQ
    have a8 : J 0 8 = p := by
      rcases h.2.2 with q | q
      · exact absurd q.1 hm
      · exact q.2.1
    exact m_mustN hJ a8 h.2.1.1 hd (hQ J hJ h (FRP.refl J))

set_option maxHeartbeats 1000000 in
theorem m_kindOf {d : Nat} {J : Nat → Int → Int} {Q : Option jV → jS → Prop} {b : Int} (b0 : -2147483648 ≤ b) (b1 : b < 2147483648) (hQ : Q (some (vi (kindF b))) (SM J)) : Cl d 174 [vi b] (SM J) Q := by
  refine ⟨by rw [l174]; exact Nat.le_of_ble_eq_true rfl, ?_⟩
  rw [l174]
  show Ev d 174 0 [some (vi b)] [] (SM J) Q
  refine ev_s1 (L' := [some (vi b)]) (S' := [vi b]) k174_0 rfl rfl ?_
  refine ev_s1 (L' := [some (vi b)]) (S' := [vi 112, vi b]) k174_1 rfl rfl ?_
  refine ev_c_ne (t := 10) k174_3 rfl (by omega) (by omega) (by omega) (by omega) (fun h1 => ?_) (fun h1 => ?_)
  · refine ev_s1 (L' := [some (vi b)]) (S' := [vi b]) k174_10 rfl rfl ?_
    refine ev_s1 (L' := [some (vi b)]) (S' := [vi 114, vi b]) k174_11 rfl rfl ?_
    refine ev_c_ne (t := 20) k174_13 rfl (by omega) (by omega) (by omega) (by omega) (fun h2 => ?_) (fun h2 => ?_)
    · refine ev_s1 (L' := [some (vi b)]) (S' := [vi b]) k174_20 rfl rfl ?_
      refine ev_s1 (L' := [some (vi b)]) (S' := [vi 98, vi b]) k174_21 rfl rfl ?_
      refine ev_c_ne (t := 30) k174_23 rfl (by omega) (by omega) (by omega) (by omega) (fun h3 => ?_) (fun h3 => ?_)
      · refine ev_s1 (L' := [some (vi b)]) (S' := [vi b]) k174_30 rfl rfl ?_
        refine ev_s1 (L' := [some (vi b)]) (S' := [vi 116, vi b]) k174_31 rfl rfl ?_
        refine ev_c_ne (t := 40) k174_33 rfl (by omega) (by omega) (by omega) (by omega) (fun h4 => ?_) (fun h4 => ?_)
        · refine ev_s1 (L' := [some (vi b)]) (S' := [vi b]) k174_40 rfl rfl ?_
          refine ev_s1 (L' := [some (vi b)]) (S' := [vi 100, vi b]) k174_41 rfl rfl ?_
          refine ev_c_ne (t := 50) k174_43 rfl (by omega) (by omega) (by omega) (by omega) (fun h5 => ?_) (fun h5 => ?_)
          · refine ev_s1 (L' := [some (vi b)]) (S' := [vi 0]) k174_50 rfl rfl ?_
            refine ev_ireturn k174_51 ?_
            have ek : kindF b = 0 := by unfold kindF; rw [if_neg (by omega), if_neg (by omega), if_neg (by omega), if_neg (by omega), if_neg (by omega)]
            rw [ek] at hQ
            exact hQ
          · refine ev_s1 (L' := [some (vi b)]) (S' := [vi 5]) k174_46 rfl rfl ?_
            refine ev_goto (t := 51) k174_47 rfl ?_
            refine ev_ireturn k174_51 ?_
            have ek : kindF b = 5 := by unfold kindF; rw [if_neg (by omega), if_neg (by omega), if_neg (by omega), if_neg (by omega), if_pos (by omega)]
            rw [ek] at hQ
            exact hQ
        · refine ev_s1 (L' := [some (vi b)]) (S' := [vi 4]) k174_36 rfl rfl ?_
          refine ev_goto (t := 51) k174_37 rfl ?_
          refine ev_ireturn k174_51 ?_
          have ek : kindF b = 4 := by unfold kindF; rw [if_neg (by omega), if_neg (by omega), if_neg (by omega), if_pos (by omega)]
          rw [ek] at hQ
          exact hQ
      · refine ev_s1 (L' := [some (vi b)]) (S' := [vi 3]) k174_26 rfl rfl ?_
        refine ev_goto (t := 51) k174_27 rfl ?_
        refine ev_ireturn k174_51 ?_
        have ek : kindF b = 3 := by unfold kindF; rw [if_neg (by omega), if_neg (by omega), if_pos (by omega)]
        rw [ek] at hQ
        exact hQ
    · refine ev_s1 (L' := [some (vi b)]) (S' := [vi 2]) k174_16 rfl rfl ?_
      refine ev_goto (t := 51) k174_17 rfl ?_
      refine ev_ireturn k174_51 ?_
      have ek : kindF b = 2 := by unfold kindF; rw [if_neg (by omega), if_pos (by omega)]
      rw [ek] at hQ
      exact hQ
  · refine ev_s1 (L' := [some (vi b)]) (S' := [vi 1]) k174_6 rfl rfl ?_
    refine ev_goto (t := 51) k174_7 rfl ?_
    refine ev_ireturn k174_51 ?_
    have ek : kindF b = 1 := by unfold kindF; rw [if_pos (by omega)]
    rw [ek] at hQ
    exact hQ

theorem kind_rg2 (b : Int) : 0 ≤ kindF b ∧ kindF b ≤ 5 := by
  unfold kindF
  repeat' split
  all_goals omega
theorem kind_l {b : Int} (h : kindF b ≠ 0) : 97 ≤ b ∧ b ≤ 122 := by
  unfold kindF at h
  repeat' split at h
  all_goals omega
