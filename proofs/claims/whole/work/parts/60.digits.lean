/-! digits -/
theorem pw_pos {G : Int} (hG : 1 ≤ G) : ∀ n, 1 ≤ pwW G n := by
  intro n
  induction n with
  | zero => exact Int.le_refl _
  | succ n ih =>
    rw [pwW]
    have := Int.mul_le_mul ih hG (by omega) (by omega)
    omega
theorem rest_lt {G t : Int} (hG : 1 ≤ G) (ht : 0 ≤ t) : ∀ n, restW G t n = t / pwW G n := by
  intro n
  induction n with
  | zero => rw [restW, pwW, Int.ediv_one]
  | succ n ih =>
    rw [restW, pwW, ih, Int.ediv_ediv_of_nonneg (by have := pw_pos hG n; omega)]
theorem rest_zero {G t : Int} (hG : 1 ≤ G) (ht : 0 ≤ t) (n : Nat) : restW G t n = 0 ↔ t < pwW G n := by
  have hp := pw_pos hG n
  rw [rest_lt hG ht]
  constructor
  · intro h
    have := Int.lt_mul_of_ediv_lt (a := t) (b := 1) (c := pwW G n) (by omega) (by omega)
    omega
  · intro h
    exact Int.ediv_eq_zero_of_lt ht h
theorem g_step {G r : Int} (h1 : 1 ≤ G) (h5 : G ≤ 5) : (r % G = G - 1 → (r + 1) / G = r / G + 1 ∧ (r + 1) % G = 0) ∧ (r % G + 1 < G → (r + 1) / G = r / G ∧ (r + 1) % G = r % G + 1) := by
  rcases (show G = 1 ∨ G = 2 ∨ G = 3 ∨ G = 4 ∨ G = 5 by omega) with rfl | rfl | rfl | rfl | rfl <;> omega
theorem rest_carry {G t : Int} (h1 : 1 ≤ G) (h5 : G ≤ 5) : ∀ p : Nat, (∀ i : Nat, i < p → restW G t i % G = G - 1) → restW G (t + 1) p = restW G t p + 1 ∧ ∀ i : Nat, i < p → restW G (t + 1) i % G = 0 := by
  intro p
  induction p with
  | zero => intro _; exact ⟨rfl, fun i hi => absurd hi (Nat.not_lt_zero i)⟩
  | succ p ih =>
    intro h
    obtain ⟨i1, i2⟩ := ih (fun i hi => h i (by omega))
    have st := (g_step (r := restW G t p) h1 h5).1 (h p (by omega))
    refine ⟨?_, fun i hi => ?_⟩
    · rw [restW, restW, i1]; exact st.1
    · rcases Nat.lt_or_ge i p with q | q
      · exact i2 i q
      · rw [show i = p by omega, i1]; exact st.2
theorem rest_stop {G t : Int} (h1 : 1 ≤ G) (h5 : G ≤ 5) {p : Nat} (h : ∀ i : Nat, i < p → restW G t i % G = G - 1) (hs : restW G t p % G + 1 < G) : restW G (t + 1) p % G = restW G t p % G + 1 ∧ ∀ k : Nat, p < k → restW G (t + 1) k = restW G t k := by
  obtain ⟨i1, i2⟩ := rest_carry h1 h5 p h
  have st := (g_step (r := restW G t p) h1 h5).2 hs
  refine ⟨by rw [i1]; exact st.2, fun k hk => ?_⟩
  induction k with
  | zero => omega
  | succ k ih =>
    rw [restW, restW]
    rcases Nat.lt_or_ge p k with q | q
    · rw [ih q]
    · rw [show k = p by omega, i1]; exact st.1

set_option maxHeartbeats 1000000 in
theorem m_cntl {d : Nat} {K : Nat → Int → Int} {Q : Option jV → jS → Prop} {G t : Int} {m : Nat} (G1 : 1 ≤ G) (G5 : G ≤ 5) (t0 : 0 ≤ t) (m5 : m ≤ 5) (hz : restW G t m = 0) (hT : restW G (t + 1) m = 0 → ∀ J', RZ J' → (∀ j : Nat, j < m → J' 12 j = dgW G m (t + 1) j) → (∀ a, a ≠ 12 → J' a = K a) → Q (some (vi 1)) (SM J')) (hF : restW G (t + 1) m ≠ 0 → ∀ J', RZ J' → (∀ a, a ≠ 12 → J' a = K a) → Q (some (vi 0)) (SM J')) : ∀ (n : Nat) (J : Nat → Int → Int) (p : Nat) (x : Int), RZ J → m - p < n → p ≤ m → x = (m : Int) - 1 - p → (∀ i : Nat, i < p → restW G t i % G = G - 1) → (∀ j : Nat, j < m → J 12 j = if x < (j : Int) then 0 else dgW G m t j) → (∀ a, a ≠ 12 → J a = K a) → Ev d 201 4 [some (vr 0), some (vi (m : Int)), some (vi G), some (vi x)] [] (SM J) Q := by
  intro n
  induction n with
  | zero =>
    intro J p x hJ hi hi2 hx hc hl hF0
    exfalso; omega
  | succ n ih =>
    intro J p x hJ hi hi2 hx hc hl hF0
    have hv0 : 0 ≤ x → J 12 x = restW G t p % G := by
      intro x0
      have := hl (m - 1 - p) (by omega)
      rw [if_neg (by omega)] at this
      unfold dgW at this
      rw [show m - 1 - (m - 1 - p) = p by omega, show ((m - 1 - p : Nat) : Int) = x by omega] at this
      exact this
    have m0 := Int.emod_nonneg (restW G t p) (show G ≠ 0 by omega)
    have m1 := Int.emod_lt_of_pos (restW G t p) (show 0 < G by omega)
    refine ev_s1 (L' := [some (vr 0), some (vi (m : Int)), some (vi G), some (vi x)]) (S' := [vi x]) k201_4 rfl rfl ?_
    refine ev_z_lt (t := 43) k201_5 rfl (by omega) (by omega) (fun h1 => ?_) (fun h1 => ?_)
    · refine ev_s1 (L' := [some (vr 0), some (vi (m : Int)), some (vi G), some (vi x)]) (S' := [vi 0]) k201_43 rfl rfl ?_
      refine ev_zreturn k201_44 (by decide) ?_
      have ep : p = m := by omega
      subst ep
      have rc := (rest_carry G1 G5 p hc).1
      exact hF (by omega) _ hJ hF0
    · have hv := hv0 (by omega)
      refine ev_s1 (L' := [some (vr 0), some (vi (m : Int)), some (vi G), some (vi x)]) (S' := [vr 0]) k201_8 rfl rfl ?_
      refine ev_getR k201_9 (by decide) (rfl) (y_0_20) ?_
      refine ev_s1 (L' := [some (vr 0), some (vi (m : Int)), some (vi G), some (vi x)]) (S' := [vi x, vr 12]) k201_12 rfl rfl ?_
      refine ev_s1 (L' := [some (vr 0), some (vi (m : Int)), some (vi G), some (vi x)]) (S' := [vi x, vr 12, vi x, vr 12]) k201_13 rfl rfl ?_
      refine ev_iald k201_14 (by decide) (rfl) (by omega) (by omega) ?_
      have rr2 := hJ.1 12 x
      rw [hv]
      rw [hv] at rr2
      refine ev_s1 (L' := [some (vr 0), some (vi (m : Int)), some (vi G), some (vi x)]) (S' := [vi 1, vi (restW G t p % G), vi x, vr 12]) k201_15 rfl rfl ?_
      refine ev_s1 (L' := [some (vr 0), some (vi (m : Int)), some (vi G), some (vi x)]) (S' := [vi ((restW G t p % G) + 1), vi x, vr 12]) k201_16 rfl rfl ?_
      refine ev_iast k201_17 (by decide) (rfl) (by omega) (by omega) ?_
      show Ev d 201 18 [some (vr 0), some (vi (m : Int)), some (vi G), some (vi x)] [] (SM (up J 12 x ((restW G t p % G) + 1))) Q
      have hJ3 := rz_up hJ (k := 12) (j := x) (z := (restW G t p % G) + 1) (by omega) (by omega) (by omega)
      have g3 : ∀ aa, aa ≠ 12 → up J 12 x ((restW G t p % G) + 1) aa = J aa := fun aa h => upf h
      have q3 : ∀ bb, bb ≠ x → up J 12 x ((restW G t p % G) + 1) 12 bb = J 12 bb := fun bb h => upN (Or.inr h)
      have e3 : up J 12 x ((restW G t p % G) + 1) 12 x = (restW G t p % G) + 1 := upE rfl rfl
      generalize up J 12 x ((restW G t p % G) + 1) = J3 at hJ3 g3 q3 e3 ⊢
      refine ev_s1 (L' := [some (vr 0), some (vi (m : Int)), some (vi G), some (vi x)]) (S' := [vr 0]) k201_18 rfl rfl ?_
      refine ev_getR k201_19 (by decide) (rfl) (y_0_20) ?_
      refine ev_s1 (L' := [some (vr 0), some (vi (m : Int)), some (vi G), some (vi x)]) (S' := [vi x, vr 12]) k201_22 rfl rfl ?_
      refine ev_iald k201_23 (by decide) (rfl) (by omega) (by omega) ?_
      have rr4 := hJ3.1 12 x
      rw [e3]
      rw [e3] at rr4
      refine ev_s1 (L' := [some (vr 0), some (vi (m : Int)), some (vi G), some (vi x)]) (S' := [vi G, vi ((restW G t p % G) + 1)]) k201_24 rfl rfl ?_
      refine ev_c_ge (t := 30) k201_25 rfl (by omega) (by omega) (by omega) (by omega) (fun h5 => ?_) (fun h5 => ?_)
      · refine ev_s1 (L' := [some (vr 0), some (vi (m : Int)), some (vi G), some (vi x)]) (S' := [vr 0]) k201_30 rfl rfl ?_
        refine ev_getR k201_31 (by decide) (rfl) (y_0_20) ?_
        refine ev_s1 (L' := [some (vr 0), some (vi (m : Int)), some (vi G), some (vi x)]) (S' := [vi x, vr 12]) k201_34 rfl rfl ?_
        refine ev_s1 (L' := [some (vr 0), some (vi (m : Int)), some (vi G), some (vi x)]) (S' := [vi 0, vi x, vr 12]) k201_35 rfl rfl ?_
        refine ev_iast k201_36 (by decide) (rfl) (by omega) (by omega) ?_
        show Ev d 201 37 [some (vr 0), some (vi (m : Int)), some (vi G), some (vi x)] [] (SM (up J3 12 x 0)) Q
        have hJ6 := rz_up hJ3 (k := 12) (j := x) (z := 0) (by omega) (by omega) (by omega)
        have g6 : ∀ aa, aa ≠ 12 → up J3 12 x 0 aa = J3 aa := fun aa h => upf h
        have q6 : ∀ bb, bb ≠ x → up J3 12 x 0 12 bb = J3 12 bb := fun bb h => upN (Or.inr h)
        have e6 : up J3 12 x 0 12 x = 0 := upE rfl rfl
        generalize up J3 12 x 0 = J6 at hJ6 g6 q6 e6 ⊢
        refine ev_s1 (L' := [some (vr 0), some (vi (m : Int)), some (vi G), some (vi (x + (-1)))]) (S' := []) k201_37 rfl rfl ?_
        refine ev_goto (t := 4) k201_40 rfl ?_
        refine ih J6 (p + 1) (x + (-1)) hJ6 (by omega) (by omega) (by omega) (fun i hi => ?_) (fun j hj => ?_) (fun a ha => (g6 a ha).trans ((g3 a ha).trans (hF0 a ha)))
        · rcases Nat.lt_or_ge i p with q | q
          · exact hc i q
          · rw [show i = p by omega]; omega
        · by_cases q : (j : Int) = x
          · rw [q, e6, if_pos (by omega)]
          · rw [q6 _ q, q3 _ q, hl j hj]
            by_cases q2 : x < (j : Int)
            · rw [if_pos q2, if_pos (by omega)]
            · rw [if_neg q2, if_neg (by omega)]
      · refine ev_s1 (L' := [some (vr 0), some (vi (m : Int)), some (vi G), some (vi x)]) (S' := [vi 1]) k201_28 rfl rfl ?_
        refine ev_zreturn k201_29 (by decide) ?_
        obtain ⟨rs1, rs2⟩ := rest_stop G1 G5 hc (by omega)
        have rc := rest_carry G1 G5 p hc
        refine hT (by rw [rs2 m (by omega)]; exact hz) _ hJ3 (fun j hj => ?_) (fun a ha => (g3 a ha).trans (hF0 a ha))
        by_cases q : (j : Int) = x
        · rw [q, e3]
          unfold dgW
          rw [show m - 1 - j = p by omega, rs1]
        · rw [q3 _ q, hl j hj]
          unfold dgW
          by_cases q2 : x < (j : Int)
          · rw [if_pos q2, rc.2 _ (by omega)]
          · rw [if_neg q2, rs2 _ (by omega)]

set_option maxHeartbeats 1000000 in
theorem m_counts {d : Nat} {J : Nat → Int → Int} {Q : Option jV → jS → Prop} (hJ : RZ J) {G t : Int} {m : Nat} (G1 : 1 ≤ G) (G5 : G ≤ 5) (t0 : 0 ≤ t) (m5 : m ≤ 5) (hz : restW G t m = 0) (hl : ∀ j : Nat, j < m → J 12 j = dgW G m t j) (hT : restW G (t + 1) m = 0 → ∀ J', RZ J' → (∀ j : Nat, j < m → J' 12 j = dgW G m (t + 1) j) → (∀ a, a ≠ 12 → J' a = J a) → Q (some (vi 1)) (SM J')) (hF : restW G (t + 1) m ≠ 0 → ∀ J', RZ J' → (∀ a, a ≠ 12 → J' a = J a) → Q (some (vi 0)) (SM J')) : Cl d 201 [vr 0, vi (m : Int), vi G] (SM J) Q := by
  refine ⟨by rw [l201]; exact Nat.le_of_ble_eq_true rfl, ?_⟩
  rw [l201]
  show Ev d 201 0 [some (vr 0), some (vi (m : Int)), some (vi G), none] [] (SM J) Q
  refine ev_s1 (L' := [some (vr 0), some (vi (m : Int)), some (vi G), none]) (S' := [vi (m : Int)]) k201_0 rfl rfl ?_
  refine ev_s1 (L' := [some (vr 0), some (vi (m : Int)), some (vi G), none]) (S' := [vi 1, vi (m : Int)]) k201_1 rfl rfl ?_
  refine ev_s1 (L' := [some (vr 0), some (vi (m : Int)), some (vi G), none]) (S' := [vi ((m : Int) - 1)]) k201_2 rfl rfl ?_
  refine ev_s1 (L' := [some (vr 0), some (vi (m : Int)), some (vi G), some (vi ((m : Int) - 1))]) (S' := []) k201_3 rfl rfl ?_
  exact m_cntl G1 G5 t0 m5 hz hT hF (m + 1) J 0 _ hJ (by omega) (by omega) (by omega) (fun i hi => absurd hi (Nat.not_lt_zero i)) (fun j hj => by rw [if_neg (by omega)]; exact hl j hj) (fun _ _ => rfl)

/-! all rows of places, one behind the other, are all places one within the other -/
theorem fol_add {α : Type} {f : Int → α → α} {a : α} {m : Nat} : ∀ n : Nat, folC f (m + n) a = folC (fun s a => f ((m : Int) + s) a) n (folC f m a) := by
  intro n
  induction n with
  | zero => rfl
  | succ n ih =>
    rw [← Nat.add_assoc, folC, folC, ih, show ((m + n : Nat) : Int) = (m : Int) + (n : Int) by omega]
theorem fol_mul {α : Type} {f : Int → α → α} {a : α} {B : Nat} : ∀ A : Nat, folC f (A * B) a = folC (fun c a => folC (fun s a => f (c * (B : Int) + s) a) B a) A a := by
  intro A
  induction A with
  | zero => rw [Nat.zero_mul]; rfl
  | succ A ih =>
    rw [Nat.succ_mul, fol_add, ih, folC]
    rw [show ((A * B : Nat) : Int) = (A : Int) * (B : Int) from Int.natCast_mul A B]
/-- one row of places: who stands sits down by it, and what comes of it is weighed -/
def fa1 (w : Int → Int) : Nat → Int → (Int → Int) → (Nat → Int) → bA → bA
  | 0, _, v, _, a => weiW v a
  | m + 1, g, v, l, a => if okS w v g (l 0) then fa1 w m (g + 1) (if w (28 + 4 * g + 2) = 0 then putsW v g (l 0) else v) (fun j => l (j + 1)) a else a
theorem fa_congr {w : Int → Int} : ∀ (m : Nat) (g : Int) (v : Int → Int) (l k : Nat → Int) (a : bA), (∀ j, j < m → l j = k j) → fa1 w m g v l a = fa1 w m g v k a := by
  intro m
  induction m with
  | zero => intro g v l k a _; rfl
  | succ m ih =>
    intro g v l k a h
    rw [fa1, fa1, h 0 (by omega)]
    split
    · exact ih _ _ _ _ _ (fun j hj => h (j + 1) (by omega))
    · rfl
theorem rest_split {C : Int} (hC : 1 ≤ C) {c s : Int} {m : Nat} : ∀ k : Nat, k ≤ m → restW C (c * pwW C m + s) k = c * pwW C (m - k) + restW C s k := by
  intro k
  induction k with
  | zero => intro _; rfl
  | succ k ih =>
    intro hk
    rw [restW, restW, ih (by omega), show m - k = (m - (k + 1)) + 1 by omega, pwW, ← Int.mul_assoc, Int.mul_add_ediv_right _ _ (by omega)]
theorem dg_split {C : Int} (hC : 1 ≤ C) {c s : Int} {m : Nat} (c0 : 0 ≤ c) (c1 : c < C) (s0 : 0 ≤ s) (s1 : s < pwW C m) : dgW C (m + 1) (c * pwW C m + s) 0 = c ∧ ∀ j, j < m → dgW C (m + 1) (c * pwW C m + s) (j + 1) = dgW C m s j := by
  unfold dgW
  refine ⟨?_, fun j hj => ?_⟩
  · rw [show m + 1 - 1 - 0 = m by omega, rest_split hC m (Nat.le_refl m), Nat.sub_self, (rest_zero hC s0 m).mpr s1, pwW, Int.mul_one, Int.add_zero]
    exact Int.emod_eq_of_lt c0 c1
  · rw [show m + 1 - 1 - (j + 1) = m - 1 - j by omega, rest_split hC (m - 1 - j) (by omega), show m - (m - 1 - j) = j + 1 by omega, pwW, ← Int.mul_assoc, Int.add_comm, Int.add_mul_emod_self_right]
theorem pw_nat {C : Int} (hC : 1 ≤ C) : ∀ m : Nat, pwW C m = ((C.toNat ^ m : Nat) : Int) := by
  intro m
  induction m with
  | zero => rfl
  | succ m ih =>
    rw [pwW, ih, Nat.pow_succ, Int.natCast_mul, show ((C.toNat : Nat) : Int) = C by omega]
theorem fold_nst {w : Int → Int} (hC : 1 ≤ w 1) : ∀ (m : Nat) (g : Int) (v : Int → Int) (a : bA), folC (fun t a => fa1 w m g v (dgW (w 1) m t) a) ((w 1).toNat ^ m) a = nst w putsW m g v a := by
  intro m
  induction m with
  | zero =>
    intro g v a
    rw [Nat.pow_zero, folC, folC]
    rfl
  | succ m ih =>
    intro g v a
    rw [Nat.pow_succ, Nat.mul_comm, fol_mul, nst]
    refine folC_congr (fun j a hj => ?_)
    have hp := pw_nat hC m
    have e1 : folC (fun s a => fa1 w (m + 1) g v (dgW (w 1) (m + 1) ((j : Int) * (((w 1).toNat ^ m : Nat) : Int) + s)) a) ((w 1).toNat ^ m) a = folC (fun s a => if okS w v g (j : Int) then fa1 w m (g + 1) (if w (28 + 4 * g + 2) = 0 then putsW v g (j : Int) else v) (dgW (w 1) m s) a else a) ((w 1).toNat ^ m) a := by
      refine folC_congr (fun s a hs => ?_)
      rw [← hp]
      obtain ⟨d0, d1⟩ := dg_split hC (c := (j : Int)) (s := (s : Int)) (m := m) (by omega) (by omega) (by omega) (by omega)
      rw [fa1, d0]
      split
      · exact fa_congr _ _ _ _ _ _ d1
      · rfl
    rw [e1]
    by_cases ok : okS w v g (j : Int) = true
    · rw [if_pos ok]
      simp only [if_pos ok]
      exact ih _ _ _
    · rw [if_neg ok]
      exact fol_id (fun s a _ => by simp only [if_neg ok])
