/-! who sits where -/
theorem first_congr {p q : Int → Bool} : ∀ {n : Nat}, (∀ j : Nat, j < n → p (j : Int) = q (j : Int)) → firstF p n = firstF q n := by
  intro n
  induction n with
  | zero => intro _; rfl
  | succ n ih =>
    intro h
    rw [firstF, firstF, ih (fun j hj => h j (by omega)), h n (by omega)]
theorem sit_none {w : Int → Int} {c : Int} (h : sitW w c = -1000000) {g : Int} (g0 : 0 ≤ g) (g1 : g < w 2) : w (28 + 4 * g + 2) ≠ c + 1 := by
  rcases first_cases (fun g => decide (w (28 + 4 * g + 2) = c + 1)) (w 2).toNat with ⟨h1, h2⟩ | ⟨i, h1, h2, h3, h4⟩
  · have := h2 g.toNat (by omega)
    rw [show ((g.toNat : Nat) : Int) = g by omega] at this
    exact of_decide_eq_false this
  · unfold sitW at h
    omega
theorem sit_cases (w : Int → Int) (c : Int) : (sitW w c = -1000000 ∧ ∀ g, 0 ≤ g → g < w 2 → w (28 + 4 * g + 2) ≠ c + 1) ∨ (0 ≤ sitW w c ∧ sitW w c < w 2 ∧ w (28 + 4 * sitW w c + 2) = c + 1) := by
  rcases first_cases (fun g => decide (w (28 + 4 * g + 2) = c + 1)) (w 2).toNat with ⟨h1, h2⟩ | ⟨i, h1, h2, h3, h4⟩
  · exact Or.inl ⟨h1, fun g g0 g1 => sit_none h1 g0 g1⟩
  · refine Or.inr ?_
    unfold sitW
    rw [h2]
    exact ⟨by omega, by omega, of_decide_eq_true h3⟩
theorem sit_of {w : Int → Int} {c g : Int} (hU : ∀ g h, 0 ≤ g → g < w 2 → 0 ≤ h → h < w 2 → w (28 + 4 * g + 2) = w (28 + 4 * h + 2) → w (28 + 4 * g + 2) ≠ 0 → g = h) (c0 : 0 ≤ c) (g0 : 0 ≤ g) (g1 : g < w 2) (h : w (28 + 4 * g + 2) = c + 1) : sitW w c = g := by
  rcases sit_cases w c with ⟨h1, h2⟩ | ⟨h1, h2, h3⟩
  · exact absurd h (h2 g g0 g1)
  · exact hU _ _ h1 h2 g0 g1 (by rw [h3, h]) (by rw [h3]; omega)
theorem sit_rng (w : Int → Int) (c : Int) (h : w 2 ≤ 5) : sitW w c = -1000000 ∨ (0 ≤ sitW w c ∧ sitW w c < 5) := by
  rcases sit_cases w c with ⟨h1, h2⟩ | ⟨h1, h2, h3⟩
  · exact Or.inl h1
  · exact Or.inr ⟨h1, by omega⟩
theorem sit_congr {w u : Int → Int} {c e : Int} (h2 : u 2 = w 2) (h : ∀ g, 0 ≤ g → g < w 2 → (u (28 + 4 * g + 2) = e + 1 ↔ w (28 + 4 * g + 2) = c + 1)) : sitW u e = sitW w c := by
  unfold sitW
  rw [h2]
  refine first_congr (fun j hj => ?_)
  exact decide_eq_decide.mpr (h j (by omega) (by omega))
/-! sitting down -/
def putsW (u : Int → Int) (g c : Int) : Int → Int := fun b => if b = 28 + 4 * g + 3 then bearW u c (u (28 + 4 * g)) else if b = 28 + 4 * g + 2 then c + 1 else sitsW u g c b
theorem puts_o {u : Int → Int} {g c b : Int} (h3 : b ≠ 28 + 4 * g + 3) (h2 : b ≠ 28 + 4 * g + 2) : putsW u g c b = sitsW u g c b := by
  unfold putsW
  rw [if_neg h3, if_neg h2]
theorem puts_lo {u : Int → Int} {g c b : Int} (g0 : 0 ≤ g) (c0 : 0 ≤ c) (hb : b < 3) : putsW u g c b = u b := by
  rw [puts_o (by omega) (by omega), sits_o (by omega) (by omega) (by omega)]
theorem puts_at {u : Int → Int} {g c x : Int} (g0 : 0 ≤ g) (c5 : c < 5) (x0 : 0 ≤ x) : putsW u g c (28 + 4 * x + 2) = if x = g then c + 1 else u (28 + 4 * x + 2) := by
  by_cases e : x = g
  · subst e
    unfold putsW
    rw [if_neg (by omega), if_pos rfl, if_pos rfl]
  · rw [puts_o (by omega) (by omega), sits_o (by omega) (by omega) (by omega), if_neg e]
theorem puts_b {u : Int → Int} {g c x : Int} (g0 : 0 ≤ g) (c5 : c < 5) (x0 : 0 ≤ x) : putsW u g c (28 + 4 * x + 3) = if x = g then bearW u c (u (28 + 4 * g)) else u (28 + 4 * x + 3) := by
  by_cases e : x = g
  · subst e
    unfold putsW
    rw [if_pos rfl, if_pos rfl]
  · rw [puts_o (by omega) (by omega), sits_o (by omega) (by omega) (by omega), if_neg e]
theorem puts_g {u : Int → Int} {g c x : Int} (g0 : 0 ≤ g) (c5 : c < 5) (x0 : 0 ≤ x) : putsW u g c (28 + 4 * x) = u (28 + 4 * x) ∧ putsW u g c (28 + 4 * x + 1) = u (28 + 4 * x + 1) := by
  rw [puts_o (by omega) (by omega), puts_o (by omega) (by omega), sits_o (by omega) (by omega) (by omega), sits_o (by omega) (by omega) (by omega)]
  exact ⟨rfl, rfl⟩
theorem puts_ck {u : Int → Int} {g c x r : Int} (g0 : 0 ≤ g) (x5 : x < 5) (r0 : 0 ≤ r) (r5 : r < 5) : putsW u g c (3 + 5 * x + r) = sitsW u g c (3 + 5 * x + r) := puts_o (by omega) (by omega)
theorem puts_c0 {u : Int → Int} {g c x : Int} (g0 : 0 ≤ g) (x5 : x < 5) : putsW u g c (3 + 5 * x) = sitsW u g c (3 + 5 * x) := puts_o (by omega) (by omega)
theorem sits_cn {u : Int → Int} {g c x r : Int} (h : x ≠ c) (r0 : 0 ≤ r) (r5 : r < 5) : sitsW u g c (3 + 5 * x + r) = u (3 + 5 * x + r) := sits_o (by omega) (by omega) (by omega)
theorem sits_c0 {u : Int → Int} {g c x : Int} : sitsW u g c (3 + 5 * x) = u (3 + 5 * x) := sits_o (by omega) (by omega) (by omega)
theorem okc_eq {u v : Int → Int} {c : Int} (h : OKC u c) (h0 : v (3 + 5 * c) = u (3 + 5 * c)) (h1 : v (3 + 5 * c + 1) = u (3 + 5 * c + 1)) (h2 : v (3 + 5 * c + 2) = u (3 + 5 * c + 2)) (h3 : v (3 + 5 * c + 3) = u (3 + 5 * c + 3)) (h4 : v (3 + 5 * c + 4) = u (3 + 5 * c + 4)) : OKC v c := by
  unfold OKC
  rw [h0, h1, h2, h3, h4]
  exact h
theorem puts_sit {u : Int → Int} {g c e : Int} (hw : OKW u) (g0 : 0 ≤ g) (g1 : g < u 2) (c0 : 0 ≤ c) (c1 : c < u 1) (ha : u (28 + 4 * g + 2) = 0) (hs : sitW u c = -1000000) (e0 : 0 ≤ e) : sitW (putsW u g c) e = if e = c then g else sitW u e := by
  have c5 : c < 5 := by have := hw.2.1; omega
  by_cases q : e = c
  · subst q
    rw [if_pos rfl]
    have e1 : ((g.toNat : Nat) : Int) = g := by omega
    have key := first_at (p := fun x => decide (putsW u g e (28 + 4 * x + 2) = e + 1)) (i := g.toNat) (n := (u 2).toNat) (by rw [e1]; rw [puts_at g0 c5 g0, if_pos rfl]; exact decide_eq_true rfl) (fun j hj => by rw [puts_at g0 c5 (by omega), if_neg (by omega)]; exact decide_eq_false (sit_none hs (by omega) (by omega))) (by omega)
    unfold sitW
    rw [puts_lo g0 c0 (by decide), key, e1]
  · rw [if_neg q]
    refine sit_congr (puts_lo g0 c0 (by decide)) (fun x x0 x1 => ?_)
    rw [puts_at g0 c5 x0]
    by_cases r : x = g
    · rw [if_pos r, r, ha]; omega
    · rw [if_neg r]
theorem puts_ok {u : Int → Int} {g c : Int} (hw : OKW u) (g0 : 0 ≤ g) (g1 : g < u 2) (c0 : 0 ≤ c) (c1 : c < u 1) (hs : sitW u c = -1000000) : OKW (putsW u g c) := by
  obtain ⟨w0, w1, w2, hC, hG, hU⟩ := hw
  have c5 : c < 5 := by omega
  have hg := hG g g0 g1
  refine ⟨?_, ?_, ?_, fun x x0 x1 => ?_, fun x x0 x1 => ?_, fun x y x0 x1 y0 y1 e n => ?_⟩
  · rw [puts_lo g0 c0 (by decide)]; exact w0
  · rw [puts_lo g0 c0 (by decide)]; exact w1
  · rw [puts_lo g0 c0 (by decide)]; exact w2
  · rw [puts_lo g0 c0 (by decide)] at x1
    by_cases q : x = c
    · subst q
      refine okc_eq (sit_okc (hC x c0 c1) hg.1) ?_ ?_ ?_ ?_ ?_ <;> exact puts_o (by omega) (by omega)
    · refine okc_eq (hC x x0 x1) ?_ ?_ ?_ ?_ ?_ <;> rw [puts_o (by omega) (by omega), sits_o (by omega) (by omega) (by omega)]
  · rw [puts_lo g0 c0 (by decide)] at x1
    obtain ⟨q0, q1, q2, q3⟩ := hG x x0 x1
    unfold OKG
    rw [(puts_g g0 c5 x0).1, (puts_g g0 c5 x0).2, puts_at g0 c5 x0, puts_b g0 c5 x0, puts_lo g0 c0 (by decide)]
    refine ⟨q0, q1, ?_, ?_⟩
    · split <;> omega
    · intro n
      by_cases r : x = g
      · rw [if_pos r]
        exact bear_okc (hC c c0 c1) hg.1.1 hg.1.2
      · rw [if_neg r]
        rw [if_neg r] at n
        exact q3 n
  · rw [puts_lo g0 c0 (by decide)] at x1 y1
    rw [puts_at g0 c5 x0, puts_at g0 c5 y0] at e
    rw [puts_at g0 c5 x0] at n
    by_cases p : x = g <;> by_cases q : y = g
    · omega
    · rw [if_pos p, if_neg q] at e
      exact absurd e.symm (sit_none hs y0 y1)
    · rw [if_neg p, if_pos q] at e
      exact absurd e (sit_none hs x0 x1)
    · rw [if_neg p, if_neg q] at e
      rw [if_neg p] at n
      exact hU x y x0 x1 y0 y1 e n
theorem RW.puts {I : Nat → Int → Int} {ρ : Nat} {cc ch : Int → Nat} {kd : Nat → Nat} {u : Int → Int} {g c : Int} (hρ : isRm ρ cc ch kd) (h : RW I ρ cc kd u) (hw : OKW u) (g0 : 0 ≤ g) (g1 : g < u 2) (c0 : 0 ≤ c) (c1 : c < u 1) (ha : u (28 + 4 * g + 2) = 0) (hs : sitW u c = -1000000) : RW (up (up (up (sitC I (cc c) (kd (cc c)) (I (ρ + 2) g) (I (ρ + 3) g)) (ρ + 4) g c) (ρ + 5) g (bearF (kd (cc c)) (I (cc c) 1) (I (cc c) 2) (I (cc c) 4) (I (ρ + 2) g))) (cc c) 5 g) ρ cc kd (putsW u g c) := by
  have hps := @puts_sit u g c
  obtain ⟨w0, w1, w2, hC, hG, hU⟩ := id hw
  obtain ⟨e6, e7, e8, hc, hg⟩ := h
  have c5 : c < 5 := by omega
  have hb := hρ.2.2.2 c c0 c5
  obtain ⟨k0, k1, k2, k3, k4, k5⟩ := hc c c0 c1
  obtain ⟨o0, o1, o2, o3⟩ := hg g g0 g1
  have hk : kd (cc c) = kW u c := by have := (hC c c0 c1).1; unfold kW; omega
  refine ⟨?_, ?_, ?_, fun x x0 x1 => ?_, fun x x0 x1 => ?_⟩
  · rw [puts_lo g0 c0 (by decide), upN (by omega), upN (by omega), upN (by omega), sit_o (by omega)]; exact e6
  · rw [puts_lo g0 c0 (by decide), upN (by omega), upN (by omega), upN (by omega), sit_o (by omega)]; exact e7
  · rw [puts_lo g0 c0 (by decide), upN (by omega), upN (by omega), upN (by omega), sit_o (by omega)]; exact e8
  · rw [puts_lo g0 c0 (by decide)] at x1
    have x5 : x < 5 := by omega
    have hbx := hρ.2.2.2 x x0 x5
    by_cases q : x = c
    · subst q
      refine ⟨?_, ?_, ?_, ?_, ?_, ?_⟩
      · rw [puts_c0 g0 x5, sits_c0]; exact k0
      · rw [puts_o (by omega) (by omega), sits_1, upN (by omega), upN (by omega), upN (by omega)]
        unfold sitC
        rw [if_pos ⟨rfl, rfl⟩, hk, k1, k2, o0, o1]
      · rw [puts_o (by omega) (by omega), sits_2, upN (by omega), upN (by omega), upN (by omega)]
        unfold sitC
        rw [if_neg (by omega), if_pos ⟨rfl, rfl⟩, hk, k2, o1]
      · rw [puts_o (by omega) (by omega), sits_o (by omega) (by omega) (by omega), upN (by omega), upN (by omega), upN (by omega), sit_o (by omega)]; exact k3
      · rw [puts_o (by omega) (by omega), sits_4, upN (by omega), upN (by omega), upN (by omega)]
        unfold sitC
        rw [if_neg (by omega), if_neg (by omega), if_pos ⟨rfl, rfl⟩, k4]
      · rw [hps hw g0 g1 c0 c1 ha hs x0, if_pos rfl, upE rfl rfl]
    · have hne : cc x ≠ cc c := fun e => q (hρ.2.2.1 x c x0 x5 c0 c5 e)
      obtain ⟨p0, p1, p2, p3, p4, p5⟩ := hc x x0 x1
      refine ⟨?_, ?_, ?_, ?_, ?_, ?_⟩
      · rw [puts_c0 g0 x5, sits_c0]; exact p0
      · rw [puts_o (by omega) (by omega), sits_o (by omega) (by omega) (by omega), upN (by omega), upN (by omega), upN (by omega), sit_o (Or.inl hne)]; exact p1
      · rw [puts_o (by omega) (by omega), sits_o (by omega) (by omega) (by omega), upN (by omega), upN (by omega), upN (by omega), sit_o (Or.inl hne)]; exact p2
      · rw [puts_o (by omega) (by omega), sits_o (by omega) (by omega) (by omega), upN (by omega), upN (by omega), upN (by omega), sit_o (Or.inl hne)]; exact p3
      · rw [puts_o (by omega) (by omega), sits_o (by omega) (by omega) (by omega), upN (by omega), upN (by omega), upN (by omega), sit_o (Or.inl hne)]; exact p4
      · rw [hps hw g0 g1 c0 c1 ha hs x0, if_neg q, upN (Or.inl hne), upN (by omega), upN (by omega), sit_o (Or.inl hne)]; exact p5
  · rw [puts_lo g0 c0 (by decide)] at x1
    obtain ⟨p0, p1, p2, p3⟩ := hg x x0 x1
    unfold RWg
    rw [(puts_g g0 c5 x0).1, (puts_g g0 c5 x0).2, puts_at g0 c5 x0, puts_b g0 c5 x0]
    refine ⟨?_, ?_, ?_, ?_⟩
    · rw [upN (by omega), upN (by omega), upN (by omega), sit_o (by omega)]; exact p0
    · rw [upN (by omega), upN (by omega), upN (by omega), sit_o (by omega)]; exact p1
    · rw [upN (by omega), upN (by omega)]
      by_cases q : x = g
      · subst q
        rw [upE rfl rfl, if_pos rfl, if_neg (by omega)]
        omega
      · rw [upN (by omega), sit_o (by omega), if_neg q]; exact p2
    · rw [upN (by omega)]
      by_cases q : x = g
      · subst q
        rw [upE rfl rfl, if_pos rfl, if_pos rfl, if_neg (by omega), hk, k1, k2, k4, o0]
        rfl
      · rw [upN (by omega), upN (by omega), sit_o (by omega), if_neg q, if_neg q]; exact p3
/-! rising -/
def liftW (u : Int → Int) (g : Int) : Int → Int := fun b => if b = 28 + 4 * g + 2 then 0 else u b
theorem lift_o {u : Int → Int} {g b : Int} (h : b ≠ 28 + 4 * g + 2) : liftW u g b = u b := by unfold liftW; rw [if_neg h]
theorem lift_at {u : Int → Int} {g x : Int} : liftW u g (28 + 4 * x + 2) = if x = g then 0 else u (28 + 4 * x + 2) := by
  unfold liftW
  by_cases e : x = g
  · rw [if_pos (by omega), if_pos e]
  · rw [if_neg (by omega), if_neg e]
theorem lift_ok {u : Int → Int} {g : Int} (hw : OKW u) (g0 : 0 ≤ g) : OKW (liftW u g) := by
  obtain ⟨w0, w1, w2, hC, hG, hU⟩ := hw
  refine ⟨?_, ?_, ?_, fun x x0 x1 => ?_, fun x x0 x1 => ?_, fun x y x0 x1 y0 y1 e n => ?_⟩
  · rw [lift_o (by omega)]; exact w0
  · rw [lift_o (by omega)]; exact w1
  · rw [lift_o (by omega)]; exact w2
  · rw [lift_o (by omega)] at x1
    refine okc_eq (hC x x0 x1) ?_ ?_ ?_ ?_ ?_ <;> exact lift_o (by omega)
  · rw [lift_o (by omega)] at x1
    obtain ⟨q0, q1, q2, q3⟩ := hG x x0 x1
    unfold OKG
    rw [lift_o (by omega), lift_o (by omega), lift_at, lift_o (by omega), lift_o (by omega)]
    refine ⟨q0, q1, ?_, fun n => ?_⟩
    · split <;> omega
    · split at n
      · exact absurd rfl n
      · exact q3 n
  · rw [lift_o (by omega)] at x1 y1
    rw [lift_at] at n e
    rw [lift_at] at e
    by_cases p : x = g
    · rw [if_pos p] at n; exact absurd rfl n
    · rw [if_neg p] at n e
      by_cases q : y = g
      · rw [if_pos q] at e; exact absurd e n
      · rw [if_neg q] at e
        exact hU x y x0 x1 y0 y1 e n
theorem lift_sit {u : Int → Int} {g e : Int} (hw : OKW u) (g0 : 0 ≤ g) (g1 : g < u 2) (e0 : 0 ≤ e) : sitW (liftW u g) e = if e + 1 = u (28 + 4 * g + 2) then -1000000 else sitW u e := by
  obtain ⟨w0, w1, w2, hC, hG, hU⟩ := hw
  by_cases q : e + 1 = u (28 + 4 * g + 2)
  · rw [if_pos q]
    rcases sit_cases (liftW u g) e with ⟨h1, -⟩ | ⟨h1, h2, h3⟩
    · exact h1
    · exfalso
      rw [lift_o (by omega)] at h2
      rw [lift_at] at h3
      by_cases r : sitW (liftW u g) e = g
      · rw [if_pos r] at h3; omega
      · rw [if_neg r] at h3
        exact r (hU _ _ h1 h2 g0 g1 (by omega) (by omega))
  · rw [if_neg q]
    refine sit_congr (lift_o (by omega)) (fun x x0 x1 => ?_)
    rw [lift_at]
    by_cases r : x = g
    · rw [if_pos r, r]; omega
    · rw [if_neg r]
theorem RW.lift {I J : Nat → Int → Int} {ρ : Nat} {cc ch : Int → Nat} {kd : Nat → Nat} {u : Int → Int} {g : Int} (hρ : isRm ρ cc ch kd) (h : RW I ρ cc kd u) (hw : OKW u) (g0 : 0 ≤ g) (g1 : g < u 2) (ha : u (28 + 4 * g + 2) ≠ 0) (hJ : J = up (up (up I (cc (I (ρ + 4) g)) 5 (-1000000)) (ρ + 4) g (-1000000)) (ρ + 5) g (-1000000)) : RW J ρ cc kd (liftW u g) := by
  have hls := @lift_sit u g
  obtain ⟨w0, w1, w2, hC, hG, hU⟩ := id hw
  obtain ⟨e6, e7, e8, hc, hg⟩ := h
  obtain ⟨o0, o1, o2, o3⟩ := hg g g0 g1
  have ga := (hG g g0 g1).2.2.1
  rw [if_neg ha] at o2
  have hb := hρ.2.2.2 (u (28 + 4 * g + 2) - 1) (by omega) (by omega)
  rw [o2] at hJ
  subst hJ
  refine ⟨?_, ?_, ?_, fun x x0 x1 => ?_, fun x x0 x1 => ?_⟩
  · rw [lift_o (by omega), upN (by omega), upN (by omega), upN (by omega)]; exact e6
  · rw [lift_o (by omega), upN (by omega), upN (by omega), upN (by omega)]; exact e7
  · rw [lift_o (by omega), upN (by omega), upN (by omega), upN (by omega)]; exact e8
  · rw [lift_o (by omega)] at x1
    have x5 : x < 5 := by omega
    have hbx := hρ.2.2.2 x x0 x5
    obtain ⟨p0, p1, p2, p3, p4, p5⟩ := hc x x0 x1
    refine ⟨?_, ?_, ?_, ?_, ?_, ?_⟩
    · rw [lift_o (by omega)]; exact p0
    · rw [lift_o (by omega), upN (by omega), upN (by omega), upN (by omega)]; exact p1
    · rw [lift_o (by omega), upN (by omega), upN (by omega), upN (by omega)]; exact p2
    · rw [lift_o (by omega), upN (by omega), upN (by omega), upN (by omega)]; exact p3
    · rw [lift_o (by omega), upN (by omega), upN (by omega), upN (by omega)]; exact p4
    · rw [hls hw g0 g1 x0, upN (by omega), upN (by omega)]
      by_cases q : x + 1 = u (28 + 4 * g + 2)
      · rw [if_pos q, show u (28 + 4 * g + 2) - 1 = x by omega, upE rfl rfl]
      · rw [if_neg q, upN (Or.inl (fun e => q (by have := hρ.2.2.1 x _ x0 x5 (show 0 ≤ u (28 + 4 * g + 2) - 1 by omega) (by omega) e; omega)))]; exact p5
  · rw [lift_o (by omega)] at x1
    obtain ⟨p0, p1, p2, p3⟩ := hg x x0 x1
    unfold RWg
    rw [lift_at, lift_o (by omega), lift_o (by omega), lift_o (by omega)]
    refine ⟨?_, ?_, ?_, ?_⟩
    · rw [upN (by omega), upN (by omega), upN (by omega)]; exact p0
    · rw [upN (by omega), upN (by omega), upN (by omega)]; exact p1
    · rw [upN (by omega)]
      by_cases q : x = g
      · subst q
        rw [upE rfl rfl, if_pos rfl, if_pos rfl]
      · rw [upN (by omega), upN (by omega), if_neg q]; exact p2
    · by_cases q : x = g
      · subst q
        rw [upE rfl rfl, if_pos rfl, if_pos rfl]
      · rw [upN (by omega), upN (by omega), upN (by omega), if_neg q]; exact p3
/-! recaning -/
def canW (u : Int → Int) (c : Int) : Int → Int := fun b => if b = 3 + 5 * c + 2 then 0 else u b
theorem can_o {u : Int → Int} {c b : Int} (h : b ≠ 3 + 5 * c + 2) : canW u c b = u b := by unfold canW; rw [if_neg h]
theorem can_e {u : Int → Int} {c : Int} : canW u c (3 + 5 * c + 2) = 0 := by unfold canW; rw [if_pos rfl]
theorem can_ok {u : Int → Int} {c : Int} (hw : OKW u) (c0 : 0 ≤ c) (c5 : c < 5) : OKW (canW u c) := by
  obtain ⟨w0, w1, w2, hC, hG, hU⟩ := hw
  refine ⟨?_, ?_, ?_, fun x x0 x1 => ?_, fun x x0 x1 => ?_, fun x y x0 x1 y0 y1 e n => ?_⟩
  · rw [can_o (by omega)]; exact w0
  · rw [can_o (by omega)]; exact w1
  · rw [can_o (by omega)]; exact w2
  · rw [can_o (by omega)] at x1
    by_cases q : x = c
    · subst q
      obtain ⟨q0, q1, q2, q3, q4⟩ := hC x x0 x1
      unfold OKC
      rw [can_e, can_o (by omega), can_o (by omega), can_o (by omega), can_o (by omega)]
      exact ⟨q0, q1, by omega, q3, q4⟩
    · refine okc_eq (hC x x0 x1) ?_ ?_ ?_ ?_ ?_ <;> exact can_o (by omega)
  · rw [can_o (by omega)] at x1
    unfold OKG
    rw [can_o (by omega), can_o (by omega), can_o (by omega), can_o (by omega), can_o (by omega)]
    exact hG x x0 x1
  · rw [can_o (by omega)] at x1 y1 n e
    rw [can_o (by omega)] at e
    exact hU x y x0 x1 y0 y1 e n
theorem can_sit {u : Int → Int} {c e : Int} (c5 : c < 5) (c0 : 0 ≤ c) : sitW (canW u c) e = sitW u e := by
  refine sit_congr (can_o (by omega)) (fun x x0 x1 => ?_)
  rw [can_o (by omega)]
theorem RW.can {I J : Nat → Int → Int} {ρ : Nat} {cc ch : Int → Nat} {kd : Nat → Nat} {u : Int → Int} {c : Int} (hρ : isRm ρ cc ch kd) (h : RW I ρ cc kd u) (hw : OKW u) (c0 : 0 ≤ c) (c1 : c < u 1) (hE : J (cc c) 2 = 0) (hJ : ∀ (a : Nat) (b : Int), (a ≠ cc c ∨ b ≠ 2) → J a b = I a b) : RW J ρ cc kd (canW u c) := by
  obtain ⟨w0, w1, w2, hC, hG, hU⟩ := id hw
  obtain ⟨e6, e7, e8, hc, hg⟩ := h
  have c5 : c < 5 := by omega
  have hb := hρ.2.2.2 c c0 c5
  refine ⟨?_, ?_, ?_, fun x x0 x1 => ?_, fun x x0 x1 => ?_⟩
  · rw [can_o (by omega), hJ _ _ (by omega)]; exact e6
  · rw [can_o (by omega), hJ _ _ (by omega)]; exact e7
  · rw [can_o (by omega), hJ _ _ (by omega)]; exact e8
  · rw [can_o (by omega)] at x1
    obtain ⟨p0, p1, p2, p3, p4, p5⟩ := hc x x0 x1
    refine ⟨?_, ?_, ?_, ?_, ?_, ?_⟩
    · rw [can_o (by omega)]; exact p0
    · rw [can_o (by omega), hJ _ _ (by omega)]; exact p1
    · by_cases q : x = c
      · subst q
        rw [can_e]; exact hE
      · rw [can_o (by omega), hJ _ _ (Or.inl (fun e => q (hρ.2.2.1 x c x0 (by omega) c0 c5 e)))]; exact p2
    · rw [can_o (by omega), hJ _ _ (by omega)]; exact p3
    · rw [can_o (by omega), hJ _ _ (by omega)]; exact p4
    · rw [can_sit c5 c0, hJ _ _ (by omega)]; exact p5
  · rw [can_o (by omega)] at x1
    unfold RWg
    rw [can_o (by omega), can_o (by omega), can_o (by omega), can_o (by omega), hJ _ _ (by omega), hJ _ _ (by omega), hJ _ _ (by omega), hJ _ _ (by omega)]
    exact hg x x0 x1
/-! peace -/
def triB (w : Int → Int) (c : Int) : Bool := decide (c + 2 < w 1 ∧ w (3 + 5 * c + 5 + 3) = w (3 + 5 * c + 3) ∧ w (3 + 5 * c + 10 + 3) = w (3 + 5 * c + 3))
def paiW (w : Int → Int) (c : Int) : Int := if sitW w c ≠ -1000000 ∧ sitW w (c + 1) ≠ -1000000 then 10 - absI (w (28 + 4 * sitW w c + 3) - w (28 + 4 * sitW w (c + 1) + 3)) - (if c + 2 < w 1 ∧ sitW w (c + 2) ≠ -1000000 ∧ triB w c = true then w 0 else 0) else 0
def peW (w : Int → Int) : Int := sumF (paiW w) (w 1 - 1).toNat
theorem RW.pair {I : Nat → Int → Int} {ρ : Nat} {cc : Int → Nat} {kd : Nat → Nat} {u : Int → Int} (h : RW I ρ cc kd u) (hw : OKW u) {c : Int} (c0 : 0 ≤ c) (c1 : c + 1 < u 1) : paiW u c = pbF I ρ cc c - (if c + 2 < u 1 then trF I ρ cc c else 0) := by
  obtain ⟨w0, w1, w2, hC, hG, hU⟩ := hw
  obtain ⟨e6, e7, e8, hc, hg⟩ := h
  obtain ⟨p0, p1, p2, p3, p4, p5⟩ := hc c c0 (by omega)
  obtain ⟨q0, q1, q2, q3, q4, q5⟩ := hc (c + 1) (by omega) (by omega)
  have s0 := sit_cases u c
  have s1 := sit_cases u (c + 1)
  unfold paiW pbF trF
  rw [p5, q5, p3, q3, e7, e8]
  by_cases hn : sitW u c ≠ -1000000 ∧ sitW u (c + 1) ≠ -1000000
  · rcases s0 with s0 | s0
    · exact absurd s0.1 hn.1
    rcases s1 with s1 | s1
    · exact absurd s1.1 hn.2
    have b0 := (hg _ s0.1 s0.2.1).2.2.2
    have b1 := (hg _ s1.1 s1.2.1).2.2.2
    rw [if_neg (by omega)] at b0 b1
    rw [if_pos hn, if_pos (show (0 ≤ sitW u c ∧ sitW u c < u 2) ∧ (0 ≤ sitW u (c + 1) ∧ sitW u (c + 1) < u 2) by omega), b0, b1]
    by_cases c2 : c + 2 < u 1
    · obtain ⟨r0, r1, r2, r3, r4, r5⟩ := hc (c + 2) (by omega) (by omega)
      rw [if_pos c2, r3, r5]
      have t1 : u (3 + 5 * (c + 1) + 3) = u (3 + 5 * c + 5 + 3) := congrArg u (by omega)
      have t2 : u (3 + 5 * (c + 2) + 3) = u (3 + 5 * c + 10 + 3) := congrArg u (by omega)
      rw [t1, t2]
      unfold triB
      congr 1
      by_cases z : c + 2 < u 1 ∧ sitW u (c + 2) ≠ -1000000 ∧ decide (c + 2 < u 1 ∧ u (3 + 5 * c + 5 + 3) = u (3 + 5 * c + 3) ∧ u (3 + 5 * c + 10 + 3) = u (3 + 5 * c + 3)) = true
      · rw [if_pos z]
        have z3 := of_decide_eq_true z.2.2
        rw [if_pos ⟨z3.2, hn.1, hn.2, z.2.1⟩]
      · rw [if_neg z, if_neg (fun y => z ⟨c2, y.2.2.2, decide_eq_true ⟨c2, y.1⟩⟩)]
    · rw [if_neg c2, if_neg (show ¬ (c + 2 < u 1 ∧ sitW u (c + 2) ≠ -1000000 ∧ triB u c = true) from fun y => c2 y.1)]
  · rw [if_neg hn, if_neg (by omega)]
    by_cases c2 : c + 2 < u 1
    · rw [if_pos c2, if_neg (fun y => hn ⟨y.2.1, y.2.2.1⟩)]
      rfl
    · rw [if_neg c2]
      rfl
theorem RW.peace {I : Nat → Int → Int} {ρ : Nat} {cc : Int → Nat} {kd : Nat → Nat} {u : Int → Int} (h : RW I ρ cc kd u) (hw : OKW u) : peF I ρ cc = peW u := by
  have e6 := h.1
  have w1 := hw.2.1
  have key := @RW.pair I ρ cc kd u h hw
  unfold peF peW
  rw [e6]
  rcases (show u 1 = 0 ∨ u 1 = 1 ∨ u 1 = 2 ∨ u 1 = 3 ∨ u 1 = 4 ∨ u 1 = 5 by omega) with e | e | e | e | e | e <;> rw [e] at key ⊢
  · rfl
  · rfl
  · have k0 := key (c := 0) (by decide) (by decide)
    rw [if_neg (by decide)] at k0
    show 0 + pbF I ρ cc 0 - 0 = 0 + paiW u 0
    omega
  · have k0 := key (c := 0) (by decide) (by decide)
    have k1 := key (c := 1) (by decide) (by decide)
    rw [if_pos (by decide)] at k0
    rw [if_neg (by decide)] at k1
    show 0 + pbF I ρ cc 0 + pbF I ρ cc 1 - (0 + trF I ρ cc 0) = 0 + paiW u 0 + paiW u 1
    omega
  · have k0 := key (c := 0) (by decide) (by decide)
    have k1 := key (c := 1) (by decide) (by decide)
    have k2 := key (c := 2) (by decide) (by decide)
    rw [if_pos (by decide)] at k0 k1
    rw [if_neg (by decide)] at k2
    show 0 + pbF I ρ cc 0 + pbF I ρ cc 1 + pbF I ρ cc 2 - (0 + trF I ρ cc 0 + trF I ρ cc 1) = 0 + paiW u 0 + paiW u 1 + paiW u 2
    omega
  · have k0 := key (c := 0) (by decide) (by decide)
    have k1 := key (c := 1) (by decide) (by decide)
    have k2 := key (c := 2) (by decide) (by decide)
    have k3 := key (c := 3) (by decide) (by decide)
    rw [if_pos (by decide)] at k0 k1 k2
    rw [if_neg (by decide)] at k3
    show 0 + pbF I ρ cc 0 + pbF I ρ cc 1 + pbF I ρ cc 2 + pbF I ρ cc 3 - (0 + trF I ρ cc 0 + trF I ρ cc 1 + trF I ρ cc 2) = 0 + paiW u 0 + paiW u 1 + paiW u 2 + paiW u 3
    omega
