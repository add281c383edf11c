/-! seatings -/
theorem RW.fr {I I' : Nat → Int → Int} {ρ : Nat} {cc ch : Int → Nat} {kd kd' : Nat → Nat} {u : Int → Int} (hρ : isRm ρ cc ch kd) (h : RW I ρ cc kd u) (h1 : u 1 ≤ 5) (hf : ∀ (a : Nat) (b : Int), ρ ≤ a → a ≤ ρ + 10 → I' a b = I a b) (hk : ∀ a, ρ + 6 ≤ a → a ≤ ρ + 10 → kd' a = kd a) : RW I' ρ cc kd' u := by
  obtain ⟨e6, e7, e8, hc, hg⟩ := h
  refine ⟨(hf _ _ (by omega) (by omega)).trans e6, (hf _ _ (by omega) (by omega)).trans e7, (hf _ _ (by omega) (by omega)).trans e8, fun c c0 c1 => ?_, fun g g0 g1 => ?_⟩
  · have hb := hρ.2.2.2 c c0 (by omega)
    obtain ⟨k0, k1, k2, k3, k4, k5⟩ := hc c c0 c1
    exact ⟨by rw [hk _ hb.1 hb.2]; exact k0, (hf _ _ (by omega) (by omega)).trans k1, (hf _ _ (by omega) (by omega)).trans k2, (hf _ _ (by omega) (by omega)).trans k3, (hf _ _ (by omega) (by omega)).trans k4, (hf _ _ (by omega) (by omega)).trans k5⟩
  · obtain ⟨q0, q1, q2, q3⟩ := hg g g0 g1
    exact ⟨(hf _ _ (by omega) (by omega)).trans q0, (hf _ _ (by omega) (by omega)).trans q1, (hf _ _ (by omega) (by omega)).trans q2, (hf _ _ (by omega) (by omega)).trans q3⟩
theorem TRX.fr {I I' : Nat → Int → Int} {kd : Nat → Nat} {u : Int → Int} (h : TRX I kd u) (hf : ∀ (a : Nat) (b : Int), 45 ≤ a → a ≤ 55 → I' a b = I a b) : TRX I' kd u :=
  ⟨h.1.fr (rm45 (fun _ => 0) kd) h.2.1.2.1.2 hf (fun _ _ _ => rfl), h.2.1, h.2.2⟩
/-- one is put on a chair that stays as it is -/
def putq (u : Int → Int) (g c : Int) : Int → Int := fun b => if b = 28 + 4 * g + 3 then bearW u c (u (28 + 4 * g)) else if b = 28 + 4 * g + 2 then c + 1 else u b
theorem putq_o {u : Int → Int} {g c b : Int} (h3 : b ≠ 28 + 4 * g + 3) (h2 : b ≠ 28 + 4 * g + 2) : putq u g c b = u b := by
  unfold putq
  rw [if_neg h3, if_neg h2]
theorem putq_at {u : Int → Int} {g c x : Int} : putq u g c (28 + 4 * x + 2) = if x = g then c + 1 else u (28 + 4 * x + 2) := by
  unfold putq
  rw [if_neg (by omega)]
  by_cases e : x = g
  · rw [if_pos (by omega), if_pos e]
  · rw [if_neg (by omega), if_neg e]
theorem putq_b {u : Int → Int} {g c x : Int} : putq u g c (28 + 4 * x + 3) = if x = g then bearW u c (u (28 + 4 * g)) else u (28 + 4 * x + 3) := by
  unfold putq
  by_cases e : x = g
  · rw [if_pos (by omega), if_pos e]
  · rw [if_neg (by omega), if_neg (by omega), if_neg e]
theorem putq_sit {u : Int → Int} {g c e : Int} (g0 : 0 ≤ g) (g1 : g < u 2) (ha : u (28 + 4 * g + 2) = 0) (hs : sitW u c = -1000000) (e0 : 0 ≤ e) : sitW (putq u g c) e = if e = c then g else sitW u e := by
  by_cases q : e = c
  · subst q
    rw [if_pos rfl]
    have e1 : ((g.toNat : Nat) : Int) = g := by omega
    have key := first_at (p := fun x => decide (putq u g e (28 + 4 * x + 2) = e + 1)) (i := g.toNat) (n := (u 2).toNat) (by rw [e1]; rw [putq_at, if_pos rfl]; exact decide_eq_true rfl) (fun j hj => by rw [putq_at, if_neg (by omega)]; exact decide_eq_false (sit_none hs (by omega) (by omega))) (by omega)
    unfold sitW
    rw [putq_o (by omega) (by omega), key, e1]
  · rw [if_neg q]
    refine sit_congr (putq_o (by omega) (by omega)) (fun x x0 x1 => ?_)
    rw [putq_at]
    by_cases r : x = g
    · rw [if_pos r, r, ha]; omega
    · rw [if_neg r]
theorem putq_ok {u : Int → Int} {g c : Int} (hw : OKW u) (g0 : 0 ≤ g) (g1 : g < u 2) (c0 : 0 ≤ c) (c1 : c < u 1) (hs : sitW u c = -1000000) : OKW (putq u g c) := by
  obtain ⟨w0, w1, w2, hC, hG, hU⟩ := hw
  have hg := hG g g0 g1
  refine ⟨?_, ?_, ?_, fun x x0 x1 => ?_, fun x x0 x1 => ?_, fun x y x0 x1 y0 y1 e n => ?_⟩
  · rw [putq_o (by omega) (by omega)]; exact w0
  · rw [putq_o (by omega) (by omega)]; exact w1
  · rw [putq_o (by omega) (by omega)]; exact w2
  · rw [putq_o (by omega) (by omega)] at x1
    refine okc_eq (hC x x0 x1) ?_ ?_ ?_ ?_ ?_ <;> exact putq_o (by omega) (by omega)
  · rw [putq_o (by omega) (by omega)] at x1
    obtain ⟨q0, q1, q2, q3⟩ := hG x x0 x1
    unfold OKG
    rw [putq_at, putq_b, putq_o (by omega) (by omega), putq_o (by omega) (by omega), putq_o (by omega) (by omega)]
    refine ⟨q0, q1, ?_, ?_⟩
    · split <;> omega
    · intro n
      by_cases r : x = g
      · rw [if_pos r]
        exact bear_okc (hC c c0 c1) hg.1.1 hg.1.2
      · rw [if_neg r]
        rw [if_neg r] at n
        exact q3 n
  · rw [putq_o (by omega) (by omega)] at x1 y1
    rw [putq_at, putq_at] at e
    rw [putq_at] at n
    by_cases p : x = g <;> by_cases q : y = g
    · omega
    · rw [if_pos p, if_neg q] at e
      exact absurd e.symm (sit_none hs y0 y1)
    · rw [if_neg p, if_pos q] at e
      exact absurd e (sit_none hs x0 x1)
    · rw [if_neg p, if_neg q] at e
      rw [if_neg p] at n
      exact hU x y x0 x1 y0 y1 e n
theorem RW.puq {I : Nat → Int → Int} {ρ : Nat} {cc ch : Int → Nat} {kd : Nat → Nat} {u : Int → Int} {g c : Int} (hρ : isRm ρ cc ch kd) (h : RW I ρ cc kd u) (hw : OKW u) (g0 : 0 ≤ g) (g1 : g < u 2) (c0 : 0 ≤ c) (c1 : c < u 1) (ha : u (28 + 4 * g + 2) = 0) (hs : sitW u c = -1000000) : RW (up (up (up I (ρ + 4) g c) (ρ + 5) g (bearW u c (u (28 + 4 * g)))) (cc c) 5 g) ρ cc kd (putq u g c) := by
  have hps := @putq_sit u g c
  obtain ⟨w0, w1, w2, hC, hG, hU⟩ := id hw
  obtain ⟨e6, e7, e8, hc, hg⟩ := h
  have c5 : c < 5 := by omega
  have hb := hρ.2.2.2 c c0 c5
  refine ⟨?_, ?_, ?_, fun x x0 x1 => ?_, fun x x0 x1 => ?_⟩
  · rw [putq_o (by omega) (by omega), upN (by omega), upN (by omega), upN (by omega)]; exact e6
  · rw [putq_o (by omega) (by omega), upN (by omega), upN (by omega), upN (by omega)]; exact e7
  · rw [putq_o (by omega) (by omega), upN (by omega), upN (by omega), upN (by omega)]; exact e8
  · rw [putq_o (by omega) (by omega)] at x1
    have x5 : x < 5 := by omega
    have hbx := hρ.2.2.2 x x0 x5
    obtain ⟨p0, p1, p2, p3, p4, p5⟩ := hc x x0 x1
    refine ⟨?_, ?_, ?_, ?_, ?_, ?_⟩
    · rw [putq_o (by omega) (by omega)]; exact p0
    · rw [putq_o (by omega) (by omega), upN (by omega), upN (by omega), upN (by omega)]; exact p1
    · rw [putq_o (by omega) (by omega), upN (by omega), upN (by omega), upN (by omega)]; exact p2
    · rw [putq_o (by omega) (by omega), upN (by omega), upN (by omega), upN (by omega)]; exact p3
    · rw [putq_o (by omega) (by omega), upN (by omega), upN (by omega), upN (by omega)]; exact p4
    · rw [hps g0 g1 ha hs x0]
      by_cases q : x = c
      · rw [if_pos q, q, upE rfl rfl]
      · rw [if_neg q, upN (Or.inl (fun e => q (hρ.2.2.1 x c x0 x5 c0 c5 e))), upN (by omega), upN (by omega)]; exact p5
  · rw [putq_o (by omega) (by omega)] at x1
    obtain ⟨p0, p1, p2, p3⟩ := hg x x0 x1
    unfold RWg
    rw [putq_at, putq_b, putq_o (by omega) (by omega), putq_o (by omega) (by omega)]
    refine ⟨?_, ?_, ?_, ?_⟩
    · rw [upN (by omega), upN (by omega), upN (by omega)]; exact p0
    · rw [upN (by omega), upN (by omega), upN (by omega)]; exact p1
    · rw [upN (by omega), upN (by omega)]
      by_cases q : x = g
      · subst q
        rw [upE rfl rfl, if_pos rfl, if_neg (by omega)]
        omega
      · rw [upN (by omega), if_neg q]; exact p2
    · rw [upN (by omega)]
      by_cases q : x = g
      · subst q
        rw [upE rfl rfl, if_pos rfl, if_pos rfl, if_neg (by omega)]
      · rw [upN (by omega), upN (by omega), if_neg q, if_neg q]; exact p3
/-- back again: who was put has risen -/
theorem RW.back {I : Nat → Int → Int} {ρ : Nat} {cc : Int → Nat} {kd : Nat → Nat} {u : Int → Int} {g c : Int} (g0 : 0 ≤ g) (w1 : u 1 ≤ 5) (h : RW I ρ cc kd (liftW (putq u g c) g)) (ha : u (28 + 4 * g + 2) = 0) : RW I ρ cc kd u := by
  have ho : ∀ b : Int, b ≠ 28 + 4 * g + 3 → b ≠ 28 + 4 * g + 2 → liftW (putq u g c) g b = u b := fun b h3 h2 => (lift_o h2).trans (putq_o h3 h2)
  have hat : ∀ x : Int, liftW (putq u g c) g (28 + 4 * x + 2) = u (28 + 4 * x + 2) := by
    intro x
    rw [lift_at]
    by_cases q : x = g
    · rw [if_pos q, q, ha]
    · rw [if_neg q, putq_at, if_neg q]
  have hsit : ∀ e : Int, sitW (liftW (putq u g c) g) e = sitW u e := fun e => sit_congr (ho 2 (by omega) (by omega)) (fun x x0 x1 => by rw [hat])
  obtain ⟨e6, e7, e8, hc, hg⟩ := h
  rw [ho _ (by omega) (by omega)] at e6 e7 e8
  refine ⟨e6, e7, e8, fun x x0 x1 => ?_, fun x x0 x1 => ?_⟩
  · have q := hc x x0 (by rw [ho _ (by omega) (by omega)]; exact x1)
    unfold RWc at q ⊢
    rw [hsit, ho _ (by omega) (by omega), ho _ (by omega) (by omega), ho _ (by omega) (by omega), ho _ (by omega) (by omega), ho _ (by omega) (by omega)] at q
    exact q
  · have q := hg x x0 (by rw [ho _ (by omega) (by omega)]; exact x1)
    unfold RWg at q ⊢
    rw [hat, ho _ (by omega) (by omega), ho _ (by omega) (by omega)] at q
    refine ⟨q.1, q.2.1, q.2.2.1, ?_⟩
    by_cases r : x = g
    · have := q.2.2.2
      rw [r, ha] at this ⊢
      exact this
    · have := q.2.2.2
      rw [ho _ (by omega) (by omega)] at this
      exact this
/-- two words of which one's taken chairs are worn -/
def EQt (v u : Int → Int) : Prop := v 0 = u 0 ∧ v 1 = u 1 ∧ v 2 = u 2 ∧ (∀ c, 0 ≤ c → c < u 1 → v (3 + 5 * c + 3) = u (3 + 5 * c + 3)) ∧ (∀ g, 0 ≤ g → g < u 2 → v (28 + 4 * g) = u (28 + 4 * g) ∧ v (28 + 4 * g + 2) = u (28 + 4 * g + 2) ∧ (u (28 + 4 * g + 2) ≠ 0 → v (28 + 4 * g + 3) = u (28 + 4 * g + 3))) ∧ (∀ c, 0 ≤ c → c < u 1 → sitW u c = -1000000 → v (3 + 5 * c) = u (3 + 5 * c) ∧ v (3 + 5 * c + 1) = u (3 + 5 * c + 1) ∧ v (3 + 5 * c + 2) = u (3 + 5 * c + 2) ∧ v (3 + 5 * c + 4) = u (3 + 5 * c + 4))
theorem EQt.refl (u : Int → Int) : EQt u u := ⟨rfl, rfl, rfl, fun _ _ _ => rfl, fun _ _ _ => ⟨rfl, rfl, fun _ => rfl⟩, fun _ _ _ _ => ⟨rfl, rfl, rfl, rfl⟩⟩
theorem EQt.sit {v u : Int → Int} (h : EQt v u) (e : Int) : sitW v e = sitW u e := sit_congr h.2.2.1 (fun g g0 g1 => by rw [(h.2.2.2.2.1 g g0 g1).2.1])
theorem EQt.pe {v u : Int → Int} (h : EQt v u) : peW v = peW u := by
  unfold peW
  rw [h.2.1]
  refine sum_congr (fun j hj => ?_)
  have ht : triB v (j : Int) = triB u (j : Int) := by
    unfold triB
    rw [h.2.1]
    by_cases q : (j : Int) + 2 < u 1
    · have a0 := h.2.2.2.1 (j : Int) (by omega) (by omega)
      have a1 := h.2.2.2.1 ((j : Int) + 1) (by omega) (by omega)
      have a2 := h.2.2.2.1 ((j : Int) + 2) (by omega) (by omega)
      rw [show 3 + 5 * ((j : Int) + 1) + 3 = 3 + 5 * (j : Int) + 5 + 3 by omega] at a1
      rw [show 3 + 5 * ((j : Int) + 2) + 3 = 3 + 5 * (j : Int) + 10 + 3 by omega] at a2
      rw [a0, a1, a2]
    · rw [decide_eq_false (fun x => q x.1), decide_eq_false (fun x => q x.1)]
  unfold paiW
  rw [h.sit, h.sit, h.sit, ht, h.1, h.2.1]
  by_cases hh : sitW u (j : Int) ≠ -1000000 ∧ sitW u ((j : Int) + 1) ≠ -1000000
  · rw [if_pos hh, if_pos hh]
    rcases sit_cases u (j : Int) with ⟨s1, -⟩ | ⟨s1, s2, s3⟩
    · exact absurd s1 hh.1
    rcases sit_cases u ((j : Int) + 1) with ⟨t1, -⟩ | ⟨t1, t2, t3⟩
    · exact absurd t1 hh.2
    rw [(h.2.2.2.2.1 _ s1 s2).2.2 (by omega), (h.2.2.2.2.1 _ t1 t2).2.2 (by omega)]
  · rw [if_neg hh, if_neg hh]
theorem EQt.bear {v u : Int → Int} {c o : Int} (h : EQt v u) (c0 : 0 ≤ c) (c1 : c < u 1) (hs : sitW u c = -1000000) : bearW v c o = bearW u c o := by
  obtain ⟨a0, a1, a2, a4⟩ := h.2.2.2.2.2 c c0 c1 hs
  unfold bearW kW
  rw [a0, a1, a2, a4]
theorem EQt.step {v u : Int → Int} {g c : Int} (h : EQt v u) (hw : OKW u) (g0 : 0 ≤ g) (g1 : g < u 2) (c0 : 0 ≤ c) (c1 : c < u 1) (ha : u (28 + 4 * g + 2) = 0) (hs : sitW u c = -1000000) : EQt (putsW v g c) (putq u g c) := by
  have w1 := hw.2.1
  have c5 : c < 5 := by omega
  have e1 : putq u g c 1 = u 1 := putq_o (by omega) (by omega)
  have e2 : putq u g c 2 = u 2 := putq_o (by omega) (by omega)
  refine ⟨?_, ?_, ?_, fun x x0 x1 => ?_, fun x x0 x1 => ?_, fun x x0 x1 xs => ?_⟩
  · rw [puts_lo g0 c0 (by decide), putq_o (by omega) (by omega)]; exact h.1
  · rw [puts_lo g0 c0 (by decide), e1]; exact h.2.1
  · rw [puts_lo g0 c0 (by decide), e2]; exact h.2.2.1
  · rw [e1] at x1
    rw [puts_o (by omega) (by omega), sits_o (by omega) (by omega) (by omega), putq_o (by omega) (by omega)]
    exact h.2.2.2.1 x x0 x1
  · rw [e2] at x1
    obtain ⟨q0, q1, q2⟩ := h.2.2.2.2.1 x x0 x1
    rw [(puts_g g0 c5 x0).1, puts_at g0 c5 x0, puts_b g0 c5 x0, putq_at, putq_b, putq_o (by omega) (by omega)]
    refine ⟨q0, ?_, ?_⟩
    · by_cases r : x = g
      · rw [if_pos r, if_pos r]
      · rw [if_neg r, if_neg r]; exact q1
    · by_cases r : x = g
      · rw [if_pos r, if_pos r, if_pos r, ← r, q0]
        intro _
        exact h.bear c0 c1 hs
      · rw [if_neg r, if_neg r, if_neg r]; exact q2
  · rw [e1] at x1
    rw [putq_sit g0 g1 ha hs x0] at xs
    have hn : x ≠ c := by
      intro e
      rw [if_pos e] at xs
      omega
    rw [if_neg hn] at xs
    obtain ⟨a0, a1, a2, a4⟩ := h.2.2.2.2.2 x x0 x1 xs
    refine ⟨?_, ?_, ?_, ?_⟩
    · rw [puts_o (by omega) (by omega), sits_o (by omega) (by omega) (by omega), putq_o (by omega) (by omega)]; exact a0
    · rw [puts_o (by omega) (by omega), sits_o (by omega) (by omega) (by omega), putq_o (by omega) (by omega)]; exact a1
    · rw [puts_o (by omega) (by omega), sits_o (by omega) (by omega) (by omega), putq_o (by omega) (by omega)]; exact a2
    · rw [puts_o (by omega) (by omega), sits_o (by omega) (by omega) (by omega), putq_o (by omega) (by omega)]; exact a4
/-! the search -/
abbrev bA : Type := Int × (Int → Int)
def weiW (v : Int → Int) (a : bA) : bA := if a.1 < peW v then (peW v, fun g => if 0 ≤ g ∧ g < v 2 then v (28 + 4 * g + 2) - 1 else 0) else a
def okS (w v : Int → Int) (g c : Int) : Bool := if w (28 + 4 * g + 2) = 0 then decide (sitW v c = -1000000) else decide (c = 0)
def folC {α : Type} (f : Int → α → α) : Nat → α → α
  | 0, a => a
  | n + 1, a => f (n : Int) (folC f n a)
theorem folC_congr {α : Type} {f h : Int → α → α} {a : α} : ∀ {n : Nat}, (∀ (j : Nat) (a : α), j < n → f (j : Int) a = h (j : Int) a) → folC f n a = folC h n a := by
  intro n
  induction n with
  | zero => intro _; rfl
  | succ n ih =>
    intro q
    rw [folC, folC, ih (fun j a hj => q j a (by omega)), q n _ (by omega)]
def nst (w : Int → Int) (st : (Int → Int) → Int → Int → Int → Int) : Nat → Int → (Int → Int) → bA → bA
  | 0, _, v, a => weiW v a
  | m + 1, g, v, a => folC (fun c a => if okS w v g c then nst w st m (g + 1) (if w (28 + 4 * g + 2) = 0 then st v g c else v) a else a) (w 1).toNat a
theorem nst_eq {w : Int → Int} : ∀ (m : Nat) (g : Int) (v u : Int → Int) (a : bA), EQt v u → OKW u → u 1 = w 1 → u 2 = w 2 → 0 ≤ g → g + m = w 2 → (∀ x, g ≤ x → x < w 2 → u (28 + 4 * x + 2) = w (28 + 4 * x + 2)) → nst w putsW m g v a = nst w putq m g u a := by
  intro m
  induction m with
  | zero =>
    intro g v u a h hu u1 u2 g0 gm hx
    rw [nst, nst]
    unfold weiW
    rw [h.pe, h.2.2.1]
    have e : (fun g => if 0 ≤ g ∧ g < u 2 then v (28 + 4 * g + 2) - 1 else 0) = (fun g => if 0 ≤ g ∧ g < u 2 then u (28 + 4 * g + 2) - 1 else 0) := by
      funext x
      by_cases q : 0 ≤ x ∧ x < u 2
      · rw [if_pos q, if_pos q, (h.2.2.2.2.1 x q.1 q.2).2.1]
      · rw [if_neg q, if_neg q]
    rw [e]
  | succ m ih =>
    intro g v u a h hu u1 u2 g0 gm hx
    rw [nst, nst]
    refine folC_congr (fun j a hj => ?_)
    have eo : okS w v g (j : Int) = okS w u g (j : Int) := by
      unfold okS
      rw [h.sit]
    rw [eo]
    by_cases ok : okS w u g (j : Int) = true
    · rw [if_pos ok, if_pos ok]
      by_cases hz : w (28 + 4 * g + 2) = 0
      · rw [if_pos hz, if_pos hz]
        unfold okS at ok
        rw [if_pos hz] at ok
        have hs := of_decide_eq_true ok
        have hz2 : u (28 + 4 * g + 2) = 0 := (hx g (by omega) (by omega)).trans hz
        refine ih (g + 1) _ _ a (h.step hu g0 (by omega) (by omega) (by omega) hz2 hs) (putq_ok hu g0 (by omega) (by omega) (by omega) hs) ?_ ?_ (by omega) (by omega) (fun x x0 x1 => ?_)
        · rw [putq_o (by omega) (by omega)]; exact u1
        · rw [putq_o (by omega) (by omega)]; exact u2
        · rw [putq_at, if_neg (by omega)]; exact hx x (by omega) x1
      · rw [if_neg hz, if_neg hz]
        exact ih (g + 1) _ _ a h hu u1 u2 (by omega) (by omega) (fun x x0 x1 => hx x (by omega) x1)
    · rw [if_neg ok, if_neg ok]
/-! whether there is a seating -/
theorem wei_mono {v : Int → Int} {a : bA} : a.1 ≤ (weiW v a).1 := by
  unfold weiW
  split
  · exact Int.le_of_lt (by assumption)
  · exact Int.le_refl _
theorem fol_mono {f : Int → bA → bA} (h : ∀ (c : Int) (a : bA), a.1 ≤ (f c a).1) : ∀ (n : Nat) (a : bA), a.1 ≤ (folC f n a).1 := by
  intro n
  induction n with
  | zero => intro a; exact Int.le_refl _
  | succ n ih => intro a; rw [folC]; exact Int.le_trans (ih a) (h _ _)
theorem nst_mono {w : Int → Int} {st : (Int → Int) → Int → Int → Int → Int} : ∀ (m : Nat) (g : Int) (v : Int → Int) (a : bA), a.1 ≤ (nst w st m g v a).1 := by
  intro m
  induction m with
  | zero => intro g v a; rw [nst]; exact wei_mono
  | succ m ih =>
    intro g v a
    rw [nst]
    refine fol_mono (fun c a => ?_) _ a
    split
    · exact ih _ _ _
    · exact Int.le_refl _
def stN (w : Int → Int) : Nat → Int → Int
  | 0, _ => 0
  | m + 1, g => (if w (28 + 4 * g + 2) = 0 then 1 else 0) + stN w m (g + 1)
def frN (u : Int → Int) : Int := cntF (fun c => decide (sitW u c = -1000000)) (u 1).toNat
theorem cnt_del {p q : Int → Bool} {c : Nat} (hp : p (c : Int) = true) : ∀ {n : Nat}, (∀ j : Nat, j < n → q (j : Int) = if j = c then false else p (j : Int)) → cntF q n = if c < n then cntF p n - 1 else cntF p n := by
  intro n
  induction n with
  | zero => intro _; rw [if_neg (by omega)]; rfl
  | succ n ih =>
    intro h
    have i1 := ih (fun j hj => h j (by omega))
    have h1 := h n (by omega)
    rw [cntF, cntF, i1, h1]
    rcases Nat.lt_trichotomy c n with q | q | q
    · simp only [if_pos q, if_neg (show ¬ n = c by omega), if_pos (show c < n + 1 by omega)]
      generalize (if p (n : Int) = true then (1 : Int) else 0) = z
      omega
    · subst q
      simp only [if_neg (Nat.lt_irrefl c), if_pos (Nat.lt_succ_self c), hp, if_true, Bool.false_eq_true, if_false]
      omega
    · simp only [if_neg (show ¬ c < n by omega), if_neg (show ¬ n = c by omega), if_neg (show ¬ c < n + 1 by omega)]
theorem fr_step {u : Int → Int} {g c : Int} (g0 : 0 ≤ g) (g1 : g < u 2) (c0 : 0 ≤ c) (c1 : c < u 1) (ha : u (28 + 4 * g + 2) = 0) (hs : sitW u c = -1000000) : frN (putq u g c) = frN u - 1 := by
  unfold frN
  rw [putq_o (by omega) (by omega)]
  have e1 : ((c.toNat : Nat) : Int) = c := by omega
  rw [cnt_del (p := fun c => decide (sitW u c = -1000000)) (c := c.toNat) (by rw [e1]; exact decide_eq_true hs) (fun j hj => ?_), if_pos (by omega)]
  rw [putq_sit g0 g1 ha hs (by omega)]
  by_cases q : j = c.toNat
  · rw [if_pos q, if_pos (by omega)]
    exact decide_eq_false (by omega)
  · rw [if_neg q, if_neg (by omega)]
theorem fr_pos {u : Int → Int} (h : 0 < frN u) : ∃ c : Nat, (c : Int) < u 1 ∧ sitW u c = -1000000 := by
  rcases first_cases (fun c => decide (sitW u c = -1000000)) (u 1).toNat with ⟨-, h2⟩ | ⟨i, h1, -, h3, -⟩
  · exfalso
    have e : frN u = 0 := by
      unfold frN
      rw [cnt_tail (k := 0) (Nat.zero_le _) (fun j _ hj => h2 j hj)]
      rfl
    omega
  · exact ⟨i, by omega, of_decide_eq_true h3⟩
theorem fol_id {f : Int → bA → bA} {a : bA} : ∀ {n : Nat}, (∀ (j : Nat) (a : bA), j < n → f (j : Int) a = a) → folC f n a = a := by
  intro n
  induction n with
  | zero => intro _; rfl
  | succ n ih =>
    intro h
    rw [folC, ih (fun j a hj => h j a (by omega)), h n _ (by omega)]
theorem fol_gt {f : Int → bA → bA} {z : Int} (hm : ∀ (c : Int) (a : bA), a.1 ≤ (f c a).1) {c : Nat} (hc : ∀ a : bA, z < (f (c : Int) a).1) {a : bA} : ∀ {n : Nat}, c < n → z < (folC f n a).1 := by
  intro n
  induction n with
  | zero => intro h; omega
  | succ n ih =>
    intro h
    rw [folC]
    by_cases q : c < n
    · exact Int.lt_of_lt_of_le (ih q) (hm _ _)
    · rw [show n = c by omega]
      exact hc _
theorem nst_none {w : Int → Int} : ∀ (m : Nat) (g : Int) (u : Int → Int) (a : bA), OKW u → u 1 = w 1 → u 2 = w 2 → 0 ≤ g → g + m = w 2 → (∀ x, g ≤ x → x < w 2 → u (28 + 4 * x + 2) = w (28 + 4 * x + 2)) → frN u < stN w m g → nst w putq m g u a = a := by
  intro m
  induction m with
  | zero =>
    intro g u a hu u1 u2 g0 gm hx hlt
    rw [stN] at hlt
    have := (cnt_rng (fun c => decide (sitW u c = -1000000)) (u 1).toNat).1
    unfold frN at hlt
    omega
  | succ m ih =>
    intro g u a hu u1 u2 g0 gm hx hlt
    rw [nst]
    rw [stN] at hlt
    refine fol_id (fun j a hj => ?_)
    by_cases ok : okS w u g (j : Int) = true
    · rw [if_pos ok]
      by_cases hz : w (28 + 4 * g + 2) = 0
      · rw [if_pos hz]
        rw [if_pos hz] at hlt
        unfold okS at ok
        rw [if_pos hz] at ok
        have hs := of_decide_eq_true ok
        have hz2 : u (28 + 4 * g + 2) = 0 := (hx g (by omega) (by omega)).trans hz
        refine ih (g + 1) _ a (putq_ok hu g0 (by omega) (by omega) (by omega) hs) ?_ ?_ (by omega) (by omega) (fun x x0 x1 => ?_) ?_
        · rw [putq_o (by omega) (by omega)]; exact u1
        · rw [putq_o (by omega) (by omega)]; exact u2
        · rw [putq_at, if_neg (by omega)]; exact hx x (by omega) x1
        · rw [fr_step g0 (by omega) (by omega) (by omega) hz2 hs]; omega
      · rw [if_neg hz]
        rw [if_neg hz] at hlt
        exact ih (g + 1) _ a hu u1 u2 (by omega) (by omega) (fun x x0 x1 => hx x (by omega) x1) (by omega)
    · rw [if_neg ok]
theorem nst_some {w : Int → Int} (hw1 : 0 < w 1) : ∀ (m : Nat) (g : Int) (u : Int → Int) (a : bA), OKW u → u 1 = w 1 → u 2 = w 2 → 0 ≤ g → g + m = w 2 → (∀ x, g ≤ x → x < w 2 → u (28 + 4 * x + 2) = w (28 + 4 * x + 2)) → stN w m g ≤ frN u → -1000000 < (nst w putq m g u a).1 := by
  intro m
  induction m with
  | zero =>
    intro g u a hu u1 u2 g0 gm hx hlt
    rw [nst]
    have := pe_rng hu
    unfold weiW
    split
    · show -1000000 < peW u
      omega
    · omega
  | succ m ih =>
    intro g u a hu u1 u2 g0 gm hx hlt
    rw [nst]
    rw [stN] at hlt
    have hm : ∀ (c : Int) (a : bA), a.1 ≤ ((fun c a => if okS w u g c then nst w putq m (g + 1) (if w (28 + 4 * g + 2) = 0 then putq u g c else u) a else a) c a).1 := by
      intro c a
      dsimp only
      split
      · exact nst_mono _ _ _ _
      · exact Int.le_refl _
    by_cases hz : w (28 + 4 * g + 2) = 0
    · rw [if_pos hz] at hlt
      have hs0 : 0 ≤ stN w m (g + 1) := by
        have key : ∀ (m : Nat) (g : Int), 0 ≤ stN w m g := by
          intro m
          induction m with
          | zero => intro g; exact Int.le_refl _
          | succ m ih => intro g; rw [stN]; have := ih (g + 1); split <;> omega
        exact key _ _
      obtain ⟨c, c1, hs⟩ := fr_pos (show 0 < frN u by omega)
      have hz2 : u (28 + 4 * g + 2) = 0 := (hx g (by omega) (by omega)).trans hz
      refine fol_gt hm (c := c) (fun a => ?_) (by omega)
      rw [if_pos (show okS w u g (c : Int) = true by unfold okS; rw [if_pos hz]; exact decide_eq_true hs), if_pos hz]
      refine ih (g + 1) _ a (putq_ok hu g0 (by omega) (by omega) (by omega) hs) ?_ ?_ (by omega) (by omega) (fun x x0 x1 => ?_) ?_
      · rw [putq_o (by omega) (by omega)]; exact u1
      · rw [putq_o (by omega) (by omega)]; exact u2
      · rw [putq_at, if_neg (by omega)]; exact hx x (by omega) x1
      · rw [fr_step g0 (by omega) (by omega) (by omega) hz2 hs]; omega
    · rw [if_neg hz] at hlt
      refine fol_gt hm (c := 0) (fun a => ?_) (by omega)
      rw [if_pos (show okS w u g ((0 : Nat) : Int) = true by unfold okS; rw [if_neg hz]; rfl), if_neg hz]
      exact ih (g + 1) _ a hu u1 u2 (by omega) (by omega) (fun x x0 x1 => hx x (by omega) x1) (by omega)
/-! the class's counts of who stands and what is free -/
theorem bit_cnt (p : Int → Bool) : ∀ n : Nat, n ≤ 5 → bitC (bitsF p n) = cntF p n := by
  intro n hn
  rcases (show n = 0 ∨ n = 1 ∨ n = 2 ∨ n = 3 ∨ n = 4 ∨ n = 5 by omega) with rfl | rfl | rfl | rfl | rfl | rfl
  · rfl
  all_goals
    simp only [bitsF, cntF]
    cases p ((0 : Nat) : Int) <;> (try cases p ((1 : Nat) : Int)) <;> (try cases p ((2 : Nat) : Int)) <;> (try cases p ((3 : Nat) : Int)) <;> (try cases p ((4 : Nat) : Int)) <;> rfl
theorem stN_snoc {w : Int → Int} : ∀ (m : Nat) (g : Int), stN w (m + 1) g = stN w m g + (if w (28 + 4 * (g + m) + 2) = 0 then 1 else 0) := by
  intro m
  induction m with
  | zero => intro g; rw [stN, stN, stN]; simp
  | succ m ih =>
    intro g
    rw [stN, ih (g + 1), stN, show g + 1 + (m : Int) = g + ((m + 1 : Nat) : Int) by omega]
    omega
theorem st_cnt {w : Int → Int} : ∀ n : Nat, stN w n 0 = (n : Int) - cntF (fun g => decide (w (28 + 4 * g + 2) ≠ 0)) n := by
  intro n
  induction n with
  | zero => rfl
  | succ n ih =>
    rw [stN_snoc, ih, cntF, show (0 : Int) + (n : Int) = (n : Int) by omega]
    by_cases q : w (28 + 4 * (n : Int) + 2) = 0
    · rw [if_pos q, if_neg (by simp [q])]; omega
    · rw [if_neg q, if_pos (decide_eq_true q)]; omega
theorem cnt_not {p q : Int → Bool} (h : ∀ j : Nat, q (j : Int) = !p (j : Int)) : ∀ n : Nat, cntF p n = (n : Int) - cntF q n := by
  intro n
  induction n with
  | zero => rfl
  | succ n ih =>
    rw [cntF, cntF, ih, h n]
    cases p (n : Int)
    · simp only [Bool.not_false, Bool.false_eq_true, if_false, if_true]; omega
    · simp only [Bool.not_true, Bool.false_eq_true, if_false, if_true]; omega
def seaR (w : Int → Int) : bA := nst w putq (w 2).toNat 0 w (-1000000, fun _ => 0)
def seaA (w : Int → Int) (k : Int) : Int := if k = -1 ∨ (seaR w).1 = -1000000 then (seaR w).1 else if k < w 2 then (seaR w).2 k else -1000000
theorem sea_no {w : Int → Int} (hw : OKW w) (h : w 1 - bitC (takW w) < w 2 - bitC (seaW w)) : (seaR w).1 = -1000000 := by
  have w1 := hw.2.1
  have w2 := hw.2.2.1
  unfold takW seaW at h
  rw [bit_cnt _ _ (by omega), bit_cnt _ _ (by omega)] at h
  have e1 := st_cnt (w := w) (w 2).toNat
  have e2 := cnt_not (p := fun c => decide (sitW w c = -1000000)) (q := fun c => decide (sitW w c ≠ -1000000)) (fun j => by by_cases q : sitW w (j : Int) = -1000000 <;> simp [q]) (w 1).toNat
  unfold seaR
  rw [nst_none (w := w) (w 2).toNat 0 w _ hw rfl rfl (by omega) (by omega) (fun _ _ _ => rfl) (by unfold frN; omega)]
theorem sea_yes {w : Int → Int} (hw : OKW w) (h0 : 0 < w 1) (h : w 2 - bitC (seaW w) ≤ w 1 - bitC (takW w)) (a : bA) : -1000000 < (nst w putq (w 2).toNat 0 w a).1 := by
  have w1 := hw.2.1
  have w2 := hw.2.2.1
  unfold takW seaW at h
  rw [bit_cnt _ _ (by omega), bit_cnt _ _ (by omega)] at h
  have e1 := st_cnt (w := w) (w 2).toNat
  have e2 := cnt_not (p := fun c => decide (sitW w c = -1000000)) (q := fun c => decide (sitW w c ≠ -1000000)) (fun j => by by_cases q : sitW w (j : Int) = -1000000 <;> simp [q]) (w 1).toNat
  exact nst_some h0 (w 2).toNat 0 w _ hw rfl rfl (by omega) (by omega) (fun _ _ _ => rfl) (by unfold frN; omega)
