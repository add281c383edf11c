theorem ROWX.rel {I J : Nat → Int → Int} (h : ROWX I J) {r : Int} (r0 : 0 ≤ r) (r7 : r ≤ 7) {k : Nat} (hk : k = 57 + 2 * r.toNat) : (I 2 r = -1 ∧ J 1 r = -1000000) ∨ (I 2 r ≠ -1 ∧ J 1 r ≠ -1000000 ∧ I 2 r = J 1 r ∧ 0 ≤ J 1 r ∧ J 1 r ≤ 2 ∧ I k 1 = J 2 r ∧ 0 ≤ J 2 r ∧ J 2 r ≤ 40) := by
  rcases h r r0 r7 with q | ⟨a, b, c, e, f⟩
  · exact Or.inl q
  · rw [← hk] at c
    exact Or.inr ⟨by omega, by omega, a, b.1, b.2, c, e.1, e.2⟩
theorem ROWX.it {I J : Nat → Int → Int} (h : ROWX I J) {r : Int} (r0 : 0 ≤ r) (r7 : r ≤ 7) {k : Nat} (hk : k = 57 + 2 * r.toNat) (hn : I 2 r ≠ -1) : ∀ i, 0 ≤ i → i < J 2 r → I (k + 1) i = J 3 (40 * r + i) := by
  rcases h r r0 r7 with q | ⟨a, b, c, e, f⟩
  · exact absurd q.1 hn
  · rw [show k + 1 = 58 + 2 * r.toNat by omega]
    exact f
theorem ROWX.hm {I J : Nat → Int → Int} (h : ROWX I J) : ∀ r, 0 ≤ r → r ≤ 7 → J 1 r ≠ -1000000 → 0 ≤ J 2 r ∧ J 2 r ≤ 40 := by
  intro r r0 r7 hn
  rcases h r r0 r7 with q | ⟨a, b, c, e, f⟩
  · exact absurd q.2 hn
  · exact e
theorem x_push {d : Nat} {I : Nat → Int → Int} {ch : Int → Nat} {kd : Nat → Nat} {Q : Option jV → jS → Prop} {k cap : Nat} {v : Int} (hl : isL2 k cap) (hI : Rg I) (h0 : 0 ≤ I k 1) (h1 : I k 1 < (cap : Int)) (v0 : -2147483648 ≤ v) (v1 : v < 2147483648) (hQ : ∀ I', Rg I' → I' k 1 = I k 1 + 1 → I' (k + 1) (I k 1) = v → (∀ a b, (a ≠ k ∨ b ≠ 1) → (a ≠ k + 1 ∨ b ≠ I k 1) → I' a b = I a b) → Q (some (vi 1)) (SX I' ch kd)) : Cl d 47 [vr k, vi v] (SX I ch kd) Q := by
  have hc := hl.2.2.2.1
  refine c_push hl hI h0 (fun q => absurd q (by omega)) (fun _ => ?_)
  refine hQ _ (rg_up (rg_up hI v0 v1) (by omega) (by omega)) (upE rfl rfl) ?_ (fun a b q1 q2 => ?_)
  · rw [upN (Or.inl (by omega))]; exact upE rfl rfl
  · rw [upN q1, upN q2]
theorem x_clear {d : Nat} {I : Nat → Int → Int} {ch : Int → Nat} {kd : Nat → Nat} {Q : Option jV → jS → Prop} {k cap : Nat} (hl : isL2 k cap) (hI : Rg I) (hQ : ∀ I', Rg I' → I' k 1 = 0 → (∀ a b, (a ≠ k ∨ (b ≠ 1 ∧ b ≠ 2)) → I' a b = I a b) → Q none (SX I' ch kd)) : Cl d 46 [vr k] (SX I ch kd) Q := by
  refine c_clear hl (hQ _ (rg_up (rg_up hI (by decide) (by decide)) (by decide) (by decide)) ?_ (fun a b q => ?_))
  · rw [upN (Or.inr (by decide))]; exact upE rfl rfl
  · rw [upN (by omega), upN (by omega)]
theorem all_congr {p q : Int → Bool} : ∀ {n : Nat}, (∀ j : Nat, j < n → p (j : Int) = q (j : Int)) → allF p n = allF q n := by
  intro n
  induction n with
  | zero => intro _; rfl
  | succ n ih =>
    intro h
    rw [allF, allF, ih (fun j hj => h j (by omega)), h n (by omega)]
theorem own_congr {w a b : Int → Int} {i v : Int} (h : ∀ j, 0 ≤ j → j < w 1 → a (i + j) = b (i + j)) : ownB w a i v = ownB w b i v := by
  unfold ownB
  refine all_congr (fun j hj => ?_)
  rw [h j (by omega) (by omega)]
theorem fitp_congr {w a b : Int → Int} {i c x v : Int} (h : ∀ j, 0 ≤ j → j < w 2 → a (i + j) = b (i + j)) : fitP w a i c x v = fitP w b i c x v := by
  unfold fitP givB
  rw [all_congr (q := fun g => decide (bearW (fitV (altW w c x v) c g.toNat) c (w (28 + 4 * g)) = b (i + g))) (fun j hj => ?_)]
  rw [h j (by omega) (by omega)]
/-- rows have changed, and all else stands -/
def RXF (I I' : Nat → Int → Int) : Prop := Rg I' ∧ I' 0 11 = 0 ∧ ∀ a b, (a ≠ 2 ∧ (a < 57 ∨ 72 < a) ∧ (a ≠ 0 ∨ b ≠ 11)) → I' a b = I a b
theorem XR.rom {I I' J J' : Nat → Int → Int} {ch : Int → Nat} {kd : Nat → Nat} {l m f : Int → Int} (h : XR I ch kd J) (hm : ROM J J' l m f) (hf : RXF I I') (hr : ROWX I' J') : XR I' ch kd J' := by
  obtain ⟨h1, h2, h3, h4, o1, o2, o3, o4, o5, o6⟩ := h
  obtain ⟨f1, f2, f3⟩ := hf
  obtain ⟨m1, m2, m3, m4, m5, m6, m7⟩ := hm
  refine ⟨f1, m1, ?_, ?_, hr, ⟨?_, ?_⟩, ?_, ?_, ?_, o6⟩
  · rw [m7 6 (by decide)]
    exact h3.fr (fun a b a0 a1 => f3 a b (by omega))
  · exact h4.fr (fun a a0 => f3 a 1 (by omega)) (fun a b a0 a1 => f3 a b (by omega)) (f3 0 8 (by decide)) (f3 0 9 (by decide)) (m3 17 (by decide)) (m7 9 (by decide))
  · rw [f2, m2]
  · rw [f3 0 10 (by decide), m3 7 (by decide)]; exact o2.2
  · exact o3.fr (f3 _ _ (by omega)) (fun b => f3 _ _ (by omega)) (m3 6 (by decide)) (m7 5 (by decide))
  · exact o4.fr (fun a a0 a1 => f3 a 1 (by omega)) (fun a b a0 a1 a2 => f3 a b (by omega)) (m7 10 (by decide)) (m7 11 (by decide))
  · exact o5.fr (f3 _ _ (by omega)) (fun b => f3 _ _ (by omega)) (m3 23 (by decide)) (m7 14 (by decide))
theorem ROWX.row {I I' J J' : Nat → Int → Int} {r l n : Int} {k : Nat} (h : ROWX I J) (r0 : 0 ≤ r) (r7 : r ≤ 7) (hk : k = 57 + 2 * r.toNat) (l0 : 0 ≤ l) (l2 : l ≤ 2) (n0 : 0 ≤ n) (n40 : n ≤ 40) (e2 : I' 2 r = l) (ek : I' k 1 = n) (ez : ∀ b, 0 ≤ b → b < n → I' (k + 1) b = 0) (f2 : ∀ b, b ≠ r → I' 2 b = I 2 b) (ff : ∀ a b, 57 ≤ a → a ≠ k → a ≠ k + 1 → I' a b = I a b) (j1 : J' 1 = updF (J 1) r l) (j2 : J' 2 = updF (J 2) r n) (j3 : J' 3 = fun b => if 40 * r ≤ b ∧ b < 40 * r + 40 then 0 else J 3 b) : ROWX I' J' := by
  intro s s0 s7
  rw [j1, j2, j3]
  unfold updF
  dsimp only
  by_cases q : s = r
  · rw [if_pos q, if_pos q]
    refine Or.inr ⟨by rw [q]; exact e2, ⟨l0, l2⟩, by rw [q, ← hk]; exact ek, ⟨n0, n40⟩, fun i i0 i1 => ?_⟩
    rw [q, show 58 + 2 * r.toNat = k + 1 by omega, ez i i0 i1, if_pos (by omega)]
  · rw [if_neg q, if_neg q, f2 s q, ff _ _ (by omega) (by omega) (by omega)]
    rcases h s s0 s7 with u | ⟨a, b, c, e, f⟩
    · exact Or.inl u
    · refine Or.inr ⟨a, b, c, e, fun i i0 i1 => ?_⟩
      rw [ff _ _ (by omega) (by omega) (by omega), if_neg (by omega)]
      exact f i i0 i1
theorem ROWX.set {I I' J J' : Nat → Int → Int} {r i v : Int} {k : Nat} (h : ROWX I J) (r0 : 0 ≤ r) (r7 : r ≤ 7) (hk : k = 57 + 2 * r.toNat) (hn : I 2 r ≠ -1) (i0 : 0 ≤ i) (i1 : i < J 2 r) (e : I' (k + 1) i = v) (f2 : ∀ b, I' 2 b = I 2 b) (ff : ∀ a b, 57 ≤ a → (a ≠ k + 1 ∨ b ≠ i) → I' a b = I a b) (j1 : J' 1 = J 1) (j2 : J' 2 = J 2) (j3 : J' 3 = updF (J 3) (40 * r + i) v) : ROWX I' J' := by
  have hr := h.rel r0 r7 hk
  intro s s0 s7
  rw [j1, j2, j3, f2, ff _ 1 (by omega) (by omega)]
  rcases h s s0 s7 with u | ⟨a, b, c, e2, f⟩
  · exact Or.inl u
  · refine Or.inr ⟨a, b, c, e2, fun j j0 j1 => ?_⟩
    unfold updF
    by_cases q : s = r ∧ j = i
    · rw [q.1, q.2, if_pos rfl, show 58 + 2 * r.toNat = k + 1 by omega]; exact e
    · rw [if_neg (by omega), ff _ _ (by omega) (by omega)]
      exact f j j0 j1
theorem ROWX.copy {I I' J J' : Nat → Int → Int} {a i b j n : Int} {ka kb : Nat} (h : ROWX I J) (a0 : 0 ≤ a) (a7 : a ≤ 7) (b0 : 0 ≤ b) (b7 : b ≤ 7) (hka : ka = 57 + 2 * a.toNat) (hkb : kb = 57 + 2 * b.toNat) (ha : I 2 a ≠ -1) (i0 : 0 ≤ i) (j0 : 0 ≤ j) (i1 : i + n ≤ J 2 a) (j1 : j + n ≤ J 2 b) (b40 : J 2 b ≤ 40) (e : ∀ y, I' (kb + 1) y = if j ≤ y ∧ y < j + n then I (ka + 1) (i + (y - j)) else I (kb + 1) y) (f2 : ∀ b, I' 2 b = I 2 b) (ff : ∀ a b, 57 ≤ a → a ≠ kb + 1 → I' a b = I a b) (q1 : J' 1 = J 1) (q2 : J' 2 = J 2) (q3 : J' 3 = fun y => if 40 * b + j ≤ y ∧ y < 40 * b + j + n then J 3 (40 * a + i + (y - (40 * b + j))) else J 3 y) : ROWX I' J' := by
  have hit := h.it a0 a7 hka ha
  intro s s0 s7
  rw [q1, q2, q3, f2, ff _ 1 (by omega) (by omega)]
  dsimp only
  rcases h s s0 s7 with u | ⟨x1, x2, x3, x4, x5⟩
  · exact Or.inl u
  · refine Or.inr ⟨x1, x2, x3, x4, fun y y0 y1 => ?_⟩
    by_cases q : s = b
    · rw [q] at x5 y1 ⊢
      rw [show 58 + 2 * b.toNat = kb + 1 by omega, e y]
      by_cases u : j ≤ y ∧ y < j + n
      · rw [if_pos u, if_pos (by omega), hit _ (by omega) (by omega), show 40 * a + i + (40 * b + y - (40 * b + j)) = 40 * a + (i + (y - j)) by omega]
      · rw [if_neg u, if_neg (by omega), show kb + 1 = 58 + 2 * b.toNat by omega]
        exact x5 y y0 y1
    · rw [ff _ _ (by omega) (by omega), if_neg (by omega)]
      exact x5 y y0 y1
theorem ROWX.drop {I I' J J' : Nat → Int → Int} {r : Int} {k : Nat} (h : ROWX I J) (r0 : 0 ≤ r) (r7 : r ≤ 7) (hk : k = 57 + 2 * r.toNat) (e2 : I' 2 r = -1) (f2 : ∀ b, b ≠ r → I' 2 b = I 2 b) (ff : ∀ a b, 57 ≤ a → a ≠ k → I' a b = I a b) (j1 : J' 1 = updF (J 1) r (-1000000)) (j2 : J' 2 = J 2) (j3 : J' 3 = J 3) : ROWX I' J' := by
  intro s s0 s7
  rw [j1, j2, j3]
  unfold updF
  by_cases q : s = r
  · rw [if_pos q]
    exact Or.inl ⟨by rw [q]; exact e2, rfl⟩
  · rw [if_neg q, f2 s q, ff _ _ (by omega) (by omega)]
    rcases h s s0 s7 with u | ⟨a, b, c, e, f⟩
    · exact Or.inl u
    · exact Or.inr ⟨a, b, c, e, fun i i0 i1 => by rw [ff _ _ (by omega) (by omega)]; exact f i i0 i1⟩

set_option maxHeartbeats 1000000 in
theorem x_isMissing {d : Nat} {I : Nat → Int → Int} {ch : Int → Nat} {kd : Nat → Nat} {Q : Option jV → jS → Prop} (hI : Rg I) {r : Int} (r0 : 0 ≤ r) (r7 : r ≤ 7) (hT : (I 2 r = -1) → Q (some (vi 1)) (SX I ch kd)) (hF : ¬ (I 2 r = -1) → Q (some (vi 0)) (SX I ch kd)) : Cl d 145 [vr 0, vi r] (SX I ch kd) Q := by
  refine ⟨by rw [l145]; exact Nat.le_of_ble_eq_true rfl, ?_⟩
  rw [l145]
  show Ev d 145 0 [some (vr 0), some (vi r)] [] (SX I ch kd) Q
  refine ev_s1 (L' := [some (vr 0), some (vi r)]) (S' := [vr 0]) k145_0 rfl rfl ?_
  refine ev_getR k145_1 (by decide) (rfl) (x_0_1 ch kd) ?_
  refine ev_s1 (L' := [some (vr 0), some (vi r)]) (S' := [vi r, vr 2]) k145_4 rfl rfl ?_
  refine ev_iald k145_5 (by decide) (rfl) (by omega) (by omega) ?_
  have rr1 := hI 2 r
  refine ev_s1 (L' := [some (vr 0), some (vi r)]) (S' := [vi (-1), vi (I 2 r)]) k145_6 rfl rfl ?_
  refine ev_c_ne (t := 14) k145_7 rfl (by omega) (by omega) (by omega) (by omega) (fun h2 => ?_) (fun h2 => ?_)
  · refine ev_s1 (L' := [some (vr 0), some (vi r)]) (S' := [vi 0]) k145_14 rfl rfl ?_
    refine ev_zreturn k145_15 (by decide) ?_
    exact hF (by omega)
  · refine ev_s1 (L' := [some (vr 0), some (vi r)]) (S' := [vi 1]) k145_10 rfl rfl ?_
    refine ev_goto (t := 15) k145_11 rfl ?_
    refine ev_zreturn k145_15 (by decide) ?_
    exact hT (by omega)

set_option maxHeartbeats 1000000 in
theorem x_found {d : Nat} {I : Nat → Int → Int} {ch : Int → Nat} {kd : Nat → Nat} {Q : Option jV → jS → Prop} (hI : Rg I) {v : Int} (v0 : 0 ≤ v) (v9 : v ≤ 9) (hQ : ∀ I', Rg I' → I' 0 11 = v → (∀ a b, (a ≠ 0 ∨ b ≠ 11) → I' a b = I a b) → Q (some (vi (-1000010 - v))) (SX I' ch kd)) : Cl d 149 [vr 0, vi v] (SX I ch kd) Q := by
  refine ⟨by rw [l149]; exact Nat.le_of_ble_eq_true rfl, ?_⟩
  rw [l149]
  show Ev d 149 0 [some (vr 0), some (vi v)] [] (SX I ch kd) Q
  refine ev_s1 (L' := [some (vr 0), some (vi v)]) (S' := [vr 0]) k149_0 rfl rfl ?_
  refine ev_s1 (L' := [some (vr 0), some (vi v)]) (S' := [vi v, vr 0]) k149_1 rfl rfl ?_
  refine ev_putI k149_2 (by decide) (rfl) ?_
  show Ev d 149 5 [some (vr 0), some (vi v)] [] (SX (up I 0 11 v) ch kd) Q
  have hI1 := rg_up hI (k := 0) (j := 11) (z := v) (by omega) (by omega)
  generalize hE1 : up I 0 11 v = I1 at hI1 ⊢
  have g1 : ∀ (a : Nat) (b : Int), (a ≠ 0 ∨ b ≠ 11) → I1 a b = I a b := fun a b h => by rw [← hE1]; exact upN h
  have e1 : I1 0 11 = v := by rw [← hE1]; exact upE rfl rfl
  clear hE1
  refine ev_ldcw k149_5 ?_
  refine ev_s1 (L' := [some (vr 0), some (vi v)]) (S' := [vi v, vi (-1000010)]) k149_8 rfl rfl ?_
  refine ev_s1 (L' := [some (vr 0), some (vi v)]) (S' := [vi ((-1000010) - v)]) k149_9 rfl rfl ?_
  refine ev_ireturn k149_10 ?_
  exact hQ _ hI1 e1 g1

set_option maxHeartbeats 1000000 in
theorem x_sound {d : Nat} {I : Nat → Int → Int} {ch : Int → Nat} {kd : Nat → Nat} {Q : Option jV → jS → Prop} (hI : Rg I) {v : Int} (hQ : ∀ I', Rg I' → I' 0 11 = 0 → (∀ a b, (a ≠ 0 ∨ b ≠ 11) → I' a b = I a b) → Q (some (vi (v))) (SX I' ch kd)) : Cl d 150 [vr 0, vi v] (SX I ch kd) Q := by
  refine ⟨by rw [l150]; exact Nat.le_of_ble_eq_true rfl, ?_⟩
  rw [l150]
  show Ev d 150 0 [some (vr 0), some (vi v)] [] (SX I ch kd) Q
  refine ev_s1 (L' := [some (vr 0), some (vi v)]) (S' := [vr 0]) k150_0 rfl rfl ?_
  refine ev_s1 (L' := [some (vr 0), some (vi v)]) (S' := [vi 0, vr 0]) k150_1 rfl rfl ?_
  refine ev_putI k150_2 (by decide) (rfl) ?_
  show Ev d 150 5 [some (vr 0), some (vi v)] [] (SX (up I 0 11 0) ch kd) Q
  have hI1 := rg_up hI (k := 0) (j := 11) (z := 0) (by omega) (by omega)
  generalize hE1 : up I 0 11 0 = I1 at hI1 ⊢
  have g1 : ∀ (a : Nat) (b : Int), (a ≠ 0 ∨ b ≠ 11) → I1 a b = I a b := fun a b h => by rw [← hE1]; exact upN h
  have e1 : I1 0 11 = 0 := by rw [← hE1]; exact upE rfl rfl
  clear hE1
  refine ev_s1 (L' := [some (vr 0), some (vi v)]) (S' := [vi v]) k150_5 rfl rfl ?_
  refine ev_ireturn k150_6 ?_
  exact hQ _ hI1 e1 g1

set_option maxHeartbeats 1000000 in
theorem x_finding {d : Nat} {I : Nat → Int → Int} {ch : Int → Nat} {kd : Nat → Nat} {Q : Option jV → jS → Prop} (hI : Rg I) {r i n : Int} (ia : -2147483648 ≤ i) (ib : i < 2147483648) (na : -2147483648 ≤ n) (nb : n < 2147483648) (r0 : 0 ≤ r) (r7 : r ≤ 7) {kr : Nat} (hkr : kr = 57 + 2 * r.toNat) (hm : I 2 r ≠ -1 → I kr 1 ≤ 40) (hd : 1 ≤ d) (hn1 : I 2 r = -1 → Q (some (vi 1)) (SX I ch kd)) (hn2 : I 2 r ≠ -1 → ¬ (0 ≤ i ∧ 0 ≤ n ∧ i + n ≤ I kr 1) → Q (some (vi 2)) (SX I ch kd)) (hn0 : I 2 r ≠ -1 → (0 ≤ i ∧ 0 ≤ n ∧ i + n ≤ I kr 1) → Q (some (vi 0)) (SX I ch kd)) : Cl d 148 [vr 0, vi r, vi i, vi n] (SX I ch kd) Q := by
  refine ⟨by rw [l148]; exact Nat.le_of_ble_eq_true rfl, ?_⟩
  rw [l148]
  show Ev d 148 0 [some (vr 0), some (vi r), some (vi i), some (vi n)] [] (SX I ch kd) Q
  refine ev_s1 (L' := [some (vr 0), some (vi r), some (vi i), some (vi n)]) (S' := [vr 0]) k148_0 rfl rfl ?_
  refine ev_s1 (L' := [some (vr 0), some (vi r), some (vi i), some (vi n)]) (S' := [vi r, vr 0]) k148_1 rfl rfl ?_
  refine ev_virt (a := [vi r]) (S' := []) k148_2 rfl (Nat.le_of_ble_eq_true rfl) (by decide) (rfl) (by omega) ?_
  refine x_isMissing hI (r := r) (by omega) (by omega) (fun h1 => ?_) (fun h1 => ?_)
  · show Ev d 148 5 [some (vr 0), some (vi r), some (vi i), some (vi n)] [vi 1] (SX I ch kd) Q
    refine ev_z_eq (t := 10) k148_5 rfl (by omega) (by omega) (fun h => absurd h (by decide)) (fun _ => ?_)
    refine ev_s1 (L' := [some (vr 0), some (vi r), some (vi i), some (vi n)]) (S' := [vi 1]) k148_8 rfl rfl ?_
    refine ev_ireturn k148_9 ?_
    exact hn1 (by omega)
  · show Ev d 148 5 [some (vr 0), some (vi r), some (vi i), some (vi n)] [vi 0] (SX I ch kd) Q
    refine ev_z_eq (t := 10) k148_5 rfl (by omega) (by omega) (fun _ => ?_) (fun h => absurd h (by decide))
    refine ev_s1 (L' := [some (vr 0), some (vi r), some (vi i), some (vi n)]) (S' := [vr 0]) k148_10 rfl rfl ?_
    refine ev_getR k148_11 (by decide) (rfl) (x_0_0 ch kd) ?_
    refine ev_s1 (L' := [some (vr 0), some (vi r), some (vi i), some (vi n)]) (S' := [vi r, vr 1]) k148_14 rfl rfl ?_
    refine ev_aald (q := kr) k148_15 (by decide) (rfl) (by decide) (by decide) (by omega) (by omega) (rX1 hkr (by omega) (by omega)) ?_
    refine ev_s1 (L' := [some (vr 0), some (vi r), some (vi i), some (vi n)]) (S' := [vi i, vr kr]) k148_16 rfl rfl ?_
    refine ev_s1 (L' := [some (vr 0), some (vi r), some (vi i), some (vi n)]) (S' := [vi n, vi i, vr kr]) k148_17 rfl rfl ?_
    refine ev_virt (a := [vi i, vi n]) (S' := []) k148_18 rfl (Nat.le_of_ble_eq_true rfl) (by omega) ((ln1 hkr (by omega) (by omega)).2.1) (by omega) ?_
    refine c_holds (ln1 hkr (by omega) (by omega)) hI (i := i) (n := n) (by omega) (by omega) (by omega) (by omega) (by omega) (fun hx2 hy2 hz2 => ?_) (fun h2 => ?_)
    · show Ev d 148 21 [some (vr 0), some (vi r), some (vi i), some (vi n)] [vi 1] (SX I ch kd) Q
      refine ev_z_eq (t := 28) k148_21 rfl (by omega) (by omega) (fun h => absurd h (by decide)) (fun _ => ?_)
      refine ev_s1 (L' := [some (vr 0), some (vi r), some (vi i), some (vi n)]) (S' := [vi 0]) k148_24 rfl rfl ?_
      refine ev_goto (t := 29) k148_25 rfl ?_
      refine ev_ireturn k148_29 ?_
      exact hn0 (by omega) (by omega)
    · show Ev d 148 21 [some (vr 0), some (vi r), some (vi i), some (vi n)] [vi 0] (SX I ch kd) Q
      refine ev_z_eq (t := 28) k148_21 rfl (by omega) (by omega) (fun _ => ?_) (fun h => absurd h (by decide))
      refine ev_s1 (L' := [some (vr 0), some (vi r), some (vi i), some (vi n)]) (S' := [vi 2]) k148_28 rfl rfl ?_
      refine ev_ireturn k148_29 ?_
      exact hn2 (by omega) (by omega)

set_option maxHeartbeats 1000000 in
theorem s_owns {d e : Nat} {I : Nat → Int → Int} {ch : Int → Nat} {kd : Nat → Nat} {J : Nat → Int → Int} {Q : Option jV → jS → Prop} (hX : XR I ch kd J) {g r i : Int} (ga : -2147483648 ≤ g) (gb : g < 2147483648) (ra : -2147483648 ≤ r) (rb : r < 2147483648) (ia : -2147483648 ≤ i) (ib : i < 2147483648) (hd : 13 ≤ d) (he : 13 ≤ e) (hQ : ∀ I' ch' kd' v, AN e 209 [vr 0, vi g, vi r, vi i] J v I' ch' kd' → Q (some (vi v)) (SX I' ch' kd')) : Cl d 131 [vr 0, vi g, vi r, vi i] (SX I ch kd) Q := by
  obtain ⟨hI, hJ, hN, hA, hO⟩ := id hX
  have hw := hN.2.2.1
  obtain ⟨⟨wa0, wa1⟩, ⟨wb0, wb1⟩, ⟨wc0, wc1⟩, wC, wG, wU⟩ := id hw
  obtain ⟨kr, hkr⟩ : ∃ kr : Nat, kr = 57 + 2 * r.toNat := ⟨_, rfl⟩
  have hrel := fun (r0 : 0 ≤ r) (r7 : r ≤ 7) => hO.1.rel r0 r7 hkr
  refine ⟨by rw [l131]; exact Nat.le_of_ble_eq_true rfl, ?_⟩
  rw [l131]
  show Ev d 131 0 [some (vr 0), some (vi g), some (vi r), some (vi i), none] [] (SX I ch kd) Q
  refine ev_s1 (L' := [some (vr 0), some (vi g), some (vi r), some (vi i), none]) (S' := [vr 0]) k131_0 rfl rfl ?_
  refine ev_getR k131_1 (by decide) (rfl) (x_0_5 ch kd) ?_
  refine ev_s1 (L' := [some (vr 0), some (vi g), some (vi r), some (vi i), none]) (S' := [vi g, vr 13]) k131_4 rfl rfl ?_
  refine ev_virt (a := [vi g]) (S' := []) k131_5 rfl (Nat.le_of_ble_eq_true rfl) (by decide) (rfl) (by omega) ?_
  refine x_hasG hN hI (i := g) (by omega) (by omega) (fun h1 => ?_) (fun h1 => ?_)
  · show Ev d 131 8 [some (vr 0), some (vi g), some (vi r), some (vi i), none] [vi 1] (SX I ch kd) Q
    refine ev_z_eq (t := 18) k131_8 rfl (by omega) (by omega) (fun h => absurd h (by decide)) (fun _ => ?_)
    refine ev_s1 (L' := [some (vr 0), some (vi g), some (vi r), some (vi i), none]) (S' := [vi r]) k131_11 rfl rfl ?_
    refine ev_static (a := [vi r]) (S' := []) k131_12 rfl (Nat.le_of_ble_eq_true rfl) (by omega) ?_
    refine x_isRow (r := r) (by omega) (by omega) (by omega) (fun h2 => ?_) (fun h2 => ?_)
    · show Ev d 131 15 [some (vr 0), some (vi g), some (vi r), some (vi i), none] [vi 1] (SX I ch kd) Q
      refine ev_z_ne (t := 21) k131_15 rfl (by omega) (by omega) (fun _ => ?_) (fun h => absurd h (by decide))
      have hre := hrel (by omega) (by omega)
      refine ev_s1 (L' := [some (vr 0), some (vi g), some (vi r), some (vi i), none]) (S' := [vr 0]) k131_21 rfl rfl ?_
      refine ev_s1 (L' := [some (vr 0), some (vi g), some (vi r), some (vi i), none]) (S' := [vi r, vr 0]) k131_22 rfl rfl ?_
      refine ev_s1 (L' := [some (vr 0), some (vi g), some (vi r), some (vi i), none]) (S' := [vi i, vi r, vr 0]) k131_23 rfl rfl ?_
      refine ev_s1 (L' := [some (vr 0), some (vi g), some (vi r), some (vi i), none]) (S' := [vr 0, vi i, vi r, vr 0]) k131_24 rfl rfl ?_
      refine ev_getR k131_25 (by decide) (rfl) (x_0_5 ch kd) ?_
      refine ev_getI k131_28 (by decide) (rfl) ?_
      show Ev d 131 31 [some (vr 0), some (vi g), some (vi r), some (vi i), none] [vi (I 13 6), vi i, vi r, vr 0] (SX I ch kd) Q
      have rr3 := hI 13 6
      rw [hN.2.1.1]
      rw [hN.2.1.1] at rr3
      refine ev_virt (a := [vi r, vi i, vi (J 6 1)]) (S' := []) k131_31 rfl (Nat.le_of_ble_eq_true rfl) (by decide) (rfl) (by omega) ?_
      refine x_finding hI (r := r) (i := i) (n := J 6 1) (by omega) (by omega) (by omega) (by omega) (by omega) (by omega) hkr (by omega) (by omega) (fun hq4 => ?_) (fun hq4 hp4 => ?_) (fun hq4 hp4 => ?_)
      · show Ev d 131 34 [some (vr 0), some (vi g), some (vi r), some (vi i), none] [vi 1] (SX I ch kd) Q
        refine ev_s1 (L' := [some (vr 0), some (vi g), some (vi r), some (vi i), some (vi 1)]) (S' := []) k131_34 rfl rfl ?_
        refine ev_s1 (L' := [some (vr 0), some (vi g), some (vi r), some (vi i), some (vi 1)]) (S' := [vi 1]) k131_36 rfl rfl ?_
        refine ev_z_eq (t := 50) k131_38 rfl (by omega) (by omega) (fun h => absurd h (by decide)) (fun _ => ?_)
        refine ev_s1 (L' := [some (vr 0), some (vi g), some (vi r), some (vi i), some (vi 1)]) (S' := [vr 0]) k131_41 rfl rfl ?_
        refine ev_s1 (L' := [some (vr 0), some (vi g), some (vi r), some (vi i), some (vi 1)]) (S' := [vi 1, vr 0]) k131_42 rfl rfl ?_
        refine ev_virt (a := [vi 1]) (S' := []) k131_44 rfl (Nat.le_of_ble_eq_true rfl) (by decide) (rfl) (by omega) ?_
        refine x_found hI (v := 1) (by omega) (by omega) (fun I5 hI5 e5 f5 => ?_)
        show Ev d 131 47 [some (vr 0), some (vi g), some (vi r), some (vi i), some (vi 1)] [vi (-1000010 - 1)] (SX I5 ch kd) Q
        refine ev_goto (t := 71) k131_47 rfl ?_
        refine ev_ireturn k131_71 ?_
        refine hQ _ _ _ _ ?_
        exact m_owns hJ hw (by omega) (by omega) (by omega) (by omega) (by omega) (by omega) (fun r0 r7 hn => (hO.1.hm r r0 r7 hn).2) (by omega) (fun h => by exfalso; omega) (fun h h2 J' fm => ⟨J', rfl, rfl, hX.find ⟨hI5, e5, fun a b q1 q2 => f5 a b q1, fun _ _ => rfl⟩ fm⟩) (fun h h2 h3 J' fm => by exfalso; omega) (fun h h2 h3 J' fm => by exfalso; omega)
      · show Ev d 131 34 [some (vr 0), some (vi g), some (vi r), some (vi i), none] [vi 2] (SX I ch kd) Q
        refine ev_s1 (L' := [some (vr 0), some (vi g), some (vi r), some (vi i), some (vi 2)]) (S' := []) k131_34 rfl rfl ?_
        refine ev_s1 (L' := [some (vr 0), some (vi g), some (vi r), some (vi i), some (vi 2)]) (S' := [vi 2]) k131_36 rfl rfl ?_
        refine ev_z_eq (t := 50) k131_38 rfl (by omega) (by omega) (fun h => absurd h (by decide)) (fun _ => ?_)
        refine ev_s1 (L' := [some (vr 0), some (vi g), some (vi r), some (vi i), some (vi 2)]) (S' := [vr 0]) k131_41 rfl rfl ?_
        refine ev_s1 (L' := [some (vr 0), some (vi g), some (vi r), some (vi i), some (vi 2)]) (S' := [vi 2, vr 0]) k131_42 rfl rfl ?_
        refine ev_virt (a := [vi 2]) (S' := []) k131_44 rfl (Nat.le_of_ble_eq_true rfl) (by decide) (rfl) (by omega) ?_
        refine x_found hI (v := 2) (by omega) (by omega) (fun I6 hI6 e6 f6 => ?_)
        show Ev d 131 47 [some (vr 0), some (vi g), some (vi r), some (vi i), some (vi 2)] [vi (-1000010 - 2)] (SX I6 ch kd) Q
        refine ev_goto (t := 71) k131_47 rfl ?_
        refine ev_ireturn k131_71 ?_
        refine hQ _ _ _ _ ?_
        exact m_owns hJ hw (by omega) (by omega) (by omega) (by omega) (by omega) (by omega) (fun r0 r7 hn => (hO.1.hm r r0 r7 hn).2) (by omega) (fun h => by exfalso; omega) (fun h h2 J' fm => by exfalso; omega) (fun h h2 h3 J' fm => ⟨J', rfl, rfl, hX.find ⟨hI6, e6, fun a b q1 q2 => f6 a b q1, fun _ _ => rfl⟩ fm⟩) (fun h h2 h3 J' fm => by exfalso; omega)
      · show Ev d 131 34 [some (vr 0), some (vi g), some (vi r), some (vi i), none] [vi 0] (SX I ch kd) Q
        refine ev_s1 (L' := [some (vr 0), some (vi g), some (vi r), some (vi i), some (vi 0)]) (S' := []) k131_34 rfl rfl ?_
        refine ev_s1 (L' := [some (vr 0), some (vi g), some (vi r), some (vi i), some (vi 0)]) (S' := [vi 0]) k131_36 rfl rfl ?_
        refine ev_z_eq (t := 50) k131_38 rfl (by omega) (by omega) (fun _ => ?_) (fun h => absurd h (by decide))
        refine ev_s1 (L' := [some (vr 0), some (vi g), some (vi r), some (vi i), some (vi 0)]) (S' := [vr 0]) k131_50 rfl rfl ?_
        refine ev_s1 (L' := [some (vr 0), some (vi g), some (vi r), some (vi i), some (vi 0)]) (S' := [vr 0, vr 0]) k131_51 rfl rfl ?_
        refine ev_getR k131_52 (by decide) (rfl) (x_0_7 ch kd) ?_
        refine ev_s1 (L' := [some (vr 0), some (vi g), some (vi r), some (vi i), some (vi 0)]) (S' := [vr 0, vr 40, vr 0]) k131_55 rfl rfl ?_
        refine ev_getR k131_56 (by decide) (rfl) (x_0_0 ch kd) ?_
        refine ev_s1 (L' := [some (vr 0), some (vi g), some (vi r), some (vi i), some (vi 0)]) (S' := [vi r, vr 1, vr 40, vr 0]) k131_59 rfl rfl ?_
        refine ev_aald (q := kr) k131_60 (by decide) (rfl) (by decide) (by decide) (by omega) (by omega) (rX1 hkr (by omega) (by omega)) ?_
        refine ev_getR k131_61 (by omega) ((ln1 hkr (by omega) (by omega)).2.1) ((ln1 hkr (by omega) (by omega)).2.2.2.2 ch kd) ?_
        refine ev_s1 (L' := [some (vr 0), some (vi g), some (vi r), some (vi i), some (vi 0)]) (S' := [vi i, vr (kr + 1), vr 40, vr 0]) k131_64 rfl rfl ?_
        refine ev_virt (a := [vr (kr + 1), vi i]) (S' := [vr 0]) k131_65 rfl (Nat.le_of_ble_eq_true rfl) (by decide) (rfl) (by omega) ?_
        refine g_owns hN hI (it := (kr + 1)) (fr := i) (ln1 hkr (by omega) (by omega)).2.2.1 (by omega) (by omega) (by omega) (by omega) (by omega) (?_)
        show Ev d 131 68 [some (vr 0), some (vi g), some (vi r), some (vi i), some (vi 0)] [vi (bitsF (fun v => ownB (J 6) (I (kr + 1)) i v) 10), vr 0] (SX I ch kd) Q
        refine ev_virt (a := [vi (bitsF (fun v => ownB (J 6) (I (kr + 1)) i v) 10)]) (S' := []) k131_68 rfl (Nat.le_of_ble_eq_true rfl) (by decide) (rfl) (by omega) ?_
        refine x_sound hI (v := bitsF (fun v => ownB (J 6) (I (kr + 1)) i v) 10) (fun I7 hI7 e7 f7 => ?_)
        show Ev d 131 71 [some (vr 0), some (vi g), some (vi r), some (vi i), some (vi 0)] [vi (bitsF (fun v => ownB (J 6) (I (kr + 1)) i v) 10)] (SX I7 ch kd) Q
        refine ev_ireturn k131_71 ?_
        have hit := hO.1.it (by omega) (by omega) hkr (by omega)
        have eb : bitsF (fun v => ownB (J 6) (itM J r) i v) 10 = bitsF (fun v => ownB (J 6) (I (kr + 1)) i v) 10 := bits_congr (fun j hj => (own_congr (fun j j0 j1 => hit _ (by omega) (by omega))).symm)
        refine hQ _ _ _ _ ?_
        exact m_owns hJ hw (by omega) (by omega) (by omega) (by omega) (by omega) (by omega) (fun r0 r7 hn => (hO.1.hm r r0 r7 hn).2) (by omega) (fun h => by exfalso; omega) (fun h h2 J' fm => by exfalso; omega) (fun h h2 h3 J' fm => by exfalso; omega) (fun h h2 h3 J' fm => ⟨J', by rw [eb], rfl, hX.find ⟨hI7, e7, fun a b q1 q2 => f7 a b q1, fun _ _ => rfl⟩ fm⟩)
    · show Ev d 131 15 [some (vr 0), some (vi g), some (vi r), some (vi i), none] [vi 0] (SX I ch kd) Q
      refine ev_z_ne (t := 21) k131_15 rfl (by omega) (by omega) (fun h => absurd h (by decide)) (fun _ => ?_)
      refine ev_ldc k131_18 ?_
      refine ev_ireturn k131_20 ?_
      refine hQ _ _ _ _ ?_
      exact m_owns hJ hw (by omega) (by omega) (by omega) (by omega) (by omega) (by omega) (fun r0 r7 hn => (hO.1.hm r r0 r7 hn).2) (by omega) (fun h => ⟨J, rfl, rfl, hX⟩) (fun h h2 J' fm => by exfalso; omega) (fun h h2 h3 J' fm => by exfalso; omega) (fun h h2 h3 J' fm => by exfalso; omega)
  · show Ev d 131 8 [some (vr 0), some (vi g), some (vi r), some (vi i), none] [vi 0] (SX I ch kd) Q
    refine ev_z_eq (t := 18) k131_8 rfl (by omega) (by omega) (fun _ => ?_) (fun h => absurd h (by decide))
    refine ev_ldc k131_18 ?_
    refine ev_ireturn k131_20 ?_
    refine hQ _ _ _ _ ?_
    exact m_owns hJ hw (by omega) (by omega) (by omega) (by omega) (by omega) (by omega) (fun r0 r7 hn => (hO.1.hm r r0 r7 hn).2) (by omega) (fun h => ⟨J, rfl, rfl, hX⟩) (fun h h2 J' fm => by exfalso; omega) (fun h h2 h3 J' fm => by exfalso; omega) (fun h h2 h3 J' fm => by exfalso; omega)

set_option maxHeartbeats 1000000 in
theorem s_fits {d e : Nat} {I : Nat → Int → Int} {ch : Int → Nat} {kd : Nat → Nat} {J : Nat → Int → Int} {Q : Option jV → jS → Prop} (hX : XR I ch kd J) {c r i x : Int} (ca : -2147483648 ≤ c) (cb : c < 2147483648) (ra : -2147483648 ≤ r) (rb : r < 2147483648) (ia : -2147483648 ≤ i) (ib : i < 2147483648) (xa : -2147483648 ≤ x) (xb : x < 2147483648) (hd : 13 ≤ d) (he : 13 ≤ e) (hQ : ∀ I' ch' kd' v, AN e 210 [vr 0, vi c, vi r, vi i, vi x] J v I' ch' kd' → Q (some (vi v)) (SX I' ch' kd')) : Cl d 132 [vr 0, vi c, vi r, vi i, vi x] (SX I ch kd) Q := by
  obtain ⟨hI, hJ, hN, hA, hO⟩ := id hX
  have hw := hN.2.2.1
  obtain ⟨⟨wa0, wa1⟩, ⟨wb0, wb1⟩, ⟨wc0, wc1⟩, wC, wG, wU⟩ := id hw
  obtain ⟨kr, hkr⟩ : ∃ kr : Nat, kr = 57 + 2 * r.toNat := ⟨_, rfl⟩
  have hrel := fun (r0 : 0 ≤ r) (r7 : r ≤ 7) => hO.1.rel r0 r7 hkr
  refine ⟨by rw [l132]; exact Nat.le_of_ble_eq_true rfl, ?_⟩
  rw [l132]
  show Ev d 132 0 [some (vr 0), some (vi c), some (vi r), some (vi i), some (vi x), none] [] (SX I ch kd) Q
  refine ev_s1 (L' := [some (vr 0), some (vi c), some (vi r), some (vi i), some (vi x), none]) (S' := [vr 0]) k132_0 rfl rfl ?_
  refine ev_getR k132_1 (by decide) (rfl) (x_0_5 ch kd) ?_
  refine ev_s1 (L' := [some (vr 0), some (vi c), some (vi r), some (vi i), some (vi x), none]) (S' := [vi c, vr 13]) k132_4 rfl rfl ?_
  refine ev_virt (a := [vi c]) (S' := []) k132_5 rfl (Nat.le_of_ble_eq_true rfl) (by decide) (rfl) (by omega) ?_
  refine x_hasC hN hI (i := c) (by omega) (by omega) (fun h1 => ?_) (fun h1 => ?_)
  · show Ev d 132 8 [some (vr 0), some (vi c), some (vi r), some (vi i), some (vi x), none] [vi 1] (SX I ch kd) Q
    refine ev_z_eq (t := 28) k132_8 rfl (by omega) (by omega) (fun h => absurd h (by decide)) (fun _ => ?_)
    refine ev_s1 (L' := [some (vr 0), some (vi c), some (vi r), some (vi i), some (vi x), none]) (S' := [vi r]) k132_11 rfl rfl ?_
    refine ev_static (a := [vi r]) (S' := []) k132_12 rfl (Nat.le_of_ble_eq_true rfl) (by omega) ?_
    refine x_isRow (r := r) (by omega) (by omega) (by omega) (fun h2 => ?_) (fun h2 => ?_)
    · show Ev d 132 15 [some (vr 0), some (vi c), some (vi r), some (vi i), some (vi x), none] [vi 1] (SX I ch kd) Q
      refine ev_z_eq (t := 28) k132_15 rfl (by omega) (by omega) (fun h => absurd h (by decide)) (fun _ => ?_)
      refine ev_s1 (L' := [some (vr 0), some (vi c), some (vi r), some (vi i), some (vi x), none]) (S' := [vi x]) k132_18 rfl rfl ?_
      refine ev_s1 (L' := [some (vr 0), some (vi c), some (vi r), some (vi i), some (vi x), none]) (S' := [vi 0, vi x]) k132_20 rfl rfl ?_
      refine ev_s1 (L' := [some (vr 0), some (vi c), some (vi r), some (vi i), some (vi x), none]) (S' := [vi 2, vi 0, vi x]) k132_21 rfl rfl ?_
      refine ev_static (a := [vi x, vi 0, vi 2]) (S' := []) k132_22 rfl (Nat.le_of_ble_eq_true rfl) (by omega) ?_
      refine x_within (v := x) (lo := 0) (hi := 2) (by omega) (by omega) (by omega) (by omega) (by omega) (by omega) (fun h3 => ?_) (fun h3 => ?_)
      · show Ev d 132 25 [some (vr 0), some (vi c), some (vi r), some (vi i), some (vi x), none] [vi 1] (SX I ch kd) Q
        refine ev_z_ne (t := 31) k132_25 rfl (by omega) (by omega) (fun _ => ?_) (fun h => absurd h (by decide))
        have hre := hrel (by omega) (by omega)
        refine ev_s1 (L' := [some (vr 0), some (vi c), some (vi r), some (vi i), some (vi x), none]) (S' := [vr 0]) k132_31 rfl rfl ?_
        refine ev_s1 (L' := [some (vr 0), some (vi c), some (vi r), some (vi i), some (vi x), none]) (S' := [vi r, vr 0]) k132_32 rfl rfl ?_
        refine ev_s1 (L' := [some (vr 0), some (vi c), some (vi r), some (vi i), some (vi x), none]) (S' := [vi i, vi r, vr 0]) k132_33 rfl rfl ?_
        refine ev_s1 (L' := [some (vr 0), some (vi c), some (vi r), some (vi i), some (vi x), none]) (S' := [vr 0, vi i, vi r, vr 0]) k132_34 rfl rfl ?_
        refine ev_getR k132_35 (by decide) (rfl) (x_0_5 ch kd) ?_
        refine ev_getI k132_38 (by decide) (rfl) ?_
        show Ev d 132 41 [some (vr 0), some (vi c), some (vi r), some (vi i), some (vi x), none] [vi (I 13 7), vi i, vi r, vr 0] (SX I ch kd) Q
        have rr4 := hI 13 7
        rw [hN.2.1.2.1]
        rw [hN.2.1.2.1] at rr4
        refine ev_virt (a := [vi r, vi i, vi (J 6 2)]) (S' := []) k132_41 rfl (Nat.le_of_ble_eq_true rfl) (by decide) (rfl) (by omega) ?_
        refine x_finding hI (r := r) (i := i) (n := J 6 2) (by omega) (by omega) (by omega) (by omega) (by omega) (by omega) hkr (by omega) (by omega) (fun hq5 => ?_) (fun hq5 hp5 => ?_) (fun hq5 hp5 => ?_)
        · show Ev d 132 44 [some (vr 0), some (vi c), some (vi r), some (vi i), some (vi x), none] [vi 1] (SX I ch kd) Q
          refine ev_s1 (L' := [some (vr 0), some (vi c), some (vi r), some (vi i), some (vi x), some (vi 1)]) (S' := []) k132_44 rfl rfl ?_
          refine ev_s1 (L' := [some (vr 0), some (vi c), some (vi r), some (vi i), some (vi x), some (vi 1)]) (S' := [vi 1]) k132_46 rfl rfl ?_
          refine ev_z_eq (t := 60) k132_48 rfl (by omega) (by omega) (fun h => absurd h (by decide)) (fun _ => ?_)
          refine ev_s1 (L' := [some (vr 0), some (vi c), some (vi r), some (vi i), some (vi x), some (vi 1)]) (S' := [vr 0]) k132_51 rfl rfl ?_
          refine ev_s1 (L' := [some (vr 0), some (vi c), some (vi r), some (vi i), some (vi x), some (vi 1)]) (S' := [vi 1, vr 0]) k132_52 rfl rfl ?_
          refine ev_virt (a := [vi 1]) (S' := []) k132_54 rfl (Nat.le_of_ble_eq_true rfl) (by decide) (rfl) (by omega) ?_
          refine x_found hI (v := 1) (by omega) (by omega) (fun I6 hI6 e6 f6 => ?_)
          show Ev d 132 57 [some (vr 0), some (vi c), some (vi r), some (vi i), some (vi x), some (vi 1)] [vi (-1000010 - 1)] (SX I6 ch kd) Q
          refine ev_goto (t := 84) k132_57 rfl ?_
          refine ev_ireturn k132_84 ?_
          refine hQ _ _ _ _ ?_
          exact m_fits hJ hw (by omega) (by omega) (by omega) (by omega) (by omega) (by omega) (by omega) (by omega) (fun r0 r7 hn => (hO.1.hm r r0 r7 hn).2) (by omega) (fun h => by exfalso; omega) (fun h h2 J' fm => ⟨J', rfl, rfl, hX.find ⟨hI6, e6, fun a b q1 q2 => f6 a b q1, fun _ _ => rfl⟩ fm⟩) (fun h h2 h3 J' fm => by exfalso; omega) (fun h h2 h3 J' fm => by exfalso; omega)
        · show Ev d 132 44 [some (vr 0), some (vi c), some (vi r), some (vi i), some (vi x), none] [vi 2] (SX I ch kd) Q
          refine ev_s1 (L' := [some (vr 0), some (vi c), some (vi r), some (vi i), some (vi x), some (vi 2)]) (S' := []) k132_44 rfl rfl ?_
          refine ev_s1 (L' := [some (vr 0), some (vi c), some (vi r), some (vi i), some (vi x), some (vi 2)]) (S' := [vi 2]) k132_46 rfl rfl ?_
          refine ev_z_eq (t := 60) k132_48 rfl (by omega) (by omega) (fun h => absurd h (by decide)) (fun _ => ?_)
          refine ev_s1 (L' := [some (vr 0), some (vi c), some (vi r), some (vi i), some (vi x), some (vi 2)]) (S' := [vr 0]) k132_51 rfl rfl ?_
          refine ev_s1 (L' := [some (vr 0), some (vi c), some (vi r), some (vi i), some (vi x), some (vi 2)]) (S' := [vi 2, vr 0]) k132_52 rfl rfl ?_
          refine ev_virt (a := [vi 2]) (S' := []) k132_54 rfl (Nat.le_of_ble_eq_true rfl) (by decide) (rfl) (by omega) ?_
          refine x_found hI (v := 2) (by omega) (by omega) (fun I7 hI7 e7 f7 => ?_)
          show Ev d 132 57 [some (vr 0), some (vi c), some (vi r), some (vi i), some (vi x), some (vi 2)] [vi (-1000010 - 2)] (SX I7 ch kd) Q
          refine ev_goto (t := 84) k132_57 rfl ?_
          refine ev_ireturn k132_84 ?_
          refine hQ _ _ _ _ ?_
          exact m_fits hJ hw (by omega) (by omega) (by omega) (by omega) (by omega) (by omega) (by omega) (by omega) (fun r0 r7 hn => (hO.1.hm r r0 r7 hn).2) (by omega) (fun h => by exfalso; omega) (fun h h2 J' fm => by exfalso; omega) (fun h h2 h3 J' fm => ⟨J', rfl, rfl, hX.find ⟨hI7, e7, fun a b q1 q2 => f7 a b q1, fun _ _ => rfl⟩ fm⟩) (fun h h2 h3 J' fm => by exfalso; omega)
        · show Ev d 132 44 [some (vr 0), some (vi c), some (vi r), some (vi i), some (vi x), none] [vi 0] (SX I ch kd) Q
          refine ev_s1 (L' := [some (vr 0), some (vi c), some (vi r), some (vi i), some (vi x), some (vi 0)]) (S' := []) k132_44 rfl rfl ?_
          refine ev_s1 (L' := [some (vr 0), some (vi c), some (vi r), some (vi i), some (vi x), some (vi 0)]) (S' := [vi 0]) k132_46 rfl rfl ?_
          refine ev_z_eq (t := 60) k132_48 rfl (by omega) (by omega) (fun _ => ?_) (fun h => absurd h (by decide))
          refine ev_s1 (L' := [some (vr 0), some (vi c), some (vi r), some (vi i), some (vi x), some (vi 0)]) (S' := [vr 0]) k132_60 rfl rfl ?_
          refine ev_s1 (L' := [some (vr 0), some (vi c), some (vi r), some (vi i), some (vi x), some (vi 0)]) (S' := [vr 0, vr 0]) k132_61 rfl rfl ?_
          refine ev_getR k132_62 (by decide) (rfl) (x_0_7 ch kd) ?_
          refine ev_s1 (L' := [some (vr 0), some (vi c), some (vi r), some (vi i), some (vi x), some (vi 0)]) (S' := [vi c, vr 40, vr 0]) k132_65 rfl rfl ?_
          refine ev_s1 (L' := [some (vr 0), some (vi c), some (vi r), some (vi i), some (vi x), some (vi 0)]) (S' := [vr 0, vi c, vr 40, vr 0]) k132_66 rfl rfl ?_
          refine ev_getR k132_67 (by decide) (rfl) (x_0_0 ch kd) ?_
          refine ev_s1 (L' := [some (vr 0), some (vi c), some (vi r), some (vi i), some (vi x), some (vi 0)]) (S' := [vi r, vr 1, vi c, vr 40, vr 0]) k132_70 rfl rfl ?_
          refine ev_aald (q := kr) k132_71 (by decide) (rfl) (by decide) (by decide) (by omega) (by omega) (rX1 hkr (by omega) (by omega)) ?_
          refine ev_getR k132_72 (by omega) ((ln1 hkr (by omega) (by omega)).2.1) ((ln1 hkr (by omega) (by omega)).2.2.2.2 ch kd) ?_
          refine ev_s1 (L' := [some (vr 0), some (vi c), some (vi r), some (vi i), some (vi x), some (vi 0)]) (S' := [vi i, vr (kr + 1), vi c, vr 40, vr 0]) k132_75 rfl rfl ?_
          refine ev_s1 (L' := [some (vr 0), some (vi c), some (vi r), some (vi i), some (vi x), some (vi 0)]) (S' := [vi x, vi i, vr (kr + 1), vi c, vr 40, vr 0]) k132_76 rfl rfl ?_
          refine ev_virt (a := [vi c, vr (kr + 1), vi i, vi x]) (S' := [vr 0]) k132_78 rfl (Nat.le_of_ble_eq_true rfl) (by decide) (rfl) (by omega) ?_
          refine g_fits hN hI (it := (kr + 1)) (fr := i) (ln1 hkr (by omega) (by omega)).2.2.1 (by omega) (by omega) (by omega) (by omega) (by omega) (by omega) (by omega) (by omega) (fun I8 kd8 fx8 => ?_)
          show Ev d 132 81 [some (vr 0), some (vi c), some (vi r), some (vi i), some (vi x), some (vi 0)] [vi (bitsF (fitP (J 6) (I (kr + 1)) i c x) (fitH x + 1).toNat), vr 0] (SX I8 ch kd8) Q
          refine ev_virt (a := [vi (bitsF (fitP (J 6) (I (kr + 1)) i c x) (fitH x + 1).toNat)]) (S' := []) k132_81 rfl (Nat.le_of_ble_eq_true rfl) (by decide) (rfl) (by omega) ?_
          refine x_sound fx8.1 (v := bitsF (fitP (J 6) (I (kr + 1)) i c x) (fitH x + 1).toNat) (fun I9 hI9 e9 f9 => ?_)
          show Ev d 132 84 [some (vr 0), some (vi c), some (vi r), some (vi i), some (vi x), some (vi 0)] [vi (bitsF (fitP (J 6) (I (kr + 1)) i c x) (fitH x + 1).toNat)] (SX I9 ch kd8) Q
          refine ev_ireturn k132_84 ?_
          have hit := hO.1.it (by omega) (by omega) hkr (by omega)
          have eb : bitsF (fitP (J 6) (itF (J 3) r) i c x) (fitH x + 1).toNat = bitsF (fitP (J 6) (I (kr + 1)) i c x) (fitH x + 1).toNat := bits_congr (fun j hj => (fitp_congr (fun j j0 j1 => hit _ (by omega) (by omega))).symm)
          refine hQ _ _ _ _ ?_
          exact m_fits hJ hw (by omega) (by omega) (by omega) (by omega) (by omega) (by omega) (by omega) (by omega) (fun r0 r7 hn => (hO.1.hm r r0 r7 hn).2) (by omega) (fun h => by exfalso; omega) (fun h h2 J' fm => by exfalso; omega) (fun h h2 h3 J' fm => by exfalso; omega) (fun h h2 h3 J' fm => ⟨J', by rw [eb], rfl, hX.find ⟨hI9, e9, fun a b q1 q2 => (f9 a b q1).trans (fx8.2.1 a b q2), fx8.2.2⟩ fm⟩)
      · show Ev d 132 25 [some (vr 0), some (vi c), some (vi r), some (vi i), some (vi x), none] [vi 0] (SX I ch kd) Q
        refine ev_z_ne (t := 31) k132_25 rfl (by omega) (by omega) (fun h => absurd h (by decide)) (fun _ => ?_)
        refine ev_ldc k132_28 ?_
        refine ev_ireturn k132_30 ?_
        refine hQ _ _ _ _ ?_
        exact m_fits hJ hw (by omega) (by omega) (by omega) (by omega) (by omega) (by omega) (by omega) (by omega) (fun r0 r7 hn => (hO.1.hm r r0 r7 hn).2) (by omega) (fun h => ⟨J, rfl, rfl, hX⟩) (fun h h2 J' fm => by exfalso; omega) (fun h h2 h3 J' fm => by exfalso; omega) (fun h h2 h3 J' fm => by exfalso; omega)
    · show Ev d 132 15 [some (vr 0), some (vi c), some (vi r), some (vi i), some (vi x), none] [vi 0] (SX I ch kd) Q
      refine ev_z_eq (t := 28) k132_15 rfl (by omega) (by omega) (fun _ => ?_) (fun h => absurd h (by decide))
      refine ev_ldc k132_28 ?_
      refine ev_ireturn k132_30 ?_
      refine hQ _ _ _ _ ?_
      exact m_fits hJ hw (by omega) (by omega) (by omega) (by omega) (by omega) (by omega) (by omega) (by omega) (fun r0 r7 hn => (hO.1.hm r r0 r7 hn).2) (by omega) (fun h => ⟨J, rfl, rfl, hX⟩) (fun h h2 J' fm => by exfalso; omega) (fun h h2 h3 J' fm => by exfalso; omega) (fun h h2 h3 J' fm => by exfalso; omega)
  · show Ev d 132 8 [some (vr 0), some (vi c), some (vi r), some (vi i), some (vi x), none] [vi 0] (SX I ch kd) Q
    refine ev_z_eq (t := 28) k132_8 rfl (by omega) (by omega) (fun _ => ?_) (fun h => absurd h (by decide))
    refine ev_ldc k132_28 ?_
    refine ev_ireturn k132_30 ?_
    refine hQ _ _ _ _ ?_
    exact m_fits hJ hw (by omega) (by omega) (by omega) (by omega) (by omega) (by omega) (by omega) (by omega) (fun r0 r7 hn => (hO.1.hm r r0 r7 hn).2) (by omega) (fun h => ⟨J, rfl, rfl, hX⟩) (fun h h2 J' fm => by exfalso; omega) (fun h h2 h3 J' fm => by exfalso; omega) (fun h h2 h3 J' fm => by exfalso; omega)

set_option maxHeartbeats 2000000 in
theorem x_isOf {d : Nat} {I : Nat → Int → Int} {ch : Int → Nat} {kd : Nat → Nat} {Q : Option jV → jS → Prop} (hI : Rg I) {k : Nat} {x : Int} (hk : 8 ≤ k ∧ k ≤ 12) (x0 : 0 ≤ x) (x5 : x ≤ 5) (hT : (x = 0 ∨ x = (k : Int) - 7 ∨ (x = 1 ∧ (k : Int) - 7 < 4) ∨ (x = 4 ∧ (k : Int) - 7 = 5)) → Q (some (vi 1)) (SX I ch kd)) (hF : ¬ (x = 0 ∨ x = (k : Int) - 7 ∨ (x = 1 ∧ (k : Int) - 7 < 4) ∨ (x = 4 ∧ (k : Int) - 7 = 5)) → Q (some (vi 0)) (SX I ch kd)) : Cl d 153 [vr k, vi x] (SX I ch kd) Q := by
  rcases (show k = 8 ∨ k = 9 ∨ k = 10 ∨ k = 11 ∨ k = 12 by omega) with rfl | rfl | rfl | rfl | rfl
  · refine ⟨by rw [l153]; exact Nat.le_of_ble_eq_true rfl, ?_⟩
    rw [l153]
    show Ev d 153 0 [some (vr 8), some (vi x)] [] (SX I ch kd) Q
    refine ev_s1 (L' := [some (vr 8), some (vi x)]) (S' := [vi x]) k153_0 rfl rfl ?_
    rcases (show x = 0 ∨ x = 1 ∨ x = 2 ∨ x = 3 ∨ x = 4 ∨ x = 5 ∨ (x < 0 ∨ 5 < x) by omega) with hs1 | hs1 | hs1 | hs1 | hs1 | hs1 | hs1
    · refine ev_tsw (t := 40) k153_1 hs1 rfl ?_
      refine ev_s1 (L' := [some (vr 8), some (vi x)]) (S' := [vi 1]) k153_40 rfl rfl ?_
      refine ev_zreturn k153_41 (by decide) ?_
      exact hT (by omega)
    · refine ev_tsw (t := 42) k153_1 hs1 rfl ?_
      refine ev_s1 (L' := [some (vr 8), some (vi x)]) (S' := [vr 8]) k153_42 rfl rfl ?_
      refine ev_inst (r := true) k153_43 (by decide) (rfl) (by decide) rfl ?_
      show Ev d 153 46 [some (vr 8), some (vi x)] [vi 1] (SX I ch kd) Q
      refine ev_zreturn k153_46 (by decide) ?_
      exact hT (by omega)
    · refine ev_tsw (t := 47) k153_1 hs1 rfl ?_
      refine ev_s1 (L' := [some (vr 8), some (vi x)]) (S' := [vr 8]) k153_47 rfl rfl ?_
      refine ev_inst (r := false) k153_48 (by decide) (rfl) (by decide) rfl ?_
      show Ev d 153 51 [some (vr 8), some (vi x)] [vi 0] (SX I ch kd) Q
      refine ev_zreturn k153_51 (by decide) ?_
      exact hF (by omega)
    · refine ev_tsw (t := 52) k153_1 hs1 rfl ?_
      refine ev_s1 (L' := [some (vr 8), some (vi x)]) (S' := [vr 8]) k153_52 rfl rfl ?_
      refine ev_inst (r := false) k153_53 (by decide) (rfl) (by decide) rfl ?_
      show Ev d 153 56 [some (vr 8), some (vi x)] [vi 0] (SX I ch kd) Q
      refine ev_zreturn k153_56 (by decide) ?_
      exact hF (by omega)
    · refine ev_tsw (t := 57) k153_1 hs1 rfl ?_
      refine ev_s1 (L' := [some (vr 8), some (vi x)]) (S' := [vr 8]) k153_57 rfl rfl ?_
      refine ev_inst (r := false) k153_58 (by decide) (rfl) (by decide) rfl ?_
      show Ev d 153 61 [some (vr 8), some (vi x)] [vi 0] (SX I ch kd) Q
      refine ev_zreturn k153_61 (by decide) ?_
      exact hF (by omega)
    · refine ev_tsw (t := 62) k153_1 hs1 rfl ?_
      refine ev_s1 (L' := [some (vr 8), some (vi x)]) (S' := [vr 8]) k153_62 rfl rfl ?_
      refine ev_inst (r := false) k153_63 (by decide) (rfl) (by decide) rfl ?_
      show Ev d 153 66 [some (vr 8), some (vi x)] [vi 0] (SX I ch kd) Q
      refine ev_zreturn k153_66 (by decide) ?_
      exact hF (by omega)
    · refine ev_tsd (t := 67) k153_1 (by omega) (by omega) hs1 rfl ?_
      refine ev_s1 (L' := [some (vr 8), some (vi x)]) (S' := [vi 0]) k153_67 rfl rfl ?_
      refine ev_zreturn k153_68 (by decide) ?_
      exact hF (by omega)
  · refine ⟨by rw [l153]; exact Nat.le_of_ble_eq_true rfl, ?_⟩
    rw [l153]
    show Ev d 153 0 [some (vr 9), some (vi x)] [] (SX I ch kd) Q
    refine ev_s1 (L' := [some (vr 9), some (vi x)]) (S' := [vi x]) k153_0 rfl rfl ?_
    rcases (show x = 0 ∨ x = 1 ∨ x = 2 ∨ x = 3 ∨ x = 4 ∨ x = 5 ∨ (x < 0 ∨ 5 < x) by omega) with hs1 | hs1 | hs1 | hs1 | hs1 | hs1 | hs1
    · refine ev_tsw (t := 40) k153_1 hs1 rfl ?_
      refine ev_s1 (L' := [some (vr 9), some (vi x)]) (S' := [vi 1]) k153_40 rfl rfl ?_
      refine ev_zreturn k153_41 (by decide) ?_
      exact hT (by omega)
    · refine ev_tsw (t := 42) k153_1 hs1 rfl ?_
      refine ev_s1 (L' := [some (vr 9), some (vi x)]) (S' := [vr 9]) k153_42 rfl rfl ?_
      refine ev_inst (r := true) k153_43 (by decide) (rfl) (by decide) rfl ?_
      show Ev d 153 46 [some (vr 9), some (vi x)] [vi 1] (SX I ch kd) Q
      refine ev_zreturn k153_46 (by decide) ?_
      exact hT (by omega)
    · refine ev_tsw (t := 47) k153_1 hs1 rfl ?_
      refine ev_s1 (L' := [some (vr 9), some (vi x)]) (S' := [vr 9]) k153_47 rfl rfl ?_
      refine ev_inst (r := true) k153_48 (by decide) (rfl) (by decide) rfl ?_
      show Ev d 153 51 [some (vr 9), some (vi x)] [vi 1] (SX I ch kd) Q
      refine ev_zreturn k153_51 (by decide) ?_
      exact hT (by omega)
    · refine ev_tsw (t := 52) k153_1 hs1 rfl ?_
      refine ev_s1 (L' := [some (vr 9), some (vi x)]) (S' := [vr 9]) k153_52 rfl rfl ?_
      refine ev_inst (r := false) k153_53 (by decide) (rfl) (by decide) rfl ?_
      show Ev d 153 56 [some (vr 9), some (vi x)] [vi 0] (SX I ch kd) Q
      refine ev_zreturn k153_56 (by decide) ?_
      exact hF (by omega)
    · refine ev_tsw (t := 57) k153_1 hs1 rfl ?_
      refine ev_s1 (L' := [some (vr 9), some (vi x)]) (S' := [vr 9]) k153_57 rfl rfl ?_
      refine ev_inst (r := false) k153_58 (by decide) (rfl) (by decide) rfl ?_
      show Ev d 153 61 [some (vr 9), some (vi x)] [vi 0] (SX I ch kd) Q
      refine ev_zreturn k153_61 (by decide) ?_
      exact hF (by omega)
    · refine ev_tsw (t := 62) k153_1 hs1 rfl ?_
      refine ev_s1 (L' := [some (vr 9), some (vi x)]) (S' := [vr 9]) k153_62 rfl rfl ?_
      refine ev_inst (r := false) k153_63 (by decide) (rfl) (by decide) rfl ?_
      show Ev d 153 66 [some (vr 9), some (vi x)] [vi 0] (SX I ch kd) Q
      refine ev_zreturn k153_66 (by decide) ?_
      exact hF (by omega)
    · refine ev_tsd (t := 67) k153_1 (by omega) (by omega) hs1 rfl ?_
      refine ev_s1 (L' := [some (vr 9), some (vi x)]) (S' := [vi 0]) k153_67 rfl rfl ?_
      refine ev_zreturn k153_68 (by decide) ?_
      exact hF (by omega)
  · refine ⟨by rw [l153]; exact Nat.le_of_ble_eq_true rfl, ?_⟩
    rw [l153]
    show Ev d 153 0 [some (vr 10), some (vi x)] [] (SX I ch kd) Q
    refine ev_s1 (L' := [some (vr 10), some (vi x)]) (S' := [vi x]) k153_0 rfl rfl ?_
    rcases (show x = 0 ∨ x = 1 ∨ x = 2 ∨ x = 3 ∨ x = 4 ∨ x = 5 ∨ (x < 0 ∨ 5 < x) by omega) with hs1 | hs1 | hs1 | hs1 | hs1 | hs1 | hs1
    · refine ev_tsw (t := 40) k153_1 hs1 rfl ?_
      refine ev_s1 (L' := [some (vr 10), some (vi x)]) (S' := [vi 1]) k153_40 rfl rfl ?_
      refine ev_zreturn k153_41 (by decide) ?_
      exact hT (by omega)
    · refine ev_tsw (t := 42) k153_1 hs1 rfl ?_
      refine ev_s1 (L' := [some (vr 10), some (vi x)]) (S' := [vr 10]) k153_42 rfl rfl ?_
      refine ev_inst (r := true) k153_43 (by decide) (rfl) (by decide) rfl ?_
      show Ev d 153 46 [some (vr 10), some (vi x)] [vi 1] (SX I ch kd) Q
      refine ev_zreturn k153_46 (by decide) ?_
      exact hT (by omega)
    · refine ev_tsw (t := 47) k153_1 hs1 rfl ?_
      refine ev_s1 (L' := [some (vr 10), some (vi x)]) (S' := [vr 10]) k153_47 rfl rfl ?_
      refine ev_inst (r := false) k153_48 (by decide) (rfl) (by decide) rfl ?_
      show Ev d 153 51 [some (vr 10), some (vi x)] [vi 0] (SX I ch kd) Q
      refine ev_zreturn k153_51 (by decide) ?_
      exact hF (by omega)
    · refine ev_tsw (t := 52) k153_1 hs1 rfl ?_
      refine ev_s1 (L' := [some (vr 10), some (vi x)]) (S' := [vr 10]) k153_52 rfl rfl ?_
      refine ev_inst (r := true) k153_53 (by decide) (rfl) (by decide) rfl ?_
      show Ev d 153 56 [some (vr 10), some (vi x)] [vi 1] (SX I ch kd) Q
      refine ev_zreturn k153_56 (by decide) ?_
      exact hT (by omega)
    · refine ev_tsw (t := 57) k153_1 hs1 rfl ?_
      refine ev_s1 (L' := [some (vr 10), some (vi x)]) (S' := [vr 10]) k153_57 rfl rfl ?_
      refine ev_inst (r := false) k153_58 (by decide) (rfl) (by decide) rfl ?_
      show Ev d 153 61 [some (vr 10), some (vi x)] [vi 0] (SX I ch kd) Q
      refine ev_zreturn k153_61 (by decide) ?_
      exact hF (by omega)
    · refine ev_tsw (t := 62) k153_1 hs1 rfl ?_
      refine ev_s1 (L' := [some (vr 10), some (vi x)]) (S' := [vr 10]) k153_62 rfl rfl ?_
      refine ev_inst (r := false) k153_63 (by decide) (rfl) (by decide) rfl ?_
      show Ev d 153 66 [some (vr 10), some (vi x)] [vi 0] (SX I ch kd) Q
      refine ev_zreturn k153_66 (by decide) ?_
      exact hF (by omega)
    · refine ev_tsd (t := 67) k153_1 (by omega) (by omega) hs1 rfl ?_
      refine ev_s1 (L' := [some (vr 10), some (vi x)]) (S' := [vi 0]) k153_67 rfl rfl ?_
      refine ev_zreturn k153_68 (by decide) ?_
      exact hF (by omega)
  · refine ⟨by rw [l153]; exact Nat.le_of_ble_eq_true rfl, ?_⟩
    rw [l153]
    show Ev d 153 0 [some (vr 11), some (vi x)] [] (SX I ch kd) Q
    refine ev_s1 (L' := [some (vr 11), some (vi x)]) (S' := [vi x]) k153_0 rfl rfl ?_
    rcases (show x = 0 ∨ x = 1 ∨ x = 2 ∨ x = 3 ∨ x = 4 ∨ x = 5 ∨ (x < 0 ∨ 5 < x) by omega) with hs1 | hs1 | hs1 | hs1 | hs1 | hs1 | hs1
    · refine ev_tsw (t := 40) k153_1 hs1 rfl ?_
      refine ev_s1 (L' := [some (vr 11), some (vi x)]) (S' := [vi 1]) k153_40 rfl rfl ?_
      refine ev_zreturn k153_41 (by decide) ?_
      exact hT (by omega)
    · refine ev_tsw (t := 42) k153_1 hs1 rfl ?_
      refine ev_s1 (L' := [some (vr 11), some (vi x)]) (S' := [vr 11]) k153_42 rfl rfl ?_
      refine ev_inst (r := false) k153_43 (by decide) (rfl) (by decide) rfl ?_
      show Ev d 153 46 [some (vr 11), some (vi x)] [vi 0] (SX I ch kd) Q
      refine ev_zreturn k153_46 (by decide) ?_
      exact hF (by omega)
    · refine ev_tsw (t := 47) k153_1 hs1 rfl ?_
      refine ev_s1 (L' := [some (vr 11), some (vi x)]) (S' := [vr 11]) k153_47 rfl rfl ?_
      refine ev_inst (r := false) k153_48 (by decide) (rfl) (by decide) rfl ?_
      show Ev d 153 51 [some (vr 11), some (vi x)] [vi 0] (SX I ch kd) Q
      refine ev_zreturn k153_51 (by decide) ?_
      exact hF (by omega)
    · refine ev_tsw (t := 52) k153_1 hs1 rfl ?_
      refine ev_s1 (L' := [some (vr 11), some (vi x)]) (S' := [vr 11]) k153_52 rfl rfl ?_
      refine ev_inst (r := false) k153_53 (by decide) (rfl) (by decide) rfl ?_
      show Ev d 153 56 [some (vr 11), some (vi x)] [vi 0] (SX I ch kd) Q
      refine ev_zreturn k153_56 (by decide) ?_
      exact hF (by omega)
    · refine ev_tsw (t := 57) k153_1 hs1 rfl ?_
      refine ev_s1 (L' := [some (vr 11), some (vi x)]) (S' := [vr 11]) k153_57 rfl rfl ?_
      refine ev_inst (r := true) k153_58 (by decide) (rfl) (by decide) rfl ?_
      show Ev d 153 61 [some (vr 11), some (vi x)] [vi 1] (SX I ch kd) Q
      refine ev_zreturn k153_61 (by decide) ?_
      exact hT (by omega)
    · refine ev_tsw (t := 62) k153_1 hs1 rfl ?_
      refine ev_s1 (L' := [some (vr 11), some (vi x)]) (S' := [vr 11]) k153_62 rfl rfl ?_
      refine ev_inst (r := false) k153_63 (by decide) (rfl) (by decide) rfl ?_
      show Ev d 153 66 [some (vr 11), some (vi x)] [vi 0] (SX I ch kd) Q
      refine ev_zreturn k153_66 (by decide) ?_
      exact hF (by omega)
    · refine ev_tsd (t := 67) k153_1 (by omega) (by omega) hs1 rfl ?_
      refine ev_s1 (L' := [some (vr 11), some (vi x)]) (S' := [vi 0]) k153_67 rfl rfl ?_
      refine ev_zreturn k153_68 (by decide) ?_
      exact hF (by omega)
  · refine ⟨by rw [l153]; exact Nat.le_of_ble_eq_true rfl, ?_⟩
    rw [l153]
    show Ev d 153 0 [some (vr 12), some (vi x)] [] (SX I ch kd) Q
    refine ev_s1 (L' := [some (vr 12), some (vi x)]) (S' := [vi x]) k153_0 rfl rfl ?_
    rcases (show x = 0 ∨ x = 1 ∨ x = 2 ∨ x = 3 ∨ x = 4 ∨ x = 5 ∨ (x < 0 ∨ 5 < x) by omega) with hs1 | hs1 | hs1 | hs1 | hs1 | hs1 | hs1
    · refine ev_tsw (t := 40) k153_1 hs1 rfl ?_
      refine ev_s1 (L' := [some (vr 12), some (vi x)]) (S' := [vi 1]) k153_40 rfl rfl ?_
      refine ev_zreturn k153_41 (by decide) ?_
      exact hT (by omega)
    · refine ev_tsw (t := 42) k153_1 hs1 rfl ?_
      refine ev_s1 (L' := [some (vr 12), some (vi x)]) (S' := [vr 12]) k153_42 rfl rfl ?_
      refine ev_inst (r := false) k153_43 (by decide) (rfl) (by decide) rfl ?_
      show Ev d 153 46 [some (vr 12), some (vi x)] [vi 0] (SX I ch kd) Q
      refine ev_zreturn k153_46 (by decide) ?_
      exact hF (by omega)
    · refine ev_tsw (t := 47) k153_1 hs1 rfl ?_
      refine ev_s1 (L' := [some (vr 12), some (vi x)]) (S' := [vr 12]) k153_47 rfl rfl ?_
      refine ev_inst (r := false) k153_48 (by decide) (rfl) (by decide) rfl ?_
      show Ev d 153 51 [some (vr 12), some (vi x)] [vi 0] (SX I ch kd) Q
      refine ev_zreturn k153_51 (by decide) ?_
      exact hF (by omega)
    · refine ev_tsw (t := 52) k153_1 hs1 rfl ?_
      refine ev_s1 (L' := [some (vr 12), some (vi x)]) (S' := [vr 12]) k153_52 rfl rfl ?_
      refine ev_inst (r := false) k153_53 (by decide) (rfl) (by decide) rfl ?_
      show Ev d 153 56 [some (vr 12), some (vi x)] [vi 0] (SX I ch kd) Q
      refine ev_zreturn k153_56 (by decide) ?_
      exact hF (by omega)
    · refine ev_tsw (t := 57) k153_1 hs1 rfl ?_
      refine ev_s1 (L' := [some (vr 12), some (vi x)]) (S' := [vr 12]) k153_57 rfl rfl ?_
      refine ev_inst (r := true) k153_58 (by decide) (rfl) (by decide) rfl ?_
      show Ev d 153 61 [some (vr 12), some (vi x)] [vi 1] (SX I ch kd) Q
      refine ev_zreturn k153_61 (by decide) ?_
      exact hT (by omega)
    · refine ev_tsw (t := 62) k153_1 hs1 rfl ?_
      refine ev_s1 (L' := [some (vr 12), some (vi x)]) (S' := [vr 12]) k153_62 rfl rfl ?_
      refine ev_inst (r := true) k153_63 (by decide) (rfl) (by decide) rfl ?_
      show Ev d 153 66 [some (vr 12), some (vi x)] [vi 1] (SX I ch kd) Q
      refine ev_zreturn k153_66 (by decide) ?_
      exact hT (by omega)
    · refine ev_tsd (t := 67) k153_1 (by omega) (by omega) hs1 rfl ?_
      refine ev_s1 (L' := [some (vr 12), some (vi x)]) (S' := [vi 0]) k153_67 rfl rfl ?_
      refine ev_zreturn k153_68 (by decide) ?_
      exact hF (by omega)

set_option maxHeartbeats 1000000 in
theorem s_as {d e : Nat} {I : Nat → Int → Int} {ch : Int → Nat} {kd : Nat → Nat} {J : Nat → Int → Int} {Q : Option jV → jS → Prop} (hX : XR I ch kd J) {c k : Int} (ca : -2147483648 ≤ c) (cb : c < 2147483648) (ka : -2147483648 ≤ k) (kb : k < 2147483648) (hd : 13 ≤ d) (he : 13 ≤ e) (hQ : ∀ I' ch' kd' v, AN e 218 [vr 0, vi c, vi k] J v I' ch' kd' → Q (some (vi v)) (SX I' ch' kd')) : Cl d 138 [vr 0, vi c, vi k] (SX I ch kd) Q := by
  obtain ⟨hI, hJ, hN, hA, hO⟩ := id hX
  have hw := hN.2.2.1
  obtain ⟨⟨wa0, wa1⟩, ⟨wb0, wb1⟩, ⟨wc0, wc1⟩, wC, wG, wU⟩ := id hw
  refine ⟨by rw [l138]; exact Nat.le_of_ble_eq_true rfl, ?_⟩
  rw [l138]
  show Ev d 138 0 [some (vr 0), some (vi c), some (vi k)] [] (SX I ch kd) Q
  refine ev_s1 (L' := [some (vr 0), some (vi c), some (vi k)]) (S' := [vr 0]) k138_0 rfl rfl ?_
  refine ev_getR k138_1 (by decide) (rfl) (x_0_5 ch kd) ?_
  refine ev_s1 (L' := [some (vr 0), some (vi c), some (vi k)]) (S' := [vi c, vr 13]) k138_4 rfl rfl ?_
  refine ev_virt (a := [vi c]) (S' := []) k138_5 rfl (Nat.le_of_ble_eq_true rfl) (by decide) (rfl) (by omega) ?_
  refine x_hasC hN hI (i := c) (by omega) (by omega) (fun h1 => ?_) (fun h1 => ?_)
  · show Ev d 138 8 [some (vr 0), some (vi c), some (vi k)] [vi 1] (SX I ch kd) Q
    refine ev_z_eq (t := 20) k138_8 rfl (by omega) (by omega) (fun h => absurd h (by decide)) (fun _ => ?_)
    refine ev_s1 (L' := [some (vr 0), some (vi c), some (vi k)]) (S' := [vi k]) k138_11 rfl rfl ?_
    refine ev_s1 (L' := [some (vr 0), some (vi c), some (vi k)]) (S' := [vi 0, vi k]) k138_12 rfl rfl ?_
    refine ev_s1 (L' := [some (vr 0), some (vi c), some (vi k)]) (S' := [vi 5, vi 0, vi k]) k138_13 rfl rfl ?_
    refine ev_static (a := [vi k, vi 0, vi 5]) (S' := []) k138_14 rfl (Nat.le_of_ble_eq_true rfl) (by omega) ?_
    refine x_within (v := k) (lo := 0) (hi := 5) (by omega) (by omega) (by omega) (by omega) (by omega) (by omega) (fun h2 => ?_) (fun h2 => ?_)
    · show Ev d 138 17 [some (vr 0), some (vi c), some (vi k)] [vi 1] (SX I ch kd) Q
      refine ev_z_ne (t := 23) k138_17 rfl (by omega) (by omega) (fun _ => ?_) (fun h => absurd h (by decide))
      refine ev_s1 (L' := [some (vr 0), some (vi c), some (vi k)]) (S' := [vr 0]) k138_23 rfl rfl ?_
      refine ev_getR k138_24 (by decide) (rfl) (x_0_5 ch kd) ?_
      refine ev_getR k138_27 (by decide) (rfl) (x_13_1 ch kd) ?_
      refine ev_s1 (L' := [some (vr 0), some (vi c), some (vi k)]) (S' := [vi c, vr 14]) k138_30 rfl rfl ?_
      have hc3 := hN.1.2.1 c (by omega) (by omega)
      have hl3 := (shp_c hc3.2).1
      have hb3 := hN.1.2.2.2 c (by omega) (by omega)
      refine ev_aald (q := ch c) k138_31 (by decide) (rfl) (by decide) (by decide) (by omega) (by omega) (rX14 (by omega) (by omega)) ?_
      refine ev_getR k138_32 (by omega) ((shp_c hc3.2).2) (rX_c hc3.2) ?_
      have kb := hN.2.2.2 c (by omega) (by omega)
      have kc := (hN.2.1.2.2.2.1 c (by omega) (by omega)).1
      refine ev_s1 (L' := [some (vr 0), some (vi c), some (vi k)]) (S' := [vi k, vr (kd (ch c))]) k138_35 rfl rfl ?_
      refine ev_static (a := [vr (kd (ch c)), vi k]) (S' := []) k138_36 rfl (Nat.le_of_ble_eq_true rfl) (by omega) ?_
      refine x_isOf hI (k := kd (ch c)) (x := k) (by omega) (by omega) (by omega) (fun h4 => ?_) (fun h4 => ?_)
      · show Ev d 138 39 [some (vr 0), some (vi c), some (vi k)] [vi 1] (SX I ch kd) Q
        refine ev_z_eq (t := 50) k138_39 rfl (by omega) (by omega) (fun h => absurd h (by decide)) (fun _ => ?_)
        refine ev_s1 (L' := [some (vr 0), some (vi c), some (vi k)]) (S' := [vr 0]) k138_42 rfl rfl ?_
        refine ev_s1 (L' := [some (vr 0), some (vi c), some (vi k)]) (S' := [vi c, vr 0]) k138_43 rfl rfl ?_
        refine ev_virt (a := [vi c]) (S' := []) k138_44 rfl (Nat.le_of_ble_eq_true rfl) (by decide) (rfl) (by omega) ?_
        refine x_sound hI (v := c) (fun I5 hI5 e5 f5 => ?_)
        show Ev d 138 47 [some (vr 0), some (vi c), some (vi k)] [vi c] (SX I5 ch kd) Q
        refine ev_goto (t := 55) k138_47 rfl ?_
        refine ev_ireturn k138_55 ?_
        refine hQ _ _ _ _ ?_
        exact m_as hJ hw (by omega) (by omega) (by omega) (by omega) (by omega) (fun h => by exfalso; omega) (fun h h2 J' fm => by exfalso; omega) (fun h h2 J' fm => ⟨J', rfl, rfl, hX.find ⟨hI5, e5, fun a b q1 q2 => f5 a b q1, fun _ _ => rfl⟩ fm⟩)
      · show Ev d 138 39 [some (vr 0), some (vi c), some (vi k)] [vi 0] (SX I ch kd) Q
        refine ev_z_eq (t := 50) k138_39 rfl (by omega) (by omega) (fun _ => ?_) (fun h => absurd h (by decide))
        refine ev_s1 (L' := [some (vr 0), some (vi c), some (vi k)]) (S' := [vr 0]) k138_50 rfl rfl ?_
        refine ev_s1 (L' := [some (vr 0), some (vi c), some (vi k)]) (S' := [vi 3, vr 0]) k138_51 rfl rfl ?_
        refine ev_virt (a := [vi 3]) (S' := []) k138_52 rfl (Nat.le_of_ble_eq_true rfl) (by decide) (rfl) (by omega) ?_
        refine x_found hI (v := 3) (by omega) (by omega) (fun I6 hI6 e6 f6 => ?_)
        show Ev d 138 55 [some (vr 0), some (vi c), some (vi k)] [vi (-1000010 - 3)] (SX I6 ch kd) Q
        refine ev_ireturn k138_55 ?_
        refine hQ _ _ _ _ ?_
        exact m_as hJ hw (by omega) (by omega) (by omega) (by omega) (by omega) (fun h => by exfalso; omega) (fun h h2 J' fm => ⟨J', rfl, rfl, hX.find ⟨hI6, e6, fun a b q1 q2 => f6 a b q1, fun _ _ => rfl⟩ fm⟩) (fun h h2 J' fm => by exfalso; omega)
    · show Ev d 138 17 [some (vr 0), some (vi c), some (vi k)] [vi 0] (SX I ch kd) Q
      refine ev_z_ne (t := 23) k138_17 rfl (by omega) (by omega) (fun h => absurd h (by decide)) (fun _ => ?_)
      refine ev_ldc k138_20 ?_
      refine ev_ireturn k138_22 ?_
      refine hQ _ _ _ _ ?_
      exact m_as hJ hw (by omega) (by omega) (by omega) (by omega) (by omega) (fun h => ⟨J, rfl, rfl, hX⟩) (fun h h2 J' fm => by exfalso; omega) (fun h h2 J' fm => by exfalso; omega)
  · show Ev d 138 8 [some (vr 0), some (vi c), some (vi k)] [vi 0] (SX I ch kd) Q
    refine ev_z_eq (t := 20) k138_8 rfl (by omega) (by omega) (fun _ => ?_) (fun h => absurd h (by decide))
    refine ev_ldc k138_20 ?_
    refine ev_ireturn k138_22 ?_
    refine hQ _ _ _ _ ?_
    exact m_as hJ hw (by omega) (by omega) (by omega) (by omega) (by omega) (fun h => ⟨J, rfl, rfl, hX⟩) (fun h h2 J' fm => by exfalso; omega) (fun h h2 J' fm => by exfalso; omega)

set_option maxHeartbeats 1000000 in
theorem l_rowsThere {d : Nat} {I : Nat → Int → Int} {ch : Int → Nat} {kd : Nat → Nat} {Q : Option jV → jS → Prop} (hI : Rg I) (hd : 1 ≤ d) (hQ : Q (some (vi (cntF (fun r => decide (I 2 r ≠ -1)) 8))) (SX I ch kd)) : ∀ (n i : Nat) (t : Int), 8 - (i : Int) < n → i ≤ 8 → t = cntF (fun r => decide (I 2 r ≠ -1)) i → Ev d 146 4 [some (vr 0), some (vi t), some (vi (i : Int))] [] (SX I ch kd) Q := by
  intro n
  induction n with
  | zero => intro i t h1 h2; exfalso; omega
  | succ n ih =>
    intro i t hn hi ht
    refine ev_s1 (L' := [some (vr 0), some (vi t), some (vi (i : Int))]) (S' := [vi (i : Int)]) k146_4 rfl rfl ?_
    refine ev_s1 (L' := [some (vr 0), some (vi t), some (vi (i : Int))]) (S' := [vi 8, vi (i : Int)]) k146_5 rfl rfl ?_
    refine ev_c_ge (t := 27) k146_7 rfl (by omega) (by omega) (by omega) (by omega) (fun h1 => ?_) (fun h1 => ?_)
    · refine ev_s1 (L' := [some (vr 0), some (vi t), some (vi (i : Int))]) (S' := [vi t]) k146_27 rfl rfl ?_
      refine ev_ireturn k146_28 ?_
      rw [show i = 8 by omega] at ht
      rw [← ht] at hQ
      exact hQ
    · refine ev_s1 (L' := [some (vr 0), some (vi t), some (vi (i : Int))]) (S' := [vr 0]) k146_10 rfl rfl ?_
      refine ev_s1 (L' := [some (vr 0), some (vi t), some (vi (i : Int))]) (S' := [vi (i : Int), vr 0]) k146_11 rfl rfl ?_
      refine ev_virt (a := [vi (i : Int)]) (S' := []) k146_12 rfl (Nat.le_of_ble_eq_true rfl) (by decide) (rfl) (by omega) ?_
      refine x_isMissing hI (r := (i : Int)) (by omega) (by omega) (fun h2 => ?_) (fun h2 => ?_)
      · show Ev d 146 15 [some (vr 0), some (vi t), some (vi (i : Int))] [vi 1] (SX I ch kd) Q
        refine ev_z_ne (t := 21) k146_15 rfl (by omega) (by omega) (fun _ => ?_) (fun h => absurd h (by decide))
        refine ev_s1 (L' := [some (vr 0), some (vi t), some (vi ((i : Int) + 1))]) (S' := []) k146_21 rfl rfl ?_
        refine ev_goto (t := 4) k146_24 rfl ?_
        exact ih (i + 1) _ (by omega) (by omega) (by rw [cnt_f (p := (fun r => decide (I 2 r ≠ -1))) (decide_eq_false (by omega)), ← ht])
      · show Ev d 146 15 [some (vr 0), some (vi t), some (vi (i : Int))] [vi 0] (SX I ch kd) Q
        refine ev_z_ne (t := 21) k146_15 rfl (by omega) (by omega) (fun h => absurd h (by decide)) (fun _ => ?_)
        refine ev_s1 (L' := [some (vr 0), some (vi (t + 1)), some (vi (i : Int))]) (S' := []) k146_18 rfl rfl ?_
        refine ev_s1 (L' := [some (vr 0), some (vi (t + 1)), some (vi ((i : Int) + 1))]) (S' := []) k146_21 rfl rfl ?_
        refine ev_goto (t := 4) k146_24 rfl ?_
        exact ih (i + 1) _ (by omega) (by omega) (by rw [cnt_t (p := (fun r => decide (I 2 r ≠ -1))) (decide_eq_true (by omega)), ← ht])

theorem x_rowsThere {d : Nat} {I : Nat → Int → Int} {ch : Int → Nat} {kd : Nat → Nat} {Q : Option jV → jS → Prop} (hI : Rg I) (hd : 1 ≤ d) (hQ : Q (some (vi (cntF (fun r => decide (I 2 r ≠ -1)) 8))) (SX I ch kd)) : Cl d 146 [vr 0] (SX I ch kd) Q := by
  refine ⟨by rw [l146]; exact Nat.le_of_ble_eq_true rfl, ?_⟩
  rw [l146]
  show Ev d 146 0 [some (vr 0), none, none] [] (SX I ch kd) Q
  refine ev_s1 (L' := [some (vr 0), none, none]) (S' := [vi 0]) k146_0 rfl rfl ?_
  refine ev_s1 (L' := [some (vr 0), some (vi 0), none]) (S' := []) k146_1 rfl rfl ?_
  refine ev_s1 (L' := [some (vr 0), some (vi 0), none]) (S' := [vi 0]) k146_2 rfl rfl ?_
  refine ev_s1 (L' := [some (vr 0), some (vi 0), some (vi 0)]) (S' := []) k146_3 rfl rfl ?_
  exact l_rowsThere hI hd hQ 9 0 0 (by omega) (by omega) rfl

set_option maxHeartbeats 1000000 in
theorem s_count {d e : Nat} {I : Nat → Int → Int} {ch : Int → Nat} {kd : Nat → Nat} {J : Nat → Int → Int} {Q : Option jV → jS → Prop} (hX : XR I ch kd J) {x : Int} (xa : -2147483648 ≤ x) (xb : x < 2147483648) (hd : 13 ≤ d) (he : 13 ≤ e) (hQ : ∀ I' ch' kd' v, AN e 228 [vr 0, vi x] J v I' ch' kd' → Q (some (vi v)) (SX I' ch' kd')) : Cl d 141 [vr 0, vi x] (SX I ch kd) Q := by
  obtain ⟨hI, hJ, hN, hA, hO⟩ := id hX
  have hw := hN.2.2.1
  obtain ⟨⟨wa0, wa1⟩, ⟨wb0, wb1⟩, ⟨wc0, wc1⟩, wC, wG, wU⟩ := id hw
  refine ⟨by rw [l141]; exact Nat.le_of_ble_eq_true rfl, ?_⟩
  rw [l141]
  show Ev d 141 0 [some (vr 0), some (vi x)] [] (SX I ch kd) Q
  refine ev_s1 (L' := [some (vr 0), some (vi x)]) (S' := [vi x]) k141_0 rfl rfl ?_
  rcases (show x = 0 ∨ x = 1 ∨ x = 2 ∨ x = 3 ∨ x = 4 ∨ x = 5 ∨ x = 6 ∨ x = 7 ∨ (x < 0 ∨ 7 < x) by omega) with hs1 | hs1 | hs1 | hs1 | hs1 | hs1 | hs1 | hs1 | hs1
  · refine ev_tsw (t := 48) k141_1 hs1 rfl ?_
    refine ev_s1 (L' := [some (vr 0), some (vi x)]) (S' := [vr 0]) k141_48 rfl rfl ?_
    refine ev_virt (a := []) (S' := []) k141_49 rfl (Nat.le_of_ble_eq_true rfl) (by decide) (rfl) (by omega) ?_
    refine x_rowsThere hI (by omega) (?_)
    show Ev d 141 52 [some (vr 0), some (vi x)] [vi (cntF (fun r => decide (I 2 r ≠ -1)) 8)] (SX I ch kd) Q
    refine ev_ireturn k141_52 ?_
    rw [cnt_congr (q := fun r => decide (J 1 r ≠ -1000000)) (fun j hj => decide_eq_decide.mpr (by rcases hO.1 (j : Int) (by omega) (by omega) with u | u <;> omega))]
    refine hQ _ _ _ _ ?_
    exact m_count hJ hw (by omega) (by omega) (by omega) (fun h => by exfalso; omega) (fun h => ⟨J, rfl, rfl, hX⟩) (fun h => by exfalso; omega) (fun h => by exfalso; omega) (fun h => by exfalso; omega) (fun h => by exfalso; omega) (fun h => by exfalso; omega) (fun h => by exfalso; omega) (fun h => by exfalso; omega)
  · refine ev_tsw (t := 53) k141_1 hs1 rfl ?_
    refine ev_s1 (L' := [some (vr 0), some (vi x)]) (S' := [vr 0]) k141_53 rfl rfl ?_
    refine ev_getR k141_54 (by decide) (rfl) (x_0_5 ch kd) ?_
    refine ev_getI k141_57 (by decide) (rfl) ?_
    show Ev d 141 60 [some (vr 0), some (vi x)] [vi (I 13 6)] (SX I ch kd) Q
    have rr2 := hI 13 6
    rw [hN.2.1.1]
    rw [hN.2.1.1] at rr2
    refine ev_ireturn k141_60 ?_
    refine hQ _ _ _ _ ?_
    exact m_count hJ hw (by omega) (by omega) (by omega) (fun h => by exfalso; omega) (fun h => by exfalso; omega) (fun h => ⟨J, rfl, rfl, hX⟩) (fun h => by exfalso; omega) (fun h => by exfalso; omega) (fun h => by exfalso; omega) (fun h => by exfalso; omega) (fun h => by exfalso; omega) (fun h => by exfalso; omega)
  · refine ev_tsw (t := 61) k141_1 hs1 rfl ?_
    refine ev_s1 (L' := [some (vr 0), some (vi x)]) (S' := [vr 0]) k141_61 rfl rfl ?_
    refine ev_getR k141_62 (by decide) (rfl) (x_0_5 ch kd) ?_
    refine ev_getI k141_65 (by decide) (rfl) ?_
    show Ev d 141 68 [some (vr 0), some (vi x)] [vi (I 13 7)] (SX I ch kd) Q
    have rr3 := hI 13 7
    rw [hN.2.1.2.1]
    rw [hN.2.1.2.1] at rr3
    refine ev_ireturn k141_68 ?_
    refine hQ _ _ _ _ ?_
    exact m_count hJ hw (by omega) (by omega) (by omega) (fun h => by exfalso; omega) (fun h => by exfalso; omega) (fun h => by exfalso; omega) (fun h => ⟨J, rfl, rfl, hX⟩) (fun h => by exfalso; omega) (fun h => by exfalso; omega) (fun h => by exfalso; omega) (fun h => by exfalso; omega) (fun h => by exfalso; omega)
  · refine ev_tsw (t := 69) k141_1 hs1 rfl ?_
    refine ev_s1 (L' := [some (vr 0), some (vi x)]) (S' := [vr 0]) k141_69 rfl rfl ?_
    refine ev_getR k141_70 (by decide) (rfl) (x_0_5 ch kd) ?_
    refine ev_virt (a := []) (S' := []) k141_73 rfl (Nat.le_of_ble_eq_true rfl) (by decide) (rfl) (by omega) ?_
    refine g_seas hN.1 hI hN.2.1 hN.2.2.1 (by omega) (?_)
    show Ev d 141 76 [some (vr 0), some (vi x)] [vi (seaW (J 6))] (SX I ch kd) Q
    refine ev_ireturn k141_76 ?_
    refine hQ _ _ _ _ ?_
    exact m_count hJ hw (by omega) (by omega) (by omega) (fun h => by exfalso; omega) (fun h => by exfalso; omega) (fun h => by exfalso; omega) (fun h => by exfalso; omega) (fun h => ⟨J, rfl, rfl, hX⟩) (fun h => by exfalso; omega) (fun h => by exfalso; omega) (fun h => by exfalso; omega) (fun h => by exfalso; omega)
  · refine ev_tsw (t := 77) k141_1 hs1 rfl ?_
    refine ev_s1 (L' := [some (vr 0), some (vi x)]) (S' := [vr 0]) k141_77 rfl rfl ?_
    refine ev_getR k141_78 (by decide) (rfl) (x_0_5 ch kd) ?_
    refine ev_virt (a := []) (S' := []) k141_81 rfl (Nat.le_of_ble_eq_true rfl) (by decide) (rfl) (by omega) ?_
    refine g_taks hN.1 hI hN.2.1 hN.2.2.1 (by omega) (?_)
    show Ev d 141 84 [some (vr 0), some (vi x)] [vi (takW (J 6))] (SX I ch kd) Q
    refine ev_ireturn k141_84 ?_
    refine hQ _ _ _ _ ?_
    exact m_count hJ hw (by omega) (by omega) (by omega) (fun h => by exfalso; omega) (fun h => by exfalso; omega) (fun h => by exfalso; omega) (fun h => by exfalso; omega) (fun h => by exfalso; omega) (fun h => ⟨J, rfl, rfl, hX⟩) (fun h => by exfalso; omega) (fun h => by exfalso; omega) (fun h => by exfalso; omega)
  · refine ev_tsw (t := 85) k141_1 hs1 rfl ?_
    refine ev_s1 (L' := [some (vr 0), some (vi x)]) (S' := [vr 0]) k141_85 rfl rfl ?_
    refine ev_getR k141_86 (by decide) (rfl) (x_0_5 ch kd) ?_
    refine ev_getI k141_89 (by decide) (rfl) ?_
    show Ev d 141 92 [some (vr 0), some (vi x)] [vi (I 13 8)] (SX I ch kd) Q
    have rr4 := hI 13 8
    rw [hN.2.1.2.2.1]
    rw [hN.2.1.2.2.1] at rr4
    refine ev_ireturn k141_92 ?_
    refine hQ _ _ _ _ ?_
    exact m_count hJ hw (by omega) (by omega) (by omega) (fun h => by exfalso; omega) (fun h => by exfalso; omega) (fun h => by exfalso; omega) (fun h => by exfalso; omega) (fun h => by exfalso; omega) (fun h => by exfalso; omega) (fun h => ⟨J, rfl, rfl, hX⟩) (fun h => by exfalso; omega) (fun h => by exfalso; omega)
  · refine ev_tsw (t := 93) k141_1 hs1 rfl ?_
    refine ev_s1 (L' := [some (vr 0), some (vi x)]) (S' := [vr 0]) k141_93 rfl rfl ?_
    refine ev_getI k141_94 (by decide) (rfl) ?_
    show Ev d 141 97 [some (vr 0), some (vi x)] [vi (I 0 9)] (SX I ch kd) Q
    have rr5 := hI 0 9
    refine ev_ireturn k141_97 ?_
    rw [← hA.2.2.1]
    refine hQ _ _ _ _ ?_
    exact m_count hJ hw (by omega) (by omega) (by omega) (fun h => by exfalso; omega) (fun h => by exfalso; omega) (fun h => by exfalso; omega) (fun h => by exfalso; omega) (fun h => by exfalso; omega) (fun h => by exfalso; omega) (fun h => by exfalso; omega) (fun h => ⟨J, rfl, rfl, hX⟩) (fun h => by exfalso; omega)
  · refine ev_tsw (t := 98) k141_1 hs1 rfl ?_
    refine ev_s1 (L' := [some (vr 0), some (vi x)]) (S' := [vr 0]) k141_98 rfl rfl ?_
    refine ev_getR k141_99 (by decide) (rfl) (x_0_6 ch kd) ?_
    refine ev_getR k141_102 (by decide) (rfl) (x_24_0 ch kd) ?_
    refine ev_getI k141_105 (by decide) (rfl) ?_
    show Ev d 141 108 [some (vr 0), some (vi x)] [vi (I 25 1)] (SX I ch kd) Q
    have rr6 := hI 25 1
    refine ev_ireturn k141_108 ?_
    rw [hO.2.2.1.1]
    refine hQ _ _ _ _ ?_
    exact m_count hJ hw (by omega) (by omega) (by omega) (fun h => by exfalso; omega) (fun h => by exfalso; omega) (fun h => by exfalso; omega) (fun h => by exfalso; omega) (fun h => by exfalso; omega) (fun h => by exfalso; omega) (fun h => by exfalso; omega) (fun h => by exfalso; omega) (fun h => ⟨J, rfl, rfl, hX⟩)
  · refine ev_tsd (t := 109) k141_1 (by omega) (by omega) hs1 rfl ?_
    refine ev_ldc k141_109 ?_
    refine ev_ireturn k141_111 ?_
    refine hQ _ _ _ _ ?_
    exact m_count hJ hw (by omega) (by omega) (by omega) (fun h => ⟨J, rfl, rfl, hX⟩) (fun h => by exfalso; omega) (fun h => by exfalso; omega) (fun h => by exfalso; omega) (fun h => by exfalso; omega) (fun h => by exfalso; omega) (fun h => by exfalso; omega) (fun h => by exfalso; omega) (fun h => by exfalso; omega)

theorem XR.feed {I I' J J' : Nat → Int → Int} {ch : Int → Nat} {kd : Nat → Nat} {v : Int} (h : XR I ch kd J) (v0 : 0 ≤ v) (v1 : v ≤ 255) (hn : J 0 6 ≠ 100) (f1 : Rg I') (e1 : I' 25 1 = J 0 6 + 1) (e2 : I' 26 (J 0 6) = v) (ff : ∀ a b, (a ≠ 25 ∨ b ≠ 1) → (a ≠ 26 ∨ b ≠ J 0 6) → I' a b = I a b) (m1 : RZ J') (m6 : J' 0 6 = J 0 6 + 1) (m3 : ∀ b, b ≠ 6 → J' 0 b = J 0 b) (m5 : J' 5 = updF (J 5) (J 0 6) v) (m7 : ∀ a, (a ≠ 0 ∧ a ≠ 5) → J' a = J a) : XR I' ch kd J' := by
  obtain ⟨h1, h2, h3, h4, o1, o2, o3, o4, o5, o6⟩ := h
  refine ⟨f1, m1, ?_, ?_, ?_, ⟨?_, ?_⟩, ?_, ?_, ?_, o6⟩
  · rw [m7 6 (by decide)]
    exact h3.fr (fun a b a0 a1 => ff a b (by omega) (by omega))
  · exact h4.fr (fun a a0 => ff a 1 (by omega) (by omega)) (fun a b a0 a1 => ff a b (by omega) (by omega)) (ff 0 8 (by omega) (by omega)) (ff 0 9 (by omega) (by omega)) (m3 17 (by decide)) (m7 9 (by decide))
  · exact o1.fr (fun b => ff _ _ (by omega) (by omega)) (fun a a0 a1 => ff a 1 (by omega) (by omega)) (fun a b a0 a1 a2 => ff a b (by omega) (by omega)) (m7 1 (by decide)) (m7 2 (by decide)) (m7 3 (by decide))
  · rw [ff 0 11 (by omega) (by omega), m3 4 (by decide)]; exact o2.1
  · rw [ff 0 10 (by omega) (by omega), m3 7 (by decide)]; exact o2.2
  · obtain ⟨t1, t2, t3, t4⟩ := o3
    refine ⟨by omega, by omega, fun p hp => ?_, fun p p0 p1 => ?_⟩
    · rw [m5]
      unfold updF
      by_cases q : p = J 0 6
      · rw [if_pos q, q]; exact e2
      · rw [if_neg q, ff _ _ (by omega) (by omega)]
        exact t3 p (by omega)
    · rw [m5]
      unfold updF
      by_cases q : p = J 0 6
      · rw [if_pos q]; exact ⟨v0, v1⟩
      · rw [if_neg q]; exact t4 p p0 (by omega)
  · exact o4.fr (fun a a0 a1 => ff a 1 (by omega) (by omega)) (fun a b a0 a1 a2 => ff a b (by omega) (by omega)) (m7 10 (by decide)) (m7 11 (by decide))
  · exact o5.fr (ff _ _ (by omega) (by omega)) (fun b => ff _ _ (by omega) (by omega)) (m3 23 (by decide)) (m7 14 (by decide))

theorem x_pushF {d : Nat} {I : Nat → Int → Int} {ch : Int → Nat} {kd : Nat → Nat} {Q : Option jV → jS → Prop} {k cap : Nat} {v : Int} (hl : isL2 k cap) (hI : Rg I) (h0 : 0 ≤ I k 1) (v0 : -2147483648 ≤ v) (v1 : v < 2147483648) (hF : (cap : Int) ≤ I k 1 → Q (some (vi 0)) (SX I ch kd)) (hQ : I k 1 < (cap : Int) → ∀ I', Rg I' → I' k 1 = I k 1 + 1 → I' (k + 1) (I k 1) = v → (∀ a b, (a ≠ k ∨ b ≠ 1) → (a ≠ k + 1 ∨ b ≠ I k 1) → I' a b = I a b) → Q (some (vi 1)) (SX I' ch kd)) : Cl d 47 [vr k, vi v] (SX I ch kd) Q := by
  by_cases q : I k 1 < (cap : Int)
  · exact x_push hl hI h0 q v0 v1 (hQ q)
  · exact c_push hl hI h0 hF (fun u => absurd u q)

set_option maxHeartbeats 1000000 in
theorem s_feed {d e : Nat} {I : Nat → Int → Int} {ch : Int → Nat} {kd : Nat → Nat} {J : Nat → Int → Int} {Q : Option jV → jS → Prop} (hX : XR I ch kd J) {b : Int} (ba : -2147483648 ≤ b) (bb : b < 2147483648) (hd : 13 ≤ d) (he : 13 ≤ e) (hQ : ∀ I' ch' kd' v, AN e 168 [vr 0, vi b] J v I' ch' kd' → Q (some (vi v)) (SX I' ch' kd')) : Cl d 114 [vr 0, vi b] (SX I ch kd) Q := by
  obtain ⟨hI, hJ, hN, hA, hO⟩ := id hX
  have hw := hN.2.2.1
  obtain ⟨⟨wa0, wa1⟩, ⟨wb0, wb1⟩, ⟨wc0, wc1⟩, wC, wG, wU⟩ := id hw
  have ht := hO.2.2.1
  unfold TAX at ht
  refine ⟨by rw [l114]; exact Nat.le_of_ble_eq_true rfl, ?_⟩
  rw [l114]
  show Ev d 114 0 [some (vr 0), some (vi b)] [] (SX I ch kd) Q
  refine ev_s1 (L' := [some (vr 0), some (vi b)]) (S' := [vi b]) k114_0 rfl rfl ?_
  refine ev_s1 (L' := [some (vr 0), some (vi b)]) (S' := [vi 0, vi b]) k114_1 rfl rfl ?_
  refine ev_s1 (L' := [some (vr 0), some (vi b)]) (S' := [vi 255, vi 0, vi b]) k114_2 rfl rfl ?_
  refine ev_static (a := [vi b, vi 0, vi 255]) (S' := []) k114_5 rfl (Nat.le_of_ble_eq_true rfl) (by omega) ?_
  refine x_within (v := b) (lo := 0) (hi := 255) (by omega) (by omega) (by omega) (by omega) (by omega) (by omega) (fun h1 => ?_) (fun h1 => ?_)
  · show Ev d 114 8 [some (vr 0), some (vi b)] [vi 1] (SX I ch kd) Q
    refine ev_z_ne (t := 14) k114_8 rfl (by omega) (by omega) (fun _ => ?_) (fun h => absurd h (by decide))
    refine ev_s1 (L' := [some (vr 0), some (vi b)]) (S' := [vr 0]) k114_14 rfl rfl ?_
    refine ev_getR k114_15 (by decide) (rfl) (x_0_6 ch kd) ?_
    refine ev_getR k114_18 (by decide) (rfl) (x_24_0 ch kd) ?_
    refine ev_s1 (L' := [some (vr 0), some (vi b)]) (S' := [vi b, vr 25]) k114_21 rfl rfl ?_
    refine ev_virt (a := [vi b]) (S' := []) k114_22 rfl (Nat.le_of_ble_eq_true rfl) (by decide) (rfl) (by omega) ?_
    refine x_pushF ln25 hI (v := b) (by rw [ht.1]; omega) (by omega) (by omega) (fun hf => ?_) (fun hf I2 hI2 e2 d2 f2 => ?_)
    · rw [ht.1] at hf
      show Ev d 114 25 [some (vr 0), some (vi b)] [vi 0] (SX I ch kd) Q
      refine ev_z_eq (t := 41) k114_25 rfl (by omega) (by omega) (fun _ => ?_) (fun h => absurd h (by decide))
      refine ev_ldc k114_41 ?_
      refine ev_ireturn k114_43 ?_
      refine hQ _ _ _ _ ?_
      exact m_feed hJ (by omega) (by omega) ht.2.1.1 ht.2.1.2 (by omega) (fun h => by exfalso; omega) (fun h h2 => ⟨J, rfl, rfl, hX⟩) (fun h h2 J' m1 m6 m3 m5 m7 => by exfalso; omega)
    · rw [ht.1] at e2 d2 f2
      show Ev d 114 25 [some (vr 0), some (vi b)] [vi 1] (SX I2 ch kd) Q
      refine ev_z_eq (t := 41) k114_25 rfl (by omega) (by omega) (fun h => absurd h (by decide)) (fun _ => ?_)
      refine ev_s1 (L' := [some (vr 0), some (vi b)]) (S' := [vr 0]) k114_28 rfl rfl ?_
      refine ev_getR k114_29 (by decide) (rfl) (x_0_6 ch kd) ?_
      refine ev_getR k114_32 (by decide) (rfl) (x_24_0 ch kd) ?_
      refine ev_getI k114_35 (by decide) (rfl) ?_
      show Ev d 114 38 [some (vr 0), some (vi b)] [vi (I2 25 1)] (SX I2 ch kd) Q
      have rr3 := hI2 25 1
      rw [e2]
      rw [e2] at rr3
      refine ev_goto (t := 43) k114_38 rfl ?_
      refine ev_ireturn k114_43 ?_
      refine hQ _ _ _ _ ?_
      exact m_feed hJ (by omega) (by omega) ht.2.1.1 ht.2.1.2 (by omega) (fun h => by exfalso; omega) (fun h h2 => by exfalso; omega) (fun h h2 J' m1 m6 m3 m5 m7 => ⟨J', rfl, rfl, hX.feed (by omega) (by omega) h2 hI2 e2 d2 f2 m1 m6 m3 m5 m7⟩)
  · show Ev d 114 8 [some (vr 0), some (vi b)] [vi 0] (SX I ch kd) Q
    refine ev_z_ne (t := 14) k114_8 rfl (by omega) (by omega) (fun h => absurd h (by decide)) (fun _ => ?_)
    refine ev_ldc k114_11 ?_
    refine ev_ireturn k114_13 ?_
    refine hQ _ _ _ _ ?_
    exact m_feed hJ (by omega) (by omega) ht.2.1.1 ht.2.1.2 (by omega) (fun h => ⟨J, rfl, rfl, hX⟩) (fun h h2 => by exfalso; omega) (fun h h2 J' m1 m6 m3 m5 m7 => by exfalso; omega)
