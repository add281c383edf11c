theorem sits_sit {u : Int → Int} {g c e : Int} (c0 : 0 ≤ c) (c5 : c < 5) : sitW (sitsW u g c) e = sitW u e := by
  refine sit_congr (sits_o (by omega) (by omega) (by omega)) (fun x x0 x1 => ?_)
  rw [sits_o (by omega) (by omega) (by omega)]
theorem sits_ok {u : Int → Int} {g c : Int} (hw : OKW u) (g0 : 0 ≤ g) (g1 : g < u 2) (c0 : 0 ≤ c) (c1 : c < u 1) : OKW (sitsW u g c) := by
  obtain ⟨w0, w1, w2, hC, hG, hU⟩ := hw
  have hg := hG g g0 g1
  refine ⟨?_, ?_, ?_, fun x x0 x1 => ?_, fun x x0 x1 => ?_, fun x y x0 x1 y0 y1 e n => ?_⟩
  · rw [sits_o (by omega) (by omega) (by omega)]; exact w0
  · rw [sits_o (by omega) (by omega) (by omega)]; exact w1
  · rw [sits_o (by omega) (by omega) (by omega)]; exact w2
  · rw [sits_o (by omega) (by omega) (by omega)] at x1
    by_cases q : x = c
    · subst q
      exact sit_okc (hC x c0 c1) hg.1
    · refine okc_eq (hC x x0 x1) ?_ ?_ ?_ ?_ ?_ <;> exact sits_o (by omega) (by omega) (by omega)
  · rw [sits_o (by omega) (by omega) (by omega)] at x1
    unfold OKG
    rw [sits_o (by omega) (by omega) (by omega), sits_o (by omega) (by omega) (by omega), sits_o (by omega) (by omega) (by omega), sits_o (by omega) (by omega) (by omega), sits_o (by omega) (by omega) (by omega)]
    exact hG x x0 x1
  · rw [sits_o (by omega) (by omega) (by omega)] at x1 y1 n e
    rw [sits_o (by omega) (by omega) (by omega)] at e
    exact hU x y x0 x1 y0 y1 e n
theorem RW.sits {I : Nat → Int → Int} {ρ : Nat} {cc ch : Int → Nat} {kd : Nat → Nat} {u : Int → Int} {g c o wl : Int} (hρ : isRm ρ cc ch kd) (h : RW I ρ cc kd u) (hw : OKW u) (c0 : 0 ≤ c) (c1 : c < u 1) (ho : o = u (28 + 4 * g)) (hl : wl = u (28 + 4 * g + 1)) : RW (sitC I (cc c) (kd (cc c)) o wl) ρ cc kd (sitsW u g c) := by
  obtain ⟨w0, w1, w2, hC, hG, hU⟩ := id hw
  obtain ⟨e6, e7, e8, hc, hg⟩ := h
  have c5 : c < 5 := by omega
  have hb := hρ.2.2.2 c c0 c5
  obtain ⟨k0, k1, k2, k3, k4, k5⟩ := hc c c0 c1
  have hk : kd (cc c) = kW u c := by have := (hC c c0 c1).1; unfold kW; omega
  refine ⟨?_, ?_, ?_, fun x x0 x1 => ?_, fun x x0 x1 => ?_⟩
  · rw [sits_o (by omega) (by omega) (by omega), sit_o (by omega)]; exact e6
  · rw [sits_o (by omega) (by omega) (by omega), sit_o (by omega)]; exact e7
  · rw [sits_o (by omega) (by omega) (by omega), sit_o (by omega)]; exact e8
  · rw [sits_o (by omega) (by omega) (by omega)] at x1
    have x5 : x < 5 := by omega
    by_cases q : x = c
    · subst q
      refine ⟨?_, ?_, ?_, ?_, ?_, ?_⟩
      · rw [sits_c0]; exact k0
      · rw [sits_1]
        unfold sitC
        rw [if_pos ⟨rfl, rfl⟩, hk, k1, k2, ho, hl]
      · rw [sits_2]
        unfold sitC
        rw [if_neg (by omega), if_pos ⟨rfl, rfl⟩, hk, k2, hl]
      · rw [sits_o (by omega) (by omega) (by omega), sit_o (by omega)]; exact k3
      · rw [sits_4]
        unfold sitC
        rw [if_neg (by omega), if_neg (by omega), if_pos ⟨rfl, rfl⟩, k4]
      · rw [sits_sit c0 c5, sit_o (by omega)]; exact k5
    · have hne : cc x ≠ cc c := fun e => q (hρ.2.2.1 x c x0 x5 c0 c5 e)
      obtain ⟨p0, p1, p2, p3, p4, p5⟩ := hc x x0 x1
      refine ⟨?_, ?_, ?_, ?_, ?_, ?_⟩
      · rw [sits_c0]; exact p0
      · rw [sits_o (by omega) (by omega) (by omega), sit_o (Or.inl hne)]; exact p1
      · rw [sits_o (by omega) (by omega) (by omega), sit_o (Or.inl hne)]; exact p2
      · rw [sits_o (by omega) (by omega) (by omega), sit_o (Or.inl hne)]; exact p3
      · rw [sits_o (by omega) (by omega) (by omega), sit_o (Or.inl hne)]; exact p4
      · rw [sits_sit c0 c5, sit_o (Or.inl hne)]; exact p5
  · rw [sits_o (by omega) (by omega) (by omega)] at x1
    unfold RWg
    rw [sits_o (by omega) (by omega) (by omega), sits_o (by omega) (by omega) (by omega), sits_o (by omega) (by omega) (by omega), sits_o (by omega) (by omega) (by omega), sit_o (by omega), sit_o (by omega), sit_o (by omega), sit_o (by omega)]
    exact hg x x0 x1
/-- the draws -/
def drwX (seed : Int) : Nat → Int
  | 0 => seed
  | k + 1 => drwX seed k * 16807 % 2147483647
def drwV (w : Int → Int) (seed : Int) : Nat → Int → Int
  | 0 => w
  | k + 1 => sitsW (drwV w seed k) (drwX seed (k + 1) % w 2) (drwX seed (k + 1) % w 1)
def drwS (w : Int → Int) (seed : Int) : Nat → Int
  | 0 => 0
  | k + 1 => drwS w seed k + bearW (drwV w seed k) (drwX seed (k + 1) % w 1) (w (28 + 4 * (drwX seed (k + 1) % w 2)))
theorem drw_rng {seed : Int} (h0 : 0 ≤ seed) (h1 : seed < 2147483647) : ∀ k, 0 ≤ drwX seed k ∧ drwX seed k < 2147483647 := by
  intro k
  cases k with
  | zero => exact ⟨h0, h1⟩
  | succ k => exact ⟨Int.emod_nonneg _ (by decide), Int.emod_lt_of_pos _ (by decide)⟩
theorem drv_lo {w : Int → Int} {seed : Int} (hw : OKW w) (hg : 0 < w 2) (hc : 0 < w 1) : ∀ k, OKW (drwV w seed k) ∧ drwV w seed k 1 = w 1 ∧ drwV w seed k 2 = w 2 ∧ GSm w (drwV w seed k) := by
  intro k
  have w1 := hw.2.1
  induction k with
  | zero => exact ⟨hw, rfl, rfl, GSm.refl w⟩
  | succ k ih =>
    obtain ⟨i1, i2, i3, i4⟩ := ih
    have a0 := Int.emod_nonneg (drwX seed (k + 1)) (show w 2 ≠ 0 by omega)
    have a1 := Int.emod_lt_of_pos (drwX seed (k + 1)) hg
    have b0 := Int.emod_nonneg (drwX seed (k + 1)) (show w 1 ≠ 0 by omega)
    have b1 := Int.emod_lt_of_pos (drwX seed (k + 1)) hc
    rw [drwV]
    generalize drwX seed (k + 1) % w 2 = x at a0 a1
    generalize drwX seed (k + 1) % w 1 = y at b0 b1
    refine ⟨sits_ok i1 a0 (by omega) b0 (by omega), ?_, ?_, i4.sits b0 (by omega)⟩
    · rw [sits_o (by omega) (by omega) (by omega)]; exact i2
    · rw [sits_o (by omega) (by omega) (by omega)]; exact i3
theorem drs_rng {w : Int → Int} {seed : Int} (hw : OKW w) (hg : 0 < w 2) (hc : 0 < w 1) : ∀ k : Nat, 0 ≤ drwS w seed k ∧ drwS w seed k ≤ 9 * k := by
  intro k
  induction k with
  | zero => exact ⟨Int.le_refl _, Int.le_refl _⟩
  | succ k ih =>
    obtain ⟨i1, i2, i3, i4⟩ := drv_lo (seed := seed) hw hg hc k
    have a0 := Int.emod_nonneg (drwX seed (k + 1)) (show w 2 ≠ 0 by omega)
    have a1 := Int.emod_lt_of_pos (drwX seed (k + 1)) hg
    have b0 := Int.emod_nonneg (drwX seed (k + 1)) (show w 1 ≠ 0 by omega)
    have b1 := Int.emod_lt_of_pos (drwX seed (k + 1)) hc
    rw [drwS]
    generalize drwX seed (k + 1) % w 2 = x at a0 a1
    generalize drwX seed (k + 1) % w 1 = y at b0 b1
    have hb := bear_okc (o := w (28 + 4 * x)) (i1.2.2.2.1 y b0 (by omega)) (hw.2.2.2.2.1 x a0 a1).1.1 (hw.2.2.2.2.1 x a0 a1).1.2
    omega
def manW2 (v : Int → Int) (n : Int) : Int := sumF (fun c => v (3 + 5 * c + 1)) n.toNat
def eveW (w : Int → Int) (n : Nat) (seed x : Int) : Int := if w 2 = 0 then (if x = 0 then 0 else manW2 w (w 1)) else if x = 0 then drwS w seed n else manW2 (drwV w seed n) (w 1)

set_option maxHeartbeats 1000000 in
theorem g_drawn {d : Nat} {I : Nat → Int → Int} {ch : Int → Nat} {kd : Nat → Nat} {Q : Option jV → jS → Prop} {w : Int → Int} (hN : NOWX I ch kd w) (hI : Rg I) {v : Int → Int} {x : Int} (ht : TRX I kd v) (l1 : v 1 = w 1) (l2 : v 2 = w 2) (hg : GSm w v) (hc1 : 0 < w 1) (x0 : 0 ≤ x) (x1 : x < 2147483648) (hd : 4 ≤ d) (hZ : w 2 = 0 → Q (some (vi 0)) (SX I ch kd)) (hQ : 0 < w 2 → ∀ I', Rg I' → TRX I' kd (sitsW v (x % w 2) (x % w 1)) → (∀ (a : Nat) (b : Int), (a < 45 ∨ 55 < a) → I' a b = I a b) → Q (some (vi (bearW v (x % w 1) (w (28 + 4 * (x % w 2)))))) (SX I' ch kd)) : Cl d 41 [vr 40, vl x] (SX I ch kd) Q := by
  obtain ⟨⟨wa0, wa1⟩, ⟨wb0, wb1⟩, ⟨wc0, wc1⟩, wC, wG, wU⟩ := hN.2.2.1
  refine ⟨by rw [l41]; exact Nat.le_of_ble_eq_true rfl, ?_⟩
  rw [l41]
  show Ev d 41 0 [some (vr 40), some (vl x), none, none, none] [] (SX I ch kd) Q
  refine ev_s1 (L' := [some (vr 40), some (vl x), none, none, none]) (S' := [vr 40]) k41_0 rfl rfl ?_
  refine ev_getR k41_1 (by decide) (rfl) (x_40_1 ch kd) ?_
  refine ev_getI k41_4 (by decide) (rfl) ?_
  show Ev d 41 7 [some (vr 40), some (vl x), none, none, none] [vi (I 45 7)] (SX I ch kd) Q
  have rr1 := hI 45 7
  rw [ht.1.2.1]
  rw [ht.1.2.1] at rr1
  refine ev_z_eq (t := 20) k41_7 rfl (by omega) (by omega) (fun h2 => ?_) (fun h2 => ?_)
  · refine ev_s1 (L' := [some (vr 40), some (vl x), none, none, none]) (S' := [vi 0]) k41_20 rfl rfl ?_
    refine ev_ireturn k41_21 ?_
    exact hZ (by omega)
  · refine ev_s1 (L' := [some (vr 40), some (vl x), none, none, none]) (S' := [vr 40]) k41_10 rfl rfl ?_
    refine ev_getR k41_11 (by decide) (rfl) (x_40_1 ch kd) ?_
    refine ev_getI k41_14 (by decide) (rfl) ?_
    show Ev d 41 17 [some (vr 40), some (vl x), none, none, none] [vi (I 45 6)] (SX I ch kd) Q
    have rr3 := hI 45 6
    rw [ht.1.1]
    rw [ht.1.1] at rr3
    refine ev_z_ne (t := 22) k41_17 rfl (by omega) (by omega) (fun h4 => ?_) (fun h4 => ?_)
    · have g0 := Int.emod_nonneg x (show w 2 ≠ 0 by omega)
      have g1 := Int.emod_lt_of_pos x (show 0 < w 2 by omega)
      have c0 := Int.emod_nonneg x (show w 1 ≠ 0 by omega)
      have c1 := Int.emod_lt_of_pos x (show 0 < w 1 by omega)
      obtain ⟨k0, k1, k2, k3, k4, k5⟩ := ht.1.2.2.2.1 (x % w 1) c0 (by omega)
      obtain ⟨q0, q1, q2, q3, q4⟩ := ht.2.1.2.2.2.1 (x % w 1) c0 (by omega)
      have hkW : kd (tcc (x % w 1)) = kW v (x % w 1) := by unfold kW; omega
      have hcr : CR I (tcc (x % w 1)) := ⟨by omega, by omega, by omega, by omega, by omega, by omega⟩
      have gs := hg (x % w 2) g0 g1
      have go := ht.2.1.2.2.2.2.1 (x % w 2) g0 (by omega)
      have go1 := go.1
      have go2 := go.2.1
      have hcT := ((rm45 ch kd).2.1 (x % w 1) c0 (by omega)).2
      refine ev_s1 (L' := [some (vr 40), some (vl x), none, none, none]) (S' := [vl x]) k41_22 rfl rfl ?_
      refine ev_s1 (L' := [some (vr 40), some (vl x), none, none, none]) (S' := [vr 40, vl x]) k41_23 rfl rfl ?_
      refine ev_getR k41_24 (by decide) (rfl) (x_40_1 ch kd) ?_
      refine ev_getI k41_27 (by decide) (rfl) ?_
      show Ev d 41 30 [some (vr 40), some (vl x), none, none, none] [vi (I 45 7), vl x] (SX I ch kd) Q
      have rr5 := hI 45 7
      rw [ht.1.2.1]
      rw [ht.1.2.1] at rr5
      rw [l2]
      refine ev_i2l k41_30 (by omega) (by omega) ?_
      refine ev_lrem k41_31 (by omega) (by omega) (by omega) (by omega) ?_
      refine ev_s1 (L' := [some (vr 40), some (vl x), none, none, none]) (S' := [vi (x % (w 2))]) k41_32 rfl rfl ?_
      refine ev_s1 (L' := [some (vr 40), some (vl x), none, some (vi (x % (w 2))), none]) (S' := []) k41_33 rfl rfl ?_
      refine ev_s1 (L' := [some (vr 40), some (vl x), none, some (vi (x % (w 2))), none]) (S' := [vl x]) k41_34 rfl rfl ?_
      refine ev_s1 (L' := [some (vr 40), some (vl x), none, some (vi (x % (w 2))), none]) (S' := [vr 40, vl x]) k41_35 rfl rfl ?_
      refine ev_getR k41_36 (by decide) (rfl) (x_40_1 ch kd) ?_
      refine ev_getI k41_39 (by decide) (rfl) ?_
      show Ev d 41 42 [some (vr 40), some (vl x), none, some (vi (x % (w 2))), none] [vi (I 45 6), vl x] (SX I ch kd) Q
      have rr6 := hI 45 6
      rw [ht.1.1]
      rw [ht.1.1] at rr6
      rw [l1]
      refine ev_i2l k41_42 (by omega) (by omega) ?_
      refine ev_lrem k41_43 (by omega) (by omega) (by omega) (by omega) ?_
      refine ev_s1 (L' := [some (vr 40), some (vl x), none, some (vi (x % (w 2))), none]) (S' := [vi (x % (w 1))]) k41_44 rfl rfl ?_
      refine ev_s1 (L' := [some (vr 40), some (vl x), none, some (vi (x % (w 2))), some (vi (x % (w 1)))]) (S' := []) k41_45 rfl rfl ?_
      refine ev_s1 (L' := [some (vr 40), some (vl x), none, some (vi (x % (w 2))), some (vi (x % (w 1)))]) (S' := [vr 40]) k41_47 rfl rfl ?_
      refine ev_getR k41_48 (by decide) (rfl) (x_40_1 ch kd) ?_
      refine ev_getR k41_51 (by decide) (rfl) (x_45_1 ch kd) ?_
      refine ev_s1 (L' := [some (vr 40), some (vl x), none, some (vi (x % (w 2))), some (vi (x % (w 1)))]) (S' := [vi (x % (w 1)), vr 46]) k41_54 rfl rfl ?_
      have hc7 := (rm45 ch kd).2.1 (x % (w 1)) (by omega) (by omega)
      have hl7 := (shp_c hc7.2).1
      have hb7 := (rm45 ch kd).2.2.2 (x % (w 1)) (by omega) (by omega)
      refine ev_aald (q := tcc (x % (w 1))) k41_56 (by decide) (rfl) (by decide) (by decide) (by omega) (by omega) (hc7.1) ?_
      refine ev_s1 (L' := [some (vr 40), some (vl x), none, some (vi (x % (w 2))), some (vi (x % (w 1)))]) (S' := [vr 40, vr (tcc (x % (w 1)))]) k41_57 rfl rfl ?_
      refine ev_getR k41_58 (by decide) (rfl) (x_40_1 ch kd) ?_
      refine ev_getR k41_61 (by decide) (rfl) (x_45_2 ch kd) ?_
      refine ev_s1 (L' := [some (vr 40), some (vl x), none, some (vi (x % (w 2))), some (vi (x % (w 1)))]) (S' := [vi (x % (w 2)), vr 47, vr (tcc (x % (w 1)))]) k41_64 rfl rfl ?_
      refine ev_iald k41_65 (by decide) (rfl) (by omega) (by omega) ?_
      have rr8 := hI 47 (x % (w 2))
      rw [(ht.1.2.2.2.2 (x % (w 2)) (by omega) (by omega)).1]
      rw [(ht.1.2.2.2.2 (x % (w 2)) (by omega) (by omega)).1] at rr8
      refine ev_s1 (L' := [some (vr 40), some (vl x), none, some (vi (x % (w 2))), some (vi (x % (w 1)))]) (S' := [vr 40, vi (v (28 + 4 * (x % (w 2)))), vr (tcc (x % (w 1)))]) k41_66 rfl rfl ?_
      refine ev_getR k41_67 (by decide) (rfl) (x_40_1 ch kd) ?_
      refine ev_getR k41_70 (by decide) (rfl) (x_45_3 ch kd) ?_
      refine ev_s1 (L' := [some (vr 40), some (vl x), none, some (vi (x % (w 2))), some (vi (x % (w 1)))]) (S' := [vi (x % (w 2)), vr 48, vi (v (28 + 4 * (x % (w 2)))), vr (tcc (x % (w 1)))]) k41_73 rfl rfl ?_
      refine ev_iald k41_74 (by decide) (rfl) (by omega) (by omega) ?_
      have rr9 := hI 48 (x % (w 2))
      rw [(ht.1.2.2.2.2 (x % (w 2)) (by omega) (by omega)).2.1]
      rw [(ht.1.2.2.2.2 (x % (w 2)) (by omega) (by omega)).2.1] at rr9
      refine ev_virt (a := [vi (v (28 + 4 * (x % (w 2)))), vi (v (28 + 4 * (x % (w 2)) + 1))]) (S' := []) k41_75 rfl (Nat.le_of_ble_eq_true rfl) (by omega) ((shp_c hc7.2).2) (by omega) ?_
      refine c_bear (c := tcc (x % (w 1))) (own := v (28 + 4 * (x % (w 2)))) (will := v (28 + 4 * (x % (w 2)) + 1)) (by omega) hcT (ht.2.2 (x % (w 1)) (by omega) (by omega)) hcr (by omega) (by omega) hI (by omega) (by omega) (?_)
      rw [show bearF (kd (tcc (x % (w 1)))) (I (tcc (x % (w 1))) 1) (I (tcc (x % (w 1))) 2) (I (tcc (x % (w 1))) 4) (v (28 + 4 * (x % w 2))) = bearW v (x % w 1) (w (28 + 4 * (x % w 2))) from by rw [hkW, k1, k2, k4, gs.1]; rfl]
      show Ev d 41 78 [some (vr 40), some (vl x), none, some (vi (x % (w 2))), some (vi (x % (w 1)))] [vi (bearW v (x % w 1) (w (28 + 4 * (x % w 2))))] (SX (sitC I (tcc (x % w 1)) (kd (tcc (x % w 1))) (v (28 + 4 * (x % w 2))) (v (28 + 4 * (x % w 2) + 1))) ch kd) Q
      refine ev_ireturn k41_78 ?_
      refine hQ (by omega) _ (sit_rg hI (by omega) (by omega)) ⟨ht.1.sits (rm45 ch kd) ht.2.1 c0 (by omega) rfl rfl, sits_ok ht.2.1 g0 (by omega) c0 (by omega), ht.2.2⟩ (fun a b q => sit_o (Or.inl (by have := (rm45 ch kd).2.2.2 (x % w 1) c0 (by omega); omega)))
    · refine ev_s1 (L' := [some (vr 40), some (vl x), none, none, none]) (S' := [vi 0]) k41_20 rfl rfl ?_
      refine ev_ireturn k41_21 ?_
      exact hZ (by omega)
