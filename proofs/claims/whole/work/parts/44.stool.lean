theorem g_take {d : Nat} {I : Nat → Int → Int} {ch : Int → Nat} {kd : Nat → Nat} {Q : Option jV → jS → Prop} {w : Int → Int} (hN : NOWX I ch kd w) (hI : Rg I) {c : Int} (c0 : 0 ≤ c) (c1 : c < w 1) (hQ : ∀ I' kd', Rg I' → STL I' kd' w c → (∀ (a : Nat) (b : Int), a ≠ 56 → I' a b = I a b) → (∀ a, a ≠ 56 → kd' a = kd a) → Q none (SX I' ch kd')) : Cl d 10 [vr 56, vr (ch c)] (SX I ch kd) Q := by
  have c5 : c < 5 := by have := hN.2.2.1.2.1; omega
  have hb := hN.1.2.2.2 c c0 c5
  have hc := (hN.1.2.1 c c0 c5).2
  refine c_takeAfter (c := 56) (o := ch c) rfl hc (by omega) hI ?_
  obtain ⟨k0, k1, k2, k3, k4, k5⟩ := hN.2.1.2.2.2.1 c c0 c1
  refine hQ _ _ (fun a b => ?_) ⟨?_, ?_, ?_, ?_, hN.2.2.1.2.2.2.1 c c0 c1⟩ (fun a b q => ?_) (fun a q => ?_)
  · unfold cpC
    split
    · exact hI _ _
    · exact hI _ _
  · unfold kdU
    rw [if_pos rfl]
    exact k0
  · unfold cpC
    rw [if_pos (by omega)]
    exact k1
  · unfold cpC
    rw [if_pos (by omega)]
    exact k2
  · unfold cpC
    rw [if_pos (by omega)]
    exact k4
  · unfold cpC
    rw [if_neg (fun h => q h.1)]
  · unfold kdU
    rw [if_neg q]
theorem stl_sit {I : Nat → Int → Int} {kd : Nat → Nat} {w : Int → Int} {c g o wl : Int} (h : STL I kd w c) (ho : o = w (28 + 4 * g)) (hw : wl = w (28 + 4 * g + 1)) (o1 : 0 ≤ o) (o2 : o ≤ 9) : STL (sitC I 56 (kd 56) o wl) kd (sitsW w g c) c := by
  have hk := h.kw
  obtain ⟨h0, h1, h2, h4, h5⟩ := h
  refine ⟨?_, ?_, ?_, ?_, sit_okc h5 (by omega)⟩
  · rw [sits_o (by omega) (by omega) (by omega)]; exact h0
  · rw [sits_1]
    unfold sitC
    rw [if_pos ⟨rfl, rfl⟩, hk, h1, h2, ho, hw]
  · rw [sits_2]
    unfold sitC
    rw [if_neg (by omega), if_pos ⟨rfl, rfl⟩, hk, h2, hw]
  · rw [sits_4]
    unfold sitC
    rw [if_neg (by omega), if_neg (by omega), if_pos ⟨rfl, rfl⟩, h4]
theorem stl_bear {I : Nat → Int → Int} {kd : Nat → Nat} {w : Int → Int} {c o : Int} (h : STL I kd w c) : bearF (kd 56) (I 56 1) (I 56 2) (I 56 4) o = bearW w c o := by
  have hk := h.kw
  obtain ⟨h0, h1, h2, h4, h5⟩ := h
  rw [hk, h1, h2, h4]
  rfl
theorem g_bof {d : Nat} {I : Nat → Int → Int} {ch : Int → Nat} {kd : Nat → Nat} {Q : Option jV → jS → Prop} {w : Int → Int} (hI : Rg I) {c o : Int} (hs : STL I kd w c) (o1 : 0 ≤ o) (o2 : o ≤ 9) (hd : 3 ≤ d) (hQ : Q (some (vi (bearW w c o))) (SX I ch kd)) : Cl d 7 [vr 56, vi o] (SX I ch kd) Q := by
  refine c_bearingOf hd rfl hs.cr.2 hs.cr.1 o1 o2 hI ?_
  rw [stl_bear hs]
  exact hQ
/-- the same guests are told -/
def GSm (w v : Int → Int) : Prop := ∀ g, 0 ≤ g → g < w 2 → v (28 + 4 * g) = w (28 + 4 * g) ∧ v (28 + 4 * g + 1) = w (28 + 4 * g + 1)
theorem GSm.refl (w : Int → Int) : GSm w w := fun _ _ _ => ⟨rfl, rfl⟩
theorem GSm.sits {w v : Int → Int} {g c : Int} (h : GSm w v) (c0 : 0 ≤ c) (c5 : c < 5) : GSm w (sitsW v g c) := by
  intro x x0 x1
  rw [sits_o (by omega) (by omega) (by omega), sits_o (by omega) (by omega) (by omega)]
  exact h x x0 x1

set_option maxHeartbeats 1000000 in
theorem g_bos {d : Nat} {I : Nat → Int → Int} {ch : Int → Nat} {kd : Nat → Nat} {Q : Option jV → jS → Prop} {w : Int → Int} (hN : NOWX I ch kd w) (hI : Rg I) {g c : Int} {v : Int → Int} (g0 : 0 ≤ g) (g1 : g < w 2) (hs : STL I kd v c) (hg : GSm w v) (hd : 4 ≤ d) (hQ : ∀ I', Rg I' → STL I' kd (sitsW v g c) c → (∀ (a : Nat) (b : Int), a ≠ 56 → I' a b = I a b) → Q (some (vi (bearW v c (w (28 + 4 * g))))) (SX I' ch kd)) : Cl d 19 [vr 40, vi g] (SX I ch kd) Q := by
  obtain ⟨⟨wa0, wa1⟩, ⟨wb0, wb1⟩, ⟨wc0, wc1⟩, wC, wG, wU⟩ := hN.2.2.1
  obtain ⟨go, gw, -, -⟩ := wG g g0 g1
  refine ⟨by rw [l19]; exact Nat.le_of_ble_eq_true rfl, ?_⟩
  rw [l19]
  show Ev d 19 0 [some (vr 40), some (vi g)] [] (SX I ch kd) Q
  refine ev_s1 (L' := [some (vr 40), some (vi g)]) (S' := [vr 40]) k19_0 rfl rfl ?_
  refine ev_getR k19_1 (by decide) (rfl) (x_40_3 ch kd) ?_
  refine ev_s1 (L' := [some (vr 40), some (vi g)]) (S' := [vr 40, vr 56]) k19_4 rfl rfl ?_
  refine ev_getR k19_5 (by decide) (rfl) (x_40_0 ch kd) ?_
  refine ev_getR k19_8 (by decide) (rfl) (x_13_2 ch kd) ?_
  refine ev_s1 (L' := [some (vr 40), some (vi g)]) (S' := [vi g, vr 15, vr 56]) k19_11 rfl rfl ?_
  refine ev_iald k19_12 (by decide) (rfl) (by omega) (by omega) ?_
  have rr1 := hI 15 g
  rw [(hN.2.1.2.2.2.2 g (by omega) (by omega)).1]
  rw [(hN.2.1.2.2.2.2 g (by omega) (by omega)).1] at rr1
  refine ev_s1 (L' := [some (vr 40), some (vi g)]) (S' := [vr 40, vi (w (28 + 4 * g)), vr 56]) k19_13 rfl rfl ?_
  refine ev_getR k19_14 (by decide) (rfl) (x_40_0 ch kd) ?_
  refine ev_getR k19_17 (by decide) (rfl) (x_13_3 ch kd) ?_
  refine ev_s1 (L' := [some (vr 40), some (vi g)]) (S' := [vi g, vr 16, vi (w (28 + 4 * g)), vr 56]) k19_20 rfl rfl ?_
  refine ev_iald k19_21 (by decide) (rfl) (by omega) (by omega) ?_
  have rr2 := hI 16 g
  rw [(hN.2.1.2.2.2.2 g (by omega) (by omega)).2.1]
  rw [(hN.2.1.2.2.2.2 g (by omega) (by omega)).2.1] at rr2
  refine ev_virt (a := [vi (w (28 + 4 * g)), vi (w (28 + 4 * g + 1))]) (S' := []) k19_22 rfl (Nat.le_of_ble_eq_true rfl) (by decide) (rfl) (by omega) ?_
  refine c_bear (c := 56) (own := w (28 + 4 * g)) (will := w (28 + 4 * g + 1)) (by omega) rfl hs.cr.2 hs.cr.1 (by omega) (by omega) hI (by omega) (by omega) (?_)
  rw [stl_bear hs]
  show Ev d 19 25 [some (vr 40), some (vi g)] [vi (bearW v c (w (28 + 4 * g)))] (SX (sitC I 56 (kd 56) (w (28 + 4 * g)) (w (28 + 4 * g + 1))) ch kd) Q
  refine ev_ireturn k19_25 ?_
  exact hQ _ (sit_rg hI (by omega) (by omega)) (stl_sit hs (hg g g0 g1).1.symm (hg g g0 g1).2.symm (by omega) (by omega)) (fun a b q => sit_o (Or.inl q))

def wouW (w : Int → Int) (g c x : Int) : Int := if x = 0 then bearW w c (w (28 + 4 * g)) else if x = 1 then sitsW w g c (3 + 5 * c + 1) else sitsW w g c (3 + 5 * c + 2)

set_option maxHeartbeats 1000000 in
theorem g_would {d : Nat} {I : Nat → Int → Int} {ch : Int → Nat} {kd : Nat → Nat} {Q : Option jV → jS → Prop} {w : Int → Int} (hN : NOWX I ch kd w) (hI : Rg I) {g c : Int} (g0 : 0 ≤ g) (g1 : g < w 2) (c0 : 0 ≤ c) (c1 : c < w 1) {x : Int} (x0 : 0 ≤ x) (x1 : x ≤ 2) (hd : 5 ≤ d) (hQ : ∀ I' kd', FSx I I' kd kd' → Q (some (vi (wouW w g c x))) (SX I' ch kd')) : Cl d 20 [vr 40, vi g, vi c, vi x] (SX I ch kd) Q := by
  obtain ⟨⟨wa0, wa1⟩, ⟨wb0, wb1⟩, ⟨wc0, wc1⟩, wC, wG, wU⟩ := hN.2.2.1
  refine ⟨by rw [l20]; exact Nat.le_of_ble_eq_true rfl, ?_⟩
  rw [l20]
  show Ev d 20 0 [some (vr 40), some (vi g), some (vi c), some (vi x), none] [] (SX I ch kd) Q
  refine ev_s1 (L' := [some (vr 40), some (vi g), some (vi c), some (vi x), none]) (S' := [vr 40]) k20_0 rfl rfl ?_
  refine ev_getR k20_1 (by decide) (rfl) (x_40_3 ch kd) ?_
  refine ev_s1 (L' := [some (vr 40), some (vi g), some (vi c), some (vi x), none]) (S' := [vr 40, vr 56]) k20_4 rfl rfl ?_
  refine ev_getR k20_5 (by decide) (rfl) (x_40_0 ch kd) ?_
  refine ev_getR k20_8 (by decide) (rfl) (x_13_1 ch kd) ?_
  refine ev_s1 (L' := [some (vr 40), some (vi g), some (vi c), some (vi x), none]) (S' := [vi c, vr 14, vr 56]) k20_11 rfl rfl ?_
  have hc1 := hN.1.2.1 c (by omega) (by omega)
  have hl1 := (shp_c hc1.2).1
  have hb1 := hN.1.2.2.2 c (by omega) (by omega)
  refine ev_aald (q := ch c) k20_12 (by decide) (rfl) (by decide) (by decide) (by omega) (by omega) (rX14 (by omega) (by omega)) ?_
  refine ev_virt (a := [vr (ch c)]) (S' := []) k20_13 rfl (Nat.le_of_ble_eq_true rfl) (by decide) (rfl) (by omega) ?_
  refine g_take hN hI (by omega) (by omega) (fun I2 kd2 hI2 s2 f2 k2 => ?_)
  have fx2 : FSx I I2 kd kd2 := ⟨hI2, fun a b q => f2 a b (by omega), fun a q => k2 a (by omega)⟩
  have hN2 := hN.fs fx2
  have F2 := fx2
  show Ev d 20 16 [some (vr 40), some (vi g), some (vi c), some (vi x), none] [] (SX I2 ch kd2) Q
  refine ev_s1 (L' := [some (vr 40), some (vi g), some (vi c), some (vi x), none]) (S' := [vr 40]) k20_16 rfl rfl ?_
  refine ev_s1 (L' := [some (vr 40), some (vi g), some (vi c), some (vi x), none]) (S' := [vi g, vr 40]) k20_17 rfl rfl ?_
  refine ev_virt (a := [vi g]) (S' := []) k20_18 rfl (Nat.le_of_ble_eq_true rfl) (by decide) (rfl) (by omega) ?_
  refine g_bos hN2 hI2 (g := g) (by omega) (by omega) s2 (GSm.refl w) (by omega) (fun I3 hI3 s3 f3 => ?_)
  have fx3 : FSx I2 I3 kd2 kd2 := ⟨hI3, fun a b q => f3 a b (by omega), fun _ _ => rfl⟩
  have hN3 := hN2.fs fx3
  have F3 := F2.trans fx3
  have bg3 := bear_okc (o := w (28 + 4 * g)) s2.2.2.2.2 (wG g (by omega) (by omega)).1.1 (wG g (by omega) (by omega)).1.2
  show Ev d 20 21 [some (vr 40), some (vi g), some (vi c), some (vi x), none] [vi (bearW w c (w (28 + 4 * g)))] (SX I3 ch kd2) Q
  refine ev_s1 (L' := [some (vr 40), some (vi g), some (vi c), some (vi x), some (vi (bearW w c (w (28 + 4 * g))))]) (S' := []) k20_21 rfl rfl ?_
  refine ev_s1 (L' := [some (vr 40), some (vi g), some (vi c), some (vi x), some (vi (bearW w c (w (28 + 4 * g))))]) (S' := [vi x]) k20_23 rfl rfl ?_
  rcases (show x = 0 ∨ x = 1 ∨ (x ≠ 0 ∧ x ≠ 1) by omega) with hs4 | hs4 | hs4
  · refine ev_lsw (t := 52) k20_24 hs4 rfl ?_
    refine ev_s1 (L' := [some (vr 40), some (vi g), some (vi c), some (vi x), some (vi (bearW w c (w (28 + 4 * g))))]) (S' := [vi (bearW w c (w (28 + 4 * g)))]) k20_52 rfl rfl ?_
    refine ev_ireturn k20_54 ?_
    have e : wouW w g c x = bearW w c (w (28 + 4 * g)) := by unfold wouW; rw [if_pos (by omega)]
    rw [e] at hQ
    exact hQ _ _ F3
  · refine ev_lsw (t := 55) k20_24 hs4 rfl ?_
    refine ev_s1 (L' := [some (vr 40), some (vi g), some (vi c), some (vi x), some (vi (bearW w c (w (28 + 4 * g))))]) (S' := [vr 40]) k20_55 rfl rfl ?_
    refine ev_getR k20_56 (by decide) (rfl) (x_40_3 ch kd2) ?_
    refine ev_getI k20_59 (by decide) (rfl) ?_
    show Ev d 20 62 [some (vr 40), some (vi g), some (vi c), some (vi x), some (vi (bearW w c (w (28 + 4 * g))))] [vi (I3 56 1)] (SX I3 ch kd2) Q
    have rr5 := hI3 56 1
    refine ev_ireturn k20_62 ?_
    have e : wouW w g c x = I3 56 1 := by unfold wouW; rw [if_neg (by omega), if_pos (by omega), s3.2.1]
    rw [e] at hQ
    exact hQ _ _ F3
  · refine ev_lsd (t := 63) k20_24 (by omega) (by omega) (by decide) (by simp only [Op.lookupswitch.offset_cons, Op.lookupswitch.offset_nil]; rw [if_neg (by omega), if_neg (by omega)]) rfl ?_
    refine ev_s1 (L' := [some (vr 40), some (vi g), some (vi c), some (vi x), some (vi (bearW w c (w (28 + 4 * g))))]) (S' := [vr 40]) k20_63 rfl rfl ?_
    refine ev_getR k20_64 (by decide) (rfl) (x_40_3 ch kd2) ?_
    refine ev_getI k20_67 (by decide) (rfl) ?_
    show Ev d 20 70 [some (vr 40), some (vi g), some (vi c), some (vi x), some (vi (bearW w c (w (28 + 4 * g))))] [vi (I3 56 2)] (SX I3 ch kd2) Q
    have rr6 := hI3 56 2
    refine ev_ireturn k20_70 ?_
    have e : wouW w g c x = I3 56 2 := by unfold wouW; rw [if_neg (by omega), if_neg (by omega), s3.2.2.1]
    rw [e] at hQ
    exact hQ _ _ F3
