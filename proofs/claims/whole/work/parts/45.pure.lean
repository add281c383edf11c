def purW (g c o : Int) : Nat → Int → (Int → Int) → Int
  | 0, _, _ => -1000000
  | n + 1, i, v => if bearW v c o = o then i else purW g c o n (i + 1) (sitsW v g c)
def lefB (v : Int → Int) (c mn st : Int) : Bool := decide (v (3 + 5 * c + 1) = mn ∧ v (3 + 5 * c + 2) = st)

set_option maxHeartbeats 1000000 in
theorem l_pure {d : Nat} {J : Nat → Int → Int} {ch : Int → Nat} {kdJ : Nat → Nat} {Q : Option jV → jS → Prop} {w : Int → Int} {g c : Int} (g0 : 0 ≤ g) (g1 : g < w 2) (c0 : 0 ≤ c) (c1 : c < w 1) (hd : 5 ≤ d) (hQ : ∀ I' kd', FSx J I' kdJ kd' → Q (some (vi (purW g c (w (28 + 4 * g)) 21 0 w))) (SX I' ch kd')) : ∀ (n : Nat) (I : Nat → Int → Int) (kd : Nat → Nat) (i : Nat) (v : Int → Int), NOWX I ch kd w → Rg I → FSx J I kdJ kd → i + n = 21 → STL I kd v c → GSm w v → purW g c (w (28 + 4 * g)) 21 0 w = purW g c (w (28 + 4 * g)) n i v → Ev d 28 18 [some (vr 40), some (vi g), some (vi c), some (vi (i : Int))] [] (SX I ch kd) Q := by
  intro n
  induction n with
  | zero =>
    intro I kd i v hN hI F hi hs hg hp
    obtain ⟨⟨wa0, wa1⟩, ⟨wb0, wb1⟩, ⟨wc0, wc1⟩, wC, wG, wU⟩ := hN.2.2.1
    obtain ⟨go, gw, -, -⟩ := wG g g0 g1
    refine ev_s1 (L' := [some (vr 40), some (vi g), some (vi c), some (vi (i : Int))]) (S' := [vi (i : Int)]) k28_18 rfl rfl ?_
    refine ev_s1 (L' := [some (vr 40), some (vi g), some (vi c), some (vi (i : Int))]) (S' := [vi 20, vi (i : Int)]) k28_19 rfl rfl ?_
    refine ev_c_gt (t := 49) k28_21 rfl (by omega) (by omega) (by omega) (by omega) (fun h1 => ?_) (fun h1 => ?_)
    · refine ev_ldc k28_49 ?_
      refine ev_ireturn k28_51 ?_
      rw [hp] at hQ
      exact hQ _ _ F
    · exfalso; omega
  | succ n ih =>
    intro I kd i v hN hI F hi hs hg hp
    obtain ⟨⟨wa0, wa1⟩, ⟨wb0, wb1⟩, ⟨wc0, wc1⟩, wC, wG, wU⟩ := hN.2.2.1
    obtain ⟨go, gw, -, -⟩ := wG g g0 g1
    refine ev_s1 (L' := [some (vr 40), some (vi g), some (vi c), some (vi (i : Int))]) (S' := [vi (i : Int)]) k28_18 rfl rfl ?_
    refine ev_s1 (L' := [some (vr 40), some (vi g), some (vi c), some (vi (i : Int))]) (S' := [vi 20, vi (i : Int)]) k28_19 rfl rfl ?_
    refine ev_c_gt (t := 49) k28_21 rfl (by omega) (by omega) (by omega) (by omega) (fun h1 => ?_) (fun h1 => ?_)
    · exfalso; omega
    · refine ev_s1 (L' := [some (vr 40), some (vi g), some (vi c), some (vi (i : Int))]) (S' := [vr 40]) k28_24 rfl rfl ?_
      refine ev_s1 (L' := [some (vr 40), some (vi g), some (vi c), some (vi (i : Int))]) (S' := [vi g, vr 40]) k28_25 rfl rfl ?_
      refine ev_virt (a := [vi g]) (S' := []) k28_26 rfl (Nat.le_of_ble_eq_true rfl) (by decide) (rfl) (by omega) ?_
      refine g_bos hN hI (g := g) (by omega) (by omega) hs hg (by omega) (fun I2 hI2 s2 f2 => ?_)
      have fx2 : FSx I I2 kd kd := ⟨hI2, fun a b q => f2 a b (by omega), fun _ _ => rfl⟩
      have hN2 := hN.fs fx2
      have F2 := F.trans fx2
      have bg2 := bear_okc (o := w (28 + 4 * g)) hs.2.2.2.2 (wG g (by omega) (by omega)).1.1 (wG g (by omega) (by omega)).1.2
      show Ev d 28 29 [some (vr 40), some (vi g), some (vi c), some (vi (i : Int))] [vi (bearW v c (w (28 + 4 * g)))] (SX I2 ch kd) Q
      refine ev_s1 (L' := [some (vr 40), some (vi g), some (vi c), some (vi (i : Int))]) (S' := [vr 40, vi (bearW v c (w (28 + 4 * g)))]) k28_29 rfl rfl ?_
      refine ev_getR k28_30 (by decide) (rfl) (x_40_0 ch kd) ?_
      refine ev_getR k28_33 (by decide) (rfl) (x_13_2 ch kd) ?_
      refine ev_s1 (L' := [some (vr 40), some (vi g), some (vi c), some (vi (i : Int))]) (S' := [vi g, vr 15, vi (bearW v c (w (28 + 4 * g)))]) k28_36 rfl rfl ?_
      refine ev_iald k28_37 (by decide) (rfl) (by omega) (by omega) ?_
      have rr3 := hI2 15 g
      rw [f2 15 g (by decide), (hN.2.1.2.2.2.2 g (by omega) (by omega)).1]
      rw [f2 15 g (by decide), (hN.2.1.2.2.2.2 g (by omega) (by omega)).1] at rr3
      refine ev_c_ne (t := 43) k28_38 rfl (by omega) (by omega) (by omega) (by omega) (fun h4 => ?_) (fun h4 => ?_)
      · refine ev_s1 (L' := [some (vr 40), some (vi g), some (vi c), some (vi ((i : Int) + 1))]) (S' := []) k28_43 rfl rfl ?_
        refine ev_goto (t := 18) k28_46 rfl ?_
        exact ih I2 kd (i + 1) _ hN2 hI2 F2 (by omega) s2 (GSm.sits hg (by omega) (by omega)) (by rw [hp, purW, if_neg (by omega)]; rfl)
      · refine ev_s1 (L' := [some (vr 40), some (vi g), some (vi c), some (vi (i : Int))]) (S' := [vi (i : Int)]) k28_41 rfl rfl ?_
        refine ev_ireturn k28_42 ?_
        rw [hp, purW, if_pos (by omega)] at hQ
        exact hQ _ _ F2

set_option maxHeartbeats 1000000 in
theorem g_pure {d : Nat} {I : Nat → Int → Int} {ch : Int → Nat} {kd : Nat → Nat} {Q : Option jV → jS → Prop} {w : Int → Int} (hN : NOWX I ch kd w) (hI : Rg I) {g c : Int} (g0 : 0 ≤ g) (g1 : g < w 2) (c0 : 0 ≤ c) (c1 : c < w 1) (hd : 5 ≤ d) (hQ : ∀ I' kd', FSx I I' kd kd' → Q (some (vi (purW g c (w (28 + 4 * g)) 21 0 w))) (SX I' ch kd')) : Cl d 28 [vr 40, vi g, vi c] (SX I ch kd) Q := by
  obtain ⟨⟨wa0, wa1⟩, ⟨wb0, wb1⟩, ⟨wc0, wc1⟩, wC, wG, wU⟩ := hN.2.2.1
  refine ⟨by rw [l28]; exact Nat.le_of_ble_eq_true rfl, ?_⟩
  rw [l28]
  show Ev d 28 0 [some (vr 40), some (vi g), some (vi c), none] [] (SX I ch kd) Q
  refine ev_s1 (L' := [some (vr 40), some (vi g), some (vi c), none]) (S' := [vr 40]) k28_0 rfl rfl ?_
  refine ev_getR k28_1 (by decide) (rfl) (x_40_3 ch kd) ?_
  refine ev_s1 (L' := [some (vr 40), some (vi g), some (vi c), none]) (S' := [vr 40, vr 56]) k28_4 rfl rfl ?_
  refine ev_getR k28_5 (by decide) (rfl) (x_40_0 ch kd) ?_
  refine ev_getR k28_8 (by decide) (rfl) (x_13_1 ch kd) ?_
  refine ev_s1 (L' := [some (vr 40), some (vi g), some (vi c), none]) (S' := [vi c, vr 14, vr 56]) k28_11 rfl rfl ?_
  have hc1 := hN.1.2.1 c (by omega) (by omega)
  have hl1 := (shp_c hc1.2).1
  have hb1 := hN.1.2.2.2 c (by omega) (by omega)
  refine ev_aald (q := ch c) k28_12 (by decide) (rfl) (by decide) (by decide) (by omega) (by omega) (rX14 (by omega) (by omega)) ?_
  refine ev_virt (a := [vr (ch c)]) (S' := []) k28_13 rfl (Nat.le_of_ble_eq_true rfl) (by decide) (rfl) (by omega) ?_
  refine g_take hN hI (by omega) (by omega) (fun I2 kd2 hI2 s2 f2 k2 => ?_)
  have fx2 : FSx I I2 kd kd2 := ⟨hI2, fun a b q => f2 a b (by omega), fun a q => k2 a (by omega)⟩
  have hN2 := hN.fs fx2
  have F2 := fx2
  show Ev d 28 16 [some (vr 40), some (vi g), some (vi c), none] [] (SX I2 ch kd2) Q
  refine ev_s1 (L' := [some (vr 40), some (vi g), some (vi c), none]) (S' := [vi 0]) k28_16 rfl rfl ?_
  refine ev_s1 (L' := [some (vr 40), some (vi g), some (vi c), some (vi 0)]) (S' := []) k28_17 rfl rfl ?_
  exact l_pure g0 g1 c0 c1 (by omega) hQ 21 I2 kd2 0 w hN2 hI2 F2 (by decide) s2 (GSm.refl w) rfl

set_option maxHeartbeats 1000000 in
theorem l_sitl {d : Nat} {J : Nat → Int → Int} {ch : Int → Nat} {kdJ : Nat → Nat} {Q : Option jV → jS → Prop} {w : Int → Int} {c mn st : Int} (c0 : 0 ≤ c) (c1 : c < w 1) (mn0 : 0 ≤ mn) (mn9 : mn ≤ 9) (st0 : 0 ≤ st) (st9 : st ≤ 16) (hd : 5 ≤ d) (hQ : ∀ I' kd', FSx J I' kdJ kd' → Q (some (vi (bitsF (fun a => lefB (sitsW w a c) c mn st) (w 2).toNat))) (SX I' ch kd')) : ∀ (n : Nat) (I : Nat → Int → Int) (kd : Nat → Nat) (i : Nat) (t : Int), NOWX I ch kd w → Rg I → FSx J I kdJ kd → w 2 - i < n → (i : Int) ≤ w 2 → t = bitsF (fun a => lefB (sitsW w a c) c mn st) i → Ev d 29 6 [some (vr 40), some (vi c), some (vi mn), some (vi st), some (vi t), some (vi (i : Int))] [] (SX I ch kd) Q := by
  intro n
  induction n with
  | zero =>
    intro I kd i t hN hI F hi hi2 ht
    exfalso; omega
  | succ n ih =>
    intro I kd i t hN hI F hi hi2 ht
    obtain ⟨⟨wa0, wa1⟩, ⟨wb0, wb1⟩, ⟨wc0, wc1⟩, wC, wG, wU⟩ := hN.2.2.1
    refine ev_s1 (L' := [some (vr 40), some (vi c), some (vi mn), some (vi st), some (vi t), some (vi (i : Int))]) (S' := [vi (i : Int)]) k29_6 rfl rfl ?_
    refine ev_s1 (L' := [some (vr 40), some (vi c), some (vi mn), some (vi st), some (vi t), some (vi (i : Int))]) (S' := [vr 40, vi (i : Int)]) k29_8 rfl rfl ?_
    refine ev_getR k29_9 (by decide) (rfl) (x_40_0 ch kd) ?_
    refine ev_getI k29_12 (by decide) (rfl) ?_
    show Ev d 29 15 [some (vr 40), some (vi c), some (vi mn), some (vi st), some (vi t), some (vi (i : Int))] [vi (I 13 7), vi (i : Int)] (SX I ch kd) Q
    have rr1 := hI 13 7
    rw [hN.2.1.2.1]
    rw [hN.2.1.2.1] at rr1
    refine ev_c_ge (t := 68) k29_15 rfl (by omega) (by omega) (by omega) (by omega) (fun h2 => ?_) (fun h2 => ?_)
    · refine ev_s1 (L' := [some (vr 40), some (vi c), some (vi mn), some (vi st), some (vi t), some (vi (i : Int))]) (S' := [vi t]) k29_68 rfl rfl ?_
      refine ev_ireturn k29_70 ?_
      rw [show (w 2).toNat = i by omega, ← ht] at hQ
      exact hQ _ _ F
    · refine ev_s1 (L' := [some (vr 40), some (vi c), some (vi mn), some (vi st), some (vi t), some (vi (i : Int))]) (S' := [vr 40]) k29_18 rfl rfl ?_
      refine ev_getR k29_19 (by decide) (rfl) (x_40_3 ch kd) ?_
      refine ev_s1 (L' := [some (vr 40), some (vi c), some (vi mn), some (vi st), some (vi t), some (vi (i : Int))]) (S' := [vr 40, vr 56]) k29_22 rfl rfl ?_
      refine ev_getR k29_23 (by decide) (rfl) (x_40_0 ch kd) ?_
      refine ev_getR k29_26 (by decide) (rfl) (x_13_1 ch kd) ?_
      refine ev_s1 (L' := [some (vr 40), some (vi c), some (vi mn), some (vi st), some (vi t), some (vi (i : Int))]) (S' := [vi c, vr 14, vr 56]) k29_29 rfl rfl ?_
      have hc3 := hN.1.2.1 c (by omega) (by omega)
      have hl3 := (shp_c hc3.2).1
      have hb3 := hN.1.2.2.2 c (by omega) (by omega)
      refine ev_aald (q := ch c) k29_30 (by decide) (rfl) (by decide) (by decide) (by omega) (by omega) (rX14 (by omega) (by omega)) ?_
      refine ev_virt (a := [vr (ch c)]) (S' := []) k29_31 rfl (Nat.le_of_ble_eq_true rfl) (by decide) (rfl) (by omega) ?_
      refine g_take hN hI (by omega) (by omega) (fun I4 kd4 hI4 s4 f4 k4 => ?_)
      have fx4 : FSx I I4 kd kd4 := ⟨hI4, fun a b q => f4 a b (by omega), fun a q => k4 a (by omega)⟩
      have hN4 := hN.fs fx4
      have F4 := F.trans fx4
      show Ev d 29 34 [some (vr 40), some (vi c), some (vi mn), some (vi st), some (vi t), some (vi (i : Int))] [] (SX I4 ch kd4) Q
      refine ev_s1 (L' := [some (vr 40), some (vi c), some (vi mn), some (vi st), some (vi t), some (vi (i : Int))]) (S' := [vr 40]) k29_34 rfl rfl ?_
      refine ev_s1 (L' := [some (vr 40), some (vi c), some (vi mn), some (vi st), some (vi t), some (vi (i : Int))]) (S' := [vi (i : Int), vr 40]) k29_35 rfl rfl ?_
      refine ev_virt (a := [vi (i : Int)]) (S' := []) k29_37 rfl (Nat.le_of_ble_eq_true rfl) (by decide) (rfl) (by omega) ?_
      refine g_bos hN4 hI4 (g := (i : Int)) (by omega) (by omega) s4 (GSm.refl w) (by omega) (fun I5 hI5 s5 f5 => ?_)
      have fx5 : FSx I4 I5 kd4 kd4 := ⟨hI5, fun a b q => f5 a b (by omega), fun _ _ => rfl⟩
      have hN5 := hN4.fs fx5
      have F5 := F4.trans fx5
      have bg5 := bear_okc (o := w (28 + 4 * (i : Int))) s4.2.2.2.2 (wG (i : Int) (by omega) (by omega)).1.1 (wG (i : Int) (by omega) (by omega)).1.2
      show Ev d 29 40 [some (vr 40), some (vi c), some (vi mn), some (vi st), some (vi t), some (vi (i : Int))] [vi (bearW w c (w (28 + 4 * (i : Int))))] (SX I5 ch kd4) Q
      refine ev_s1 (L' := [some (vr 40), some (vi c), some (vi mn), some (vi st), some (vi t), some (vi (i : Int))]) (S' := []) k29_40 rfl rfl ?_
      refine ev_s1 (L' := [some (vr 40), some (vi c), some (vi mn), some (vi st), some (vi t), some (vi (i : Int))]) (S' := [vr 40]) k29_41 rfl rfl ?_
      refine ev_getR k29_42 (by decide) (rfl) (x_40_3 ch kd4) ?_
      refine ev_s1 (L' := [some (vr 40), some (vi c), some (vi mn), some (vi st), some (vi t), some (vi (i : Int))]) (S' := [vi mn, vr 56]) k29_45 rfl rfl ?_
      refine ev_s1 (L' := [some (vr 40), some (vi c), some (vi mn), some (vi st), some (vi t), some (vi (i : Int))]) (S' := [vi st, vi mn, vr 56]) k29_46 rfl rfl ?_
      refine ev_virt (a := [vi mn, vi st]) (S' := []) k29_47 rfl (Nat.le_of_ble_eq_true rfl) (by decide) (rfl) (by omega) ?_
      refine c_isLike (c := 56) (x := mn) (y := st) rfl hI5 (by omega) (by omega) (by omega) (by omega) (fun hh => ?_) (fun hh => ?_)
      · rw [s5.2.1, s5.2.2.1] at hh
        show Ev d 29 50 [some (vr 40), some (vi c), some (vi mn), some (vi st), some (vi t), some (vi (i : Int))] [vi 1] (SX I5 ch kd4) Q
        refine ev_z_eq (t := 62) k29_50 rfl (by omega) (by omega) (fun h => absurd h (by decide)) (fun _ => ?_)
        refine ev_s1 (L' := [some (vr 40), some (vi c), some (vi mn), some (vi st), some (vi t), some (vi (i : Int))]) (S' := [vi t]) k29_53 rfl rfl ?_
        refine ev_s1 (L' := [some (vr 40), some (vi c), some (vi mn), some (vi st), some (vi t), some (vi (i : Int))]) (S' := [vi 1, vi t]) k29_55 rfl rfl ?_
        refine ev_s1 (L' := [some (vr 40), some (vi c), some (vi mn), some (vi st), some (vi t), some (vi (i : Int))]) (S' := [vi (i : Int), vi 1, vi t]) k29_56 rfl rfl ?_
        refine ev_ishl k29_58 (by omega) (by omega) ?_
        refine ev_ior k29_59 (by have := bits_lt (fun a => lefB (sitsW w a c) c mn st) (n := i) (by omega); omega) (by have := bits_lt (fun a => lefB (sitsW w a c) c mn st) (n := i) (by omega); omega) ((p2_rng i (by omega)).1) ((p2_rng i (by omega)).2) ?_
        refine ev_s1 (L' := [some (vr 40), some (vi c), some (vi mn), some (vi st), some (vi ((Int.toNat t ||| Int.toNat (1 * 2 ^ Int.toNat (i : Int)) : Nat) : Int)), some (vi (i : Int))]) (S' := []) k29_60 rfl rfl ?_
        refine ev_s1 (L' := [some (vr 40), some (vi c), some (vi mn), some (vi st), some (vi ((Int.toNat t ||| Int.toNat (1 * 2 ^ Int.toNat (i : Int)) : Nat) : Int)), some (vi ((i : Int) + 1))]) (S' := []) k29_62 rfl rfl ?_
        refine ev_goto (t := 6) k29_65 rfl ?_
        exact ih I5 kd4 (i + 1) _ hN5 hI5 F5 (by omega) (by omega) (by rw [bits_t (p := (fun a => lefB (sitsW w a c) c mn st)) (decide_eq_true hh), ← ht]; rfl)
      · rw [s5.2.1, s5.2.2.1] at hh
        show Ev d 29 50 [some (vr 40), some (vi c), some (vi mn), some (vi st), some (vi t), some (vi (i : Int))] [vi 0] (SX I5 ch kd4) Q
        refine ev_z_eq (t := 62) k29_50 rfl (by omega) (by omega) (fun _ => ?_) (fun h => absurd h (by decide))
        refine ev_s1 (L' := [some (vr 40), some (vi c), some (vi mn), some (vi st), some (vi t), some (vi ((i : Int) + 1))]) (S' := []) k29_62 rfl rfl ?_
        refine ev_goto (t := 6) k29_65 rfl ?_
        exact ih I5 kd4 (i + 1) _ hN5 hI5 F5 (by omega) (by omega) (by rw [bits_f (p := (fun a => lefB (sitsW w a c) c mn st)) (decide_eq_false hh)]; exact ht)

set_option maxHeartbeats 1000000 in
theorem g_sitl {d : Nat} {I : Nat → Int → Int} {ch : Int → Nat} {kd : Nat → Nat} {Q : Option jV → jS → Prop} {w : Int → Int} (hN : NOWX I ch kd w) (hI : Rg I) {c mn st : Int} (c0 : 0 ≤ c) (c1 : c < w 1) (mn0 : 0 ≤ mn) (mn9 : mn ≤ 9) (st0 : 0 ≤ st) (st9 : st ≤ 16) (hd : 5 ≤ d) (hQ : ∀ I' kd', FSx I I' kd kd' → Q (some (vi (bitsF (fun a => lefB (sitsW w a c) c mn st) (w 2).toNat))) (SX I' ch kd')) : Cl d 29 [vr 40, vi c, vi mn, vi st] (SX I ch kd) Q := by
  obtain ⟨⟨wa0, wa1⟩, ⟨wb0, wb1⟩, ⟨wc0, wc1⟩, wC, wG, wU⟩ := hN.2.2.1
  refine ⟨by rw [l29]; exact Nat.le_of_ble_eq_true rfl, ?_⟩
  rw [l29]
  show Ev d 29 0 [some (vr 40), some (vi c), some (vi mn), some (vi st), none, none] [] (SX I ch kd) Q
  refine ev_s1 (L' := [some (vr 40), some (vi c), some (vi mn), some (vi st), none, none]) (S' := [vi 0]) k29_0 rfl rfl ?_
  refine ev_s1 (L' := [some (vr 40), some (vi c), some (vi mn), some (vi st), some (vi 0), none]) (S' := []) k29_1 rfl rfl ?_
  refine ev_s1 (L' := [some (vr 40), some (vi c), some (vi mn), some (vi st), some (vi 0), none]) (S' := [vi 0]) k29_3 rfl rfl ?_
  refine ev_s1 (L' := [some (vr 40), some (vi c), some (vi mn), some (vi st), some (vi 0), some (vi 0)]) (S' := []) k29_4 rfl rfl ?_
  exact l_sitl c0 c1 mn0 mn9 st0 st9 hd hQ 6 I kd 0 0 hN hI (FSx.refl hI) (by omega) (by omega) rfl

theorem sum_rng {f : Int → Int} {lo hi : Int} : ∀ n : Nat, (∀ i : Nat, i < n → lo ≤ f i ∧ f i ≤ hi) → lo * n ≤ sumF f n ∧ sumF f n ≤ hi * n := by
  intro n
  induction n with
  | zero => intro _; simp [sumF]
  | succ n ih =>
    intro h
    have a := ih (fun i hi => h i (by omega))
    have b := h n (by omega)
    have e1 : lo * ((n + 1 : Nat) : Int) = lo * n + lo := by rw [Int.natCast_add, Int.mul_add]; simp
    have e2 : hi * ((n + 1 : Nat) : Int) = hi * n + hi := by rw [Int.natCast_add, Int.mul_add]; simp
    rw [sumF, e1, e2]
    omega

set_option maxHeartbeats 1000000 in
theorem l_parj {d : Nat} {J : Nat → Int → Int} {ch : Int → Nat} {kdJ : Nat → Nat} {Q : Option jV → jS → Prop} {w : Int → Int} {c mn st : Int} (c0 : 0 ≤ c) (c1 : c < w 1) (mn0 : 0 ≤ mn) (mn9 : mn ≤ 9) (st0 : 0 ≤ st) (st9 : st ≤ 16) (hd : 5 ≤ d) {i : Nat} {s : Int} (i1 : (i : Int) < w 2) (hE : ∀ (I : Nat → Int → Int) (kd : Nat → Nat), NOWX I ch kd w → Rg I → FSx J I kdJ kd → Ev d 30 84 [some (vr 40), some (vi c), some (vi mn), some (vi st), some (vi (s + cntF (fun b => lefB (sitsW (sitsW w (i : Int) c) b c) c mn st) (w 2).toNat)), some (vi (i : Int)), some (vi (w 2))] [] (SX I ch kd) Q) : ∀ (n : Nat) (I : Nat → Int → Int) (kd : Nat → Nat) (j : Nat) (t : Int), NOWX I ch kd w → Rg I → FSx J I kdJ kd → w 2 - j < n → (j : Int) ≤ w 2 → t = s + cntF (fun b => lefB (sitsW (sitsW w (i : Int) c) b c) c mn st) j → Ev d 30 21 [some (vr 40), some (vi c), some (vi mn), some (vi st), some (vi t), some (vi (i : Int)), some (vi (j : Int))] [] (SX I ch kd) Q := by
  intro n
  induction n with
  | zero =>
    intro I kd j t hN hI F hi hi2 ht
    exfalso; omega
  | succ n ih =>
    intro I kd j t hN hI F hi hi2 ht
    obtain ⟨⟨wa0, wa1⟩, ⟨wb0, wb1⟩, ⟨wc0, wc1⟩, wC, wG, wU⟩ := hN.2.2.1
    refine ev_s1 (L' := [some (vr 40), some (vi c), some (vi mn), some (vi st), some (vi t), some (vi (i : Int)), some (vi (j : Int))]) (S' := [vi (j : Int)]) k30_21 rfl rfl ?_
    refine ev_s1 (L' := [some (vr 40), some (vi c), some (vi mn), some (vi st), some (vi t), some (vi (i : Int)), some (vi (j : Int))]) (S' := [vr 40, vi (j : Int)]) k30_23 rfl rfl ?_
    refine ev_getR k30_24 (by decide) (rfl) (x_40_0 ch kd) ?_
    refine ev_getI k30_27 (by decide) (rfl) ?_
    show Ev d 30 30 [some (vr 40), some (vi c), some (vi mn), some (vi st), some (vi t), some (vi (i : Int)), some (vi (j : Int))] [vi (I 13 7), vi (j : Int)] (SX I ch kd) Q
    have rr1 := hI 13 7
    rw [hN.2.1.2.1]
    rw [hN.2.1.2.1] at rr1
    refine ev_c_ge (t := 84) k30_30 rfl (by omega) (by omega) (by omega) (by omega) (fun h2 => ?_) (fun h2 => ?_)
    · rw [ht, show (j : Int) = w 2 by omega, show j = (w 2).toNat by omega]
      exact hE I kd hN hI F
    · refine ev_s1 (L' := [some (vr 40), some (vi c), some (vi mn), some (vi st), some (vi t), some (vi (i : Int)), some (vi (j : Int))]) (S' := [vr 40]) k30_33 rfl rfl ?_
      refine ev_getR k30_34 (by decide) (rfl) (x_40_3 ch kd) ?_
      refine ev_s1 (L' := [some (vr 40), some (vi c), some (vi mn), some (vi st), some (vi t), some (vi (i : Int)), some (vi (j : Int))]) (S' := [vr 40, vr 56]) k30_37 rfl rfl ?_
      refine ev_getR k30_38 (by decide) (rfl) (x_40_0 ch kd) ?_
      refine ev_getR k30_41 (by decide) (rfl) (x_13_1 ch kd) ?_
      refine ev_s1 (L' := [some (vr 40), some (vi c), some (vi mn), some (vi st), some (vi t), some (vi (i : Int)), some (vi (j : Int))]) (S' := [vi c, vr 14, vr 56]) k30_44 rfl rfl ?_
      have hc3 := hN.1.2.1 c (by omega) (by omega)
      have hl3 := (shp_c hc3.2).1
      have hb3 := hN.1.2.2.2 c (by omega) (by omega)
      refine ev_aald (q := ch c) k30_45 (by decide) (rfl) (by decide) (by decide) (by omega) (by omega) (rX14 (by omega) (by omega)) ?_
      refine ev_virt (a := [vr (ch c)]) (S' := []) k30_46 rfl (Nat.le_of_ble_eq_true rfl) (by decide) (rfl) (by omega) ?_
      refine g_take hN hI (by omega) (by omega) (fun I4 kd4 hI4 s4 f4 k4 => ?_)
      have fx4 : FSx I I4 kd kd4 := ⟨hI4, fun a b q => f4 a b (by omega), fun a q => k4 a (by omega)⟩
      have hN4 := hN.fs fx4
      have F4 := F.trans fx4
      show Ev d 30 49 [some (vr 40), some (vi c), some (vi mn), some (vi st), some (vi t), some (vi (i : Int)), some (vi (j : Int))] [] (SX I4 ch kd4) Q
      refine ev_s1 (L' := [some (vr 40), some (vi c), some (vi mn), some (vi st), some (vi t), some (vi (i : Int)), some (vi (j : Int))]) (S' := [vr 40]) k30_49 rfl rfl ?_
      refine ev_s1 (L' := [some (vr 40), some (vi c), some (vi mn), some (vi st), some (vi t), some (vi (i : Int)), some (vi (j : Int))]) (S' := [vi (i : Int), vr 40]) k30_50 rfl rfl ?_
      refine ev_virt (a := [vi (i : Int)]) (S' := []) k30_52 rfl (Nat.le_of_ble_eq_true rfl) (by decide) (rfl) (by omega) ?_
      refine g_bos hN4 hI4 (g := (i : Int)) (by omega) (by omega) s4 (GSm.refl w) (by omega) (fun I5 hI5 s5 f5 => ?_)
      have fx5 : FSx I4 I5 kd4 kd4 := ⟨hI5, fun a b q => f5 a b (by omega), fun _ _ => rfl⟩
      have hN5 := hN4.fs fx5
      have F5 := F4.trans fx5
      have bg5 := bear_okc (o := w (28 + 4 * (i : Int))) s4.2.2.2.2 (wG (i : Int) (by omega) (by omega)).1.1 (wG (i : Int) (by omega) (by omega)).1.2
      show Ev d 30 55 [some (vr 40), some (vi c), some (vi mn), some (vi st), some (vi t), some (vi (i : Int)), some (vi (j : Int))] [vi (bearW w c (w (28 + 4 * (i : Int))))] (SX I5 ch kd4) Q
      refine ev_s1 (L' := [some (vr 40), some (vi c), some (vi mn), some (vi st), some (vi t), some (vi (i : Int)), some (vi (j : Int))]) (S' := []) k30_55 rfl rfl ?_
      refine ev_s1 (L' := [some (vr 40), some (vi c), some (vi mn), some (vi st), some (vi t), some (vi (i : Int)), some (vi (j : Int))]) (S' := [vr 40]) k30_56 rfl rfl ?_
      refine ev_s1 (L' := [some (vr 40), some (vi c), some (vi mn), some (vi st), some (vi t), some (vi (i : Int)), some (vi (j : Int))]) (S' := [vi (j : Int), vr 40]) k30_57 rfl rfl ?_
      refine ev_virt (a := [vi (j : Int)]) (S' := []) k30_59 rfl (Nat.le_of_ble_eq_true rfl) (by decide) (rfl) (by omega) ?_
      refine g_bos hN5 hI5 (g := (j : Int)) (by omega) (by omega) s5 (GSm.sits (GSm.refl w) (by omega) (by omega)) (by omega) (fun I6 hI6 s6 f6 => ?_)
      have fx6 : FSx I5 I6 kd4 kd4 := ⟨hI6, fun a b q => f6 a b (by omega), fun _ _ => rfl⟩
      have hN6 := hN5.fs fx6
      have F6 := F5.trans fx6
      have bg6 := bear_okc (o := w (28 + 4 * (j : Int))) s5.2.2.2.2 (wG (j : Int) (by omega) (by omega)).1.1 (wG (j : Int) (by omega) (by omega)).1.2
      show Ev d 30 62 [some (vr 40), some (vi c), some (vi mn), some (vi st), some (vi t), some (vi (i : Int)), some (vi (j : Int))] [vi (bearW (sitsW w (i : Int) c) c (w (28 + 4 * (j : Int))))] (SX I6 ch kd4) Q
      refine ev_s1 (L' := [some (vr 40), some (vi c), some (vi mn), some (vi st), some (vi t), some (vi (i : Int)), some (vi (j : Int))]) (S' := []) k30_62 rfl rfl ?_
      refine ev_s1 (L' := [some (vr 40), some (vi c), some (vi mn), some (vi st), some (vi t), some (vi (i : Int)), some (vi (j : Int))]) (S' := [vr 40]) k30_63 rfl rfl ?_
      refine ev_getR k30_64 (by decide) (rfl) (x_40_3 ch kd4) ?_
      refine ev_s1 (L' := [some (vr 40), some (vi c), some (vi mn), some (vi st), some (vi t), some (vi (i : Int)), some (vi (j : Int))]) (S' := [vi mn, vr 56]) k30_67 rfl rfl ?_
      refine ev_s1 (L' := [some (vr 40), some (vi c), some (vi mn), some (vi st), some (vi t), some (vi (i : Int)), some (vi (j : Int))]) (S' := [vi st, vi mn, vr 56]) k30_68 rfl rfl ?_
      refine ev_virt (a := [vi mn, vi st]) (S' := []) k30_69 rfl (Nat.le_of_ble_eq_true rfl) (by decide) (rfl) (by omega) ?_
      refine c_isLike (c := 56) (x := mn) (y := st) rfl hI6 (by omega) (by omega) (by omega) (by omega) (fun hh => ?_) (fun hh => ?_)
      · rw [s6.2.1, s6.2.2.1] at hh
        show Ev d 30 72 [some (vr 40), some (vi c), some (vi mn), some (vi st), some (vi t), some (vi (i : Int)), some (vi (j : Int))] [vi 1] (SX I6 ch kd4) Q
        refine ev_z_eq (t := 78) k30_72 rfl (by omega) (by omega) (fun h => absurd h (by decide)) (fun _ => ?_)
        refine ev_s1 (L' := [some (vr 40), some (vi c), some (vi mn), some (vi st), some (vi (t + 1)), some (vi (i : Int)), some (vi (j : Int))]) (S' := []) k30_75 rfl rfl ?_
        refine ev_s1 (L' := [some (vr 40), some (vi c), some (vi mn), some (vi st), some (vi (t + 1)), some (vi (i : Int)), some (vi ((j : Int) + 1))]) (S' := []) k30_78 rfl rfl ?_
        refine ev_goto (t := 21) k30_81 rfl ?_
        exact ih I6 kd4 (j + 1) _ hN6 hI6 F6 (by omega) (by omega) (by rw [ht]; have := cnt_t (p := (fun b => lefB (sitsW (sitsW w (i : Int) c) b c) c mn st)) (n := j) (decide_eq_true hh); omega)
      · rw [s6.2.1, s6.2.2.1] at hh
        show Ev d 30 72 [some (vr 40), some (vi c), some (vi mn), some (vi st), some (vi t), some (vi (i : Int)), some (vi (j : Int))] [vi 0] (SX I6 ch kd4) Q
        refine ev_z_eq (t := 78) k30_72 rfl (by omega) (by omega) (fun _ => ?_) (fun h => absurd h (by decide))
        refine ev_s1 (L' := [some (vr 40), some (vi c), some (vi mn), some (vi st), some (vi t), some (vi (i : Int)), some (vi ((j : Int) + 1))]) (S' := []) k30_78 rfl rfl ?_
        refine ev_goto (t := 21) k30_81 rfl ?_
        exact ih I6 kd4 (j + 1) _ hN6 hI6 F6 (by omega) (by omega) (by rw [ht]; have := cnt_f (p := (fun b => lefB (sitsW (sitsW w (i : Int) c) b c) c mn st)) (n := j) (decide_eq_false hh); omega)

set_option maxHeartbeats 1000000 in
theorem l_pari {d : Nat} {J : Nat → Int → Int} {ch : Int → Nat} {kdJ : Nat → Nat} {Q : Option jV → jS → Prop} {w : Int → Int} {c mn st : Int} (c0 : 0 ≤ c) (c1 : c < w 1) (mn0 : 0 ≤ mn) (mn9 : mn ≤ 9) (st0 : 0 ≤ st) (st9 : st ≤ 16) (hd : 5 ≤ d) (hQ : ∀ I' kd', FSx J I' kdJ kd' → Q (some (vi (sumF (fun a => cntF (fun b => lefB (sitsW (sitsW w a c) b c) c mn st) (w 2).toNat) (w 2).toNat))) (SX I' ch kd')) : ∀ (n : Nat) (I : Nat → Int → Int) (kd : Nat → Nat) (i : Nat) (t : Int) (x : Option jV), NOWX I ch kd w → Rg I → FSx J I kdJ kd → w 2 - i < n → (i : Int) ≤ w 2 → t = sumF (fun a => cntF (fun b => lefB (sitsW (sitsW w a c) b c) c mn st) (w 2).toNat) i → Ev d 30 6 [some (vr 40), some (vi c), some (vi mn), some (vi st), some (vi t), some (vi (i : Int)), x] [] (SX I ch kd) Q := by
  intro n
  induction n with
  | zero =>
    intro I kd i t x hN hI F hi hi2 ht
    exfalso; omega
  | succ n ih =>
    intro I kd i t x hN hI F hi hi2 ht
    obtain ⟨⟨wa0, wa1⟩, ⟨wb0, wb1⟩, ⟨wc0, wc1⟩, wC, wG, wU⟩ := hN.2.2.1
    refine ev_s1 (L' := [some (vr 40), some (vi c), some (vi mn), some (vi st), some (vi t), some (vi (i : Int)), x]) (S' := [vi (i : Int)]) k30_6 rfl rfl ?_
    refine ev_s1 (L' := [some (vr 40), some (vi c), some (vi mn), some (vi st), some (vi t), some (vi (i : Int)), x]) (S' := [vr 40, vi (i : Int)]) k30_8 rfl rfl ?_
    refine ev_getR k30_9 (by decide) (rfl) (x_40_0 ch kd) ?_
    refine ev_getI k30_12 (by decide) (rfl) ?_
    show Ev d 30 15 [some (vr 40), some (vi c), some (vi mn), some (vi st), some (vi t), some (vi (i : Int)), x] [vi (I 13 7), vi (i : Int)] (SX I ch kd) Q
    have rr1 := hI 13 7
    rw [hN.2.1.2.1]
    rw [hN.2.1.2.1] at rr1
    refine ev_c_ge (t := 90) k30_15 rfl (by omega) (by omega) (by omega) (by omega) (fun h2 => ?_) (fun h2 => ?_)
    · refine ev_s1 (L' := [some (vr 40), some (vi c), some (vi mn), some (vi st), some (vi t), some (vi (i : Int)), x]) (S' := [vi t]) k30_90 rfl rfl ?_
      refine ev_ireturn k30_92 ?_
      rw [show i = (w 2).toNat by omega] at ht
      rw [← ht] at hQ
      exact hQ _ _ F
    · refine ev_s1 (L' := [some (vr 40), some (vi c), some (vi mn), some (vi st), some (vi t), some (vi (i : Int)), x]) (S' := [vi 0]) k30_18 rfl rfl ?_
      refine ev_s1 (L' := [some (vr 40), some (vi c), some (vi mn), some (vi st), some (vi t), some (vi (i : Int)), some (vi 0)]) (S' := []) k30_19 rfl rfl ?_
      refine l_parj c0 c1 mn0 mn9 st0 st9 hd (i := i) (s := t) (by omega) (fun I2 kd2 hN2 hI2 F2 => ?_) 6 I kd 0 t hN hI F (by omega) (by omega) (by simp [cntF])
      refine ev_s1 (L' := [some (vr 40), some (vi c), some (vi mn), some (vi st), some (vi (t + cntF (fun b => lefB (sitsW (sitsW w (i : Int) c) b c) c mn st) (w 2).toNat)), some (vi ((i : Int) + 1)), some (vi (w 2))]) (S' := []) k30_84 rfl rfl ?_
      refine ev_goto (t := 6) k30_87 rfl ?_
      exact ih I2 kd2 (i + 1) _ _ hN2 hI2 F2 (by omega) (by omega) (by rw [ht]; rfl)

set_option maxHeartbeats 1000000 in
theorem g_pairs {d : Nat} {I : Nat → Int → Int} {ch : Int → Nat} {kd : Nat → Nat} {Q : Option jV → jS → Prop} {w : Int → Int} (hN : NOWX I ch kd w) (hI : Rg I) {c mn st : Int} (c0 : 0 ≤ c) (c1 : c < w 1) (mn0 : 0 ≤ mn) (mn9 : mn ≤ 9) (st0 : 0 ≤ st) (st9 : st ≤ 16) (hd : 5 ≤ d) (hQ : ∀ I' kd', FSx I I' kd kd' → Q (some (vi (sumF (fun a => cntF (fun b => lefB (sitsW (sitsW w a c) b c) c mn st) (w 2).toNat) (w 2).toNat))) (SX I' ch kd')) : Cl d 30 [vr 40, vi c, vi mn, vi st] (SX I ch kd) Q := by
  obtain ⟨⟨wa0, wa1⟩, ⟨wb0, wb1⟩, ⟨wc0, wc1⟩, wC, wG, wU⟩ := hN.2.2.1
  refine ⟨by rw [l30]; exact Nat.le_of_ble_eq_true rfl, ?_⟩
  rw [l30]
  show Ev d 30 0 [some (vr 40), some (vi c), some (vi mn), some (vi st), none, none, none] [] (SX I ch kd) Q
  refine ev_s1 (L' := [some (vr 40), some (vi c), some (vi mn), some (vi st), none, none, none]) (S' := [vi 0]) k30_0 rfl rfl ?_
  refine ev_s1 (L' := [some (vr 40), some (vi c), some (vi mn), some (vi st), some (vi 0), none, none]) (S' := []) k30_1 rfl rfl ?_
  refine ev_s1 (L' := [some (vr 40), some (vi c), some (vi mn), some (vi st), some (vi 0), none, none]) (S' := [vi 0]) k30_3 rfl rfl ?_
  refine ev_s1 (L' := [some (vr 40), some (vi c), some (vi mn), some (vi st), some (vi 0), some (vi 0), none]) (S' := []) k30_4 rfl rfl ?_
  exact l_pari c0 c1 mn0 mn9 st0 st9 hd hQ 6 I kd 0 0 none hN hI (FSx.refl hI) (by omega) (by omega) rfl
