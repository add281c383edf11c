theorem XO.fr2 {I I' J J' : Nat → Int → Int} {kd kd' : Nat → Nat} (h : XO I kd J) (hI : ∀ a b, (a = 2 ∨ a = 4 ∨ a = 26 ∨ (a % 2 = 0 ∧ 57 ≤ a ∧ a ≤ 76)) → I' a b = I a b) (hs : ∀ a, (a = 3 ∨ a = 25 ∨ (57 ≤ a ∧ a ≤ 76)) → I' a 1 = I a 1) (i10 : I' 0 10 = I 0 10) (i11 : I' 0 11 = I 0 11) (j4 : J' 0 4 = J 0 4) (j6 : J' 0 6 = J 0 6) (j7 : J' 0 7 = J 0 7) (j23 : J' 0 23 = J 0 23) (hJ : ∀ a, (a = 1 ∨ a = 2 ∨ a = 3 ∨ a = 5 ∨ a = 10 ∨ a = 11 ∨ a = 14) → J' a = J a) (hk : ∀ a, 35 ≤ a → a ≤ 39 → kd' a = kd a) : XO I' kd' J' := by
  obtain ⟨h1, h2, h3, h4, h5, h6⟩ := h
  refine ⟨?_, ⟨?_, ?_⟩, ?_, ?_, ?_, fun a a0 a1 => by rw [hk a a0 a1]; exact h6 a a0 a1⟩
  · exact h1.fr (fun b => hI _ _ (by omega)) (fun a a0 a1 => hs a (by omega)) (fun a b a0 a1 a2 => hI a b (by omega)) (hJ 1 (by omega)) (hJ 2 (by omega)) (hJ 3 (by omega))
  · rw [i11, j4]; exact h2.1
  · rw [i10, j7]; exact h2.2
  · exact h3.fr (hs _ (by omega)) (fun b => hI _ _ (by omega)) j6 (hJ 5 (by omega))
  · exact h4.fr (fun a a0 a1 => hs a (by omega)) (fun a b a0 a1 a2 => hI a b (by omega)) (hJ 10 (by omega)) (hJ 11 (by omega))
  · exact h5.fr (hs _ (by omega)) (fun b => hI _ _ (by omega)) j23 (hJ 14 (by omega))
theorem XR.act {I I' J J' : Nat → Int → Int} {ch ch' : Int → Nat} {kd : Nat → Nat} {u : Int → Int} {kr : Nat} (h : XR I ch kd J) (f1 : Rg I') (hn : NOWX I' ch' kd u) (hkr : kr = 77 + 2 * ((I 0 8 + I 0 9) % 24).toNat) (hp : PGX I' kr (J 6)) (h9 : I' 0 9 = if I 0 9 = 24 then 24 else I 0 9 + 1) (h8 : I' 0 8 = if I 0 9 = 24 then (I 0 8 + 1) % 24 else I 0 8) (ff : ∀ a b, (a ≠ kr ∧ a ≠ kr + 1 ∧ (a < 13 ∨ 23 < a) ∧ (a ≠ 0 ∨ (b ≠ 8 ∧ b ≠ 9))) → I' a b = I a b) (hm : ACT J J' u) : XR I' ch' kd J' := by
  obtain ⟨h1, h2, h3, h4, h5⟩ := h
  obtain ⟨m1, m2, m3, m4, m5⟩ := hm
  have k0 := h4.1
  refine ⟨f1, m1, by rw [m2]; exact hn, h4.keep m3 h3.2.2.1 hkr hp h9 h8 (fun a b a0 a1 a2 => ff a b (by omega)), ?_⟩
  exact h5.fr2 (fun a b q => ff a b (by omega)) (fun a q => ff a 1 (by omega)) (ff 0 10 (by omega)) (ff 0 11 (by omega)) (m4 4 (by decide)) (m4 6 (by decide)) (m4 7 (by decide)) (m4 23 (by decide)) (fun a q => m5 a (by omega)) (fun _ _ _ => rfl)
theorem ACX.rngs {I J : Nat → Int → Int} (h : ACX I J) : 0 ≤ J 0 17 ∧ J 0 17 ≤ 24 := by
  obtain ⟨a, b, c, -⟩ := h
  omega

set_option maxHeartbeats 1000000 in
theorem x_keep {d : Nat} {I : Nat → Int → Int} {ch : Int → Nat} {kd : Nat → Nat} {Q : Option jV → jS → Prop} {w : Int → Int} (hN : NOWX I ch kd w) (hI : Rg I) (h8 : 0 ≤ I 0 8 ∧ I 0 8 < 24) (h9 : 0 ≤ I 0 9 ∧ I 0 9 ≤ 24) {kr : Nat} (hkr : kr = 77 + 2 * ((I 0 8 + I 0 9) % 24).toNat) (hd : 3 ≤ d) (hQ : ∀ I', Rg I' → PGX I' kr w → I' 0 9 = (if I 0 9 = 24 then 24 else I 0 9 + 1) → I' 0 8 = (if I 0 9 = 24 then (I 0 8 + 1) % 24 else I 0 8) → (∀ a b, (a ≠ kr ∧ a ≠ kr + 1 ∧ (a ≠ 0 ∨ (b ≠ 8 ∧ b ≠ 9))) → I' a b = I a b) → Q none (SX I' ch kd)) : Cl d 151 [vr 0] (SX I ch kd) Q := by
  obtain ⟨⟨wa0, wa1⟩, ⟨wb0, wb1⟩, ⟨wc0, wc1⟩, wC, wG, wU⟩ := hN.2.2.1
  refine ⟨by rw [l151]; exact Nat.le_of_ble_eq_true rfl, ?_⟩
  rw [l151]
  show Ev d 151 0 [some (vr 0)] [] (SX I ch kd) Q
  refine ev_s1 (L' := [some (vr 0)]) (S' := [vr 0]) k151_0 rfl rfl ?_
  refine ev_getR k151_1 (by decide) (rfl) (x_0_5 ch kd) ?_
  refine ev_s1 (L' := [some (vr 0)]) (S' := [vr 0, vr 13]) k151_4 rfl rfl ?_
  refine ev_getR k151_5 (by decide) (rfl) (x_0_4 ch kd) ?_
  refine ev_s1 (L' := [some (vr 0)]) (S' := [vr 0, vr 6, vr 13]) k151_8 rfl rfl ?_
  refine ev_getI k151_9 (by decide) (rfl) ?_
  show Ev d 151 12 [some (vr 0)] [vi (I 0 8), vr 6, vr 13] (SX I ch kd) Q
  have rr1 := hI 0 8
  refine ev_s1 (L' := [some (vr 0)]) (S' := [vr 0, vi (I 0 8), vr 6, vr 13]) k151_12 rfl rfl ?_
  refine ev_getI k151_13 (by decide) (rfl) ?_
  show Ev d 151 16 [some (vr 0)] [vi (I 0 9), vi (I 0 8), vr 6, vr 13] (SX I ch kd) Q
  have rr2 := hI 0 9
  refine ev_s1 (L' := [some (vr 0)]) (S' := [vi ((I 0 8) + (I 0 9)), vr 6, vr 13]) k151_16 rfl rfl ?_
  refine ev_s1 (L' := [some (vr 0)]) (S' := [vi 24, vi ((I 0 8) + (I 0 9)), vr 6, vr 13]) k151_17 rfl rfl ?_
  refine ev_irem k151_19 (by omega) (by omega) (by omega) (by omega) ?_
  refine ev_aald (q := kr) k151_20 (by decide) (rfl) (by decide) (by decide) (by omega) (by omega) (rX6 hkr (by omega) (by omega)) ?_
  refine ev_virt (a := [vr kr]) (S' := []) k151_21 rfl (Nat.le_of_ble_eq_true rfl) (by decide) (rfl) (by omega) ?_
  refine g_writeTo hN.1 hI (by omega) (ln6 hkr (by omega) (by omega)) (by omega) hN.2.2.2 hN.2.1 (by omega) (by omega) (fun I3 hI3 p3 f3 => ?_)
  show Ev d 151 24 [some (vr 0)] [] (SX I3 ch kd) Q
  refine ev_s1 (L' := [some (vr 0)]) (S' := [vr 0]) k151_24 rfl rfl ?_
  refine ev_getI k151_25 (by decide) (rfl) ?_
  show Ev d 151 28 [some (vr 0)] [vi (I3 0 9)] (SX I3 ch kd) Q
  have rr4 := hI3 0 9
  rw [f3 0 9 (by omega) (by omega)]
  rw [f3 0 9 (by omega) (by omega)] at rr4
  refine ev_s1 (L' := [some (vr 0)]) (S' := [vi 24, vi (I 0 9)]) k151_28 rfl rfl ?_
  refine ev_c_ge (t := 46) k151_30 rfl (by omega) (by omega) (by omega) (by omega) (fun h5 => ?_) (fun h5 => ?_)
  · refine ev_s1 (L' := [some (vr 0)]) (S' := [vr 0]) k151_46 rfl rfl ?_
    refine ev_s1 (L' := [some (vr 0)]) (S' := [vr 0, vr 0]) k151_47 rfl rfl ?_
    refine ev_getI k151_48 (by decide) (rfl) ?_
    show Ev d 151 51 [some (vr 0)] [vi (I3 0 8), vr 0] (SX I3 ch kd) Q
    have rr6 := hI3 0 8
    rw [f3 0 8 (by omega) (by omega)]
    rw [f3 0 8 (by omega) (by omega)] at rr6
    refine ev_s1 (L' := [some (vr 0)]) (S' := [vi 1, vi (I 0 8), vr 0]) k151_51 rfl rfl ?_
    refine ev_s1 (L' := [some (vr 0)]) (S' := [vi ((I 0 8) + 1), vr 0]) k151_52 rfl rfl ?_
    refine ev_s1 (L' := [some (vr 0)]) (S' := [vi 24, vi ((I 0 8) + 1), vr 0]) k151_53 rfl rfl ?_
    refine ev_irem k151_55 (by omega) (by omega) (by omega) (by omega) ?_
    refine ev_putI k151_56 (by decide) (rfl) ?_
    show Ev d 151 59 [some (vr 0)] [] (SX (up I3 0 8 (((I 0 8) + 1) % 24)) ch kd) Q
    have hI7 := rg_up hI3 (k := 0) (j := 8) (z := ((I 0 8) + 1) % 24) (by omega) (by omega)
    generalize hE7 : up I3 0 8 (((I 0 8) + 1) % 24) = I7 at hI7 ⊢
    have g7 : ∀ (a : Nat) (b : Int), (a ≠ 0 ∨ b ≠ 8) → I7 a b = I3 a b := fun a b h => by rw [← hE7]; exact upN h
    have e7 : I7 0 8 = ((I 0 8) + 1) % 24 := by rw [← hE7]; exact upE rfl rfl
    clear hE7
    refine ev_return k151_59 ?_
    refine hQ _ hI7 (p3.congr (g7 _ _ (by omega)) (fun b => g7 _ _ (by omega))) ?_ ?_ (fun a b q => (g7 a b (by omega)).trans (f3 a b (by omega) (by omega)))
    · rw [if_pos (by omega)]; rw [g7 0 9 (by omega), f3 0 9 (by omega) (by omega)]; omega
    · rw [if_pos (by omega)]; exact e7
  · refine ev_s1 (L' := [some (vr 0)]) (S' := [vr 0]) k151_33 rfl rfl ?_
    refine ev_s1 (L' := [some (vr 0)]) (S' := [vr 0, vr 0]) k151_34 rfl rfl ?_
    refine ev_getI k151_35 (by decide) (rfl) ?_
    show Ev d 151 38 [some (vr 0)] [vi (I3 0 9), vr 0] (SX I3 ch kd) Q
    have rr8 := hI3 0 9
    rw [f3 0 9 (by omega) (by omega)]
    rw [f3 0 9 (by omega) (by omega)] at rr8
    refine ev_s1 (L' := [some (vr 0)]) (S' := [vi 1, vi (I 0 9), vr 0]) k151_38 rfl rfl ?_
    refine ev_s1 (L' := [some (vr 0)]) (S' := [vi ((I 0 9) + 1), vr 0]) k151_39 rfl rfl ?_
    refine ev_putI k151_40 (by decide) (rfl) ?_
    show Ev d 151 43 [some (vr 0)] [] (SX (up I3 0 9 ((I 0 9) + 1)) ch kd) Q
    have hI9 := rg_up hI3 (k := 0) (j := 9) (z := (I 0 9) + 1) (by omega) (by omega)
    generalize hE9 : up I3 0 9 ((I 0 9) + 1) = I9 at hI9 ⊢
    have g9 : ∀ (a : Nat) (b : Int), (a ≠ 0 ∨ b ≠ 9) → I9 a b = I3 a b := fun a b h => by rw [← hE9]; exact upN h
    have e9 : I9 0 9 = (I 0 9) + 1 := by rw [← hE9]; exact upE rfl rfl
    clear hE9
    refine ev_goto (t := 59) k151_43 rfl ?_
    refine ev_return k151_59 ?_
    refine hQ _ hI9 (p3.congr (g9 _ _ (by omega)) (fun b => g9 _ _ (by omega))) ?_ ?_ (fun a b q => (g9 a b (by omega)).trans (f3 a b (by omega) (by omega)))
    · rw [if_neg (by omega)]; exact e9
    · rw [if_neg (by omega)]; rw [g9 0 8 (by omega), f3 0 8 (by omega) (by omega)]

set_option maxHeartbeats 1000000 in
theorem s_sit {d e : Nat} {I : Nat → Int → Int} {ch : Int → Nat} {kd : Nat → Nat} {J : Nat → Int → Int} {Q : Option jV → jS → Prop} (hX : XR I ch kd J) {g c : Int} (ga : -2147483648 ≤ g) (gb : g < 2147483648) (ca : -2147483648 ≤ c) (cb : c < 2147483648) (hd : 13 ≤ d) (he : 13 ≤ e) (hQ : ∀ I' ch' kd' v, AN e 192 [vr 0, vi g, vi c] J v I' ch' kd' → Q (some (vi v)) (SX I' ch' kd')) : Cl d 117 [vr 0, vi g, vi c] (SX I ch kd) Q := by
  obtain ⟨hI, hJ, hN, hA, hO⟩ := id hX
  have hw := hN.2.2.1
  obtain ⟨⟨wa0, wa1⟩, ⟨wb0, wb1⟩, ⟨wc0, wc1⟩, wC, wG, wU⟩ := id hw
  obtain ⟨kr, hkr⟩ : ∃ kr : Nat, kr = 77 + 2 * ((I 0 8 + I 0 9) % 24).toNat := ⟨_, rfl⟩
  have ha8 := hA.1
  have ha9 := hA.2.1
  have ha17 := hA.rngs
  refine ⟨by rw [l117]; exact Nat.le_of_ble_eq_true rfl, ?_⟩
  rw [l117]
  show Ev d 117 0 [some (vr 0), some (vi g), some (vi c)] [] (SX I ch kd) Q
  refine ev_s1 (L' := [some (vr 0), some (vi g), some (vi c)]) (S' := [vr 0]) k117_0 rfl rfl ?_
  refine ev_getR k117_1 (by decide) (rfl) (x_0_5 ch kd) ?_
  refine ev_s1 (L' := [some (vr 0), some (vi g), some (vi c)]) (S' := [vi g, vr 13]) k117_4 rfl rfl ?_
  refine ev_virt (a := [vi g]) (S' := []) k117_5 rfl (Nat.le_of_ble_eq_true rfl) (by decide) (rfl) (by omega) ?_
  refine x_hasG hN hI (i := g) (by omega) (by omega) (fun h1 => ?_) (fun h1 => ?_)
  · show Ev d 117 8 [some (vr 0), some (vi g), some (vi c)] [vi 1] (SX I ch kd) Q
    refine ev_z_eq (t := 22) k117_8 rfl (by omega) (by omega) (fun h => absurd h (by decide)) (fun _ => ?_)
    refine ev_s1 (L' := [some (vr 0), some (vi g), some (vi c)]) (S' := [vr 0]) k117_11 rfl rfl ?_
    refine ev_getR k117_12 (by decide) (rfl) (x_0_5 ch kd) ?_
    refine ev_s1 (L' := [some (vr 0), some (vi g), some (vi c)]) (S' := [vi c, vr 13]) k117_15 rfl rfl ?_
    refine ev_virt (a := [vi c]) (S' := []) k117_16 rfl (Nat.le_of_ble_eq_true rfl) (by decide) (rfl) (by omega) ?_
    refine x_hasC hN hI (i := c) (by omega) (by omega) (fun h2 => ?_) (fun h2 => ?_)
    · show Ev d 117 19 [some (vr 0), some (vi g), some (vi c)] [vi 1] (SX I ch kd) Q
      refine ev_z_ne (t := 25) k117_19 rfl (by omega) (by omega) (fun _ => ?_) (fun h => absurd h (by decide))
      refine ev_s1 (L' := [some (vr 0), some (vi g), some (vi c)]) (S' := [vr 0]) k117_25 rfl rfl ?_
      refine ev_getR k117_26 (by decide) (rfl) (x_0_5 ch kd) ?_
      refine ev_s1 (L' := [some (vr 0), some (vi g), some (vi c)]) (S' := [vi g, vr 13]) k117_29 rfl rfl ?_
      refine ev_virt (a := [vi g]) (S' := []) k117_30 rfl (Nat.le_of_ble_eq_true rfl) (by decide) (rfl) (by omega) ?_
      refine g_seated hN.1 hI hN.2.1 hN.2.2.1 (g := g) (by omega) (by omega) (fun hse => ?_) (fun hse => ?_)
      · show Ev d 117 33 [some (vr 0), some (vi g), some (vi c)] [vi 1] (SX I ch kd) Q
        refine ev_z_ne (t := 47) k117_33 rfl (by omega) (by omega) (fun _ => ?_) (fun h => absurd h (by decide))
        refine ev_ldc k117_47 ?_
        refine ev_ireturn k117_49 ?_
        refine hQ _ _ _ _ ?_
        exact m_sit hJ hw ha17.1 ha17.2 (by omega) (by omega) (by omega) (by omega) (by omega) (fun h => by exfalso; omega) (fun h h2 => ⟨J, rfl, rfl, hX⟩) (fun h h2 J' fm => by exfalso; omega)
      · show Ev d 117 33 [some (vr 0), some (vi g), some (vi c)] [vi 0] (SX I ch kd) Q
        refine ev_z_ne (t := 47) k117_33 rfl (by omega) (by omega) (fun h => absurd h (by decide)) (fun _ => ?_)
        refine ev_s1 (L' := [some (vr 0), some (vi g), some (vi c)]) (S' := [vr 0]) k117_36 rfl rfl ?_
        refine ev_getR k117_37 (by decide) (rfl) (x_0_5 ch kd) ?_
        refine ev_s1 (L' := [some (vr 0), some (vi g), some (vi c)]) (S' := [vi c, vr 13]) k117_40 rfl rfl ?_
        refine ev_virt (a := [vi c]) (S' := []) k117_41 rfl (Nat.le_of_ble_eq_true rfl) (by decide) (rfl) (by omega) ?_
        refine g_taken hN.1 hI hN.2.1 hN.2.2.1 (c := c) (by omega) (by omega) (fun htk => ?_) (fun htk => ?_)
        · show Ev d 117 44 [some (vr 0), some (vi g), some (vi c)] [vi 1] (SX I ch kd) Q
          refine ev_z_eq (t := 50) k117_44 rfl (by omega) (by omega) (fun h => absurd h (by decide)) (fun _ => ?_)
          refine ev_ldc k117_47 ?_
          refine ev_ireturn k117_49 ?_
          refine hQ _ _ _ _ ?_
          exact m_sit hJ hw ha17.1 ha17.2 (by omega) (by omega) (by omega) (by omega) (by omega) (fun h => by exfalso; omega) (fun h h2 => ⟨J, rfl, rfl, hX⟩) (fun h h2 J' fm => by exfalso; omega)
        · show Ev d 117 44 [some (vr 0), some (vi g), some (vi c)] [vi 0] (SX I ch kd) Q
          refine ev_z_eq (t := 50) k117_44 rfl (by omega) (by omega) (fun _ => ?_) (fun h => absurd h (by decide))
          refine ev_s1 (L' := [some (vr 0), some (vi g), some (vi c)]) (S' := [vr 0]) k117_50 rfl rfl ?_
          refine ev_virt (a := []) (S' := []) k117_51 rfl (Nat.le_of_ble_eq_true rfl) (by decide) (rfl) (by omega) ?_
          refine x_keep hN hI ha8 ha9 hkr (by omega) (fun I3 hI3 p3 k93 k83 f3 => ?_)
          have hN3 := hN.fr (I' := I3) (fun a b a0 a1 => f3 a b (by omega))
          show Ev d 117 54 [some (vr 0), some (vi g), some (vi c)] [] (SX I3 ch kd) Q
          refine ev_s1 (L' := [some (vr 0), some (vi g), some (vi c)]) (S' := [vr 0]) k117_54 rfl rfl ?_
          refine ev_getR k117_55 (by decide) (rfl) (x_0_5 ch kd) ?_
          refine ev_s1 (L' := [some (vr 0), some (vi g), some (vi c)]) (S' := [vi g, vr 13]) k117_58 rfl rfl ?_
          refine ev_s1 (L' := [some (vr 0), some (vi g), some (vi c)]) (S' := [vi c, vi g, vr 13]) k117_59 rfl rfl ?_
          refine ev_virt (a := [vi g, vi c]) (S' := []) k117_60 rfl (Nat.le_of_ble_eq_true rfl) (by decide) (rfl) (by omega) ?_
          refine g_seat hN3.1 hI3 hN3.2.1 hw hN3.2.2.2 (by omega) (g := g) (c := c) (by omega) (by omega) (by omega) (by omega) hse htk (fun I4 hI4 r4 o4 f4 => ?_)
          have hN4 : NOWX I4 ch kd (putsW (J 6) g c) := ⟨hN3.1, r4, o4, hN3.2.2.2⟩
          have l24 : putsW (J 6) g c 2 = J 6 2 := puts_lo (by omega) (by omega) (by decide)
          show Ev d 117 63 [some (vr 0), some (vi g), some (vi c)] [] (SX I4 ch kd) Q
          refine ev_s1 (L' := [some (vr 0), some (vi g), some (vi c)]) (S' := [vr 0]) k117_63 rfl rfl ?_
          refine ev_getR k117_64 (by decide) (rfl) (x_0_5 ch kd) ?_
          refine ev_getR k117_67 (by decide) (rfl) (x_13_5 ch kd) ?_
          refine ev_s1 (L' := [some (vr 0), some (vi g), some (vi c)]) (S' := [vi g, vr 18]) k117_70 rfl rfl ?_
          refine ev_iald k117_71 (by decide) (rfl) (by omega) (by omega) ?_
          have rr5 := hI4 18 g
          rw [(hN4.2.1.2.2.2.2 g (by omega) (by omega)).2.2.2]
          rw [(hN4.2.1.2.2.2.2 g (by omega) (by omega)).2.2.2] at rr5
          refine ev_ireturn k117_72 ?_
          rw [puts_at (by omega) (by omega) (by omega), if_pos rfl, if_neg (by omega), puts_b (by omega) (by omega) (by omega), if_pos rfl]
          refine hQ _ _ _ _ ?_
          exact m_sit hJ hw ha17.1 ha17.2 (by omega) (by omega) (by omega) (by omega) (by omega) (fun h => by exfalso; omega) (fun h h2 => by exfalso; omega) (fun h h2 J' fm => ⟨J', rfl, rfl, hX.act hI4 hN4 hkr (p3.congr (f4 _ _ (by omega)) (fun b => (f4 _ _ (by omega)))) ((f4 0 9 (by omega)).trans k93) ((f4 0 8 (by omega)).trans k83) (fun a b q => ((f4 a b (by omega))).trans (f3 a b (by omega))) fm⟩)
    · show Ev d 117 19 [some (vr 0), some (vi g), some (vi c)] [vi 0] (SX I ch kd) Q
      refine ev_z_ne (t := 25) k117_19 rfl (by omega) (by omega) (fun h => absurd h (by decide)) (fun _ => ?_)
      refine ev_ldc k117_22 ?_
      refine ev_ireturn k117_24 ?_
      refine hQ _ _ _ _ ?_
      exact m_sit hJ hw ha17.1 ha17.2 (by omega) (by omega) (by omega) (by omega) (by omega) (fun h => ⟨J, rfl, rfl, hX⟩) (fun h h2 => by exfalso; omega) (fun h h2 J' fm => by exfalso; omega)
  · show Ev d 117 8 [some (vr 0), some (vi g), some (vi c)] [vi 0] (SX I ch kd) Q
    refine ev_z_eq (t := 22) k117_8 rfl (by omega) (by omega) (fun _ => ?_) (fun h => absurd h (by decide))
    refine ev_ldc k117_22 ?_
    refine ev_ireturn k117_24 ?_
    refine hQ _ _ _ _ ?_
    exact m_sit hJ hw ha17.1 ha17.2 (by omega) (by omega) (by omega) (by omega) (by omega) (fun h => ⟨J, rfl, rfl, hX⟩) (fun h h2 => by exfalso; omega) (fun h h2 J' fm => by exfalso; omega)

set_option maxHeartbeats 1000000 in
theorem s_rise {d e : Nat} {I : Nat → Int → Int} {ch : Int → Nat} {kd : Nat → Nat} {J : Nat → Int → Int} {Q : Option jV → jS → Prop} (hX : XR I ch kd J) {g : Int} (ga : -2147483648 ≤ g) (gb : g < 2147483648) (hd : 13 ≤ d) (he : 13 ≤ e) (hQ : ∀ I' ch' kd' v, AN e 193 [vr 0, vi g] J v I' ch' kd' → Q (some (vi v)) (SX I' ch' kd')) : Cl d 118 [vr 0, vi g] (SX I ch kd) Q := by
  obtain ⟨hI, hJ, hN, hA, hO⟩ := id hX
  have hw := hN.2.2.1
  obtain ⟨⟨wa0, wa1⟩, ⟨wb0, wb1⟩, ⟨wc0, wc1⟩, wC, wG, wU⟩ := id hw
  obtain ⟨kr, hkr⟩ : ∃ kr : Nat, kr = 77 + 2 * ((I 0 8 + I 0 9) % 24).toNat := ⟨_, rfl⟩
  have ha8 := hA.1
  have ha9 := hA.2.1
  have ha17 := hA.rngs
  refine ⟨by rw [l118]; exact Nat.le_of_ble_eq_true rfl, ?_⟩
  rw [l118]
  show Ev d 118 0 [some (vr 0), some (vi g), none] [] (SX I ch kd) Q
  refine ev_s1 (L' := [some (vr 0), some (vi g), none]) (S' := [vr 0]) k118_0 rfl rfl ?_
  refine ev_getR k118_1 (by decide) (rfl) (x_0_5 ch kd) ?_
  refine ev_s1 (L' := [some (vr 0), some (vi g), none]) (S' := [vi g, vr 13]) k118_4 rfl rfl ?_
  refine ev_virt (a := [vi g]) (S' := []) k118_5 rfl (Nat.le_of_ble_eq_true rfl) (by decide) (rfl) (by omega) ?_
  refine x_hasG hN hI (i := g) (by omega) (by omega) (fun h1 => ?_) (fun h1 => ?_)
  · show Ev d 118 8 [some (vr 0), some (vi g), none] [vi 1] (SX I ch kd) Q
    refine ev_z_ne (t := 14) k118_8 rfl (by omega) (by omega) (fun _ => ?_) (fun h => absurd h (by decide))
    refine ev_s1 (L' := [some (vr 0), some (vi g), none]) (S' := [vr 0]) k118_14 rfl rfl ?_
    refine ev_getR k118_15 (by decide) (rfl) (x_0_5 ch kd) ?_
    refine ev_s1 (L' := [some (vr 0), some (vi g), none]) (S' := [vi g, vr 13]) k118_18 rfl rfl ?_
    refine ev_virt (a := [vi g]) (S' := []) k118_19 rfl (Nat.le_of_ble_eq_true rfl) (by decide) (rfl) (by omega) ?_
    refine g_seated hN.1 hI hN.2.1 hN.2.2.1 (g := g) (by omega) (by omega) (fun hse => ?_) (fun hse => ?_)
    · show Ev d 118 22 [some (vr 0), some (vi g), none] [vi 1] (SX I ch kd) Q
      refine ev_z_ne (t := 28) k118_22 rfl (by omega) (by omega) (fun _ => ?_) (fun h => absurd h (by decide))
      refine ev_s1 (L' := [some (vr 0), some (vi g), none]) (S' := [vr 0]) k118_28 rfl rfl ?_
      refine ev_virt (a := []) (S' := []) k118_29 rfl (Nat.le_of_ble_eq_true rfl) (by decide) (rfl) (by omega) ?_
      refine x_keep hN hI ha8 ha9 hkr (by omega) (fun I2 hI2 p2 k92 k82 f2 => ?_)
      have hN2 := hN.fr (I' := I2) (fun a b a0 a1 => f2 a b (by omega))
      show Ev d 118 32 [some (vr 0), some (vi g), none] [] (SX I2 ch kd) Q
      refine ev_s1 (L' := [some (vr 0), some (vi g), none]) (S' := [vr 0]) k118_32 rfl rfl ?_
      refine ev_getR k118_33 (by decide) (rfl) (x_0_5 ch kd) ?_
      refine ev_getR k118_36 (by decide) (rfl) (x_13_4 ch kd) ?_
      refine ev_s1 (L' := [some (vr 0), some (vi g), none]) (S' := [vi g, vr 17]) k118_39 rfl rfl ?_
      refine ev_iald k118_40 (by decide) (rfl) (by omega) (by omega) ?_
      have rr3 := hI2 17 g
      rw [(hN2.2.1.2.2.2.2 g (by omega) (by omega)).2.2.1]
      rw [(hN2.2.1.2.2.2.2 g (by omega) (by omega)).2.2.1] at rr3
      refine ev_s1 (L' := [some (vr 0), some (vi g), some (vi (if J 6 (28 + 4 * g + 2) = 0 then -1000000 else J 6 (28 + 4 * g + 2) - 1))]) (S' := []) k118_41 rfl rfl ?_
      refine ev_s1 (L' := [some (vr 0), some (vi g), some (vi (if J 6 (28 + 4 * g + 2) = 0 then -1000000 else J 6 (28 + 4 * g + 2) - 1))]) (S' := [vr 0]) k118_42 rfl rfl ?_
      refine ev_getR k118_43 (by decide) (rfl) (x_0_5 ch kd) ?_
      refine ev_s1 (L' := [some (vr 0), some (vi g), some (vi (if J 6 (28 + 4 * g + 2) = 0 then -1000000 else J 6 (28 + 4 * g + 2) - 1))]) (S' := [vi g, vr 13]) k118_46 rfl rfl ?_
      refine ev_virt (a := [vi g]) (S' := []) k118_47 rfl (Nat.le_of_ble_eq_true rfl) (by decide) (rfl) (by omega) ?_
      refine g_lift hN2.1 hI2 hN2.2.1 hw (by omega) (g := g) (by omega) (by omega) hse (fun I4 hI4 r4 o4 f4 => ?_)
      have hN4 : NOWX I4 ch kd (liftW (J 6) g) := ⟨hN2.1, r4, o4, hN2.2.2.2⟩
      show Ev d 118 50 [some (vr 0), some (vi g), some (vi (if J 6 (28 + 4 * g + 2) = 0 then -1000000 else J 6 (28 + 4 * g + 2) - 1))] [] (SX I4 ch kd) Q
      refine ev_s1 (L' := [some (vr 0), some (vi g), some (vi (if J 6 (28 + 4 * g + 2) = 0 then -1000000 else J 6 (28 + 4 * g + 2) - 1))]) (S' := [vi (if J 6 (28 + 4 * g + 2) = 0 then -1000000 else J 6 (28 + 4 * g + 2) - 1)]) k118_50 rfl rfl ?_
      refine ev_ireturn k118_51 ?_
      rw [if_neg hse]
      refine hQ _ _ _ _ ?_
      exact m_rise hJ hw ha17.1 ha17.2 (by omega) (by omega) (by omega) (fun h => by exfalso; omega) (fun h h2 => by exfalso; omega) (fun h h2 J' fm => ⟨J', rfl, rfl, hX.act hI4 hN4 hkr (p2.congr (f4 _ _ (by omega)) (fun b => (f4 _ _ (by omega)))) ((f4 0 9 (by omega)).trans k92) ((f4 0 8 (by omega)).trans k82) (fun a b q => ((f4 a b (by omega))).trans (f2 a b (by omega))) fm⟩)
    · show Ev d 118 22 [some (vr 0), some (vi g), none] [vi 0] (SX I ch kd) Q
      refine ev_z_ne (t := 28) k118_22 rfl (by omega) (by omega) (fun h => absurd h (by decide)) (fun _ => ?_)
      refine ev_ldc k118_25 ?_
      refine ev_ireturn k118_27 ?_
      refine hQ _ _ _ _ ?_
      exact m_rise hJ hw ha17.1 ha17.2 (by omega) (by omega) (by omega) (fun h => by exfalso; omega) (fun h h2 => ⟨J, rfl, rfl, hX⟩) (fun h h2 J' fm => by exfalso; omega)
  · show Ev d 118 8 [some (vr 0), some (vi g), none] [vi 0] (SX I ch kd) Q
    refine ev_z_ne (t := 14) k118_8 rfl (by omega) (by omega) (fun h => absurd h (by decide)) (fun _ => ?_)
    refine ev_ldc k118_11 ?_
    refine ev_ireturn k118_13 ?_
    refine hQ _ _ _ _ ?_
    exact m_rise hJ hw ha17.1 ha17.2 (by omega) (by omega) (by omega) (fun h => ⟨J, rfl, rfl, hX⟩) (fun h h2 => by exfalso; omega) (fun h h2 J' fm => by exfalso; omega)

set_option maxHeartbeats 1000000 in
theorem s_recane {d e : Nat} {I : Nat → Int → Int} {ch : Int → Nat} {kd : Nat → Nat} {J : Nat → Int → Int} {Q : Option jV → jS → Prop} (hX : XR I ch kd J) {c : Int} (ca : -2147483648 ≤ c) (cb : c < 2147483648) (hd : 13 ≤ d) (he : 13 ≤ e) (hQ : ∀ I' ch' kd' v, AN e 194 [vr 0, vi c] J v I' ch' kd' → Q (some (vi v)) (SX I' ch' kd')) : Cl d 119 [vr 0, vi c] (SX I ch kd) Q := by
  obtain ⟨hI, hJ, hN, hA, hO⟩ := id hX
  have hw := hN.2.2.1
  obtain ⟨⟨wa0, wa1⟩, ⟨wb0, wb1⟩, ⟨wc0, wc1⟩, wC, wG, wU⟩ := id hw
  obtain ⟨kr, hkr⟩ : ∃ kr : Nat, kr = 77 + 2 * ((I 0 8 + I 0 9) % 24).toNat := ⟨_, rfl⟩
  have ha8 := hA.1
  have ha9 := hA.2.1
  have ha17 := hA.rngs
  have hcb := fun (c0 : 0 ≤ c) (c1 : c < J 6 1) => hN.1.2.2.2 c c0 (by omega)
  refine ⟨by rw [l119]; exact Nat.le_of_ble_eq_true rfl, ?_⟩
  rw [l119]
  show Ev d 119 0 [some (vr 0), some (vi c), none] [] (SX I ch kd) Q
  refine ev_s1 (L' := [some (vr 0), some (vi c), none]) (S' := [vr 0]) k119_0 rfl rfl ?_
  refine ev_getR k119_1 (by decide) (rfl) (x_0_5 ch kd) ?_
  refine ev_s1 (L' := [some (vr 0), some (vi c), none]) (S' := [vi c, vr 13]) k119_4 rfl rfl ?_
  refine ev_virt (a := [vi c]) (S' := []) k119_5 rfl (Nat.le_of_ble_eq_true rfl) (by decide) (rfl) (by omega) ?_
  refine x_hasC hN hI (i := c) (by omega) (by omega) (fun h1 => ?_) (fun h1 => ?_)
  · show Ev d 119 8 [some (vr 0), some (vi c), none] [vi 1] (SX I ch kd) Q
    refine ev_z_ne (t := 14) k119_8 rfl (by omega) (by omega) (fun _ => ?_) (fun h => absurd h (by decide))
    refine ev_s1 (L' := [some (vr 0), some (vi c), none]) (S' := [vr 0]) k119_14 rfl rfl ?_
    refine ev_virt (a := []) (S' := []) k119_15 rfl (Nat.le_of_ble_eq_true rfl) (by decide) (rfl) (by omega) ?_
    refine x_keep hN hI ha8 ha9 hkr (by omega) (fun I2 hI2 p2 k92 k82 f2 => ?_)
    have hN2 := hN.fr (I' := I2) (fun a b a0 a1 => f2 a b (by omega))
    show Ev d 119 18 [some (vr 0), some (vi c), none] [] (SX I2 ch kd) Q
    refine ev_s1 (L' := [some (vr 0), some (vi c), none]) (S' := [vr 0]) k119_18 rfl rfl ?_
    refine ev_getR k119_19 (by decide) (rfl) (x_0_5 ch kd) ?_
    refine ev_getR k119_22 (by decide) (rfl) (x_13_1 ch kd) ?_
    refine ev_s1 (L' := [some (vr 0), some (vi c), none]) (S' := [vi c, vr 14]) k119_25 rfl rfl ?_
    have hc3 := hN2.1.2.1 c (by omega) (by omega)
    have hl3 := (shp_c hc3.2).1
    have hb3 := hN2.1.2.2.2 c (by omega) (by omega)
    refine ev_aald (q := ch c) k119_26 (by decide) (rfl) (by decide) (by decide) (by omega) (by omega) (rX14 (by omega) (by omega)) ?_
    refine ev_getI k119_27 (by omega) ((shp_c hc3.2).2) ?_
    show Ev d 119 30 [some (vr 0), some (vi c), none] [vi (I2 (ch c) 2)] (SX I2 ch kd) Q
    have rr4 := hI2 (ch c) 2
    rw [(hN2.2.1.2.2.2.1 c (by omega) (by omega)).2.2.1]
    rw [(hN2.2.1.2.2.2.1 c (by omega) (by omega)).2.2.1] at rr4
    refine ev_s1 (L' := [some (vr 0), some (vi c), some (vi (J 6 (3 + 5 * c + 2)))]) (S' := []) k119_30 rfl rfl ?_
    refine ev_s1 (L' := [some (vr 0), some (vi c), some (vi (J 6 (3 + 5 * c + 2)))]) (S' := [vr 0]) k119_31 rfl rfl ?_
    refine ev_getR k119_32 (by decide) (rfl) (x_0_5 ch kd) ?_
    refine ev_getR k119_35 (by decide) (rfl) (x_13_1 ch kd) ?_
    refine ev_s1 (L' := [some (vr 0), some (vi c), some (vi (J 6 (3 + 5 * c + 2)))]) (S' := [vi c, vr 14]) k119_38 rfl rfl ?_
    have hc5 := hN2.1.2.1 c (by omega) (by omega)
    have hl5 := (shp_c hc5.2).1
    have hb5 := hN2.1.2.2.2 c (by omega) (by omega)
    refine ev_aald (q := ch c) k119_39 (by decide) (rfl) (by decide) (by decide) (by omega) (by omega) (rX14 (by omega) (by omega)) ?_
    refine ev_s1 (L' := [some (vr 0), some (vi c), some (vi (J 6 (3 + 5 * c + 2)))]) (S' := [vi 0, vr (ch c)]) k119_40 rfl rfl ?_
    have hcb2 := hcb (by omega) (by omega)
    refine ev_putI k119_41 (by omega) ((shp_c hc5.2).2) ?_
    show Ev d 119 44 [some (vr 0), some (vi c), some (vi (J 6 (3 + 5 * c + 2)))] [] (SX (up I2 (ch c) 2 0) ch kd) Q
    have hI6 := rg_up hI2 (k := ch c) (j := 2) (z := 0) (by omega) (by omega)
    generalize hE6 : up I2 (ch c) 2 0 = I6 at hI6 ⊢
    have g6 : ∀ (a : Nat) (b : Int), (a ≠ (ch c) ∨ b ≠ 2) → I6 a b = I2 a b := fun a b h => by rw [← hE6]; exact upN h
    have e6 : I6 (ch c) 2 = 0 := by rw [← hE6]; exact upE rfl rfl
    clear hE6
    refine ev_s1 (L' := [some (vr 0), some (vi c), some (vi (J 6 (3 + 5 * c + 2)))]) (S' := [vi (J 6 (3 + 5 * c + 2))]) k119_44 rfl rfl ?_
    refine ev_ireturn k119_45 ?_
    refine hQ _ _ _ _ ?_
    exact m_recane hJ hw ha17.1 ha17.2 (by omega) (by omega) (by omega) (fun h => by exfalso; omega) (fun h J' fm => ⟨J', rfl, rfl, hX.act hI6 ⟨hN2.1, hN2.2.1.can hN2.1 hw (by omega) (by omega) e6 g6, can_ok hw (by omega) (by omega), hN2.2.2.2⟩ hkr (p2.congr (g6 _ _ (by omega)) (fun b => (g6 _ _ (by omega)))) ((g6 0 9 (by omega)).trans k92) ((g6 0 8 (by omega)).trans k82) (fun a b q => ((g6 a b (by omega))).trans (f2 a b (by omega))) fm⟩)
  · show Ev d 119 8 [some (vr 0), some (vi c), none] [vi 0] (SX I ch kd) Q
    refine ev_z_ne (t := 14) k119_8 rfl (by omega) (by omega) (fun h => absurd h (by decide)) (fun _ => ?_)
    refine ev_ldc k119_11 ?_
    refine ev_ireturn k119_13 ?_
    refine hQ _ _ _ _ ?_
    exact m_recane hJ hw ha17.1 ha17.2 (by omega) (by omega) (by omega) (fun h => ⟨J, rfl, rfl, hX⟩) (fun h J' fm => by exfalso; omega)

theorem XR.undo {I I' J J' : Nat → Int → Int} {ch : Int → Nat} {kd kd' : Nat → Nat} {u : Int → Int} {n : Int} (h : XR I ch kd J) (f1 : Rg I') (hn : NOWX I' ch kd' u) (m1 : RZ J') (m2 : J' 6 = u) (h9 : I' 0 9 = n) (j17 : J' 0 17 = n) (n0 : 0 ≤ n) (n1 : n ≤ I 0 9) (h8 : I' 0 8 = I 0 8 ∨ (n = 0 ∧ I' 0 8 = 0)) (fs : ∀ a, (a = 3 ∨ a = 25 ∨ 57 ≤ a) → I' a 1 = I a 1) (fi : ∀ a b, (a = 2 ∨ a = 4 ∨ a = 26 ∨ (a % 2 = 0 ∧ 57 ≤ a)) → I' a b = I a b) (i10 : I' 0 10 = I 0 10) (i11 : I' 0 11 = I 0 11) (fk : ∀ a, (a < 19 ∨ 23 < a) → kd' a = kd a) (m4 : ∀ b, b ≠ 17 → J' 0 b = J 0 b) (m5 : ∀ a, (a ≠ 0 ∧ a ≠ 6) → J' a = J a) : XR I' ch kd' J' := by
  obtain ⟨x1, x2, x3, x4, x5⟩ := h
  refine ⟨f1, m1, by rw [m2]; exact hn, ?_, ?_⟩
  · obtain ⟨a, b, c, e⟩ := x4
    refine ⟨by omega, by omega, by omega, fun i i0 i1 => ?_⟩
    obtain ⟨y1, y2⟩ := e i i0 (by omega)
    rw [m5 9 (by decide), h8.resolve_right (by omega)]
    exact ⟨y1, y2.congr (fs _ (by omega)) (fun b => fi _ _ (by omega))⟩
  · exact x5.fr2 (fun a b q => fi a b (by omega)) (fun a q => fs a (by omega)) i10 i11 (m4 4 (by decide)) (m4 6 (by decide)) (m4 7 (by decide)) (m4 23 (by decide)) (fun a q => m5 a (by omega)) (fun a a0 a1 => fk a (by omega))

set_option maxHeartbeats 1000000 in
theorem s_undo {d e : Nat} {I : Nat → Int → Int} {ch : Int → Nat} {kd : Nat → Nat} {J : Nat → Int → Int} {Q : Option jV → jS → Prop} (hX : XR I ch kd J) (hd : 13 ≤ d) (he : 13 ≤ e) (hQ : ∀ I' ch' kd' v, AN e 196 [vr 0] J v I' ch' kd' → Q (some (vi v)) (SX I' ch' kd')) : Cl d 121 [vr 0] (SX I ch kd) Q := by
  obtain ⟨hI, hJ, hN, hA, hO⟩ := id hX
  have hw := hN.2.2.1
  obtain ⟨⟨wa0, wa1⟩, ⟨wb0, wb1⟩, ⟨wc0, wc1⟩, wC, wG, wU⟩ := id hw
  obtain ⟨kr, hkr⟩ : ∃ kr : Nat, kr = 77 + 2 * ((I 0 8 + (I 0 9 - 1)) % 24).toNat := ⟨_, rfl⟩
  have ha8 := hA.1
  have ha9 := hA.2.1
  have ha17 := hA.rngs
  have hae := hA.2.2.1
  refine ⟨by rw [l121]; exact Nat.le_of_ble_eq_true rfl, ?_⟩
  rw [l121]
  show Ev d 121 0 [some (vr 0)] [] (SX I ch kd) Q
  refine ev_s1 (L' := [some (vr 0)]) (S' := [vr 0]) k121_0 rfl rfl ?_
  refine ev_getI k121_1 (by decide) (rfl) ?_
  show Ev d 121 4 [some (vr 0)] [vi (I 0 9)] (SX I ch kd) Q
  have rr1 := hI 0 9
  refine ev_z_ne (t := 10) k121_4 rfl (by omega) (by omega) (fun h2 => ?_) (fun h2 => ?_)
  · refine ev_s1 (L' := [some (vr 0)]) (S' := [vr 0]) k121_10 rfl rfl ?_
    refine ev_s1 (L' := [some (vr 0)]) (S' := [vr 0, vr 0]) k121_11 rfl rfl ?_
    refine ev_getI k121_12 (by decide) (rfl) ?_
    show Ev d 121 15 [some (vr 0)] [vi (I 0 9), vr 0] (SX I ch kd) Q
    have rr3 := hI 0 9
    refine ev_s1 (L' := [some (vr 0)]) (S' := [vi 1, vi (I 0 9), vr 0]) k121_15 rfl rfl ?_
    refine ev_s1 (L' := [some (vr 0)]) (S' := [vi ((I 0 9) - 1), vr 0]) k121_16 rfl rfl ?_
    refine ev_putI k121_17 (by decide) (rfl) ?_
    show Ev d 121 20 [some (vr 0)] [] (SX (up I 0 9 ((I 0 9) - 1)) ch kd) Q
    have hI4 := rg_up hI (k := 0) (j := 9) (z := (I 0 9) - 1) (by omega) (by omega)
    generalize hE4 : up I 0 9 ((I 0 9) - 1) = I4 at hI4 ⊢
    have g4 : ∀ (a : Nat) (b : Int), (a ≠ 0 ∨ b ≠ 9) → I4 a b = I a b := fun a b h => by rw [← hE4]; exact upN h
    have e4 : I4 0 9 = (I 0 9) - 1 := by rw [← hE4]; exact upE rfl rfl
    clear hE4
    have hN4 := hN.fr (I' := I4) (fun a b a0 a1 => g4 a b (Or.inl (by omega)))
    have hpg := hA.2.2.2 (I 0 9 - 1) (by omega) (by omega)
    rw [← hkr] at hpg
    refine ev_s1 (L' := [some (vr 0)]) (S' := [vr 0]) k121_20 rfl rfl ?_
    refine ev_getR k121_21 (by decide) (rfl) (x_0_5 ch kd) ?_
    refine ev_s1 (L' := [some (vr 0)]) (S' := [vr 0, vr 13]) k121_24 rfl rfl ?_
    refine ev_getR k121_25 (by decide) (rfl) (x_0_4 ch kd) ?_
    refine ev_s1 (L' := [some (vr 0)]) (S' := [vr 0, vr 6, vr 13]) k121_28 rfl rfl ?_
    refine ev_getI k121_29 (by decide) (rfl) ?_
    show Ev d 121 32 [some (vr 0)] [vi (I4 0 8), vr 6, vr 13] (SX I4 ch kd) Q
    have rr5 := hI4 0 8
    rw [g4 0 8 (Or.inr (by decide))]
    rw [g4 0 8 (Or.inr (by decide))] at rr5
    refine ev_s1 (L' := [some (vr 0)]) (S' := [vr 0, vi (I 0 8), vr 6, vr 13]) k121_32 rfl rfl ?_
    refine ev_getI k121_33 (by decide) (rfl) ?_
    show Ev d 121 36 [some (vr 0)] [vi (I4 0 9), vi (I 0 8), vr 6, vr 13] (SX I4 ch kd) Q
    have rr6 := hI4 0 9
    rw [e4]
    rw [e4] at rr6
    refine ev_s1 (L' := [some (vr 0)]) (S' := [vi ((I 0 8) + ((I 0 9) - 1)), vr 6, vr 13]) k121_36 rfl rfl ?_
    refine ev_s1 (L' := [some (vr 0)]) (S' := [vi 24, vi ((I 0 8) + ((I 0 9) - 1)), vr 6, vr 13]) k121_37 rfl rfl ?_
    refine ev_irem k121_39 (by omega) (by omega) (by omega) (by omega) ?_
    refine ev_aald (q := kr) k121_40 (by decide) (rfl) (by decide) (by decide) (by omega) (by omega) (rX6 hkr (by omega) (by omega)) ?_
    refine ev_virt (a := [vr kr]) (S' := []) k121_41 rfl (Nat.le_of_ble_eq_true rfl) (by decide) (rfl) (by omega) ?_
    refine g_readFrom hN4.1 hI4 (by omega) (ln6 hkr (by omega) (by omega)) (by omega) (hpg.2.congr (I' := I4) (g4 _ _ (by omega)) (fun b => g4 _ _ (by omega))) hpg.1.2.1.2 hpg.1.2.2.1.2 (fun I7 kd7 hI7 r7 kk7 f7 k7 => ?_)
    have hN7 : NOWX I7 ch kd7 (cutW (J 9) (48 * (I 0 9 - 1))) := ⟨hN.1.kd _, r7, hpg.1, kk7⟩
    show Ev d 121 44 [some (vr 0)] [] (SX I7 ch kd7) Q
    refine ev_s1 (L' := [some (vr 0)]) (S' := [vr 0]) k121_44 rfl rfl ?_
    refine ev_getI k121_45 (by decide) (rfl) ?_
    show Ev d 121 48 [some (vr 0)] [vi (I7 0 9)] (SX I7 ch kd7) Q
    have rr8 := hI7 0 9
    rw [(f7 0 9 (by omega) (by omega)).trans e4]
    rw [(f7 0 9 (by omega) (by omega)).trans e4] at rr8
    refine ev_ireturn k121_48 ?_
    refine hQ _ _ _ _ ?_
    exact m_undo hJ ha17.1 ha17.2 (by omega) (fun h => by exfalso; omega) (fun h J' m1 m2 m3 m4 m5 => ⟨J', by rw [hA.2.2.1], rfl, hX.undo (n := I 0 9 - 1) hI7 hN7 m1 (by rw [m2, hA.2.2.1]) ((f7 0 9 (by omega) (by omega)).trans e4) (by rw [m3, hA.2.2.1]) (by omega) (by omega) (Or.inl ((f7 0 8 (by omega) (by omega)).trans (g4 0 8 (by omega)))) (fun a q => ((f7 a 1 (by omega) (by omega)).trans (g4 a 1 (by omega)))) (fun a b q => ((f7 a b (by omega) (by omega)).trans (g4 a b (by omega)))) ((f7 0 10 (by omega) (by omega)).trans (g4 0 10 (by omega))) ((f7 0 11 (by omega) (by omega)).trans (g4 0 11 (by omega))) k7 m4 m5⟩)
  · refine ev_ldc k121_7 ?_
    refine ev_ireturn k121_9 ?_
    refine hQ _ _ _ _ ?_
    exact m_undo hJ ha17.1 ha17.2 (by omega) (fun h => ⟨J, rfl, rfl, hX⟩) (fun h J' m1 m2 m3 m4 m5 => by exfalso; omega)
