theorem mov_sit {w : Int → Int} {x c : Int} (hw : OKW w) (x0 : 0 ≤ x) (x1 : x + 1 < w 1) (c0 : 0 ≤ c) : sitW (movW w x) c = sitW w (swq x c) := by
  have w1 := hw.2.1
  refine sit_congr (mov_lo x0 (by decide)) (fun g g0 g1 => ?_)
  have a2 := (hw.2.2.2.2.1 g g0 g1).2.2.1
  rw [mov_at (by omega) g0 g1]
  unfold swp swq
  repeat' split
  all_goals omega
theorem swI_o {I : Nat → Int → Int} {ch : Int → Nat} {x b : Int} {a : Nat} (h : a ≠ 17) : swI I ch x a b = I a b := by
  unfold swI
  repeat' split
  all_goals first | rw [upN (Or.inl h), upN (Or.inl h)] | rw [upN (Or.inl h)] | rfl
theorem swI_17 {I : Nat → Int → Int} {ch : Int → Nat} {x g : Int} : swI I ch x 17 g = if 0 ≤ I (ch x) 5 ∧ I (ch x) 5 < I 13 7 then (if g = I (ch x) 5 then x + 1 else if 0 ≤ I (ch (x + 1)) 5 ∧ I (ch (x + 1)) 5 < I 13 7 then (if g = I (ch (x + 1)) 5 then x else I 17 g) else I 17 g) else (if 0 ≤ I (ch (x + 1)) 5 ∧ I (ch (x + 1)) 5 < I 13 7 then (if g = I (ch (x + 1)) 5 then x else I 17 g) else I 17 g) := by
  have u : ∀ (F : Nat → Int → Int) (s v : Int), up F 17 s v 17 g = if g = s then v else F 17 g := by
    intro F s v
    unfold up
    by_cases q : g = s
    · rw [if_pos ⟨rfl, q⟩, if_pos q]
    · rw [if_neg (fun z => q z.2), if_neg q]
  unfold swI
  by_cases p1 : 0 ≤ I (ch x) 5 ∧ I (ch x) 5 < I 13 7
  · rw [if_pos p1, if_pos p1, u]
    by_cases p2 : 0 ≤ I (ch (x + 1)) 5 ∧ I (ch (x + 1)) 5 < I 13 7
    · rw [if_pos p2, if_pos p2, u]
    · rw [if_neg p2, if_neg p2]
  · rw [if_neg p1, if_neg p1]
    by_cases p2 : 0 ≤ I (ch (x + 1)) 5 ∧ I (ch (x + 1)) 5 < I 13 7
    · rw [if_pos p2, if_pos p2, u]
    · rw [if_neg p2, if_neg p2]
theorem swI_rg {I : Nat → Int → Int} {ch : Int → Nat} {x : Int} (hI : Rg I) (x0 : 0 ≤ x) (x5 : x < 5) : Rg (swI I ch x) := by
  unfold swI
  repeat' split
  · exact rg_up (rg_up hI (by omega) (by omega)) (by omega) (by omega)
  · exact rg_up hI (by omega) (by omega)
  · exact rg_up hI (by omega) (by omega)
  · exact hI
theorem swq_inj {x i j : Int} (h : swq x i = swq x j) : i = j := by
  unfold swq at h
  repeat' split at h
  all_goals omega
theorem x_swap {d : Nat} {I : Nat → Int → Int} {ch : Int → Nat} {kd : Nat → Nat} {Q : Option jV → jS → Prop} {w : Int → Int} (hN : NOWX I ch kd w) (hI : Rg I) {x : Int} (x0 : 0 ≤ x) (x1 : x + 1 < w 1) (hd : 1 ≤ d) (hQ : ∀ I' ch', Rg I' → NOWX I' ch' kd (movW w x) → (∀ a b, a ≠ 17 → I' a b = I a b) → Q none (SX I' ch' kd)) : Cl d 91 [vr 13, vi x] (SX I ch kd) Q := by
  have hw := hN.2.2.1
  obtain ⟨wa, w1, w2, hC, hG, hU⟩ := id hw
  obtain ⟨e6, e7, e8, hc, hg⟩ := id hN.2.1
  have x4 : x < 4 := by omega
  have hch : ∀ c, chU (chU ch x (ch (x + 1))) (x + 1) (ch x) c = ch (swq x c) := by
    intro c
    unfold chU swq
    by_cases q : c = x + 1
    · rw [if_pos q, if_neg (by omega), if_pos q]
    · rw [if_neg q]
      by_cases q2 : c = x
      · rw [if_pos q2, if_pos q2]
      · rw [if_neg q2, if_neg q2, if_neg q]
  generalize hc2 : chU (chU ch x (ch (x + 1))) (x + 1) (ch x) = ch2 at hch
  have hq : ∀ i, 0 ≤ i → i < 5 → 0 ≤ swq x i ∧ swq x i < 5 := fun i i0 i1 => swq_rng x0 (by omega) i0 i1
  have hrm : isRm 13 ch2 ch2 kd := by
    refine ⟨Or.inl rfl, fun i i0 i1 => ⟨rX14 i0 i1, ?_⟩, fun i j i0 i1 j0 j1 e => ?_, fun i i0 i1 => ?_⟩
    · rw [hch]; exact (hN.1.2.1 _ (hq i i0 i1).1 (hq i i0 i1).2).2
    · rw [hch, hch] at e
      exact swq_inj (hN.1.2.2.1 _ _ (hq i i0 i1).1 (hq i i0 i1).2 (hq j j0 j1).1 (hq j j0 j1).2 e)
    · rw [hch]; exact hN.1.2.2.2 _ (hq i i0 i1).1 (hq i i0 i1).2
  refine c_swap hN.1 hI hd x0 (by omega) (by rw [e7]; omega) (fun c2 h => by rw [h, hc2]; exact hrm) ?_
  rw [hc2]
  have k1 := (hc x x0 (by omega)).2.2.2.2.2
  have k2 := (hc (x + 1) (by omega) x1).2.2.2.2.2
  refine hQ _ _ (swI_rg hI x0 (by omega)) ⟨hrm, ⟨?_, ?_, ?_, fun c c0 c1 => ?_, fun g g0 g1 => ?_⟩, mov_ok hw x0 x1, fun i i0 i1 => ?_⟩ (fun a b q => swI_o q)
  · rw [swI_o (by decide), mov_lo x0 (by decide)]; exact e6
  · rw [swI_o (by decide), mov_lo x0 (by decide)]; exact e7
  · rw [swI_o (by decide), mov_lo x0 (by decide)]; exact e8
  · rw [mov_lo x0 (by decide)] at c1
    have c5 : c < 5 := by omega
    have sq := swq_rng x0 x1 c0 c1
    have hb := hN.1.2.2.2 (swq x c) sq.1 (by omega)
    unfold RWc
    rw [hch, swI_o (by omega), swI_o (by omega), swI_o (by omega), swI_o (by omega), swI_o (by omega), mov_c0 c0 c5, mov_c c0 c5 (by decide) (by decide), mov_c c0 c5 (by decide) (by decide), mov_c c0 c5 (by decide) (by decide), mov_c c0 c5 (by decide) (by decide), mov_sit hw x0 x1 c0]
    exact hc (swq x c) sq.1 sq.2
  · rw [mov_lo x0 (by decide)] at g1
    obtain ⟨a0, a1, a2, a3⟩ := hg g g0 g1
    have at0 := (hG g g0 g1).2.2.1
    have F1 : sitW w x = g ↔ w (28 + 4 * g + 2) = x + 1 := by
      constructor
      · intro u
        rcases sit_cases w x with ⟨s1, -⟩ | ⟨s1, s2, s3⟩
        · omega
        · rw [u] at s3; exact s3
      · intro u; exact sit_of hU x0 g0 g1 u
    have F2 : sitW w (x + 1) = g ↔ w (28 + 4 * g + 2) = x + 1 + 1 := by
      constructor
      · intro u
        rcases sit_cases w (x + 1) with ⟨s1, -⟩ | ⟨s1, s2, s3⟩
        · omega
        · rw [u] at s3; exact s3
      · intro u; exact sit_of hU (by omega) g0 g1 u
    unfold RWg
    rw [swI_o (by decide), swI_o (by decide), swI_17, swI_o (by decide), k1, k2, e7, mov_g0 x4 g0, mov_g x4 g0 (by decide) (by decide) (by decide), mov_at x4 g0 g1, mov_g x4 g0 (by decide) (by decide) (by decide)]
    have sz : swp x (w (28 + 4 * g + 2)) = 0 ↔ w (28 + 4 * g + 2) = 0 := by
      unfold swp
      repeat' split
      all_goals omega
    refine ⟨a0, a1, ?_, ?_⟩
    · rw [show 13 + 4 = 17 from rfl] at *
      rw [a2]
      unfold swp
      repeat' split
      all_goals omega
    · rw [show 13 + 5 = 18 from rfl] at *
      rw [a3]
      by_cases q : w (28 + 4 * g + 2) = 0
      · rw [if_pos q, if_pos (sz.mpr q)]
      · rw [if_neg q, if_neg (fun u => q (sz.mp u))]
  · rw [hch]; exact hN.2.2.2 _ (hq i i0 i1).1 (hq i i0 i1).2

set_option maxHeartbeats 1000000 in
theorem s_move {d e : Nat} {I : Nat → Int → Int} {ch : Int → Nat} {kd : Nat → Nat} {J : Nat → Int → Int} {Q : Option jV → jS → Prop} (hX : XR I ch kd J) {c : Int} (ca : -2147483648 ≤ c) (cb : c < 2147483648) (hd : 13 ≤ d) (he : 13 ≤ e) (hQ : ∀ I' ch' kd' v, AN e 195 [vr 0, vi c] J v I' ch' kd' → Q (some (vi v)) (SX I' ch' kd')) : Cl d 120 [vr 0, vi c] (SX I ch kd) Q := by
  obtain ⟨hI, hJ, hN, hA, hO⟩ := id hX
  have hw := hN.2.2.1
  obtain ⟨⟨wa0, wa1⟩, ⟨wb0, wb1⟩, ⟨wc0, wc1⟩, wC, wG, wU⟩ := id hw
  obtain ⟨kr, hkr⟩ : ∃ kr : Nat, kr = 77 + 2 * ((I 0 8 + I 0 9) % 24).toNat := ⟨_, rfl⟩
  have ha8 := hA.1
  have ha9 := hA.2.1
  have ha17 := hA.rngs
  refine ⟨by rw [l120]; exact Nat.le_of_ble_eq_true rfl, ?_⟩
  rw [l120]
  show Ev d 120 0 [some (vr 0), some (vi c)] [] (SX I ch kd) Q
  refine ev_s1 (L' := [some (vr 0), some (vi c)]) (S' := [vi c]) k120_0 rfl rfl ?_
  refine ev_s1 (L' := [some (vr 0), some (vi c)]) (S' := [vi 0, vi c]) k120_1 rfl rfl ?_
  refine ev_s1 (L' := [some (vr 0), some (vi c)]) (S' := [vr 0, vi 0, vi c]) k120_2 rfl rfl ?_
  refine ev_getR k120_3 (by decide) (rfl) (x_0_5 ch kd) ?_
  refine ev_getI k120_6 (by decide) (rfl) ?_
  show Ev d 120 9 [some (vr 0), some (vi c)] [vi (I 13 6), vi 0, vi c] (SX I ch kd) Q
  have rr1 := hI 13 6
  rw [hN.2.1.1]
  rw [hN.2.1.1] at rr1
  refine ev_s1 (L' := [some (vr 0), some (vi c)]) (S' := [vi 2, vi (J 6 1), vi 0, vi c]) k120_9 rfl rfl ?_
  refine ev_s1 (L' := [some (vr 0), some (vi c)]) (S' := [vi ((J 6 1) - 2), vi 0, vi c]) k120_10 rfl rfl ?_
  refine ev_static (a := [vi c, vi 0, vi ((J 6 1) - 2)]) (S' := []) k120_11 rfl (Nat.le_of_ble_eq_true rfl) (by omega) ?_
  refine x_within (v := c) (lo := 0) (hi := (J 6 1) - 2) (by omega) (by omega) (by omega) (by omega) (by omega) (by omega) (fun h2 => ?_) (fun h2 => ?_)
  · show Ev d 120 14 [some (vr 0), some (vi c)] [vi 1] (SX I ch kd) Q
    refine ev_z_ne (t := 20) k120_14 rfl (by omega) (by omega) (fun _ => ?_) (fun h => absurd h (by decide))
    refine ev_s1 (L' := [some (vr 0), some (vi c)]) (S' := [vr 0]) k120_20 rfl rfl ?_
    refine ev_virt (a := []) (S' := []) k120_21 rfl (Nat.le_of_ble_eq_true rfl) (by decide) (rfl) (by omega) ?_
    refine x_keep hN hI ha8 ha9 hkr (by omega) (fun I3 hI3 p3 k93 k83 f3 => ?_)
    have hN3 := hN.fr (I' := I3) (fun a b a0 a1 => f3 a b (by omega))
    show Ev d 120 24 [some (vr 0), some (vi c)] [] (SX I3 ch kd) Q
    refine ev_s1 (L' := [some (vr 0), some (vi c)]) (S' := [vr 0]) k120_24 rfl rfl ?_
    refine ev_getR k120_25 (by decide) (rfl) (x_0_5 ch kd) ?_
    refine ev_s1 (L' := [some (vr 0), some (vi c)]) (S' := [vi c, vr 13]) k120_28 rfl rfl ?_
    refine ev_virt (a := [vi c]) (S' := []) k120_29 rfl (Nat.le_of_ble_eq_true rfl) (by decide) (rfl) (by omega) ?_
    refine x_swap hN3 hI3 (x := c) (by omega) (by omega) (by omega) (fun I4 ch4 hI4 hN4 f4 => ?_)
    show Ev d 120 32 [some (vr 0), some (vi c)] [] (SX I4 ch4 kd) Q
    refine ev_s1 (L' := [some (vr 0), some (vi c)]) (S' := [vr 0]) k120_32 rfl rfl ?_
    refine ev_getR k120_33 (by decide) (rfl) (x_0_5 ch4 kd) ?_
    refine ev_virt (a := []) (S' := []) k120_36 rfl (Nat.le_of_ble_eq_true rfl) (by decide) (rfl) (by omega) ?_
    refine g_peace hN4.1 hI4 hN4.2.1 hN4.2.2.1 (by omega) (?_)
    show Ev d 120 39 [some (vr 0), some (vi c)] [vi (peW (movW (J 6) c))] (SX I4 ch4 kd) Q
    refine ev_ireturn k120_39 ?_
    refine hQ _ _ _ _ ?_
    exact m_move hJ hw ha17.1 ha17.2 (by omega) (by omega) (by omega) (fun h => by exfalso; omega) (fun h J' fm => ⟨J', rfl, rfl, hX.act hI4 hN4 hkr (p3.congr (f4 _ _ (by omega)) (fun b => (f4 _ _ (by omega)))) ((f4 0 9 (by omega)).trans k93) ((f4 0 8 (by omega)).trans k83) (fun a b q => ((f4 a b (by omega))).trans (f3 a b (by omega))) fm⟩)
  · show Ev d 120 14 [some (vr 0), some (vi c)] [vi 0] (SX I ch kd) Q
    refine ev_z_ne (t := 20) k120_14 rfl (by omega) (by omega) (fun h => absurd h (by decide)) (fun _ => ?_)
    refine ev_ldc k120_17 ?_
    refine ev_ireturn k120_19 ?_
    refine hQ _ _ _ _ ?_
    exact m_move hJ hw ha17.1 ha17.2 (by omega) (by omega) (by omega) (fun h => ⟨J, rfl, rfl, hX⟩) (fun h J' fm => by exfalso; omega)

theorem nt_all {f w : Int → Int} {n i : Int} (hz : ∀ x : Int, (x < 0 ∨ 48 ≤ x) → w x = 0) : cutW (cpW w 0 f (48 * n) 48) (48 * i) = if i = n then w else cutW f (48 * i) := by
  funext b
  unfold cutW cpW
  by_cases q : i = n
  · rw [if_pos q]
    by_cases hb : 0 ≤ b ∧ b < 48
    · rw [if_pos hb, if_pos (by omega), show 0 + (48 * i + b - 48 * n) = b by omega]
    · rw [if_neg hb, hz b (by omega)]
  · rw [if_neg q]
    by_cases hb : 0 ≤ b ∧ b < 48
    · rw [if_pos hb, if_neg (by omega), if_pos hb]
    · rw [if_neg hb, if_neg hb]
theorem XR.image {I I' J J' : Nat → Int → Int} {ch : Int → Nat} {kd : Nat → Nat} {k : Int} {kr : Nat} (h : XR I ch kd J) (k0 : 0 ≤ k) (k1 : k ≤ 1) (hkr : kr = 73 + 2 * k.toNat) (f1 : Rg I') (hp : PGX I' kr (J 6)) (ff : ∀ a b, a ≠ kr → a ≠ kr + 1 → I' a b = I a b) (m1 : RZ J') (m10 : J' 10 = cpW (J 6) 0 (J 10) (48 * k) 48) (m11 : J' 11 = updF (J 11) k 1) (m7 : ∀ a, (a ≠ 10 ∧ a ≠ 11) → J' a = J a) : XR I' ch kd J' := by
  obtain ⟨h1, h2, h3, h4, o1, o2, o3, o4, o5, o6⟩ := h
  have z0 : J' 0 = J 0 := m7 0 (by decide)
  refine ⟨f1, m1, ?_, ?_, ?_, ⟨?_, ?_⟩, ?_, ?_, ?_, o6⟩
  · rw [m7 6 (by decide)]
    exact h3.fr (fun a b a0 a1 => ff a b (by omega) (by omega))
  · exact h4.fr (fun a a0 => ff a 1 (by omega) (by omega)) (fun a b a0 a1 => ff a b (by omega) (by omega)) (ff 0 8 (by omega) (by omega)) (ff 0 9 (by omega) (by omega)) (by rw [z0]) (m7 9 (by decide))
  · exact o1.fr (fun b => ff _ _ (by omega) (by omega)) (fun a a0 a1 => ff a 1 (by omega) (by omega)) (fun a b a0 a1 a2 => ff a b (by omega) (by omega)) (m7 1 (by decide)) (m7 2 (by decide)) (m7 3 (by decide))
  · rw [ff 0 11 (by omega) (by omega), z0]; exact o2.1
  · rw [ff 0 10 (by omega) (by omega), z0]; exact o2.2
  · exact o3.fr (ff _ _ (by omega) (by omega)) (fun b => ff _ _ (by omega) (by omega)) (by rw [z0]) (m7 5 (by decide))
  · intro j j0 j1
    rw [m10, m11, nt_all (h2.2 6 (by decide) (by decide))]
    unfold updF
    by_cases q : j = k
    · rw [if_pos q, if_pos q, q, ← hkr]
      exact Or.inr ⟨rfl, h3.2.2.1, hp⟩
    · rw [if_neg q, if_neg q, ff _ _ (by omega) (by omega)]
      rcases o4 j j0 j1 with u | ⟨a, b, c⟩
      · exact Or.inl u
      · exact Or.inr ⟨a, b, c.congr (ff _ _ (by omega) (by omega)) (fun b => ff _ _ (by omega) (by omega))⟩
  · exact o5.fr (ff _ _ (by omega) (by omega)) (fun b => ff _ _ (by omega) (by omega)) (by rw [z0]) (m7 14 (by decide))

set_option maxHeartbeats 1000000 in
theorem s_image {d e : Nat} {I : Nat → Int → Int} {ch : Int → Nat} {kd : Nat → Nat} {J : Nat → Int → Int} {Q : Option jV → jS → Prop} (hX : XR I ch kd J) {k : Int} (ka : -2147483648 ≤ k) (kb : k < 2147483648) (hd : 13 ≤ d) (he : 13 ≤ e) (hQ : ∀ I' ch' kd' v, AN e 214 [vr 0, vi k] J v I' ch' kd' → Q (some (vi v)) (SX I' ch' kd')) : Cl d 135 [vr 0, vi k] (SX I ch kd) Q := by
  obtain ⟨hI, hJ, hN, hA, hO⟩ := id hX
  have hw := hN.2.2.1
  obtain ⟨⟨wa0, wa1⟩, ⟨wb0, wb1⟩, ⟨wc0, wc1⟩, wC, wG, wU⟩ := id hw
  obtain ⟨kr, hkr⟩ : ∃ kr : Nat, kr = 73 + 2 * k.toNat := ⟨_, rfl⟩
  refine ⟨by rw [l135]; exact Nat.le_of_ble_eq_true rfl, ?_⟩
  rw [l135]
  show Ev d 135 0 [some (vr 0), some (vi k)] [] (SX I ch kd) Q
  refine ev_s1 (L' := [some (vr 0), some (vi k)]) (S' := [vi k]) k135_0 rfl rfl ?_
  refine ev_s1 (L' := [some (vr 0), some (vi k)]) (S' := [vi 0, vi k]) k135_1 rfl rfl ?_
  refine ev_s1 (L' := [some (vr 0), some (vi k)]) (S' := [vi 1, vi 0, vi k]) k135_2 rfl rfl ?_
  refine ev_static (a := [vi k, vi 0, vi 1]) (S' := []) k135_3 rfl (Nat.le_of_ble_eq_true rfl) (by omega) ?_
  refine x_within (v := k) (lo := 0) (hi := 1) (by omega) (by omega) (by omega) (by omega) (by omega) (by omega) (fun h1 => ?_) (fun h1 => ?_)
  · show Ev d 135 6 [some (vr 0), some (vi k)] [vi 1] (SX I ch kd) Q
    refine ev_z_ne (t := 12) k135_6 rfl (by omega) (by omega) (fun _ => ?_) (fun h => absurd h (by decide))
    refine ev_s1 (L' := [some (vr 0), some (vi k)]) (S' := [vr 0]) k135_12 rfl rfl ?_
    refine ev_getR k135_13 (by decide) (rfl) (x_0_5 ch kd) ?_
    refine ev_virt (a := []) (S' := []) k135_16 rfl (Nat.le_of_ble_eq_true rfl) (by decide) (rfl) (by omega) ?_
    refine x_stands hN hI (fun h2 => ?_) (fun h2 => ?_)
    · show Ev d 135 19 [some (vr 0), some (vi k)] [vi 1] (SX I ch kd) Q
      refine ev_z_ne (t := 25) k135_19 rfl (by omega) (by omega) (fun _ => ?_) (fun h => absurd h (by decide))
      refine ev_s1 (L' := [some (vr 0), some (vi k)]) (S' := [vr 0]) k135_25 rfl rfl ?_
      refine ev_getR k135_26 (by decide) (rfl) (x_0_5 ch kd) ?_
      refine ev_s1 (L' := [some (vr 0), some (vi k)]) (S' := [vr 0, vr 13]) k135_29 rfl rfl ?_
      refine ev_getR k135_30 (by decide) (rfl) (x_0_3 ch kd) ?_
      refine ev_s1 (L' := [some (vr 0), some (vi k)]) (S' := [vi k, vr 5, vr 13]) k135_33 rfl rfl ?_
      refine ev_aald (q := kr) k135_34 (by decide) (rfl) (by decide) (by decide) (by omega) (by omega) (rX5 hkr (by omega) (by omega)) ?_
      refine ev_virt (a := [vr kr]) (S' := []) k135_35 rfl (Nat.le_of_ble_eq_true rfl) (by decide) (rfl) (by omega) ?_
      refine g_writeTo hN.1 hI (by omega) (ln5 hkr (by omega) (by omega)) (by omega) hN.2.2.2 hN.2.1 (by omega) (by omega) (fun I3 hI3 p3 f3 => ?_)
      show Ev d 135 38 [some (vr 0), some (vi k)] [] (SX I3 ch kd) Q
      refine ev_s1 (L' := [some (vr 0), some (vi k)]) (S' := [vi 1]) k135_38 rfl rfl ?_
      refine ev_ireturn k135_39 ?_
      refine hQ _ _ _ _ ?_
      exact m_image hJ hw (by omega) (by omega) (by omega) (fun h => by exfalso; omega) (fun h h2 => by exfalso; omega) (fun h h2 J' m1 m10 m11 m7 => ⟨J', rfl, rfl, hX.image (k := k) (by omega) (by omega) hkr hI3 p3 f3 m1 m10 m11 m7⟩)
    · show Ev d 135 19 [some (vr 0), some (vi k)] [vi 0] (SX I ch kd) Q
      refine ev_z_ne (t := 25) k135_19 rfl (by omega) (by omega) (fun h => absurd h (by decide)) (fun _ => ?_)
      refine ev_ldc k135_22 ?_
      refine ev_ireturn k135_24 ?_
      refine hQ _ _ _ _ ?_
      exact m_image hJ hw (by omega) (by omega) (by omega) (fun h => by exfalso; omega) (fun h h2 => ⟨J, rfl, rfl, hX⟩) (fun h h2 J' m1 m10 m11 m7 => by exfalso; omega)
  · show Ev d 135 6 [some (vr 0), some (vi k)] [vi 0] (SX I ch kd) Q
    refine ev_z_ne (t := 12) k135_6 rfl (by omega) (by omega) (fun h => absurd h (by decide)) (fun _ => ?_)
    refine ev_ldc k135_9 ?_
    refine ev_ireturn k135_11 ?_
    refine hQ _ _ _ _ ?_
    exact m_image hJ hw (by omega) (by omega) (by omega) (fun h => ⟨J, rfl, rfl, hX⟩) (fun h h2 => by exfalso; omega) (fun h h2 J' m1 m10 m11 m7 => by exfalso; omega)

set_option maxHeartbeats 1000000 in
theorem x_forget {d : Nat} {I : Nat → Int → Int} {ch : Int → Nat} {kd : Nat → Nat} {Q : Option jV → jS → Prop} (hI : Rg I) (hQ : ∀ I', Rg I' → I' 0 8 = 0 → I' 0 9 = 0 → (∀ a b, (a ≠ 0 ∨ (b ≠ 8 ∧ b ≠ 9)) → I' a b = I a b) → Q none (SX I' ch kd)) : Cl d 152 [vr 0] (SX I ch kd) Q := by
  refine ⟨by rw [l152]; exact Nat.le_of_ble_eq_true rfl, ?_⟩
  rw [l152]
  show Ev d 152 0 [some (vr 0)] [] (SX I ch kd) Q
  refine ev_s1 (L' := [some (vr 0)]) (S' := [vr 0]) k152_0 rfl rfl ?_
  refine ev_s1 (L' := [some (vr 0)]) (S' := [vi 0, vr 0]) k152_1 rfl rfl ?_
  refine ev_putI k152_2 (by decide) (rfl) ?_
  show Ev d 152 5 [some (vr 0)] [] (SX (up I 0 8 0) ch kd) Q
  have hI1 := rg_up hI (k := 0) (j := 8) (z := 0) (by omega) (by omega)
  generalize hE1 : up I 0 8 0 = I1 at hI1 ⊢
  have g1 : ∀ (a : Nat) (b : Int), (a ≠ 0 ∨ b ≠ 8) → I1 a b = I a b := fun a b h => by rw [← hE1]; exact upN h
  have e1 : I1 0 8 = 0 := by rw [← hE1]; exact upE rfl rfl
  clear hE1
  refine ev_s1 (L' := [some (vr 0)]) (S' := [vr 0]) k152_5 rfl rfl ?_
  refine ev_s1 (L' := [some (vr 0)]) (S' := [vi 0, vr 0]) k152_6 rfl rfl ?_
  refine ev_putI k152_7 (by decide) (rfl) ?_
  show Ev d 152 10 [some (vr 0)] [] (SX (up I1 0 9 0) ch kd) Q
  have hI2 := rg_up hI1 (k := 0) (j := 9) (z := 0) (by omega) (by omega)
  generalize hE2 : up I1 0 9 0 = I2 at hI2 ⊢
  have g2 : ∀ (a : Nat) (b : Int), (a ≠ 0 ∨ b ≠ 9) → I2 a b = I1 a b := fun a b h => by rw [← hE2]; exact upN h
  have e2 : I2 0 9 = 0 := by rw [← hE2]; exact upE rfl rfl
  clear hE2
  refine ev_return k152_10 ?_
  exact hQ _ hI2 ((g2 0 8 (by omega)).trans e1) e2 (fun a b q => (g2 a b (by omega)).trans (g1 a b (by omega)))

set_option maxHeartbeats 1000000 in
theorem s_restore {d e : Nat} {I : Nat → Int → Int} {ch : Int → Nat} {kd : Nat → Nat} {J : Nat → Int → Int} {Q : Option jV → jS → Prop} (hX : XR I ch kd J) {k : Int} (ka : -2147483648 ≤ k) (kb : k < 2147483648) (hd : 13 ≤ d) (he : 13 ≤ e) (hQ : ∀ I' ch' kd' v, AN e 215 [vr 0, vi k] J v I' ch' kd' → Q (some (vi v)) (SX I' ch' kd')) : Cl d 136 [vr 0, vi k] (SX I ch kd) Q := by
  obtain ⟨hI, hJ, hN, hA, hO⟩ := id hX
  have hw := hN.2.2.1
  obtain ⟨⟨wa0, wa1⟩, ⟨wb0, wb1⟩, ⟨wc0, wc1⟩, wC, wG, wU⟩ := id hw
  obtain ⟨kr, hkr⟩ : ∃ kr : Nat, kr = 73 + 2 * k.toNat := ⟨_, rfl⟩
  have ha9 := hA.2.1
  have him := fun (k0 : 0 ≤ k) (k1 : k ≤ 1) => hO.2.2.2.1 k k0 k1
  rw [← hkr] at him
  refine ⟨by rw [l136]; exact Nat.le_of_ble_eq_true rfl, ?_⟩
  rw [l136]
  show Ev d 136 0 [some (vr 0), some (vi k)] [] (SX I ch kd) Q
  refine ev_s1 (L' := [some (vr 0), some (vi k)]) (S' := [vi k]) k136_0 rfl rfl ?_
  refine ev_s1 (L' := [some (vr 0), some (vi k)]) (S' := [vi 0, vi k]) k136_1 rfl rfl ?_
  refine ev_s1 (L' := [some (vr 0), some (vi k)]) (S' := [vi 1, vi 0, vi k]) k136_2 rfl rfl ?_
  refine ev_static (a := [vi k, vi 0, vi 1]) (S' := []) k136_3 rfl (Nat.le_of_ble_eq_true rfl) (by omega) ?_
  refine x_within (v := k) (lo := 0) (hi := 1) (by omega) (by omega) (by omega) (by omega) (by omega) (by omega) (fun h1 => ?_) (fun h1 => ?_)
  · show Ev d 136 6 [some (vr 0), some (vi k)] [vi 1] (SX I ch kd) Q
    refine ev_z_ne (t := 12) k136_6 rfl (by omega) (by omega) (fun _ => ?_) (fun h => absurd h (by decide))
    have himk := him (by omega) (by omega)
    have himl : (I kr 1 = 0 ∧ J 11 k = 0) ∨ (J 11 k = 1 ∧ I kr 1 = 53) := himk.imp id (fun u => ⟨u.1, u.2.2.2.1⟩)
    refine ev_s1 (L' := [some (vr 0), some (vi k)]) (S' := [vr 0]) k136_12 rfl rfl ?_
    refine ev_getR k136_13 (by decide) (rfl) (x_0_3 ch kd) ?_
    refine ev_s1 (L' := [some (vr 0), some (vi k)]) (S' := [vi k, vr 5]) k136_16 rfl rfl ?_
    refine ev_aald (q := kr) k136_17 (by decide) (rfl) (by decide) (by decide) (by omega) (by omega) (rX5 hkr (by omega) (by omega)) ?_
    refine ev_getI k136_18 (by omega) ((ln5 hkr (by omega) (by omega)).2.1) ?_
    show Ev d 136 21 [some (vr 0), some (vi k)] [vi (I kr 1)] (SX I ch kd) Q
    have rr2 := hI kr 1
    refine ev_z_ne (t := 27) k136_21 rfl (by omega) (by omega) (fun h3 => ?_) (fun h3 => ?_)
    · have hpg := himk.resolve_left (fun u => by omega)
      refine ev_s1 (L' := [some (vr 0), some (vi k)]) (S' := [vr 0]) k136_27 rfl rfl ?_
      refine ev_getR k136_28 (by decide) (rfl) (x_0_5 ch kd) ?_
      refine ev_s1 (L' := [some (vr 0), some (vi k)]) (S' := [vr 0, vr 13]) k136_31 rfl rfl ?_
      refine ev_getR k136_32 (by decide) (rfl) (x_0_3 ch kd) ?_
      refine ev_s1 (L' := [some (vr 0), some (vi k)]) (S' := [vi k, vr 5, vr 13]) k136_35 rfl rfl ?_
      refine ev_aald (q := kr) k136_36 (by decide) (rfl) (by decide) (by decide) (by omega) (by omega) (rX5 hkr (by omega) (by omega)) ?_
      refine ev_virt (a := [vr kr]) (S' := []) k136_37 rfl (Nat.le_of_ble_eq_true rfl) (by decide) (rfl) (by omega) ?_
      refine g_readFrom hN.1 hI (by omega) (ln5 hkr (by omega) (by omega)) (by omega) hpg.2.2 hpg.2.1.2.1.2 hpg.2.1.2.2.1.2 (fun I4 kd4 hI4 r4 kk4 f4 k4 => ?_)
      have hN4 : NOWX I4 ch kd4 (cutW (J 10) (48 * k)) := ⟨hN.1.kd _, r4, hpg.2.1, kk4⟩
      show Ev d 136 40 [some (vr 0), some (vi k)] [] (SX I4 ch kd4) Q
      refine ev_s1 (L' := [some (vr 0), some (vi k)]) (S' := [vr 0]) k136_40 rfl rfl ?_
      refine ev_virt (a := []) (S' := []) k136_41 rfl (Nat.le_of_ble_eq_true rfl) (by decide) (rfl) (by omega) ?_
      refine x_forget hI4 (fun I5 hI5 z85 z95 f5 => ?_)
      have hN5 := hN4.fr (I' := I5) (fun a b a0 a1 => f5 a b (by omega))
      show Ev d 136 44 [some (vr 0), some (vi k)] [] (SX I5 ch kd4) Q
      refine ev_s1 (L' := [some (vr 0), some (vi k)]) (S' := [vi 1]) k136_44 rfl rfl ?_
      refine ev_ireturn k136_45 ?_
      refine hQ _ _ _ _ ?_
      exact m_restore hJ (by omega) (by omega) (by omega) (fun h => by exfalso; omega) (fun h h2 => by exfalso; omega) (fun h h2 J' m1 m2 m3 m4 m5 => ⟨J', rfl, rfl, hX.undo (n := 0) hI5 hN5 m1 m2 z95 m3 (by decide) (by omega) (Or.inr ⟨rfl, z85⟩) (fun a q => ((f5 a 1 (by omega)).trans (f4 a 1 (by omega) (by omega)))) (fun a b q => ((f5 a b (by omega)).trans (f4 a b (by omega) (by omega)))) ((f5 0 10 (by omega)).trans (f4 0 10 (by omega) (by omega))) ((f5 0 11 (by omega)).trans (f4 0 11 (by omega) (by omega))) k4 m4 m5⟩)
    · refine ev_ldc k136_24 ?_
      refine ev_ireturn k136_26 ?_
      refine hQ _ _ _ _ ?_
      exact m_restore hJ (by omega) (by omega) (by omega) (fun h => by exfalso; omega) (fun h h2 => ⟨J, rfl, rfl, hX⟩) (fun h h2 J' m1 m2 m3 m4 m5 => by exfalso; omega)
  · show Ev d 136 6 [some (vr 0), some (vi k)] [vi 0] (SX I ch kd) Q
    refine ev_z_ne (t := 12) k136_6 rfl (by omega) (by omega) (fun h => absurd h (by decide)) (fun _ => ?_)
    refine ev_ldc k136_9 ?_
    refine ev_ireturn k136_11 ?_
    refine hQ _ _ _ _ ?_
    exact m_restore hJ (by omega) (by omega) (by omega) (fun h => ⟨J, rfl, rfl, hX⟩) (fun h h2 => by exfalso; omega) (fun h h2 J' m1 m2 m3 m4 m5 => by exfalso; omega)
