theorem sd_abs {x y : Int} (h0 : 0 ≤ x) (h1 : x ≤ 9) (h2 : 0 ≤ y) (h3 : y ≤ 9) : 0 ≤ absI (x - y) ∧ absI (x - y) ≤ 9 := by
  unfold absI
  split <;> omega
theorem pai_rng {u : Int → Int} (hw : OKW u) {c : Int} (c0 : 0 ≤ c) : -8 ≤ paiW u c ∧ paiW u c ≤ 10 := by
  obtain ⟨w0, w1, w2, hC, hG, hU⟩ := hw
  unfold paiW
  split
  · rename_i h
    rcases sit_cases u c with ⟨s1, -⟩ | ⟨s1, s2, s3⟩
    · exact absurd s1 h.1
    rcases sit_cases u (c + 1) with ⟨t1, -⟩ | ⟨t1, t2, t3⟩
    · exact absurd t1 h.2
    have a := (hG _ s1 s2).2.2.2 (by omega)
    have b := (hG _ t1 t2).2.2.2 (by omega)
    have := sd_abs a.1 a.2 b.1 b.2
    split <;> omega
  · omega
theorem pe_rng {u : Int → Int} (hw : OKW u) : -100 ≤ peW u ∧ peW u ≤ 100 := by
  have := sum_rng (f := paiW u) (lo := -8) (hi := 10) (u 1 - 1).toNat (fun i _ => pai_rng hw (by omega))
  have w1 := hw.2.1
  unfold peW
  omega
def bitB (s i : Int) : Bool := decide ((wr s / 2 ^ Int.toNat i) % 2 = 1)
def recV (w : Int → Int) (s : Int) : Nat → Int → Int
  | 0 => w
  | i + 1 => if bitB s (i : Int) then canW (recV w s i) (i : Int) else recV w s i
def sdV (v : Int → Int) : Nat → Int → Int
  | 0 => v
  | g + 1 => if freW (sdV v g) ≠ -1000000 ∧ sdV v g (28 + 4 * (g : Int) + 2) = 0 then putsW (sdV v g) (g : Int) (freW (sdV v g)) else sdV v g
def rpW (w : Int → Int) (s : Int) : Int := peW (sdV (recV w s (w 1).toNat) (w 2).toNat)
theorem rec_lo {w : Int → Int} {s b : Int} (hb : b < 3) : ∀ i : Nat, recV w s i b = w b := by
  intro i
  induction i with
  | zero => rfl
  | succ i ih =>
    rw [recV]
    split
    · rw [can_o (by omega)]; exact ih
    · exact ih
theorem rec_ok {w : Int → Int} {s : Int} (hw : OKW w) : ∀ i : Nat, (i : Int) ≤ w 1 → OKW (recV w s i) := by
  intro i
  have w1 := hw.2.1
  induction i with
  | zero => intro _; exact hw
  | succ i ih =>
    intro h
    rw [recV]
    split
    · exact can_ok (ih (by omega)) (by omega) (by omega)
    · exact ih (by omega)
theorem fre_cases (u : Int → Int) : freW u = -1000000 ∨ (0 ≤ freW u ∧ freW u < u 1 ∧ sitW u (freW u) = -1000000) := by
  rcases first_cases (fun c => decide (sitW u c = -1000000)) (u 1).toNat with ⟨h1, h2⟩ | ⟨i, h1, h2, h3, h4⟩
  · exact Or.inl h1
  · refine Or.inr ?_
    unfold freW
    rw [h2]
    exact ⟨by omega, by omega, of_decide_eq_true h3⟩
theorem sd_lo {v : Int → Int} {b : Int} (hb : b < 3) : ∀ g : Nat, sdV v g b = v b := by
  intro g
  induction g with
  | zero => rfl
  | succ g ih =>
    rw [sdV]
    split
    · rename_i h
      rcases fre_cases (sdV v g) with q | q
      · exact absurd q h.1
      · rw [puts_lo (by omega) q.1 hb]; exact ih
    · exact ih
theorem sd_ok {v : Int → Int} (hv : OKW v) : ∀ g : Nat, (g : Int) ≤ v 2 → OKW (sdV v g) := by
  intro g
  induction g with
  | zero => intro _; exact hv
  | succ g ih =>
    intro hg
    rw [sdV]
    split
    · rename_i h
      rcases fre_cases (sdV v g) with q | q
      · exact absurd q h.1
      · exact puts_ok (ih (by omega)) (by omega) (by rw [sd_lo (by decide)]; omega) q.1 q.2.1 q.2.2
    · exact ih (by omega)
theorem PGX.fr {I J : Nat → Int → Int} {w : Int → Int} (h : PGX I 41 w) (h2 : ∀ b, J 42 b = I 42 b) (h1 : J 41 1 = I 41 1) : PGX J 41 w := by
  have e : J 42 = I 42 := funext h2
  unfold PGX at h ⊢
  rw [show J (41 + 1) = I (41 + 1) from e, h1]
  exact h

set_option maxHeartbeats 1000000 in
theorem l_rec2 {d : Nat} {J : Nat → Int → Int} {ch : Int → Nat} {kdJ : Nat → Nat} {Q : Option jV → jS → Prop} {w : Int → Int} {s : Int} (s0 : 0 ≤ s) (s1 : s < 2147483648) (hd : 6 ≤ d) (hQ : ∀ I' kd', FSx J I' kdJ kd' → PGX I' 41 w → Q (some (vi (rpW w s))) (SX I' ch kd')) : ∀ (n : Nat) (I : Nat → Int → Int) (kd : Nat → Nat) (i : Nat) (x : Option jV), NOWX I ch kd w → Rg I → FSx J I kdJ kd → w 2 - i < n → (i : Int) ≤ w 2 → TRX I kd (sdV (recV w s (w 1).toNat) i) → PGX I 41 w → Ev d 37 54 [some (vr 40), some (vi s), some (vi (i : Int)), x] [] (SX I ch kd) Q := by
  intro n
  induction n with
  | zero =>
    intro I kd i x hN hI F hi hi2 ht hp
    exfalso; omega
  | succ n ih =>
    intro I kd i x hN hI F hi hi2 ht hp
    obtain ⟨⟨wa0, wa1⟩, ⟨wb0, wb1⟩, ⟨wc0, wc1⟩, wC, wG, wU⟩ := hN.2.2.1
    have l1 : sdV (recV w s (w 1).toNat) i 1 = w 1 := (sd_lo (by decide) i).trans (rec_lo (by decide) _)
    have l2 : sdV (recV w s (w 1).toNat) i 2 = w 2 := (sd_lo (by decide) i).trans (rec_lo (by decide) _)
    refine ev_s1 (L' := [some (vr 40), some (vi s), some (vi (i : Int)), x]) (S' := [vi (i : Int)]) k37_54 rfl rfl ?_
    refine ev_s1 (L' := [some (vr 40), some (vi s), some (vi (i : Int)), x]) (S' := [vr 40, vi (i : Int)]) k37_55 rfl rfl ?_
    refine ev_getR k37_56 (by decide) (rfl) (x_40_1 ch kd) ?_
    refine ev_getI k37_59 (by decide) (rfl) ?_
    show Ev d 37 62 [some (vr 40), some (vi s), some (vi (i : Int)), x] [vi (I 45 7), vi (i : Int)] (SX I ch kd) Q
    have rr1 := hI 45 7
    rw [ht.1.2.1]
    rw [ht.1.2.1] at rr1
    refine ev_c_ge (t := 105) k37_62 rfl (by omega) (by omega) (by omega) (by omega) (fun h2 => ?_) (fun h2 => ?_)
    · refine ev_s1 (L' := [some (vr 40), some (vi s), some (vi (i : Int)), x]) (S' := [vr 40]) k37_105 rfl rfl ?_
      refine ev_getR k37_106 (by decide) (rfl) (x_40_1 ch kd) ?_
      refine ev_virt (a := []) (S' := []) k37_109 rfl (Nat.le_of_ble_eq_true rfl) (by decide) (rfl) (by omega) ?_
      refine g_peace (rm45 ch kd) hI ht.1 ht.2.1 (by omega) (?_)
      have pr109 := pe_rng ht.2.1
      show Ev d 37 112 [some (vr 40), some (vi s), some (vi (i : Int)), x] [vi (peW (sdV (recV w s (w 1).toNat) i))] (SX I ch kd) Q
      refine ev_ireturn k37_112 ?_
      have e : sdV (recV w s (w 1).toNat) i = sdV (recV w s (w 1).toNat) (w 2).toNat := by rw [show (w 2).toNat = i by omega]
      unfold rpW at hQ
      rw [← e] at hQ
      exact hQ _ _ F hp
    · refine ev_s1 (L' := [some (vr 40), some (vi s), some (vi (i : Int)), x]) (S' := [vr 40]) k37_65 rfl rfl ?_
      refine ev_getR k37_66 (by decide) (rfl) (x_40_1 ch kd) ?_
      refine ev_virt (a := []) (S' := []) k37_69 rfl (Nat.le_of_ble_eq_true rfl) (by decide) (rfl) (by omega) ?_
      refine g_free (rm45 ch kd) hI ht.1 ht.2.1 (by omega) (?_)
      have fc69 := fre_cases (sdV (recV w s (w 1).toNat) i)
      show Ev d 37 72 [some (vr 40), some (vi s), some (vi (i : Int)), x] [vi (freW (sdV (recV w s (w 1).toNat) i))] (SX I ch kd) Q
      refine ev_s1 (L' := [some (vr 40), some (vi s), some (vi (i : Int)), some (vi (freW (sdV (recV w s (w 1).toNat) i)))]) (S' := []) k37_72 rfl rfl ?_
      refine ev_s1 (L' := [some (vr 40), some (vi s), some (vi (i : Int)), some (vi (freW (sdV (recV w s (w 1).toNat) i)))]) (S' := [vi (freW (sdV (recV w s (w 1).toNat) i))]) k37_73 rfl rfl ?_
      refine ev_ldc k37_74 ?_
      refine ev_c_eq (t := 99) k37_76 rfl (by omega) (by omega) (by omega) (by omega) (fun h3 => ?_) (fun h3 => ?_)
      · refine ev_s1 (L' := [some (vr 40), some (vi s), some (vi ((i : Int) + 1)), some (vi (freW (sdV (recV w s (w 1).toNat) i)))]) (S' := []) k37_99 rfl rfl ?_
        refine ev_goto (t := 54) k37_102 rfl ?_
        have e : sdV (recV w s (w 1).toNat) (i + 1) = sdV (recV w s (w 1).toNat) i := by rw [sdV, if_neg (by omega)]
        exact ih I kd (i + 1) _ hN hI F (by omega) (by omega) (by rw [e]; exact ht) hp
      · refine ev_s1 (L' := [some (vr 40), some (vi s), some (vi (i : Int)), some (vi (freW (sdV (recV w s (w 1).toNat) i)))]) (S' := [vr 40]) k37_79 rfl rfl ?_
        refine ev_getR k37_80 (by decide) (rfl) (x_40_1 ch kd) ?_
        refine ev_s1 (L' := [some (vr 40), some (vi s), some (vi (i : Int)), some (vi (freW (sdV (recV w s (w 1).toNat) i)))]) (S' := [vi (i : Int), vr 45]) k37_83 rfl rfl ?_
        refine ev_virt (a := [vi (i : Int)]) (S' := []) k37_84 rfl (Nat.le_of_ble_eq_true rfl) (by decide) (rfl) (by omega) ?_
        refine g_seated (rm45 ch kd) hI ht.1 ht.2.1 (g := (i : Int)) (by omega) (by omega) (fun hse => ?_) (fun hse => ?_)
        · show Ev d 37 87 [some (vr 40), some (vi s), some (vi (i : Int)), some (vi (freW (sdV (recV w s (w 1).toNat) i)))] [vi 1] (SX I ch kd) Q
          refine ev_z_ne (t := 99) k37_87 rfl (by omega) (by omega) (fun _ => ?_) (fun h => absurd h (by decide))
          refine ev_s1 (L' := [some (vr 40), some (vi s), some (vi ((i : Int) + 1)), some (vi (freW (sdV (recV w s (w 1).toNat) i)))]) (S' := []) k37_99 rfl rfl ?_
          refine ev_goto (t := 54) k37_102 rfl ?_
          have e : sdV (recV w s (w 1).toNat) (i + 1) = sdV (recV w s (w 1).toNat) i := by rw [sdV, if_neg (by omega)]
          exact ih I kd (i + 1) _ hN hI F (by omega) (by omega) (by rw [e]; exact ht) hp
        · show Ev d 37 87 [some (vr 40), some (vi s), some (vi (i : Int)), some (vi (freW (sdV (recV w s (w 1).toNat) i)))] [vi 0] (SX I ch kd) Q
          refine ev_z_ne (t := 99) k37_87 rfl (by omega) (by omega) (fun h => absurd h (by decide)) (fun _ => ?_)
          refine ev_s1 (L' := [some (vr 40), some (vi s), some (vi (i : Int)), some (vi (freW (sdV (recV w s (w 1).toNat) i)))]) (S' := [vr 40]) k37_90 rfl rfl ?_
          refine ev_getR k37_91 (by decide) (rfl) (x_40_1 ch kd) ?_
          refine ev_s1 (L' := [some (vr 40), some (vi s), some (vi (i : Int)), some (vi (freW (sdV (recV w s (w 1).toNat) i)))]) (S' := [vi (i : Int), vr 45]) k37_94 rfl rfl ?_
          refine ev_s1 (L' := [some (vr 40), some (vi s), some (vi (i : Int)), some (vi (freW (sdV (recV w s (w 1).toNat) i)))]) (S' := [vi (freW (sdV (recV w s (w 1).toNat) i)), vi (i : Int), vr 45]) k37_95 rfl rfl ?_
          refine ev_virt (a := [vi (i : Int), vi (freW (sdV (recV w s (w 1).toNat) i))]) (S' := []) k37_96 rfl (Nat.le_of_ble_eq_true rfl) (by decide) (rfl) (by omega) ?_
          refine g_seat (rm45 ch kd) hI ht.1 ht.2.1 ht.2.2 (by omega) (g := (i : Int)) (c := freW (sdV (recV w s (w 1).toNat) i)) (by omega) (by omega) (by omega) (by omega) hse (by omega) (fun I4 hI4 r4 o4 f4 => ?_)
          have fx4 : FSx I I4 kd kd := ⟨hI4, fun a b q => f4 a b (by omega), fun _ _ => rfl⟩
          have hN4 := hN.fs fx4
          have F4 := F.trans fx4
          have t4 : TRX I4 kd (putsW (sdV (recV w s (w 1).toNat) i) (i : Int) (freW (sdV (recV w s (w 1).toNat) i))) := ⟨r4, o4, ht.2.2⟩
          show Ev d 37 99 [some (vr 40), some (vi s), some (vi (i : Int)), some (vi (freW (sdV (recV w s (w 1).toNat) i)))] [] (SX I4 ch kd) Q
          refine ev_s1 (L' := [some (vr 40), some (vi s), some (vi ((i : Int) + 1)), some (vi (freW (sdV (recV w s (w 1).toNat) i)))]) (S' := []) k37_99 rfl rfl ?_
          refine ev_goto (t := 54) k37_102 rfl ?_
          have e : sdV (recV w s (w 1).toNat) (i + 1) = (putsW (sdV (recV w s (w 1).toNat) i) (i : Int) (freW (sdV (recV w s (w 1).toNat) i))) := by rw [sdV, if_pos (by omega)]
          exact ih I4 kd (i + 1) _ hN4 hI4 F4 (by omega) (by omega) (by rw [e]; exact t4) (hp.fr (fun b => f4 _ _ (by omega)) (f4 _ _ (by omega)))

set_option maxHeartbeats 1000000 in
theorem l_rec1 {d : Nat} {J : Nat → Int → Int} {ch : Int → Nat} {kdJ : Nat → Nat} {Q : Option jV → jS → Prop} {w : Int → Int} {s : Int} (s0 : 0 ≤ s) (s1 : s < 2147483648) (hd : 6 ≤ d) (hQ : ∀ I' kd', FSx J I' kdJ kd' → PGX I' 41 w → Q (some (vi (rpW w s))) (SX I' ch kd')) : ∀ (n : Nat) (I : Nat → Int → Int) (kd : Nat → Nat) (i : Nat), NOWX I ch kd w → Rg I → FSx J I kdJ kd → w 1 - i < n → (i : Int) ≤ w 1 → TRX I kd (recV w s i) → PGX I 41 w → Ev d 37 13 [some (vr 40), some (vi s), some (vi (i : Int)), none] [] (SX I ch kd) Q := by
  intro n
  induction n with
  | zero =>
    intro I kd i hN hI F hi hi2 ht hp
    exfalso; omega
  | succ n ih =>
    intro I kd i hN hI F hi hi2 ht hp
    obtain ⟨⟨wa0, wa1⟩, ⟨wb0, wb1⟩, ⟨wc0, wc1⟩, wC, wG, wU⟩ := hN.2.2.1
    have l1 : recV w s i 1 = w 1 := rec_lo (by decide) i
    refine ev_s1 (L' := [some (vr 40), some (vi s), some (vi (i : Int)), none]) (S' := [vi (i : Int)]) k37_13 rfl rfl ?_
    refine ev_s1 (L' := [some (vr 40), some (vi s), some (vi (i : Int)), none]) (S' := [vr 40, vi (i : Int)]) k37_14 rfl rfl ?_
    refine ev_getR k37_15 (by decide) (rfl) (x_40_1 ch kd) ?_
    refine ev_getI k37_18 (by decide) (rfl) ?_
    show Ev d 37 21 [some (vr 40), some (vi s), some (vi (i : Int)), none] [vi (I 45 6), vi (i : Int)] (SX I ch kd) Q
    have rr1 := hI 45 6
    rw [ht.1.1]
    rw [ht.1.1] at rr1
    refine ev_c_ge (t := 52) k37_21 rfl (by omega) (by omega) (by omega) (by omega) (fun h2 => ?_) (fun h2 => ?_)
    · refine ev_s1 (L' := [some (vr 40), some (vi s), some (vi (i : Int)), none]) (S' := [vi 0]) k37_52 rfl rfl ?_
      refine ev_s1 (L' := [some (vr 40), some (vi s), some (vi 0), none]) (S' := []) k37_53 rfl rfl ?_
      rw [show i = (w 1).toNat by omega] at ht
      exact l_rec2 s0 s1 hd hQ 6 I kd 0 none hN hI F (by omega) (by omega) ht hp
    · refine ev_s1 (L' := [some (vr 40), some (vi s), some (vi (i : Int)), none]) (S' := [vi s]) k37_24 rfl rfl ?_
      refine ev_s1 (L' := [some (vr 40), some (vi s), some (vi (i : Int)), none]) (S' := [vi (i : Int), vi s]) k37_25 rfl rfl ?_
      refine ev_ishr k37_26 (by omega) (by omega) ?_
      refine ev_s1 (L' := [some (vr 40), some (vi s), some (vi (i : Int)), none]) (S' := [vi 1, vi (wr s / 2 ^ Int.toNat (i : Int))]) k37_27 rfl rfl ?_
      refine ev_iand1 k37_28 ?_
      refine ev_s1 (L' := [some (vr 40), some (vi s), some (vi (i : Int)), none]) (S' := [vi 1, vi ((wr s / 2 ^ Int.toNat (i : Int)) % 2)]) k37_29 rfl rfl ?_
      refine ev_c_ne (t := 46) k37_30 rfl (by omega) (by omega) (by omega) (by omega) (fun h3 => ?_) (fun h3 => ?_)
      · refine ev_s1 (L' := [some (vr 40), some (vi s), some (vi ((i : Int) + 1)), none]) (S' := []) k37_46 rfl rfl ?_
        refine ev_goto (t := 13) k37_49 rfl ?_
        have e : recV w s (i + 1) = recV w s i := by rw [recV, if_neg (by unfold bitB; simp only [decide_eq_true_eq]; omega)]
        exact ih I kd (i + 1) hN hI F (by omega) (by omega) (by rw [e]; exact ht) hp
      · refine ev_s1 (L' := [some (vr 40), some (vi s), some (vi (i : Int)), none]) (S' := [vr 40]) k37_33 rfl rfl ?_
        refine ev_getR k37_34 (by decide) (rfl) (x_40_1 ch kd) ?_
        refine ev_getR k37_37 (by decide) (rfl) (x_45_1 ch kd) ?_
        refine ev_s1 (L' := [some (vr 40), some (vi s), some (vi (i : Int)), none]) (S' := [vi (i : Int), vr 46]) k37_40 rfl rfl ?_
        have hc4 := (rm45 ch kd).2.1 (i : Int) (by omega) (by omega)
        have hl4 := (shp_c hc4.2).1
        have hb4 := (rm45 ch kd).2.2.2 (i : Int) (by omega) (by omega)
        refine ev_aald (q := tcc (i : Int)) k37_41 (by decide) (rfl) (by decide) (by decide) (by omega) (by omega) (hc4.1) ?_
        refine ev_s1 (L' := [some (vr 40), some (vi s), some (vi (i : Int)), none]) (S' := [vi 0, vr (tcc (i : Int))]) k37_42 rfl rfl ?_
        refine ev_putI k37_43 (by omega) ((shp_c hc4.2).2) ?_
        show Ev d 37 46 [some (vr 40), some (vi s), some (vi (i : Int)), none] [] (SX (up I (tcc (i : Int)) 2 0) ch kd) Q
        have hI5 := rg_up hI (k := tcc (i : Int)) (j := 2) (z := 0) (by omega) (by omega)
        generalize hE5 : up I (tcc (i : Int)) 2 0 = I5 at hI5 ⊢
        have g5 : ∀ (a : Nat) (b : Int), (a ≠ (tcc (i : Int)) ∨ b ≠ 2) → I5 a b = I a b := fun a b h => by rw [← hE5]; exact upN h
        have e5 : I5 (tcc (i : Int)) 2 = 0 := by rw [← hE5]; exact upE rfl rfl
        clear hE5
        have fx5 : FSx I I5 kd kd := ⟨hI5, fun a b q => g5 a b (by omega), fun _ _ => rfl⟩
        have hN5 := hN.fs fx5
        have F5 := F.trans fx5
        refine ev_s1 (L' := [some (vr 40), some (vi s), some (vi ((i : Int) + 1)), none]) (S' := []) k37_46 rfl rfl ?_
        refine ev_goto (t := 13) k37_49 rfl ?_
        have e : recV w s (i + 1) = canW (recV w s i) i := by rw [recV, if_pos (show bitB s (i : Int) = true by unfold bitB; simp only [decide_eq_true_eq]; omega)]
        exact ih I5 kd (i + 1) hN5 hI5 F5 (by omega) (by omega) (by rw [e]; exact ⟨ht.1.can (rm45 ch kd) ht.2.1 (by omega) (by omega) e5 g5, can_ok ht.2.1 (by omega) (by omega), ht.2.2⟩) (hp.fr (fun b => g5 _ _ (by omega)) (g5 _ _ (by omega)))

set_option maxHeartbeats 1000000 in
theorem g_recp {d : Nat} {I : Nat → Int → Int} {ch : Int → Nat} {kd : Nat → Nat} {Q : Option jV → jS → Prop} {w : Int → Int} (hN : NOWX I ch kd w) (hI : Rg I) {s : Int} (s0 : 0 ≤ s) (s1 : s < 2147483648) (hd : 6 ≤ d) (hQ : ∀ I' kd', FSx I I' kd kd' → PGX I' 41 w → Q (some (vi (rpW w s))) (SX I' ch kd')) (hp : PGX I 41 w) : Cl d 37 [vr 40, vi s] (SX I ch kd) Q := by
  obtain ⟨⟨wa0, wa1⟩, ⟨wb0, wb1⟩, ⟨wc0, wc1⟩, wC, wG, wU⟩ := hN.2.2.1
  refine ⟨by rw [l37]; exact Nat.le_of_ble_eq_true rfl, ?_⟩
  rw [l37]
  show Ev d 37 0 [some (vr 40), some (vi s), none, none] [] (SX I ch kd) Q
  refine ev_s1 (L' := [some (vr 40), some (vi s), none, none]) (S' := [vr 40]) k37_0 rfl rfl ?_
  refine ev_getR k37_1 (by decide) (rfl) (x_40_1 ch kd) ?_
  refine ev_s1 (L' := [some (vr 40), some (vi s), none, none]) (S' := [vr 40, vr 45]) k37_4 rfl rfl ?_
  refine ev_getR k37_5 (by decide) (rfl) (x_40_4 ch kd) ?_
  refine ev_virt (a := [vr 41]) (S' := []) k37_8 rfl (Nat.le_of_ble_eq_true rfl) (by decide) (rfl) (by omega) ?_
  refine g_readFrom (rm45 _ _) hI (by omega) ln41 (by omega) hp (by omega) (by omega) (fun I1 kd1 hI1 r1 kk1 f1 k1 => ?_)
  have fx1 : FSx I I1 kd kd1 := ⟨hI1, fun a b q => f1 a b (by omega) (by omega), fun a q => k1 a (by omega)⟩
  have hN1 := hN.fs fx1
  have F1 := fx1
  have t1 : TRX I1 kd1 w := ⟨r1, hN.2.2.1, kk1⟩
  have hp1 : PGX I1 41 w := hp.fr (fun b => f1 _ _ (by omega) (by omega)) (f1 _ _ (by omega) (by omega))
  show Ev d 37 11 [some (vr 40), some (vi s), none, none] [] (SX I1 ch kd1) Q
  refine ev_s1 (L' := [some (vr 40), some (vi s), none, none]) (S' := [vi 0]) k37_11 rfl rfl ?_
  refine ev_s1 (L' := [some (vr 40), some (vi s), some (vi 0), none]) (S' := []) k37_12 rfl rfl ?_
  exact l_rec1 (J := I) (kdJ := kd) s0 s1 hd hQ 6 I1 kd1 0 hN1 hI1 F1 (by omega) (by omega) t1 hp1
