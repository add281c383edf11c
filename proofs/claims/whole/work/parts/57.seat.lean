theorem g_bofT {d : Nat} {I : Nat → Int → Int} {ch : Int → Nat} {kd : Nat → Nat} {Q : Option jV → jS → Prop} {u : Int → Int} (hI : Rg I) (ht : TRX I kd u) {c o : Int} (c0 : 0 ≤ c) (c1 : c < u 1) (o1 : 0 ≤ o) (o2 : o ≤ 9) (hd : 3 ≤ d) (hQ : Q (some (vi (bearW u c o))) (SX I ch kd)) : Cl d 7 [vr (tcc c), vi o] (SX I ch kd) Q := by
  have c5 : c < 5 := by have := ht.2.1.2.1; omega
  obtain ⟨k0, k1, k2, k3, k4, k5⟩ := ht.1.2.2.2.1 c c0 c1
  obtain ⟨q0, q1, q2, q3, q4⟩ := ht.2.1.2.2.2.1 c c0 c1
  have hk : kd (tcc c) = kW u c := by unfold kW; omega
  refine c_bearingOf hd ((rm45 ch kd).2.1 c c0 c5).2 (ht.2.2 c c0 c5) ⟨by omega, by omega, by omega, by omega, by omega, by omega⟩ o1 o2 hI ?_
  rw [hk, k1, k2, k4]
  exact hQ
theorem g_putT {d : Nat} {I : Nat → Int → Int} {ch : Int → Nat} {kd : Nat → Nat} {Q : Option jV → jS → Prop} {u : Int → Int} (hI : Rg I) (ht : TRX I kd u) {g c b : Int} (g0 : 0 ≤ g) (g1 : g < u 2) (c0 : 0 ≤ c) (c1 : c < u 1) (ha : u (28 + 4 * g + 2) = 0) (hs : sitW u c = -1000000) (hb : b = bearW u c (u (28 + 4 * g))) (hQ : ∀ I', Rg I' → TRX I' kd (putq u g c) → (∀ (a : Nat) (b : Int), (a < 45 ∨ 55 < a) → I' a b = I a b) → Q none (SX I' ch kd)) : Cl d 89 [vr 45, vi g, vi c, vi b] (SX I ch kd) Q := by
  have w1 := ht.2.1.2.1
  have w2 := ht.2.1.2.2.1
  have hbr := bear_okc (o := u (28 + 4 * g)) (ht.2.1.2.2.2.1 c c0 c1) (ht.2.1.2.2.2.2.1 g g0 g1).1.1 (ht.2.1.2.2.2.2.1 g g0 g1).1.2
  have hbc := (rm45 ch kd).2.2.2 c c0 (by omega)
  subst hb
  refine c_putGuest (rm45 ch kd) hI g0 (by omega) c0 (by omega) (by omega) (by omega) ?_
  exact hQ _ (rg_up (rg_up (rg_up hI (by omega) (by omega)) (by omega) (by omega)) (by omega) (by omega)) ⟨ht.1.puq (rm45 ch kd) ht.2.1 g0 g1 c0 c1 ha hs, putq_ok ht.2.1 g0 g1 c0 c1 hs, ht.2.2⟩ (fun a b q => by rw [upN (by omega), upN (by omega), upN (by omega)])
theorem g_backT {d : Nat} {I : Nat → Int → Int} {ch : Int → Nat} {kd : Nat → Nat} {Q : Option jV → jS → Prop} {u : Int → Int} (hI : Rg I) {g c : Int} (ht : TRX I kd (putq u g c)) (hu : OKW u) (g0 : 0 ≤ g) (g1 : g < u 2) (c0 : 0 ≤ c) (ha : u (28 + 4 * g + 2) = 0) (hd : 1 ≤ d) (hQ : ∀ I', Rg I' → TRX I' kd u → (∀ (a : Nat) (b : Int), (a < 45 ∨ 55 < a) → I' a b = I a b) → Q none (SX I' ch kd)) : Cl d 90 [vr 45, vi g] (SX I ch kd) Q := by
  refine g_lift (rm45 ch kd) hI ht.1 ht.2.1 hd g0 (by rw [putq_o (by omega) (by omega)]; exact g1) (by rw [putq_at, if_pos rfl]; omega) (fun I' hI' hR hO hf => ?_)
  exact hQ I' hI' ⟨hR.back g0 hu.2.1.2 ha, hu, ht.2.2⟩ (fun a b q => hf a b (by omega))
/-- the best so far -/
def BST (I : Nat → Int → Int) (w : Int → Int) (a : bA) : Prop := I 40 7 = a.1 ∧ (a.1 ≠ -1000000 → ∀ b, 0 ≤ b → b < w 2 → I 44 b = a.2 b)
theorem BST.fr {I I' : Nat → Int → Int} {w : Int → Int} {a : bA} (h : BST I w a) (h7 : I' 40 7 = I 40 7) (h44 : ∀ b, I' 44 b = I 44 b) : BST I' w a := ⟨h7.trans h.1, fun n b b0 b1 => (h44 b).trans (h.2 n b b0 b1)⟩

set_option maxHeartbeats 1000000 in
theorem l_weigh {d : Nat} {J : Nat → Int → Int} {ch : Int → Nat} {kdJ : Nat → Nat} {Q : Option jV → jS → Prop} {w : Int → Int} {u : Int → Int} {p : Int} (l2 : u 2 = w 2) (hA : ∀ x, 0 ≤ x → x < w 2 → u (28 + 4 * x + 2) ≠ 0) (hQ : ∀ I' kd', FSx J I' kdJ kd' → TRX I' kd' u → I' 40 7 = p → (∀ b, 0 ≤ b → b < w 2 → I' 44 b = u (28 + 4 * b + 2) - 1) → Q none (SX I' ch kd')) : ∀ (n : Nat) (I : Nat → Int → Int) (kd : Nat → Nat) (i : Nat), NOWX I ch kd w → Rg I → FSx J I kdJ kd → 5 - (i : Int) < n → (i : Int) ≤ 5 → TRX I kd u → (∀ b, 0 ≤ b → b < (i : Int) → b < w 2 → I 44 b = u (28 + 4 * b + 2) - 1) → I 40 7 = p → Ev d 23 24 [some (vr 40), some (vi p), some (vi (i : Int))] [] (SX I ch kd) Q := by
  intro n
  induction n with
  | zero =>
    intro I kd i hN hI F hi hi2 ht hb h7
    exfalso; omega
  | succ n ih =>
    intro I kd i hN hI F hi hi2 ht hb h7
    obtain ⟨⟨wa0, wa1⟩, ⟨wb0, wb1⟩, ⟨wc0, wc1⟩, wC, wG, wU⟩ := hN.2.2.1
    refine ev_s1 (L' := [some (vr 40), some (vi p), some (vi (i : Int))]) (S' := [vi (i : Int)]) k23_24 rfl rfl ?_
    refine ev_s1 (L' := [some (vr 40), some (vi p), some (vi (i : Int))]) (S' := [vi 5, vi (i : Int)]) k23_25 rfl rfl ?_
    refine ev_c_ge (t := 50) k23_26 rfl (by omega) (by omega) (by omega) (by omega) (fun h1 => ?_) (fun h1 => ?_)
    · refine ev_return k23_50 ?_
      exact hQ _ _ F ht h7 (fun b b0 b1 => hb b b0 (by omega) b1)
    · refine ev_s1 (L' := [some (vr 40), some (vi p), some (vi (i : Int))]) (S' := [vr 40]) k23_29 rfl rfl ?_
      refine ev_getR k23_30 (by decide) (rfl) (x_40_6 ch kd) ?_
      refine ev_s1 (L' := [some (vr 40), some (vi p), some (vi (i : Int))]) (S' := [vi (i : Int), vr 44]) k23_33 rfl rfl ?_
      refine ev_s1 (L' := [some (vr 40), some (vi p), some (vi (i : Int))]) (S' := [vr 40, vi (i : Int), vr 44]) k23_34 rfl rfl ?_
      refine ev_getR k23_35 (by decide) (rfl) (x_40_1 ch kd) ?_
      refine ev_getR k23_38 (by decide) (rfl) (x_45_4 ch kd) ?_
      refine ev_s1 (L' := [some (vr 40), some (vi p), some (vi (i : Int))]) (S' := [vi (i : Int), vr 49, vi (i : Int), vr 44]) k23_41 rfl rfl ?_
      refine ev_iald k23_42 (by decide) (rfl) (by omega) (by omega) ?_
      have rr2 := hI 49 (i : Int)
      refine ev_iast k23_43 (by decide) (rfl) (by omega) (by omega) ?_
      show Ev d 23 44 [some (vr 40), some (vi p), some (vi (i : Int))] [] (SX (up I 44 (i : Int) (I 49 (i : Int))) ch kd) Q
      have hI3 := rg_up hI (k := 44) (j := (i : Int)) (z := I 49 (i : Int)) (by omega) (by omega)
      generalize hE3 : up I 44 (i : Int) (I 49 (i : Int)) = I3 at hI3 ⊢
      have g3 : ∀ (a : Nat) (b : Int), (a ≠ 44 ∨ b ≠ (i : Int)) → I3 a b = I a b := fun a b h => by rw [← hE3]; exact upN h
      have e3 : I3 44 (i : Int) = I 49 (i : Int) := by rw [← hE3]; exact upE rfl rfl
      clear hE3
      have fx3 : FSx I I3 kd kd := ⟨hI3, fun a b q => g3 a b (by omega), fun _ _ => rfl⟩
      have hN3 := hN.fs fx3
      have F3 := F.trans fx3
      refine ev_s1 (L' := [some (vr 40), some (vi p), some (vi ((i : Int) + 1))]) (S' := []) k23_44 rfl rfl ?_
      refine ev_goto (t := 24) k23_47 rfl ?_
      refine ih I3 kd (i + 1) hN3 hI3 F3 (by omega) (by omega) (ht.fr (fun a b q1 q2 => g3 a b (Or.inl (by omega)))) (fun b b0 b1 b2 => ?_) ((g3 40 7 (Or.inl (by decide))).trans h7)
      by_cases q : b = (i : Int)
      · rw [q, e3]
        have := (ht.1.2.2.2.2 (i : Int) (by omega) (by omega)).2.2.1
        rw [if_neg (hA (i : Int) (by omega) (by omega))] at this
        exact this
      · rw [g3 _ _ (Or.inr q)]
        exact hb b b0 (by omega) b2

set_option maxHeartbeats 1000000 in
theorem g_weigh {d : Nat} {I : Nat → Int → Int} {ch : Int → Nat} {kd : Nat → Nat} {Q : Option jV → jS → Prop} {w : Int → Int} (hN : NOWX I ch kd w) (hI : Rg I) {u : Int → Int} (l2 : u 2 = w 2) (hA : ∀ x, 0 ≤ x → x < w 2 → u (28 + 4 * x + 2) ≠ 0) {a : bA} (ht : TRX I kd u) (hB : BST I w a) (hd : 3 ≤ d) (hQ : ∀ I' kd', FSx I I' kd kd' → TRX I' kd' u → BST I' w (weiW u a) → Q none (SX I' ch kd')) : Cl d 23 [vr 40] (SX I ch kd) Q := by
  obtain ⟨⟨wa0, wa1⟩, ⟨wb0, wb1⟩, ⟨wc0, wc1⟩, wC, wG, wU⟩ := hN.2.2.1
  refine ⟨by rw [l23]; exact Nat.le_of_ble_eq_true rfl, ?_⟩
  rw [l23]
  show Ev d 23 0 [some (vr 40), none, none] [] (SX I ch kd) Q
  refine ev_s1 (L' := [some (vr 40), none, none]) (S' := [vr 40]) k23_0 rfl rfl ?_
  refine ev_getR k23_1 (by decide) (rfl) (x_40_1 ch kd) ?_
  refine ev_virt (a := []) (S' := []) k23_4 rfl (Nat.le_of_ble_eq_true rfl) (by decide) (rfl) (by omega) ?_
  refine g_peace (rm45 ch kd) hI ht.1 ht.2.1 (by omega) (?_)
  have pr4 := pe_rng ht.2.1
  show Ev d 23 7 [some (vr 40), none, none] [vi (peW u)] (SX I ch kd) Q
  refine ev_s1 (L' := [some (vr 40), some (vi (peW u)), none]) (S' := []) k23_7 rfl rfl ?_
  refine ev_s1 (L' := [some (vr 40), some (vi (peW u)), none]) (S' := [vi (peW u)]) k23_8 rfl rfl ?_
  refine ev_s1 (L' := [some (vr 40), some (vi (peW u)), none]) (S' := [vr 40, vi (peW u)]) k23_9 rfl rfl ?_
  refine ev_getI k23_10 (by decide) (rfl) ?_
  show Ev d 23 13 [some (vr 40), some (vi (peW u)), none] [vi (I 40 7), vi (peW u)] (SX I ch kd) Q
  have rr1 := hI 40 7
  rw [hB.1]
  rw [hB.1] at rr1
  refine ev_c_gt (t := 17) k23_13 rfl (by omega) (by omega) (by omega) (by omega) (fun h2 => ?_) (fun h2 => ?_)
  · refine ev_s1 (L' := [some (vr 40), some (vi (peW u)), none]) (S' := [vr 40]) k23_17 rfl rfl ?_
    refine ev_s1 (L' := [some (vr 40), some (vi (peW u)), none]) (S' := [vi (peW u), vr 40]) k23_18 rfl rfl ?_
    refine ev_putI k23_19 (by decide) (rfl) ?_
    show Ev d 23 22 [some (vr 40), some (vi (peW u)), none] [] (SX (up I 40 7 (peW u)) ch kd) Q
    have hI3 := rg_up hI (k := 40) (j := 7) (z := peW u) (by omega) (by omega)
    generalize hE3 : up I 40 7 (peW u) = I3 at hI3 ⊢
    have g3 : ∀ (a : Nat) (b : Int), (a ≠ 40 ∨ b ≠ 7) → I3 a b = I a b := fun a b h => by rw [← hE3]; exact upN h
    have e3 : I3 40 7 = peW u := by rw [← hE3]; exact upE rfl rfl
    clear hE3
    have fx3 : FSx I I3 kd kd := ⟨hI3, fun a b q => g3 a b (by omega), fun _ _ => rfl⟩
    have hN3 := hN.fs fx3
    have F3 := fx3
    refine ev_s1 (L' := [some (vr 40), some (vi (peW u)), none]) (S' := [vi 0]) k23_22 rfl rfl ?_
    refine ev_s1 (L' := [some (vr 40), some (vi (peW u)), some (vi 0)]) (S' := []) k23_23 rfl rfl ?_
    refine l_weigh (J := I) (kdJ := kd) (p := peW u) l2 hA (fun I' kd' F' t' h7' hb' => ?_) 6 I3 kd 0 hN3 hI3 F3 (by omega) (by omega) (ht.fr (fun a b q1 q2 => g3 a b (Or.inl (by omega)))) (fun b b0 b1 => absurd b1 (by omega)) e3
    refine hQ I' kd' F' t' ?_
    unfold weiW
    rw [if_pos (by omega)]
    refine ⟨h7', fun _ b b0 b1 => ?_⟩
    rw [hb' b b0 b1]
    show _ = if _ then _ else _
    rw [if_pos ⟨b0, by omega⟩]
  · refine ev_return k23_16 ?_
    exact hQ _ _ (FSx.refl hI) ht (by unfold weiW; rw [if_neg (by omega)]; exact hB)

def SFR (w : Int → Int) (ch : Int → Nat) (m : Nat) (g : Int) (d : Nat) : Prop := ∀ (I : Nat → Int → Int) (kd : Nat → Nat) (u : Int → Int) (a : bA) (Q : Option jV → jS → Prop), NOWX I ch kd w → Rg I → TRX I kd u → u 1 = w 1 → u 2 = w 2 → (∀ x, g ≤ x → x < w 2 → u (28 + 4 * x + 2) = w (28 + 4 * x + 2)) → (∀ x, 0 ≤ x → x < g → u (28 + 4 * x + 2) ≠ 0) → BST I w a → (∀ I' kd', FSx I I' kd kd' → TRX I' kd' u → BST I' w (nst w putq m g u a) → Q none (SX I' ch kd')) → Cl d 22 [vr 40, vi g] (SX I ch kd) Q
theorem fol_0 {f : Int → bA → bA} {a : bA} (h : ∀ (j : Nat) (a : bA), 1 ≤ j → f (j : Int) a = a) : ∀ n : Nat, folC f (n + 1) a = f 0 a := by
  intro n
  induction n with
  | zero => rfl
  | succ n ih =>
    rw [folC, ih, h (n + 1) _ (by omega)]
theorem nst_seated {w v : Int → Int} {st : (Int → Int) → Int → Int → Int → Int} {m : Nat} {g : Int} {a : bA} (h : w (28 + 4 * g + 2) ≠ 0) (h1 : 0 < w 1) : nst w st (m + 1) g v a = nst w st m (g + 1) v a := by
  rw [nst]
  obtain ⟨k, hk⟩ : ∃ k, (w 1).toNat = k + 1 := ⟨(w 1).toNat - 1, by omega⟩
  rw [hk, fol_0 (fun j a hj => ?_)]
  · rw [if_pos (show okS w v g 0 = true by unfold okS; rw [if_neg h]; rfl), if_neg h]
  · rw [if_neg (show ¬ okS w v g (j : Int) = true by unfold okS; rw [if_neg h]; simp only [decide_eq_true_eq]; omega)]

set_option maxHeartbeats 1000000 in
theorem sfr_z {w : Int → Int} {ch : Int → Nat} {g : Int} {d : Nat} (hg : g = w 2) (hd : 5 ≤ d) : SFR w ch 0 g d := by
  intro I kd u a Q hN hI ht u1 u2 hx hL hB hQ
  obtain ⟨⟨wa0, wa1⟩, ⟨wb0, wb1⟩, ⟨wc0, wc1⟩, wC, wG, wU⟩ := hN.2.2.1
  refine ⟨by rw [l22]; exact Nat.le_of_ble_eq_true rfl, ?_⟩
  rw [l22]
  show Ev d 22 0 [some (vr 40), some (vi g), none] [] (SX I ch kd) Q
  refine ev_s1 (L' := [some (vr 40), some (vi g), none]) (S' := [vi g]) k22_0 rfl rfl ?_
  refine ev_s1 (L' := [some (vr 40), some (vi g), none]) (S' := [vr 40, vi g]) k22_1 rfl rfl ?_
  refine ev_getR k22_2 (by decide) (rfl) (x_40_0 ch kd) ?_
  refine ev_getI k22_5 (by decide) (rfl) ?_
  show Ev d 22 8 [some (vr 40), some (vi g), none] [vi (I 13 7), vi g] (SX I ch kd) Q
  have rr1 := hI 13 7
  rw [hN.2.1.2.1]
  rw [hN.2.1.2.1] at rr1
  refine ev_c_ge (t := 16) k22_8 rfl (by omega) (by omega) (by omega) (by omega) (fun h2 => ?_) (fun h2 => ?_)
  · refine ev_s1 (L' := [some (vr 40), some (vi g), none]) (S' := [vr 40]) k22_16 rfl rfl ?_
    refine ev_virt (a := []) (S' := []) k22_17 rfl (Nat.le_of_ble_eq_true rfl) (by decide) (rfl) (by omega) ?_
    refine g_weigh hN hI u2 (fun x x0 x1 => hL x x0 (by omega)) ht hB (by omega) (fun I3 kd3 fx3 t3 b3 => ?_)
    have hI3 := fx3.1
    have hN3 := hN.fs fx3
    show Ev d 22 20 [some (vr 40), some (vi g), none] [] (SX I3 ch kd3) Q
    refine ev_return k22_20 ?_
    exact hQ _ _ fx3 t3 b3
  · exfalso; omega

set_option maxHeartbeats 1000000 in
theorem l_sfr {d : Nat} {J : Nat → Int → Int} {ch : Int → Nat} {kdJ : Nat → Nat} {Q : Option jV → jS → Prop} {w : Int → Int} {u : Int → Int} {a : bA} {g : Int} {m : Nat} (hw1 : 0 < w 1) (u1 : u 1 = w 1) (u2 : u 2 = w 2) (hx : ∀ x, g ≤ x → x < w 2 → u (28 + 4 * x + 2) = w (28 + 4 * x + 2)) (hL : ∀ x, 0 ≤ x → x < g → u (28 + 4 * x + 2) ≠ 0) (g0 : 0 ≤ g) (gm : g + m + 1 = w 2) (hz : w (28 + 4 * g + 2) = 0) (hd : 5 ≤ d) (hrec : SFR w ch m (g + 1) (d - 1)) (hQ : ∀ I' kd', FSx J I' kdJ kd' → TRX I' kd' u → BST I' w (folC (fun c a => if okS w u g c then nst w putq m (g + 1) (if w (28 + 4 * g + 2) = 0 then putq u g c else u) a else a) (w 1).toNat a) → Q none (SX I' ch kd')) : ∀ (n : Nat) (I : Nat → Int → Int) (kd : Nat → Nat) (i : Nat), NOWX I ch kd w → Rg I → FSx J I kdJ kd → w 1 - i < n → (i : Int) ≤ w 1 → TRX I kd u → BST I w (folC (fun c a => if okS w u g c then nst w putq m (g + 1) (if w (28 + 4 * g + 2) = 0 then putq u g c else u) a else a) i a) → Ev d 22 42 [some (vr 40), some (vi g), some (vi (i : Int))] [] (SX I ch kd) Q := by
  intro n
  induction n with
  | zero =>
    intro I kd i hN hI F hi hi2 ht hB
    exfalso; omega
  | succ n ih =>
    intro I kd i hN hI F hi hi2 ht hB
    obtain ⟨⟨wa0, wa1⟩, ⟨wb0, wb1⟩, ⟨wc0, wc1⟩, wC, wG, wU⟩ := hN.2.2.1
    have hz2 : u (28 + 4 * g + 2) = 0 := (hx g (by omega) (by omega)).trans hz
    have go := ht.2.1.2.2.2.2.1 g g0 (by omega)
    have go1 := go.1
    refine ev_s1 (L' := [some (vr 40), some (vi g), some (vi (i : Int))]) (S' := [vi (i : Int)]) k22_42 rfl rfl ?_
    refine ev_s1 (L' := [some (vr 40), some (vi g), some (vi (i : Int))]) (S' := [vr 40, vi (i : Int)]) k22_43 rfl rfl ?_
    refine ev_getR k22_44 (by decide) (rfl) (x_40_0 ch kd) ?_
    refine ev_getI k22_47 (by decide) (rfl) ?_
    show Ev d 22 50 [some (vr 40), some (vi g), some (vi (i : Int))] [vi (I 13 6), vi (i : Int)] (SX I ch kd) Q
    have rr1 := hI 13 6
    rw [hN.2.1.1]
    rw [hN.2.1.1] at rr1
    refine ev_c_ge (t := 115) k22_50 rfl (by omega) (by omega) (by omega) (by omega) (fun h2 => ?_) (fun h2 => ?_)
    · refine ev_return k22_115 ?_
      rw [show (w 1).toNat = i by omega] at hQ
      exact hQ _ _ F ht hB
    · refine ev_s1 (L' := [some (vr 40), some (vi g), some (vi (i : Int))]) (S' := [vr 40]) k22_53 rfl rfl ?_
      refine ev_getR k22_54 (by decide) (rfl) (x_40_1 ch kd) ?_
      refine ev_s1 (L' := [some (vr 40), some (vi g), some (vi (i : Int))]) (S' := [vi (i : Int), vr 45]) k22_57 rfl rfl ?_
      refine ev_virt (a := [vi (i : Int)]) (S' := []) k22_58 rfl (Nat.le_of_ble_eq_true rfl) (by decide) (rfl) (by omega) ?_
      refine g_taken (rm45 ch kd) hI ht.1 ht.2.1 (c := (i : Int)) (by omega) (by omega) (fun htk => ?_) (fun htk => ?_)
      · show Ev d 22 61 [some (vr 40), some (vi g), some (vi (i : Int))] [vi 1] (SX I ch kd) Q
        refine ev_z_ne (t := 109) k22_61 rfl (by omega) (by omega) (fun _ => ?_) (fun h => absurd h (by decide))
        refine ev_s1 (L' := [some (vr 40), some (vi g), some (vi ((i : Int) + 1))]) (S' := []) k22_109 rfl rfl ?_
        refine ev_goto (t := 42) k22_112 rfl ?_
        refine ih I kd (i + 1) hN hI F (by omega) (by omega) ht ?_
        rw [folC, if_neg (show ¬ okS w u g (i : Int) = true by unfold okS; rw [if_pos hz]; simp only [decide_eq_true_eq]; exact htk)]
        exact hB
      · show Ev d 22 61 [some (vr 40), some (vi g), some (vi (i : Int))] [vi 0] (SX I ch kd) Q
        refine ev_z_ne (t := 109) k22_61 rfl (by omega) (by omega) (fun h => absurd h (by decide)) (fun _ => ?_)
        refine ev_s1 (L' := [some (vr 40), some (vi g), some (vi (i : Int))]) (S' := [vr 40]) k22_64 rfl rfl ?_
        refine ev_getR k22_65 (by decide) (rfl) (x_40_1 ch kd) ?_
        refine ev_s1 (L' := [some (vr 40), some (vi g), some (vi (i : Int))]) (S' := [vi g, vr 45]) k22_68 rfl rfl ?_
        refine ev_s1 (L' := [some (vr 40), some (vi g), some (vi (i : Int))]) (S' := [vi (i : Int), vi g, vr 45]) k22_69 rfl rfl ?_
        refine ev_s1 (L' := [some (vr 40), some (vi g), some (vi (i : Int))]) (S' := [vr 40, vi (i : Int), vi g, vr 45]) k22_70 rfl rfl ?_
        refine ev_getR k22_71 (by decide) (rfl) (x_40_1 ch kd) ?_
        refine ev_getR k22_74 (by decide) (rfl) (x_45_1 ch kd) ?_
        refine ev_s1 (L' := [some (vr 40), some (vi g), some (vi (i : Int))]) (S' := [vi (i : Int), vr 46, vi (i : Int), vi g, vr 45]) k22_77 rfl rfl ?_
        have hc3 := (rm45 ch kd).2.1 (i : Int) (by omega) (by omega)
        have hl3 := (shp_c hc3.2).1
        have hb3 := (rm45 ch kd).2.2.2 (i : Int) (by omega) (by omega)
        refine ev_aald (q := tcc (i : Int)) k22_78 (by decide) (rfl) (by decide) (by decide) (by omega) (by omega) (hc3.1) ?_
        refine ev_s1 (L' := [some (vr 40), some (vi g), some (vi (i : Int))]) (S' := [vr 40, vr (tcc (i : Int)), vi (i : Int), vi g, vr 45]) k22_79 rfl rfl ?_
        refine ev_getR k22_80 (by decide) (rfl) (x_40_1 ch kd) ?_
        refine ev_getR k22_83 (by decide) (rfl) (x_45_2 ch kd) ?_
        refine ev_s1 (L' := [some (vr 40), some (vi g), some (vi (i : Int))]) (S' := [vi g, vr 47, vr (tcc (i : Int)), vi (i : Int), vi g, vr 45]) k22_86 rfl rfl ?_
        refine ev_iald k22_87 (by decide) (rfl) (by omega) (by omega) ?_
        have rr4 := hI 47 g
        rw [(ht.1.2.2.2.2 g (by omega) (by omega)).1]
        rw [(ht.1.2.2.2.2 g (by omega) (by omega)).1] at rr4
        refine ev_virt (a := [vi (u (28 + 4 * g))]) (S' := [vi (i : Int), vi g, vr 45]) k22_88 rfl (Nat.le_of_ble_eq_true rfl) (by omega) ((shp_c hc3.2).2) (by omega) ?_
        refine g_bofT hI ht (c := (i : Int)) (o := u (28 + 4 * g)) (by omega) (by omega) (by omega) (by omega) (by omega) (?_)
        show Ev d 22 91 [some (vr 40), some (vi g), some (vi (i : Int))] [vi (bearW u (i : Int) (u (28 + 4 * g))), vi (i : Int), vi g, vr 45] (SX I ch kd) Q
        refine ev_virt (a := [vi g, vi (i : Int), vi (bearW u (i : Int) (u (28 + 4 * g)))]) (S' := []) k22_91 rfl (Nat.le_of_ble_eq_true rfl) (by decide) (rfl) (by omega) ?_
        refine g_putT hI ht (g := g) (c := (i : Int)) (by omega) (by omega) (by omega) (by omega) hz2 htk rfl (fun I5 hI5 t5 f5 => ?_)
        have fx5 : FSx I I5 kd kd := ⟨hI5, fun a b q => f5 a b (by omega), fun _ _ => rfl⟩
        have hN5 := hN.fs fx5
        have F5 := F.trans fx5
        have b5 := hB.fr (f5 40 7 (by omega)) (fun b => f5 44 b (by omega))
        show Ev d 22 94 [some (vr 40), some (vi g), some (vi (i : Int))] [] (SX I5 ch kd) Q
        refine ev_s1 (L' := [some (vr 40), some (vi g), some (vi (i : Int))]) (S' := [vr 40]) k22_94 rfl rfl ?_
        refine ev_s1 (L' := [some (vr 40), some (vi g), some (vi (i : Int))]) (S' := [vi g, vr 40]) k22_95 rfl rfl ?_
        refine ev_s1 (L' := [some (vr 40), some (vi g), some (vi (i : Int))]) (S' := [vi 1, vi g, vr 40]) k22_96 rfl rfl ?_
        refine ev_s1 (L' := [some (vr 40), some (vi g), some (vi (i : Int))]) (S' := [vi (g + 1), vr 40]) k22_97 rfl rfl ?_
        refine ev_virt (a := [vi (g + 1)]) (S' := []) k22_98 rfl (Nat.le_of_ble_eq_true rfl) (by decide) (rfl) (by omega) ?_
        refine hrec _ _ (putq u g (i : Int)) _ _ hN5 hI5 t5 (by rw [putq_o (by omega) (by omega)]; exact u1) (by rw [putq_o (by omega) (by omega)]; exact u2) (fun x x0 x1 => by rw [putq_at, if_neg (by omega)]; exact hx x (by omega) x1) (fun x x0 x1 => by rw [putq_at]; split; (omega); (exact hL x x0 (by omega))) b5 (fun I6 kd6 fx6 t6 b6 => ?_)
        have hI6 := fx6.1
        have hN6 := hN5.fs fx6
        have F6 := F5.trans fx6
        show Ev d 22 101 [some (vr 40), some (vi g), some (vi (i : Int))] [] (SX I6 ch kd6) Q
        refine ev_s1 (L' := [some (vr 40), some (vi g), some (vi (i : Int))]) (S' := [vr 40]) k22_101 rfl rfl ?_
        refine ev_getR k22_102 (by decide) (rfl) (x_40_1 ch kd6) ?_
        refine ev_s1 (L' := [some (vr 40), some (vi g), some (vi (i : Int))]) (S' := [vi g, vr 45]) k22_105 rfl rfl ?_
        refine ev_virt (a := [vi g]) (S' := []) k22_106 rfl (Nat.le_of_ble_eq_true rfl) (by decide) (rfl) (by omega) ?_
        refine g_backT hI6 t6 ht.2.1 g0 (by omega) (by omega) hz2 (by omega) (fun I7 hI7 t7 f7 => ?_)
        have fx7 : FSx I6 I7 kd6 kd6 := ⟨hI7, fun a b q => f7 a b (by omega), fun _ _ => rfl⟩
        have hN7 := hN6.fs fx7
        have F7 := F6.trans fx7
        have b7 := b6.fr (f7 40 7 (by omega)) (fun b => f7 44 b (by omega))
        show Ev d 22 109 [some (vr 40), some (vi g), some (vi (i : Int))] [] (SX I7 ch kd6) Q
        refine ev_s1 (L' := [some (vr 40), some (vi g), some (vi ((i : Int) + 1))]) (S' := []) k22_109 rfl rfl ?_
        refine ev_goto (t := 42) k22_112 rfl ?_
        refine ih I7 kd6 (i + 1) hN7 hI7 F7 (by omega) (by omega) t7 ?_
        rw [folC, if_pos (show okS w u g (i : Int) = true by unfold okS; rw [if_pos hz]; exact decide_eq_true htk), if_pos hz]
        exact b7

set_option maxHeartbeats 1000000 in
theorem sfr_s {w : Int → Int} {ch : Int → Nat} {m : Nat} {g : Int} {d : Nat} (hw1 : 0 < w 1) (g0 : 0 ≤ g) (gm : g + m + 1 = w 2) (hd : 5 ≤ d) (hrec : SFR w ch m (g + 1) (d - 1)) : SFR w ch (m + 1) g d := by
  intro I kd u a Q hN hI ht u1 u2 hx hL hB hQ
  obtain ⟨⟨wa0, wa1⟩, ⟨wb0, wb1⟩, ⟨wc0, wc1⟩, wC, wG, wU⟩ := hN.2.2.1
  refine ⟨by rw [l22]; exact Nat.le_of_ble_eq_true rfl, ?_⟩
  rw [l22]
  show Ev d 22 0 [some (vr 40), some (vi g), none] [] (SX I ch kd) Q
  refine ev_s1 (L' := [some (vr 40), some (vi g), none]) (S' := [vi g]) k22_0 rfl rfl ?_
  refine ev_s1 (L' := [some (vr 40), some (vi g), none]) (S' := [vr 40, vi g]) k22_1 rfl rfl ?_
  refine ev_getR k22_2 (by decide) (rfl) (x_40_0 ch kd) ?_
  refine ev_getI k22_5 (by decide) (rfl) ?_
  show Ev d 22 8 [some (vr 40), some (vi g), none] [vi (I 13 7), vi g] (SX I ch kd) Q
  have rr1 := hI 13 7
  rw [hN.2.1.2.1]
  rw [hN.2.1.2.1] at rr1
  refine ev_c_ge (t := 16) k22_8 rfl (by omega) (by omega) (by omega) (by omega) (fun h2 => ?_) (fun h2 => ?_)
  · exfalso; omega
  · refine ev_s1 (L' := [some (vr 40), some (vi g), none]) (S' := [vi g]) k22_11 rfl rfl ?_
    refine ev_s1 (L' := [some (vr 40), some (vi g), none]) (S' := [vi 5, vi g]) k22_12 rfl rfl ?_
    refine ev_c_lt (t := 21) k22_13 rfl (by omega) (by omega) (by omega) (by omega) (fun h3 => ?_) (fun h3 => ?_)
    · refine ev_s1 (L' := [some (vr 40), some (vi g), none]) (S' := [vr 40]) k22_21 rfl rfl ?_
      refine ev_getR k22_22 (by decide) (rfl) (x_40_0 ch kd) ?_
      refine ev_s1 (L' := [some (vr 40), some (vi g), none]) (S' := [vi g, vr 13]) k22_25 rfl rfl ?_
      refine ev_virt (a := [vi g]) (S' := []) k22_26 rfl (Nat.le_of_ble_eq_true rfl) (by decide) (rfl) (by omega) ?_
      refine g_seated hN.1 hI hN.2.1 hN.2.2.1 (g := g) (by omega) (by omega) (fun hse => ?_) (fun hse => ?_)
      · show Ev d 22 29 [some (vr 40), some (vi g), none] [vi 1] (SX I ch kd) Q
        refine ev_z_eq (t := 40) k22_29 rfl (by omega) (by omega) (fun h => absurd h (by decide)) (fun _ => ?_)
        refine ev_s1 (L' := [some (vr 40), some (vi g), none]) (S' := [vr 40]) k22_32 rfl rfl ?_
        refine ev_s1 (L' := [some (vr 40), some (vi g), none]) (S' := [vi g, vr 40]) k22_33 rfl rfl ?_
        refine ev_s1 (L' := [some (vr 40), some (vi g), none]) (S' := [vi 1, vi g, vr 40]) k22_34 rfl rfl ?_
        refine ev_s1 (L' := [some (vr 40), some (vi g), none]) (S' := [vi (g + 1), vr 40]) k22_35 rfl rfl ?_
        refine ev_virt (a := [vi (g + 1)]) (S' := []) k22_36 rfl (Nat.le_of_ble_eq_true rfl) (by decide) (rfl) (by omega) ?_
        refine hrec _ _ u _ _ hN hI ht u1 u2 (fun x x0 x1 => hx x (by omega) x1) (fun x x0 x1 => by by_cases q : x = g; (rw [q, hx g (by omega) (by omega)]; exact hse); (exact hL x x0 (by omega))) hB (fun I4 kd4 fx4 t4 b4 => ?_)
        have hI4 := fx4.1
        have hN4 := hN.fs fx4
        show Ev d 22 39 [some (vr 40), some (vi g), none] [] (SX I4 ch kd4) Q
        refine ev_return k22_39 ?_
        rw [nst_seated hse hw1] at hQ
        exact hQ _ _ fx4 t4 b4
      · show Ev d 22 29 [some (vr 40), some (vi g), none] [vi 0] (SX I ch kd) Q
        refine ev_z_eq (t := 40) k22_29 rfl (by omega) (by omega) (fun _ => ?_) (fun h => absurd h (by decide))
        refine ev_s1 (L' := [some (vr 40), some (vi g), none]) (S' := [vi 0]) k22_40 rfl rfl ?_
        refine ev_s1 (L' := [some (vr 40), some (vi g), some (vi 0)]) (S' := []) k22_41 rfl rfl ?_
        exact l_sfr (J := I) (kdJ := kd) (m := m) hw1 u1 u2 hx hL g0 gm hse hd hrec hQ 6 I kd 0 hN hI (FSx.refl hI) (by omega) (by omega) ht hB
    · exfalso; omega

theorem sfr_all {w : Int → Int} {ch : Int → Nat} (hw1 : 0 < w 1) : ∀ (m : Nat) (g : Int) (d : Nat), 0 ≤ g → g + m = w 2 → m + 5 ≤ d → SFR w ch m g d := by
  intro m
  induction m with
  | zero => intro g d g0 gm hd; exact sfr_z (by omega) (by omega)
  | succ m ih => intro g d g0 gm hd; exact sfr_s hw1 g0 (by omega) (by omega) (ih (g + 1) (d - 1) (by omega) (by omega) (by omega))
theorem bitC_rng (x : Int) : 0 ≤ bitC x ∧ bitC x ≤ 5 := by
  unfold bitC
  omega

set_option maxHeartbeats 1000000 in
theorem g_best {d : Nat} {I : Nat → Int → Int} {ch : Int → Nat} {kd : Nat → Nat} {Q : Option jV → jS → Prop} {w : Int → Int} (hN : NOWX I ch kd w) (hI : Rg I) {k : Int} (k0 : -1 ≤ k) (k5 : k < 5) (h0 : 0 < w 1) (hd : 11 ≤ d) (hQ : ∀ I' kd', FSx I I' kd kd' → Q (some (vi (seaA w k))) (SX I' ch kd')) : Cl d 21 [vr 40, vi k] (SX I ch kd) Q := by
  obtain ⟨⟨wa0, wa1⟩, ⟨wb0, wb1⟩, ⟨wc0, wc1⟩, wC, wG, wU⟩ := hN.2.2.1
  refine ⟨by rw [l21]; exact Nat.le_of_ble_eq_true rfl, ?_⟩
  rw [l21]
  show Ev d 21 0 [some (vr 40), some (vi k), none, none] [] (SX I ch kd) Q
  refine ev_s1 (L' := [some (vr 40), some (vi k), none, none]) (S' := [vr 40]) k21_0 rfl rfl ?_
  refine ev_getR k21_1 (by decide) (rfl) (x_40_0 ch kd) ?_
  refine ev_getI k21_4 (by decide) (rfl) ?_
  show Ev d 21 7 [some (vr 40), some (vi k), none, none] [vi (I 13 7)] (SX I ch kd) Q
  have rr1 := hI 13 7
  rw [hN.2.1.2.1]
  rw [hN.2.1.2.1] at rr1
  refine ev_s1 (L' := [some (vr 40), some (vi k), none, none]) (S' := [vr 40, vi (w 2)]) k21_7 rfl rfl ?_
  refine ev_getR k21_8 (by decide) (rfl) (x_40_0 ch kd) ?_
  refine ev_virt (a := []) (S' := [vi (w 2)]) k21_11 rfl (Nat.le_of_ble_eq_true rfl) (by decide) (rfl) (by omega) ?_
  refine g_seas hN.1 hI hN.2.1 hN.2.2.1 (by omega) (?_)
  have br11 : 0 ≤ seaW w ∧ seaW w < 32 := by
    have h1 := bits_rng (fun g => decide (w (28 + 4 * g + 2) ≠ 0)) (w 2).toNat
    have h2 := Nat.pow_le_pow_right (n := 2) (by decide) (show (w 2).toNat ≤ 5 by omega)
    unfold seaW
    omega
  have bc11 := bitC_rng (seaW w)
  show Ev d 21 14 [some (vr 40), some (vi k), none, none] [vi (seaW w), vi (w 2)] (SX I ch kd) Q
  refine ev_bit k21_14 (by omega) (by omega) (Nat.le_of_ble_eq_true rfl) ?_
  refine ev_s1 (L' := [some (vr 40), some (vi k), none, none]) (S' := [vi ((w 2) - (bitC (seaW w)))]) k21_17 rfl rfl ?_
  refine ev_s1 (L' := [some (vr 40), some (vi k), some (vi ((w 2) - (bitC (seaW w)))), none]) (S' := []) k21_18 rfl rfl ?_
  refine ev_s1 (L' := [some (vr 40), some (vi k), some (vi ((w 2) - (bitC (seaW w)))), none]) (S' := [vr 40]) k21_19 rfl rfl ?_
  refine ev_getR k21_20 (by decide) (rfl) (x_40_0 ch kd) ?_
  refine ev_getI k21_23 (by decide) (rfl) ?_
  show Ev d 21 26 [some (vr 40), some (vi k), some (vi ((w 2) - (bitC (seaW w)))), none] [vi (I 13 6)] (SX I ch kd) Q
  have rr2 := hI 13 6
  rw [hN.2.1.1]
  rw [hN.2.1.1] at rr2
  refine ev_s1 (L' := [some (vr 40), some (vi k), some (vi ((w 2) - (bitC (seaW w)))), none]) (S' := [vr 40, vi (w 1)]) k21_26 rfl rfl ?_
  refine ev_getR k21_27 (by decide) (rfl) (x_40_0 ch kd) ?_
  refine ev_virt (a := []) (S' := [vi (w 1)]) k21_30 rfl (Nat.le_of_ble_eq_true rfl) (by decide) (rfl) (by omega) ?_
  refine g_taks hN.1 hI hN.2.1 hN.2.2.1 (by omega) (?_)
  have br30 : 0 ≤ takW w ∧ takW w < 32 := by
    have h1 := bits_rng (fun c => decide (sitW w c ≠ -1000000)) (w 1).toNat
    have h2 := Nat.pow_le_pow_right (n := 2) (by decide) (show (w 1).toNat ≤ 5 by omega)
    unfold takW
    omega
  have bc30 := bitC_rng (takW w)
  show Ev d 21 33 [some (vr 40), some (vi k), some (vi ((w 2) - (bitC (seaW w)))), none] [vi (takW w), vi (w 1)] (SX I ch kd) Q
  refine ev_bit k21_33 (by omega) (by omega) (Nat.le_of_ble_eq_true rfl) ?_
  refine ev_s1 (L' := [some (vr 40), some (vi k), some (vi ((w 2) - (bitC (seaW w)))), none]) (S' := [vi ((w 1) - (bitC (takW w)))]) k21_36 rfl rfl ?_
  refine ev_s1 (L' := [some (vr 40), some (vi k), some (vi ((w 2) - (bitC (seaW w)))), some (vi ((w 1) - (bitC (takW w))))]) (S' := []) k21_37 rfl rfl ?_
  refine ev_s1 (L' := [some (vr 40), some (vi k), some (vi ((w 2) - (bitC (seaW w)))), some (vi ((w 1) - (bitC (takW w))))]) (S' := [vi ((w 2) - (bitC (seaW w)))]) k21_38 rfl rfl ?_
  refine ev_s1 (L' := [some (vr 40), some (vi k), some (vi ((w 2) - (bitC (seaW w)))), some (vi ((w 1) - (bitC (takW w))))]) (S' := [vi ((w 1) - (bitC (takW w))), vi ((w 2) - (bitC (seaW w)))]) k21_39 rfl rfl ?_
  refine ev_c_gt (t := 54) k21_40 rfl (by omega) (by omega) (by omega) (by omega) (fun h3 => ?_) (fun h3 => ?_)
  · refine ev_ldc k21_54 ?_
    refine ev_ireturn k21_56 ?_
    have es : seaA w k = -1000000 := by
      unfold seaA
      by_cases q : w 1 - bitC (takW w) < w 2 - bitC (seaW w)
      · rw [if_pos (Or.inr (sea_no hN.2.2.1 q))]; exact sea_no hN.2.2.1 q
      · by_cases q2 : k = -1 ∨ (seaR w).1 = -1000000
        · rw [if_pos q2]
          rcases q2 with q2 | q2
          · exfalso; omega
          · exact q2
        · rw [if_neg q2, if_neg (by omega)]
    rw [es] at hQ
    exact hQ _ _ (FSx.refl hI)
  · refine ev_s1 (L' := [some (vr 40), some (vi k), some (vi ((w 2) - (bitC (seaW w)))), some (vi ((w 1) - (bitC (takW w))))]) (S' := [vi k]) k21_43 rfl rfl ?_
    refine ev_s1 (L' := [some (vr 40), some (vi k), some (vi ((w 2) - (bitC (seaW w)))), some (vi ((w 1) - (bitC (takW w))))]) (S' := [vr 40, vi k]) k21_44 rfl rfl ?_
    refine ev_getR k21_45 (by decide) (rfl) (x_40_0 ch kd) ?_
    refine ev_getI k21_48 (by decide) (rfl) ?_
    show Ev d 21 51 [some (vr 40), some (vi k), some (vi ((w 2) - (bitC (seaW w)))), some (vi ((w 1) - (bitC (takW w))))] [vi (I 13 7), vi k] (SX I ch kd) Q
    have rr4 := hI 13 7
    rw [hN.2.1.2.1]
    rw [hN.2.1.2.1] at rr4
    refine ev_c_lt (t := 57) k21_51 rfl (by omega) (by omega) (by omega) (by omega) (fun h5 => ?_) (fun h5 => ?_)
    · refine ev_s1 (L' := [some (vr 40), some (vi k), some (vi ((w 2) - (bitC (seaW w)))), some (vi ((w 1) - (bitC (takW w))))]) (S' := [vr 40]) k21_57 rfl rfl ?_
      refine ev_virt (a := []) (S' := []) k21_58 rfl (Nat.le_of_ble_eq_true rfl) (by decide) (rfl) (by omega) ?_
      refine g_trial hN hI (by omega) (fun I6 kd6 fx6 t6 => ?_)
      have hI6 := fx6.1
      have hN6 := hN.fs fx6
      show Ev d 21 61 [some (vr 40), some (vi k), some (vi ((w 2) - (bitC (seaW w)))), some (vi ((w 1) - (bitC (takW w))))] [] (SX I6 ch kd6) Q
      refine ev_s1 (L' := [some (vr 40), some (vi k), some (vi ((w 2) - (bitC (seaW w)))), some (vi ((w 1) - (bitC (takW w))))]) (S' := [vr 40]) k21_61 rfl rfl ?_
      refine ev_ldc k21_62 ?_
      refine ev_putI k21_64 (by decide) (rfl) ?_
      show Ev d 21 67 [some (vr 40), some (vi k), some (vi ((w 2) - (bitC (seaW w)))), some (vi ((w 1) - (bitC (takW w))))] [] (SX (up I6 40 7 (-1000000)) ch kd6) Q
      have hI7 := rg_up hI6 (k := 40) (j := 7) (z := (-1000000)) (by omega) (by omega)
      generalize hE7 : up I6 40 7 (-1000000) = I7 at hI7 ⊢
      have g7 : ∀ (a : Nat) (b : Int), (a ≠ 40 ∨ b ≠ 7) → I7 a b = I6 a b := fun a b h => by rw [← hE7]; exact upN h
      have e7 : I7 40 7 = (-1000000) := by rw [← hE7]; exact upE rfl rfl
      clear hE7
      have fx7 : FSx I6 I7 kd6 kd6 := ⟨hI7, fun a b q => g7 a b (by omega), fun _ _ => rfl⟩
      have hN7 := hN6.fs fx7
      have F7 := fx6.trans fx7
      have tq := t6.fr (I' := I7) (fun a b q1 q2 => g7 a b (Or.inl (by omega)))
      refine ev_s1 (L' := [some (vr 40), some (vi k), some (vi ((w 2) - (bitC (seaW w)))), some (vi ((w 1) - (bitC (takW w))))]) (S' := [vr 40]) k21_67 rfl rfl ?_
      refine ev_s1 (L' := [some (vr 40), some (vi k), some (vi ((w 2) - (bitC (seaW w)))), some (vi ((w 1) - (bitC (takW w))))]) (S' := [vi 0, vr 40]) k21_68 rfl rfl ?_
      refine ev_virt (a := [vi 0]) (S' := []) k21_69 rfl (Nat.le_of_ble_eq_true rfl) (by decide) (rfl) (by omega) ?_
      refine sfr_all h0 (w 2).toNat 0 _ (by omega) (by omega) (by omega) _ _ w (-1000000, fun _ => 0) _ hN7 hI7 tq rfl rfl (fun _ _ _ => rfl) (fun x x0 x1 => absurd x1 (by omega)) ⟨e7, fun q => absurd rfl q⟩ (fun I8 kd8 fx8 t8 b8 => ?_)
      have hI8 := fx8.1
      have hN8 := hN7.fs fx8
      have F8 := F7.trans fx8
      have hy := sea_yes hN.2.2.1 h0 (show w 2 - bitC (seaW w) ≤ w 1 - bitC (takW w) by omega) (-1000000, fun _ => 0)
      show Ev d 21 72 [some (vr 40), some (vi k), some (vi ((w 2) - (bitC (seaW w)))), some (vi ((w 1) - (bitC (takW w))))] [] (SX I8 ch kd8) Q
      refine ev_s1 (L' := [some (vr 40), some (vi k), some (vi ((w 2) - (bitC (seaW w)))), some (vi ((w 1) - (bitC (takW w))))]) (S' := [vi k]) k21_72 rfl rfl ?_
      refine ev_z_ge (t := 83) k21_73 rfl (by omega) (by omega) (fun h9 => ?_) (fun h9 => ?_)
      · refine ev_s1 (L' := [some (vr 40), some (vi k), some (vi ((w 2) - (bitC (seaW w)))), some (vi ((w 1) - (bitC (takW w))))]) (S' := [vr 40]) k21_83 rfl rfl ?_
        refine ev_getR k21_84 (by decide) (rfl) (x_40_6 ch kd8) ?_
        refine ev_s1 (L' := [some (vr 40), some (vi k), some (vi ((w 2) - (bitC (seaW w)))), some (vi ((w 1) - (bitC (takW w))))]) (S' := [vi k, vr 44]) k21_87 rfl rfl ?_
        refine ev_iald k21_88 (by decide) (rfl) (by omega) (by omega) ?_
        have rr10 := hI8 44 k
        refine ev_ireturn k21_89 ?_
        have es : seaA w k = I8 44 k := by
          unfold seaA
          rw [if_neg (fun q => by rcases q with q | q; (omega); (have q3 : (seaR w).1 = -1000000 := q; unfold seaR at q3; omega)), if_pos (by omega)]
          exact (b8.2 (by omega) k (by omega) (by omega)).symm
        rw [es] at hQ
        exact hQ _ _ F8
      · refine ev_s1 (L' := [some (vr 40), some (vi k), some (vi ((w 2) - (bitC (seaW w)))), some (vi ((w 1) - (bitC (takW w))))]) (S' := [vr 40]) k21_76 rfl rfl ?_
        refine ev_getI k21_77 (by decide) (rfl) ?_
        show Ev d 21 80 [some (vr 40), some (vi k), some (vi ((w 2) - (bitC (seaW w)))), some (vi ((w 1) - (bitC (takW w))))] [vi (I8 40 7)] (SX I8 ch kd8) Q
        have rr11 := hI8 40 7
        rw [b8.1]
        rw [b8.1] at rr11
        refine ev_goto (t := 89) k21_80 rfl ?_
        refine ev_ireturn k21_89 ?_
        have es : seaA w k = (seaR w).1 := by
          unfold seaA
          rw [if_pos (Or.inl (by omega))]
        rw [es] at hQ
        exact hQ _ _ F8
    · refine ev_ldc k21_54 ?_
      refine ev_ireturn k21_56 ?_
      have es : seaA w k = -1000000 := by
        unfold seaA
        by_cases q : w 1 - bitC (takW w) < w 2 - bitC (seaW w)
        · rw [if_pos (Or.inr (sea_no hN.2.2.1 q))]; exact sea_no hN.2.2.1 q
        · by_cases q2 : k = -1 ∨ (seaR w).1 = -1000000
          · rw [if_pos q2]
            rcases q2 with q2 | q2
            · exfalso; omega
            · exact q2
          · rw [if_neg q2, if_neg (by omega)]
      rw [es] at hQ
      exact hQ _ _ (FSx.refl hI)
