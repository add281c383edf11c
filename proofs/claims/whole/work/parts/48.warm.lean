def restW (G way : Int) : Nat → Int
  | 0 => way
  | k + 1 => restW G way k / G
theorem rest_rng {G way : Int} (hG : 1 ≤ G) (hw : 0 ≤ way) : ∀ k, 0 ≤ restW G way k ∧ restW G way k ≤ way := by
  intro k
  induction k with
  | zero => exact ⟨hw, Int.le_refl _⟩
  | succ k ih =>
    rw [restW]
    exact ⟨Int.ediv_nonneg ih.1 (by omega), Int.le_trans (Int.ediv_le_self G ih.1) ih.2⟩
def dgW (G : Int) (n : Nat) (way : Int) (j : Nat) : Int := restW G way (n - 1 - j) % G
theorem dg_rng {G : Int} {n : Nat} {way : Int} {j : Nat} (hG : 1 ≤ G) : 0 ≤ dgW G n way j ∧ dgW G n way j < G := ⟨Int.emod_nonneg _ (by omega), Int.emod_lt_of_pos _ (by omega)⟩
def vD (w : Int → Int) (c : Int) (dg : Nat → Int) : Nat → Int → Int
  | 0 => w
  | j + 1 => sitsW (vD w c dg j) (dg j) c
def pwW (G : Int) : Nat → Int
  | 0 => 1
  | n + 1 => pwW G n * G
def hitB (w : Int → Int) (g c b : Int) (n : Nat) (y : Int) : Bool := decide (bearW (vD w c (dgW (w 2) n y) n) c (w (28 + 4 * g)) = b)
def warR (w : Int → Int) (g c b : Int) : Nat → Nat → Int × Int
  | 0, _ => (-1000000, 0)
  | f + 1, n => if firstF (hitB w g c b n) (pwW (w 2) n).toNat = -1000000 then warR w g c b f (n + 1) else ((n : Int), firstF (hitB w g c b n) (pwW (w 2) n).toNat)
theorem pw_rng {G : Int} (h1 : 1 ≤ G) (h5 : G ≤ 5) : (pwW G 0 = 1) ∧ (1 ≤ pwW G 1 ∧ pwW G 1 ≤ 5) ∧ (1 ≤ pwW G 2 ∧ pwW G 2 ≤ 25) ∧ (1 ≤ pwW G 3 ∧ pwW G 3 ≤ 125) := by
  rcases (show G = 1 ∨ G = 2 ∨ G = 3 ∨ G = 4 ∨ G = 5 by omega) with rfl | rfl | rfl | rfl | rfl <;> decide

set_option maxHeartbeats 1000000 in
theorem l_spell {d : Nat} {J : Nat → Int → Int} {ch : Int → Nat} {kd : Nat → Nat} {Q : Option jV → jS → Prop} {w : Int → Int} {m : Nat} {way : Int} (n3 : m ≤ 3) (y0 : 0 ≤ way) (y1 : way < 1000) (G1 : 1 ≤ w 2) (hQ : ∀ I', Rg I' → (∀ j : Nat, j < m → I' 43 j = dgW (w 2) m way j) → (∀ (a : Nat) (b : Int), a ≠ 43 → I' a b = J a b) → Q none (SX I' ch kd)) : ∀ (n : Nat) (I : Nat → Int → Int) (k : Nat) (r x : Int), NOWX I ch kd w → Rg I → m - k < n → k ≤ m → x = (m : Int) - 1 - k → r = restW (w 2) way k → (∀ j : Nat, x < (j : Int) → j < m → I 43 j = dgW (w 2) m way j) → (∀ (a : Nat) (b : Int), a ≠ 43 → I a b = J a b) → Ev d 26 20 [some (vr 40), some (vi way), some (vi (m : Int)), some (vi (w 2)), some (vi r), some (vi x)] [] (SX I ch kd) Q := by
  intro n
  induction n with
  | zero => intro I k r x hN hI h1; exfalso; omega
  | succ n ih =>
    intro I k r x hN hI hn hk hx hr hD hF
    obtain ⟨⟨wa0, wa1⟩, ⟨wb0, wb1⟩, ⟨wc0, wc1⟩, wC, wG, wU⟩ := hN.2.2.1
    have rg := rest_rng G1 y0 k
    rw [← hr] at rg
    have rg2 : 0 ≤ r / w 2 ∧ 0 ≤ r % w 2 ∧ r % w 2 < w 2 := ⟨Int.ediv_nonneg rg.1 wc0, Int.emod_nonneg _ (by omega), Int.emod_lt_of_pos _ (by omega)⟩
    refine ev_s1 (L' := [some (vr 40), some (vi way), some (vi (m : Int)), some (vi (w 2)), some (vi r), some (vi x)]) (S' := [vi x]) k26_20 rfl rfl ?_
    refine ev_z_lt (t := 48) k26_22 rfl (by omega) (by omega) (fun h1 => ?_) (fun h1 => ?_)
    · refine ev_return k26_48 ?_
      exact hQ I hI (fun j hj => hD j (by omega) hj) hF
    · refine ev_s1 (L' := [some (vr 40), some (vi way), some (vi (m : Int)), some (vi (w 2)), some (vi r), some (vi x)]) (S' := [vr 40]) k26_25 rfl rfl ?_
      refine ev_getR k26_26 (by decide) (rfl) (x_40_5 ch kd) ?_
      refine ev_s1 (L' := [some (vr 40), some (vi way), some (vi (m : Int)), some (vi (w 2)), some (vi r), some (vi x)]) (S' := [vi x, vr 43]) k26_29 rfl rfl ?_
      refine ev_s1 (L' := [some (vr 40), some (vi way), some (vi (m : Int)), some (vi (w 2)), some (vi r), some (vi x)]) (S' := [vi r, vi x, vr 43]) k26_31 rfl rfl ?_
      refine ev_s1 (L' := [some (vr 40), some (vi way), some (vi (m : Int)), some (vi (w 2)), some (vi r), some (vi x)]) (S' := [vi (w 2), vi r, vi x, vr 43]) k26_33 rfl rfl ?_
      refine ev_irem k26_34 (by omega) (by omega) (by omega) (by omega) ?_
      refine ev_iast k26_35 (by decide) (rfl) (by omega) (by omega) ?_
      show Ev d 26 36 [some (vr 40), some (vi way), some (vi (m : Int)), some (vi (w 2)), some (vi r), some (vi x)] [] (SX (up I 43 x (r % (w 2))) ch kd) Q
      have hI2 := rg_up hI (k := 43) (j := x) (z := r % (w 2)) (by omega) (by omega)
      generalize hE2 : up I 43 x (r % (w 2)) = I2 at hI2 ⊢
      have g2 : ∀ (a : Nat) (b : Int), (a ≠ 43 ∨ b ≠ x) → I2 a b = I a b := fun a b h => by rw [← hE2]; exact upN h
      have e2 : I2 43 x = r % (w 2) := by rw [← hE2]; exact upE rfl rfl
      clear hE2
      have fx2 : FSx I I2 kd kd := ⟨hI2, fun a b q => g2 a b (by omega), fun _ _ => rfl⟩
      have hN2 := hN.fs fx2
      have F2 := fx2
      refine ev_s1 (L' := [some (vr 40), some (vi way), some (vi (m : Int)), some (vi (w 2)), some (vi r), some (vi x)]) (S' := [vi r]) k26_36 rfl rfl ?_
      refine ev_s1 (L' := [some (vr 40), some (vi way), some (vi (m : Int)), some (vi (w 2)), some (vi r), some (vi x)]) (S' := [vi (w 2), vi r]) k26_38 rfl rfl ?_
      refine ev_idiv k26_39 (by omega) (by omega) (by omega) (by omega) ?_
      refine ev_s1 (L' := [some (vr 40), some (vi way), some (vi (m : Int)), some (vi (w 2)), some (vi (r / (w 2))), some (vi x)]) (S' := []) k26_40 rfl rfl ?_
      refine ev_s1 (L' := [some (vr 40), some (vi way), some (vi (m : Int)), some (vi (w 2)), some (vi (r / (w 2))), some (vi (x + (-1)))]) (S' := []) k26_42 rfl rfl ?_
      refine ev_goto (t := 20) k26_45 rfl ?_
      refine ih I2 (k + 1) _ _ hN2 hI2 (by omega) (by omega) (by omega) (by rw [hr]; rfl) (fun j hj hj2 => ?_) (fun a b q => (g2 a b (Or.inl q)).trans (hF a b q))
      by_cases e : (j : Int) = x
      · rw [e, e2, hr, show k = m - 1 - j by omega]; rfl
      · rw [g2 _ _ (Or.inr e)]; exact hD j (by omega) hj2

set_option maxHeartbeats 1000000 in
theorem g_spell {d : Nat} {I : Nat → Int → Int} {ch : Int → Nat} {kd : Nat → Nat} {Q : Option jV → jS → Prop} {w : Int → Int} (hN : NOWX I ch kd w) (hI : Rg I) {n : Nat} {way : Int} (n3 : n ≤ 3) (y0 : 0 ≤ way) (y1 : way < 1000) (G1 : 1 ≤ w 2) (hQ : ∀ I', Rg I' → (∀ j : Nat, j < n → I' 43 j = dgW (w 2) n way j) → (∀ (a : Nat) (b : Int), a ≠ 43 → I' a b = I a b) → Q none (SX I' ch kd)) : Cl d 26 [vr 40, vi way, vi (n : Int)] (SX I ch kd) Q := by
  obtain ⟨⟨wa0, wa1⟩, ⟨wb0, wb1⟩, ⟨wc0, wc1⟩, wC, wG, wU⟩ := hN.2.2.1
  refine ⟨by rw [l26]; exact Nat.le_of_ble_eq_true rfl, ?_⟩
  rw [l26]
  show Ev d 26 0 [some (vr 40), some (vi way), some (vi (n : Int)), none, none, none] [] (SX I ch kd) Q
  refine ev_s1 (L' := [some (vr 40), some (vi way), some (vi (n : Int)), none, none, none]) (S' := [vr 40]) k26_0 rfl rfl ?_
  refine ev_getR k26_1 (by decide) (rfl) (x_40_0 ch kd) ?_
  refine ev_getI k26_4 (by decide) (rfl) ?_
  show Ev d 26 7 [some (vr 40), some (vi way), some (vi (n : Int)), none, none, none] [vi (I 13 7)] (SX I ch kd) Q
  have rr1 := hI 13 7
  rw [hN.2.1.2.1]
  rw [hN.2.1.2.1] at rr1
  refine ev_s1 (L' := [some (vr 40), some (vi way), some (vi (n : Int)), none, none, none]) (S' := [vi 1, vi (w 2)]) k26_7 rfl rfl ?_
  refine ev_max k26_8 (inB_iff.mpr (by omega)) (inB_iff.mpr (by omega)) (Nat.le_of_ble_eq_true rfl) ?_
  rw [if_neg (show ¬ (w 2) < 1 by omega)]
  refine ev_s1 (L' := [some (vr 40), some (vi way), some (vi (n : Int)), some (vi (w 2)), none, none]) (S' := []) k26_11 rfl rfl ?_
  refine ev_s1 (L' := [some (vr 40), some (vi way), some (vi (n : Int)), some (vi (w 2)), none, none]) (S' := [vi way]) k26_12 rfl rfl ?_
  refine ev_s1 (L' := [some (vr 40), some (vi way), some (vi (n : Int)), some (vi (w 2)), some (vi way), none]) (S' := []) k26_13 rfl rfl ?_
  refine ev_s1 (L' := [some (vr 40), some (vi way), some (vi (n : Int)), some (vi (w 2)), some (vi way), none]) (S' := [vi (n : Int)]) k26_15 rfl rfl ?_
  refine ev_s1 (L' := [some (vr 40), some (vi way), some (vi (n : Int)), some (vi (w 2)), some (vi way), none]) (S' := [vi 1, vi (n : Int)]) k26_16 rfl rfl ?_
  refine ev_s1 (L' := [some (vr 40), some (vi way), some (vi (n : Int)), some (vi (w 2)), some (vi way), none]) (S' := [vi ((n : Int) - 1)]) k26_17 rfl rfl ?_
  refine ev_s1 (L' := [some (vr 40), some (vi way), some (vi (n : Int)), some (vi (w 2)), some (vi way), some (vi ((n : Int) - 1))]) (S' := []) k26_18 rfl rfl ?_
  exact l_spell (J := I) n3 y0 y1 G1 hQ 4 I 0 way _ hN hI (by omega) (by omega) (by omega) rfl (fun j hj hj2 => absurd hj (by omega)) (fun _ _ _ => rfl)

set_option maxHeartbeats 1000000 in
theorem l_behind {d : Nat} {J : Nat → Int → Int} {ch : Int → Nat} {kdJ : Nat → Nat} {Q : Option jV → jS → Prop} {w : Int → Int} {m : Nat} {g c : Int} {dg : Nat → Int} (m3 : m ≤ 3) (g0 : 0 ≤ g) (g1 : g < w 2) (c0 : 0 ≤ c) (c1 : c < w 1) (dr : ∀ j, 0 ≤ dg j ∧ dg j < w 2) (hd : 5 ≤ d) (hQ : ∀ I' kd', FSx J I' kdJ kd' → (∀ b, I' 43 b = J 43 b) → Q (some (vi (bearW (vD w c dg m) c (w (28 + 4 * g))))) (SX I' ch kd')) (hS : ∀ j : Nat, j < m → J 43 j = dg j) : ∀ (n : Nat) (I : Nat → Int → Int) (kd : Nat → Nat) (i : Nat), NOWX I ch kd w → Rg I → FSx J I kdJ kd → m - i < n → i ≤ m → STL I kd (vD w c dg i) c → GSm w (vD w c dg i) → (∀ b, I 43 b = J 43 b) → Ev d 27 19 [some (vr 40), some (vi (m : Int)), some (vi g), some (vi c), some (vi (i : Int))] [] (SX I ch kd) Q := by
  intro n
  induction n with
  | zero =>
    intro I kd i hN hI F hi hi2 hs hg h43
    exfalso; omega
  | succ n ih =>
    intro I kd i hN hI F hi hi2 hs hg h43
    obtain ⟨⟨wa0, wa1⟩, ⟨wb0, wb1⟩, ⟨wc0, wc1⟩, wC, wG, wU⟩ := hN.2.2.1
    obtain ⟨go, gw, -, -⟩ := wG g g0 g1
    refine ev_s1 (L' := [some (vr 40), some (vi (m : Int)), some (vi g), some (vi c), some (vi (i : Int))]) (S' := [vi (i : Int)]) k27_19 rfl rfl ?_
    refine ev_s1 (L' := [some (vr 40), some (vi (m : Int)), some (vi g), some (vi c), some (vi (i : Int))]) (S' := [vi (m : Int), vi (i : Int)]) k27_21 rfl rfl ?_
    refine ev_c_ge (t := 43) k27_22 rfl (by omega) (by omega) (by omega) (by omega) (fun h1 => ?_) (fun h1 => ?_)
    · refine ev_s1 (L' := [some (vr 40), some (vi (m : Int)), some (vi g), some (vi c), some (vi (i : Int))]) (S' := [vr 40]) k27_43 rfl rfl ?_
      refine ev_getR k27_44 (by decide) (rfl) (x_40_3 ch kd) ?_
      refine ev_s1 (L' := [some (vr 40), some (vi (m : Int)), some (vi g), some (vi c), some (vi (i : Int))]) (S' := [vr 40, vr 56]) k27_47 rfl rfl ?_
      refine ev_getR k27_48 (by decide) (rfl) (x_40_0 ch kd) ?_
      refine ev_getR k27_51 (by decide) (rfl) (x_13_2 ch kd) ?_
      refine ev_s1 (L' := [some (vr 40), some (vi (m : Int)), some (vi g), some (vi c), some (vi (i : Int))]) (S' := [vi g, vr 15, vr 56]) k27_54 rfl rfl ?_
      refine ev_iald k27_55 (by decide) (rfl) (by omega) (by omega) ?_
      have rr2 := hI 15 g
      rw [(hN.2.1.2.2.2.2 g (by omega) (by omega)).1]
      rw [(hN.2.1.2.2.2.2 g (by omega) (by omega)).1] at rr2
      refine ev_virt (a := [vi (w (28 + 4 * g))]) (S' := []) k27_56 rfl (Nat.le_of_ble_eq_true rfl) (by decide) (rfl) (by omega) ?_
      refine g_bof hI hs (by omega) (by omega) (by omega) (?_)
      show Ev d 27 59 [some (vr 40), some (vi (m : Int)), some (vi g), some (vi c), some (vi (i : Int))] [vi (bearW (vD w c dg i) c (w (28 + 4 * g)))] (SX I ch kd) Q
      refine ev_ireturn k27_59 ?_
      rw [show i = m by omega]
      exact hQ _ _ F h43
    · refine ev_s1 (L' := [some (vr 40), some (vi (m : Int)), some (vi g), some (vi c), some (vi (i : Int))]) (S' := [vr 40]) k27_25 rfl rfl ?_
      refine ev_s1 (L' := [some (vr 40), some (vi (m : Int)), some (vi g), some (vi c), some (vi (i : Int))]) (S' := [vr 40, vr 40]) k27_26 rfl rfl ?_
      refine ev_getR k27_27 (by decide) (rfl) (x_40_5 ch kd) ?_
      refine ev_s1 (L' := [some (vr 40), some (vi (m : Int)), some (vi g), some (vi c), some (vi (i : Int))]) (S' := [vi (i : Int), vr 43, vr 40]) k27_30 rfl rfl ?_
      refine ev_iald k27_32 (by decide) (rfl) (by omega) (by omega) ?_
      have rr3 := hI 43 (i : Int)
      rw [h43 (i : Int), hS i (by omega)]
      have hdi := dr i
      refine ev_virt (a := [vi (dg i)]) (S' := []) k27_33 rfl (Nat.le_of_ble_eq_true rfl) (by decide) (rfl) (by omega) ?_
      refine g_bos hN hI (g := dg i) (by omega) (by omega) hs hg (by omega) (fun I4 hI4 s4 f4 => ?_)
      have fx4 : FSx I I4 kd kd := ⟨hI4, fun a b q => f4 a b (by omega), fun _ _ => rfl⟩
      have hN4 := hN.fs fx4
      have F4 := F.trans fx4
      have bg4 := bear_okc (o := w (28 + 4 * (dg i))) hs.2.2.2.2 (wG (dg i) (by omega) (by omega)).1.1 (wG (dg i) (by omega) (by omega)).1.2
      show Ev d 27 36 [some (vr 40), some (vi (m : Int)), some (vi g), some (vi c), some (vi (i : Int))] [vi (bearW (vD w c dg i) c (w (28 + 4 * (dg i))))] (SX I4 ch kd) Q
      refine ev_s1 (L' := [some (vr 40), some (vi (m : Int)), some (vi g), some (vi c), some (vi (i : Int))]) (S' := []) k27_36 rfl rfl ?_
      refine ev_s1 (L' := [some (vr 40), some (vi (m : Int)), some (vi g), some (vi c), some (vi ((i : Int) + 1))]) (S' := []) k27_37 rfl rfl ?_
      refine ev_goto (t := 19) k27_40 rfl ?_
      exact ih I4 kd (i + 1) hN4 hI4 F4 (by omega) (by omega) s4 (GSm.sits hg (by omega) (by omega)) (fun b => (f4 43 b (by decide)).trans (h43 b))

set_option maxHeartbeats 1000000 in
theorem g_behind {d : Nat} {I : Nat → Int → Int} {ch : Int → Nat} {kd : Nat → Nat} {Q : Option jV → jS → Prop} {w : Int → Int} (hN : NOWX I ch kd w) (hI : Rg I) {m : Nat} {g c : Int} {dg : Nat → Int} (m3 : m ≤ 3) (g0 : 0 ≤ g) (g1 : g < w 2) (c0 : 0 ≤ c) (c1 : c < w 1) (dr : ∀ j, 0 ≤ dg j ∧ dg j < w 2) (hd : 5 ≤ d) (hQ : ∀ I' kd', FSx I I' kd kd' → (∀ b, I' 43 b = I 43 b) → Q (some (vi (bearW (vD w c dg m) c (w (28 + 4 * g))))) (SX I' ch kd')) (hS : ∀ j : Nat, j < m → I 43 j = dg j) : Cl d 27 [vr 40, vi (m : Int), vi g, vi c] (SX I ch kd) Q := by
  obtain ⟨⟨wa0, wa1⟩, ⟨wb0, wb1⟩, ⟨wc0, wc1⟩, wC, wG, wU⟩ := hN.2.2.1
  refine ⟨by rw [l27]; exact Nat.le_of_ble_eq_true rfl, ?_⟩
  rw [l27]
  show Ev d 27 0 [some (vr 40), some (vi (m : Int)), some (vi g), some (vi c), none] [] (SX I ch kd) Q
  refine ev_s1 (L' := [some (vr 40), some (vi (m : Int)), some (vi g), some (vi c), none]) (S' := [vr 40]) k27_0 rfl rfl ?_
  refine ev_getR k27_1 (by decide) (rfl) (x_40_3 ch kd) ?_
  refine ev_s1 (L' := [some (vr 40), some (vi (m : Int)), some (vi g), some (vi c), none]) (S' := [vr 40, vr 56]) k27_4 rfl rfl ?_
  refine ev_getR k27_5 (by decide) (rfl) (x_40_0 ch kd) ?_
  refine ev_getR k27_8 (by decide) (rfl) (x_13_1 ch kd) ?_
  refine ev_s1 (L' := [some (vr 40), some (vi (m : Int)), some (vi g), some (vi c), none]) (S' := [vi c, vr 14, vr 56]) k27_11 rfl rfl ?_
  have hc1 := hN.1.2.1 c (by omega) (by omega)
  have hl1 := (shp_c hc1.2).1
  have hb1 := hN.1.2.2.2 c (by omega) (by omega)
  refine ev_aald (q := ch c) k27_12 (by decide) (rfl) (by decide) (by decide) (by omega) (by omega) (rX14 (by omega) (by omega)) ?_
  refine ev_virt (a := [vr (ch c)]) (S' := []) k27_13 rfl (Nat.le_of_ble_eq_true rfl) (by decide) (rfl) (by omega) ?_
  refine g_take hN hI (by omega) (by omega) (fun I2 kd2 hI2 s2 f2 k2 => ?_)
  have fx2 : FSx I I2 kd kd2 := ⟨hI2, fun a b q => f2 a b (by omega), fun a q => k2 a (by omega)⟩
  have hN2 := hN.fs fx2
  have F2 := fx2
  show Ev d 27 16 [some (vr 40), some (vi (m : Int)), some (vi g), some (vi c), none] [] (SX I2 ch kd2) Q
  refine ev_s1 (L' := [some (vr 40), some (vi (m : Int)), some (vi g), some (vi c), none]) (S' := [vi 0]) k27_16 rfl rfl ?_
  refine ev_s1 (L' := [some (vr 40), some (vi (m : Int)), some (vi g), some (vi c), some (vi 0)]) (S' := []) k27_17 rfl rfl ?_
  exact l_behind (J := I) (kdJ := kd) m3 g0 g1 c0 c1 dr hd hQ hS 4 I2 kd2 0 hN2 hI2 F2 (by omega) (by omega) s2 (GSm.refl w) (fun b => f2 43 b (by decide))

theorem vd_gs {w : Int → Int} {c : Int} {dg : Nat → Int} (c0 : 0 ≤ c) (c5 : c < 5) : ∀ n, GSm w (vD w c dg n) := by
  intro n
  induction n with
  | zero => exact GSm.refl w
  | succ n ih => exact ih.sits c0 c5
theorem vd_ok {w : Int → Int} {c : Int} {dg : Nat → Int} (hw : OKW w) (c0 : 0 ≤ c) (c1 : c < w 1) (dr : ∀ j, 0 ≤ dg j ∧ dg j < w 2) : ∀ n, OKC (vD w c dg n) c := by
  intro n
  have c5 : c < 5 := by have := hw.2.1; omega
  induction n with
  | zero => exact hw.2.2.2.1 c c0 c1
  | succ n ih =>
    refine sit_okc ih ?_
    rw [(vd_gs c0 c5 n _ (dr n).1 (dr n).2).1]
    exact (hw.2.2.2.2.1 _ (dr n).1 (dr n).2).1
theorem vd_okc {w : Int → Int} {g c : Int} {dg : Nat → Int} (hw : OKW w) (g0 : 0 ≤ g) (g1 : g < w 2) (c0 : 0 ≤ c) (c1 : c < w 1) (dr : ∀ j, 0 ≤ dg j ∧ dg j < w 2) (n : Nat) : 0 ≤ bearW (vD w c dg n) c (w (28 + 4 * g)) ∧ bearW (vD w c dg n) c (w (28 + 4 * g)) ≤ 9 :=
  bear_okc (vd_ok hw c0 c1 dr n) (hw.2.2.2.2.1 g g0 g1).1.1 (hw.2.2.2.2.1 g g0 g1).1.2

set_option maxHeartbeats 1000000 in
theorem l_fewy {d : Nat} {J : Nat → Int → Int} {ch : Int → Nat} {kdJ : Nat → Nat} {Q : Option jV → jS → Prop} {w : Int → Int} {g c b : Int} (g0 : 0 ≤ g) (g1 : g < w 2) (c0 : 0 ≤ c) (c1 : c < w 1) (b0 : 0 ≤ b) (b1 : b ≤ 9) (hd : 6 ≤ d) (hQ : ∀ I' kd', FSx J I' kdJ kd' → (∀ j : Nat, (j : Int) < (warR w g c b 4 0).1 → I' 43 j = dgW (w 2) (warR w g c b 4 0).1.toNat (warR w g c b 4 0).2 j) → Q (some (vi (warR w g c b 4 0).1)) (SX I' ch kd')) {s : Nat} {ys : Int} (s3 : s ≤ 3) (hys : ys = pwW (w 2) s) (ys0 : 1 ≤ ys) (ys1 : ys ≤ 125) (hR : (warR w g c b 4 0) = warR w g c b (4 - s) s) (hE : (∀ y : Nat, y < ys.toNat → hitB w g c b s y = false) → ∀ (I : Nat → Int → Int) (kd : Nat → Nat) (x : Option jV), NOWX I ch kd w → Rg I → FSx J I kdJ kd → Ev d 24 51 [some (vr 40), some (vi g), some (vi c), some (vi b), some (vi ys), some (vi (s : Int)), x] [] (SX I ch kd) Q) : ∀ (n : Nat) (I : Nat → Int → Int) (kd : Nat → Nat) (y : Nat), NOWX I ch kd w → Rg I → FSx J I kdJ kd → ys - y < n → (y : Int) ≤ ys → (∀ j : Nat, j < y → hitB w g c b s j = false) → Ev d 24 15 [some (vr 40), some (vi g), some (vi c), some (vi b), some (vi ys), some (vi (s : Int)), some (vi (y : Int))] [] (SX I ch kd) Q := by
  intro n
  induction n with
  | zero =>
    intro I kd y hN hI F hy hy2 ha
    exfalso; omega
  | succ n ih =>
    intro I kd y hN hI F hy hy2 ha
    obtain ⟨⟨wa0, wa1⟩, ⟨wb0, wb1⟩, ⟨wc0, wc1⟩, wC, wG, wU⟩ := hN.2.2.1
    refine ev_s1 (L' := [some (vr 40), some (vi g), some (vi c), some (vi b), some (vi ys), some (vi (s : Int)), some (vi (y : Int))]) (S' := [vi (y : Int)]) k24_15 rfl rfl ?_
    refine ev_s1 (L' := [some (vr 40), some (vi g), some (vi c), some (vi b), some (vi ys), some (vi (s : Int)), some (vi (y : Int))]) (S' := [vi ys, vi (y : Int)]) k24_17 rfl rfl ?_
    refine ev_c_ge (t := 51) k24_19 rfl (by omega) (by omega) (by omega) (by omega) (fun h1 => ?_) (fun h1 => ?_)
    · exact hE (fun j hj => ha j (by omega)) I kd _ hN hI F
    · refine ev_s1 (L' := [some (vr 40), some (vi g), some (vi c), some (vi b), some (vi ys), some (vi (s : Int)), some (vi (y : Int))]) (S' := [vr 40]) k24_22 rfl rfl ?_
      refine ev_s1 (L' := [some (vr 40), some (vi g), some (vi c), some (vi b), some (vi ys), some (vi (s : Int)), some (vi (y : Int))]) (S' := [vi (y : Int), vr 40]) k24_23 rfl rfl ?_
      refine ev_s1 (L' := [some (vr 40), some (vi g), some (vi c), some (vi b), some (vi ys), some (vi (s : Int)), some (vi (y : Int))]) (S' := [vi (s : Int), vi (y : Int), vr 40]) k24_25 rfl rfl ?_
      refine ev_virt (a := [vi (y : Int), vi (s : Int)]) (S' := []) k24_27 rfl (Nat.le_of_ble_eq_true rfl) (by decide) (rfl) (by omega) ?_
      refine g_spell hN hI (n := s) (way := (y : Int)) (by omega) (by omega) (by omega) (by omega) (fun I2 hI2 d2 f2 => ?_)
      have fx2 : FSx I I2 kd kd := ⟨hI2, fun a b q => f2 a b (by omega), fun _ _ => rfl⟩
      have hN2 := hN.fs fx2
      have F2 := F.trans fx2
      show Ev d 24 30 [some (vr 40), some (vi g), some (vi c), some (vi b), some (vi ys), some (vi (s : Int)), some (vi (y : Int))] [] (SX I2 ch kd) Q
      refine ev_s1 (L' := [some (vr 40), some (vi g), some (vi c), some (vi b), some (vi ys), some (vi (s : Int)), some (vi (y : Int))]) (S' := [vr 40]) k24_30 rfl rfl ?_
      refine ev_s1 (L' := [some (vr 40), some (vi g), some (vi c), some (vi b), some (vi ys), some (vi (s : Int)), some (vi (y : Int))]) (S' := [vi (s : Int), vr 40]) k24_31 rfl rfl ?_
      refine ev_s1 (L' := [some (vr 40), some (vi g), some (vi c), some (vi b), some (vi ys), some (vi (s : Int)), some (vi (y : Int))]) (S' := [vi g, vi (s : Int), vr 40]) k24_33 rfl rfl ?_
      refine ev_s1 (L' := [some (vr 40), some (vi g), some (vi c), some (vi b), some (vi ys), some (vi (s : Int)), some (vi (y : Int))]) (S' := [vi c, vi g, vi (s : Int), vr 40]) k24_34 rfl rfl ?_
      refine ev_virt (a := [vi (s : Int), vi g, vi c]) (S' := []) k24_35 rfl (Nat.le_of_ble_eq_true rfl) (by decide) (rfl) (by omega) ?_
      refine g_behind hN2 hI2 (m := s) (dg := dgW (w 2) s (y : Int)) (by omega) (by omega) (by omega) (by omega) (by omega) (fun j => dg_rng (by omega)) (by omega) (hS := d2) (fun I3 kd3 fy3 h433 => ?_)
      have hI3 := fy3.1
      have hN3 := hN2.fs fy3
      have F3 := F2.trans fy3
      obtain ⟨hbv0, hbv1⟩ := vd_okc (w := w) (g := g) (c := c) (dg := dgW (w 2) s (y : Int)) hN.2.2.1 g0 g1 c0 c1 (fun j => dg_rng (by omega)) s
      generalize hbv : bearW (vD w c (dgW (w 2) s (y : Int)) s) c (w (28 + 4 * g)) = bv at hbv0 hbv1 ⊢
      show Ev d 24 38 [some (vr 40), some (vi g), some (vi c), some (vi b), some (vi ys), some (vi (s : Int)), some (vi (y : Int))] [vi bv] (SX I3 ch kd3) Q
      refine ev_s1 (L' := [some (vr 40), some (vi g), some (vi c), some (vi b), some (vi ys), some (vi (s : Int)), some (vi (y : Int))]) (S' := [vi b, vi bv]) k24_38 rfl rfl ?_
      refine ev_c_ne (t := 45) k24_39 rfl (by omega) (by omega) (by omega) (by omega) (fun h4 => ?_) (fun h4 => ?_)
      · refine ev_s1 (L' := [some (vr 40), some (vi g), some (vi c), some (vi b), some (vi ys), some (vi (s : Int)), some (vi ((y : Int) + 1))]) (S' := []) k24_45 rfl rfl ?_
        refine ev_goto (t := 15) k24_48 rfl ?_
        exact ih I3 kd3 (y + 1) hN3 hI3 F3 (by omega) (by omega) (fun j hj => by rcases Nat.lt_or_ge j y with q | q; exact ha j q; rw [show j = y by omega]; unfold hitB; rw [hbv]; exact decide_eq_false (by omega))
      · refine ev_s1 (L' := [some (vr 40), some (vi g), some (vi c), some (vi b), some (vi ys), some (vi (s : Int)), some (vi (y : Int))]) (S' := [vi (s : Int)]) k24_42 rfl rfl ?_
        refine ev_ireturn k24_44 ?_
        have hh : hitB w g c b s (y : Int) = true := by unfold hitB; rw [hbv]; exact decide_eq_true (by omega)
        have hf := first_at hh ha (n := (pwW (w 2) s).toNat) (by omega)
        have hr : (warR w g c b 4 0) = ((s : Int), (y : Int)) := by
          rw [hR, show 4 - s = (3 - s) + 1 by omega, warR, if_neg (by omega), hf]
        rw [hr] at hQ
        exact hQ _ _ F3 (fun j hj => (h433 _).trans (d2 j (by have : (j : Int) < (s : Int) := hj; omega)))

set_option maxHeartbeats 1000000 in
theorem l_fews {d : Nat} {J : Nat → Int → Int} {ch : Int → Nat} {kdJ : Nat → Nat} {Q : Option jV → jS → Prop} {w : Int → Int} {g c b : Int} (g0 : 0 ≤ g) (g1 : g < w 2) (c0 : 0 ≤ c) (c1 : c < w 1) (b0 : 0 ≤ b) (b1 : b ≤ 9) (hd : 6 ≤ d) (hQ : ∀ I' kd', FSx J I' kdJ kd' → (∀ j : Nat, (j : Int) < (warR w g c b 4 0).1 → I' 43 j = dgW (w 2) (warR w g c b 4 0).1.toNat (warR w g c b 4 0).2 j) → Q (some (vi (warR w g c b 4 0).1)) (SX I' ch kd')) : ∀ (n : Nat) (I : Nat → Int → Int) (kd : Nat → Nat) (s : Nat) (ys : Int) (x : Option jV), NOWX I ch kd w → Rg I → FSx J I kdJ kd → 4 - s < n → s ≤ 4 → ys = pwW (w 2) s → (warR w g c b 4 0) = warR w g c b (4 - s) s → Ev d 24 6 [some (vr 40), some (vi g), some (vi c), some (vi b), some (vi ys), some (vi (s : Int)), x] [] (SX I ch kd) Q := by
  intro n
  induction n with
  | zero =>
    intro I kd s ys x hN hI F hs hs4 hys hR
    exfalso; omega
  | succ n ih =>
    intro I kd s ys x hN hI F hs hs4 hys hR
    obtain ⟨⟨wa0, wa1⟩, ⟨wb0, wb1⟩, ⟨wc0, wc1⟩, wC, wG, wU⟩ := hN.2.2.1
    refine ev_s1 (L' := [some (vr 40), some (vi g), some (vi c), some (vi b), some (vi ys), some (vi (s : Int)), x]) (S' := [vi (s : Int)]) k24_6 rfl rfl ?_
    refine ev_s1 (L' := [some (vr 40), some (vi g), some (vi c), some (vi b), some (vi ys), some (vi (s : Int)), x]) (S' := [vi 3, vi (s : Int)]) k24_8 rfl rfl ?_
    refine ev_c_gt (t := 69) k24_9 rfl (by omega) (by omega) (by omega) (by omega) (fun h1 => ?_) (fun h1 => ?_)
    · refine ev_ldc k24_69 ?_
      refine ev_ireturn k24_71 ?_
      rw [show s = 4 by omega] at hR
      have hr : (warR w g c b 4 0) = (-1000000, 0) := hR
      rw [hr] at hQ
      exact hQ _ _ F (fun j hj => absurd (show (j : Int) < -1000000 from hj) (by omega))
    · refine ev_s1 (L' := [some (vr 40), some (vi g), some (vi c), some (vi b), some (vi ys), some (vi (s : Int)), x]) (S' := [vi 0]) k24_12 rfl rfl ?_
      refine ev_s1 (L' := [some (vr 40), some (vi g), some (vi c), some (vi b), some (vi ys), some (vi (s : Int)), some (vi 0)]) (S' := []) k24_13 rfl rfl ?_
      have pr := pw_rng (G := w 2) (by omega) (by omega)
      have pr2 : 1 ≤ ys ∧ ys ≤ 125 := by
        rw [hys]
        rcases (show s = 0 ∨ s = 1 ∨ s = 2 ∨ s = 3 by omega) with rfl | rfl | rfl | rfl <;> omega
      refine l_fewy g0 g1 c0 c1 b0 b1 hd hQ (s := s) (ys := ys) (by omega) hys pr2.1 pr2.2 hR (fun hno I2 kd2 x2 hN2 hI2 F2 => ?_) 127 I kd 0 hN hI F (by omega) (by omega) (fun j hj => absurd hj (Nat.not_lt_zero j))
      refine ev_s1 (L' := [some (vr 40), some (vi g), some (vi c), some (vi b), some (vi ys), some (vi (s : Int)), x2]) (S' := [vi ys]) k24_51 rfl rfl ?_
      refine ev_s1 (L' := [some (vr 40), some (vi g), some (vi c), some (vi b), some (vi ys), some (vi (s : Int)), x2]) (S' := [vr 40, vi ys]) k24_53 rfl rfl ?_
      refine ev_getR k24_54 (by decide) (rfl) (x_40_0 ch kd2) ?_
      refine ev_getI k24_57 (by decide) (rfl) ?_
      show Ev d 24 60 [some (vr 40), some (vi g), some (vi c), some (vi b), some (vi ys), some (vi (s : Int)), x2] [vi (I2 13 7), vi ys] (SX I2 ch kd2) Q
      have rr1 := hI2 13 7
      rw [hN2.2.1.2.1]
      rw [hN2.2.1.2.1] at rr1
      refine ev_s1 (L' := [some (vr 40), some (vi g), some (vi c), some (vi b), some (vi ys), some (vi (s : Int)), x2]) (S' := [vi (ys * (w 2))]) k24_60 rfl rfl ?_
      refine ev_s1 (L' := [some (vr 40), some (vi g), some (vi c), some (vi b), some (vi (ys * (w 2))), some (vi (s : Int)), x2]) (S' := []) k24_61 rfl rfl ?_
      refine ev_s1 (L' := [some (vr 40), some (vi g), some (vi c), some (vi b), some (vi (ys * (w 2))), some (vi ((s : Int) + 1)), x2]) (S' := []) k24_63 rfl rfl ?_
      refine ev_goto (t := 6) k24_66 rfl ?_
      have hf := first_no (p := hitB w g c b s) (n := (pwW (w 2) s).toNat) (by rw [← hys]; exact hno)
      have hr : (warR w g c b 4 0) = warR w g c b (4 - (s + 1)) (s + 1) := by
        rw [hR, show 4 - s = (4 - (s + 1)) + 1 by omega, warR, if_pos hf]
      refine ih I2 kd2 (s + 1) (ys * w 2) _ hN2 hI2 F2 (by omega) (by omega) (by rw [hys]; rfl) hr

set_option maxHeartbeats 1000000 in
theorem g_few {d : Nat} {I : Nat → Int → Int} {ch : Int → Nat} {kd : Nat → Nat} {Q : Option jV → jS → Prop} {w : Int → Int} (hN : NOWX I ch kd w) (hI : Rg I) {g c b : Int} (g0 : 0 ≤ g) (g1 : g < w 2) (c0 : 0 ≤ c) (c1 : c < w 1) (b0 : 0 ≤ b) (b1 : b ≤ 9) (hd : 6 ≤ d) (hQ : ∀ I' kd', FSx I I' kd kd' → (∀ j : Nat, (j : Int) < (warR w g c b 4 0).1 → I' 43 j = dgW (w 2) (warR w g c b 4 0).1.toNat (warR w g c b 4 0).2 j) → Q (some (vi (warR w g c b 4 0).1)) (SX I' ch kd')) : Cl d 24 [vr 40, vi g, vi c, vi b] (SX I ch kd) Q := by
  obtain ⟨⟨wa0, wa1⟩, ⟨wb0, wb1⟩, ⟨wc0, wc1⟩, wC, wG, wU⟩ := hN.2.2.1
  refine ⟨by rw [l24]; exact Nat.le_of_ble_eq_true rfl, ?_⟩
  rw [l24]
  show Ev d 24 0 [some (vr 40), some (vi g), some (vi c), some (vi b), none, none, none] [] (SX I ch kd) Q
  refine ev_s1 (L' := [some (vr 40), some (vi g), some (vi c), some (vi b), none, none, none]) (S' := [vi 1]) k24_0 rfl rfl ?_
  refine ev_s1 (L' := [some (vr 40), some (vi g), some (vi c), some (vi b), some (vi 1), none, none]) (S' := []) k24_1 rfl rfl ?_
  refine ev_s1 (L' := [some (vr 40), some (vi g), some (vi c), some (vi b), some (vi 1), none, none]) (S' := [vi 0]) k24_3 rfl rfl ?_
  refine ev_s1 (L' := [some (vr 40), some (vi g), some (vi c), some (vi b), some (vi 1), some (vi 0), none]) (S' := []) k24_4 rfl rfl ?_
  exact l_fews (J := I) (kdJ := kd) g0 g1 c0 c1 b0 b1 hd hQ 5 I kd 0 1 none hN hI (FSx.refl hI) (by omega) (by omega) rfl rfl

set_option maxHeartbeats 1000000 in
theorem g_sitterOf {d : Nat} {I : Nat → Int → Int} {ch : Int → Nat} {kd : Nat → Nat} {Q : Option jV → jS → Prop} (hI : Rg I) {k : Int} (k0 : 0 ≤ k) (k1 : k < 3) (hQ : Q (some (vi (I 43 k))) (SX I ch kd)) : Cl d 25 [vr 40, vi k] (SX I ch kd) Q := by
  refine ⟨by rw [l25]; exact Nat.le_of_ble_eq_true rfl, ?_⟩
  rw [l25]
  show Ev d 25 0 [some (vr 40), some (vi k)] [] (SX I ch kd) Q
  refine ev_s1 (L' := [some (vr 40), some (vi k)]) (S' := [vi k]) k25_0 rfl rfl ?_
  refine ev_z_lt (t := 18) k25_1 rfl (by omega) (by omega) (fun h1 => ?_) (fun h1 => ?_)
  · refine ev_ldc k25_18 ?_
    refine ev_ireturn k25_20 ?_
    exfalso; omega
  · refine ev_s1 (L' := [some (vr 40), some (vi k)]) (S' := [vi k]) k25_4 rfl rfl ?_
    refine ev_s1 (L' := [some (vr 40), some (vi k)]) (S' := [vi 3, vi k]) k25_5 rfl rfl ?_
    refine ev_c_ge (t := 18) k25_6 rfl (by omega) (by omega) (by omega) (by omega) (fun h2 => ?_) (fun h2 => ?_)
    · refine ev_ldc k25_18 ?_
      refine ev_ireturn k25_20 ?_
      exfalso; omega
    · refine ev_s1 (L' := [some (vr 40), some (vi k)]) (S' := [vr 40]) k25_9 rfl rfl ?_
      refine ev_getR k25_10 (by decide) (rfl) (x_40_5 ch kd) ?_
      refine ev_s1 (L' := [some (vr 40), some (vi k)]) (S' := [vi k, vr 43]) k25_13 rfl rfl ?_
      refine ev_iald k25_14 (by decide) (rfl) (by omega) (by omega) ?_
      have rr3 := hI 43 k
      refine ev_goto (t := 20) k25_15 rfl ?_
      refine ev_ireturn k25_20 ?_
      exact hQ
