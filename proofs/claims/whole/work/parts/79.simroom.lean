theorem TAX.tpe {I J : Nat → Int → Int} (h : TAX I J) : TPE J (tapF I) (I 25 1) := by
  obtain ⟨t1, t2, t3, t4⟩ := h
  have e : ∀ p, p < I 25 1 → tapF I p = J 5 p := fun p hp => by unfold tapF; rw [if_pos hp]; exact t3 p (by omega)
  refine ⟨t1.symm, by omega, fun p hp => (e p hp).symm, fun p p0 hp => ?_, fun p hp => ?_⟩
  · rw [e p hp]; exact t4 p p0 (by omega)
  · unfold tapF; rw [if_neg (by omega)]
/-- the reference has read the tape -/
def RMF (J J' : Nat → Int → Int) (T : Int → Int) (z : Int) : Prop := RZ J' ∧ J' 0 7 = paM T z ∧ J' 0 6 = 0 ∧ FR6 J J'
def RMY (J J' : Nat → Int → Int) (T : Int → Int) : Prop := RZ J' ∧ GHD (J' 6) T (lP3 T) (lV T) (paC T).2.2.toNat (paC T).1 (paG T).2.2.toNat ∧ OKW (J' 6) ∧ J' 6 1 = (paC T).2.2 ∧ J' 6 2 = (paG T).2.2 ∧ J' 0 7 = J 0 7 ∧ J' 0 6 = 0 ∧ J' 0 17 = 0 ∧ (∀ b, (b ≠ 6 ∧ b ≠ 17 ∧ (b < 7 ∨ 12 < b)) → J' 0 b = J 0 b) ∧ ∀ a, (a ≠ 0 ∧ a ≠ 6 ∧ a ≠ 7) → J' a = J a
theorem m_room2 {e : Nat} {J : Nat → Int → Int} (hJ : RZ J) {T : Int → Int} {z : Int} (hT : TPE J T z) (he : 13 ≤ e) : (paM T z ≠ 0 → ∃ J', RMF J J' T z ∧ Cl e 179 [vr 0] (SM J) (fun r σ => r = some (vi (-1000100 - (paG T).1)) ∧ σ = SM J')) ∧ (paM T z = 0 → ∃ J', RMY J J' T ∧ Cl e 179 [vr 0] (SM J) (fun r σ => r = some (vi ((paC T).2.2)) ∧ σ = SM J')) := by
  have h : Cl e 179 [vr 0] (SM J) (fun r σ => (paM T z ≠ 0 ∧ ∃ J', RMF J J' T z ∧ r = some (vi (-1000100 - (paG T).1)) ∧ σ = SM J') ∨ (paM T z = 0 ∧ ∃ J', RMY J J' T ∧ r = some (vi ((paC T).2.2)) ∧ σ = SM J')) :=
    m_room hJ hT (by omega) (fun J' a b c d f => Or.inl ⟨a, J', ⟨b, c, d, f⟩, rfl, rfl⟩) (fun J' a b c d f g h i j k l => Or.inr ⟨a, J', ⟨b, c, d, f, g, h, i, j, k, l⟩, rfl, rfl⟩)
  obtain ⟨hz, f, r, σ, hr, hq⟩ := h
  refine ⟨fun hm => ?_, fun hm => ?_⟩
  · rcases hq with ⟨-, J', h1, h2, h3⟩ | ⟨q, -⟩
    · exact ⟨J', h1, hz, f, r, σ, hr, h2, h3⟩
    · exact absurd q hm
  · rcases hq with ⟨q, -⟩ | ⟨-, J', h1, h2, h3⟩
    · exact absurd hm q
    · exact ⟨J', h1, hz, f, r, σ, hr, h2, h3⟩
theorem sit_no {w : Int → Int} {c : Int} (c0 : 0 ≤ c) (h : ∀ g, 0 ≤ g → g < w 2 → w (28 + 4 * g + 2) = 0) : sitW w c = -1000000 := by
  unfold sitW
  refine first_no (fun j hj => decide_eq_false ?_)
  rw [h j (by omega) (by omega)]
  omega
/-- the draft is as the reference's word tells -/
theorem draft_rw {I : Nat → Int → Int} {kd : Nat → Nat} {T w : Int → Int} {z : Int} (hD : DrT I kd T z) (hG : GHD w T (lP3 T) (lV T) (paC T).2.2.toNat (paC T).1 (paG T).2.2.toNat) (h1 : w 1 = (paC T).2.2) (h2 : w 2 = (paG T).2.2) : RW I 29 dcc kd w := by
  obtain ⟨d1, d2, d3, d4, d5, d6, d7, d8, d9⟩ := hD
  obtain ⟨g0, g1, g2, g3, g4, g5⟩ := hG
  have hz : ∀ g, 0 ≤ g → g < w 2 → w (28 + 4 * g + 2) = 0 := by
    intro g a0 a1
    have := (g4 g.toNat (by omega)).1.2.2
    rw [show ((g.toNat : Nat) : Int) = g by omega] at this
    exact this
  refine ⟨by omega, by omega, by rw [g0]; exact d5, fun c c0 c1 => ?_, fun g a0 a1 => ?_⟩
  · have x := d8 c.toNat (by omega)
    have y := (g3 c.toNat (by omega)).1
    rw [show ((c.toNat : Nat) : Int) = c by omega] at x y
    obtain ⟨x0, x1, x2, x3, x4, x5⟩ := x
    obtain ⟨y0, y1, y2, y3, y4⟩ := y
    have kr := kind_rg2 (T (pcs T (lP3 T) c.toNat))
    unfold RWc
    rw [x1, x2, x3, x4, x5, y0, y1, y2, y3, y4, sit_no c0 hz]
    exact ⟨by omega, rfl, rfl, rfl, rfl, rfl⟩
  · have x := d9 g.toNat (by omega)
    have y := (g4 g.toNat (by omega)).1
    rw [show ((g.toNat : Nat) : Int) = g by omega] at x y
    obtain ⟨x0, x1, x2, x3⟩ := x
    obtain ⟨y0, y1, y2⟩ := y
    unfold RWg
    rw [y0, y1, y2, if_pos rfl, if_pos rfl]
    exact ⟨x0, x1, x2, x3⟩
theorem XR.roomF {I I' J J' : Nat → Int → Int} {ch : Int → Nat} {kd kd' : Nat → Nat} {T : Int → Int} {z : Int} (h : XR I ch kd J) (f1 : Rg I') (e10 : I' 0 10 = paM T z) (e25 : I' 25 1 = 0) (ff : ∀ a b, (a < 24 ∨ a = 26 ∨ 39 < a) → (a ≠ 0 ∨ b ≠ 10) → I' a b = I a b) (fk : KF kd kd') (hm : RMF J J' T z) : XR I' ch kd' J' := by
  obtain ⟨h1, h2, h3, h4, o1, o2, o3, o4, o5, o6⟩ := h
  obtain ⟨m1, m2, m3, m4, m5⟩ := hm
  refine ⟨f1, m1, ?_, ?_, ?_, ⟨?_, ?_⟩, ?_, ?_, ?_, fun a a0 a1 => fk.2 o6 a a0 a1⟩
  · rw [m5 6 (by decide)]
    obtain ⟨n1, n2, n3, n4⟩ := h3
    have hx : NOWX I ch kd' (J 6) := by
      refine ⟨n1.kd _, ⟨n2.1, n2.2.1, n2.2.2.1, fun c c0 c1 => ?_, n2.2.2.2.2⟩, n3, fun i i0 i1 => ?_⟩
      · have hb := n1.2.2.2 c c0 (by have := n3.2.1; omega)
        unfold RWc
        rw [fk.1 _ (by omega)]
        exact n2.2.2.2.1 c c0 c1
      · have hb := n1.2.2.2 i i0 i1
        rw [fk.1 _ (by omega)]
        exact n4 i i0 i1
    exact hx.fr (fun a b a0 a1 => ff a b (by omega) (by omega))
  · exact h4.fr (fun a a0 => ff a 1 (by omega) (by omega)) (fun a b a0 a1 => ff a b (by omega) (by omega)) (ff 0 8 (by omega) (by omega)) (ff 0 9 (by omega) (by omega)) (m4 17 (by decide)) (m5 9 (by decide))
  · exact o1.fr (fun b => ff _ _ (by omega) (by omega)) (fun a a0 a1 => ff a 1 (by omega) (by omega)) (fun a b a0 a1 a2 => ff a b (by omega) (by omega)) (m5 1 (by decide)) (m5 2 (by decide)) (m5 3 (by decide))
  · rw [ff 0 11 (by omega) (by omega), m4 4 (by decide)]; exact o2.1
  · rw [e10, m2]
  · refine ⟨by rw [e25, m3], by rw [m3]; decide, fun p hp => ?_, fun p p0 hp => ?_⟩
    · rw [m3] at hp
      rw [ff _ _ (by omega) (by omega), m5 5 (by decide)]
      exact o3.2.2.1 p (by have := o3.2.1; omega)
    · rw [m3] at hp; exfalso; omega
  · exact o4.fr (fun a a0 a1 => ff a 1 (by omega) (by omega)) (fun a b a0 a1 a2 => ff a b (by omega) (by omega)) (m5 10 (by decide)) (m5 11 (by decide))
  · exact o5.fr (ff _ _ (by omega) (by omega)) (fun b => ff _ _ (by omega) (by omega)) (m4 23 (by decide)) (m5 14 (by decide))
theorem XR.roomY {I I' J J' : Nat → Int → Int} {ch : Int → Nat} {kd kd' : Nat → Nat} {T : Int → Int} (h : XR I ch kd J) (f1 : Rg I') (hn : NOWX I' ch kd' (J' 6)) (e8 : I' 0 8 = 0) (e9 : I' 0 9 = 0) (e25 : I' 25 1 = 0) (ff : ∀ a b, (a < 13 ∨ a = 26 ∨ 39 < a) → (a ≠ 0 ∨ (b ≠ 8 ∧ b ≠ 9)) → I' a b = I a b) (fk : ∀ a, 35 ≤ a → a ≤ 39 → 8 ≤ kd' a ∧ kd' a ≤ 12) (hm : RMY J J' T) : XR I' ch kd' J' := by
  obtain ⟨h1, h2, h3, h4, o1, o2, o3, o4, o5, o6⟩ := h
  obtain ⟨m1, -, -, -, -, m7, m6, m17, m4, m5⟩ := hm
  refine ⟨f1, m1, hn, ⟨by omega, by omega, by omega, fun i i0 i1 => by exfalso; omega⟩, ?_, ⟨?_, ?_⟩, ?_, ?_, ?_, fk⟩
  · exact o1.fr (fun b => ff _ _ (by omega) (by omega)) (fun a a0 a1 => ff a 1 (by omega) (by omega)) (fun a b a0 a1 a2 => ff a b (by omega) (by omega)) (m5 1 (by decide)) (m5 2 (by decide)) (m5 3 (by decide))
  · rw [ff 0 11 (by omega) (by omega), m4 4 (by decide)]; exact o2.1
  · rw [ff 0 10 (by omega) (by omega), m7]; exact o2.2
  · refine ⟨by rw [e25, m6], by rw [m6]; decide, fun p hp => ?_, fun p p0 hp => ?_⟩
    · rw [m6] at hp
      rw [ff _ _ (by omega) (by omega), m5 5 (by decide)]
      exact o3.2.2.1 p (by have := o3.2.1; omega)
    · rw [m6] at hp; exfalso; omega
  · exact o4.fr (fun a a0 a1 => ff a 1 (by omega) (by omega)) (fun a b a0 a1 a2 => ff a b (by omega) (by omega)) (m5 10 (by decide)) (m5 11 (by decide))
  · exact o5.fr (ff _ _ (by omega) (by omega)) (fun b => ff _ _ (by omega) (by omega)) (m4 23 (by decide)) (m5 14 (by decide))

set_option maxHeartbeats 1000000 in
theorem x_draft {d : Nat} {I : Nat → Int → Int} {ch : Int → Nat} {kd : Nat → Nat} {Q : Option jV → jS → Prop} {w : Int → Int} (hI : Rg I) (hK : ∀ i, 0 ≤ i → i < 5 → 8 ≤ kd (dcc i) ∧ kd (dcc i) ≤ 12) (hR : RW I 29 dcc kd w) (h1 : w 1 ≤ 5) (h2 : w 2 ≤ 5) (hd : 3 ≤ d) (hQ : ∀ I', Rg I' → PGX I' 27 w → (∀ (a : Nat) (b : Int), a ≠ 27 → a ≠ 27 + 1 → I' a b = I a b) → Q (some (vr 27)) (SX I' ch kd)) : Cl d 61 [vr 24] (SX I ch kd) Q := by
  refine ⟨by rw [l61]; exact Nat.le_of_ble_eq_true rfl, ?_⟩
  rw [l61]
  show Ev d 61 0 [some (vr 24)] [] (SX I ch kd) Q
  refine ev_s1 (L' := [some (vr 24)]) (S' := [vr 24]) k61_0 rfl rfl ?_
  refine ev_getR k61_1 (by decide) (rfl) (x_24_2 ch kd) ?_
  refine ev_s1 (L' := [some (vr 24)]) (S' := [vr 24, vr 29]) k61_4 rfl rfl ?_
  refine ev_getR k61_5 (by decide) (rfl) (x_24_1 ch kd) ?_
  refine ev_virt (a := [vr 27]) (S' := []) k61_8 rfl (Nat.le_of_ble_eq_true rfl) (by decide) (rfl) (by omega) ?_
  refine g_writeTo (rm29 ch kd) hI (by omega) ln27 (by omega) hK hR h1 h2 (fun I1 hI1 p1 f1 => ?_)
  show Ev d 61 11 [some (vr 24)] [] (SX I1 ch kd) Q
  refine ev_s1 (L' := [some (vr 24)]) (S' := [vr 24]) k61_11 rfl rfl ?_
  refine ev_getR k61_12 (by decide) (rfl) (x_24_1 ch kd) ?_
  refine ev_areturn k61_15 ?_
  exact hQ _ hI1 p1 f1

set_option maxHeartbeats 2000000 in
theorem s_room {d e : Nat} {I : Nat → Int → Int} {ch : Int → Nat} {kd : Nat → Nat} {J : Nat → Int → Int} {Q : Option jV → jS → Prop} (hX : XR I ch kd J) (hd : 13 ≤ d) (he : 13 ≤ e) (hQ : ∀ I' ch' kd' v, AN e 179 [vr 0] J v I' ch' kd' → Q (some (vi v)) (SX I' ch' kd')) : Cl d 115 [vr 0] (SX I ch kd) Q := by
  obtain ⟨hI, hJ, hN, hA, hO⟩ := id hX
  have hw := hN.2.2.1
  obtain ⟨⟨wa0, wa1⟩, ⟨wb0, wb1⟩, ⟨wc0, wc1⟩, wC, wG, wU⟩ := id hw
  have ht := hO.2.2.1
  have htp := ht.tpe
  have ht2 := ht.2.1
  have ht3 := ht.1
  obtain ⟨T, hTe⟩ : ∃ T, tapF I = T := ⟨_, rfl⟩
  obtain ⟨z, hze⟩ : ∃ z, I 25 1 = z := ⟨_, rfl⟩
  rw [hTe, hze] at htp
  obtain ⟨hR1, hR2⟩ := m_room2 (e := e) hJ htp he
  refine ⟨by rw [l115]; exact Nat.le_of_ble_eq_true rfl, ?_⟩
  rw [l115]
  show Ev d 115 0 [some (vr 0)] [] (SX I ch kd) Q
  refine ev_s1 (L' := [some (vr 0)]) (S' := [vr 0]) k115_0 rfl rfl ?_
  refine ev_getR k115_1 (by decide) (rfl) (x_0_6 ch kd) ?_
  refine ev_virt (a := []) (S' := []) k115_4 rfl (Nat.le_of_ble_eq_true rfl) (by decide) (rfl) (by omega) ?_
  refine g_readTape (T := T) (z := z) (p := I 24 3) (μ := I 24 4) ⟨hI, hTe, hze, rfl, rfl⟩ (by omega) (by omega) (by omega) (fun hp1 I1 kd1 hI1 t31 t41 t51 t61 dr1 f1 kf1 => ?_) (fun hp1 I1 kd1 hI1 t31 t41 t51 t61 dr1 f1 kf1 => ?_)
  · obtain ⟨J1, hm1, hc1⟩ := hR2 hp1
    obtain ⟨-, y2, y3, y4, y5, -⟩ := id hm1
    have hrw := draft_rw dr1 y2 y4 y5
    have hK : ∀ i, 0 ≤ i → i < 5 → 8 ≤ kd1 (dcc i) ∧ kd1 (dcc i) ≤ 12 := fun i i0 i1 => kf1.2 hO.2.2.2.2.2 _ (by unfold dcc; omega) (by unfold dcc; omega)
    show Ev d 115 7 [some (vr 0)] [vi 1] (SX I1 ch kd1) Q
    refine ev_z_ne (t := 32) k115_7 rfl (by omega) (by omega) (fun _ => ?_) (fun h => absurd h (by decide))
    refine ev_s1 (L' := [some (vr 0)]) (S' := [vr 0]) k115_32 rfl rfl ?_
    refine ev_getR k115_33 (by decide) (rfl) (x_0_5 ch kd1) ?_
    refine ev_s1 (L' := [some (vr 0)]) (S' := [vr 0, vr 13]) k115_36 rfl rfl ?_
    refine ev_getR k115_37 (by decide) (rfl) (x_0_6 ch kd1) ?_
    refine ev_virt (a := []) (S' := [vr 13]) k115_40 rfl (Nat.le_of_ble_eq_true rfl) (by decide) (rfl) (by omega) ?_
    refine x_draft (w := J1 6) hI1 hK hrw y3.2.1.2 y3.2.2.1.2 (by omega) (fun I2 hI2 p2 f2 => ?_)
    show Ev d 115 43 [some (vr 0)] [vr 27, vr 13] (SX I2 ch kd1) Q
    refine ev_virt (a := [vr 27]) (S' := []) k115_43 rfl (Nat.le_of_ble_eq_true rfl) (by decide) (rfl) (by omega) ?_
    refine g_readFrom (hN.1.kd kd1) hI2 (by omega) ln27 (by omega) p2 y3.2.1.2 y3.2.2.1.2 (fun I3 kd3 hI3 r3 kk3 f3 k3 => ?_)
    have hN3 : NOWX I3 ch kd3 (J1 6) := ⟨hN.1.kd _, r3, y3, kk3⟩
    show Ev d 115 46 [some (vr 0)] [] (SX I3 ch kd3) Q
    refine ev_s1 (L' := [some (vr 0)]) (S' := [vr 0]) k115_46 rfl rfl ?_
    refine ev_virt (a := []) (S' := []) k115_47 rfl (Nat.le_of_ble_eq_true rfl) (by decide) (rfl) (by omega) ?_
    refine x_forget hI3 (fun I4 hI4 z84 z94 f4 => ?_)
    have hN4 := hN3.fr (I' := I4) (fun a b a0 a1 => f4 a b (by omega))
    show Ev d 115 50 [some (vr 0)] [] (SX I4 ch kd3) Q
    refine ev_s1 (L' := [some (vr 0)]) (S' := [vr 0]) k115_50 rfl rfl ?_
    refine ev_getR k115_51 (by decide) (rfl) (x_0_5 ch kd3) ?_
    refine ev_getI k115_54 (by decide) (rfl) ?_
    show Ev d 115 57 [some (vr 0)] [vi (I4 13 6)] (SX I4 ch kd3) Q
    have rr5 := hI4 13 6
    rw [f4 13 6 (by omega), hN3.2.1.1]
    rw [f4 13 6 (by omega), hN3.2.1.1] at rr5
    refine ev_ireturn k115_57 ?_
    rw [y4]
    refine hQ _ _ _ _ (hc1.mono (fun r σ hr => ⟨J1, hr.1, hr.2, hX.roomY hI4 hN4 z84 z94 (((f4 25 1 (by omega)).trans ((f3 25 1 (by omega) (by omega)).trans ((f2 25 1 (by omega) (by omega))))).trans t51) (fun a b q1 q2 => (f4 a b (by omega)).trans ((f3 a b (by omega) (by omega)).trans ((f2 a b (by omega) (by omega)).trans (f1 a b (by omega))))) (fun a a0 a1 => ?_) hm1⟩))
    rw [k3 a (by omega)]
    exact kf1.2 hO.2.2.2.2.2 a a0 a1
  · show Ev d 115 7 [some (vr 0)] [vi 0] (SX I1 ch kd1) Q
    refine ev_z_ne (t := 32) k115_7 rfl (by omega) (by omega) (fun h => absurd h (by decide)) (fun _ => ?_)
    refine ev_s1 (L' := [some (vr 0)]) (S' := [vr 0]) k115_10 rfl rfl ?_
    refine ev_s1 (L' := [some (vr 0)]) (S' := [vr 0, vr 0]) k115_11 rfl rfl ?_
    refine ev_getR k115_12 (by decide) (rfl) (x_0_6 ch kd1) ?_
    refine ev_getI k115_15 (by decide) (rfl) ?_
    show Ev d 115 18 [some (vr 0)] [vi (I1 24 4), vr 0] (SX I1 ch kd1) Q
    have rr6 := hI1 24 4
    rw [t41]
    rw [t41] at rr6
    refine ev_putI k115_18 (by decide) (rfl) ?_
    show Ev d 115 21 [some (vr 0)] [] (SX (up I1 0 10 (paM T z)) ch kd1) Q
    have hI7 := rg_up hI1 (k := 0) (j := 10) (z := paM T z) (by omega) (by omega)
    generalize hE7 : up I1 0 10 (paM T z) = I7 at hI7 ⊢
    have g7 : ∀ (a : Nat) (b : Int), (a ≠ 0 ∨ b ≠ 10) → I7 a b = I1 a b := fun a b h => by rw [← hE7]; exact upN h
    have e7 : I7 0 10 = paM T z := by rw [← hE7]; exact upE rfl rfl
    clear hE7
    refine ev_ldc k115_21 ?_
    refine ev_s1 (L' := [some (vr 0)]) (S' := [vr 0, vi (-1000100)]) k115_23 rfl rfl ?_
    refine ev_getR k115_24 (by decide) (rfl) (x_0_6 ch kd1) ?_
    refine ev_getI k115_27 (by decide) (rfl) ?_
    show Ev d 115 30 [some (vr 0)] [vi (I7 24 3), vi (-1000100)] (SX I7 ch kd1) Q
    have rr8 := hI7 24 3
    rw [g7 24 3 (Or.inl (by decide)), t31]
    rw [g7 24 3 (Or.inl (by decide)), t31] at rr8
    refine ev_s1 (L' := [some (vr 0)]) (S' := [vi ((-1000100) - ((paG T).1))]) k115_30 rfl rfl ?_
    refine ev_ireturn k115_31 ?_
    obtain ⟨J1, hm1, hc1⟩ := hR1 hp1
    refine hQ _ _ _ _ (hc1.mono (fun r σ hr => ⟨J1, hr.1, hr.2, hX.roomF hI7 e7 ?_ (fun a b q1 q2 => ?_) kf1 hm1⟩))
    · rw [g7 25 1 (by omega)]; exact t51
    · rw [g7 a b (by omega)]; exact f1 a b (by omega)
