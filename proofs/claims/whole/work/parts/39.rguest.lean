/-- a guest read from his letter's place on -/
def gP1 (T : Int → Int) (p : Int) : Int := nuP T (p + 1) 0 0 9
def gM1 (T : Int → Int) (p : Int) : Int := nuM T (p + 1) 0 0 9
def gP2 (T : Int → Int) (p : Int) : Int := sgP T (gP1 T p) (gM1 T p) 44
def gM2 (T : Int → Int) (p : Int) : Int := sgM T (gP1 T p) (gM1 T p) 44
def gP3 (T : Int → Int) (p : Int) : Int := nuP T (gP2 T p) (gM2 T p) 1 9
def gM3 (T : Int → Int) (p : Int) : Int := nuM T (gP2 T p) (gM2 T p) 1 9
def gP4 (T : Int → Int) (p : Int) : Int := sgP T (gP3 T p) (gM3 T p) 59
def gM4 (T : Int → Int) (p : Int) : Int := sgM T (gP3 T p) (gM3 T p) 59
def gV1 (T : Int → Int) (p : Int) : Int := nuV T (p + 1) 0 0
def gV2 (T : Int → Int) (p : Int) : Int := nuV T (gP2 T p) (gM2 T p) 1
theorem g_all {I : Nat → Int → Int} {p : Int} (p0 : 0 ≤ p) (p1 : p < I 25 1) : ((0 ≤ gP1 (tapF I) p ∧ gP1 (tapF I) p ≤ I 25 1) ∧ 0 ≤ gM1 (tapF I) p ∧ gM1 (tapF I) p ≤ 3) ∧ ((0 ≤ gP2 (tapF I) p ∧ gP2 (tapF I) p ≤ I 25 1) ∧ 0 ≤ gM2 (tapF I) p ∧ gM2 (tapF I) p ≤ 3) ∧ ((0 ≤ gP3 (tapF I) p ∧ gP3 (tapF I) p ≤ I 25 1) ∧ 0 ≤ gM3 (tapF I) p ∧ gM3 (tapF I) p ≤ 3) ∧ ((0 ≤ gP4 (tapF I) p ∧ gP4 (tapF I) p ≤ I 25 1) ∧ 0 ≤ gM4 (tapF I) p ∧ gM4 (tapF I) p ≤ 3) := by
  have h1 : (0 ≤ gP1 (tapF I) p ∧ gP1 (tapF I) p ≤ I 25 1) ∧ 0 ≤ gM1 (tapF I) p ∧ gM1 (tapF I) p ≤ 3 := nu_rng (by omega) (by omega) (by decide) (by decide)
  have h2 : (0 ≤ gP2 (tapF I) p ∧ gP2 (tapF I) p ≤ I 25 1) ∧ 0 ≤ gM2 (tapF I) p ∧ gM2 (tapF I) p ≤ 3 := sg_rng (by decide) h1.1.1 h1.1.2 h1.2.1 h1.2.2
  have h3 : (0 ≤ gP3 (tapF I) p ∧ gP3 (tapF I) p ≤ I 25 1) ∧ 0 ≤ gM3 (tapF I) p ∧ gM3 (tapF I) p ≤ 3 := nu_rng h2.1.1 h2.1.2 h2.2.1 h2.2.2
  exact ⟨h1, h2, h3, sg_rng (by decide) h3.1.1 h3.1.2 h3.2.1 h3.2.2⟩
theorem g_ok {T : Int → Int} {p : Int} (h : gM4 T p = 0) : 0 ≤ gV1 T p ∧ gV1 T p ≤ 9 ∧ 1 ≤ gV2 T p ∧ gV2 T p ≤ 9 := by
  have h3 := (sg_ok h).1
  have g3 := nu_ok h3
  have h1 := (sg_ok g3.1).1
  have g1 := nu_ok h1
  exact ⟨g1.2.1, g1.2.2, g3.2.1, g3.2.2⟩
/-- a guest of a room is told -/
def adG (I : Nat → Int → Int) (ρ : Nat) (n ow wi : Int) : Nat → Int → Int := up (up (up (up (up I (ρ + 2) n ow) (ρ + 3) n wi) (ρ + 4) n (-1000000)) (ρ + 5) n (-1000000)) ρ 7 (n + 1)

set_option maxHeartbeats 4000000 in
theorem c_readGuest {d : Nat} {I : Nat → Int → Int} {ch : Int → Nat} {kd : Nat → Nat} {Q : Option jV → jS → Prop} (hI : Rg I) (z0 : 0 ≤ I 25 1) (z1 : I 25 1 ≤ 100) {p : Int} (p0 : 0 ≤ p) (pz : p < I 25 1) (n0 : 0 ≤ I 29 7) (hX : 5 ≤ I 29 7 → Q none (SX (rdst I p 3) ch kd)) (hB : I 29 7 < 5 → gM4 (tapF I) p ≠ 0 → Q none (SX (rdst I (gP4 (tapF I) p) (gM4 (tapF I) p)) ch kd)) (hG : I 29 7 < 5 → gM4 (tapF I) p = 0 → Q none (SX (adG (rdst I (gP4 (tapF I) p) (gM4 (tapF I) p)) 29 (I 29 7) (gV1 (tapF I) p) (gV2 (tapF I) p)) ch kd)) (hd : 4 ≤ d) : Cl d 66 [vr 24] (SX (rdst I p 0) ch kd) Q := by
  obtain ⟨a1, a2, a3, a4⟩ := g_all p0 pz
  have ok := @g_ok (tapF I) p
  have nr := hI 29 7
  refine ⟨by rw [l66]; exact Nat.le_of_ble_eq_true rfl, ?_⟩
  rw [l66]
  show Ev d 66 0 [some (vr 24), none, none] [] (SX (rdst I p 0) ch kd) Q
  refine ev_s1 (L' := [some (vr 24), none, none]) (S' := [vr 24]) k66_0 rfl rfl ?_
  refine ev_getR k66_1 (by decide) (rfl) (x_24_2 ch kd) ?_
  refine ev_getI k66_4 (by decide) (rfl) ?_
  show Ev d 66 7 [some (vr 24), none, none] [vi (rdst I p 0 29 7)] (SX (rdst I p 0) ch kd) Q
  have rr1 := (rdst_rg hI (p := p) (μ := 0) (by omega) (by omega) (by omega) (by omega)) 29 7
  rw [(rdst_o (by decide) : rdst I p 0 29 7 = I 29 7)]
  rw [(rdst_o (by decide) : rdst I p 0 29 7 = I 29 7)] at rr1
  refine ev_s1 (L' := [some (vr 24), none, none]) (S' := [vi 5, vi (I 29 7)]) k66_7 rfl rfl ?_
  refine ev_c_lt (t := 17) k66_8 rfl (by omega) (by omega) (by omega) (by omega) (fun h2 => ?_) (fun h2 => ?_)
  · refine ev_s1 (L' := [some (vr 24), none, none]) (S' := [vr 24]) k66_17 rfl rfl ?_
    refine ev_s1 (L' := [some (vr 24), none, none]) (S' := [vr 24, vr 24]) k66_18 rfl rfl ?_
    refine ev_getI k66_19 (by decide) (rfl) ?_
    show Ev d 66 22 [some (vr 24), none, none] [vi (rdst I p 0 24 3), vr 24] (SX (rdst I p 0) ch kd) Q
    have rr3 := (rdst_rg hI (p := p) (μ := 0) (by omega) (by omega) (by omega) (by omega)) 24 3
    rw [(rdst_p : rdst I p 0 24 3 = p)]
    rw [(rdst_p : rdst I p 0 24 3 = p)] at rr3
    refine ev_s1 (L' := [some (vr 24), none, none]) (S' := [vi 1, vi p, vr 24]) k66_22 rfl rfl ?_
    refine ev_s1 (L' := [some (vr 24), none, none]) (S' := [vi (p + 1), vr 24]) k66_23 rfl rfl ?_
    refine ev_putI k66_24 (by decide) (rfl) ?_
    show Ev d 66 27 [some (vr 24), none, none] [] (SX (up (rdst I p 0) 24 3 (p + 1)) ch kd) Q
    rw [rdst_up3]
    refine ev_s1 (L' := [some (vr 24), none, none]) (S' := [vr 24]) k66_27 rfl rfl ?_
    refine ev_s1 (L' := [some (vr 24), none, none]) (S' := [vi 0, vr 24]) k66_28 rfl rfl ?_
    refine ev_s1 (L' := [some (vr 24), none, none]) (S' := [vi 9, vi 0, vr 24]) k66_29 rfl rfl ?_
    refine ev_virt (a := [vi 0, vi 9]) (S' := []) k66_31 rfl (Nat.le_of_ble_eq_true rfl) (by decide) (rfl) (by omega) ?_
    refine c_number hI z0 z1 (p := p + 1) (μ := 0) (by omega) (by omega) (by omega) (by omega) (by omega) (lo := 0) (hi := 9) (by decide) (by decide) (by decide) (by decide) (?_)
    show Ev d 66 34 [some (vr 24), none, none] [vi (gV1 (tapF I) p)] (SX (rdst I (gP1 (tapF I) p) (gM1 (tapF I) p)) ch kd) Q
    refine ev_s1 (L' := [some (vr 24), some (vi (gV1 (tapF I) p)), none]) (S' := []) k66_34 rfl rfl ?_
    refine ev_s1 (L' := [some (vr 24), some (vi (gV1 (tapF I) p)), none]) (S' := [vr 24]) k66_35 rfl rfl ?_
    refine ev_s1 (L' := [some (vr 24), some (vi (gV1 (tapF I) p)), none]) (S' := [vi 44, vr 24]) k66_36 rfl rfl ?_
    refine ev_virt (a := [vi 44]) (S' := []) k66_38 rfl (Nat.le_of_ble_eq_true rfl) (by decide) (rfl) (by omega) ?_
    refine c_sign hI z0 z1 (p := gP1 (tapF I) p) (μ := gM1 (tapF I) p) (by omega) (by omega) (by omega) (by omega) (by omega) (s := 44) (by decide) (by decide) (?_)
    show Ev d 66 41 [some (vr 24), some (vi (gV1 (tapF I) p)), none] [] (SX (rdst I (gP2 (tapF I) p) (gM2 (tapF I) p)) ch kd) Q
    refine ev_s1 (L' := [some (vr 24), some (vi (gV1 (tapF I) p)), none]) (S' := [vr 24]) k66_41 rfl rfl ?_
    refine ev_s1 (L' := [some (vr 24), some (vi (gV1 (tapF I) p)), none]) (S' := [vi 1, vr 24]) k66_42 rfl rfl ?_
    refine ev_s1 (L' := [some (vr 24), some (vi (gV1 (tapF I) p)), none]) (S' := [vi 9, vi 1, vr 24]) k66_43 rfl rfl ?_
    refine ev_virt (a := [vi 1, vi 9]) (S' := []) k66_45 rfl (Nat.le_of_ble_eq_true rfl) (by decide) (rfl) (by omega) ?_
    refine c_number hI z0 z1 (p := gP2 (tapF I) p) (μ := gM2 (tapF I) p) (by omega) (by omega) (by omega) (by omega) (by omega) (lo := 1) (hi := 9) (by decide) (by decide) (by decide) (by decide) (?_)
    show Ev d 66 48 [some (vr 24), some (vi (gV1 (tapF I) p)), none] [vi (gV2 (tapF I) p)] (SX (rdst I (gP3 (tapF I) p) (gM3 (tapF I) p)) ch kd) Q
    refine ev_s1 (L' := [some (vr 24), some (vi (gV1 (tapF I) p)), some (vi (gV2 (tapF I) p))]) (S' := []) k66_48 rfl rfl ?_
    refine ev_s1 (L' := [some (vr 24), some (vi (gV1 (tapF I) p)), some (vi (gV2 (tapF I) p))]) (S' := [vr 24]) k66_49 rfl rfl ?_
    refine ev_s1 (L' := [some (vr 24), some (vi (gV1 (tapF I) p)), some (vi (gV2 (tapF I) p))]) (S' := [vi 59, vr 24]) k66_50 rfl rfl ?_
    refine ev_virt (a := [vi 59]) (S' := []) k66_52 rfl (Nat.le_of_ble_eq_true rfl) (by decide) (rfl) (by omega) ?_
    refine c_sign hI z0 z1 (p := gP3 (tapF I) p) (μ := gM3 (tapF I) p) (by omega) (by omega) (by omega) (by omega) (by omega) (s := 59) (by decide) (by decide) (?_)
    show Ev d 66 55 [some (vr 24), some (vi (gV1 (tapF I) p)), some (vi (gV2 (tapF I) p))] [] (SX (rdst I (gP4 (tapF I) p) (gM4 (tapF I) p)) ch kd) Q
    refine ev_s1 (L' := [some (vr 24), some (vi (gV1 (tapF I) p)), some (vi (gV2 (tapF I) p))]) (S' := [vr 24]) k66_55 rfl rfl ?_
    refine ev_getI k66_56 (by decide) (rfl) ?_
    show Ev d 66 59 [some (vr 24), some (vi (gV1 (tapF I) p)), some (vi (gV2 (tapF I) p))] [vi (rdst I (gP4 (tapF I) p) (gM4 (tapF I) p) 24 4)] (SX (rdst I (gP4 (tapF I) p) (gM4 (tapF I) p)) ch kd) Q
    have rr4 := (rdst_rg hI (p := gP4 (tapF I) p) (μ := gM4 (tapF I) p) (by omega) (by omega) (by omega) (by omega)) 24 4
    rw [(rdst_m : rdst I (gP4 (tapF I) p) (gM4 (tapF I) p) 24 4 = gM4 (tapF I) p)]
    rw [(rdst_m : rdst I (gP4 (tapF I) p) (gM4 (tapF I) p) 24 4 = gM4 (tapF I) p)] at rr4
    refine ev_z_ne (t := 71) k66_59 rfl (by omega) (by omega) (fun h5 => ?_) (fun h5 => ?_)
    · refine ev_return k66_71 ?_
      exact hB (by omega) (by omega)
    · refine ev_s1 (L' := [some (vr 24), some (vi (gV1 (tapF I) p)), some (vi (gV2 (tapF I) p))]) (S' := [vr 24]) k66_62 rfl rfl ?_
      refine ev_getR k66_63 (by decide) (rfl) (x_24_2 ch kd) ?_
      refine ev_s1 (L' := [some (vr 24), some (vi (gV1 (tapF I) p)), some (vi (gV2 (tapF I) p))]) (S' := [vi (gV1 (tapF I) p), vr 29]) k66_66 rfl rfl ?_
      refine ev_s1 (L' := [some (vr 24), some (vi (gV1 (tapF I) p)), some (vi (gV2 (tapF I) p))]) (S' := [vi (gV2 (tapF I) p), vi (gV1 (tapF I) p), vr 29]) k66_67 rfl rfl ?_
      refine ev_virt (a := [vi (gV1 (tapF I) p), vi (gV2 (tapF I) p)]) (S' := []) k66_68 rfl (Nat.le_of_ble_eq_true rfl) (by decide) (rfl) (by omega) ?_
      refine c_addGuest (rm29 ch kd) (rdst_rg hI (p := gP4 (tapF I) p) (μ := gM4 (tapF I) p) (by omega) (by omega) (by omega) (by omega)) (by rw [rdst_o (by decide)]; omega) (by rw [rdst_o (by decide)]; omega) (ow := gV1 (tapF I) p) (wi := gV2 (tapF I) p) (by omega) (by omega) (by omega) (by omega) (?_)
      rw [show rdst I (gP4 (tapF I) p) (gM4 (tapF I) p) 29 7 = I 29 7 from rdst_o (by decide)]
      show Ev d 66 71 [some (vr 24), some (vi (gV1 (tapF I) p)), some (vi (gV2 (tapF I) p))] [] (SX (adG (rdst I (gP4 (tapF I) p) (gM4 (tapF I) p)) 29 (I 29 7) (gV1 (tapF I) p) (gV2 (tapF I) p)) ch kd) Q
      refine ev_return k66_71 ?_
      exact hG (by omega) (by omega)
  · refine ev_s1 (L' := [some (vr 24), none, none]) (S' := [vr 24]) k66_11 rfl rfl ?_
    refine ev_s1 (L' := [some (vr 24), none, none]) (S' := [vi 3, vr 24]) k66_12 rfl rfl ?_
    refine ev_virt (a := [vi 3]) (S' := []) k66_13 rfl (Nat.le_of_ble_eq_true rfl) (by decide) (rfl) (by omega) ?_
    refine c_fail (rdst_rg hI (p := p) (μ := 0) (by omega) (by omega) (by omega) (by omega)) (b := 3) (by decide) (by decide) (fun _ => ?_) (fun hh => absurd rdst_m hh)
    rw [rdst_up4]
    show Ev d 66 16 [some (vr 24), none, none] [] (SX (rdst I p 3) ch kd) Q
    refine ev_return k66_16 ?_
    exact hX (by omega)
