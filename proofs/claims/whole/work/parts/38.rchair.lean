def dcc (i : Int) : Nat := 35 + i.toNat
theorem rm29 (ch : Int → Nat) (kd : Nat → Nat) : isRm 29 dcc ch kd := by
  refine ⟨Or.inr (Or.inl rfl), fun i h0 h1 => ⟨?_, ?_⟩, fun i j h0 h1 h2 h3 e => ?_, fun i h0 h1 => ?_⟩
  · simp [rX, isCh, isLn, h0, h1, dcc]
  · unfold dcc
    rcases (show i = 0 ∨ i = 1 ∨ i = 2 ∨ i = 3 ∨ i = 4 by omega) with rfl | rfl | rfl | rfl | rfl <;> rfl
  · unfold dcc at e; omega
  · unfold dcc; omega
theorem kind_rng (b : Int) : 0 ≤ kindF b ∧ kindF b ≤ 5 := by
  unfold kindF
  repeat' split
  all_goals omega
theorem kind_tap {b : Int} (h : kindF b ≠ 0) : b ≠ -1 := by
  intro q
  subst q
  exact h (by decide)
/-- a chair of a room is told -/
def adC (I : Nat → Int → Int) (ρ c : Nat) (mn st su : Int) : Nat → Int → Int := up (up (up (up (up (up I c 1 mn) c 2 st) c 3 su) c 4 0) c 5 (-1000000)) ρ 6 (I ρ 6 + 1)

set_option maxHeartbeats 4000000 in
theorem c_readChair {d : Nat} {I : Nat → Int → Int} {ch : Int → Nat} {kd : Nat → Nat} {Q : Option jV → jS → Prop} (hI : Rg I) (z0 : 0 ≤ I 25 1) (z1 : I 25 1 ≤ 100) {p : Int} (p0 : 0 ≤ p) (hk : kindF (tapF I p) ≠ 0) (n0 : 0 ≤ I 29 6) (hX : 5 ≤ I 29 6 → Q none (SX (rdst I p 3) ch kd)) (hB : I 29 6 < 5 → cM6 (tapF I) p ≠ 0 → Q none (SX (rdst I (cP6 (tapF I) p) (cM6 (tapF I) p)) ch kd)) (hG : I 29 6 < 5 → cM6 (tapF I) p = 0 → Q none (SX (adC (rdst I (cP6 (tapF I) p) (cM6 (tapF I) p)) 29 (dcc (I 29 6)) (cV1 (tapF I) p) (cV2 (tapF I) p) (cV3 (tapF I) p)) ch (kdU kd (dcc (I 29 6)) (7 + Int.toNat (kindF (tapF I p)))))) (hd : 4 ≤ d) : Cl d 64 [vr 24] (SX (rdst I p 0) ch kd) Q := by
  have tr := tap_rg hI p
  have pz := tap_end (kind_tap hk)
  have kr := kind_rng (tapF I p)
  obtain ⟨a1, a2, a3, a4, a5, a6⟩ := c_all p0 pz
  have ok := @c_ok (tapF I) p
  have nr := hI 29 6
  refine ⟨by rw [l64]; exact Nat.le_of_ble_eq_true rfl, ?_⟩
  rw [l64]
  show Ev d 64 0 [some (vr 24), none, none, none, none] [] (SX (rdst I p 0) ch kd) Q
  refine ev_s1 (L' := [some (vr 24), none, none, none, none]) (S' := [vr 24]) k64_0 rfl rfl ?_
  refine ev_getR k64_1 (by decide) (rfl) (x_24_2 ch kd) ?_
  refine ev_getI k64_4 (by decide) (rfl) ?_
  show Ev d 64 7 [some (vr 24), none, none, none, none] [vi (rdst I p 0 29 6)] (SX (rdst I p 0) ch kd) Q
  have rr1 := (rdst_rg hI (p := p) (μ := 0) (by omega) (by omega) (by omega) (by omega)) 29 6
  rw [(rdst_o (by decide) : rdst I p 0 29 6 = I 29 6)]
  rw [(rdst_o (by decide) : rdst I p 0 29 6 = I 29 6)] at rr1
  refine ev_s1 (L' := [some (vr 24), none, none, none, none]) (S' := [vi 5, vi (I 29 6)]) k64_7 rfl rfl ?_
  refine ev_c_lt (t := 17) k64_8 rfl (by omega) (by omega) (by omega) (by omega) (fun h2 => ?_) (fun h2 => ?_)
  · refine ev_s1 (L' := [some (vr 24), none, none, none, none]) (S' := [vr 24]) k64_17 rfl rfl ?_
    refine ev_virt (a := []) (S' := []) k64_18 rfl (Nat.le_of_ble_eq_true rfl) (by decide) (rfl) (by omega) ?_
    refine c_ahead (rdst_rg hI (p := p) (μ := 0) (by omega) (by omega) (by omega) (by omega)) (by rw [rdst_o (by decide)]; exact z0) (by rw [rdst_o (by decide)]; exact z1) (by omega) (by rw [rdst_p]; omega) (by rw [rdst_p]; omega) (?_)
    rw [tap_rdst, rdst_p]
    show Ev d 64 21 [some (vr 24), none, none, none, none] [vi (tapF I p)] (SX (rdst I p 0) ch kd) Q
    refine ev_static (a := [vi (tapF I p)]) (S' := []) k64_21 rfl (Nat.le_of_ble_eq_true rfl) (by omega) ?_
    refine c_kindBy (rdst_rg hI (p := p) (μ := 0) (by omega) (by omega) (by omega) (by omega)) (b := tapF I p) (by omega) (by omega) (?_)
    show Ev d 64 24 [some (vr 24), none, none, none, none] [vi (kindF (tapF I p))] (SX (rdst I p 0) ch kd) Q
    refine ev_s1 (L' := [some (vr 24), some (vi (kindF (tapF I p))), none, none, none]) (S' := []) k64_24 rfl rfl ?_
    refine ev_s1 (L' := [some (vr 24), some (vi (kindF (tapF I p))), none, none, none]) (S' := [vr 24]) k64_25 rfl rfl ?_
    refine ev_s1 (L' := [some (vr 24), some (vi (kindF (tapF I p))), none, none, none]) (S' := [vr 24, vr 24]) k64_26 rfl rfl ?_
    refine ev_getI k64_27 (by decide) (rfl) ?_
    show Ev d 64 30 [some (vr 24), some (vi (kindF (tapF I p))), none, none, none] [vi (rdst I p 0 24 3), vr 24] (SX (rdst I p 0) ch kd) Q
    have rr3 := (rdst_rg hI (p := p) (μ := 0) (by omega) (by omega) (by omega) (by omega)) 24 3
    rw [(rdst_p : rdst I p 0 24 3 = p)]
    rw [(rdst_p : rdst I p 0 24 3 = p)] at rr3
    refine ev_s1 (L' := [some (vr 24), some (vi (kindF (tapF I p))), none, none, none]) (S' := [vi 1, vi p, vr 24]) k64_30 rfl rfl ?_
    refine ev_s1 (L' := [some (vr 24), some (vi (kindF (tapF I p))), none, none, none]) (S' := [vi (p + 1), vr 24]) k64_31 rfl rfl ?_
    refine ev_putI k64_32 (by decide) (rfl) ?_
    show Ev d 64 35 [some (vr 24), some (vi (kindF (tapF I p))), none, none, none] [] (SX (up (rdst I p 0) 24 3 (p + 1)) ch kd) Q
    rw [rdst_up3]
    refine ev_s1 (L' := [some (vr 24), some (vi (kindF (tapF I p))), none, none, none]) (S' := [vr 24]) k64_35 rfl rfl ?_
    refine ev_s1 (L' := [some (vr 24), some (vi (kindF (tapF I p))), none, none, none]) (S' := [vi 0, vr 24]) k64_36 rfl rfl ?_
    refine ev_s1 (L' := [some (vr 24), some (vi (kindF (tapF I p))), none, none, none]) (S' := [vi 9, vi 0, vr 24]) k64_37 rfl rfl ?_
    refine ev_virt (a := [vi 0, vi 9]) (S' := []) k64_39 rfl (Nat.le_of_ble_eq_true rfl) (by decide) (rfl) (by omega) ?_
    refine c_number hI z0 z1 (p := p + 1) (μ := 0) (by omega) (by omega) (by omega) (by omega) (by omega) (lo := 0) (hi := 9) (by decide) (by decide) (by decide) (by decide) (?_)
    show Ev d 64 42 [some (vr 24), some (vi (kindF (tapF I p))), none, none, none] [vi (cV1 (tapF I) p)] (SX (rdst I (cP1 (tapF I) p) (cM1 (tapF I) p)) ch kd) Q
    refine ev_s1 (L' := [some (vr 24), some (vi (kindF (tapF I p))), some (vi (cV1 (tapF I) p)), none, none]) (S' := []) k64_42 rfl rfl ?_
    refine ev_s1 (L' := [some (vr 24), some (vi (kindF (tapF I p))), some (vi (cV1 (tapF I) p)), none, none]) (S' := [vr 24]) k64_43 rfl rfl ?_
    refine ev_s1 (L' := [some (vr 24), some (vi (kindF (tapF I p))), some (vi (cV1 (tapF I) p)), none, none]) (S' := [vi 44, vr 24]) k64_44 rfl rfl ?_
    refine ev_virt (a := [vi 44]) (S' := []) k64_46 rfl (Nat.le_of_ble_eq_true rfl) (by decide) (rfl) (by omega) ?_
    refine c_sign hI z0 z1 (p := cP1 (tapF I) p) (μ := cM1 (tapF I) p) (by omega) (by omega) (by omega) (by omega) (by omega) (s := 44) (by decide) (by decide) (?_)
    show Ev d 64 49 [some (vr 24), some (vi (kindF (tapF I p))), some (vi (cV1 (tapF I) p)), none, none] [] (SX (rdst I (cP2 (tapF I) p) (cM2 (tapF I) p)) ch kd) Q
    refine ev_s1 (L' := [some (vr 24), some (vi (kindF (tapF I p))), some (vi (cV1 (tapF I) p)), none, none]) (S' := [vr 24]) k64_49 rfl rfl ?_
    refine ev_s1 (L' := [some (vr 24), some (vi (kindF (tapF I p))), some (vi (cV1 (tapF I) p)), none, none]) (S' := [vi 0, vr 24]) k64_50 rfl rfl ?_
    refine ev_s1 (L' := [some (vr 24), some (vi (kindF (tapF I p))), some (vi (cV1 (tapF I) p)), none, none]) (S' := [vi 16, vi 0, vr 24]) k64_51 rfl rfl ?_
    refine ev_virt (a := [vi 0, vi 16]) (S' := []) k64_53 rfl (Nat.le_of_ble_eq_true rfl) (by decide) (rfl) (by omega) ?_
    refine c_number hI z0 z1 (p := cP2 (tapF I) p) (μ := cM2 (tapF I) p) (by omega) (by omega) (by omega) (by omega) (by omega) (lo := 0) (hi := 16) (by decide) (by decide) (by decide) (by decide) (?_)
    show Ev d 64 56 [some (vr 24), some (vi (kindF (tapF I p))), some (vi (cV1 (tapF I) p)), none, none] [vi (cV2 (tapF I) p)] (SX (rdst I (cP3 (tapF I) p) (cM3 (tapF I) p)) ch kd) Q
    refine ev_s1 (L' := [some (vr 24), some (vi (kindF (tapF I p))), some (vi (cV1 (tapF I) p)), some (vi (cV2 (tapF I) p)), none]) (S' := []) k64_56 rfl rfl ?_
    refine ev_s1 (L' := [some (vr 24), some (vi (kindF (tapF I p))), some (vi (cV1 (tapF I) p)), some (vi (cV2 (tapF I) p)), none]) (S' := [vr 24]) k64_57 rfl rfl ?_
    refine ev_s1 (L' := [some (vr 24), some (vi (kindF (tapF I p))), some (vi (cV1 (tapF I) p)), some (vi (cV2 (tapF I) p)), none]) (S' := [vi 44, vr 24]) k64_58 rfl rfl ?_
    refine ev_virt (a := [vi 44]) (S' := []) k64_60 rfl (Nat.le_of_ble_eq_true rfl) (by decide) (rfl) (by omega) ?_
    refine c_sign hI z0 z1 (p := cP3 (tapF I) p) (μ := cM3 (tapF I) p) (by omega) (by omega) (by omega) (by omega) (by omega) (s := 44) (by decide) (by decide) (?_)
    show Ev d 64 63 [some (vr 24), some (vi (kindF (tapF I p))), some (vi (cV1 (tapF I) p)), some (vi (cV2 (tapF I) p)), none] [] (SX (rdst I (cP4 (tapF I) p) (cM4 (tapF I) p)) ch kd) Q
    refine ev_s1 (L' := [some (vr 24), some (vi (kindF (tapF I p))), some (vi (cV1 (tapF I) p)), some (vi (cV2 (tapF I) p)), none]) (S' := [vr 24]) k64_63 rfl rfl ?_
    refine ev_s1 (L' := [some (vr 24), some (vi (kindF (tapF I p))), some (vi (cV1 (tapF I) p)), some (vi (cV2 (tapF I) p)), none]) (S' := [vi 0, vr 24]) k64_64 rfl rfl ?_
    refine ev_s1 (L' := [some (vr 24), some (vi (kindF (tapF I p))), some (vi (cV1 (tapF I) p)), some (vi (cV2 (tapF I) p)), none]) (S' := [vi 3, vi 0, vr 24]) k64_65 rfl rfl ?_
    refine ev_virt (a := [vi 0, vi 3]) (S' := []) k64_66 rfl (Nat.le_of_ble_eq_true rfl) (by decide) (rfl) (by omega) ?_
    refine c_number hI z0 z1 (p := cP4 (tapF I) p) (μ := cM4 (tapF I) p) (by omega) (by omega) (by omega) (by omega) (by omega) (lo := 0) (hi := 3) (by decide) (by decide) (by decide) (by decide) (?_)
    show Ev d 64 69 [some (vr 24), some (vi (kindF (tapF I p))), some (vi (cV1 (tapF I) p)), some (vi (cV2 (tapF I) p)), none] [vi (cV3 (tapF I) p)] (SX (rdst I (cP5 (tapF I) p) (cM5 (tapF I) p)) ch kd) Q
    refine ev_s1 (L' := [some (vr 24), some (vi (kindF (tapF I p))), some (vi (cV1 (tapF I) p)), some (vi (cV2 (tapF I) p)), some (vi (cV3 (tapF I) p))]) (S' := []) k64_69 rfl rfl ?_
    refine ev_s1 (L' := [some (vr 24), some (vi (kindF (tapF I p))), some (vi (cV1 (tapF I) p)), some (vi (cV2 (tapF I) p)), some (vi (cV3 (tapF I) p))]) (S' := [vr 24]) k64_71 rfl rfl ?_
    refine ev_s1 (L' := [some (vr 24), some (vi (kindF (tapF I p))), some (vi (cV1 (tapF I) p)), some (vi (cV2 (tapF I) p)), some (vi (cV3 (tapF I) p))]) (S' := [vi 59, vr 24]) k64_72 rfl rfl ?_
    refine ev_virt (a := [vi 59]) (S' := []) k64_74 rfl (Nat.le_of_ble_eq_true rfl) (by decide) (rfl) (by omega) ?_
    refine c_sign hI z0 z1 (p := cP5 (tapF I) p) (μ := cM5 (tapF I) p) (by omega) (by omega) (by omega) (by omega) (by omega) (s := 59) (by decide) (by decide) (?_)
    show Ev d 64 77 [some (vr 24), some (vi (kindF (tapF I p))), some (vi (cV1 (tapF I) p)), some (vi (cV2 (tapF I) p)), some (vi (cV3 (tapF I) p))] [] (SX (rdst I (cP6 (tapF I) p) (cM6 (tapF I) p)) ch kd) Q
    refine ev_s1 (L' := [some (vr 24), some (vi (kindF (tapF I p))), some (vi (cV1 (tapF I) p)), some (vi (cV2 (tapF I) p)), some (vi (cV3 (tapF I) p))]) (S' := [vr 24]) k64_77 rfl rfl ?_
    refine ev_getI k64_78 (by decide) (rfl) ?_
    show Ev d 64 81 [some (vr 24), some (vi (kindF (tapF I p))), some (vi (cV1 (tapF I) p)), some (vi (cV2 (tapF I) p)), some (vi (cV3 (tapF I) p))] [vi (rdst I (cP6 (tapF I) p) (cM6 (tapF I) p) 24 4)] (SX (rdst I (cP6 (tapF I) p) (cM6 (tapF I) p)) ch kd) Q
    have rr4 := (rdst_rg hI (p := cP6 (tapF I) p) (μ := cM6 (tapF I) p) (by omega) (by omega) (by omega) (by omega)) 24 4
    rw [(rdst_m : rdst I (cP6 (tapF I) p) (cM6 (tapF I) p) 24 4 = cM6 (tapF I) p)]
    rw [(rdst_m : rdst I (cP6 (tapF I) p) (cM6 (tapF I) p) 24 4 = cM6 (tapF I) p)] at rr4
    refine ev_z_ne (t := 96) k64_81 rfl (by omega) (by omega) (fun h5 => ?_) (fun h5 => ?_)
    · refine ev_return k64_96 ?_
      exact hB (by omega) (by omega)
    · refine ev_s1 (L' := [some (vr 24), some (vi (kindF (tapF I p))), some (vi (cV1 (tapF I) p)), some (vi (cV2 (tapF I) p)), some (vi (cV3 (tapF I) p))]) (S' := [vr 24]) k64_84 rfl rfl ?_
      refine ev_getR k64_85 (by decide) (rfl) (x_24_2 ch kd) ?_
      refine ev_s1 (L' := [some (vr 24), some (vi (kindF (tapF I p))), some (vi (cV1 (tapF I) p)), some (vi (cV2 (tapF I) p)), some (vi (cV3 (tapF I) p))]) (S' := [vi (kindF (tapF I p)), vr 29]) k64_88 rfl rfl ?_
      refine ev_s1 (L' := [some (vr 24), some (vi (kindF (tapF I p))), some (vi (cV1 (tapF I) p)), some (vi (cV2 (tapF I) p)), some (vi (cV3 (tapF I) p))]) (S' := [vi (cV1 (tapF I) p), vi (kindF (tapF I p)), vr 29]) k64_89 rfl rfl ?_
      refine ev_s1 (L' := [some (vr 24), some (vi (kindF (tapF I p))), some (vi (cV1 (tapF I) p)), some (vi (cV2 (tapF I) p)), some (vi (cV3 (tapF I) p))]) (S' := [vi (cV2 (tapF I) p), vi (cV1 (tapF I) p), vi (kindF (tapF I p)), vr 29]) k64_90 rfl rfl ?_
      refine ev_s1 (L' := [some (vr 24), some (vi (kindF (tapF I p))), some (vi (cV1 (tapF I) p)), some (vi (cV2 (tapF I) p)), some (vi (cV3 (tapF I) p))]) (S' := [vi (cV3 (tapF I) p), vi (cV2 (tapF I) p), vi (cV1 (tapF I) p), vi (kindF (tapF I p)), vr 29]) k64_91 rfl rfl ?_
      refine ev_virt (a := [vi (kindF (tapF I p)), vi (cV1 (tapF I) p), vi (cV2 (tapF I) p), vi (cV3 (tapF I) p)]) (S' := []) k64_93 rfl (Nat.le_of_ble_eq_true rfl) (by decide) (rfl) (by omega) ?_
      refine c_addChair (rm29 ch kd) (rdst_rg hI (p := cP6 (tapF I) p) (μ := cM6 (tapF I) p) (by omega) (by omega) (by omega) (by omega)) (by rw [rdst_o (by decide)]; omega) (by rw [rdst_o (by decide)]; omega) (nu := kindF (tapF I p)) (mn := cV1 (tapF I) p) (st := cV2 (tapF I) p) (su := cV3 (tapF I) p) (by omega) (by omega) (by omega) (by omega) (by omega) (by omega) (by omega) (by omega) (c := dcc (I 29 6)) (by rw [rdst_o (by decide)]) (?_)
      show Ev d 64 96 [some (vr 24), some (vi (kindF (tapF I p))), some (vi (cV1 (tapF I) p)), some (vi (cV2 (tapF I) p)), some (vi (cV3 (tapF I) p))] [] (SX (adC (rdst I (cP6 (tapF I) p) (cM6 (tapF I) p)) 29 (dcc (I 29 6)) (cV1 (tapF I) p) (cV2 (tapF I) p) (cV3 (tapF I) p)) ch (kdU kd (dcc (I 29 6)) (7 + Int.toNat (kindF (tapF I p))))) Q
      refine ev_return k64_96 ?_
      exact hG (by omega) (by omega)
  · refine ev_s1 (L' := [some (vr 24), none, none, none, none]) (S' := [vr 24]) k64_11 rfl rfl ?_
    refine ev_s1 (L' := [some (vr 24), none, none, none, none]) (S' := [vi 3, vr 24]) k64_12 rfl rfl ?_
    refine ev_virt (a := [vi 3]) (S' := []) k64_13 rfl (Nat.le_of_ble_eq_true rfl) (by decide) (rfl) (by omega) ?_
    refine c_fail (rdst_rg hI (p := p) (μ := 0) (by omega) (by omega) (by omega) (by omega)) (b := 3) (by decide) (by decide) (fun _ => ?_) (fun hh => absurd rdst_m hh)
    rw [rdst_up4]
    show Ev d 64 16 [some (vr 24), none, none, none, none] [] (SX (rdst I p 3) ch kd) Q
    refine ev_return k64_16 ?_
    exact hX (by omega)
