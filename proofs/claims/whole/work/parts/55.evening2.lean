/-- the room behind so many draws, the bearings' sum -/
def eV (w : Int → Int) (seed : Int) (i : Nat) : Int → Int := if w 2 = 0 then w else drwV w seed i
def eS (w : Int → Int) (seed : Int) (i : Nat) : Int := if w 2 = 0 then 0 else drwS w seed i
def evW (w : Int → Int) (n : Nat) (seed x : Int) : Int := if x = 0 then eS w seed n else manW2 (eV w seed n) (w 1)
theorem eV_lo {w : Int → Int} {seed : Int} (hw : OKW w) (hc : 0 < w 1) (k : Nat) : OKW (eV w seed k) ∧ eV w seed k 1 = w 1 ∧ eV w seed k 2 = w 2 ∧ GSm w (eV w seed k) := by
  have w2 := hw.2.2.1
  unfold eV
  split
  · exact ⟨hw, rfl, rfl, GSm.refl w⟩
  · exact drv_lo hw (by omega) hc k
theorem eS_rng {w : Int → Int} {seed : Int} (hw : OKW w) (hc : 0 < w 1) (k : Nat) : 0 ≤ eS w seed k ∧ eS w seed k ≤ 9 * k := by
  have w2 := hw.2.2.1
  unfold eS
  split
  · omega
  · exact drs_rng hw (by omega) hc k

set_option maxHeartbeats 1000000 in
theorem l_even {d : Nat} {J : Nat → Int → Int} {ch : Int → Nat} {kdJ : Nat → Nat} {Q : Option jV → jS → Prop} {w : Int → Int} {nn : Nat} {seed x0 : Int} (n60 : nn ≤ 60) (s0 : 0 ≤ seed) (s1 : seed < 2147483647) (hc1 : 0 < w 1) (y0 : 0 ≤ x0) (y1 : x0 ≤ 1) (hd : 5 ≤ d) (hQ : ∀ I' kd', FSx J I' kdJ kd' → Q (some (vi (evW w nn seed x0))) (SX I' ch kd')) : ∀ (n : Nat) (I : Nat → Int → Int) (kd : Nat → Nat) (i : Nat) (z : Int) (x : Int), NOWX I ch kd w → Rg I → FSx J I kdJ kd → (nn : Int) - i < n → i ≤ nn → x = drwX seed i → z = eS w seed i → TRX I kd (eV w seed i) → Ev d 40 14 [some (vr 40), some (vi (nn : Int)), some (vi seed), some (vi x0), some (vi z), some (vl x), none, some (vi (i : Int))] [] (SX I ch kd) Q := by
  intro n
  induction n with
  | zero =>
    intro I kd i z x hN hI F hi hi2 hx hz ht
    exfalso; omega
  | succ n ih =>
    intro I kd i z x hN hI F hi hi2 hx hz ht
    obtain ⟨⟨wa0, wa1⟩, ⟨wb0, wb1⟩, ⟨wc0, wc1⟩, wC, wG, wU⟩ := hN.2.2.1
    obtain ⟨-, l1, l2, hg⟩ := eV_lo (seed := seed) hN.2.2.1 hc1 i
    have xr0 := drw_rng s0 s1 i
    rw [← hx] at xr0
    have zr := eS_rng (seed := seed) hN.2.2.1 hc1 i
    refine ev_s1 (L' := [some (vr 40), some (vi (nn : Int)), some (vi seed), some (vi x0), some (vi z), some (vl x), none, some (vi (i : Int))]) (S' := [vi (i : Int)]) k40_14 rfl rfl ?_
    refine ev_s1 (L' := [some (vr 40), some (vi (nn : Int)), some (vi seed), some (vi x0), some (vi z), some (vl x), none, some (vi (i : Int))]) (S' := [vi (nn : Int), vi (i : Int)]) k40_16 rfl rfl ?_
    refine ev_c_ge (t := 49) k40_17 rfl (by omega) (by omega) (by omega) (by omega) (fun h1 => ?_) (fun h1 => ?_)
    · refine ev_s1 (L' := [some (vr 40), some (vi (nn : Int)), some (vi seed), some (vi x0), some (vi z), some (vl x), none, some (vi (i : Int))]) (S' := [vi x0]) k40_49 rfl rfl ?_
      refine ev_z_ne (t := 58) k40_50 rfl (by omega) (by omega) (fun h2 => ?_) (fun h2 => ?_)
      · refine ev_s1 (L' := [some (vr 40), some (vi (nn : Int)), some (vi seed), some (vi x0), some (vi z), some (vl x), none, some (vi (i : Int))]) (S' := [vr 40]) k40_58 rfl rfl ?_
        refine ev_getR k40_59 (by decide) (rfl) (x_40_1 ch kd) ?_
        refine ev_virt (a := []) (S' := []) k40_62 rfl (Nat.le_of_ble_eq_true rfl) (by decide) (rfl) (by omega) ?_
        refine g_mann (rm45 ch kd) hI ht.1 ht.2.1 (?_)
        show Ev d 40 65 [some (vr 40), some (vi (nn : Int)), some (vi seed), some (vi x0), some (vi z), some (vl x), none, some (vi (i : Int))] [vi (sumF (fun c => (eV w seed i) (3 + 5 * c + 1)) ((eV w seed i) 1).toNat)] (SX I ch kd) Q
        refine ev_ireturn k40_65 ?_
        rw [show nn = i by omega] at hQ
        unfold evW manW2 at hQ
        rw [if_neg (by omega)] at hQ
        rw [l1]
        exact hQ _ _ F
      · refine ev_s1 (L' := [some (vr 40), some (vi (nn : Int)), some (vi seed), some (vi x0), some (vi z), some (vl x), none, some (vi (i : Int))]) (S' := [vi z]) k40_53 rfl rfl ?_
        refine ev_goto (t := 65) k40_55 rfl ?_
        refine ev_ireturn k40_65 ?_
        rw [show nn = i by omega] at hQ
        unfold evW at hQ
        rw [if_pos (by omega), ← hz] at hQ
        exact hQ _ _ F
    · refine ev_s1 (L' := [some (vr 40), some (vi (nn : Int)), some (vi seed), some (vi x0), some (vi z), some (vl x), none, some (vi (i : Int))]) (S' := [vl x]) k40_20 rfl rfl ?_
      refine ev_ldc2 k40_22 ?_
      refine ev_s1 (L' := [some (vr 40), some (vi (nn : Int)), some (vi seed), some (vi x0), some (vi z), some (vl x), none, some (vi (i : Int))]) (S' := [vl (x * 16807)]) k40_25 rfl rfl ?_
      refine ev_ldc2 k40_26 ?_
      refine ev_lrem k40_29 (by omega) (by omega) (by omega) (by omega) ?_
      rw [show x * 16807 % 2147483647 = drwX seed (i + 1) by rw [hx]; rfl]
      have xr := drw_rng s0 s1 (i + 1)
      refine ev_s1 (L' := [some (vr 40), some (vi (nn : Int)), some (vi seed), some (vi x0), some (vi z), some (vl (drwX seed (i + 1))), none, some (vi (i : Int))]) (S' := []) k40_30 rfl rfl ?_
      refine ev_s1 (L' := [some (vr 40), some (vi (nn : Int)), some (vi seed), some (vi x0), some (vi z), some (vl (drwX seed (i + 1))), none, some (vi (i : Int))]) (S' := [vi z]) k40_32 rfl rfl ?_
      refine ev_s1 (L' := [some (vr 40), some (vi (nn : Int)), some (vi seed), some (vi x0), some (vi z), some (vl (drwX seed (i + 1))), none, some (vi (i : Int))]) (S' := [vr 40, vi z]) k40_34 rfl rfl ?_
      refine ev_s1 (L' := [some (vr 40), some (vi (nn : Int)), some (vi seed), some (vi x0), some (vi z), some (vl (drwX seed (i + 1))), none, some (vi (i : Int))]) (S' := [vl (drwX seed (i + 1)), vr 40, vi z]) k40_35 rfl rfl ?_
      refine ev_virt (a := [vl (drwX seed (i + 1))]) (S' := [vi z]) k40_37 rfl (Nat.le_of_ble_eq_true rfl) (by decide) (rfl) (by omega) ?_
      refine g_drawn hN hI (v := eV w seed i) (x := drwX seed (i + 1)) ht l1 l2 hg hc1 xr.1 (by omega) (by omega) (fun hz0 => ?_) (fun hp0 I3 hI3 t3 f3 => ?_)
      · show Ev d 40 40 [some (vr 40), some (vi (nn : Int)), some (vi seed), some (vi x0), some (vi z), some (vl (drwX seed (i + 1))), none, some (vi (i : Int))] [vi 0, vi z] (SX I ch kd) Q
        refine ev_s1 (L' := [some (vr 40), some (vi (nn : Int)), some (vi seed), some (vi x0), some (vi z), some (vl (drwX seed (i + 1))), none, some (vi (i : Int))]) (S' := [vi (z + 0)]) k40_40 rfl rfl ?_
        refine ev_s1 (L' := [some (vr 40), some (vi (nn : Int)), some (vi seed), some (vi x0), some (vi (z + 0)), some (vl (drwX seed (i + 1))), none, some (vi (i : Int))]) (S' := []) k40_41 rfl rfl ?_
        refine ev_s1 (L' := [some (vr 40), some (vi (nn : Int)), some (vi seed), some (vi x0), some (vi (z + 0)), some (vl (drwX seed (i + 1))), none, some (vi ((i : Int) + 1))]) (S' := []) k40_43 rfl rfl ?_
        refine ev_goto (t := 14) k40_46 rfl ?_
        exact ih I kd (i + 1) _ _ hN hI F (by omega) (by omega) rfl (by rw [hz]; unfold eS; rw [if_pos hz0, if_pos hz0]; rfl) (by unfold eV at ht ⊢; rw [if_pos hz0] at ht ⊢; exact ht)
      · have fx3 : FSx I I3 kd kd := ⟨hI3, fun a b q => f3 a b (by omega), fun _ _ => rfl⟩
        have hN3 := hN.fs fx3
        have F3 := F.trans fx3
        show Ev d 40 40 [some (vr 40), some (vi (nn : Int)), some (vi seed), some (vi x0), some (vi z), some (vl (drwX seed (i + 1))), none, some (vi (i : Int))] [vi (bearW (eV w seed i) (drwX seed (i + 1) % w 1) (w (28 + 4 * (drwX seed (i + 1) % w 2)))), vi z] (SX I3 ch kd) Q
        refine ev_s1 (L' := [some (vr 40), some (vi (nn : Int)), some (vi seed), some (vi x0), some (vi z), some (vl (drwX seed (i + 1))), none, some (vi (i : Int))]) (S' := [vi (z + (bearW (eV w seed i) (drwX seed (i + 1) % w 1) (w (28 + 4 * (drwX seed (i + 1) % w 2)))))]) k40_40 rfl rfl ?_
        refine ev_s1 (L' := [some (vr 40), some (vi (nn : Int)), some (vi seed), some (vi x0), some (vi (z + (bearW (eV w seed i) (drwX seed (i + 1) % w 1) (w (28 + 4 * (drwX seed (i + 1) % w 2)))))), some (vl (drwX seed (i + 1))), none, some (vi (i : Int))]) (S' := []) k40_41 rfl rfl ?_
        refine ev_s1 (L' := [some (vr 40), some (vi (nn : Int)), some (vi seed), some (vi x0), some (vi (z + (bearW (eV w seed i) (drwX seed (i + 1) % w 1) (w (28 + 4 * (drwX seed (i + 1) % w 2)))))), some (vl (drwX seed (i + 1))), none, some (vi ((i : Int) + 1))]) (S' := []) k40_43 rfl rfl ?_
        refine ev_goto (t := 14) k40_46 rfl ?_
        exact ih I3 kd (i + 1) _ _ hN3 hI3 F3 (by omega) (by omega) rfl (by rw [hz]; unfold eS eV; rw [if_neg (by omega), if_neg (by omega), if_neg (by omega)]; rfl) (by unfold eV at t3 ⊢; rw [if_neg (by omega)] at t3 ⊢; exact t3)

set_option maxHeartbeats 1000000 in
theorem g_even {d : Nat} {I : Nat → Int → Int} {ch : Int → Nat} {kd : Nat → Nat} {Q : Option jV → jS → Prop} {w : Int → Int} (hN : NOWX I ch kd w) (hI : Rg I) {nn : Nat} {seed x0 : Int} (n60 : nn ≤ 60) (s0 : 0 ≤ seed) (s1 : seed < 2147483647) (hc1 : 0 < w 1) (y0 : 0 ≤ x0) (y1 : x0 ≤ 1) (hd : 5 ≤ d) (hQ : ∀ I' kd', FSx I I' kd kd' → Q (some (vi (evW w nn seed x0))) (SX I' ch kd')) : Cl d 40 [vr 40, vi (nn : Int), vi seed, vi x0] (SX I ch kd) Q := by
  obtain ⟨⟨wa0, wa1⟩, ⟨wb0, wb1⟩, ⟨wc0, wc1⟩, wC, wG, wU⟩ := hN.2.2.1
  refine ⟨by rw [l40]; exact Nat.le_of_ble_eq_true rfl, ?_⟩
  rw [l40]
  show Ev d 40 0 [some (vr 40), some (vi (nn : Int)), some (vi seed), some (vi x0), none, none, none, none] [] (SX I ch kd) Q
  refine ev_s1 (L' := [some (vr 40), some (vi (nn : Int)), some (vi seed), some (vi x0), none, none, none, none]) (S' := [vr 40]) k40_0 rfl rfl ?_
  refine ev_virt (a := []) (S' := []) k40_1 rfl (Nat.le_of_ble_eq_true rfl) (by decide) (rfl) (by omega) ?_
  refine g_trial hN hI (by omega) (fun I1 kd1 fx1 t1 => ?_)
  have hI1 := fx1.1
  have hN1 := hN.fs fx1
  show Ev d 40 4 [some (vr 40), some (vi (nn : Int)), some (vi seed), some (vi x0), none, none, none, none] [] (SX I1 ch kd1) Q
  refine ev_s1 (L' := [some (vr 40), some (vi (nn : Int)), some (vi seed), some (vi x0), none, none, none, none]) (S' := [vi 0]) k40_4 rfl rfl ?_
  refine ev_s1 (L' := [some (vr 40), some (vi (nn : Int)), some (vi seed), some (vi x0), some (vi 0), none, none, none]) (S' := []) k40_5 rfl rfl ?_
  refine ev_s1 (L' := [some (vr 40), some (vi (nn : Int)), some (vi seed), some (vi x0), some (vi 0), none, none, none]) (S' := [vi seed]) k40_7 rfl rfl ?_
  refine ev_i2l k40_8 (by omega) (by omega) ?_
  refine ev_s1 (L' := [some (vr 40), some (vi (nn : Int)), some (vi seed), some (vi x0), some (vi 0), some (vl seed), none, none]) (S' := []) k40_9 rfl rfl ?_
  refine ev_s1 (L' := [some (vr 40), some (vi (nn : Int)), some (vi seed), some (vi x0), some (vi 0), some (vl seed), none, none]) (S' := [vi 0]) k40_11 rfl rfl ?_
  refine ev_s1 (L' := [some (vr 40), some (vi (nn : Int)), some (vi seed), some (vi x0), some (vi 0), some (vl seed), none, some (vi 0)]) (S' := []) k40_12 rfl rfl ?_
  exact l_even n60 s0 s1 hc1 y0 y1 hd hQ (nn + 1) I1 kd1 0 0 seed hN1 hI1 fx1 (by omega) (by omega) rfl (by unfold eS; split <;> rfl) (by unfold eV; split <;> exact t1)
