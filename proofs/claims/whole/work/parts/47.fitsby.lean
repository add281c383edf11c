def fitL (x : Int) : Int := if x = 2 then 1 else 0
def fitH (x : Int) : Int := if x = 0 then 9 else if x = 1 then 16 else 5
def fitP (w its : Int → Int) (i c x v : Int) : Bool := decide (fitL x ≤ v) && givB w its i c (altW w c x v)

set_option maxHeartbeats 1000000 in
theorem l_fits {d : Nat} {J : Nat → Int → Int} {ch : Int → Nat} {kdJ : Nat → Nat} {Q : Option jV → jS → Prop} {w : Int → Int} {it : Nat} {fr : Int} (hit : shX it = (50, 40)) (it1 : it < 125) (it2 : 56 < it) (fr0 : 0 ≤ fr) {c x : Int} (c0 : 0 ≤ c) (c1 : c < w 1) (hx : x = 0 ∨ x = 1 ∨ x = 2) (fr1 : fr + w 2 ≤ 40) (hd : 6 ≤ d) {lo hi : Int} (hlo : lo = fitL x) (hhi : hi = fitH x) (h0 : x = 0 → hi = 9) (h1 : x = 1 → hi = 16) (h2 : x = 2 → hi = 5 ∧ lo = 1) (hl : 0 ≤ lo) (hh9 : hi ≤ 16) (hQ : ∀ I' kd', FSx J I' kdJ kd' → Q (some (vi (bitsF (fitP w (J it) fr c x) (fitH x + 1).toNat))) (SX I' ch kd')) : ∀ (n : Nat) (I : Nat → Int → Int) (kd : Nat → Nat) (i : Nat) (t : Int), NOWX I ch kd w → Rg I → FSx J I kdJ kd → hi - i + 1 < n → (i : Int) ≤ hi + 1 → lo ≤ (i : Int) → t = bitsF (fitP w (J it) fr c x) i → Ev d 33 44 [some (vr 40), some (vi c), some (vr it), some (vi fr), some (vi x), some (vi lo), some (vi hi), some (vi t), some (vi (i : Int))] [] (SX I ch kd) Q := by
  intro n
  induction n with
  | zero =>
    intro I kd i t hN hI F hi2 hi3 hi4 ht
    exfalso; omega
  | succ n ih =>
    intro I kd i t hN hI F hi2 hi3 hi4 ht
    obtain ⟨⟨wa0, wa1⟩, ⟨wb0, wb1⟩, ⟨wc0, wc1⟩, wC, wG, wU⟩ := hN.2.2.1
    refine ev_s1 (L' := [some (vr 40), some (vi c), some (vr it), some (vi fr), some (vi x), some (vi lo), some (vi hi), some (vi t), some (vi (i : Int))]) (S' := [vi (i : Int)]) k33_44 rfl rfl ?_
    refine ev_s1 (L' := [some (vr 40), some (vi c), some (vr it), some (vi fr), some (vi x), some (vi lo), some (vi hi), some (vi t), some (vi (i : Int))]) (S' := [vi hi, vi (i : Int)]) k33_46 rfl rfl ?_
    refine ev_c_gt (t := 99) k33_48 rfl (by omega) (by omega) (by omega) (by omega) (fun h1 => ?_) (fun h1 => ?_)
    · refine ev_s1 (L' := [some (vr 40), some (vi c), some (vr it), some (vi fr), some (vi x), some (vi lo), some (vi hi), some (vi t), some (vi (i : Int))]) (S' := [vi t]) k33_99 rfl rfl ?_
      refine ev_ireturn k33_101 ?_
      rw [show i = (fitH x + 1).toNat by omega] at ht
      rw [← ht] at hQ
      exact hQ _ _ F
    · refine ev_s1 (L' := [some (vr 40), some (vi c), some (vr it), some (vi fr), some (vi x), some (vi lo), some (vi hi), some (vi t), some (vi (i : Int))]) (S' := [vr 40]) k33_51 rfl rfl ?_
      refine ev_getR k33_52 (by decide) (rfl) (x_40_3 ch kd) ?_
      refine ev_s1 (L' := [some (vr 40), some (vi c), some (vr it), some (vi fr), some (vi x), some (vi lo), some (vi hi), some (vi t), some (vi (i : Int))]) (S' := [vr 40, vr 56]) k33_55 rfl rfl ?_
      refine ev_getR k33_56 (by decide) (rfl) (x_40_0 ch kd) ?_
      refine ev_getR k33_59 (by decide) (rfl) (x_13_1 ch kd) ?_
      refine ev_s1 (L' := [some (vr 40), some (vi c), some (vr it), some (vi fr), some (vi x), some (vi lo), some (vi hi), some (vi t), some (vi (i : Int))]) (S' := [vi c, vr 14, vr 56]) k33_62 rfl rfl ?_
      have hc2 := hN.1.2.1 c (by omega) (by omega)
      have hl2 := (shp_c hc2.2).1
      have hb2 := hN.1.2.2.2 c (by omega) (by omega)
      refine ev_aald (q := ch c) k33_63 (by decide) (rfl) (by decide) (by decide) (by omega) (by omega) (rX14 (by omega) (by omega)) ?_
      refine ev_virt (a := [vr (ch c)]) (S' := []) k33_64 rfl (Nat.le_of_ble_eq_true rfl) (by decide) (rfl) (by omega) ?_
      refine g_take hN hI (by omega) (by omega) (fun I3 kd3 hI3 s3 f3 k3 => ?_)
      have fx3 : FSx I I3 kd kd3 := ⟨hI3, fun a b q => f3 a b (by omega), fun a q => k3 a (by omega)⟩
      have hN3 := hN.fs fx3
      have F3 := F.trans fx3
      show Ev d 33 67 [some (vr 40), some (vi c), some (vr it), some (vi fr), some (vi x), some (vi lo), some (vi hi), some (vi t), some (vi (i : Int))] [] (SX I3 ch kd3) Q
      refine ev_s1 (L' := [some (vr 40), some (vi c), some (vr it), some (vi fr), some (vi x), some (vi lo), some (vi hi), some (vi t), some (vi (i : Int))]) (S' := [vr 40]) k33_67 rfl rfl ?_
      refine ev_s1 (L' := [some (vr 40), some (vi c), some (vr it), some (vi fr), some (vi x), some (vi lo), some (vi hi), some (vi t), some (vi (i : Int))]) (S' := [vi x, vr 40]) k33_68 rfl rfl ?_
      refine ev_s1 (L' := [some (vr 40), some (vi c), some (vr it), some (vi fr), some (vi x), some (vi lo), some (vi hi), some (vi t), some (vi (i : Int))]) (S' := [vi (i : Int), vi x, vr 40]) k33_70 rfl rfl ?_
      refine ev_virt (a := [vi x, vi (i : Int)]) (S' := []) k33_72 rfl (Nat.le_of_ble_eq_true rfl) (by decide) (rfl) (by omega) ?_
      refine g_alter hN3 hI3 (v := (i : Int)) (by omega) (by omega) s3 (by omega) (by omega) (by omega) hx (fun I4 kd4 hI4 s4 f4 k4 => ?_)
      have fx4 : FSx I3 I4 kd3 kd4 := ⟨hI4, fun a b q => f4 a b (by omega), fun a q => k4 a (by omega)⟩
      have hN4 := hN3.fs fx4
      have F4 := F3.trans fx4
      show Ev d 33 75 [some (vr 40), some (vi c), some (vr it), some (vi fr), some (vi x), some (vi lo), some (vi hi), some (vi t), some (vi (i : Int))] [] (SX I4 ch kd4) Q
      refine ev_s1 (L' := [some (vr 40), some (vi c), some (vr it), some (vi fr), some (vi x), some (vi lo), some (vi hi), some (vi t), some (vi (i : Int))]) (S' := [vr 40]) k33_75 rfl rfl ?_
      refine ev_s1 (L' := [some (vr 40), some (vi c), some (vr it), some (vi fr), some (vi x), some (vi lo), some (vi hi), some (vi t), some (vi (i : Int))]) (S' := [vr it, vr 40]) k33_76 rfl rfl ?_
      refine ev_s1 (L' := [some (vr 40), some (vi c), some (vr it), some (vi fr), some (vi x), some (vi lo), some (vi hi), some (vi t), some (vi (i : Int))]) (S' := [vi fr, vr it, vr 40]) k33_77 rfl rfl ?_
      refine ev_virt (a := [vr it, vi fr]) (S' := []) k33_78 rfl (Nat.le_of_ble_eq_true rfl) (by decide) (rfl) (by omega) ?_
      refine g_sgiv hN4 hI4 hit it1 it2 fr0 (by omega) (by omega) (alt_gs (by omega) hx) (by omega) (by omega) (hs := s4) (fun I5 kd5 hh5 fy5 => ?_) (fun I5 kd5 hh5 fy5 => ?_)
      · rw [show I4 it = J it from funext (fun b => F4.2.1 it b (Or.inr (by omega)))] at hh5
        have hI5 := fy5.1
        have hN5 := hN4.fs fy5
        have F5 := F4.trans fy5
        show Ev d 33 81 [some (vr 40), some (vi c), some (vr it), some (vi fr), some (vi x), some (vi lo), some (vi hi), some (vi t), some (vi (i : Int))] [vi 1] (SX I5 ch kd5) Q
        refine ev_z_eq (t := 93) k33_81 rfl (by omega) (by omega) (fun h => absurd h (by decide)) (fun _ => ?_)
        refine ev_s1 (L' := [some (vr 40), some (vi c), some (vr it), some (vi fr), some (vi x), some (vi lo), some (vi hi), some (vi t), some (vi (i : Int))]) (S' := [vi t]) k33_84 rfl rfl ?_
        refine ev_s1 (L' := [some (vr 40), some (vi c), some (vr it), some (vi fr), some (vi x), some (vi lo), some (vi hi), some (vi t), some (vi (i : Int))]) (S' := [vi 1, vi t]) k33_86 rfl rfl ?_
        refine ev_s1 (L' := [some (vr 40), some (vi c), some (vr it), some (vi fr), some (vi x), some (vi lo), some (vi hi), some (vi t), some (vi (i : Int))]) (S' := [vi (i : Int), vi 1, vi t]) k33_87 rfl rfl ?_
        refine ev_ishl k33_89 (by omega) (by omega) ?_
        refine ev_ior k33_90 (by have := bits_lt (fitP w (J it) fr c x) (n := i) (by omega); omega) (by have := bits_lt (fitP w (J it) fr c x) (n := i) (by omega); omega) ((p2_rng i (by omega)).1) ((p2_rng i (by omega)).2) ?_
        refine ev_s1 (L' := [some (vr 40), some (vi c), some (vr it), some (vi fr), some (vi x), some (vi lo), some (vi hi), some (vi ((Int.toNat t ||| Int.toNat (1 * 2 ^ Int.toNat (i : Int)) : Nat) : Int)), some (vi (i : Int))]) (S' := []) k33_91 rfl rfl ?_
        refine ev_s1 (L' := [some (vr 40), some (vi c), some (vr it), some (vi fr), some (vi x), some (vi lo), some (vi hi), some (vi ((Int.toNat t ||| Int.toNat (1 * 2 ^ Int.toNat (i : Int)) : Nat) : Int)), some (vi ((i : Int) + 1))]) (S' := []) k33_93 rfl rfl ?_
        refine ev_goto (t := 44) k33_96 rfl ?_
        have q : fitP w (J it) fr c x (i : Int) = true := by unfold fitP; rw [decide_eq_true (by omega), hh5]; rfl
        exact ih I5 kd5 (i + 1) _ hN5 hI5 F5 (by omega) (by omega) (by omega) (by rw [bits_t (p := (fitP w (J it) fr c x)) q, ← ht]; rfl)
      · rw [show I4 it = J it from funext (fun b => F4.2.1 it b (Or.inr (by omega)))] at hh5
        have hI5 := fy5.1
        have hN5 := hN4.fs fy5
        have F5 := F4.trans fy5
        show Ev d 33 81 [some (vr 40), some (vi c), some (vr it), some (vi fr), some (vi x), some (vi lo), some (vi hi), some (vi t), some (vi (i : Int))] [vi 0] (SX I5 ch kd5) Q
        refine ev_z_eq (t := 93) k33_81 rfl (by omega) (by omega) (fun _ => ?_) (fun h => absurd h (by decide))
        refine ev_s1 (L' := [some (vr 40), some (vi c), some (vr it), some (vi fr), some (vi x), some (vi lo), some (vi hi), some (vi t), some (vi ((i : Int) + 1))]) (S' := []) k33_93 rfl rfl ?_
        refine ev_goto (t := 44) k33_96 rfl ?_
        have q : fitP w (J it) fr c x (i : Int) = false := by unfold fitP; rw [decide_eq_true (by omega), hh5]; rfl
        exact ih I5 kd5 (i + 1) _ hN5 hI5 F5 (by omega) (by omega) (by omega) (by rw [bits_f (p := (fitP w (J it) fr c x)) q]; exact ht)

set_option maxHeartbeats 1000000 in
theorem g_fits {d : Nat} {I : Nat → Int → Int} {ch : Int → Nat} {kd : Nat → Nat} {Q : Option jV → jS → Prop} {w : Int → Int} (hN : NOWX I ch kd w) (hI : Rg I) {it : Nat} {fr : Int} (hit : shX it = (50, 40)) (it1 : it < 125) (it2 : 56 < it) (fr0 : 0 ≤ fr) {c x : Int} (c0 : 0 ≤ c) (c1 : c < w 1) (hx : x = 0 ∨ x = 1 ∨ x = 2) (fr1 : fr + w 2 ≤ 40) (hd : 6 ≤ d) (hQ : ∀ I' kd', FSx I I' kd kd' → Q (some (vi (bitsF (fitP w (I it) fr c x) (fitH x + 1).toNat))) (SX I' ch kd')) : Cl d 33 [vr 40, vi c, vr it, vi fr, vi x] (SX I ch kd) Q := by
  obtain ⟨⟨wa0, wa1⟩, ⟨wb0, wb1⟩, ⟨wc0, wc1⟩, wC, wG, wU⟩ := hN.2.2.1
  refine ⟨by rw [l33]; exact Nat.le_of_ble_eq_true rfl, ?_⟩
  rw [l33]
  show Ev d 33 0 [some (vr 40), some (vi c), some (vr it), some (vi fr), some (vi x), none, none, none, none] [] (SX I ch kd) Q
  refine ev_s1 (L' := [some (vr 40), some (vi c), some (vr it), some (vi fr), some (vi x), none, none, none, none]) (S' := [vi x]) k33_0 rfl rfl ?_
  refine ev_s1 (L' := [some (vr 40), some (vi c), some (vr it), some (vi fr), some (vi x), none, none, none, none]) (S' := [vi 2, vi x]) k33_2 rfl rfl ?_
  refine ev_c_ne (t := 10) k33_3 rfl (by omega) (by omega) (by omega) (by omega) (fun h1 => ?_) (fun h1 => ?_)
  · refine ev_s1 (L' := [some (vr 40), some (vi c), some (vr it), some (vi fr), some (vi x), none, none, none, none]) (S' := [vi 0]) k33_10 rfl rfl ?_
    refine ev_s1 (L' := [some (vr 40), some (vi c), some (vr it), some (vi fr), some (vi x), some (vi 0), none, none, none]) (S' := []) k33_11 rfl rfl ?_
    refine ev_s1 (L' := [some (vr 40), some (vi c), some (vr it), some (vi fr), some (vi x), some (vi 0), none, none, none]) (S' := [vi x]) k33_13 rfl rfl ?_
    refine ev_z_ne (t := 23) k33_15 rfl (by omega) (by omega) (fun h2 => ?_) (fun h2 => ?_)
    · refine ev_s1 (L' := [some (vr 40), some (vi c), some (vr it), some (vi fr), some (vi x), some (vi 0), none, none, none]) (S' := [vi x]) k33_23 rfl rfl ?_
      refine ev_s1 (L' := [some (vr 40), some (vi c), some (vr it), some (vi fr), some (vi x), some (vi 0), none, none, none]) (S' := [vi 1, vi x]) k33_25 rfl rfl ?_
      refine ev_c_ne (t := 34) k33_26 rfl (by omega) (by omega) (by omega) (by omega) (fun h3 => ?_) (fun h3 => ?_)
      · refine ev_s1 (L' := [some (vr 40), some (vi c), some (vr it), some (vi fr), some (vi x), some (vi 0), none, none, none]) (S' := [vi 5]) k33_34 rfl rfl ?_
        refine ev_s1 (L' := [some (vr 40), some (vi c), some (vr it), some (vi fr), some (vi x), some (vi 0), some (vi 5), none, none]) (S' := []) k33_35 rfl rfl ?_
        refine ev_s1 (L' := [some (vr 40), some (vi c), some (vr it), some (vi fr), some (vi x), some (vi 0), some (vi 5), none, none]) (S' := [vi 0]) k33_37 rfl rfl ?_
        refine ev_s1 (L' := [some (vr 40), some (vi c), some (vr it), some (vi fr), some (vi x), some (vi 0), some (vi 5), some (vi 0), none]) (S' := []) k33_38 rfl rfl ?_
        refine ev_s1 (L' := [some (vr 40), some (vi c), some (vr it), some (vi fr), some (vi x), some (vi 0), some (vi 5), some (vi 0), none]) (S' := [vi 0]) k33_40 rfl rfl ?_
        refine ev_s1 (L' := [some (vr 40), some (vi c), some (vr it), some (vi fr), some (vi x), some (vi 0), some (vi 5), some (vi 0), some (vi 0)]) (S' := []) k33_42 rfl rfl ?_
        have hlo : (0 : Int) = fitL x := by unfold fitL; rw [if_neg (by omega)]
        have hhi : (5 : Int) = fitH x := by unfold fitH; rw [if_neg (by omega), if_neg (by omega)]
        exact l_fits (J := I) (kdJ := kd) hit it1 it2 fr0 c0 c1 hx fr1 hd hlo hhi (by omega) (by omega) (by omega) (by decide) (by decide) hQ 20 I kd 0 0 hN hI (FSx.refl hI) (by omega) (by omega) (by omega) (by rfl)
      · refine ev_s1 (L' := [some (vr 40), some (vi c), some (vr it), some (vi fr), some (vi x), some (vi 0), none, none, none]) (S' := [vi 16]) k33_29 rfl rfl ?_
        refine ev_goto (t := 35) k33_31 rfl ?_
        refine ev_s1 (L' := [some (vr 40), some (vi c), some (vr it), some (vi fr), some (vi x), some (vi 0), some (vi 16), none, none]) (S' := []) k33_35 rfl rfl ?_
        refine ev_s1 (L' := [some (vr 40), some (vi c), some (vr it), some (vi fr), some (vi x), some (vi 0), some (vi 16), none, none]) (S' := [vi 0]) k33_37 rfl rfl ?_
        refine ev_s1 (L' := [some (vr 40), some (vi c), some (vr it), some (vi fr), some (vi x), some (vi 0), some (vi 16), some (vi 0), none]) (S' := []) k33_38 rfl rfl ?_
        refine ev_s1 (L' := [some (vr 40), some (vi c), some (vr it), some (vi fr), some (vi x), some (vi 0), some (vi 16), some (vi 0), none]) (S' := [vi 0]) k33_40 rfl rfl ?_
        refine ev_s1 (L' := [some (vr 40), some (vi c), some (vr it), some (vi fr), some (vi x), some (vi 0), some (vi 16), some (vi 0), some (vi 0)]) (S' := []) k33_42 rfl rfl ?_
        have hlo : (0 : Int) = fitL x := by unfold fitL; rw [if_neg (by omega)]
        have hhi : (16 : Int) = fitH x := by unfold fitH; rw [if_neg (by omega), if_pos (by omega)]
        exact l_fits (J := I) (kdJ := kd) hit it1 it2 fr0 c0 c1 hx fr1 hd hlo hhi (by omega) (by omega) (by omega) (by decide) (by decide) hQ 20 I kd 0 0 hN hI (FSx.refl hI) (by omega) (by omega) (by omega) (by rfl)
    · refine ev_s1 (L' := [some (vr 40), some (vi c), some (vr it), some (vi fr), some (vi x), some (vi 0), none, none, none]) (S' := [vi 9]) k33_18 rfl rfl ?_
      refine ev_goto (t := 35) k33_20 rfl ?_
      refine ev_s1 (L' := [some (vr 40), some (vi c), some (vr it), some (vi fr), some (vi x), some (vi 0), some (vi 9), none, none]) (S' := []) k33_35 rfl rfl ?_
      refine ev_s1 (L' := [some (vr 40), some (vi c), some (vr it), some (vi fr), some (vi x), some (vi 0), some (vi 9), none, none]) (S' := [vi 0]) k33_37 rfl rfl ?_
      refine ev_s1 (L' := [some (vr 40), some (vi c), some (vr it), some (vi fr), some (vi x), some (vi 0), some (vi 9), some (vi 0), none]) (S' := []) k33_38 rfl rfl ?_
      refine ev_s1 (L' := [some (vr 40), some (vi c), some (vr it), some (vi fr), some (vi x), some (vi 0), some (vi 9), some (vi 0), none]) (S' := [vi 0]) k33_40 rfl rfl ?_
      refine ev_s1 (L' := [some (vr 40), some (vi c), some (vr it), some (vi fr), some (vi x), some (vi 0), some (vi 9), some (vi 0), some (vi 0)]) (S' := []) k33_42 rfl rfl ?_
      have hlo : (0 : Int) = fitL x := by unfold fitL; rw [if_neg (by omega)]
      have hhi : (9 : Int) = fitH x := by unfold fitH; rw [if_pos (by omega)]
      exact l_fits (J := I) (kdJ := kd) hit it1 it2 fr0 c0 c1 hx fr1 hd hlo hhi (by omega) (by omega) (by omega) (by decide) (by decide) hQ 20 I kd 0 0 hN hI (FSx.refl hI) (by omega) (by omega) (by omega) (by rfl)
  · refine ev_s1 (L' := [some (vr 40), some (vi c), some (vr it), some (vi fr), some (vi x), none, none, none, none]) (S' := [vi 1]) k33_6 rfl rfl ?_
    refine ev_goto (t := 11) k33_7 rfl ?_
    refine ev_s1 (L' := [some (vr 40), some (vi c), some (vr it), some (vi fr), some (vi x), some (vi 1), none, none, none]) (S' := []) k33_11 rfl rfl ?_
    refine ev_s1 (L' := [some (vr 40), some (vi c), some (vr it), some (vi fr), some (vi x), some (vi 1), none, none, none]) (S' := [vi x]) k33_13 rfl rfl ?_
    refine ev_z_ne (t := 23) k33_15 rfl (by omega) (by omega) (fun h4 => ?_) (fun h4 => ?_)
    · refine ev_s1 (L' := [some (vr 40), some (vi c), some (vr it), some (vi fr), some (vi x), some (vi 1), none, none, none]) (S' := [vi x]) k33_23 rfl rfl ?_
      refine ev_s1 (L' := [some (vr 40), some (vi c), some (vr it), some (vi fr), some (vi x), some (vi 1), none, none, none]) (S' := [vi 1, vi x]) k33_25 rfl rfl ?_
      refine ev_c_ne (t := 34) k33_26 rfl (by omega) (by omega) (by omega) (by omega) (fun h5 => ?_) (fun h5 => ?_)
      · refine ev_s1 (L' := [some (vr 40), some (vi c), some (vr it), some (vi fr), some (vi x), some (vi 1), none, none, none]) (S' := [vi 5]) k33_34 rfl rfl ?_
        refine ev_s1 (L' := [some (vr 40), some (vi c), some (vr it), some (vi fr), some (vi x), some (vi 1), some (vi 5), none, none]) (S' := []) k33_35 rfl rfl ?_
        refine ev_s1 (L' := [some (vr 40), some (vi c), some (vr it), some (vi fr), some (vi x), some (vi 1), some (vi 5), none, none]) (S' := [vi 0]) k33_37 rfl rfl ?_
        refine ev_s1 (L' := [some (vr 40), some (vi c), some (vr it), some (vi fr), some (vi x), some (vi 1), some (vi 5), some (vi 0), none]) (S' := []) k33_38 rfl rfl ?_
        refine ev_s1 (L' := [some (vr 40), some (vi c), some (vr it), some (vi fr), some (vi x), some (vi 1), some (vi 5), some (vi 0), none]) (S' := [vi 1]) k33_40 rfl rfl ?_
        refine ev_s1 (L' := [some (vr 40), some (vi c), some (vr it), some (vi fr), some (vi x), some (vi 1), some (vi 5), some (vi 0), some (vi 1)]) (S' := []) k33_42 rfl rfl ?_
        have hlo : (1 : Int) = fitL x := by unfold fitL; rw [if_pos (by omega)]
        have hhi : (5 : Int) = fitH x := by unfold fitH; rw [if_neg (by omega), if_neg (by omega)]
        exact l_fits (J := I) (kdJ := kd) hit it1 it2 fr0 c0 c1 hx fr1 hd hlo hhi (by omega) (by omega) (by omega) (by decide) (by decide) hQ 20 I kd 1 0 hN hI (FSx.refl hI) (by omega) (by omega) (by omega) (by rw [bits_f (p := fitP w (I it) fr c x) (n := 0) (by unfold fitP; rw [← hlo]; rfl)]; rfl)
      · refine ev_s1 (L' := [some (vr 40), some (vi c), some (vr it), some (vi fr), some (vi x), some (vi 1), none, none, none]) (S' := [vi 16]) k33_29 rfl rfl ?_
        refine ev_goto (t := 35) k33_31 rfl ?_
        refine ev_s1 (L' := [some (vr 40), some (vi c), some (vr it), some (vi fr), some (vi x), some (vi 1), some (vi 16), none, none]) (S' := []) k33_35 rfl rfl ?_
        refine ev_s1 (L' := [some (vr 40), some (vi c), some (vr it), some (vi fr), some (vi x), some (vi 1), some (vi 16), none, none]) (S' := [vi 0]) k33_37 rfl rfl ?_
        refine ev_s1 (L' := [some (vr 40), some (vi c), some (vr it), some (vi fr), some (vi x), some (vi 1), some (vi 16), some (vi 0), none]) (S' := []) k33_38 rfl rfl ?_
        refine ev_s1 (L' := [some (vr 40), some (vi c), some (vr it), some (vi fr), some (vi x), some (vi 1), some (vi 16), some (vi 0), none]) (S' := [vi 1]) k33_40 rfl rfl ?_
        refine ev_s1 (L' := [some (vr 40), some (vi c), some (vr it), some (vi fr), some (vi x), some (vi 1), some (vi 16), some (vi 0), some (vi 1)]) (S' := []) k33_42 rfl rfl ?_
        have hlo : (1 : Int) = fitL x := by unfold fitL; rw [if_pos (by omega)]
        have hhi : (16 : Int) = fitH x := by unfold fitH; rw [if_neg (by omega), if_pos (by omega)]
        exact l_fits (J := I) (kdJ := kd) hit it1 it2 fr0 c0 c1 hx fr1 hd hlo hhi (by omega) (by omega) (by omega) (by decide) (by decide) hQ 20 I kd 1 0 hN hI (FSx.refl hI) (by omega) (by omega) (by omega) (by rw [bits_f (p := fitP w (I it) fr c x) (n := 0) (by unfold fitP; rw [← hlo]; rfl)]; rfl)
    · refine ev_s1 (L' := [some (vr 40), some (vi c), some (vr it), some (vi fr), some (vi x), some (vi 1), none, none, none]) (S' := [vi 9]) k33_18 rfl rfl ?_
      refine ev_goto (t := 35) k33_20 rfl ?_
      refine ev_s1 (L' := [some (vr 40), some (vi c), some (vr it), some (vi fr), some (vi x), some (vi 1), some (vi 9), none, none]) (S' := []) k33_35 rfl rfl ?_
      refine ev_s1 (L' := [some (vr 40), some (vi c), some (vr it), some (vi fr), some (vi x), some (vi 1), some (vi 9), none, none]) (S' := [vi 0]) k33_37 rfl rfl ?_
      refine ev_s1 (L' := [some (vr 40), some (vi c), some (vr it), some (vi fr), some (vi x), some (vi 1), some (vi 9), some (vi 0), none]) (S' := []) k33_38 rfl rfl ?_
      refine ev_s1 (L' := [some (vr 40), some (vi c), some (vr it), some (vi fr), some (vi x), some (vi 1), some (vi 9), some (vi 0), none]) (S' := [vi 1]) k33_40 rfl rfl ?_
      refine ev_s1 (L' := [some (vr 40), some (vi c), some (vr it), some (vi fr), some (vi x), some (vi 1), some (vi 9), some (vi 0), some (vi 1)]) (S' := []) k33_42 rfl rfl ?_
      have hlo : (1 : Int) = fitL x := by unfold fitL; rw [if_pos (by omega)]
      have hhi : (9 : Int) = fitH x := by unfold fitH; rw [if_pos (by omega)]
      exact l_fits (J := I) (kdJ := kd) hit it1 it2 fr0 c0 c1 hx fr1 hd hlo hhi (by omega) (by omega) (by omega) (by decide) (by decide) hQ 20 I kd 1 0 hN hI (FSx.refl hI) (by omega) (by omega) (by omega) (by rw [bits_f (p := fitP w (I it) fr c x) (n := 0) (by unfold fitP; rw [← hlo]; rfl)]; rfl)
