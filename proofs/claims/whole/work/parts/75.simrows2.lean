set_option maxHeartbeats 1000000 in
theorem x_narrowed {d : Nat} {I : Nat → Int → Int} {ch : Int → Nat} {kd : Nat → Nat} {Q : Option jV → jS → Prop} {l v : Int} (la : -2147483648 ≤ l) (lb : l < 2147483648) (hQ : Q (some (vi (cutF l v))) (SX I ch kd)) : Cl d 147 [vi l, vi v] (SX I ch kd) Q := by
  refine ⟨by rw [l147]; exact Nat.le_of_ble_eq_true rfl, ?_⟩
  rw [l147]
  show Ev d 147 0 [some (vi l), some (vi v)] [] (SX I ch kd) Q
  refine ev_s1 (L' := [some (vi l), some (vi v)]) (S' := [vi l]) k147_0 rfl rfl ?_
  rcases (show l = 0 ∨ l = 1 ∨ (l ≠ 0 ∧ l ≠ 1) by omega) with hs1 | hs1 | hs1
  · refine ev_lsw (t := 28) k147_1 hs1 rfl ?_
    refine ev_s1 (L' := [some (vi l), some (vi v)]) (S' := [vi v]) k147_28 rfl rfl ?_
    refine ev_s1 (L' := [some (vi l), some (vi v)]) (S' := [vi (Int.bmod v 256)]) k147_29 rfl rfl ?_
    refine ev_ireturn k147_30 ?_
    unfold cutF at hQ
    rw [if_pos (by omega)] at hQ
    exact hQ
  · refine ev_lsw (t := 31) k147_1 hs1 rfl ?_
    refine ev_s1 (L' := [some (vi l), some (vi v)]) (S' := [vi v]) k147_31 rfl rfl ?_
    refine ev_s1 (L' := [some (vi l), some (vi v)]) (S' := [vi (Int.bmod v 65536)]) k147_32 rfl rfl ?_
    refine ev_ireturn k147_33 ?_
    unfold cutF at hQ
    rw [if_neg (by omega), if_pos (by omega)] at hQ
    exact hQ
  · refine ev_lsd (t := 34) k147_1 (by omega) (by omega) (by decide) (by simp only [Op.lookupswitch.offset_cons, Op.lookupswitch.offset_nil]; rw [if_neg (by omega), if_neg (by omega)]) rfl ?_
    refine ev_s1 (L' := [some (vi l), some (vi v)]) (S' := [vi v]) k147_34 rfl rfl ?_
    refine ev_ireturn k147_35 ?_
    unfold cutF at hQ
    rw [if_neg (by omega), if_neg (by omega)] at hQ
    exact hQ

set_option maxHeartbeats 1000000 in
theorem l_rowz {d : Nat} {K : Nat → Int → Int} {ch : Int → Nat} {kd : Nat → Nat} {Q : Option jV → jS → Prop} {r l m : Int} {kr : Nat} (hkr : kr = 57 + 2 * r.toNat) (r0 : 0 ≤ r) (r7 : r ≤ 7) (m40 : m ≤ 40) (hd : 1 ≤ d) (hE : ∀ (I' : Nat → Int → Int) (x : Option jV), Rg I' → I' kr 1 = m → (∀ b, 0 ≤ b → b < m → I' (kr + 1) b = 0) → (∀ a b, (a ≠ kr ∧ a ≠ kr + 1) → I' a b = K a b) → Ev d 110 77 [some (vr 0), some (vi r), some (vi l), some (vi m), x] [] (SX I' ch kd) Q) : ∀ (n : Nat) (I : Nat → Int → Int) (i : Nat), Rg I → m - i < n → (i : Int) ≤ m → I kr 1 = (i : Int) → (∀ b, 0 ≤ b → b < (i : Int) → I (kr + 1) b = 0) → (∀ a b, (a ≠ kr ∧ a ≠ kr + 1) → I a b = K a b) → Ev d 110 54 [some (vr 0), some (vi r), some (vi l), some (vi m), some (vi (i : Int))] [] (SX I ch kd) Q := by
  intro n
  induction n with
  | zero => intro I i hI h1 h2; exfalso; omega
  | succ n ih =>
    intro I i hI hn hi hs hz hF
    refine ev_s1 (L' := [some (vr 0), some (vi r), some (vi l), some (vi m), some (vi (i : Int))]) (S' := [vi (i : Int)]) k110_54 rfl rfl ?_
    refine ev_s1 (L' := [some (vr 0), some (vi r), some (vi l), some (vi m), some (vi (i : Int))]) (S' := [vi m, vi (i : Int)]) k110_56 rfl rfl ?_
    refine ev_c_ge (t := 77) k110_57 rfl (by omega) (by omega) (by omega) (by omega) (fun h1 => ?_) (fun h1 => ?_)
    · exact hE _ _ hI (by omega) (fun b b0 b1 => hz b b0 (by omega)) hF
    · refine ev_s1 (L' := [some (vr 0), some (vi r), some (vi l), some (vi m), some (vi (i : Int))]) (S' := [vr 0]) k110_60 rfl rfl ?_
      refine ev_getR k110_61 (by decide) (rfl) (x_0_0 ch kd) ?_
      refine ev_s1 (L' := [some (vr 0), some (vi r), some (vi l), some (vi m), some (vi (i : Int))]) (S' := [vi r, vr 1]) k110_64 rfl rfl ?_
      refine ev_aald (q := kr) k110_65 (by decide) (rfl) (by decide) (by decide) (by omega) (by omega) (rX1 hkr (by omega) (by omega)) ?_
      refine ev_s1 (L' := [some (vr 0), some (vi r), some (vi l), some (vi m), some (vi (i : Int))]) (S' := [vi 0, vr kr]) k110_66 rfl rfl ?_
      refine ev_virt (a := [vi 0]) (S' := []) k110_67 rfl (Nat.le_of_ble_eq_true rfl) (by omega) ((ln1 hkr (by omega) (by omega)).2.1) (by omega) ?_
      refine x_push (ln1 hkr (by omega) (by omega)) hI (v := 0) (by omega) (by omega) (by omega) (by omega) (fun I2 hI2 e2 d2 f2 => ?_)
      rw [hs] at e2 d2 f2
      show Ev d 110 70 [some (vr 0), some (vi r), some (vi l), some (vi m), some (vi (i : Int))] [vi 1] (SX I2 ch kd) Q
      refine ev_s1 (L' := [some (vr 0), some (vi r), some (vi l), some (vi m), some (vi (i : Int))]) (S' := []) k110_70 rfl rfl ?_
      refine ev_s1 (L' := [some (vr 0), some (vi r), some (vi l), some (vi m), some (vi ((i : Int) + 1))]) (S' := []) k110_71 rfl rfl ?_
      refine ev_goto (t := 54) k110_74 rfl ?_
      refine ih I2 (i + 1) hI2 (by omega) (by omega) (by rw [e2]; omega) (fun b b0 b1 => ?_) (fun a b q => (f2 a b (by omega) (by omega)).trans (hF a b q))
      by_cases q : b = (i : Int)
      · rw [q]; exact d2
      · rw [f2 _ _ (by omega) (by omega)]; exact hz b b0 (by omega)

set_option maxHeartbeats 1000000 in
theorem s_row {d e : Nat} {I : Nat → Int → Int} {ch : Int → Nat} {kd : Nat → Nat} {J : Nat → Int → Int} {Q : Option jV → jS → Prop} (hX : XR I ch kd J) {r l n : Int} (ra : -2147483648 ≤ r) (rb : r < 2147483648) (la : -2147483648 ≤ l) (lb : l < 2147483648) (na : -2147483648 ≤ n) (nb : n < 2147483648) (hd : 13 ≤ d) (he : 13 ≤ e) (hQ : ∀ I' ch' kd' v, AN e 163 [vr 0, vi r, vi l, vi n] J v I' ch' kd' → Q (some (vi v)) (SX I' ch' kd')) : Cl d 110 [vr 0, vi r, vi l, vi n] (SX I ch kd) Q := by
  obtain ⟨hI, hJ, hN, hA, hO⟩ := id hX
  have hw := hN.2.2.1
  obtain ⟨⟨wa0, wa1⟩, ⟨wb0, wb1⟩, ⟨wc0, wc1⟩, wC, wG, wU⟩ := id hw
  obtain ⟨kr, hkr⟩ : ∃ kr : Nat, kr = 57 + 2 * r.toNat := ⟨_, rfl⟩
  have hrel := fun (r0 : 0 ≤ r) (r7 : r ≤ 7) => hO.1.rel r0 r7 hkr
  refine ⟨by rw [l110]; exact Nat.le_of_ble_eq_true rfl, ?_⟩
  rw [l110]
  show Ev d 110 0 [some (vr 0), some (vi r), some (vi l), some (vi n), none] [] (SX I ch kd) Q
  refine ev_s1 (L' := [some (vr 0), some (vi r), some (vi l), some (vi n), none]) (S' := [vi r]) k110_0 rfl rfl ?_
  refine ev_static (a := [vi r]) (S' := []) k110_1 rfl (Nat.le_of_ble_eq_true rfl) (by omega) ?_
  refine x_isRow (r := r) (by omega) (by omega) (by omega) (fun h1 => ?_) (fun h1 => ?_)
  · show Ev d 110 4 [some (vr 0), some (vi r), some (vi l), some (vi n), none] [vi 1] (SX I ch kd) Q
    refine ev_z_eq (t := 22) k110_4 rfl (by omega) (by omega) (fun h => absurd h (by decide)) (fun _ => ?_)
    refine ev_s1 (L' := [some (vr 0), some (vi r), some (vi l), some (vi n), none]) (S' := [vi l]) k110_7 rfl rfl ?_
    refine ev_s1 (L' := [some (vr 0), some (vi r), some (vi l), some (vi n), none]) (S' := [vi 0, vi l]) k110_8 rfl rfl ?_
    refine ev_s1 (L' := [some (vr 0), some (vi r), some (vi l), some (vi n), none]) (S' := [vi 2, vi 0, vi l]) k110_9 rfl rfl ?_
    refine ev_static (a := [vi l, vi 0, vi 2]) (S' := []) k110_10 rfl (Nat.le_of_ble_eq_true rfl) (by omega) ?_
    refine x_within (v := l) (lo := 0) (hi := 2) (by omega) (by omega) (by omega) (by omega) (by omega) (by omega) (fun h2 => ?_) (fun h2 => ?_)
    · show Ev d 110 13 [some (vr 0), some (vi r), some (vi l), some (vi n), none] [vi 1] (SX I ch kd) Q
      refine ev_z_eq (t := 22) k110_13 rfl (by omega) (by omega) (fun h => absurd h (by decide)) (fun _ => ?_)
      refine ev_s1 (L' := [some (vr 0), some (vi r), some (vi l), some (vi n), none]) (S' := [vi n]) k110_16 rfl rfl ?_
      refine ev_s1 (L' := [some (vr 0), some (vi r), some (vi l), some (vi n), none]) (S' := [vi 40, vi n]) k110_17 rfl rfl ?_
      refine ev_c_le (t := 25) k110_19 rfl (by omega) (by omega) (by omega) (by omega) (fun h3 => ?_) (fun h3 => ?_)
      · refine ev_s1 (L' := [some (vr 0), some (vi r), some (vi l), some (vi n), none]) (S' := [vi n]) k110_25 rfl rfl ?_
        refine ev_z_ge (t := 35) k110_26 rfl (by omega) (by omega) (fun h4 => ?_) (fun h4 => ?_)
        · refine ev_s1 (L' := [some (vr 0), some (vi r), some (vi l), some (vi n), none]) (S' := [vr 0]) k110_35 rfl rfl ?_
          refine ev_getR k110_36 (by decide) (rfl) (x_0_1 ch kd) ?_
          refine ev_s1 (L' := [some (vr 0), some (vi r), some (vi l), some (vi n), none]) (S' := [vi r, vr 2]) k110_39 rfl rfl ?_
          refine ev_s1 (L' := [some (vr 0), some (vi r), some (vi l), some (vi n), none]) (S' := [vi l, vi r, vr 2]) k110_40 rfl rfl ?_
          refine ev_iast k110_41 (by decide) (rfl) (by omega) (by omega) ?_
          show Ev d 110 42 [some (vr 0), some (vi r), some (vi l), some (vi n), none] [] (SX (up I 2 r l) ch kd) Q
          have hI5 := rg_up hI (k := 2) (j := r) (z := l) (by omega) (by omega)
          generalize hE5 : up I 2 r l = I5 at hI5 ⊢
          have g5 : ∀ (a : Nat) (b : Int), (a ≠ 2 ∨ b ≠ r) → I5 a b = I a b := fun a b h => by rw [← hE5]; exact upN h
          have e5 : I5 2 r = l := by rw [← hE5]; exact upE rfl rfl
          clear hE5
          have hN5 := hN.fr (I' := I5) (fun a b a0 a1 => g5 a b (Or.inl (by omega)))
          refine ev_s1 (L' := [some (vr 0), some (vi r), some (vi l), some (vi n), none]) (S' := [vr 0]) k110_42 rfl rfl ?_
          refine ev_getR k110_43 (by decide) (rfl) (x_0_0 ch kd) ?_
          refine ev_s1 (L' := [some (vr 0), some (vi r), some (vi l), some (vi n), none]) (S' := [vi r, vr 1]) k110_46 rfl rfl ?_
          refine ev_aald (q := kr) k110_47 (by decide) (rfl) (by decide) (by decide) (by omega) (by omega) (rX1 hkr (by omega) (by omega)) ?_
          refine ev_virt (a := []) (S' := []) k110_48 rfl (Nat.le_of_ble_eq_true rfl) (by omega) ((ln1 hkr (by omega) (by omega)).2.1) (by omega) ?_
          refine x_clear (ln1 hkr (by omega) (by omega)) hI5 (fun I6 hI6 e6 f6 => ?_)
          show Ev d 110 51 [some (vr 0), some (vi r), some (vi l), some (vi n), none] [] (SX I6 ch kd) Q
          refine ev_s1 (L' := [some (vr 0), some (vi r), some (vi l), some (vi n), none]) (S' := [vi 0]) k110_51 rfl rfl ?_
          refine ev_s1 (L' := [some (vr 0), some (vi r), some (vi l), some (vi n), some (vi 0)]) (S' := []) k110_52 rfl rfl ?_
          refine l_rowz (K := I6) (m := n) hkr (by omega) (by omega) (by omega) (by omega) (fun I0 x0 hI0 s0 z0 f0 => ?_) 41 I6 0 hI6 (by omega) (by omega) (by rw [e6]; rfl) (fun b b0 b1 => absurd b1 (by omega)) (fun _ _ _ => rfl)
          refine ev_s1 (L' := [some (vr 0), some (vi r), some (vi l), some (vi n), x0]) (S' := [vr 0]) k110_77 rfl rfl ?_
          refine ev_s1 (L' := [some (vr 0), some (vi r), some (vi l), some (vi n), x0]) (S' := [vi n, vr 0]) k110_78 rfl rfl ?_
          refine ev_virt (a := [vi n]) (S' := []) k110_79 rfl (Nat.le_of_ble_eq_true rfl) (by decide) (rfl) (by omega) ?_
          refine x_sound hI0 (v := n) (fun I7 hI7 e7 f7 => ?_)
          show Ev d 110 82 [some (vr 0), some (vi r), some (vi l), some (vi n), x0] [vi n] (SX I7 ch kd) Q
          refine ev_ireturn k110_82 ?_
          refine hQ _ _ _ _ ?_
          refine m_row hJ (by omega) (by omega) (by omega) (by omega) (by omega) (by omega) (by omega) (fun h => by exfalso; omega) (fun h h2 J' fm => by exfalso; omega) (fun h h2 J' fm => ⟨J', rfl, rfl, hX.rom fm ⟨hI7, e7, fun a b q => (f7 a b (by omega)).trans ((f0 a b (by omega)).trans ((f6 a b (by omega)).trans (g5 a b (by omega))))⟩ (hO.1.row (k := kr) (by omega) (by omega) hkr (by omega) (by omega) (by omega) (by omega) ?_ ?_ ?_ ?_ ?_ fm.2.2.2.1 fm.2.2.2.2.1 fm.2.2.2.2.2.1)⟩)
          · rw [f7 2 r (by omega), f0 2 r (by omega), f6 2 r (by omega)]; exact e5
          · rw [f7 kr 1 (by omega)]; exact s0
          · intro b b0 b1; rw [f7 _ _ (by omega)]; exact z0 b b0 b1
          · intro b hb; rw [f7 2 b (by omega), f0 2 b (by omega), f6 2 b (by omega)]; exact g5 2 b (by omega)
          · intro a b a0 a1 a2; exact (f7 a b (by omega)).trans ((f0 a b (by omega)).trans ((f6 a b (by omega)).trans (g5 a b (by omega))))
          
        · refine ev_s1 (L' := [some (vr 0), some (vi r), some (vi l), some (vi n), none]) (S' := [vr 0]) k110_29 rfl rfl ?_
          refine ev_s1 (L' := [some (vr 0), some (vi r), some (vi l), some (vi n), none]) (S' := [vi 4, vr 0]) k110_30 rfl rfl ?_
          refine ev_virt (a := [vi 4]) (S' := []) k110_31 rfl (Nat.le_of_ble_eq_true rfl) (by decide) (rfl) (by omega) ?_
          refine x_found hI (v := 4) (by omega) (by omega) (fun I8 hI8 e8 f8 => ?_)
          show Ev d 110 34 [some (vr 0), some (vi r), some (vi l), some (vi n), none] [vi (-1000010 - 4)] (SX I8 ch kd) Q
          refine ev_ireturn k110_34 ?_
          refine hQ _ _ _ _ ?_
          exact m_row hJ (by omega) (by omega) (by omega) (by omega) (by omega) (by omega) (by omega) (fun h => by exfalso; omega) (fun h h2 J' fm => ⟨J', rfl, rfl, hX.find ⟨hI8, e8, fun a b q1 q2 => f8 a b q1, fun _ _ => rfl⟩ fm⟩) (fun h h2 J' fm => by exfalso; omega)
      · refine ev_ldc k110_22 ?_
        refine ev_ireturn k110_24 ?_
        refine hQ _ _ _ _ ?_
        exact m_row hJ (by omega) (by omega) (by omega) (by omega) (by omega) (by omega) (by omega) (fun h => ⟨J, rfl, rfl, hX⟩) (fun h h2 J' fm => by exfalso; omega) (fun h h2 J' fm => by exfalso; omega)
    · show Ev d 110 13 [some (vr 0), some (vi r), some (vi l), some (vi n), none] [vi 0] (SX I ch kd) Q
      refine ev_z_eq (t := 22) k110_13 rfl (by omega) (by omega) (fun _ => ?_) (fun h => absurd h (by decide))
      refine ev_ldc k110_22 ?_
      refine ev_ireturn k110_24 ?_
      refine hQ _ _ _ _ ?_
      exact m_row hJ (by omega) (by omega) (by omega) (by omega) (by omega) (by omega) (by omega) (fun h => ⟨J, rfl, rfl, hX⟩) (fun h h2 J' fm => by exfalso; omega) (fun h h2 J' fm => by exfalso; omega)
  · show Ev d 110 4 [some (vr 0), some (vi r), some (vi l), some (vi n), none] [vi 0] (SX I ch kd) Q
    refine ev_z_eq (t := 22) k110_4 rfl (by omega) (by omega) (fun _ => ?_) (fun h => absurd h (by decide))
    refine ev_ldc k110_22 ?_
    refine ev_ireturn k110_24 ?_
    refine hQ _ _ _ _ ?_
    exact m_row hJ (by omega) (by omega) (by omega) (by omega) (by omega) (by omega) (by omega) (fun h => ⟨J, rfl, rfl, hX⟩) (fun h h2 J' fm => by exfalso; omega) (fun h h2 J' fm => by exfalso; omega)

set_option maxHeartbeats 1000000 in
theorem s_set {d e : Nat} {I : Nat → Int → Int} {ch : Int → Nat} {kd : Nat → Nat} {J : Nat → Int → Int} {Q : Option jV → jS → Prop} (hX : XR I ch kd J) {r i z : Int} (ra : -2147483648 ≤ r) (rb : r < 2147483648) (ia : -2147483648 ≤ i) (ib : i < 2147483648) (za : -2147483648 ≤ z) (zb : z < 2147483648) (hd : 13 ≤ d) (he : 13 ≤ e) (hQ : ∀ I' ch' kd' v, AN e 164 [vr 0, vi r, vi i, vi z] J v I' ch' kd' → Q (some (vi v)) (SX I' ch' kd')) : Cl d 111 [vr 0, vi r, vi i, vi z] (SX I ch kd) Q := by
  obtain ⟨hI, hJ, hN, hA, hO⟩ := id hX
  have hw := hN.2.2.1
  obtain ⟨⟨wa0, wa1⟩, ⟨wb0, wb1⟩, ⟨wc0, wc1⟩, wC, wG, wU⟩ := id hw
  obtain ⟨kr, hkr⟩ : ∃ kr : Nat, kr = 57 + 2 * r.toNat := ⟨_, rfl⟩
  have hrel := fun (r0 : 0 ≤ r) (r7 : r ≤ 7) => hO.1.rel r0 r7 hkr
  refine ⟨by rw [l111]; exact Nat.le_of_ble_eq_true rfl, ?_⟩
  rw [l111]
  show Ev d 111 0 [some (vr 0), some (vi r), some (vi i), some (vi z)] [] (SX I ch kd) Q
  refine ev_s1 (L' := [some (vr 0), some (vi r), some (vi i), some (vi z)]) (S' := [vi r]) k111_0 rfl rfl ?_
  refine ev_static (a := [vi r]) (S' := []) k111_1 rfl (Nat.le_of_ble_eq_true rfl) (by omega) ?_
  refine x_isRow (r := r) (by omega) (by omega) (by omega) (fun h1 => ?_) (fun h1 => ?_)
  · show Ev d 111 4 [some (vr 0), some (vi r), some (vi i), some (vi z)] [vi 1] (SX I ch kd) Q
    refine ev_z_ne (t := 10) k111_4 rfl (by omega) (by omega) (fun _ => ?_) (fun h => absurd h (by decide))
    have hre := hrel (by omega) (by omega)
    refine ev_s1 (L' := [some (vr 0), some (vi r), some (vi i), some (vi z)]) (S' := [vr 0]) k111_10 rfl rfl ?_
    refine ev_s1 (L' := [some (vr 0), some (vi r), some (vi i), some (vi z)]) (S' := [vi r, vr 0]) k111_11 rfl rfl ?_
    refine ev_virt (a := [vi r]) (S' := []) k111_12 rfl (Nat.le_of_ble_eq_true rfl) (by decide) (rfl) (by omega) ?_
    refine x_isMissing hI (r := r) (by omega) (by omega) (fun h2 => ?_) (fun h2 => ?_)
    · show Ev d 111 15 [some (vr 0), some (vi r), some (vi i), some (vi z)] [vi 1] (SX I ch kd) Q
      refine ev_z_eq (t := 24) k111_15 rfl (by omega) (by omega) (fun h => absurd h (by decide)) (fun _ => ?_)
      refine ev_s1 (L' := [some (vr 0), some (vi r), some (vi i), some (vi z)]) (S' := [vr 0]) k111_18 rfl rfl ?_
      refine ev_s1 (L' := [some (vr 0), some (vi r), some (vi i), some (vi z)]) (S' := [vi 1, vr 0]) k111_19 rfl rfl ?_
      refine ev_virt (a := [vi 1]) (S' := []) k111_20 rfl (Nat.le_of_ble_eq_true rfl) (by decide) (rfl) (by omega) ?_
      refine x_found hI (v := 1) (by omega) (by omega) (fun I3 hI3 e3 f3 => ?_)
      show Ev d 111 23 [some (vr 0), some (vi r), some (vi i), some (vi z)] [vi (-1000010 - 1)] (SX I3 ch kd) Q
      refine ev_ireturn k111_23 ?_
      refine hQ _ _ _ _ ?_
      exact m_set hJ (by omega) (by omega) (by omega) (by omega) (by omega) (by omega) (hO.1.hm r) (by omega) (fun h => by exfalso; omega) (fun h h2 J' fm => ⟨J', rfl, rfl, hX.find ⟨hI3, e3, fun a b q1 q2 => f3 a b q1, fun _ _ => rfl⟩ fm⟩) (fun h h2 h3 J' fm => by exfalso; omega) (fun h h2 h3 J' fm => by exfalso; omega)
    · show Ev d 111 15 [some (vr 0), some (vi r), some (vi i), some (vi z)] [vi 0] (SX I ch kd) Q
      refine ev_z_eq (t := 24) k111_15 rfl (by omega) (by omega) (fun _ => ?_) (fun h => absurd h (by decide))
      refine ev_s1 (L' := [some (vr 0), some (vi r), some (vi i), some (vi z)]) (S' := [vi i]) k111_24 rfl rfl ?_
      refine ev_s1 (L' := [some (vr 0), some (vi r), some (vi i), some (vi z)]) (S' := [vi 0, vi i]) k111_25 rfl rfl ?_
      refine ev_s1 (L' := [some (vr 0), some (vi r), some (vi i), some (vi z)]) (S' := [vr 0, vi 0, vi i]) k111_26 rfl rfl ?_
      refine ev_getR k111_27 (by decide) (rfl) (x_0_0 ch kd) ?_
      refine ev_s1 (L' := [some (vr 0), some (vi r), some (vi i), some (vi z)]) (S' := [vi r, vr 1, vi 0, vi i]) k111_30 rfl rfl ?_
      refine ev_aald (q := kr) k111_31 (by decide) (rfl) (by decide) (by decide) (by omega) (by omega) (rX1 hkr (by omega) (by omega)) ?_
      refine ev_getI k111_32 (by omega) ((ln1 hkr (by omega) (by omega)).2.1) ?_
      show Ev d 111 35 [some (vr 0), some (vi r), some (vi i), some (vi z)] [vi (I kr 1), vi 0, vi i] (SX I ch kd) Q
      have rr4 := hI kr 1
      refine ev_s1 (L' := [some (vr 0), some (vi r), some (vi i), some (vi z)]) (S' := [vi 1, vi (I kr 1), vi 0, vi i]) k111_35 rfl rfl ?_
      refine ev_s1 (L' := [some (vr 0), some (vi r), some (vi i), some (vi z)]) (S' := [vi ((I kr 1) - 1), vi 0, vi i]) k111_36 rfl rfl ?_
      refine ev_static (a := [vi i, vi 0, vi ((I kr 1) - 1)]) (S' := []) k111_37 rfl (Nat.le_of_ble_eq_true rfl) (by omega) ?_
      refine x_within (v := i) (lo := 0) (hi := (I kr 1) - 1) (by omega) (by omega) (by omega) (by omega) (by omega) (by omega) (fun h5 => ?_) (fun h5 => ?_)
      · show Ev d 111 40 [some (vr 0), some (vi r), some (vi i), some (vi z)] [vi 1] (SX I ch kd) Q
        refine ev_z_ne (t := 49) k111_40 rfl (by omega) (by omega) (fun _ => ?_) (fun h => absurd h (by decide))
        refine ev_s1 (L' := [some (vr 0), some (vi r), some (vi i), some (vi z)]) (S' := [vr 0]) k111_49 rfl rfl ?_
        refine ev_getR k111_50 (by decide) (rfl) (x_0_0 ch kd) ?_
        refine ev_s1 (L' := [some (vr 0), some (vi r), some (vi i), some (vi z)]) (S' := [vi r, vr 1]) k111_53 rfl rfl ?_
        refine ev_aald (q := kr) k111_54 (by decide) (rfl) (by decide) (by decide) (by omega) (by omega) (rX1 hkr (by omega) (by omega)) ?_
        refine ev_getR k111_55 (by omega) ((ln1 hkr (by omega) (by omega)).2.1) ((ln1 hkr (by omega) (by omega)).2.2.2.2 ch kd) ?_
        refine ev_s1 (L' := [some (vr 0), some (vi r), some (vi i), some (vi z)]) (S' := [vi i, vr (kr + 1)]) k111_58 rfl rfl ?_
        refine ev_s1 (L' := [some (vr 0), some (vi r), some (vi i), some (vi z)]) (S' := [vr 0, vi i, vr (kr + 1)]) k111_59 rfl rfl ?_
        refine ev_getR k111_60 (by decide) (rfl) (x_0_1 ch kd) ?_
        refine ev_s1 (L' := [some (vr 0), some (vi r), some (vi i), some (vi z)]) (S' := [vi r, vr 2, vi i, vr (kr + 1)]) k111_63 rfl rfl ?_
        refine ev_iald k111_64 (by decide) (rfl) (by omega) (by omega) ?_
        have rr6 := hI 2 r
        refine ev_s1 (L' := [some (vr 0), some (vi r), some (vi i), some (vi z)]) (S' := [vi z, vi (I 2 r), vi i, vr (kr + 1)]) k111_65 rfl rfl ?_
        refine ev_static (a := [vi (I 2 r), vi z]) (S' := [vi i, vr (kr + 1)]) k111_66 rfl (Nat.le_of_ble_eq_true rfl) (by omega) ?_
        refine x_narrowed (l := I 2 r) (v := z) (by omega) (by omega) (?_)
        have cr66 := cut_rng (l := I 2 r) (v := z) (by omega) (by omega)
        show Ev d 111 69 [some (vr 0), some (vi r), some (vi i), some (vi z)] [vi (cutF (I 2 r) z), vi i, vr (kr + 1)] (SX I ch kd) Q
        refine ev_iast k111_69 (by omega) ((ln1 hkr (by omega) (by omega)).2.2.1) (by omega) (by omega) ?_
        show Ev d 111 70 [some (vr 0), some (vi r), some (vi i), some (vi z)] [] (SX (up I (kr + 1) i (cutF (I 2 r) z)) ch kd) Q
        have hI7 := rg_up hI (k := kr + 1) (j := i) (z := cutF (I 2 r) z) (by omega) (by omega)
        generalize hE7 : up I (kr + 1) i (cutF (I 2 r) z) = I7 at hI7 ⊢
        have g7 : ∀ (a : Nat) (b : Int), (a ≠ (kr + 1) ∨ b ≠ i) → I7 a b = I a b := fun a b h => by rw [← hE7]; exact upN h
        have e7 : I7 (kr + 1) i = cutF (I 2 r) z := by rw [← hE7]; exact upE rfl rfl
        clear hE7
        have hN7 := hN.fr (I' := I7) (fun a b a0 a1 => g7 a b (Or.inl (by omega)))
        refine ev_s1 (L' := [some (vr 0), some (vi r), some (vi i), some (vi z)]) (S' := [vr 0]) k111_70 rfl rfl ?_
        refine ev_s1 (L' := [some (vr 0), some (vi r), some (vi i), some (vi z)]) (S' := [vr 0, vr 0]) k111_71 rfl rfl ?_
        refine ev_getR k111_72 (by decide) (rfl) (x_0_0 ch kd) ?_
        refine ev_s1 (L' := [some (vr 0), some (vi r), some (vi i), some (vi z)]) (S' := [vi r, vr 1, vr 0]) k111_75 rfl rfl ?_
        refine ev_aald (q := kr) k111_76 (by decide) (rfl) (by decide) (by decide) (by omega) (by omega) (rX1 hkr (by omega) (by omega)) ?_
        refine ev_getR k111_77 (by omega) ((ln1 hkr (by omega) (by omega)).2.1) ((ln1 hkr (by omega) (by omega)).2.2.2.2 ch kd) ?_
        refine ev_s1 (L' := [some (vr 0), some (vi r), some (vi i), some (vi z)]) (S' := [vi i, vr (kr + 1), vr 0]) k111_80 rfl rfl ?_
        refine ev_iald k111_81 (by omega) ((ln1 hkr (by omega) (by omega)).2.2.1) (by omega) (by omega) ?_
        have rr8 := hI7 (kr + 1) i
        rw [e7]
        rw [e7] at rr8
        refine ev_virt (a := [vi (cutF (I 2 r) z)]) (S' := []) k111_82 rfl (Nat.le_of_ble_eq_true rfl) (by decide) (rfl) (by omega) ?_
        refine x_sound hI7 (v := cutF (I 2 r) z) (fun I9 hI9 e9 f9 => ?_)
        show Ev d 111 85 [some (vr 0), some (vi r), some (vi i), some (vi z)] [vi (cutF (I 2 r) z)] (SX I9 ch kd) Q
        refine ev_ireturn k111_85 ?_
        have el : I 2 r = J 1 r := by omega
        rw [el] at e7 ⊢
        refine hQ _ _ _ _ ?_
        exact m_set hJ (by omega) (by omega) (by omega) (by omega) (by omega) (by omega) (hO.1.hm r) (by omega) (fun h => by exfalso; omega) (fun h h2 J' fm => by exfalso; omega) (fun h h2 h3 J' fm => by exfalso; omega) (fun h h2 h3 J' fm => ⟨J', rfl, rfl, hX.rom fm ⟨hI9, e9, fun a b q => (f9 a b (by omega)).trans (g7 a b (by omega))⟩ (hO.1.set (k := kr) (i := i) (by omega) (by omega) hkr (by omega) (by omega) (by omega) ((f9 _ _ (by omega)).trans e7) (fun b => (f9 _ _ (by omega)).trans (g7 _ _ (by omega))) (fun a b a0 q => (f9 a b (by omega)).trans (g7 a b (by omega))) fm.2.2.2.1 fm.2.2.2.2.1 fm.2.2.2.2.2.1)⟩)
      · show Ev d 111 40 [some (vr 0), some (vi r), some (vi i), some (vi z)] [vi 0] (SX I ch kd) Q
        refine ev_z_ne (t := 49) k111_40 rfl (by omega) (by omega) (fun h => absurd h (by decide)) (fun _ => ?_)
        refine ev_s1 (L' := [some (vr 0), some (vi r), some (vi i), some (vi z)]) (S' := [vr 0]) k111_43 rfl rfl ?_
        refine ev_s1 (L' := [some (vr 0), some (vi r), some (vi i), some (vi z)]) (S' := [vi 2, vr 0]) k111_44 rfl rfl ?_
        refine ev_virt (a := [vi 2]) (S' := []) k111_45 rfl (Nat.le_of_ble_eq_true rfl) (by decide) (rfl) (by omega) ?_
        refine x_found hI (v := 2) (by omega) (by omega) (fun I10 hI10 e10 f10 => ?_)
        show Ev d 111 48 [some (vr 0), some (vi r), some (vi i), some (vi z)] [vi (-1000010 - 2)] (SX I10 ch kd) Q
        refine ev_ireturn k111_48 ?_
        refine hQ _ _ _ _ ?_
        exact m_set hJ (by omega) (by omega) (by omega) (by omega) (by omega) (by omega) (hO.1.hm r) (by omega) (fun h => by exfalso; omega) (fun h h2 J' fm => by exfalso; omega) (fun h h2 h3 J' fm => ⟨J', rfl, rfl, hX.find ⟨hI10, e10, fun a b q1 q2 => f10 a b q1, fun _ _ => rfl⟩ fm⟩) (fun h h2 h3 J' fm => by exfalso; omega)
  · show Ev d 111 4 [some (vr 0), some (vi r), some (vi i), some (vi z)] [vi 0] (SX I ch kd) Q
    refine ev_z_ne (t := 10) k111_4 rfl (by omega) (by omega) (fun h => absurd h (by decide)) (fun _ => ?_)
    refine ev_ldc k111_7 ?_
    refine ev_ireturn k111_9 ?_
    refine hQ _ _ _ _ ?_
    exact m_set hJ (by omega) (by omega) (by omega) (by omega) (by omega) (by omega) (hO.1.hm r) (by omega) (fun h => ⟨J, rfl, rfl, hX⟩) (fun h h2 J' fm => by exfalso; omega) (fun h h2 h3 J' fm => by exfalso; omega) (fun h h2 h3 J' fm => by exfalso; omega)

set_option maxHeartbeats 1000000 in
theorem s_drop {d e : Nat} {I : Nat → Int → Int} {ch : Int → Nat} {kd : Nat → Nat} {J : Nat → Int → Int} {Q : Option jV → jS → Prop} (hX : XR I ch kd J) {r : Int} (ra : -2147483648 ≤ r) (rb : r < 2147483648) (hd : 13 ≤ d) (he : 13 ≤ e) (hQ : ∀ I' ch' kd' v, AN e 167 [vr 0, vi r] J v I' ch' kd' → Q (some (vi v)) (SX I' ch' kd')) : Cl d 113 [vr 0, vi r] (SX I ch kd) Q := by
  obtain ⟨hI, hJ, hN, hA, hO⟩ := id hX
  have hw := hN.2.2.1
  obtain ⟨⟨wa0, wa1⟩, ⟨wb0, wb1⟩, ⟨wc0, wc1⟩, wC, wG, wU⟩ := id hw
  obtain ⟨kr, hkr⟩ : ∃ kr : Nat, kr = 57 + 2 * r.toNat := ⟨_, rfl⟩
  have hrel := fun (r0 : 0 ≤ r) (r7 : r ≤ 7) => hO.1.rel r0 r7 hkr
  refine ⟨by rw [l113]; exact Nat.le_of_ble_eq_true rfl, ?_⟩
  rw [l113]
  show Ev d 113 0 [some (vr 0), some (vi r), none] [] (SX I ch kd) Q
  refine ev_s1 (L' := [some (vr 0), some (vi r), none]) (S' := [vi r]) k113_0 rfl rfl ?_
  refine ev_static (a := [vi r]) (S' := []) k113_1 rfl (Nat.le_of_ble_eq_true rfl) (by omega) ?_
  refine x_isRow (r := r) (by omega) (by omega) (by omega) (fun h1 => ?_) (fun h1 => ?_)
  · show Ev d 113 4 [some (vr 0), some (vi r), none] [vi 1] (SX I ch kd) Q
    refine ev_z_ne (t := 10) k113_4 rfl (by omega) (by omega) (fun _ => ?_) (fun h => absurd h (by decide))
    have hre := hrel (by omega) (by omega)
    refine ev_s1 (L' := [some (vr 0), some (vi r), none]) (S' := [vr 0]) k113_10 rfl rfl ?_
    refine ev_s1 (L' := [some (vr 0), some (vi r), none]) (S' := [vi r, vr 0]) k113_11 rfl rfl ?_
    refine ev_virt (a := [vi r]) (S' := []) k113_12 rfl (Nat.le_of_ble_eq_true rfl) (by decide) (rfl) (by omega) ?_
    refine x_isMissing hI (r := r) (by omega) (by omega) (fun h2 => ?_) (fun h2 => ?_)
    · show Ev d 113 15 [some (vr 0), some (vi r), none] [vi 1] (SX I ch kd) Q
      refine ev_z_eq (t := 24) k113_15 rfl (by omega) (by omega) (fun h => absurd h (by decide)) (fun _ => ?_)
      refine ev_s1 (L' := [some (vr 0), some (vi r), none]) (S' := [vr 0]) k113_18 rfl rfl ?_
      refine ev_s1 (L' := [some (vr 0), some (vi r), none]) (S' := [vi 1, vr 0]) k113_19 rfl rfl ?_
      refine ev_virt (a := [vi 1]) (S' := []) k113_20 rfl (Nat.le_of_ble_eq_true rfl) (by decide) (rfl) (by omega) ?_
      refine x_found hI (v := 1) (by omega) (by omega) (fun I3 hI3 e3 f3 => ?_)
      show Ev d 113 23 [some (vr 0), some (vi r), none] [vi (-1000010 - 1)] (SX I3 ch kd) Q
      refine ev_ireturn k113_23 ?_
      refine hQ _ _ _ _ ?_
      exact m_drop hJ (by omega) (by omega) (by omega) (fun h => by exfalso; omega) (fun h h2 J' fm => ⟨J', rfl, rfl, hX.find ⟨hI3, e3, fun a b q1 q2 => f3 a b q1, fun _ _ => rfl⟩ fm⟩) (fun h h2 J' fm => by exfalso; omega)
    · show Ev d 113 15 [some (vr 0), some (vi r), none] [vi 0] (SX I ch kd) Q
      refine ev_z_eq (t := 24) k113_15 rfl (by omega) (by omega) (fun _ => ?_) (fun h => absurd h (by decide))
      refine ev_s1 (L' := [some (vr 0), some (vi r), none]) (S' := [vr 0]) k113_24 rfl rfl ?_
      refine ev_getR k113_25 (by decide) (rfl) (x_0_0 ch kd) ?_
      refine ev_s1 (L' := [some (vr 0), some (vi r), none]) (S' := [vi r, vr 1]) k113_28 rfl rfl ?_
      refine ev_aald (q := kr) k113_29 (by decide) (rfl) (by decide) (by decide) (by omega) (by omega) (rX1 hkr (by omega) (by omega)) ?_
      refine ev_getI k113_30 (by omega) ((ln1 hkr (by omega) (by omega)).2.1) ?_
      show Ev d 113 33 [some (vr 0), some (vi r), none] [vi (I kr 1)] (SX I ch kd) Q
      have rr4 := hI kr 1
      refine ev_s1 (L' := [some (vr 0), some (vi r), some (vi (I kr 1))]) (S' := []) k113_33 rfl rfl ?_
      refine ev_s1 (L' := [some (vr 0), some (vi r), some (vi (I kr 1))]) (S' := [vr 0]) k113_34 rfl rfl ?_
      refine ev_getR k113_35 (by decide) (rfl) (x_0_1 ch kd) ?_
      refine ev_s1 (L' := [some (vr 0), some (vi r), some (vi (I kr 1))]) (S' := [vi r, vr 2]) k113_38 rfl rfl ?_
      refine ev_s1 (L' := [some (vr 0), some (vi r), some (vi (I kr 1))]) (S' := [vi (-1), vi r, vr 2]) k113_39 rfl rfl ?_
      refine ev_iast k113_40 (by decide) (rfl) (by omega) (by omega) ?_
      show Ev d 113 41 [some (vr 0), some (vi r), some (vi (I kr 1))] [] (SX (up I 2 r (-1)) ch kd) Q
      have hI5 := rg_up hI (k := 2) (j := r) (z := (-1)) (by omega) (by omega)
      generalize hE5 : up I 2 r (-1) = I5 at hI5 ⊢
      have g5 : ∀ (a : Nat) (b : Int), (a ≠ 2 ∨ b ≠ r) → I5 a b = I a b := fun a b h => by rw [← hE5]; exact upN h
      have e5 : I5 2 r = (-1) := by rw [← hE5]; exact upE rfl rfl
      clear hE5
      have hN5 := hN.fr (I' := I5) (fun a b a0 a1 => g5 a b (Or.inl (by omega)))
      refine ev_s1 (L' := [some (vr 0), some (vi r), some (vi (I kr 1))]) (S' := [vr 0]) k113_41 rfl rfl ?_
      refine ev_getR k113_42 (by decide) (rfl) (x_0_0 ch kd) ?_
      refine ev_s1 (L' := [some (vr 0), some (vi r), some (vi (I kr 1))]) (S' := [vi r, vr 1]) k113_45 rfl rfl ?_
      refine ev_aald (q := kr) k113_46 (by decide) (rfl) (by decide) (by decide) (by omega) (by omega) (rX1 hkr (by omega) (by omega)) ?_
      refine ev_virt (a := []) (S' := []) k113_47 rfl (Nat.le_of_ble_eq_true rfl) (by omega) ((ln1 hkr (by omega) (by omega)).2.1) (by omega) ?_
      refine x_clear (ln1 hkr (by omega) (by omega)) hI5 (fun I6 hI6 e6 f6 => ?_)
      show Ev d 113 50 [some (vr 0), some (vi r), some (vi (I kr 1))] [] (SX I6 ch kd) Q
      refine ev_s1 (L' := [some (vr 0), some (vi r), some (vi (I kr 1))]) (S' := [vr 0]) k113_50 rfl rfl ?_
      refine ev_s1 (L' := [some (vr 0), some (vi r), some (vi (I kr 1))]) (S' := [vi (I kr 1), vr 0]) k113_51 rfl rfl ?_
      refine ev_virt (a := [vi (I kr 1)]) (S' := []) k113_52 rfl (Nat.le_of_ble_eq_true rfl) (by decide) (rfl) (by omega) ?_
      refine x_sound hI6 (v := I kr 1) (fun I7 hI7 e7 f7 => ?_)
      show Ev d 113 55 [some (vr 0), some (vi r), some (vi (I kr 1))] [vi (I kr 1)] (SX I7 ch kd) Q
      refine ev_ireturn k113_55 ?_
      have el : I kr 1 = J 2 r := by omega
      rw [el]
      refine hQ _ _ _ _ ?_
      exact m_drop hJ (by omega) (by omega) (by omega) (fun h => by exfalso; omega) (fun h h2 J' fm => by exfalso; omega) (fun h h2 J' fm => ⟨J', rfl, rfl, hX.rom fm ⟨hI7, e7, fun a b q => (f7 a b (by omega)).trans ((f6 a b (by omega)).trans (g5 a b (by omega)))⟩ (hO.1.drop (k := kr) (by omega) (by omega) hkr ((f7 _ _ (by omega)).trans ((f6 _ _ (by omega)).trans e5)) (fun b hb => (f7 _ _ (by omega)).trans ((f6 _ _ (by omega)).trans (g5 _ _ (by omega)))) (fun a b a0 a1 => (f7 a b (by omega)).trans ((f6 a b (by omega)).trans (g5 a b (by omega)))) fm.2.2.2.1 fm.2.2.2.2.1 fm.2.2.2.2.2.1)⟩)
  · show Ev d 113 4 [some (vr 0), some (vi r), none] [vi 0] (SX I ch kd) Q
    refine ev_z_ne (t := 10) k113_4 rfl (by omega) (by omega) (fun h => absurd h (by decide)) (fun _ => ?_)
    refine ev_ldc k113_7 ?_
    refine ev_ireturn k113_9 ?_
    refine hQ _ _ _ _ ?_
    exact m_drop hJ (by omega) (by omega) (by omega) (fun h => ⟨J, rfl, rfl, hX⟩) (fun h h2 J' fm => by exfalso; omega) (fun h h2 J' fm => by exfalso; omega)

set_option maxHeartbeats 1000000 in
theorem s_copy {d e : Nat} {I : Nat → Int → Int} {ch : Int → Nat} {kd : Nat → Nat} {J : Nat → Int → Int} {Q : Option jV → jS → Prop} (hX : XR I ch kd J) {a i b j n : Int} (aa : -2147483648 ≤ a) (ab : a < 2147483648) (ia : -2147483648 ≤ i) (ib : i < 2147483648) (ba : -2147483648 ≤ b) (bb : b < 2147483648) (ja : -2147483648 ≤ j) (jb : j < 2147483648) (na : -2147483648 ≤ n) (nb : n < 2147483648) (hd : 13 ≤ d) (he : 13 ≤ e) (hQ : ∀ I' ch' kd' v, AN e 166 [vr 0, vi a, vi i, vi b, vi j, vi n] J v I' ch' kd' → Q (some (vi v)) (SX I' ch' kd')) : Cl d 112 [vr 0, vi a, vi i, vi b, vi j, vi n] (SX I ch kd) Q := by
  obtain ⟨hI, hJ, hN, hA, hO⟩ := id hX
  have hw := hN.2.2.1
  obtain ⟨⟨wa0, wa1⟩, ⟨wb0, wb1⟩, ⟨wc0, wc1⟩, wC, wG, wU⟩ := id hw
  obtain ⟨ka, hka⟩ : ∃ kr : Nat, kr = 57 + 2 * a.toNat := ⟨_, rfl⟩
  obtain ⟨kb, hkb⟩ : ∃ kr : Nat, kr = 57 + 2 * b.toNat := ⟨_, rfl⟩
  have hra := fun (r0 : 0 ≤ a) (r7 : a ≤ 7) => hO.1.rel r0 r7 hka
  have hrb := fun (r0 : 0 ≤ b) (r7 : b ≤ 7) => hO.1.rel r0 r7 hkb
  refine ⟨by rw [l112]; exact Nat.le_of_ble_eq_true rfl, ?_⟩
  rw [l112]
  show Ev d 112 0 [some (vr 0), some (vi a), some (vi i), some (vi b), some (vi j), some (vi n)] [] (SX I ch kd) Q
  refine ev_s1 (L' := [some (vr 0), some (vi a), some (vi i), some (vi b), some (vi j), some (vi n)]) (S' := [vi a]) k112_0 rfl rfl ?_
  refine ev_static (a := [vi a]) (S' := []) k112_1 rfl (Nat.le_of_ble_eq_true rfl) (by omega) ?_
  refine x_isRow (r := a) (by omega) (by omega) (by omega) (fun h1 => ?_) (fun h1 => ?_)
  · show Ev d 112 4 [some (vr 0), some (vi a), some (vi i), some (vi b), some (vi j), some (vi n)] [vi 1] (SX I ch kd) Q
    refine ev_z_eq (t := 14) k112_4 rfl (by omega) (by omega) (fun h => absurd h (by decide)) (fun _ => ?_)
    refine ev_s1 (L' := [some (vr 0), some (vi a), some (vi i), some (vi b), some (vi j), some (vi n)]) (S' := [vi b]) k112_7 rfl rfl ?_
    refine ev_static (a := [vi b]) (S' := []) k112_8 rfl (Nat.le_of_ble_eq_true rfl) (by omega) ?_
    refine x_isRow (r := b) (by omega) (by omega) (by omega) (fun h2 => ?_) (fun h2 => ?_)
    · show Ev d 112 11 [some (vr 0), some (vi a), some (vi i), some (vi b), some (vi j), some (vi n)] [vi 1] (SX I ch kd) Q
      refine ev_z_ne (t := 17) k112_11 rfl (by omega) (by omega) (fun _ => ?_) (fun h => absurd h (by decide))
      have hre := hra (by omega) (by omega)
      have hrf := hrb (by omega) (by omega)
      refine ev_s1 (L' := [some (vr 0), some (vi a), some (vi i), some (vi b), some (vi j), some (vi n)]) (S' := [vr 0]) k112_17 rfl rfl ?_
      refine ev_s1 (L' := [some (vr 0), some (vi a), some (vi i), some (vi b), some (vi j), some (vi n)]) (S' := [vi a, vr 0]) k112_18 rfl rfl ?_
      refine ev_virt (a := [vi a]) (S' := []) k112_19 rfl (Nat.le_of_ble_eq_true rfl) (by decide) (rfl) (by omega) ?_
      refine x_isMissing hI (r := a) (by omega) (by omega) (fun h3 => ?_) (fun h3 => ?_)
      · show Ev d 112 22 [some (vr 0), some (vi a), some (vi i), some (vi b), some (vi j), some (vi n)] [vi 1] (SX I ch kd) Q
        refine ev_z_ne (t := 33) k112_22 rfl (by omega) (by omega) (fun _ => ?_) (fun h => absurd h (by decide))
        refine ev_s1 (L' := [some (vr 0), some (vi a), some (vi i), some (vi b), some (vi j), some (vi n)]) (S' := [vr 0]) k112_33 rfl rfl ?_
        refine ev_s1 (L' := [some (vr 0), some (vi a), some (vi i), some (vi b), some (vi j), some (vi n)]) (S' := [vi 1, vr 0]) k112_34 rfl rfl ?_
        refine ev_virt (a := [vi 1]) (S' := []) k112_35 rfl (Nat.le_of_ble_eq_true rfl) (by decide) (rfl) (by omega) ?_
        refine x_found hI (v := 1) (by omega) (by omega) (fun I4 hI4 e4 f4 => ?_)
        show Ev d 112 38 [some (vr 0), some (vi a), some (vi i), some (vi b), some (vi j), some (vi n)] [vi (-1000010 - 1)] (SX I4 ch kd) Q
        refine ev_ireturn k112_38 ?_
        refine hQ _ _ _ _ ?_
        exact m_copy hJ (by omega) (by omega) (by omega) (by omega) (by omega) (by omega) (by omega) (by omega) (by omega) (by omega) hO.1.hm (by omega) (fun h => by exfalso; omega) (fun h h2 J' fm => ⟨J', rfl, rfl, hX.find ⟨hI4, e4, fun a b q1 q2 => f4 a b q1, fun _ _ => rfl⟩ fm⟩) (fun h h2 h3 J' fm => by exfalso; omega) (fun h h2 h3 h4 J' fm => by exfalso; omega) (fun h h2 h3 h4 J' fm => by exfalso; omega)
      · show Ev d 112 22 [some (vr 0), some (vi a), some (vi i), some (vi b), some (vi j), some (vi n)] [vi 0] (SX I ch kd) Q
        refine ev_z_ne (t := 33) k112_22 rfl (by omega) (by omega) (fun h => absurd h (by decide)) (fun _ => ?_)
        refine ev_s1 (L' := [some (vr 0), some (vi a), some (vi i), some (vi b), some (vi j), some (vi n)]) (S' := [vr 0]) k112_25 rfl rfl ?_
        refine ev_s1 (L' := [some (vr 0), some (vi a), some (vi i), some (vi b), some (vi j), some (vi n)]) (S' := [vi b, vr 0]) k112_26 rfl rfl ?_
        refine ev_virt (a := [vi b]) (S' := []) k112_27 rfl (Nat.le_of_ble_eq_true rfl) (by decide) (rfl) (by omega) ?_
        refine x_isMissing hI (r := b) (by omega) (by omega) (fun h5 => ?_) (fun h5 => ?_)
        · show Ev d 112 30 [some (vr 0), some (vi a), some (vi i), some (vi b), some (vi j), some (vi n)] [vi 1] (SX I ch kd) Q
          refine ev_z_eq (t := 39) k112_30 rfl (by omega) (by omega) (fun h => absurd h (by decide)) (fun _ => ?_)
          refine ev_s1 (L' := [some (vr 0), some (vi a), some (vi i), some (vi b), some (vi j), some (vi n)]) (S' := [vr 0]) k112_33 rfl rfl ?_
          refine ev_s1 (L' := [some (vr 0), some (vi a), some (vi i), some (vi b), some (vi j), some (vi n)]) (S' := [vi 1, vr 0]) k112_34 rfl rfl ?_
          refine ev_virt (a := [vi 1]) (S' := []) k112_35 rfl (Nat.le_of_ble_eq_true rfl) (by decide) (rfl) (by omega) ?_
          refine x_found hI (v := 1) (by omega) (by omega) (fun I6 hI6 e6 f6 => ?_)
          show Ev d 112 38 [some (vr 0), some (vi a), some (vi i), some (vi b), some (vi j), some (vi n)] [vi (-1000010 - 1)] (SX I6 ch kd) Q
          refine ev_ireturn k112_38 ?_
          refine hQ _ _ _ _ ?_
          exact m_copy hJ (by omega) (by omega) (by omega) (by omega) (by omega) (by omega) (by omega) (by omega) (by omega) (by omega) hO.1.hm (by omega) (fun h => by exfalso; omega) (fun h h2 J' fm => ⟨J', rfl, rfl, hX.find ⟨hI6, e6, fun a b q1 q2 => f6 a b q1, fun _ _ => rfl⟩ fm⟩) (fun h h2 h3 J' fm => by exfalso; omega) (fun h h2 h3 h4 J' fm => by exfalso; omega) (fun h h2 h3 h4 J' fm => by exfalso; omega)
        · show Ev d 112 30 [some (vr 0), some (vi a), some (vi i), some (vi b), some (vi j), some (vi n)] [vi 0] (SX I ch kd) Q
          refine ev_z_eq (t := 39) k112_30 rfl (by omega) (by omega) (fun _ => ?_) (fun h => absurd h (by decide))
          refine ev_s1 (L' := [some (vr 0), some (vi a), some (vi i), some (vi b), some (vi j), some (vi n)]) (S' := [vr 0]) k112_39 rfl rfl ?_
          refine ev_getR k112_40 (by decide) (rfl) (x_0_1 ch kd) ?_
          refine ev_s1 (L' := [some (vr 0), some (vi a), some (vi i), some (vi b), some (vi j), some (vi n)]) (S' := [vi a, vr 2]) k112_43 rfl rfl ?_
          refine ev_iald k112_44 (by decide) (rfl) (by omega) (by omega) ?_
          have rr7 := hI 2 a
          refine ev_s1 (L' := [some (vr 0), some (vi a), some (vi i), some (vi b), some (vi j), some (vi n)]) (S' := [vr 0, vi (I 2 a)]) k112_45 rfl rfl ?_
          refine ev_getR k112_46 (by decide) (rfl) (x_0_1 ch kd) ?_
          refine ev_s1 (L' := [some (vr 0), some (vi a), some (vi i), some (vi b), some (vi j), some (vi n)]) (S' := [vi b, vr 2, vi (I 2 a)]) k112_49 rfl rfl ?_
          refine ev_iald k112_50 (by decide) (rfl) (by omega) (by omega) ?_
          have rr8 := hI 2 b
          refine ev_c_eq (t := 60) k112_51 rfl (by omega) (by omega) (by omega) (by omega) (fun h9 => ?_) (fun h9 => ?_)
          · refine ev_s1 (L' := [some (vr 0), some (vi a), some (vi i), some (vi b), some (vi j), some (vi n)]) (S' := [vr 0]) k112_60 rfl rfl ?_
            refine ev_getR k112_61 (by decide) (rfl) (x_0_0 ch kd) ?_
            refine ev_s1 (L' := [some (vr 0), some (vi a), some (vi i), some (vi b), some (vi j), some (vi n)]) (S' := [vi a, vr 1]) k112_64 rfl rfl ?_
            refine ev_aald (q := ka) k112_65 (by decide) (rfl) (by decide) (by decide) (by omega) (by omega) (rX1 hka (by omega) (by omega)) ?_
            refine ev_s1 (L' := [some (vr 0), some (vi a), some (vi i), some (vi b), some (vi j), some (vi n)]) (S' := [vi i, vr ka]) k112_66 rfl rfl ?_
            refine ev_s1 (L' := [some (vr 0), some (vi a), some (vi i), some (vi b), some (vi j), some (vi n)]) (S' := [vi n, vi i, vr ka]) k112_67 rfl rfl ?_
            refine ev_virt (a := [vi i, vi n]) (S' := []) k112_69 rfl (Nat.le_of_ble_eq_true rfl) (by omega) ((ln1 hka (by omega) (by omega)).2.1) (by omega) ?_
            refine c_holds (ln1 hka (by omega) (by omega)) hI (i := i) (n := n) (by omega) (by omega) (by omega) (by omega) (by omega) (fun hx10 hy10 hz10 => ?_) (fun h10 => ?_)
            · show Ev d 112 72 [some (vr 0), some (vi a), some (vi i), some (vi b), some (vi j), some (vi n)] [vi 1] (SX I ch kd) Q
              refine ev_z_eq (t := 91) k112_72 rfl (by omega) (by omega) (fun h => absurd h (by decide)) (fun _ => ?_)
              refine ev_s1 (L' := [some (vr 0), some (vi a), some (vi i), some (vi b), some (vi j), some (vi n)]) (S' := [vr 0]) k112_75 rfl rfl ?_
              refine ev_getR k112_76 (by decide) (rfl) (x_0_0 ch kd) ?_
              refine ev_s1 (L' := [some (vr 0), some (vi a), some (vi i), some (vi b), some (vi j), some (vi n)]) (S' := [vi b, vr 1]) k112_79 rfl rfl ?_
              refine ev_aald (q := kb) k112_80 (by decide) (rfl) (by decide) (by decide) (by omega) (by omega) (rX1 hkb (by omega) (by omega)) ?_
              refine ev_s1 (L' := [some (vr 0), some (vi a), some (vi i), some (vi b), some (vi j), some (vi n)]) (S' := [vi j, vr kb]) k112_81 rfl rfl ?_
              refine ev_s1 (L' := [some (vr 0), some (vi a), some (vi i), some (vi b), some (vi j), some (vi n)]) (S' := [vi n, vi j, vr kb]) k112_83 rfl rfl ?_
              refine ev_virt (a := [vi j, vi n]) (S' := []) k112_85 rfl (Nat.le_of_ble_eq_true rfl) (by omega) ((ln1 hkb (by omega) (by omega)).2.1) (by omega) ?_
              refine c_holds (ln1 hkb (by omega) (by omega)) hI (i := j) (n := n) (by omega) (by omega) (by omega) (by omega) (by omega) (fun hx11 hy11 hz11 => ?_) (fun h11 => ?_)
              · show Ev d 112 88 [some (vr 0), some (vi a), some (vi i), some (vi b), some (vi j), some (vi n)] [vi 1] (SX I ch kd) Q
                refine ev_z_ne (t := 97) k112_88 rfl (by omega) (by omega) (fun _ => ?_) (fun h => absurd h (by decide))
                refine ev_s1 (L' := [some (vr 0), some (vi a), some (vi i), some (vi b), some (vi j), some (vi n)]) (S' := [vr 0]) k112_97 rfl rfl ?_
                refine ev_getR k112_98 (by decide) (rfl) (x_0_0 ch kd) ?_
                refine ev_s1 (L' := [some (vr 0), some (vi a), some (vi i), some (vi b), some (vi j), some (vi n)]) (S' := [vi a, vr 1]) k112_101 rfl rfl ?_
                refine ev_aald (q := ka) k112_102 (by decide) (rfl) (by decide) (by decide) (by omega) (by omega) (rX1 hka (by omega) (by omega)) ?_
                refine ev_getR k112_103 (by omega) ((ln1 hka (by omega) (by omega)).2.1) ((ln1 hka (by omega) (by omega)).2.2.2.2 ch kd) ?_
                refine ev_s1 (L' := [some (vr 0), some (vi a), some (vi i), some (vi b), some (vi j), some (vi n)]) (S' := [vi i, vr (ka + 1)]) k112_106 rfl rfl ?_
                refine ev_s1 (L' := [some (vr 0), some (vi a), some (vi i), some (vi b), some (vi j), some (vi n)]) (S' := [vr 0, vi i, vr (ka + 1)]) k112_107 rfl rfl ?_
                refine ev_getR k112_108 (by decide) (rfl) (x_0_0 ch kd) ?_
                refine ev_s1 (L' := [some (vr 0), some (vi a), some (vi i), some (vi b), some (vi j), some (vi n)]) (S' := [vi b, vr 1, vi i, vr (ka + 1)]) k112_111 rfl rfl ?_
                refine ev_aald (q := kb) k112_112 (by decide) (rfl) (by decide) (by decide) (by omega) (by omega) (rX1 hkb (by omega) (by omega)) ?_
                refine ev_getR k112_113 (by omega) ((ln1 hkb (by omega) (by omega)).2.1) ((ln1 hkb (by omega) (by omega)).2.2.2.2 ch kd) ?_
                refine ev_s1 (L' := [some (vr 0), some (vi a), some (vi i), some (vi b), some (vi j), some (vi n)]) (S' := [vi j, vr (kb + 1), vi i, vr (ka + 1)]) k112_116 rfl rfl ?_
                refine ev_s1 (L' := [some (vr 0), some (vi a), some (vi i), some (vi b), some (vi j), some (vi n)]) (S' := [vi n, vi j, vr (kb + 1), vi i, vr (ka + 1)]) k112_118 rfl rfl ?_
                refine ev_cpy (l0 := 40) (l1 := 40) k112_120 (by omega) (by omega) (ln1 hka (by omega) (by omega)).2.2.1 (ln1 hkb (by omega) (by omega)).2.2.1 (by omega) (by omega) (by omega) (by omega) (by omega) (Nat.le_of_ble_eq_true rfl) ?_
                have hI12 : Rg (cpI I (ka + 1) (kb + 1) i j n) := fun x y => by unfold cpI; split <;> exact hI _ _
                have c12 : ∀ x y, cpI I (ka + 1) (kb + 1) i j n x y = if x = kb + 1 ∧ j ≤ y ∧ y < j + n then I (ka + 1) (i + (y - j)) else I x y := fun _ _ => rfl
                generalize cpI I (ka + 1) (kb + 1) i j n = I12 at hI12 c12 ⊢
                show Ev d 112 123 [some (vr 0), some (vi a), some (vi i), some (vi b), some (vi j), some (vi n)] [] (SX I12 ch kd) Q
                refine ev_s1 (L' := [some (vr 0), some (vi a), some (vi i), some (vi b), some (vi j), some (vi n)]) (S' := [vr 0]) k112_123 rfl rfl ?_
                refine ev_s1 (L' := [some (vr 0), some (vi a), some (vi i), some (vi b), some (vi j), some (vi n)]) (S' := [vi n, vr 0]) k112_124 rfl rfl ?_
                refine ev_virt (a := [vi n]) (S' := []) k112_126 rfl (Nat.le_of_ble_eq_true rfl) (by decide) (rfl) (by omega) ?_
                refine x_sound hI12 (v := n) (fun I13 hI13 e13 f13 => ?_)
                show Ev d 112 129 [some (vr 0), some (vi a), some (vi i), some (vi b), some (vi j), some (vi n)] [vi n] (SX I13 ch kd) Q
                refine ev_ireturn k112_129 ?_
                refine hQ _ _ _ _ ?_
                refine m_copy hJ (by omega) (by omega) (by omega) (by omega) (by omega) (by omega) (by omega) (by omega) (by omega) (by omega) hO.1.hm (by omega) (fun h => by exfalso; omega) (fun h h2 J' fm => by exfalso; omega) (fun h h2 h3 J' fm => by exfalso; omega) (fun h h2 h3 h4 J' fm => by exfalso; omega) (fun h h2 h3 h4 J' fm => ⟨J', rfl, rfl, hX.rom fm ⟨hI13, e13, fun x y q => (f13 x y (by omega)).trans ((c12 x y).trans (if_neg (by omega)))⟩ (hO.1.copy (ka := ka) (kb := kb) (i := i) (j := j) (n := n) (by omega) (by omega) (by omega) (by omega) hka hkb (by omega) (by omega) (by omega) (by omega) (by omega) (by omega) (fun y => ?_) (fun y => (f13 _ _ (by omega)).trans ((c12 _ _).trans (if_neg (by omega)))) (fun x y x0 q => (f13 x y (by omega)).trans ((c12 x y).trans (if_neg (by omega)))) fm.2.2.2.1 fm.2.2.2.2.1 fm.2.2.2.2.2.1)⟩)
                rw [f13 _ _ (by omega), c12]
                by_cases q : j ≤ y ∧ y < j + n
                · rw [if_pos ⟨rfl, q⟩, if_pos q]
                · rw [if_neg (fun u => q u.2), if_neg q]
                
              · show Ev d 112 88 [some (vr 0), some (vi a), some (vi i), some (vi b), some (vi j), some (vi n)] [vi 0] (SX I ch kd) Q
                refine ev_z_ne (t := 97) k112_88 rfl (by omega) (by omega) (fun h => absurd h (by decide)) (fun _ => ?_)
                refine ev_s1 (L' := [some (vr 0), some (vi a), some (vi i), some (vi b), some (vi j), some (vi n)]) (S' := [vr 0]) k112_91 rfl rfl ?_
                refine ev_s1 (L' := [some (vr 0), some (vi a), some (vi i), some (vi b), some (vi j), some (vi n)]) (S' := [vi 2, vr 0]) k112_92 rfl rfl ?_
                refine ev_virt (a := [vi 2]) (S' := []) k112_93 rfl (Nat.le_of_ble_eq_true rfl) (by decide) (rfl) (by omega) ?_
                refine x_found hI (v := 2) (by omega) (by omega) (fun I14 hI14 e14 f14 => ?_)
                show Ev d 112 96 [some (vr 0), some (vi a), some (vi i), some (vi b), some (vi j), some (vi n)] [vi (-1000010 - 2)] (SX I14 ch kd) Q
                refine ev_ireturn k112_96 ?_
                refine hQ _ _ _ _ ?_
                exact m_copy hJ (by omega) (by omega) (by omega) (by omega) (by omega) (by omega) (by omega) (by omega) (by omega) (by omega) hO.1.hm (by omega) (fun h => by exfalso; omega) (fun h h2 J' fm => by exfalso; omega) (fun h h2 h3 J' fm => by exfalso; omega) (fun h h2 h3 h4 J' fm => ⟨J', rfl, rfl, hX.find ⟨hI14, e14, fun a b q1 q2 => f14 a b q1, fun _ _ => rfl⟩ fm⟩) (fun h h2 h3 h4 J' fm => by exfalso; omega)
            · show Ev d 112 72 [some (vr 0), some (vi a), some (vi i), some (vi b), some (vi j), some (vi n)] [vi 0] (SX I ch kd) Q
              refine ev_z_eq (t := 91) k112_72 rfl (by omega) (by omega) (fun _ => ?_) (fun h => absurd h (by decide))
              refine ev_s1 (L' := [some (vr 0), some (vi a), some (vi i), some (vi b), some (vi j), some (vi n)]) (S' := [vr 0]) k112_91 rfl rfl ?_
              refine ev_s1 (L' := [some (vr 0), some (vi a), some (vi i), some (vi b), some (vi j), some (vi n)]) (S' := [vi 2, vr 0]) k112_92 rfl rfl ?_
              refine ev_virt (a := [vi 2]) (S' := []) k112_93 rfl (Nat.le_of_ble_eq_true rfl) (by decide) (rfl) (by omega) ?_
              refine x_found hI (v := 2) (by omega) (by omega) (fun I15 hI15 e15 f15 => ?_)
              show Ev d 112 96 [some (vr 0), some (vi a), some (vi i), some (vi b), some (vi j), some (vi n)] [vi (-1000010 - 2)] (SX I15 ch kd) Q
              refine ev_ireturn k112_96 ?_
              refine hQ _ _ _ _ ?_
              exact m_copy hJ (by omega) (by omega) (by omega) (by omega) (by omega) (by omega) (by omega) (by omega) (by omega) (by omega) hO.1.hm (by omega) (fun h => by exfalso; omega) (fun h h2 J' fm => by exfalso; omega) (fun h h2 h3 J' fm => by exfalso; omega) (fun h h2 h3 h4 J' fm => ⟨J', rfl, rfl, hX.find ⟨hI15, e15, fun a b q1 q2 => f15 a b q1, fun _ _ => rfl⟩ fm⟩) (fun h h2 h3 h4 J' fm => by exfalso; omega)
          · refine ev_s1 (L' := [some (vr 0), some (vi a), some (vi i), some (vi b), some (vi j), some (vi n)]) (S' := [vr 0]) k112_54 rfl rfl ?_
            refine ev_s1 (L' := [some (vr 0), some (vi a), some (vi i), some (vi b), some (vi j), some (vi n)]) (S' := [vi 5, vr 0]) k112_55 rfl rfl ?_
            refine ev_virt (a := [vi 5]) (S' := []) k112_56 rfl (Nat.le_of_ble_eq_true rfl) (by decide) (rfl) (by omega) ?_
            refine x_found hI (v := 5) (by omega) (by omega) (fun I16 hI16 e16 f16 => ?_)
            show Ev d 112 59 [some (vr 0), some (vi a), some (vi i), some (vi b), some (vi j), some (vi n)] [vi (-1000010 - 5)] (SX I16 ch kd) Q
            refine ev_ireturn k112_59 ?_
            refine hQ _ _ _ _ ?_
            exact m_copy hJ (by omega) (by omega) (by omega) (by omega) (by omega) (by omega) (by omega) (by omega) (by omega) (by omega) hO.1.hm (by omega) (fun h => by exfalso; omega) (fun h h2 J' fm => by exfalso; omega) (fun h h2 h3 J' fm => ⟨J', rfl, rfl, hX.find ⟨hI16, e16, fun a b q1 q2 => f16 a b q1, fun _ _ => rfl⟩ fm⟩) (fun h h2 h3 h4 J' fm => by exfalso; omega) (fun h h2 h3 h4 J' fm => by exfalso; omega)
    · show Ev d 112 11 [some (vr 0), some (vi a), some (vi i), some (vi b), some (vi j), some (vi n)] [vi 0] (SX I ch kd) Q
      refine ev_z_ne (t := 17) k112_11 rfl (by omega) (by omega) (fun h => absurd h (by decide)) (fun _ => ?_)
      refine ev_ldc k112_14 ?_
      refine ev_ireturn k112_16 ?_
      refine hQ _ _ _ _ ?_
      exact m_copy hJ (by omega) (by omega) (by omega) (by omega) (by omega) (by omega) (by omega) (by omega) (by omega) (by omega) hO.1.hm (by omega) (fun h => ⟨J, rfl, rfl, hX⟩) (fun h h2 J' fm => by exfalso; omega) (fun h h2 h3 J' fm => by exfalso; omega) (fun h h2 h3 h4 J' fm => by exfalso; omega) (fun h h2 h3 h4 J' fm => by exfalso; omega)
  · show Ev d 112 4 [some (vr 0), some (vi a), some (vi i), some (vi b), some (vi j), some (vi n)] [vi 0] (SX I ch kd) Q
    refine ev_z_eq (t := 14) k112_4 rfl (by omega) (by omega) (fun _ => ?_) (fun h => absurd h (by decide))
    refine ev_ldc k112_14 ?_
    refine ev_ireturn k112_16 ?_
    refine hQ _ _ _ _ ?_
    exact m_copy hJ (by omega) (by omega) (by omega) (by omega) (by omega) (by omega) (by omega) (by omega) (by omega) (by omega) hO.1.hm (by omega) (fun h => ⟨J, rfl, rfl, hX⟩) (fun h h2 J' fm => by exfalso; omega) (fun h h2 h3 J' fm => by exfalso; omega) (fun h h2 h3 h4 J' fm => by exfalso; omega) (fun h h2 h3 h4 J' fm => by exfalso; omega)
