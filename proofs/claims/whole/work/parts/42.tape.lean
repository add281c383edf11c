set_option maxHeartbeats 1000000 in
theorem x_guests {d : Nat} {I : Nat → Int → Int} {ch : Int → Nat} {kd : Nat → Nat} {Q : Option jV → jS → Prop} {T : Int → Int} {z p μ i : Int} (h : RS I T z p μ) (hμ : μ ≠ 0) (m0 : 0 ≤ μ) (m1 : μ ≤ 3) (i0 : 0 ≤ i) (i1 : i ≤ 10) (hE : Q none (SX I ch kd)) : Ev d 65 2 [some (vr 24), some (vi i)] [] (SX I ch kd) Q := by
  refine ev_s1 (L' := [some (vr 24), some (vi i)]) (S' := [vi i]) k65_2 rfl rfl ?_
  refine ev_s1 (L' := [some (vr 24), some (vi i)]) (S' := [vi 5, vi i]) k65_3 rfl rfl ?_
  refine ev_c_gt (t := 33) k65_4 rfl (by omega) (by omega) (by omega) (by omega) (fun h1 => ?_) (fun h1 => ?_)
  · refine ev_return k65_33 ?_
    exact hE
  · refine ev_s1 (L' := [some (vr 24), some (vi i)]) (S' := [vr 24]) k65_7 rfl rfl ?_
    refine ev_getI k65_8 (by decide) (rfl) ?_
    show Ev d 65 11 [some (vr 24), some (vi i)] [vi (I 24 4)] (SX I ch kd) Q
    have rr2 := h.1 24 4
    rw [h.2.2.2.2]
    rw [h.2.2.2.2] at rr2
    refine ev_z_ne (t := 33) k65_11 rfl (by omega) (by omega) (fun h3 => ?_) (fun h3 => ?_)
    · refine ev_return k65_33 ?_
      exact hE
    · exfalso; omega

set_option maxHeartbeats 1000000 in
theorem l_guests {d : Nat} {J : Nat → Int → Int} {ch : Int → Nat} {kd : Nat → Nat} {Q : Option jV → jS → Prop} {T : Int → Int} {z q : Int} (z0 : 0 ≤ z) (z1 : z ≤ 100) (hd : 5 ≤ d) (hE : ∀ (I' : Nat → Int → Int) (p' μ' n' : Int), guR T 6 q 0 = (p', μ', n') → RS I' T z p' μ' → 0 ≤ p' → p' ≤ z → 0 ≤ μ' → μ' ≤ 3 → 0 ≤ n' → n' ≤ 5 → I' 29 7 = n' → (∀ j : Nat, (j : Int) < n' → tolG I' T (pgs T q j) j) → (∀ (a : Nat) (b : Int), (a ≠ 24 ∧ (a < 31 ∨ 34 < a) ∧ (a ≠ 29 ∨ b ≠ 7)) → I' a b = J a b) → Q none (SX I' ch kd)) : ∀ (n i : Nat) (p : Int) (I : Nat → Int → Int), i + n = 6 → i ≤ 5 → RS I T z p 0 → 0 ≤ p → p ≤ z → I 29 7 = (i : Int) → p = pgs T q i → (∀ j : Nat, j < i → tolG I T (pgs T q j) j) → (∀ (a : Nat) (b : Int), (a ≠ 24 ∧ (a < 31 ∨ 34 < a) ∧ (a ≠ 29 ∨ b ≠ 7)) → I a b = J a b) → guR T 6 q 0 = guR T n p i → Ev d 65 2 [some (vr 24), some (vi (i : Int))] [] (SX I ch kd) Q := by
  intro n
  induction n with
  | zero => intro i p I h1 h2; exfalso; omega
  | succ n ih =>
    intro i p I hi hi5 h p0 p1 hn7 hp hC hF hR
    refine ev_s1 (L' := [some (vr 24), some (vi (i : Int))]) (S' := [vi (i : Int)]) k65_2 rfl rfl ?_
    refine ev_s1 (L' := [some (vr 24), some (vi (i : Int))]) (S' := [vi 5, vi (i : Int)]) k65_3 rfl rfl ?_
    refine ev_c_gt (t := 33) k65_4 rfl (by omega) (by omega) (by omega) (by omega) (fun h1 => ?_) (fun h1 => ?_)
    · exfalso; omega
    · refine ev_s1 (L' := [some (vr 24), some (vi (i : Int))]) (S' := [vr 24]) k65_7 rfl rfl ?_
      refine ev_getI k65_8 (by decide) (rfl) ?_
      show Ev d 65 11 [some (vr 24), some (vi (i : Int))] [vi (I 24 4)] (SX I ch kd) Q
      have rr2 := h.1 24 4
      rw [h.2.2.2.2]
      rw [h.2.2.2.2] at rr2
      refine ev_z_ne (t := 33) k65_11 rfl (by omega) (by omega) (fun h => absurd h (by decide)) (fun _ => ?_)
      refine ev_s1 (L' := [some (vr 24), some (vi (i : Int))]) (S' := [vr 24]) k65_14 rfl rfl ?_
      refine ev_virt (a := []) (S' := []) k65_15 rfl (Nat.le_of_ble_eq_true rfl) (by decide) (rfl) (by omega) ?_
      refine g_ahead h z0 z1 (by omega) (by omega) (by omega) (?_)
      have tr15 := h.t_rg p
      show Ev d 65 18 [some (vr 24), some (vi (i : Int))] [vi (T p)] (SX I ch kd) Q
      refine ev_s1 (L' := [some (vr 24), some (vi (i : Int))]) (S' := [vi 122, vi (T p)]) k65_18 rfl rfl ?_
      refine ev_c_ne (t := 33) k65_20 rfl (by omega) (by omega) (by omega) (by omega) (fun h3 => ?_) (fun h3 => ?_)
      · refine ev_return k65_33 ?_
        exact hE I p 0 i (by rw [hR, guR, if_pos (by omega)]) h p0 p1 (by decide) (by decide) (by omega) (by omega) hn7 (fun j hj => hC j (by omega)) hF
      · have pz := h.end (show T p ≠ -1 by omega)
        have rr := h.gu (n := i) p0 pz
        refine ev_s1 (L' := [some (vr 24), some (vi (i : Int))]) (S' := [vr 24]) k65_23 rfl rfl ?_
        refine ev_virt (a := []) (S' := []) k65_24 rfl (Nat.le_of_ble_eq_true rfl) (by decide) (rfl) (by omega) ?_
        refine g_guest h z0 z1 (n := (i : Int)) (by omega) pz hn7 (by omega) (by omega) (fun q1 I4 h4 f4 => ?_) (fun q1 q2 I4 h4 n4 t4 f4 => ?_)
        · show Ev d 65 27 [some (vr 24), some (vi (i : Int))] [] (SX I4 ch kd) Q
          refine ev_s1 (L' := [some (vr 24), some (vi ((i : Int) + 1))]) (S' := []) k65_27 rfl rfl ?_
          refine ev_goto (t := 2) k65_30 rfl ?_
          refine x_guests h4 q1 (by omega) (by omega) (by omega) (by omega) ?_
          refine hE I4 (guP T i p) (guM T i p) i ?_ h4 (by omega) (by omega) (by omega) (by omega) (by omega) (by omega) ((f4 29 7 (by decide)).trans hn7) (fun j hj => ?_) (fun a b hf => (f4 a b (by omega)).trans (hF a b hf))
          · rw [hR, guR, if_neg (by omega), if_neg q1]
          · obtain ⟨t1, t2, t3, t4⟩ := hC j (by omega)
            exact ⟨(f4 _ _ (by decide)).trans t1, (f4 _ _ (by decide)).trans t2, (f4 _ _ (by decide)).trans t3, (f4 _ _ (by decide)).trans t4⟩
        · show Ev d 65 27 [some (vr 24), some (vi (i : Int))] [] (SX I4 ch kd) Q
          refine ev_s1 (L' := [some (vr 24), some (vi ((i : Int) + 1))]) (S' := []) k65_27 rfl rfl ?_
          refine ev_goto (t := 2) k65_30 rfl ?_
          refine ih (i + 1) (guP T i p) I4 (by omega) (by omega) h4 (by omega) (by omega) (by rw [n4]; omega) ?_ (fun j hj => ?_) (fun a b hf => (f4 a b (by omega) (by omega) (by omega)).trans (hF a b hf)) ?_
          · rw [pgs, ← hp]
          · rcases Nat.lt_or_ge j i with q | q
            · obtain ⟨t1, t2, t3, t4⟩ := hC j q
              exact ⟨(f4 _ _ (by omega) (by omega) (by omega)).trans t1, (f4 _ _ (by omega) (by omega) (by omega)).trans t2, (f4 _ _ (by omega) (by omega) (by omega)).trans t3, (f4 _ _ (by omega) (by omega) (by omega)).trans t4⟩
            · rw [show j = i by omega, ← hp]; exact t4
          · rw [hR, guR, if_neg (by omega), if_pos q1]; rfl

set_option maxHeartbeats 1000000 in
theorem g_readGuests {d : Nat} {I : Nat → Int → Int} {ch : Int → Nat} {kd : Nat → Nat} {Q : Option jV → jS → Prop} {T : Int → Int} {z p μ : Int} (h : RS I T z p μ) (z0 : 0 ≤ z) (z1 : z ≤ 100) (p0 : 0 ≤ p) (p1 : p ≤ z) (m0 : 0 ≤ μ) (m1 : μ ≤ 3) (hn7 : I 29 7 = ((0 : Nat) : Int)) (hd : 5 ≤ d) (hN : μ ≠ 0 → Q none (SX I ch kd)) (hY : μ = 0 → ∀ (I' : Nat → Int → Int), RS I' T z (guR T 6 p 0).1 (guR T 6 p 0).2.1 → 0 ≤ (guR T 6 p 0).1 → (guR T 6 p 0).1 ≤ z → 0 ≤ (guR T 6 p 0).2.1 → (guR T 6 p 0).2.1 ≤ 3 → 0 ≤ (guR T 6 p 0).2.2 → (guR T 6 p 0).2.2 ≤ 5 → I' 29 7 = (guR T 6 p 0).2.2 → (∀ j : Nat, (j : Int) < (guR T 6 p 0).2.2 → tolG I' T (pgs T p j) j) → (∀ (a : Nat) (b : Int), (a ≠ 24 ∧ (a < 31 ∨ 34 < a) ∧ (a ≠ 29 ∨ b ≠ 7)) → I' a b = I a b) → Q none (SX I' ch kd)) : Cl d 65 [vr 24] (SX I ch kd) Q := by
  refine ⟨by rw [l65]; exact Nat.le_of_ble_eq_true rfl, ?_⟩
  rw [l65]
  show Ev d 65 0 [some (vr 24), none] [] (SX I ch kd) Q
  refine ev_s1 (L' := [some (vr 24), none]) (S' := [vi 0]) k65_0 rfl rfl ?_
  refine ev_s1 (L' := [some (vr 24), some (vi 0)]) (S' := []) k65_1 rfl rfl ?_
  by_cases hμ : μ = 0
  · subst hμ
    refine l_guests (J := I) (q := p) z0 z1 (by omega) (fun I' p' μ' n' e7 h7 s1 s2 s3 s4 s5 s6 hn hC hF => ?_) 6 0 p I (by decide) (by decide) h p0 p1 hn7 rfl (fun j hj => absurd hj (Nat.not_lt_zero j)) (fun _ _ _ => rfl) rfl
    rw [e7] at hY
    exact hY rfl I' h7 s1 s2 s3 s4 s5 s6 hn hC hF
  · exact x_guests h hμ m0 m1 (by decide) (by decide) (hN hμ)

/-- the whole tape: law, chairs, guests; what is wrong -/
def paC (T : Int → Int) : Int × Int × Int := if lM3 T ≠ 0 then (lP3 T, lM3 T, 0) else paC2 T (lP3 T)
def paG (T : Int → Int) : Int × Int × Int := if (paC T).2.1 ≠ 0 then ((paC T).1, (paC T).2.1, 0) else guR T 6 (paC T).1 0
def paM (T : Int → Int) (z : Int) : Int := if (paG T).2.1 = 0 ∧ (paG T).1 < z then 1 else (paG T).2.1
/-- the draft as the tape told it -/
def DrT (I : Nat → Int → Int) (kd : Nat → Nat) (T : Int → Int) (z : Int) : Prop := (0 ≤ paM T z ∧ paM T z ≤ 3) ∧ (0 ≤ (paG T).1 ∧ (paG T).1 ≤ z) ∧ (0 ≤ (paC T).2.2 ∧ (paC T).2.2 ≤ 5) ∧ (0 ≤ (paG T).2.2 ∧ (paG T).2.2 ≤ 5) ∧ I 29 8 = lV T ∧ I 29 6 = (paC T).2.2 ∧ I 29 7 = (paG T).2.2 ∧ (∀ j : Nat, (j : Int) < (paC T).2.2 → tolC I kd T (pcs T (lP3 T) j) j) ∧ (∀ j : Nat, (j : Int) < (paG T).2.2 → tolG I T (pgs T (paC T).1 j) j)

set_option maxHeartbeats 4000000 in
theorem g_readTape {d : Nat} {I : Nat → Int → Int} {ch : Int → Nat} {kd : Nat → Nat} {Q : Option jV → jS → Prop} {T : Int → Int} {z p μ : Int} (h : RS I T z p μ) (z0 : 0 ≤ z) (z1 : z ≤ 100) (hd : 6 ≤ d) (hT : paM T z = 0 → ∀ (I' : Nat → Int → Int) (kd' : Nat → Nat), Rg I' → I' 24 3 = (paG T).1 → I' 24 4 = paM T z → I' 25 1 = 0 → I' 25 2 = 0 → DrT I' kd' T z → (∀ (a : Nat) (b : Int), (a < 24 ∨ a = 26 ∨ a = 27 ∨ a = 28 ∨ 39 < a) → I' a b = I a b) → KF kd kd' → Q (some (vi 1)) (SX I' ch kd')) (hF : paM T z ≠ 0 → ∀ (I' : Nat → Int → Int) (kd' : Nat → Nat), Rg I' → I' 24 3 = (paG T).1 → I' 24 4 = paM T z → I' 25 1 = 0 → I' 25 2 = 0 → DrT I' kd' T z → (∀ (a : Nat) (b : Int), (a < 24 ∨ a = 26 ∨ a = 27 ∨ a = 28 ∨ 39 < a) → I' a b = I a b) → KF kd kd' → Q (some (vi 0)) (SX I' ch kd')) : Cl d 60 [vr 24] (SX I ch kd) Q := by
  refine ⟨by rw [l60]; exact Nat.le_of_ble_eq_true rfl, ?_⟩
  rw [l60]
  show Ev d 60 0 [some (vr 24)] [] (SX I ch kd) Q
  refine ev_s1 (L' := [some (vr 24)]) (S' := [vr 24]) k60_0 rfl rfl ?_
  refine ev_s1 (L' := [some (vr 24)]) (S' := [vi 0, vr 24]) k60_1 rfl rfl ?_
  refine ev_putI k60_2 (by decide) (rfl) ?_
  show Ev d 60 5 [some (vr 24)] [] (SX (up I 24 3 0) ch kd) Q
  have hI1 := rg_up h.1 (k := 24) (j := 3) (z := 0) (by omega) (by omega)
  generalize hE1 : up I 24 3 0 = I1 at hI1 ⊢
  have g1 : ∀ (a : Nat) (b : Int), (a ≠ 24 ∨ b ≠ 3) → I1 a b = I a b := fun a b h => by rw [← hE1]; exact upN h
  have e1 : I1 24 3 = 0 := by rw [← hE1]; exact upE rfl rfl
  clear hE1
  refine ev_s1 (L' := [some (vr 24)]) (S' := [vr 24]) k60_5 rfl rfl ?_
  refine ev_s1 (L' := [some (vr 24)]) (S' := [vi 0, vr 24]) k60_6 rfl rfl ?_
  refine ev_putI k60_7 (by decide) (rfl) ?_
  show Ev d 60 10 [some (vr 24)] [] (SX (up I1 24 4 0) ch kd) Q
  have hI2 := rg_up hI1 (k := 24) (j := 4) (z := 0) (by omega) (by omega)
  generalize hE2 : up I1 24 4 0 = I2 at hI2 ⊢
  have g2 : ∀ (a : Nat) (b : Int), (a ≠ 24 ∨ b ≠ 4) → I2 a b = I1 a b := fun a b h => by rw [← hE2]; exact upN h
  have e2 : I2 24 4 = 0 := by rw [← hE2]; exact upE rfl rfl
  clear hE2
  refine ev_s1 (L' := [some (vr 24)]) (S' := [vr 24]) k60_10 rfl rfl ?_
  refine ev_getR k60_11 (by decide) (rfl) (x_24_2 ch kd) ?_
  refine ev_virt (a := []) (S' := []) k60_14 rfl (Nat.le_of_ble_eq_true rfl) (by decide) (rfl) (by omega) ?_
  refine c_empty (rm29 ch kd) hI2 (?_)
  have hI3 := rg_up hI2 (k := 29) (j := 6) (z := 0) (by omega) (by omega)
  generalize hE3 : up I2 29 6 0 = I3 at hI3 ⊢
  have g3 : ∀ (a : Nat) (b : Int), (a ≠ 29 ∨ b ≠ 6) → I3 a b = I2 a b := fun a b h => by rw [← hE3]; exact upN h
  have e3 : I3 29 6 = 0 := by rw [← hE3]; exact upE rfl rfl
  clear hE3
  have hI4 := rg_up hI3 (k := 29) (j := 7) (z := 0) (by omega) (by omega)
  generalize hE4 : up I3 29 7 0 = I4 at hI4 ⊢
  have g4 : ∀ (a : Nat) (b : Int), (a ≠ 29 ∨ b ≠ 7) → I4 a b = I3 a b := fun a b h => by rw [← hE4]; exact upN h
  have e4 : I4 29 7 = 0 := by rw [← hE4]; exact upE rfl rfl
  clear hE4
  have hI5 := rg_up hI4 (k := 29) (j := 8) (z := 0) (by omega) (by omega)
  generalize hE5 : up I4 29 8 0 = I5 at hI5 ⊢
  have g5 : ∀ (a : Nat) (b : Int), (a ≠ 29 ∨ b ≠ 8) → I5 a b = I4 a b := fun a b h => by rw [← hE5]; exact upN h
  have e5 : I5 29 8 = 0 := by rw [← hE5]; exact upE rfl rfl
  clear hE5
  show Ev d 60 17 [some (vr 24)] [] (SX I5 ch kd) Q
  have hRS : RS I5 T z 0 0 := h.fr hI5 ((g5 24 3 (Or.inl (by decide))).trans ((g4 24 3 (Or.inl (by decide))).trans ((g3 24 3 (Or.inl (by decide))).trans ((g2 24 3 (Or.inr (by decide))).trans (e1))))) ((g5 24 4 (Or.inl (by decide))).trans ((g4 24 4 (Or.inl (by decide))).trans ((g3 24 4 (Or.inl (by decide))).trans (e2)))) (fun a b q => (fun a b (q : a = 25 ∨ a = 26) => ((g5 a b (by omega)).trans ((g4 a b (by omega)).trans ((g3 a b (by omega)).trans ((g2 a b (by omega)).trans (g1 a b (by omega))))))) a b (by omega))
  refine ev_s1 (L' := [some (vr 24)]) (S' := [vr 24]) k60_17 rfl rfl ?_
  refine ev_virt (a := []) (S' := []) k60_18 rfl (Nat.le_of_ble_eq_true rfl) (by decide) (rfl) (by omega) ?_
  refine g_readLaw hRS z0 z1 (by omega) (fun I6 h6 sl6 f6 => ?_)
  have r1 := hRS.sg (s := 97) (by decide) (q := 0) (ν := 0) (by omega) (by omega) (by omega) (by omega)
  have r2 := hRS.nu (lo := 0) (hi := 9) (q := lP1 T) (ν := lM1 T) r1.1.1 r1.1.2 r1.2.1 r1.2.2
  have r3 : (0 ≤ lP3 T ∧ lP3 T ≤ z) ∧ 0 ≤ lM3 T ∧ lM3 T ≤ 3 := hRS.sg (s := 59) (by decide) (q := lP2 T) (ν := lM2 T) r2.1.1 r2.1.2 r2.2.1 r2.2.2
  show Ev d 60 21 [some (vr 24)] [] (SX I6 ch kd) Q
  refine ev_s1 (L' := [some (vr 24)]) (S' := [vr 24]) k60_21 rfl rfl ?_
  refine ev_virt (a := []) (S' := []) k60_22 rfl (Nat.le_of_ble_eq_true rfl) (by decide) (rfl) (by omega) ?_
  refine g_readChairs h6 z0 z1 r3.1.1 r3.1.2 r3.2.1 r3.2.2 ((f6 29 6 (by decide)).trans ((g5 29 6 (Or.inr (by decide))).trans ((g4 29 6 (Or.inr (by decide))).trans (e3)))) (by omega) (fun q1 => ?_) (fun q1 I7 kd7 h7 s1 s2 s3 s4 s5 s6 s7 s8 f7 kf7 => ?_)
  · have ec : paC T = (lP3 T, lM3 T, 0) := if_pos q1
    have hC : RS I6 T z (paC T).1 (paC T).2.1 := by rw [ec]; exact h6
    have c1 : (0 ≤ (paC T).1 ∧ (paC T).1 ≤ z) ∧ (0 ≤ (paC T).2.1 ∧ (paC T).2.1 ≤ 3) ∧ (0 ≤ (paC T).2.2 ∧ (paC T).2.2 ≤ 5) := by rw [ec]; exact ⟨r3.1, r3.2, (show (0 : Int) ≤ 0 ∧ (0 : Int) ≤ 5 by decide)⟩
    have c2 : I6 29 6 = (paC T).2.2 := by rw [ec]; exact ((f6 29 6 (by decide)).trans ((g5 29 6 (Or.inr (by decide))).trans ((g4 29 6 (Or.inr (by decide))).trans (e3))))
    have c3 : ∀ j : Nat, (j : Int) < (paC T).2.2 → tolC I6 kd T (pcs T (lP3 T) j) j := by rw [ec]; exact fun j hj => absurd (show (j : Int) < 0 from hj) (by omega)
    show Ev d 60 25 [some (vr 24)] [] (SX I6 ch kd) Q
    refine ev_s1 (L' := [some (vr 24)]) (S' := [vr 24]) k60_25 rfl rfl ?_
    refine ev_virt (a := []) (S' := []) k60_26 rfl (Nat.le_of_ble_eq_true rfl) (by decide) (rfl) (by omega) ?_
    refine g_readGuests hC z0 z1 c1.1.1 c1.1.2 c1.2.1.1 c1.2.1.2 ((f6 29 7 (by decide)).trans ((g5 29 7 (Or.inr (by decide))).trans (e4))) (by omega) (fun q2 => ?_) (fun q2 I8 h8 t1 t2 t3 t4 t5 t6 t7 t8 f8 => ?_)
    · have eg : paG T = ((paC T).1, (paC T).2.1, 0) := if_pos q2
      have hG : RS I6 T z (paG T).1 (paG T).2.1 := by rw [eg]; exact hC
      have y1 : (0 ≤ (paG T).1 ∧ (paG T).1 ≤ z) ∧ (0 ≤ (paG T).2.1 ∧ (paG T).2.1 ≤ 3) ∧ (0 ≤ (paG T).2.2 ∧ (paG T).2.2 ≤ 5) := by rw [eg]; exact ⟨c1.1, c1.2.1, (show (0 : Int) ≤ 0 ∧ (0 : Int) ≤ 5 by decide)⟩
      have y2 : I6 29 7 = (paG T).2.2 := by rw [eg]; exact ((f6 29 7 (by decide)).trans ((g5 29 7 (Or.inr (by decide))).trans (e4)))
      have y3 : ∀ j : Nat, (j : Int) < (paG T).2.2 → tolG I6 T (pgs T (paC T).1 j) j := by rw [eg]; exact fun j hj => absurd (show (j : Int) < 0 from hj) (by omega)
      have y4 : I6 29 6 = (paC T).2.2 := c2
      have y5 : ∀ j : Nat, (j : Int) < (paC T).2.2 → tolC I6 kd T (pcs T (lP3 T) j) j := c3
      have y6 : I6 29 8 = lV T := (sl6)
      show Ev d 60 29 [some (vr 24)] [] (SX I6 ch kd) Q
      refine ev_s1 (L' := [some (vr 24)]) (S' := [vr 24]) k60_29 rfl rfl ?_
      refine ev_getI k60_30 (by decide) (rfl) ?_
      show Ev d 60 33 [some (vr 24)] [vi (I6 24 3)] (SX I6 ch kd) Q
      have rr9 := hG.1 24 3
      rw [hG.2.2.2.1]
      rw [hG.2.2.2.1] at rr9
      refine ev_s1 (L' := [some (vr 24)]) (S' := [vr 24, vi ((paG T).1)]) k60_33 rfl rfl ?_
      refine ev_getR k60_34 (by decide) (rfl) (x_24_0 ch kd) ?_
      refine ev_getI k60_37 (by decide) (rfl) ?_
      show Ev d 60 40 [some (vr 24)] [vi (I6 25 1), vi ((paG T).1)] (SX I6 ch kd) Q
      have rr10 := hG.1 25 1
      rw [hG.2.2.1]
      rw [hG.2.2.1] at rr10
      refine ev_c_ge (t := 48) k60_40 rfl (by omega) (by omega) (by omega) (by omega) (fun h11 => ?_) (fun h11 => ?_)
      · have em : paM T z = (paG T).2.1 := if_neg (fun q => by omega)
        have hM : RS I6 T z (paG T).1 (paM T z) := by rw [em]; exact hG
        refine ev_s1 (L' := [some (vr 24)]) (S' := [vr 24]) k60_48 rfl rfl ?_
        refine ev_getR k60_49 (by decide) (rfl) (x_24_0 ch kd) ?_
        refine ev_virt (a := []) (S' := []) k60_52 rfl (Nat.le_of_ble_eq_true rfl) (by decide) (rfl) (by omega) ?_
        refine c_clear ln25 (?_)
        have hI12 := rg_up hM.1 (k := 25) (j := 1) (z := 0) (by omega) (by omega)
        generalize hE12 : up I6 25 1 0 = I12 at hI12 ⊢
        have g12 : ∀ (a : Nat) (b : Int), (a ≠ 25 ∨ b ≠ 1) → I12 a b = I6 a b := fun a b h => by rw [← hE12]; exact upN h
        have e12 : I12 25 1 = 0 := by rw [← hE12]; exact upE rfl rfl
        clear hE12
        have hI13 := rg_up hI12 (k := 25) (j := 2) (z := 0) (by omega) (by omega)
        generalize hE13 : up I12 25 2 0 = I13 at hI13 ⊢
        have g13 : ∀ (a : Nat) (b : Int), (a ≠ 25 ∨ b ≠ 2) → I13 a b = I12 a b := fun a b h => by rw [← hE13]; exact upN h
        have e13 : I13 25 2 = 0 := by rw [← hE13]; exact upE rfl rfl
        clear hE13
        show Ev d 60 55 [some (vr 24)] [] (SX I13 ch kd) Q
        refine ev_s1 (L' := [some (vr 24)]) (S' := [vr 24]) k60_55 rfl rfl ?_
        refine ev_getI k60_56 (by decide) (rfl) ?_
        show Ev d 60 59 [some (vr 24)] [vi (I13 24 4)] (SX I13 ch kd) Q
        have rr14 := hI13 24 4
        rw [g13 24 4 (Or.inl (by decide)), g12 24 4 (Or.inl (by decide)), hM.2.2.2.2]
        rw [g13 24 4 (Or.inl (by decide)), g12 24 4 (Or.inl (by decide)), hM.2.2.2.2] at rr14
        refine ev_z_ne (t := 66) k60_59 rfl (by omega) (by omega) (fun h15 => ?_) (fun h15 => ?_)
        · refine ev_s1 (L' := [some (vr 24)]) (S' := [vi 0]) k60_66 rfl rfl ?_
          refine ev_zreturn k60_67 (by decide) ?_
          have hB : ∀ (a : Nat) (b : Int), (a ≠ 24 ∧ a ≠ 25) → I13 a b = I6 a b := (fun a b hf => ((g13 a b (by omega)).trans (g12 a b (by omega))))
          have em2 : 0 ≤ paM T z ∧ paM T z ≤ 3 := by unfold paM; split <;> omega
          have eM : I13 24 4 = paM T z := ((g13 24 4 (Or.inl (by decide))).trans ((g12 24 4 (Or.inl (by decide))).trans (hM.2.2.2.2)))
          have eP : I13 24 3 = (paG T).1 := ((g13 24 3 (Or.inl (by decide))).trans ((g12 24 3 (Or.inl (by decide))).trans (hM.2.2.2.1)))
          refine hF (by omega) I13 kd hI13 eP eM ((g13 25 1 (Or.inr (by decide))).trans (e12)) (e13) ⟨em2, y1.1, c1.2.2, y1.2.2, (hB 29 8 (by decide)).trans y6, (hB 29 6 (by decide)).trans y4, (hB 29 7 (by decide)).trans y2, fun j hj => ?_, fun j hj => ?_⟩ (fun a b hf => ((g13 a b (by omega)).trans ((g12 a b (by omega)).trans ((f6 a b (by omega)).trans ((g5 a b (by omega)).trans ((g4 a b (by omega)).trans ((g3 a b (by omega)).trans ((g2 a b (by omega)).trans (g1 a b (by omega)))))))))) (KF.refl _)
          · obtain ⟨t1, t2, t3, t4, t5, t6⟩ := y5 j hj
            have hd5 : dcc (j : Int) = 35 + j := by unfold dcc; omega
            exact ⟨t1, (hB _ _ (by omega)).trans t2, (hB _ _ (by omega)).trans t3, (hB _ _ (by omega)).trans t4, (hB _ _ (by omega)).trans t5, (hB _ _ (by omega)).trans t6⟩
          · obtain ⟨t1, t2, t3, t4⟩ := y3 j hj
            exact ⟨(hB _ _ (by decide)).trans t1, (hB _ _ (by decide)).trans t2, (hB _ _ (by decide)).trans t3, (hB _ _ (by decide)).trans t4⟩
        · refine ev_s1 (L' := [some (vr 24)]) (S' := [vi 1]) k60_62 rfl rfl ?_
          refine ev_goto (t := 67) k60_63 rfl ?_
          refine ev_zreturn k60_67 (by decide) ?_
          have hB : ∀ (a : Nat) (b : Int), (a ≠ 24 ∧ a ≠ 25) → I13 a b = I6 a b := (fun a b hf => ((g13 a b (by omega)).trans (g12 a b (by omega))))
          have em2 : 0 ≤ paM T z ∧ paM T z ≤ 3 := by unfold paM; split <;> omega
          have eM : I13 24 4 = paM T z := ((g13 24 4 (Or.inl (by decide))).trans ((g12 24 4 (Or.inl (by decide))).trans (hM.2.2.2.2)))
          have eP : I13 24 3 = (paG T).1 := ((g13 24 3 (Or.inl (by decide))).trans ((g12 24 3 (Or.inl (by decide))).trans (hM.2.2.2.1)))
          refine hT (by omega) I13 kd hI13 eP eM ((g13 25 1 (Or.inr (by decide))).trans (e12)) (e13) ⟨em2, y1.1, c1.2.2, y1.2.2, (hB 29 8 (by decide)).trans y6, (hB 29 6 (by decide)).trans y4, (hB 29 7 (by decide)).trans y2, fun j hj => ?_, fun j hj => ?_⟩ (fun a b hf => ((g13 a b (by omega)).trans ((g12 a b (by omega)).trans ((f6 a b (by omega)).trans ((g5 a b (by omega)).trans ((g4 a b (by omega)).trans ((g3 a b (by omega)).trans ((g2 a b (by omega)).trans (g1 a b (by omega)))))))))) (KF.refl _)
          · obtain ⟨t1, t2, t3, t4, t5, t6⟩ := y5 j hj
            have hd5 : dcc (j : Int) = 35 + j := by unfold dcc; omega
            exact ⟨t1, (hB _ _ (by omega)).trans t2, (hB _ _ (by omega)).trans t3, (hB _ _ (by omega)).trans t4, (hB _ _ (by omega)).trans t5, (hB _ _ (by omega)).trans t6⟩
          · obtain ⟨t1, t2, t3, t4⟩ := y3 j hj
            exact ⟨(hB _ _ (by decide)).trans t1, (hB _ _ (by decide)).trans t2, (hB _ _ (by decide)).trans t3, (hB _ _ (by decide)).trans t4⟩
      · refine ev_s1 (L' := [some (vr 24)]) (S' := [vr 24]) k60_43 rfl rfl ?_
        refine ev_s1 (L' := [some (vr 24)]) (S' := [vi 1, vr 24]) k60_44 rfl rfl ?_
        refine ev_virt (a := [vi 1]) (S' := []) k60_45 rfl (Nat.le_of_ble_eq_true rfl) (by decide) (rfl) (by omega) ?_
        refine g_fail hG (b := 1) (by decide) (by decide) (fun q3 I16 h16 f16 => ?_) (fun q3 => ?_)
        · have em : paM T z = 1 := if_pos ⟨q3, by omega⟩
          have hM : RS I16 T z (paG T).1 (paM T z) := by rw [em]; exact h16
          show Ev d 60 48 [some (vr 24)] [] (SX I16 ch kd) Q
          refine ev_s1 (L' := [some (vr 24)]) (S' := [vr 24]) k60_48 rfl rfl ?_
          refine ev_getR k60_49 (by decide) (rfl) (x_24_0 ch kd) ?_
          refine ev_virt (a := []) (S' := []) k60_52 rfl (Nat.le_of_ble_eq_true rfl) (by decide) (rfl) (by omega) ?_
          refine c_clear ln25 (?_)
          have hI17 := rg_up hM.1 (k := 25) (j := 1) (z := 0) (by omega) (by omega)
          generalize hE17 : up I16 25 1 0 = I17 at hI17 ⊢
          have g17 : ∀ (a : Nat) (b : Int), (a ≠ 25 ∨ b ≠ 1) → I17 a b = I16 a b := fun a b h => by rw [← hE17]; exact upN h
          have e17 : I17 25 1 = 0 := by rw [← hE17]; exact upE rfl rfl
          clear hE17
          have hI18 := rg_up hI17 (k := 25) (j := 2) (z := 0) (by omega) (by omega)
          generalize hE18 : up I17 25 2 0 = I18 at hI18 ⊢
          have g18 : ∀ (a : Nat) (b : Int), (a ≠ 25 ∨ b ≠ 2) → I18 a b = I17 a b := fun a b h => by rw [← hE18]; exact upN h
          have e18 : I18 25 2 = 0 := by rw [← hE18]; exact upE rfl rfl
          clear hE18
          show Ev d 60 55 [some (vr 24)] [] (SX I18 ch kd) Q
          refine ev_s1 (L' := [some (vr 24)]) (S' := [vr 24]) k60_55 rfl rfl ?_
          refine ev_getI k60_56 (by decide) (rfl) ?_
          show Ev d 60 59 [some (vr 24)] [vi (I18 24 4)] (SX I18 ch kd) Q
          have rr19 := hI18 24 4
          rw [g18 24 4 (Or.inl (by decide)), g17 24 4 (Or.inl (by decide)), hM.2.2.2.2]
          rw [g18 24 4 (Or.inl (by decide)), g17 24 4 (Or.inl (by decide)), hM.2.2.2.2] at rr19
          refine ev_z_ne (t := 66) k60_59 rfl (by omega) (by omega) (fun h20 => ?_) (fun h20 => ?_)
          · refine ev_s1 (L' := [some (vr 24)]) (S' := [vi 0]) k60_66 rfl rfl ?_
            refine ev_zreturn k60_67 (by decide) ?_
            have hB : ∀ (a : Nat) (b : Int), (a ≠ 24 ∧ a ≠ 25) → I18 a b = I6 a b := (fun a b hf => ((g18 a b (by omega)).trans ((g17 a b (by omega)).trans (f16 a b (by omega)))))
            have em2 : 0 ≤ paM T z ∧ paM T z ≤ 3 := by unfold paM; split <;> omega
            have eM : I18 24 4 = paM T z := ((g18 24 4 (Or.inl (by decide))).trans ((g17 24 4 (Or.inl (by decide))).trans (hM.2.2.2.2)))
            have eP : I18 24 3 = (paG T).1 := ((g18 24 3 (Or.inl (by decide))).trans ((g17 24 3 (Or.inl (by decide))).trans (hM.2.2.2.1)))
            refine hF (by omega) I18 kd hI18 eP eM ((g18 25 1 (Or.inr (by decide))).trans (e17)) (e18) ⟨em2, y1.1, c1.2.2, y1.2.2, (hB 29 8 (by decide)).trans y6, (hB 29 6 (by decide)).trans y4, (hB 29 7 (by decide)).trans y2, fun j hj => ?_, fun j hj => ?_⟩ (fun a b hf => ((g18 a b (by omega)).trans ((g17 a b (by omega)).trans ((f16 a b (by omega)).trans ((f6 a b (by omega)).trans ((g5 a b (by omega)).trans ((g4 a b (by omega)).trans ((g3 a b (by omega)).trans ((g2 a b (by omega)).trans (g1 a b (by omega))))))))))) (KF.refl _)
            · obtain ⟨t1, t2, t3, t4, t5, t6⟩ := y5 j hj
              have hd5 : dcc (j : Int) = 35 + j := by unfold dcc; omega
              exact ⟨t1, (hB _ _ (by omega)).trans t2, (hB _ _ (by omega)).trans t3, (hB _ _ (by omega)).trans t4, (hB _ _ (by omega)).trans t5, (hB _ _ (by omega)).trans t6⟩
            · obtain ⟨t1, t2, t3, t4⟩ := y3 j hj
              exact ⟨(hB _ _ (by decide)).trans t1, (hB _ _ (by decide)).trans t2, (hB _ _ (by decide)).trans t3, (hB _ _ (by decide)).trans t4⟩
          · refine ev_s1 (L' := [some (vr 24)]) (S' := [vi 1]) k60_62 rfl rfl ?_
            refine ev_goto (t := 67) k60_63 rfl ?_
            refine ev_zreturn k60_67 (by decide) ?_
            have hB : ∀ (a : Nat) (b : Int), (a ≠ 24 ∧ a ≠ 25) → I18 a b = I6 a b := (fun a b hf => ((g18 a b (by omega)).trans ((g17 a b (by omega)).trans (f16 a b (by omega)))))
            have em2 : 0 ≤ paM T z ∧ paM T z ≤ 3 := by unfold paM; split <;> omega
            have eM : I18 24 4 = paM T z := ((g18 24 4 (Or.inl (by decide))).trans ((g17 24 4 (Or.inl (by decide))).trans (hM.2.2.2.2)))
            have eP : I18 24 3 = (paG T).1 := ((g18 24 3 (Or.inl (by decide))).trans ((g17 24 3 (Or.inl (by decide))).trans (hM.2.2.2.1)))
            refine hT (by omega) I18 kd hI18 eP eM ((g18 25 1 (Or.inr (by decide))).trans (e17)) (e18) ⟨em2, y1.1, c1.2.2, y1.2.2, (hB 29 8 (by decide)).trans y6, (hB 29 6 (by decide)).trans y4, (hB 29 7 (by decide)).trans y2, fun j hj => ?_, fun j hj => ?_⟩ (fun a b hf => ((g18 a b (by omega)).trans ((g17 a b (by omega)).trans ((f16 a b (by omega)).trans ((f6 a b (by omega)).trans ((g5 a b (by omega)).trans ((g4 a b (by omega)).trans ((g3 a b (by omega)).trans ((g2 a b (by omega)).trans (g1 a b (by omega))))))))))) (KF.refl _)
            · obtain ⟨t1, t2, t3, t4, t5, t6⟩ := y5 j hj
              have hd5 : dcc (j : Int) = 35 + j := by unfold dcc; omega
              exact ⟨t1, (hB _ _ (by omega)).trans t2, (hB _ _ (by omega)).trans t3, (hB _ _ (by omega)).trans t4, (hB _ _ (by omega)).trans t5, (hB _ _ (by omega)).trans t6⟩
            · obtain ⟨t1, t2, t3, t4⟩ := y3 j hj
              exact ⟨(hB _ _ (by decide)).trans t1, (hB _ _ (by decide)).trans t2, (hB _ _ (by decide)).trans t3, (hB _ _ (by decide)).trans t4⟩
        · have em : paM T z = (paG T).2.1 := if_neg (fun q => q3 q.1)
          have hM : RS I6 T z (paG T).1 (paM T z) := by rw [em]; exact hG
          show Ev d 60 48 [some (vr 24)] [] (SX I6 ch kd) Q
          refine ev_s1 (L' := [some (vr 24)]) (S' := [vr 24]) k60_48 rfl rfl ?_
          refine ev_getR k60_49 (by decide) (rfl) (x_24_0 ch kd) ?_
          refine ev_virt (a := []) (S' := []) k60_52 rfl (Nat.le_of_ble_eq_true rfl) (by decide) (rfl) (by omega) ?_
          refine c_clear ln25 (?_)
          have hI21 := rg_up hM.1 (k := 25) (j := 1) (z := 0) (by omega) (by omega)
          generalize hE21 : up I6 25 1 0 = I21 at hI21 ⊢
          have g21 : ∀ (a : Nat) (b : Int), (a ≠ 25 ∨ b ≠ 1) → I21 a b = I6 a b := fun a b h => by rw [← hE21]; exact upN h
          have e21 : I21 25 1 = 0 := by rw [← hE21]; exact upE rfl rfl
          clear hE21
          have hI22 := rg_up hI21 (k := 25) (j := 2) (z := 0) (by omega) (by omega)
          generalize hE22 : up I21 25 2 0 = I22 at hI22 ⊢
          have g22 : ∀ (a : Nat) (b : Int), (a ≠ 25 ∨ b ≠ 2) → I22 a b = I21 a b := fun a b h => by rw [← hE22]; exact upN h
          have e22 : I22 25 2 = 0 := by rw [← hE22]; exact upE rfl rfl
          clear hE22
          show Ev d 60 55 [some (vr 24)] [] (SX I22 ch kd) Q
          refine ev_s1 (L' := [some (vr 24)]) (S' := [vr 24]) k60_55 rfl rfl ?_
          refine ev_getI k60_56 (by decide) (rfl) ?_
          show Ev d 60 59 [some (vr 24)] [vi (I22 24 4)] (SX I22 ch kd) Q
          have rr23 := hI22 24 4
          rw [g22 24 4 (Or.inl (by decide)), g21 24 4 (Or.inl (by decide)), hM.2.2.2.2]
          rw [g22 24 4 (Or.inl (by decide)), g21 24 4 (Or.inl (by decide)), hM.2.2.2.2] at rr23
          refine ev_z_ne (t := 66) k60_59 rfl (by omega) (by omega) (fun h24 => ?_) (fun h24 => ?_)
          · refine ev_s1 (L' := [some (vr 24)]) (S' := [vi 0]) k60_66 rfl rfl ?_
            refine ev_zreturn k60_67 (by decide) ?_
            have hB : ∀ (a : Nat) (b : Int), (a ≠ 24 ∧ a ≠ 25) → I22 a b = I6 a b := (fun a b hf => ((g22 a b (by omega)).trans (g21 a b (by omega))))
            have em2 : 0 ≤ paM T z ∧ paM T z ≤ 3 := by unfold paM; split <;> omega
            have eM : I22 24 4 = paM T z := ((g22 24 4 (Or.inl (by decide))).trans ((g21 24 4 (Or.inl (by decide))).trans (hM.2.2.2.2)))
            have eP : I22 24 3 = (paG T).1 := ((g22 24 3 (Or.inl (by decide))).trans ((g21 24 3 (Or.inl (by decide))).trans (hM.2.2.2.1)))
            refine hF (by omega) I22 kd hI22 eP eM ((g22 25 1 (Or.inr (by decide))).trans (e21)) (e22) ⟨em2, y1.1, c1.2.2, y1.2.2, (hB 29 8 (by decide)).trans y6, (hB 29 6 (by decide)).trans y4, (hB 29 7 (by decide)).trans y2, fun j hj => ?_, fun j hj => ?_⟩ (fun a b hf => ((g22 a b (by omega)).trans ((g21 a b (by omega)).trans ((f6 a b (by omega)).trans ((g5 a b (by omega)).trans ((g4 a b (by omega)).trans ((g3 a b (by omega)).trans ((g2 a b (by omega)).trans (g1 a b (by omega)))))))))) (KF.refl _)
            · obtain ⟨t1, t2, t3, t4, t5, t6⟩ := y5 j hj
              have hd5 : dcc (j : Int) = 35 + j := by unfold dcc; omega
              exact ⟨t1, (hB _ _ (by omega)).trans t2, (hB _ _ (by omega)).trans t3, (hB _ _ (by omega)).trans t4, (hB _ _ (by omega)).trans t5, (hB _ _ (by omega)).trans t6⟩
            · obtain ⟨t1, t2, t3, t4⟩ := y3 j hj
              exact ⟨(hB _ _ (by decide)).trans t1, (hB _ _ (by decide)).trans t2, (hB _ _ (by decide)).trans t3, (hB _ _ (by decide)).trans t4⟩
          · refine ev_s1 (L' := [some (vr 24)]) (S' := [vi 1]) k60_62 rfl rfl ?_
            refine ev_goto (t := 67) k60_63 rfl ?_
            refine ev_zreturn k60_67 (by decide) ?_
            have hB : ∀ (a : Nat) (b : Int), (a ≠ 24 ∧ a ≠ 25) → I22 a b = I6 a b := (fun a b hf => ((g22 a b (by omega)).trans (g21 a b (by omega))))
            have em2 : 0 ≤ paM T z ∧ paM T z ≤ 3 := by unfold paM; split <;> omega
            have eM : I22 24 4 = paM T z := ((g22 24 4 (Or.inl (by decide))).trans ((g21 24 4 (Or.inl (by decide))).trans (hM.2.2.2.2)))
            have eP : I22 24 3 = (paG T).1 := ((g22 24 3 (Or.inl (by decide))).trans ((g21 24 3 (Or.inl (by decide))).trans (hM.2.2.2.1)))
            refine hT (by omega) I22 kd hI22 eP eM ((g22 25 1 (Or.inr (by decide))).trans (e21)) (e22) ⟨em2, y1.1, c1.2.2, y1.2.2, (hB 29 8 (by decide)).trans y6, (hB 29 6 (by decide)).trans y4, (hB 29 7 (by decide)).trans y2, fun j hj => ?_, fun j hj => ?_⟩ (fun a b hf => ((g22 a b (by omega)).trans ((g21 a b (by omega)).trans ((f6 a b (by omega)).trans ((g5 a b (by omega)).trans ((g4 a b (by omega)).trans ((g3 a b (by omega)).trans ((g2 a b (by omega)).trans (g1 a b (by omega)))))))))) (KF.refl _)
            · obtain ⟨t1, t2, t3, t4, t5, t6⟩ := y5 j hj
              have hd5 : dcc (j : Int) = 35 + j := by unfold dcc; omega
              exact ⟨t1, (hB _ _ (by omega)).trans t2, (hB _ _ (by omega)).trans t3, (hB _ _ (by omega)).trans t4, (hB _ _ (by omega)).trans t5, (hB _ _ (by omega)).trans t6⟩
            · obtain ⟨t1, t2, t3, t4⟩ := y3 j hj
              exact ⟨(hB _ _ (by decide)).trans t1, (hB _ _ (by decide)).trans t2, (hB _ _ (by decide)).trans t3, (hB _ _ (by decide)).trans t4⟩
    · have eg : paG T = guR T 6 (paC T).1 0 := if_neg (fun q => q q2)
      rw [← eg] at h8 t1 t2 t3 t4 t5 t6 t7 t8
      have hG := h8
      have y1 : (0 ≤ (paG T).1 ∧ (paG T).1 ≤ z) ∧ (0 ≤ (paG T).2.1 ∧ (paG T).2.1 ≤ 3) ∧ (0 ≤ (paG T).2.2 ∧ (paG T).2.2 ≤ 5) := ⟨⟨t1, t2⟩, ⟨t3, t4⟩, t5, t6⟩
      have y2 := t7
      have y3 := t8
      have y4 : I8 29 6 = (paC T).2.2 := (f8 29 6 (by decide)).trans c2
      have y6 : I8 29 8 = lV T := (f8 29 8 (by decide)).trans (sl6)
      have y5 : ∀ j : Nat, (j : Int) < (paC T).2.2 → tolC I8 kd T (pcs T (lP3 T) j) j := by
        intro j hj
        obtain ⟨t1, t2, t3, t4, t5, t6⟩ := c3 j hj
        have hd5 : dcc (j : Int) = 35 + j := by unfold dcc; omega
        exact ⟨t1, (f8 _ _ (by omega)).trans t2, (f8 _ _ (by omega)).trans t3, (f8 _ _ (by omega)).trans t4, (f8 _ _ (by omega)).trans t5, (f8 _ _ (by omega)).trans t6⟩
      show Ev d 60 29 [some (vr 24)] [] (SX I8 ch kd) Q
      refine ev_s1 (L' := [some (vr 24)]) (S' := [vr 24]) k60_29 rfl rfl ?_
      refine ev_getI k60_30 (by decide) (rfl) ?_
      show Ev d 60 33 [some (vr 24)] [vi (I8 24 3)] (SX I8 ch kd) Q
      have rr25 := hG.1 24 3
      rw [hG.2.2.2.1]
      rw [hG.2.2.2.1] at rr25
      refine ev_s1 (L' := [some (vr 24)]) (S' := [vr 24, vi ((paG T).1)]) k60_33 rfl rfl ?_
      refine ev_getR k60_34 (by decide) (rfl) (x_24_0 ch kd) ?_
      refine ev_getI k60_37 (by decide) (rfl) ?_
      show Ev d 60 40 [some (vr 24)] [vi (I8 25 1), vi ((paG T).1)] (SX I8 ch kd) Q
      have rr26 := hG.1 25 1
      rw [hG.2.2.1]
      rw [hG.2.2.1] at rr26
      refine ev_c_ge (t := 48) k60_40 rfl (by omega) (by omega) (by omega) (by omega) (fun h27 => ?_) (fun h27 => ?_)
      · have em : paM T z = (paG T).2.1 := if_neg (fun q => by omega)
        have hM : RS I8 T z (paG T).1 (paM T z) := by rw [em]; exact hG
        refine ev_s1 (L' := [some (vr 24)]) (S' := [vr 24]) k60_48 rfl rfl ?_
        refine ev_getR k60_49 (by decide) (rfl) (x_24_0 ch kd) ?_
        refine ev_virt (a := []) (S' := []) k60_52 rfl (Nat.le_of_ble_eq_true rfl) (by decide) (rfl) (by omega) ?_
        refine c_clear ln25 (?_)
        have hI28 := rg_up hM.1 (k := 25) (j := 1) (z := 0) (by omega) (by omega)
        generalize hE28 : up I8 25 1 0 = I28 at hI28 ⊢
        have g28 : ∀ (a : Nat) (b : Int), (a ≠ 25 ∨ b ≠ 1) → I28 a b = I8 a b := fun a b h => by rw [← hE28]; exact upN h
        have e28 : I28 25 1 = 0 := by rw [← hE28]; exact upE rfl rfl
        clear hE28
        have hI29 := rg_up hI28 (k := 25) (j := 2) (z := 0) (by omega) (by omega)
        generalize hE29 : up I28 25 2 0 = I29 at hI29 ⊢
        have g29 : ∀ (a : Nat) (b : Int), (a ≠ 25 ∨ b ≠ 2) → I29 a b = I28 a b := fun a b h => by rw [← hE29]; exact upN h
        have e29 : I29 25 2 = 0 := by rw [← hE29]; exact upE rfl rfl
        clear hE29
        show Ev d 60 55 [some (vr 24)] [] (SX I29 ch kd) Q
        refine ev_s1 (L' := [some (vr 24)]) (S' := [vr 24]) k60_55 rfl rfl ?_
        refine ev_getI k60_56 (by decide) (rfl) ?_
        show Ev d 60 59 [some (vr 24)] [vi (I29 24 4)] (SX I29 ch kd) Q
        have rr30 := hI29 24 4
        rw [g29 24 4 (Or.inl (by decide)), g28 24 4 (Or.inl (by decide)), hM.2.2.2.2]
        rw [g29 24 4 (Or.inl (by decide)), g28 24 4 (Or.inl (by decide)), hM.2.2.2.2] at rr30
        refine ev_z_ne (t := 66) k60_59 rfl (by omega) (by omega) (fun h31 => ?_) (fun h31 => ?_)
        · refine ev_s1 (L' := [some (vr 24)]) (S' := [vi 0]) k60_66 rfl rfl ?_
          refine ev_zreturn k60_67 (by decide) ?_
          have hB : ∀ (a : Nat) (b : Int), (a ≠ 24 ∧ a ≠ 25) → I29 a b = I8 a b := (fun a b hf => ((g29 a b (by omega)).trans (g28 a b (by omega))))
          have em2 : 0 ≤ paM T z ∧ paM T z ≤ 3 := by unfold paM; split <;> omega
          have eM : I29 24 4 = paM T z := ((g29 24 4 (Or.inl (by decide))).trans ((g28 24 4 (Or.inl (by decide))).trans (hM.2.2.2.2)))
          have eP : I29 24 3 = (paG T).1 := ((g29 24 3 (Or.inl (by decide))).trans ((g28 24 3 (Or.inl (by decide))).trans (hM.2.2.2.1)))
          refine hF (by omega) I29 kd hI29 eP eM ((g29 25 1 (Or.inr (by decide))).trans (e28)) (e29) ⟨em2, y1.1, c1.2.2, y1.2.2, (hB 29 8 (by decide)).trans y6, (hB 29 6 (by decide)).trans y4, (hB 29 7 (by decide)).trans y2, fun j hj => ?_, fun j hj => ?_⟩ (fun a b hf => ((g29 a b (by omega)).trans ((g28 a b (by omega)).trans ((f8 a b (by omega)).trans ((f6 a b (by omega)).trans ((g5 a b (by omega)).trans ((g4 a b (by omega)).trans ((g3 a b (by omega)).trans ((g2 a b (by omega)).trans (g1 a b (by omega))))))))))) (KF.refl _)
          · obtain ⟨t1, t2, t3, t4, t5, t6⟩ := y5 j hj
            have hd5 : dcc (j : Int) = 35 + j := by unfold dcc; omega
            exact ⟨t1, (hB _ _ (by omega)).trans t2, (hB _ _ (by omega)).trans t3, (hB _ _ (by omega)).trans t4, (hB _ _ (by omega)).trans t5, (hB _ _ (by omega)).trans t6⟩
          · obtain ⟨t1, t2, t3, t4⟩ := y3 j hj
            exact ⟨(hB _ _ (by decide)).trans t1, (hB _ _ (by decide)).trans t2, (hB _ _ (by decide)).trans t3, (hB _ _ (by decide)).trans t4⟩
        · refine ev_s1 (L' := [some (vr 24)]) (S' := [vi 1]) k60_62 rfl rfl ?_
          refine ev_goto (t := 67) k60_63 rfl ?_
          refine ev_zreturn k60_67 (by decide) ?_
          have hB : ∀ (a : Nat) (b : Int), (a ≠ 24 ∧ a ≠ 25) → I29 a b = I8 a b := (fun a b hf => ((g29 a b (by omega)).trans (g28 a b (by omega))))
          have em2 : 0 ≤ paM T z ∧ paM T z ≤ 3 := by unfold paM; split <;> omega
          have eM : I29 24 4 = paM T z := ((g29 24 4 (Or.inl (by decide))).trans ((g28 24 4 (Or.inl (by decide))).trans (hM.2.2.2.2)))
          have eP : I29 24 3 = (paG T).1 := ((g29 24 3 (Or.inl (by decide))).trans ((g28 24 3 (Or.inl (by decide))).trans (hM.2.2.2.1)))
          refine hT (by omega) I29 kd hI29 eP eM ((g29 25 1 (Or.inr (by decide))).trans (e28)) (e29) ⟨em2, y1.1, c1.2.2, y1.2.2, (hB 29 8 (by decide)).trans y6, (hB 29 6 (by decide)).trans y4, (hB 29 7 (by decide)).trans y2, fun j hj => ?_, fun j hj => ?_⟩ (fun a b hf => ((g29 a b (by omega)).trans ((g28 a b (by omega)).trans ((f8 a b (by omega)).trans ((f6 a b (by omega)).trans ((g5 a b (by omega)).trans ((g4 a b (by omega)).trans ((g3 a b (by omega)).trans ((g2 a b (by omega)).trans (g1 a b (by omega))))))))))) (KF.refl _)
          · obtain ⟨t1, t2, t3, t4, t5, t6⟩ := y5 j hj
            have hd5 : dcc (j : Int) = 35 + j := by unfold dcc; omega
            exact ⟨t1, (hB _ _ (by omega)).trans t2, (hB _ _ (by omega)).trans t3, (hB _ _ (by omega)).trans t4, (hB _ _ (by omega)).trans t5, (hB _ _ (by omega)).trans t6⟩
          · obtain ⟨t1, t2, t3, t4⟩ := y3 j hj
            exact ⟨(hB _ _ (by decide)).trans t1, (hB _ _ (by decide)).trans t2, (hB _ _ (by decide)).trans t3, (hB _ _ (by decide)).trans t4⟩
      · refine ev_s1 (L' := [some (vr 24)]) (S' := [vr 24]) k60_43 rfl rfl ?_
        refine ev_s1 (L' := [some (vr 24)]) (S' := [vi 1, vr 24]) k60_44 rfl rfl ?_
        refine ev_virt (a := [vi 1]) (S' := []) k60_45 rfl (Nat.le_of_ble_eq_true rfl) (by decide) (rfl) (by omega) ?_
        refine g_fail hG (b := 1) (by decide) (by decide) (fun q3 I32 h32 f32 => ?_) (fun q3 => ?_)
        · have em : paM T z = 1 := if_pos ⟨q3, by omega⟩
          have hM : RS I32 T z (paG T).1 (paM T z) := by rw [em]; exact h32
          show Ev d 60 48 [some (vr 24)] [] (SX I32 ch kd) Q
          refine ev_s1 (L' := [some (vr 24)]) (S' := [vr 24]) k60_48 rfl rfl ?_
          refine ev_getR k60_49 (by decide) (rfl) (x_24_0 ch kd) ?_
          refine ev_virt (a := []) (S' := []) k60_52 rfl (Nat.le_of_ble_eq_true rfl) (by decide) (rfl) (by omega) ?_
          refine c_clear ln25 (?_)
          have hI33 := rg_up hM.1 (k := 25) (j := 1) (z := 0) (by omega) (by omega)
          generalize hE33 : up I32 25 1 0 = I33 at hI33 ⊢
          have g33 : ∀ (a : Nat) (b : Int), (a ≠ 25 ∨ b ≠ 1) → I33 a b = I32 a b := fun a b h => by rw [← hE33]; exact upN h
          have e33 : I33 25 1 = 0 := by rw [← hE33]; exact upE rfl rfl
          clear hE33
          have hI34 := rg_up hI33 (k := 25) (j := 2) (z := 0) (by omega) (by omega)
          generalize hE34 : up I33 25 2 0 = I34 at hI34 ⊢
          have g34 : ∀ (a : Nat) (b : Int), (a ≠ 25 ∨ b ≠ 2) → I34 a b = I33 a b := fun a b h => by rw [← hE34]; exact upN h
          have e34 : I34 25 2 = 0 := by rw [← hE34]; exact upE rfl rfl
          clear hE34
          show Ev d 60 55 [some (vr 24)] [] (SX I34 ch kd) Q
          refine ev_s1 (L' := [some (vr 24)]) (S' := [vr 24]) k60_55 rfl rfl ?_
          refine ev_getI k60_56 (by decide) (rfl) ?_
          show Ev d 60 59 [some (vr 24)] [vi (I34 24 4)] (SX I34 ch kd) Q
          have rr35 := hI34 24 4
          rw [g34 24 4 (Or.inl (by decide)), g33 24 4 (Or.inl (by decide)), hM.2.2.2.2]
          rw [g34 24 4 (Or.inl (by decide)), g33 24 4 (Or.inl (by decide)), hM.2.2.2.2] at rr35
          refine ev_z_ne (t := 66) k60_59 rfl (by omega) (by omega) (fun h36 => ?_) (fun h36 => ?_)
          · refine ev_s1 (L' := [some (vr 24)]) (S' := [vi 0]) k60_66 rfl rfl ?_
            refine ev_zreturn k60_67 (by decide) ?_
            have hB : ∀ (a : Nat) (b : Int), (a ≠ 24 ∧ a ≠ 25) → I34 a b = I8 a b := (fun a b hf => ((g34 a b (by omega)).trans ((g33 a b (by omega)).trans (f32 a b (by omega)))))
            have em2 : 0 ≤ paM T z ∧ paM T z ≤ 3 := by unfold paM; split <;> omega
            have eM : I34 24 4 = paM T z := ((g34 24 4 (Or.inl (by decide))).trans ((g33 24 4 (Or.inl (by decide))).trans (hM.2.2.2.2)))
            have eP : I34 24 3 = (paG T).1 := ((g34 24 3 (Or.inl (by decide))).trans ((g33 24 3 (Or.inl (by decide))).trans (hM.2.2.2.1)))
            refine hF (by omega) I34 kd hI34 eP eM ((g34 25 1 (Or.inr (by decide))).trans (e33)) (e34) ⟨em2, y1.1, c1.2.2, y1.2.2, (hB 29 8 (by decide)).trans y6, (hB 29 6 (by decide)).trans y4, (hB 29 7 (by decide)).trans y2, fun j hj => ?_, fun j hj => ?_⟩ (fun a b hf => ((g34 a b (by omega)).trans ((g33 a b (by omega)).trans ((f32 a b (by omega)).trans ((f8 a b (by omega)).trans ((f6 a b (by omega)).trans ((g5 a b (by omega)).trans ((g4 a b (by omega)).trans ((g3 a b (by omega)).trans ((g2 a b (by omega)).trans (g1 a b (by omega)))))))))))) (KF.refl _)
            · obtain ⟨t1, t2, t3, t4, t5, t6⟩ := y5 j hj
              have hd5 : dcc (j : Int) = 35 + j := by unfold dcc; omega
              exact ⟨t1, (hB _ _ (by omega)).trans t2, (hB _ _ (by omega)).trans t3, (hB _ _ (by omega)).trans t4, (hB _ _ (by omega)).trans t5, (hB _ _ (by omega)).trans t6⟩
            · obtain ⟨t1, t2, t3, t4⟩ := y3 j hj
              exact ⟨(hB _ _ (by decide)).trans t1, (hB _ _ (by decide)).trans t2, (hB _ _ (by decide)).trans t3, (hB _ _ (by decide)).trans t4⟩
          · refine ev_s1 (L' := [some (vr 24)]) (S' := [vi 1]) k60_62 rfl rfl ?_
            refine ev_goto (t := 67) k60_63 rfl ?_
            refine ev_zreturn k60_67 (by decide) ?_
            have hB : ∀ (a : Nat) (b : Int), (a ≠ 24 ∧ a ≠ 25) → I34 a b = I8 a b := (fun a b hf => ((g34 a b (by omega)).trans ((g33 a b (by omega)).trans (f32 a b (by omega)))))
            have em2 : 0 ≤ paM T z ∧ paM T z ≤ 3 := by unfold paM; split <;> omega
            have eM : I34 24 4 = paM T z := ((g34 24 4 (Or.inl (by decide))).trans ((g33 24 4 (Or.inl (by decide))).trans (hM.2.2.2.2)))
            have eP : I34 24 3 = (paG T).1 := ((g34 24 3 (Or.inl (by decide))).trans ((g33 24 3 (Or.inl (by decide))).trans (hM.2.2.2.1)))
            refine hT (by omega) I34 kd hI34 eP eM ((g34 25 1 (Or.inr (by decide))).trans (e33)) (e34) ⟨em2, y1.1, c1.2.2, y1.2.2, (hB 29 8 (by decide)).trans y6, (hB 29 6 (by decide)).trans y4, (hB 29 7 (by decide)).trans y2, fun j hj => ?_, fun j hj => ?_⟩ (fun a b hf => ((g34 a b (by omega)).trans ((g33 a b (by omega)).trans ((f32 a b (by omega)).trans ((f8 a b (by omega)).trans ((f6 a b (by omega)).trans ((g5 a b (by omega)).trans ((g4 a b (by omega)).trans ((g3 a b (by omega)).trans ((g2 a b (by omega)).trans (g1 a b (by omega)))))))))))) (KF.refl _)
            · obtain ⟨t1, t2, t3, t4, t5, t6⟩ := y5 j hj
              have hd5 : dcc (j : Int) = 35 + j := by unfold dcc; omega
              exact ⟨t1, (hB _ _ (by omega)).trans t2, (hB _ _ (by omega)).trans t3, (hB _ _ (by omega)).trans t4, (hB _ _ (by omega)).trans t5, (hB _ _ (by omega)).trans t6⟩
            · obtain ⟨t1, t2, t3, t4⟩ := y3 j hj
              exact ⟨(hB _ _ (by decide)).trans t1, (hB _ _ (by decide)).trans t2, (hB _ _ (by decide)).trans t3, (hB _ _ (by decide)).trans t4⟩
        · have em : paM T z = (paG T).2.1 := if_neg (fun q => q3 q.1)
          have hM : RS I8 T z (paG T).1 (paM T z) := by rw [em]; exact hG
          show Ev d 60 48 [some (vr 24)] [] (SX I8 ch kd) Q
          refine ev_s1 (L' := [some (vr 24)]) (S' := [vr 24]) k60_48 rfl rfl ?_
          refine ev_getR k60_49 (by decide) (rfl) (x_24_0 ch kd) ?_
          refine ev_virt (a := []) (S' := []) k60_52 rfl (Nat.le_of_ble_eq_true rfl) (by decide) (rfl) (by omega) ?_
          refine c_clear ln25 (?_)
          have hI37 := rg_up hM.1 (k := 25) (j := 1) (z := 0) (by omega) (by omega)
          generalize hE37 : up I8 25 1 0 = I37 at hI37 ⊢
          have g37 : ∀ (a : Nat) (b : Int), (a ≠ 25 ∨ b ≠ 1) → I37 a b = I8 a b := fun a b h => by rw [← hE37]; exact upN h
          have e37 : I37 25 1 = 0 := by rw [← hE37]; exact upE rfl rfl
          clear hE37
          have hI38 := rg_up hI37 (k := 25) (j := 2) (z := 0) (by omega) (by omega)
          generalize hE38 : up I37 25 2 0 = I38 at hI38 ⊢
          have g38 : ∀ (a : Nat) (b : Int), (a ≠ 25 ∨ b ≠ 2) → I38 a b = I37 a b := fun a b h => by rw [← hE38]; exact upN h
          have e38 : I38 25 2 = 0 := by rw [← hE38]; exact upE rfl rfl
          clear hE38
          show Ev d 60 55 [some (vr 24)] [] (SX I38 ch kd) Q
          refine ev_s1 (L' := [some (vr 24)]) (S' := [vr 24]) k60_55 rfl rfl ?_
          refine ev_getI k60_56 (by decide) (rfl) ?_
          show Ev d 60 59 [some (vr 24)] [vi (I38 24 4)] (SX I38 ch kd) Q
          have rr39 := hI38 24 4
          rw [g38 24 4 (Or.inl (by decide)), g37 24 4 (Or.inl (by decide)), hM.2.2.2.2]
          rw [g38 24 4 (Or.inl (by decide)), g37 24 4 (Or.inl (by decide)), hM.2.2.2.2] at rr39
          refine ev_z_ne (t := 66) k60_59 rfl (by omega) (by omega) (fun h40 => ?_) (fun h40 => ?_)
          · refine ev_s1 (L' := [some (vr 24)]) (S' := [vi 0]) k60_66 rfl rfl ?_
            refine ev_zreturn k60_67 (by decide) ?_
            have hB : ∀ (a : Nat) (b : Int), (a ≠ 24 ∧ a ≠ 25) → I38 a b = I8 a b := (fun a b hf => ((g38 a b (by omega)).trans (g37 a b (by omega))))
            have em2 : 0 ≤ paM T z ∧ paM T z ≤ 3 := by unfold paM; split <;> omega
            have eM : I38 24 4 = paM T z := ((g38 24 4 (Or.inl (by decide))).trans ((g37 24 4 (Or.inl (by decide))).trans (hM.2.2.2.2)))
            have eP : I38 24 3 = (paG T).1 := ((g38 24 3 (Or.inl (by decide))).trans ((g37 24 3 (Or.inl (by decide))).trans (hM.2.2.2.1)))
            refine hF (by omega) I38 kd hI38 eP eM ((g38 25 1 (Or.inr (by decide))).trans (e37)) (e38) ⟨em2, y1.1, c1.2.2, y1.2.2, (hB 29 8 (by decide)).trans y6, (hB 29 6 (by decide)).trans y4, (hB 29 7 (by decide)).trans y2, fun j hj => ?_, fun j hj => ?_⟩ (fun a b hf => ((g38 a b (by omega)).trans ((g37 a b (by omega)).trans ((f8 a b (by omega)).trans ((f6 a b (by omega)).trans ((g5 a b (by omega)).trans ((g4 a b (by omega)).trans ((g3 a b (by omega)).trans ((g2 a b (by omega)).trans (g1 a b (by omega))))))))))) (KF.refl _)
            · obtain ⟨t1, t2, t3, t4, t5, t6⟩ := y5 j hj
              have hd5 : dcc (j : Int) = 35 + j := by unfold dcc; omega
              exact ⟨t1, (hB _ _ (by omega)).trans t2, (hB _ _ (by omega)).trans t3, (hB _ _ (by omega)).trans t4, (hB _ _ (by omega)).trans t5, (hB _ _ (by omega)).trans t6⟩
            · obtain ⟨t1, t2, t3, t4⟩ := y3 j hj
              exact ⟨(hB _ _ (by decide)).trans t1, (hB _ _ (by decide)).trans t2, (hB _ _ (by decide)).trans t3, (hB _ _ (by decide)).trans t4⟩
          · refine ev_s1 (L' := [some (vr 24)]) (S' := [vi 1]) k60_62 rfl rfl ?_
            refine ev_goto (t := 67) k60_63 rfl ?_
            refine ev_zreturn k60_67 (by decide) ?_
            have hB : ∀ (a : Nat) (b : Int), (a ≠ 24 ∧ a ≠ 25) → I38 a b = I8 a b := (fun a b hf => ((g38 a b (by omega)).trans (g37 a b (by omega))))
            have em2 : 0 ≤ paM T z ∧ paM T z ≤ 3 := by unfold paM; split <;> omega
            have eM : I38 24 4 = paM T z := ((g38 24 4 (Or.inl (by decide))).trans ((g37 24 4 (Or.inl (by decide))).trans (hM.2.2.2.2)))
            have eP : I38 24 3 = (paG T).1 := ((g38 24 3 (Or.inl (by decide))).trans ((g37 24 3 (Or.inl (by decide))).trans (hM.2.2.2.1)))
            refine hT (by omega) I38 kd hI38 eP eM ((g38 25 1 (Or.inr (by decide))).trans (e37)) (e38) ⟨em2, y1.1, c1.2.2, y1.2.2, (hB 29 8 (by decide)).trans y6, (hB 29 6 (by decide)).trans y4, (hB 29 7 (by decide)).trans y2, fun j hj => ?_, fun j hj => ?_⟩ (fun a b hf => ((g38 a b (by omega)).trans ((g37 a b (by omega)).trans ((f8 a b (by omega)).trans ((f6 a b (by omega)).trans ((g5 a b (by omega)).trans ((g4 a b (by omega)).trans ((g3 a b (by omega)).trans ((g2 a b (by omega)).trans (g1 a b (by omega))))))))))) (KF.refl _)
            · obtain ⟨t1, t2, t3, t4, t5, t6⟩ := y5 j hj
              have hd5 : dcc (j : Int) = 35 + j := by unfold dcc; omega
              exact ⟨t1, (hB _ _ (by omega)).trans t2, (hB _ _ (by omega)).trans t3, (hB _ _ (by omega)).trans t4, (hB _ _ (by omega)).trans t5, (hB _ _ (by omega)).trans t6⟩
            · obtain ⟨t1, t2, t3, t4⟩ := y3 j hj
              exact ⟨(hB _ _ (by decide)).trans t1, (hB _ _ (by decide)).trans t2, (hB _ _ (by decide)).trans t3, (hB _ _ (by decide)).trans t4⟩
  · have ec : paC T = paC2 T (lP3 T) := if_neg (fun q => q q1)
    rw [← ec] at h7 s1 s2 s3 s4 s5 s6 s7 s8
    have hC := h7
    have c1 : (0 ≤ (paC T).1 ∧ (paC T).1 ≤ z) ∧ (0 ≤ (paC T).2.1 ∧ (paC T).2.1 ≤ 3) ∧ (0 ≤ (paC T).2.2 ∧ (paC T).2.2 ≤ 5) := ⟨⟨s1, s2⟩, ⟨s3, s4⟩, s5, s6⟩
    have c2 := s7
    have c3 := s8
    show Ev d 60 25 [some (vr 24)] [] (SX I7 ch kd7) Q
    refine ev_s1 (L' := [some (vr 24)]) (S' := [vr 24]) k60_25 rfl rfl ?_
    refine ev_virt (a := []) (S' := []) k60_26 rfl (Nat.le_of_ble_eq_true rfl) (by decide) (rfl) (by omega) ?_
    refine g_readGuests hC z0 z1 c1.1.1 c1.1.2 c1.2.1.1 c1.2.1.2 ((f7 29 7 (by decide)).trans ((f6 29 7 (by decide)).trans ((g5 29 7 (Or.inr (by decide))).trans (e4)))) (by omega) (fun q2 => ?_) (fun q2 I41 h41 t1 t2 t3 t4 t5 t6 t7 t8 f41 => ?_)
    · have eg : paG T = ((paC T).1, (paC T).2.1, 0) := if_pos q2
      have hG : RS I7 T z (paG T).1 (paG T).2.1 := by rw [eg]; exact hC
      have y1 : (0 ≤ (paG T).1 ∧ (paG T).1 ≤ z) ∧ (0 ≤ (paG T).2.1 ∧ (paG T).2.1 ≤ 3) ∧ (0 ≤ (paG T).2.2 ∧ (paG T).2.2 ≤ 5) := by rw [eg]; exact ⟨c1.1, c1.2.1, (show (0 : Int) ≤ 0 ∧ (0 : Int) ≤ 5 by decide)⟩
      have y2 : I7 29 7 = (paG T).2.2 := by rw [eg]; exact ((f7 29 7 (by decide)).trans ((f6 29 7 (by decide)).trans ((g5 29 7 (Or.inr (by decide))).trans (e4))))
      have y3 : ∀ j : Nat, (j : Int) < (paG T).2.2 → tolG I7 T (pgs T (paC T).1 j) j := by rw [eg]; exact fun j hj => absurd (show (j : Int) < 0 from hj) (by omega)
      have y4 : I7 29 6 = (paC T).2.2 := c2
      have y5 : ∀ j : Nat, (j : Int) < (paC T).2.2 → tolC I7 kd7 T (pcs T (lP3 T) j) j := c3
      have y6 : I7 29 8 = lV T := ((f7 29 8 (by decide)).trans (sl6))
      show Ev d 60 29 [some (vr 24)] [] (SX I7 ch kd7) Q
      refine ev_s1 (L' := [some (vr 24)]) (S' := [vr 24]) k60_29 rfl rfl ?_
      refine ev_getI k60_30 (by decide) (rfl) ?_
      show Ev d 60 33 [some (vr 24)] [vi (I7 24 3)] (SX I7 ch kd7) Q
      have rr42 := hG.1 24 3
      rw [hG.2.2.2.1]
      rw [hG.2.2.2.1] at rr42
      refine ev_s1 (L' := [some (vr 24)]) (S' := [vr 24, vi ((paG T).1)]) k60_33 rfl rfl ?_
      refine ev_getR k60_34 (by decide) (rfl) (x_24_0 ch kd7) ?_
      refine ev_getI k60_37 (by decide) (rfl) ?_
      show Ev d 60 40 [some (vr 24)] [vi (I7 25 1), vi ((paG T).1)] (SX I7 ch kd7) Q
      have rr43 := hG.1 25 1
      rw [hG.2.2.1]
      rw [hG.2.2.1] at rr43
      refine ev_c_ge (t := 48) k60_40 rfl (by omega) (by omega) (by omega) (by omega) (fun h44 => ?_) (fun h44 => ?_)
      · have em : paM T z = (paG T).2.1 := if_neg (fun q => by omega)
        have hM : RS I7 T z (paG T).1 (paM T z) := by rw [em]; exact hG
        refine ev_s1 (L' := [some (vr 24)]) (S' := [vr 24]) k60_48 rfl rfl ?_
        refine ev_getR k60_49 (by decide) (rfl) (x_24_0 ch kd7) ?_
        refine ev_virt (a := []) (S' := []) k60_52 rfl (Nat.le_of_ble_eq_true rfl) (by decide) (rfl) (by omega) ?_
        refine c_clear ln25 (?_)
        have hI45 := rg_up hM.1 (k := 25) (j := 1) (z := 0) (by omega) (by omega)
        generalize hE45 : up I7 25 1 0 = I45 at hI45 ⊢
        have g45 : ∀ (a : Nat) (b : Int), (a ≠ 25 ∨ b ≠ 1) → I45 a b = I7 a b := fun a b h => by rw [← hE45]; exact upN h
        have e45 : I45 25 1 = 0 := by rw [← hE45]; exact upE rfl rfl
        clear hE45
        have hI46 := rg_up hI45 (k := 25) (j := 2) (z := 0) (by omega) (by omega)
        generalize hE46 : up I45 25 2 0 = I46 at hI46 ⊢
        have g46 : ∀ (a : Nat) (b : Int), (a ≠ 25 ∨ b ≠ 2) → I46 a b = I45 a b := fun a b h => by rw [← hE46]; exact upN h
        have e46 : I46 25 2 = 0 := by rw [← hE46]; exact upE rfl rfl
        clear hE46
        show Ev d 60 55 [some (vr 24)] [] (SX I46 ch kd7) Q
        refine ev_s1 (L' := [some (vr 24)]) (S' := [vr 24]) k60_55 rfl rfl ?_
        refine ev_getI k60_56 (by decide) (rfl) ?_
        show Ev d 60 59 [some (vr 24)] [vi (I46 24 4)] (SX I46 ch kd7) Q
        have rr47 := hI46 24 4
        rw [g46 24 4 (Or.inl (by decide)), g45 24 4 (Or.inl (by decide)), hM.2.2.2.2]
        rw [g46 24 4 (Or.inl (by decide)), g45 24 4 (Or.inl (by decide)), hM.2.2.2.2] at rr47
        refine ev_z_ne (t := 66) k60_59 rfl (by omega) (by omega) (fun h48 => ?_) (fun h48 => ?_)
        · refine ev_s1 (L' := [some (vr 24)]) (S' := [vi 0]) k60_66 rfl rfl ?_
          refine ev_zreturn k60_67 (by decide) ?_
          have hB : ∀ (a : Nat) (b : Int), (a ≠ 24 ∧ a ≠ 25) → I46 a b = I7 a b := (fun a b hf => ((g46 a b (by omega)).trans (g45 a b (by omega))))
          have em2 : 0 ≤ paM T z ∧ paM T z ≤ 3 := by unfold paM; split <;> omega
          have eM : I46 24 4 = paM T z := ((g46 24 4 (Or.inl (by decide))).trans ((g45 24 4 (Or.inl (by decide))).trans (hM.2.2.2.2)))
          have eP : I46 24 3 = (paG T).1 := ((g46 24 3 (Or.inl (by decide))).trans ((g45 24 3 (Or.inl (by decide))).trans (hM.2.2.2.1)))
          refine hF (by omega) I46 kd7 hI46 eP eM ((g46 25 1 (Or.inr (by decide))).trans (e45)) (e46) ⟨em2, y1.1, c1.2.2, y1.2.2, (hB 29 8 (by decide)).trans y6, (hB 29 6 (by decide)).trans y4, (hB 29 7 (by decide)).trans y2, fun j hj => ?_, fun j hj => ?_⟩ (fun a b hf => ((g46 a b (by omega)).trans ((g45 a b (by omega)).trans ((f7 a b (by omega)).trans ((f6 a b (by omega)).trans ((g5 a b (by omega)).trans ((g4 a b (by omega)).trans ((g3 a b (by omega)).trans ((g2 a b (by omega)).trans (g1 a b (by omega))))))))))) kf7
          · obtain ⟨t1, t2, t3, t4, t5, t6⟩ := y5 j hj
            have hd5 : dcc (j : Int) = 35 + j := by unfold dcc; omega
            exact ⟨t1, (hB _ _ (by omega)).trans t2, (hB _ _ (by omega)).trans t3, (hB _ _ (by omega)).trans t4, (hB _ _ (by omega)).trans t5, (hB _ _ (by omega)).trans t6⟩
          · obtain ⟨t1, t2, t3, t4⟩ := y3 j hj
            exact ⟨(hB _ _ (by decide)).trans t1, (hB _ _ (by decide)).trans t2, (hB _ _ (by decide)).trans t3, (hB _ _ (by decide)).trans t4⟩
        · refine ev_s1 (L' := [some (vr 24)]) (S' := [vi 1]) k60_62 rfl rfl ?_
          refine ev_goto (t := 67) k60_63 rfl ?_
          refine ev_zreturn k60_67 (by decide) ?_
          have hB : ∀ (a : Nat) (b : Int), (a ≠ 24 ∧ a ≠ 25) → I46 a b = I7 a b := (fun a b hf => ((g46 a b (by omega)).trans (g45 a b (by omega))))
          have em2 : 0 ≤ paM T z ∧ paM T z ≤ 3 := by unfold paM; split <;> omega
          have eM : I46 24 4 = paM T z := ((g46 24 4 (Or.inl (by decide))).trans ((g45 24 4 (Or.inl (by decide))).trans (hM.2.2.2.2)))
          have eP : I46 24 3 = (paG T).1 := ((g46 24 3 (Or.inl (by decide))).trans ((g45 24 3 (Or.inl (by decide))).trans (hM.2.2.2.1)))
          refine hT (by omega) I46 kd7 hI46 eP eM ((g46 25 1 (Or.inr (by decide))).trans (e45)) (e46) ⟨em2, y1.1, c1.2.2, y1.2.2, (hB 29 8 (by decide)).trans y6, (hB 29 6 (by decide)).trans y4, (hB 29 7 (by decide)).trans y2, fun j hj => ?_, fun j hj => ?_⟩ (fun a b hf => ((g46 a b (by omega)).trans ((g45 a b (by omega)).trans ((f7 a b (by omega)).trans ((f6 a b (by omega)).trans ((g5 a b (by omega)).trans ((g4 a b (by omega)).trans ((g3 a b (by omega)).trans ((g2 a b (by omega)).trans (g1 a b (by omega))))))))))) kf7
          · obtain ⟨t1, t2, t3, t4, t5, t6⟩ := y5 j hj
            have hd5 : dcc (j : Int) = 35 + j := by unfold dcc; omega
            exact ⟨t1, (hB _ _ (by omega)).trans t2, (hB _ _ (by omega)).trans t3, (hB _ _ (by omega)).trans t4, (hB _ _ (by omega)).trans t5, (hB _ _ (by omega)).trans t6⟩
          · obtain ⟨t1, t2, t3, t4⟩ := y3 j hj
            exact ⟨(hB _ _ (by decide)).trans t1, (hB _ _ (by decide)).trans t2, (hB _ _ (by decide)).trans t3, (hB _ _ (by decide)).trans t4⟩
      · refine ev_s1 (L' := [some (vr 24)]) (S' := [vr 24]) k60_43 rfl rfl ?_
        refine ev_s1 (L' := [some (vr 24)]) (S' := [vi 1, vr 24]) k60_44 rfl rfl ?_
        refine ev_virt (a := [vi 1]) (S' := []) k60_45 rfl (Nat.le_of_ble_eq_true rfl) (by decide) (rfl) (by omega) ?_
        refine g_fail hG (b := 1) (by decide) (by decide) (fun q3 I49 h49 f49 => ?_) (fun q3 => ?_)
        · have em : paM T z = 1 := if_pos ⟨q3, by omega⟩
          have hM : RS I49 T z (paG T).1 (paM T z) := by rw [em]; exact h49
          show Ev d 60 48 [some (vr 24)] [] (SX I49 ch kd7) Q
          refine ev_s1 (L' := [some (vr 24)]) (S' := [vr 24]) k60_48 rfl rfl ?_
          refine ev_getR k60_49 (by decide) (rfl) (x_24_0 ch kd7) ?_
          refine ev_virt (a := []) (S' := []) k60_52 rfl (Nat.le_of_ble_eq_true rfl) (by decide) (rfl) (by omega) ?_
          refine c_clear ln25 (?_)
          have hI50 := rg_up hM.1 (k := 25) (j := 1) (z := 0) (by omega) (by omega)
          generalize hE50 : up I49 25 1 0 = I50 at hI50 ⊢
          have g50 : ∀ (a : Nat) (b : Int), (a ≠ 25 ∨ b ≠ 1) → I50 a b = I49 a b := fun a b h => by rw [← hE50]; exact upN h
          have e50 : I50 25 1 = 0 := by rw [← hE50]; exact upE rfl rfl
          clear hE50
          have hI51 := rg_up hI50 (k := 25) (j := 2) (z := 0) (by omega) (by omega)
          generalize hE51 : up I50 25 2 0 = I51 at hI51 ⊢
          have g51 : ∀ (a : Nat) (b : Int), (a ≠ 25 ∨ b ≠ 2) → I51 a b = I50 a b := fun a b h => by rw [← hE51]; exact upN h
          have e51 : I51 25 2 = 0 := by rw [← hE51]; exact upE rfl rfl
          clear hE51
          show Ev d 60 55 [some (vr 24)] [] (SX I51 ch kd7) Q
          refine ev_s1 (L' := [some (vr 24)]) (S' := [vr 24]) k60_55 rfl rfl ?_
          refine ev_getI k60_56 (by decide) (rfl) ?_
          show Ev d 60 59 [some (vr 24)] [vi (I51 24 4)] (SX I51 ch kd7) Q
          have rr52 := hI51 24 4
          rw [g51 24 4 (Or.inl (by decide)), g50 24 4 (Or.inl (by decide)), hM.2.2.2.2]
          rw [g51 24 4 (Or.inl (by decide)), g50 24 4 (Or.inl (by decide)), hM.2.2.2.2] at rr52
          refine ev_z_ne (t := 66) k60_59 rfl (by omega) (by omega) (fun h53 => ?_) (fun h53 => ?_)
          · refine ev_s1 (L' := [some (vr 24)]) (S' := [vi 0]) k60_66 rfl rfl ?_
            refine ev_zreturn k60_67 (by decide) ?_
            have hB : ∀ (a : Nat) (b : Int), (a ≠ 24 ∧ a ≠ 25) → I51 a b = I7 a b := (fun a b hf => ((g51 a b (by omega)).trans ((g50 a b (by omega)).trans (f49 a b (by omega)))))
            have em2 : 0 ≤ paM T z ∧ paM T z ≤ 3 := by unfold paM; split <;> omega
            have eM : I51 24 4 = paM T z := ((g51 24 4 (Or.inl (by decide))).trans ((g50 24 4 (Or.inl (by decide))).trans (hM.2.2.2.2)))
            have eP : I51 24 3 = (paG T).1 := ((g51 24 3 (Or.inl (by decide))).trans ((g50 24 3 (Or.inl (by decide))).trans (hM.2.2.2.1)))
            refine hF (by omega) I51 kd7 hI51 eP eM ((g51 25 1 (Or.inr (by decide))).trans (e50)) (e51) ⟨em2, y1.1, c1.2.2, y1.2.2, (hB 29 8 (by decide)).trans y6, (hB 29 6 (by decide)).trans y4, (hB 29 7 (by decide)).trans y2, fun j hj => ?_, fun j hj => ?_⟩ (fun a b hf => ((g51 a b (by omega)).trans ((g50 a b (by omega)).trans ((f49 a b (by omega)).trans ((f7 a b (by omega)).trans ((f6 a b (by omega)).trans ((g5 a b (by omega)).trans ((g4 a b (by omega)).trans ((g3 a b (by omega)).trans ((g2 a b (by omega)).trans (g1 a b (by omega)))))))))))) kf7
            · obtain ⟨t1, t2, t3, t4, t5, t6⟩ := y5 j hj
              have hd5 : dcc (j : Int) = 35 + j := by unfold dcc; omega
              exact ⟨t1, (hB _ _ (by omega)).trans t2, (hB _ _ (by omega)).trans t3, (hB _ _ (by omega)).trans t4, (hB _ _ (by omega)).trans t5, (hB _ _ (by omega)).trans t6⟩
            · obtain ⟨t1, t2, t3, t4⟩ := y3 j hj
              exact ⟨(hB _ _ (by decide)).trans t1, (hB _ _ (by decide)).trans t2, (hB _ _ (by decide)).trans t3, (hB _ _ (by decide)).trans t4⟩
          · refine ev_s1 (L' := [some (vr 24)]) (S' := [vi 1]) k60_62 rfl rfl ?_
            refine ev_goto (t := 67) k60_63 rfl ?_
            refine ev_zreturn k60_67 (by decide) ?_
            have hB : ∀ (a : Nat) (b : Int), (a ≠ 24 ∧ a ≠ 25) → I51 a b = I7 a b := (fun a b hf => ((g51 a b (by omega)).trans ((g50 a b (by omega)).trans (f49 a b (by omega)))))
            have em2 : 0 ≤ paM T z ∧ paM T z ≤ 3 := by unfold paM; split <;> omega
            have eM : I51 24 4 = paM T z := ((g51 24 4 (Or.inl (by decide))).trans ((g50 24 4 (Or.inl (by decide))).trans (hM.2.2.2.2)))
            have eP : I51 24 3 = (paG T).1 := ((g51 24 3 (Or.inl (by decide))).trans ((g50 24 3 (Or.inl (by decide))).trans (hM.2.2.2.1)))
            refine hT (by omega) I51 kd7 hI51 eP eM ((g51 25 1 (Or.inr (by decide))).trans (e50)) (e51) ⟨em2, y1.1, c1.2.2, y1.2.2, (hB 29 8 (by decide)).trans y6, (hB 29 6 (by decide)).trans y4, (hB 29 7 (by decide)).trans y2, fun j hj => ?_, fun j hj => ?_⟩ (fun a b hf => ((g51 a b (by omega)).trans ((g50 a b (by omega)).trans ((f49 a b (by omega)).trans ((f7 a b (by omega)).trans ((f6 a b (by omega)).trans ((g5 a b (by omega)).trans ((g4 a b (by omega)).trans ((g3 a b (by omega)).trans ((g2 a b (by omega)).trans (g1 a b (by omega)))))))))))) kf7
            · obtain ⟨t1, t2, t3, t4, t5, t6⟩ := y5 j hj
              have hd5 : dcc (j : Int) = 35 + j := by unfold dcc; omega
              exact ⟨t1, (hB _ _ (by omega)).trans t2, (hB _ _ (by omega)).trans t3, (hB _ _ (by omega)).trans t4, (hB _ _ (by omega)).trans t5, (hB _ _ (by omega)).trans t6⟩
            · obtain ⟨t1, t2, t3, t4⟩ := y3 j hj
              exact ⟨(hB _ _ (by decide)).trans t1, (hB _ _ (by decide)).trans t2, (hB _ _ (by decide)).trans t3, (hB _ _ (by decide)).trans t4⟩
        · have em : paM T z = (paG T).2.1 := if_neg (fun q => q3 q.1)
          have hM : RS I7 T z (paG T).1 (paM T z) := by rw [em]; exact hG
          show Ev d 60 48 [some (vr 24)] [] (SX I7 ch kd7) Q
          refine ev_s1 (L' := [some (vr 24)]) (S' := [vr 24]) k60_48 rfl rfl ?_
          refine ev_getR k60_49 (by decide) (rfl) (x_24_0 ch kd7) ?_
          refine ev_virt (a := []) (S' := []) k60_52 rfl (Nat.le_of_ble_eq_true rfl) (by decide) (rfl) (by omega) ?_
          refine c_clear ln25 (?_)
          have hI54 := rg_up hM.1 (k := 25) (j := 1) (z := 0) (by omega) (by omega)
          generalize hE54 : up I7 25 1 0 = I54 at hI54 ⊢
          have g54 : ∀ (a : Nat) (b : Int), (a ≠ 25 ∨ b ≠ 1) → I54 a b = I7 a b := fun a b h => by rw [← hE54]; exact upN h
          have e54 : I54 25 1 = 0 := by rw [← hE54]; exact upE rfl rfl
          clear hE54
          have hI55 := rg_up hI54 (k := 25) (j := 2) (z := 0) (by omega) (by omega)
          generalize hE55 : up I54 25 2 0 = I55 at hI55 ⊢
          have g55 : ∀ (a : Nat) (b : Int), (a ≠ 25 ∨ b ≠ 2) → I55 a b = I54 a b := fun a b h => by rw [← hE55]; exact upN h
          have e55 : I55 25 2 = 0 := by rw [← hE55]; exact upE rfl rfl
          clear hE55
          show Ev d 60 55 [some (vr 24)] [] (SX I55 ch kd7) Q
          refine ev_s1 (L' := [some (vr 24)]) (S' := [vr 24]) k60_55 rfl rfl ?_
          refine ev_getI k60_56 (by decide) (rfl) ?_
          show Ev d 60 59 [some (vr 24)] [vi (I55 24 4)] (SX I55 ch kd7) Q
          have rr56 := hI55 24 4
          rw [g55 24 4 (Or.inl (by decide)), g54 24 4 (Or.inl (by decide)), hM.2.2.2.2]
          rw [g55 24 4 (Or.inl (by decide)), g54 24 4 (Or.inl (by decide)), hM.2.2.2.2] at rr56
          refine ev_z_ne (t := 66) k60_59 rfl (by omega) (by omega) (fun h57 => ?_) (fun h57 => ?_)
          · refine ev_s1 (L' := [some (vr 24)]) (S' := [vi 0]) k60_66 rfl rfl ?_
            refine ev_zreturn k60_67 (by decide) ?_
            have hB : ∀ (a : Nat) (b : Int), (a ≠ 24 ∧ a ≠ 25) → I55 a b = I7 a b := (fun a b hf => ((g55 a b (by omega)).trans (g54 a b (by omega))))
            have em2 : 0 ≤ paM T z ∧ paM T z ≤ 3 := by unfold paM; split <;> omega
            have eM : I55 24 4 = paM T z := ((g55 24 4 (Or.inl (by decide))).trans ((g54 24 4 (Or.inl (by decide))).trans (hM.2.2.2.2)))
            have eP : I55 24 3 = (paG T).1 := ((g55 24 3 (Or.inl (by decide))).trans ((g54 24 3 (Or.inl (by decide))).trans (hM.2.2.2.1)))
            refine hF (by omega) I55 kd7 hI55 eP eM ((g55 25 1 (Or.inr (by decide))).trans (e54)) (e55) ⟨em2, y1.1, c1.2.2, y1.2.2, (hB 29 8 (by decide)).trans y6, (hB 29 6 (by decide)).trans y4, (hB 29 7 (by decide)).trans y2, fun j hj => ?_, fun j hj => ?_⟩ (fun a b hf => ((g55 a b (by omega)).trans ((g54 a b (by omega)).trans ((f7 a b (by omega)).trans ((f6 a b (by omega)).trans ((g5 a b (by omega)).trans ((g4 a b (by omega)).trans ((g3 a b (by omega)).trans ((g2 a b (by omega)).trans (g1 a b (by omega))))))))))) kf7
            · obtain ⟨t1, t2, t3, t4, t5, t6⟩ := y5 j hj
              have hd5 : dcc (j : Int) = 35 + j := by unfold dcc; omega
              exact ⟨t1, (hB _ _ (by omega)).trans t2, (hB _ _ (by omega)).trans t3, (hB _ _ (by omega)).trans t4, (hB _ _ (by omega)).trans t5, (hB _ _ (by omega)).trans t6⟩
            · obtain ⟨t1, t2, t3, t4⟩ := y3 j hj
              exact ⟨(hB _ _ (by decide)).trans t1, (hB _ _ (by decide)).trans t2, (hB _ _ (by decide)).trans t3, (hB _ _ (by decide)).trans t4⟩
          · refine ev_s1 (L' := [some (vr 24)]) (S' := [vi 1]) k60_62 rfl rfl ?_
            refine ev_goto (t := 67) k60_63 rfl ?_
            refine ev_zreturn k60_67 (by decide) ?_
            have hB : ∀ (a : Nat) (b : Int), (a ≠ 24 ∧ a ≠ 25) → I55 a b = I7 a b := (fun a b hf => ((g55 a b (by omega)).trans (g54 a b (by omega))))
            have em2 : 0 ≤ paM T z ∧ paM T z ≤ 3 := by unfold paM; split <;> omega
            have eM : I55 24 4 = paM T z := ((g55 24 4 (Or.inl (by decide))).trans ((g54 24 4 (Or.inl (by decide))).trans (hM.2.2.2.2)))
            have eP : I55 24 3 = (paG T).1 := ((g55 24 3 (Or.inl (by decide))).trans ((g54 24 3 (Or.inl (by decide))).trans (hM.2.2.2.1)))
            refine hT (by omega) I55 kd7 hI55 eP eM ((g55 25 1 (Or.inr (by decide))).trans (e54)) (e55) ⟨em2, y1.1, c1.2.2, y1.2.2, (hB 29 8 (by decide)).trans y6, (hB 29 6 (by decide)).trans y4, (hB 29 7 (by decide)).trans y2, fun j hj => ?_, fun j hj => ?_⟩ (fun a b hf => ((g55 a b (by omega)).trans ((g54 a b (by omega)).trans ((f7 a b (by omega)).trans ((f6 a b (by omega)).trans ((g5 a b (by omega)).trans ((g4 a b (by omega)).trans ((g3 a b (by omega)).trans ((g2 a b (by omega)).trans (g1 a b (by omega))))))))))) kf7
            · obtain ⟨t1, t2, t3, t4, t5, t6⟩ := y5 j hj
              have hd5 : dcc (j : Int) = 35 + j := by unfold dcc; omega
              exact ⟨t1, (hB _ _ (by omega)).trans t2, (hB _ _ (by omega)).trans t3, (hB _ _ (by omega)).trans t4, (hB _ _ (by omega)).trans t5, (hB _ _ (by omega)).trans t6⟩
            · obtain ⟨t1, t2, t3, t4⟩ := y3 j hj
              exact ⟨(hB _ _ (by decide)).trans t1, (hB _ _ (by decide)).trans t2, (hB _ _ (by decide)).trans t3, (hB _ _ (by decide)).trans t4⟩
    · have eg : paG T = guR T 6 (paC T).1 0 := if_neg (fun q => q q2)
      rw [← eg] at h41 t1 t2 t3 t4 t5 t6 t7 t8
      have hG := h41
      have y1 : (0 ≤ (paG T).1 ∧ (paG T).1 ≤ z) ∧ (0 ≤ (paG T).2.1 ∧ (paG T).2.1 ≤ 3) ∧ (0 ≤ (paG T).2.2 ∧ (paG T).2.2 ≤ 5) := ⟨⟨t1, t2⟩, ⟨t3, t4⟩, t5, t6⟩
      have y2 := t7
      have y3 := t8
      have y4 : I41 29 6 = (paC T).2.2 := (f41 29 6 (by decide)).trans c2
      have y6 : I41 29 8 = lV T := (f41 29 8 (by decide)).trans ((f7 29 8 (by decide)).trans (sl6))
      have y5 : ∀ j : Nat, (j : Int) < (paC T).2.2 → tolC I41 kd7 T (pcs T (lP3 T) j) j := by
        intro j hj
        obtain ⟨t1, t2, t3, t4, t5, t6⟩ := c3 j hj
        have hd5 : dcc (j : Int) = 35 + j := by unfold dcc; omega
        exact ⟨t1, (f41 _ _ (by omega)).trans t2, (f41 _ _ (by omega)).trans t3, (f41 _ _ (by omega)).trans t4, (f41 _ _ (by omega)).trans t5, (f41 _ _ (by omega)).trans t6⟩
      show Ev d 60 29 [some (vr 24)] [] (SX I41 ch kd7) Q
      refine ev_s1 (L' := [some (vr 24)]) (S' := [vr 24]) k60_29 rfl rfl ?_
      refine ev_getI k60_30 (by decide) (rfl) ?_
      show Ev d 60 33 [some (vr 24)] [vi (I41 24 3)] (SX I41 ch kd7) Q
      have rr58 := hG.1 24 3
      rw [hG.2.2.2.1]
      rw [hG.2.2.2.1] at rr58
      refine ev_s1 (L' := [some (vr 24)]) (S' := [vr 24, vi ((paG T).1)]) k60_33 rfl rfl ?_
      refine ev_getR k60_34 (by decide) (rfl) (x_24_0 ch kd7) ?_
      refine ev_getI k60_37 (by decide) (rfl) ?_
      show Ev d 60 40 [some (vr 24)] [vi (I41 25 1), vi ((paG T).1)] (SX I41 ch kd7) Q
      have rr59 := hG.1 25 1
      rw [hG.2.2.1]
      rw [hG.2.2.1] at rr59
      refine ev_c_ge (t := 48) k60_40 rfl (by omega) (by omega) (by omega) (by omega) (fun h60 => ?_) (fun h60 => ?_)
      · have em : paM T z = (paG T).2.1 := if_neg (fun q => by omega)
        have hM : RS I41 T z (paG T).1 (paM T z) := by rw [em]; exact hG
        refine ev_s1 (L' := [some (vr 24)]) (S' := [vr 24]) k60_48 rfl rfl ?_
        refine ev_getR k60_49 (by decide) (rfl) (x_24_0 ch kd7) ?_
        refine ev_virt (a := []) (S' := []) k60_52 rfl (Nat.le_of_ble_eq_true rfl) (by decide) (rfl) (by omega) ?_
        refine c_clear ln25 (?_)
        have hI61 := rg_up hM.1 (k := 25) (j := 1) (z := 0) (by omega) (by omega)
        generalize hE61 : up I41 25 1 0 = I61 at hI61 ⊢
        have g61 : ∀ (a : Nat) (b : Int), (a ≠ 25 ∨ b ≠ 1) → I61 a b = I41 a b := fun a b h => by rw [← hE61]; exact upN h
        have e61 : I61 25 1 = 0 := by rw [← hE61]; exact upE rfl rfl
        clear hE61
        have hI62 := rg_up hI61 (k := 25) (j := 2) (z := 0) (by omega) (by omega)
        generalize hE62 : up I61 25 2 0 = I62 at hI62 ⊢
        have g62 : ∀ (a : Nat) (b : Int), (a ≠ 25 ∨ b ≠ 2) → I62 a b = I61 a b := fun a b h => by rw [← hE62]; exact upN h
        have e62 : I62 25 2 = 0 := by rw [← hE62]; exact upE rfl rfl
        clear hE62
        show Ev d 60 55 [some (vr 24)] [] (SX I62 ch kd7) Q
        refine ev_s1 (L' := [some (vr 24)]) (S' := [vr 24]) k60_55 rfl rfl ?_
        refine ev_getI k60_56 (by decide) (rfl) ?_
        show Ev d 60 59 [some (vr 24)] [vi (I62 24 4)] (SX I62 ch kd7) Q
        have rr63 := hI62 24 4
        rw [g62 24 4 (Or.inl (by decide)), g61 24 4 (Or.inl (by decide)), hM.2.2.2.2]
        rw [g62 24 4 (Or.inl (by decide)), g61 24 4 (Or.inl (by decide)), hM.2.2.2.2] at rr63
        refine ev_z_ne (t := 66) k60_59 rfl (by omega) (by omega) (fun h64 => ?_) (fun h64 => ?_)
        · refine ev_s1 (L' := [some (vr 24)]) (S' := [vi 0]) k60_66 rfl rfl ?_
          refine ev_zreturn k60_67 (by decide) ?_
          have hB : ∀ (a : Nat) (b : Int), (a ≠ 24 ∧ a ≠ 25) → I62 a b = I41 a b := (fun a b hf => ((g62 a b (by omega)).trans (g61 a b (by omega))))
          have em2 : 0 ≤ paM T z ∧ paM T z ≤ 3 := by unfold paM; split <;> omega
          have eM : I62 24 4 = paM T z := ((g62 24 4 (Or.inl (by decide))).trans ((g61 24 4 (Or.inl (by decide))).trans (hM.2.2.2.2)))
          have eP : I62 24 3 = (paG T).1 := ((g62 24 3 (Or.inl (by decide))).trans ((g61 24 3 (Or.inl (by decide))).trans (hM.2.2.2.1)))
          refine hF (by omega) I62 kd7 hI62 eP eM ((g62 25 1 (Or.inr (by decide))).trans (e61)) (e62) ⟨em2, y1.1, c1.2.2, y1.2.2, (hB 29 8 (by decide)).trans y6, (hB 29 6 (by decide)).trans y4, (hB 29 7 (by decide)).trans y2, fun j hj => ?_, fun j hj => ?_⟩ (fun a b hf => ((g62 a b (by omega)).trans ((g61 a b (by omega)).trans ((f41 a b (by omega)).trans ((f7 a b (by omega)).trans ((f6 a b (by omega)).trans ((g5 a b (by omega)).trans ((g4 a b (by omega)).trans ((g3 a b (by omega)).trans ((g2 a b (by omega)).trans (g1 a b (by omega)))))))))))) kf7
          · obtain ⟨t1, t2, t3, t4, t5, t6⟩ := y5 j hj
            have hd5 : dcc (j : Int) = 35 + j := by unfold dcc; omega
            exact ⟨t1, (hB _ _ (by omega)).trans t2, (hB _ _ (by omega)).trans t3, (hB _ _ (by omega)).trans t4, (hB _ _ (by omega)).trans t5, (hB _ _ (by omega)).trans t6⟩
          · obtain ⟨t1, t2, t3, t4⟩ := y3 j hj
            exact ⟨(hB _ _ (by decide)).trans t1, (hB _ _ (by decide)).trans t2, (hB _ _ (by decide)).trans t3, (hB _ _ (by decide)).trans t4⟩
        · refine ev_s1 (L' := [some (vr 24)]) (S' := [vi 1]) k60_62 rfl rfl ?_
          refine ev_goto (t := 67) k60_63 rfl ?_
          refine ev_zreturn k60_67 (by decide) ?_
          have hB : ∀ (a : Nat) (b : Int), (a ≠ 24 ∧ a ≠ 25) → I62 a b = I41 a b := (fun a b hf => ((g62 a b (by omega)).trans (g61 a b (by omega))))
          have em2 : 0 ≤ paM T z ∧ paM T z ≤ 3 := by unfold paM; split <;> omega
          have eM : I62 24 4 = paM T z := ((g62 24 4 (Or.inl (by decide))).trans ((g61 24 4 (Or.inl (by decide))).trans (hM.2.2.2.2)))
          have eP : I62 24 3 = (paG T).1 := ((g62 24 3 (Or.inl (by decide))).trans ((g61 24 3 (Or.inl (by decide))).trans (hM.2.2.2.1)))
          refine hT (by omega) I62 kd7 hI62 eP eM ((g62 25 1 (Or.inr (by decide))).trans (e61)) (e62) ⟨em2, y1.1, c1.2.2, y1.2.2, (hB 29 8 (by decide)).trans y6, (hB 29 6 (by decide)).trans y4, (hB 29 7 (by decide)).trans y2, fun j hj => ?_, fun j hj => ?_⟩ (fun a b hf => ((g62 a b (by omega)).trans ((g61 a b (by omega)).trans ((f41 a b (by omega)).trans ((f7 a b (by omega)).trans ((f6 a b (by omega)).trans ((g5 a b (by omega)).trans ((g4 a b (by omega)).trans ((g3 a b (by omega)).trans ((g2 a b (by omega)).trans (g1 a b (by omega)))))))))))) kf7
          · obtain ⟨t1, t2, t3, t4, t5, t6⟩ := y5 j hj
            have hd5 : dcc (j : Int) = 35 + j := by unfold dcc; omega
            exact ⟨t1, (hB _ _ (by omega)).trans t2, (hB _ _ (by omega)).trans t3, (hB _ _ (by omega)).trans t4, (hB _ _ (by omega)).trans t5, (hB _ _ (by omega)).trans t6⟩
          · obtain ⟨t1, t2, t3, t4⟩ := y3 j hj
            exact ⟨(hB _ _ (by decide)).trans t1, (hB _ _ (by decide)).trans t2, (hB _ _ (by decide)).trans t3, (hB _ _ (by decide)).trans t4⟩
      · refine ev_s1 (L' := [some (vr 24)]) (S' := [vr 24]) k60_43 rfl rfl ?_
        refine ev_s1 (L' := [some (vr 24)]) (S' := [vi 1, vr 24]) k60_44 rfl rfl ?_
        refine ev_virt (a := [vi 1]) (S' := []) k60_45 rfl (Nat.le_of_ble_eq_true rfl) (by decide) (rfl) (by omega) ?_
        refine g_fail hG (b := 1) (by decide) (by decide) (fun q3 I65 h65 f65 => ?_) (fun q3 => ?_)
        · have em : paM T z = 1 := if_pos ⟨q3, by omega⟩
          have hM : RS I65 T z (paG T).1 (paM T z) := by rw [em]; exact h65
          show Ev d 60 48 [some (vr 24)] [] (SX I65 ch kd7) Q
          refine ev_s1 (L' := [some (vr 24)]) (S' := [vr 24]) k60_48 rfl rfl ?_
          refine ev_getR k60_49 (by decide) (rfl) (x_24_0 ch kd7) ?_
          refine ev_virt (a := []) (S' := []) k60_52 rfl (Nat.le_of_ble_eq_true rfl) (by decide) (rfl) (by omega) ?_
          refine c_clear ln25 (?_)
          have hI66 := rg_up hM.1 (k := 25) (j := 1) (z := 0) (by omega) (by omega)
          generalize hE66 : up I65 25 1 0 = I66 at hI66 ⊢
          have g66 : ∀ (a : Nat) (b : Int), (a ≠ 25 ∨ b ≠ 1) → I66 a b = I65 a b := fun a b h => by rw [← hE66]; exact upN h
          have e66 : I66 25 1 = 0 := by rw [← hE66]; exact upE rfl rfl
          clear hE66
          have hI67 := rg_up hI66 (k := 25) (j := 2) (z := 0) (by omega) (by omega)
          generalize hE67 : up I66 25 2 0 = I67 at hI67 ⊢
          have g67 : ∀ (a : Nat) (b : Int), (a ≠ 25 ∨ b ≠ 2) → I67 a b = I66 a b := fun a b h => by rw [← hE67]; exact upN h
          have e67 : I67 25 2 = 0 := by rw [← hE67]; exact upE rfl rfl
          clear hE67
          show Ev d 60 55 [some (vr 24)] [] (SX I67 ch kd7) Q
          refine ev_s1 (L' := [some (vr 24)]) (S' := [vr 24]) k60_55 rfl rfl ?_
          refine ev_getI k60_56 (by decide) (rfl) ?_
          show Ev d 60 59 [some (vr 24)] [vi (I67 24 4)] (SX I67 ch kd7) Q
          have rr68 := hI67 24 4
          rw [g67 24 4 (Or.inl (by decide)), g66 24 4 (Or.inl (by decide)), hM.2.2.2.2]
          rw [g67 24 4 (Or.inl (by decide)), g66 24 4 (Or.inl (by decide)), hM.2.2.2.2] at rr68
          refine ev_z_ne (t := 66) k60_59 rfl (by omega) (by omega) (fun h69 => ?_) (fun h69 => ?_)
          · refine ev_s1 (L' := [some (vr 24)]) (S' := [vi 0]) k60_66 rfl rfl ?_
            refine ev_zreturn k60_67 (by decide) ?_
            have hB : ∀ (a : Nat) (b : Int), (a ≠ 24 ∧ a ≠ 25) → I67 a b = I41 a b := (fun a b hf => ((g67 a b (by omega)).trans ((g66 a b (by omega)).trans (f65 a b (by omega)))))
            have em2 : 0 ≤ paM T z ∧ paM T z ≤ 3 := by unfold paM; split <;> omega
            have eM : I67 24 4 = paM T z := ((g67 24 4 (Or.inl (by decide))).trans ((g66 24 4 (Or.inl (by decide))).trans (hM.2.2.2.2)))
            have eP : I67 24 3 = (paG T).1 := ((g67 24 3 (Or.inl (by decide))).trans ((g66 24 3 (Or.inl (by decide))).trans (hM.2.2.2.1)))
            refine hF (by omega) I67 kd7 hI67 eP eM ((g67 25 1 (Or.inr (by decide))).trans (e66)) (e67) ⟨em2, y1.1, c1.2.2, y1.2.2, (hB 29 8 (by decide)).trans y6, (hB 29 6 (by decide)).trans y4, (hB 29 7 (by decide)).trans y2, fun j hj => ?_, fun j hj => ?_⟩ (fun a b hf => ((g67 a b (by omega)).trans ((g66 a b (by omega)).trans ((f65 a b (by omega)).trans ((f41 a b (by omega)).trans ((f7 a b (by omega)).trans ((f6 a b (by omega)).trans ((g5 a b (by omega)).trans ((g4 a b (by omega)).trans ((g3 a b (by omega)).trans ((g2 a b (by omega)).trans (g1 a b (by omega))))))))))))) kf7
            · obtain ⟨t1, t2, t3, t4, t5, t6⟩ := y5 j hj
              have hd5 : dcc (j : Int) = 35 + j := by unfold dcc; omega
              exact ⟨t1, (hB _ _ (by omega)).trans t2, (hB _ _ (by omega)).trans t3, (hB _ _ (by omega)).trans t4, (hB _ _ (by omega)).trans t5, (hB _ _ (by omega)).trans t6⟩
            · obtain ⟨t1, t2, t3, t4⟩ := y3 j hj
              exact ⟨(hB _ _ (by decide)).trans t1, (hB _ _ (by decide)).trans t2, (hB _ _ (by decide)).trans t3, (hB _ _ (by decide)).trans t4⟩
          · refine ev_s1 (L' := [some (vr 24)]) (S' := [vi 1]) k60_62 rfl rfl ?_
            refine ev_goto (t := 67) k60_63 rfl ?_
            refine ev_zreturn k60_67 (by decide) ?_
            have hB : ∀ (a : Nat) (b : Int), (a ≠ 24 ∧ a ≠ 25) → I67 a b = I41 a b := (fun a b hf => ((g67 a b (by omega)).trans ((g66 a b (by omega)).trans (f65 a b (by omega)))))
            have em2 : 0 ≤ paM T z ∧ paM T z ≤ 3 := by unfold paM; split <;> omega
            have eM : I67 24 4 = paM T z := ((g67 24 4 (Or.inl (by decide))).trans ((g66 24 4 (Or.inl (by decide))).trans (hM.2.2.2.2)))
            have eP : I67 24 3 = (paG T).1 := ((g67 24 3 (Or.inl (by decide))).trans ((g66 24 3 (Or.inl (by decide))).trans (hM.2.2.2.1)))
            refine hT (by omega) I67 kd7 hI67 eP eM ((g67 25 1 (Or.inr (by decide))).trans (e66)) (e67) ⟨em2, y1.1, c1.2.2, y1.2.2, (hB 29 8 (by decide)).trans y6, (hB 29 6 (by decide)).trans y4, (hB 29 7 (by decide)).trans y2, fun j hj => ?_, fun j hj => ?_⟩ (fun a b hf => ((g67 a b (by omega)).trans ((g66 a b (by omega)).trans ((f65 a b (by omega)).trans ((f41 a b (by omega)).trans ((f7 a b (by omega)).trans ((f6 a b (by omega)).trans ((g5 a b (by omega)).trans ((g4 a b (by omega)).trans ((g3 a b (by omega)).trans ((g2 a b (by omega)).trans (g1 a b (by omega))))))))))))) kf7
            · obtain ⟨t1, t2, t3, t4, t5, t6⟩ := y5 j hj
              have hd5 : dcc (j : Int) = 35 + j := by unfold dcc; omega
              exact ⟨t1, (hB _ _ (by omega)).trans t2, (hB _ _ (by omega)).trans t3, (hB _ _ (by omega)).trans t4, (hB _ _ (by omega)).trans t5, (hB _ _ (by omega)).trans t6⟩
            · obtain ⟨t1, t2, t3, t4⟩ := y3 j hj
              exact ⟨(hB _ _ (by decide)).trans t1, (hB _ _ (by decide)).trans t2, (hB _ _ (by decide)).trans t3, (hB _ _ (by decide)).trans t4⟩
        · have em : paM T z = (paG T).2.1 := if_neg (fun q => q3 q.1)
          have hM : RS I41 T z (paG T).1 (paM T z) := by rw [em]; exact hG
          show Ev d 60 48 [some (vr 24)] [] (SX I41 ch kd7) Q
          refine ev_s1 (L' := [some (vr 24)]) (S' := [vr 24]) k60_48 rfl rfl ?_
          refine ev_getR k60_49 (by decide) (rfl) (x_24_0 ch kd7) ?_
          refine ev_virt (a := []) (S' := []) k60_52 rfl (Nat.le_of_ble_eq_true rfl) (by decide) (rfl) (by omega) ?_
          refine c_clear ln25 (?_)
          have hI70 := rg_up hM.1 (k := 25) (j := 1) (z := 0) (by omega) (by omega)
          generalize hE70 : up I41 25 1 0 = I70 at hI70 ⊢
          have g70 : ∀ (a : Nat) (b : Int), (a ≠ 25 ∨ b ≠ 1) → I70 a b = I41 a b := fun a b h => by rw [← hE70]; exact upN h
          have e70 : I70 25 1 = 0 := by rw [← hE70]; exact upE rfl rfl
          clear hE70
          have hI71 := rg_up hI70 (k := 25) (j := 2) (z := 0) (by omega) (by omega)
          generalize hE71 : up I70 25 2 0 = I71 at hI71 ⊢
          have g71 : ∀ (a : Nat) (b : Int), (a ≠ 25 ∨ b ≠ 2) → I71 a b = I70 a b := fun a b h => by rw [← hE71]; exact upN h
          have e71 : I71 25 2 = 0 := by rw [← hE71]; exact upE rfl rfl
          clear hE71
          show Ev d 60 55 [some (vr 24)] [] (SX I71 ch kd7) Q
          refine ev_s1 (L' := [some (vr 24)]) (S' := [vr 24]) k60_55 rfl rfl ?_
          refine ev_getI k60_56 (by decide) (rfl) ?_
          show Ev d 60 59 [some (vr 24)] [vi (I71 24 4)] (SX I71 ch kd7) Q
          have rr72 := hI71 24 4
          rw [g71 24 4 (Or.inl (by decide)), g70 24 4 (Or.inl (by decide)), hM.2.2.2.2]
          rw [g71 24 4 (Or.inl (by decide)), g70 24 4 (Or.inl (by decide)), hM.2.2.2.2] at rr72
          refine ev_z_ne (t := 66) k60_59 rfl (by omega) (by omega) (fun h73 => ?_) (fun h73 => ?_)
          · refine ev_s1 (L' := [some (vr 24)]) (S' := [vi 0]) k60_66 rfl rfl ?_
            refine ev_zreturn k60_67 (by decide) ?_
            have hB : ∀ (a : Nat) (b : Int), (a ≠ 24 ∧ a ≠ 25) → I71 a b = I41 a b := (fun a b hf => ((g71 a b (by omega)).trans (g70 a b (by omega))))
            have em2 : 0 ≤ paM T z ∧ paM T z ≤ 3 := by unfold paM; split <;> omega
            have eM : I71 24 4 = paM T z := ((g71 24 4 (Or.inl (by decide))).trans ((g70 24 4 (Or.inl (by decide))).trans (hM.2.2.2.2)))
            have eP : I71 24 3 = (paG T).1 := ((g71 24 3 (Or.inl (by decide))).trans ((g70 24 3 (Or.inl (by decide))).trans (hM.2.2.2.1)))
            refine hF (by omega) I71 kd7 hI71 eP eM ((g71 25 1 (Or.inr (by decide))).trans (e70)) (e71) ⟨em2, y1.1, c1.2.2, y1.2.2, (hB 29 8 (by decide)).trans y6, (hB 29 6 (by decide)).trans y4, (hB 29 7 (by decide)).trans y2, fun j hj => ?_, fun j hj => ?_⟩ (fun a b hf => ((g71 a b (by omega)).trans ((g70 a b (by omega)).trans ((f41 a b (by omega)).trans ((f7 a b (by omega)).trans ((f6 a b (by omega)).trans ((g5 a b (by omega)).trans ((g4 a b (by omega)).trans ((g3 a b (by omega)).trans ((g2 a b (by omega)).trans (g1 a b (by omega)))))))))))) kf7
            · obtain ⟨t1, t2, t3, t4, t5, t6⟩ := y5 j hj
              have hd5 : dcc (j : Int) = 35 + j := by unfold dcc; omega
              exact ⟨t1, (hB _ _ (by omega)).trans t2, (hB _ _ (by omega)).trans t3, (hB _ _ (by omega)).trans t4, (hB _ _ (by omega)).trans t5, (hB _ _ (by omega)).trans t6⟩
            · obtain ⟨t1, t2, t3, t4⟩ := y3 j hj
              exact ⟨(hB _ _ (by decide)).trans t1, (hB _ _ (by decide)).trans t2, (hB _ _ (by decide)).trans t3, (hB _ _ (by decide)).trans t4⟩
          · refine ev_s1 (L' := [some (vr 24)]) (S' := [vi 1]) k60_62 rfl rfl ?_
            refine ev_goto (t := 67) k60_63 rfl ?_
            refine ev_zreturn k60_67 (by decide) ?_
            have hB : ∀ (a : Nat) (b : Int), (a ≠ 24 ∧ a ≠ 25) → I71 a b = I41 a b := (fun a b hf => ((g71 a b (by omega)).trans (g70 a b (by omega))))
            have em2 : 0 ≤ paM T z ∧ paM T z ≤ 3 := by unfold paM; split <;> omega
            have eM : I71 24 4 = paM T z := ((g71 24 4 (Or.inl (by decide))).trans ((g70 24 4 (Or.inl (by decide))).trans (hM.2.2.2.2)))
            have eP : I71 24 3 = (paG T).1 := ((g71 24 3 (Or.inl (by decide))).trans ((g70 24 3 (Or.inl (by decide))).trans (hM.2.2.2.1)))
            refine hT (by omega) I71 kd7 hI71 eP eM ((g71 25 1 (Or.inr (by decide))).trans (e70)) (e71) ⟨em2, y1.1, c1.2.2, y1.2.2, (hB 29 8 (by decide)).trans y6, (hB 29 6 (by decide)).trans y4, (hB 29 7 (by decide)).trans y2, fun j hj => ?_, fun j hj => ?_⟩ (fun a b hf => ((g71 a b (by omega)).trans ((g70 a b (by omega)).trans ((f41 a b (by omega)).trans ((f7 a b (by omega)).trans ((f6 a b (by omega)).trans ((g5 a b (by omega)).trans ((g4 a b (by omega)).trans ((g3 a b (by omega)).trans ((g2 a b (by omega)).trans (g1 a b (by omega)))))))))))) kf7
            · obtain ⟨t1, t2, t3, t4, t5, t6⟩ := y5 j hj
              have hd5 : dcc (j : Int) = 35 + j := by unfold dcc; omega
              exact ⟨t1, (hB _ _ (by omega)).trans t2, (hB _ _ (by omega)).trans t3, (hB _ _ (by omega)).trans t4, (hB _ _ (by omega)).trans t5, (hB _ _ (by omega)).trans t6⟩
            · obtain ⟨t1, t2, t3, t4⟩ := y3 j hj
              exact ⟨(hB _ _ (by decide)).trans t1, (hB _ _ (by decide)).trans t2, (hB _ _ (by decide)).trans t3, (hB _ _ (by decide)).trans t4⟩
