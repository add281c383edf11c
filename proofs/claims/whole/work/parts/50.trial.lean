/-- a page holds a room: its numbers, its length, its kinds -/
def PGX (I : Nat → Int → Int) (k : Nat) (w : Int → Int) : Prop := PW (I (k + 1)) w ∧ I k 1 = 53 ∧ ∀ c, 0 ≤ c → c < 5 → 1 ≤ I (k + 1) (3 + 6 * c) ∧ I (k + 1) (3 + 6 * c) ≤ 5
def ccN (cc : Int → Nat) (i : Int) : Nat := if 0 ≤ i ∧ i < 5 then cc i else cc 0
theorem ccN_in {cc : Int → Nat} {i : Int} (h0 : 0 ≤ i) (h1 : i < 5) : ccN cc i = cc i := by unfold ccN; rw [if_pos ⟨h0, h1⟩]
theorem ccN_rm {ρ : Nat} {cc ch : Int → Nat} {kd : Nat → Nat} (h : isRm ρ cc ch kd) : isRm ρ (ccN cc) ch kd := by
  refine ⟨h.1, fun i i0 i1 => ?_, fun i j i0 i1 j0 j1 => ?_, fun i i0 i1 => ?_⟩
  · rw [ccN_in i0 i1]; exact h.2.1 i i0 i1
  · rw [ccN_in i0 i1, ccN_in j0 j1]; exact h.2.2.1 i j i0 i1 j0 j1
  · rw [ccN_in i0 i1]; exact h.2.2.2 i i0 i1
theorem ccN_page {I : Nat → Int → Int} {ρ : Nat} {cc : Int → Nat} {kd : Nat → Nat} {b : Int} (h0 : 0 ≤ b) (h1 : b < 53) : pageF I ρ (ccN cc) kd b = pageF I ρ cc kd b := by
  unfold pageF
  by_cases q : b < 33
  · by_cases q3 : b < 3
    · rcases (show b = 0 ∨ b = 1 ∨ b = 2 by omega) with rfl | rfl | rfl <;> rfl
    · rw [ccN_in (by omega) (by omega)]
  · rw [if_neg q, if_neg q]
theorem g_writeTo {d : Nat} {I : Nat → Int → Int} {ch : Int → Nat} {kd : Nat → Nat} {Q : Option jV → jS → Prop} {ρ : Nat} {cc : Int → Nat} {w : Int → Int} (hρ : isRm ρ cc ch kd) (hI : Rg I) {k : Nat} (hd : 2 ≤ d) (hl : isL2 k 53) (hkρ : k + 1 < ρ ∨ ρ + 10 < k) (hK : ∀ i, 0 ≤ i → i < 5 → 8 ≤ kd (cc i) ∧ kd (cc i) ≤ 12) (hR : RW I ρ cc kd w) (h1 : w 1 ≤ 5) (h2 : w 2 ≤ 5) (hQ : ∀ I', Rg I' → PGX I' k w → (∀ (a : Nat) (b : Int), a ≠ k → a ≠ k + 1 → I' a b = I a b) → Q none (SX I' ch kd)) : Cl d 101 [vr ρ, vr k] (SX I ch kd) Q := by
  have hf : fR2 (pageF I ρ (ccN cc) kd) := by
    intro b
    have q8 := hK (((b - 3) / 6)) 
    unfold pageF
    have r6 := hI ρ 6
    have r7 := hI ρ 7
    have r8 := hI ρ 8
    have r9 := hI (ccN cc ((b - 3) / 6)) ((b - 3) % 6)
    have r10 := hI (ρ + 2 + ((b - 33) % 4).toNat) ((b - 33) / 4)
    have rk : kd (ccN cc ((b - 3) / 6)) ≤ 12 := by
      unfold ccN
      split
      · rename_i q
        exact (hK _ q.1 q.2).2
      · exact (hK 0 (by decide) (by decide)).2
    repeat' split
    all_goals omega
  refine c_writeTo (ccN_rm hρ) hI hd hl hkρ (fun i i0 i1 => by rw [ccN_in i0 i1]; exact hK i i0 i1) hf ?_
  have e : ∀ b, 0 ≤ b → b < 53 → wpg I k (pageF I ρ (ccN cc) kd) 53 (k + 1) b = pageF I ρ cc kd b := by
    intro b b0 b1
    rw [← ccN_page b0 b1]
    unfold wpg
    rw [if_pos ⟨rfl, b0, b1⟩]
  refine hQ _ (wpg_rg hI hf (by decide) (by decide)) ⟨hR.page h1 h2 e, wpg_1, fun c c0 c1 => ?_⟩ (fun a b q q2 => wpg_o q q2)
  rw [e _ (by omega) (by omega), page_k c0 c1]
  have := hK c c0 c1
  omega
theorem kdL_in {ρ : Nat} {cc ch : Int → Nat} {kd : Nat → Nat} {P : Int → Int} (hρ : isRm ρ cc ch kd) (hP : ∀ c, 0 ≤ c → c < 5 → 1 ≤ P (3 + 6 * c) ∧ P (3 + 6 * c) ≤ 5) : ∀ n : Nat, n ≤ 5 → ∀ c : Int, 0 ≤ c → c < n → kdL kd cc P n (cc c) = 7 + (P (3 + 6 * c)).toNat := by
  intro n
  induction n with
  | zero => intro _ c c0 c1; exfalso; omega
  | succ n ih =>
    intro hn c c0 c1
    have hp := hP (n : Int) (by omega) (by omega)
    rw [kdL, kdR, if_pos hp]
    unfold kdU
    by_cases q : c = (n : Int)
    · rw [if_pos (by rw [q]), q]
    · rw [if_neg (fun e => q (hρ.2.2.1 c n c0 (by omega) (by omega) (by omega) e))]
      exact ih (by omega) c c0 (by omega)
theorem kdL_out {ρ : Nat} {cc ch : Int → Nat} {kd : Nat → Nat} {P : Int → Int} (hρ : isRm ρ cc ch kd) {a : Nat} (ha : a < ρ + 6 ∨ ρ + 10 < a) : ∀ n : Nat, n ≤ 5 → kdL kd cc P n a = kd a := by
  intro n
  induction n with
  | zero => intro _; rfl
  | succ n ih =>
    intro hn
    have hb := hρ.2.2.2 (n : Int) (by omega) (by omega)
    rw [kdL, kdR]
    split
    · unfold kdU
      rw [if_neg (by omega)]
      exact ih (by omega)
    · exact ih (by omega)
theorem g_readFrom {d : Nat} {I : Nat → Int → Int} {ch : Int → Nat} {kd : Nat → Nat} {Q : Option jV → jS → Prop} {ρ : Nat} {cc : Int → Nat} {w : Int → Int} (hρ : isRm ρ cc ch kd) (hI : Rg I) {k : Nat} (hd : 2 ≤ d) (hl : isL2 k 53) (hkρ : k + 1 < ρ ∨ ρ + 10 < k) (hP : PGX I k w) (h1 : w 1 ≤ 5) (h2 : w 2 ≤ 5) (hQ : ∀ I' kd', Rg I' → RW I' ρ cc kd' w → (∀ i, 0 ≤ i → i < 5 → 8 ≤ kd' (cc i) ∧ kd' (cc i) ≤ 12) → (∀ (a : Nat) (b : Int), (a < ρ ∨ ρ + 10 < a) → (a ≠ k ∨ b ≠ 2) → I' a b = I a b) → (∀ a, (a < ρ + 6 ∨ ρ + 10 < a) → kd' a = kd a) → Q none (SX I' ch kd')) : Cl d 102 [vr ρ, vr k] (SX I ch kd) Q := by
  obtain ⟨p1, p2, p3⟩ := hP
  refine c_readFrom hρ hI hd hl hkρ p2 ?_
  have hk5 := kdL_in (kd := kd) (P := fun b => I (k + 1) b) hρ p3 5 (by decide)
  refine hQ _ _ (rds_rg hI (by decide) (by decide)) (p1.room h1 h2 (fun b b0 b1 => ?_)) (fun i i0 i1 => ?_) (fun a b q q2 => ?_) (fun a q => kdL_out hρ q 5 (by decide))
  · by_cases b3 : b < 3
    · have e : ∀ x : Int, 6 ≤ x → x ≤ 8 → rds I ρ cc k 53 ρ x = I (k + 1) (x - 6) := by
        intro x x0 x1
        rw [rds_in (by omega) (Or.inl ⟨rfl, x0, x1⟩) (by rw [pos_r]; omega), pos_r]
      rcases (show b = 0 ∨ b = 1 ∨ b = 2 by omega) with rfl | rfl | rfl
      · exact e 6 (by decide) (by decide)
      · exact e 7 (by decide) (by decide)
      · exact e 8 (by decide) (by decide)
    · by_cases b33 : b < 33
      · have i0 : 0 ≤ (b - 3) / 6 := by omega
        have i1 : (b - 3) / 6 < 5 := by omega
        by_cases r0 : (b - 3) % 6 = 0
        · have eb : b = 3 + 6 * ((b - 3) / 6) := by omega
          rw [eb]
          generalize (b - 3) / 6 = c at i0 i1
          rw [page_k i0 i1, hk5 c i0 i1]
          have := p3 c i0 i1
          omega
        · have eb : b = 3 + 6 * ((b - 3) / 6) + (b - 3) % 6 := by omega
          have r1 : 1 ≤ (b - 3) % 6 := by omega
          have r6 : (b - 3) % 6 < 6 := by omega
          rw [eb]
          generalize (b - 3) / 6 = c at i0 i1
          generalize (b - 3) % 6 = r at r1 r6
          have hb := hρ.2.2.2 c i0 i1
          rw [page_c i0 i1 r1 r6, rds_in (by omega) (Or.inr (Or.inr ⟨(inv_c hρ i0 i1).2, r1, by omega⟩)) (by rw [pos_c hρ i0 i1]; omega), pos_c hρ i0 i1]
      · have eb : b = 33 + 4 * ((b - 33) / 4) + (((b - 33) % 4).toNat : Int) := by omega
        have i0 : 0 ≤ (b - 33) / 4 := by omega
        have i1 : (b - 33) / 4 < 5 := by omega
        have r4 : ((b - 33) % 4).toNat < 4 := by omega
        rw [eb]
        generalize (b - 33) / 4 = c at i0 i1
        generalize ((b - 33) % 4).toNat = r at r4
        rw [page_g i0 i1 r4, rds_in (by omega) (Or.inr (Or.inl ⟨by omega, by omega, i0, i1⟩)) (by rw [pos_g r4]; omega), pos_g r4]
  · rw [hk5 i i0 i1]
    have := p3 i i0 i1
    omega
  · exact rds_o (by omega) (no_P hρ q)
def tcc (i : Int) : Nat := 51 + i.toNat
theorem rm45 (ch : Int → Nat) (kd : Nat → Nat) : isRm 45 tcc ch kd := by
  refine ⟨Or.inr (Or.inr rfl), fun i h0 h1 => ⟨?_, ?_⟩, fun i j h0 h1 h2 h3 e => ?_, fun i h0 h1 => ?_⟩
  · simp [rX, isCh, isLn, h0, h1, tcc]
  · unfold tcc
    rcases (show i = 0 ∨ i = 1 ∨ i = 2 ∨ i = 3 ∨ i = 4 by omega) with rfl | rfl | rfl | rfl | rfl <;> rfl
  · unfold tcc at e; omega
  · unfold tcc; omega
theorem ln41 : isL2 41 53 := ⟨by decide, rfl, rfl, by decide, fun _ _ => rfl⟩
/-- the room that is tried is as v tells -/
def TRX (I : Nat → Int → Int) (kd : Nat → Nat) (v : Int → Int) : Prop := RW I 45 tcc kd v ∧ OKW v ∧ ∀ i, 0 ≤ i → i < 5 → 8 ≤ kd (tcc i) ∧ kd (tcc i) ≤ 12

set_option maxHeartbeats 1000000 in
theorem g_trial {d : Nat} {I : Nat → Int → Int} {ch : Int → Nat} {kd : Nat → Nat} {Q : Option jV → jS → Prop} {w : Int → Int} (hN : NOWX I ch kd w) (hI : Rg I) (hd : 3 ≤ d) (hQ : ∀ I' kd', FSx I I' kd kd' → TRX I' kd' w → Q none (SX I' ch kd')) : Cl d 18 [vr 40] (SX I ch kd) Q := by
  obtain ⟨⟨wa0, wa1⟩, ⟨wb0, wb1⟩, ⟨wc0, wc1⟩, wC, wG, wU⟩ := hN.2.2.1
  refine ⟨by rw [l18]; exact Nat.le_of_ble_eq_true rfl, ?_⟩
  rw [l18]
  show Ev d 18 0 [some (vr 40)] [] (SX I ch kd) Q
  refine ev_s1 (L' := [some (vr 40)]) (S' := [vr 40]) k18_0 rfl rfl ?_
  refine ev_getR k18_1 (by decide) (rfl) (x_40_0 ch kd) ?_
  refine ev_s1 (L' := [some (vr 40)]) (S' := [vr 40, vr 13]) k18_4 rfl rfl ?_
  refine ev_getR k18_5 (by decide) (rfl) (x_40_4 ch kd) ?_
  refine ev_virt (a := [vr 41]) (S' := []) k18_8 rfl (Nat.le_of_ble_eq_true rfl) (by decide) (rfl) (by omega) ?_
  refine g_writeTo hN.1 hI (by omega) ln41 (by omega) hN.2.2.2 hN.2.1 (by omega) (by omega) (fun I1 hI1 p1 f1 => ?_)
  have fx1 : FSx I I1 kd kd := ⟨hI1, fun a b q => f1 a b (by omega) (by omega), fun _ _ => rfl⟩
  have hN1 := hN.fs fx1
  have F1 := fx1
  show Ev d 18 11 [some (vr 40)] [] (SX I1 ch kd) Q
  refine ev_s1 (L' := [some (vr 40)]) (S' := [vr 40]) k18_11 rfl rfl ?_
  refine ev_getR k18_12 (by decide) (rfl) (x_40_1 ch kd) ?_
  refine ev_s1 (L' := [some (vr 40)]) (S' := [vr 40, vr 45]) k18_15 rfl rfl ?_
  refine ev_getR k18_16 (by decide) (rfl) (x_40_4 ch kd) ?_
  refine ev_virt (a := [vr 41]) (S' := []) k18_19 rfl (Nat.le_of_ble_eq_true rfl) (by decide) (rfl) (by omega) ?_
  refine g_readFrom (rm45 _ _) hI1 (by omega) ln41 (by omega) p1 (by omega) (by omega) (fun I2 kd2 hI2 r2 kk2 f2 k2 => ?_)
  have fx2 : FSx I1 I2 kd kd2 := ⟨hI2, fun a b q => f2 a b (by omega) (by omega), fun a q => k2 a (by omega)⟩
  have hN2 := hN1.fs fx2
  have F2 := F1.trans fx2
  have t2 : TRX I2 kd2 w := ⟨r2, hN1.2.2.1, kk2⟩
  show Ev d 18 22 [some (vr 40)] [] (SX I2 ch kd2) Q
  refine ev_return k18_22 ?_
  exact hQ _ _ F2 t2
