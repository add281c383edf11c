def wtW (s t : Int) : Nat → Int
  | 0 => 1
  | i + 1 => wtW s t i * (if bitB s (i : Int) then t else 10 - t)
theorem wt_rng {s t : Int} (t0 : 0 ≤ t) (t1 : t ≤ 10) : ∀ i : Nat, 0 ≤ wtW s t i ∧ wtW s t i ≤ pwW 10 i := by
  intro i
  induction i with
  | zero => exact ⟨(show (0 : Int) ≤ 1 by decide), (show (1 : Int) ≤ 1 by decide)⟩
  | succ i ih =>
    rw [wtW, pwW]
    have h : 0 ≤ (if bitB s (i : Int) = true then t else 10 - t) ∧ (if bitB s (i : Int) = true then t else 10 - t) ≤ 10 := by split <;> omega
    generalize (if bitB s (i : Int) = true then t else 10 - t) = x at h
    exact ⟨Int.mul_nonneg ih.1 h.1, Int.mul_le_mul ih.2 h.2 h.1 (Int.le_trans ih.1 ih.2)⟩
theorem pw10_rng : ∀ i : Nat, i ≤ 5 → 1 ≤ pwW 10 i ∧ pwW 10 i ≤ 100000 := by
  intro i hi
  rcases (show i = 0 ∨ i = 1 ∨ i = 2 ∨ i = 3 ∨ i = 4 ∨ i = 5 by omega) with rfl | rfl | rfl | rfl | rfl | rfl <;> decide
def setN (w : Int → Int) : Nat := 2 ^ (w 1).toNat
theorem setN_le {w : Int → Int} (h : w 1 ≤ 5) : setN w ≤ 32 := by
  unfold setN
  exact Nat.pow_le_pow_right (n := 2) (by decide) (show (w 1).toNat ≤ 5 by omega)
theorem shl_setN {w : Int → Int} : (1 : Int) * 2 ^ Int.toNat (w 1) = (setN w : Int) := by
  unfold setN
  rw [Int.one_mul]
  exact (Int.natCast_pow 2 _).symm
def gcdW (a b : Int) : Int := ((Nat.gcd a.toNat b.toNat : Nat) : Int)
def aboW (w : Int → Int) (q t : Int) : Int := sumF (fun s => if q ≤ rpW w s then wtW s t (w 1).toNat else 0) (setN w)
def chaW (w : Int → Int) (q t x : Int) : Int := (if x = 0 then aboW w q t else pwW 10 (w 1).toNat) / gcdW (pwW 10 (w 1).toNat) (aboW w q t)
theorem abo_rng {w : Int → Int} {q t : Int} (h5 : w 1 ≤ 5) (t0 : 0 ≤ t) (t1 : t ≤ 10) (n : Nat) : 0 ≤ sumF (fun s => if q ≤ rpW w s then wtW s t (w 1).toNat else 0) n ∧ sumF (fun s => if q ≤ rpW w s then wtW s t (w 1).toNat else 0) n ≤ 100000 * n := by
  have h := sum_rng (f := fun s => if q ≤ rpW w s then wtW s t (w 1).toNat else 0) (lo := 0) (hi := 100000) n (fun i _ => by
    have a := wt_rng (s := (i : Int)) t0 t1 (w 1).toNat
    have b := pw10_rng (w 1).toNat (by omega)
    split <;> omega)
  omega

set_option maxHeartbeats 1000000 in
theorem l_weight {d : Nat} {I : Nat → Int → Int} {ch : Int → Nat} {kd : Nat → Nat} {Q : Option jV → jS → Prop} {w : Int → Int} (hN : NOWX I ch kd w) (hI : Rg I) {s t : Int} (s0 : 0 ≤ s) (s1 : s < 2147483648) (t0 : 0 ≤ t) (t1 : t ≤ 10) (hQ : Q (some (vi (wtW s t (w 1).toNat))) (SX I ch kd)) : ∀ (n i : Nat) (z : Int), w 1 - i < n → (i : Int) ≤ w 1 → z = wtW s t i → Ev d 38 5 [some (vr 40), some (vi s), some (vi t), some (vi z), some (vi (i : Int))] [] (SX I ch kd) Q := by
  obtain ⟨⟨wa0, wa1⟩, ⟨wb0, wb1⟩, ⟨wc0, wc1⟩, wC, wG, wU⟩ := hN.2.2.1
  intro n
  induction n with
  | zero => intro i z h1 h2; exfalso; omega
  | succ n ih =>
    intro i z hn hi hz
    refine ev_s1 (L' := [some (vr 40), some (vi s), some (vi t), some (vi z), some (vi (i : Int))]) (S' := [vi (i : Int)]) k38_5 rfl rfl ?_
    refine ev_s1 (L' := [some (vr 40), some (vi s), some (vi t), some (vi z), some (vi (i : Int))]) (S' := [vr 40, vi (i : Int)]) k38_7 rfl rfl ?_
    refine ev_getR k38_8 (by decide) (rfl) (x_40_0 ch kd) ?_
    refine ev_getI k38_11 (by decide) (rfl) ?_
    show Ev d 38 14 [some (vr 40), some (vi s), some (vi t), some (vi z), some (vi (i : Int))] [vi (I 13 6), vi (i : Int)] (SX I ch kd) Q
    have rr1 := hI 13 6
    rw [hN.2.1.1]
    rw [hN.2.1.1] at rr1
    refine ev_c_ge (t := 44) k38_14 rfl (by omega) (by omega) (by omega) (by omega) (fun h2 => ?_) (fun h2 => ?_)
    · refine ev_s1 (L' := [some (vr 40), some (vi s), some (vi t), some (vi z), some (vi (i : Int))]) (S' := [vi z]) k38_44 rfl rfl ?_
      refine ev_ireturn k38_45 ?_
      rw [show (w 1).toNat = i by omega, ← hz] at hQ
      exact hQ
    · refine ev_s1 (L' := [some (vr 40), some (vi s), some (vi t), some (vi z), some (vi (i : Int))]) (S' := [vi z]) k38_17 rfl rfl ?_
      refine ev_s1 (L' := [some (vr 40), some (vi s), some (vi t), some (vi z), some (vi (i : Int))]) (S' := [vi s, vi z]) k38_18 rfl rfl ?_
      refine ev_s1 (L' := [some (vr 40), some (vi s), some (vi t), some (vi z), some (vi (i : Int))]) (S' := [vi (i : Int), vi s, vi z]) k38_19 rfl rfl ?_
      refine ev_ishr k38_21 (by omega) (by omega) ?_
      refine ev_s1 (L' := [some (vr 40), some (vi s), some (vi t), some (vi z), some (vi (i : Int))]) (S' := [vi 1, vi (wr s / 2 ^ Int.toNat (i : Int)), vi z]) k38_22 rfl rfl ?_
      refine ev_iand1 k38_23 ?_
      refine ev_s1 (L' := [some (vr 40), some (vi s), some (vi t), some (vi z), some (vi (i : Int))]) (S' := [vi 1, vi ((wr s / 2 ^ Int.toNat (i : Int)) % 2), vi z]) k38_24 rfl rfl ?_
      refine ev_c_ne (t := 32) k38_25 rfl (by omega) (by omega) (by omega) (by omega) (fun h3 => ?_) (fun h3 => ?_)
      · refine ev_s1 (L' := [some (vr 40), some (vi s), some (vi t), some (vi z), some (vi (i : Int))]) (S' := [vi 10, vi z]) k38_32 rfl rfl ?_
        refine ev_s1 (L' := [some (vr 40), some (vi s), some (vi t), some (vi z), some (vi (i : Int))]) (S' := [vi t, vi 10, vi z]) k38_34 rfl rfl ?_
        refine ev_s1 (L' := [some (vr 40), some (vi s), some (vi t), some (vi z), some (vi (i : Int))]) (S' := [vi (10 - t), vi z]) k38_35 rfl rfl ?_
        refine ev_s1 (L' := [some (vr 40), some (vi s), some (vi t), some (vi z), some (vi (i : Int))]) (S' := [vi (z * (10 - t))]) k38_36 rfl rfl ?_
        refine ev_s1 (L' := [some (vr 40), some (vi s), some (vi t), some (vi (z * (10 - t))), some (vi (i : Int))]) (S' := []) k38_37 rfl rfl ?_
        refine ev_s1 (L' := [some (vr 40), some (vi s), some (vi t), some (vi (z * (10 - t))), some (vi ((i : Int) + 1))]) (S' := []) k38_38 rfl rfl ?_
        refine ev_goto (t := 5) k38_41 rfl ?_
        exact ih (i + 1) _ (by omega) (by omega) (by rw [hz, wtW, if_neg (show ¬ bitB s (i : Int) = true by unfold bitB; simp only [decide_eq_true_eq]; omega)])
      · refine ev_s1 (L' := [some (vr 40), some (vi s), some (vi t), some (vi z), some (vi (i : Int))]) (S' := [vi t, vi z]) k38_28 rfl rfl ?_
        refine ev_goto (t := 36) k38_29 rfl ?_
        refine ev_s1 (L' := [some (vr 40), some (vi s), some (vi t), some (vi z), some (vi (i : Int))]) (S' := [vi (z * t)]) k38_36 rfl rfl ?_
        refine ev_s1 (L' := [some (vr 40), some (vi s), some (vi t), some (vi (z * t)), some (vi (i : Int))]) (S' := []) k38_37 rfl rfl ?_
        refine ev_s1 (L' := [some (vr 40), some (vi s), some (vi t), some (vi (z * t)), some (vi ((i : Int) + 1))]) (S' := []) k38_38 rfl rfl ?_
        refine ev_goto (t := 5) k38_41 rfl ?_
        exact ih (i + 1) _ (by omega) (by omega) (by rw [hz, wtW, if_pos (show bitB s (i : Int) = true by unfold bitB; simp only [decide_eq_true_eq]; omega)])

set_option maxHeartbeats 1000000 in
theorem g_weight {d : Nat} {I : Nat → Int → Int} {ch : Int → Nat} {kd : Nat → Nat} {Q : Option jV → jS → Prop} {w : Int → Int} (hN : NOWX I ch kd w) (hI : Rg I) {s t : Int} (s0 : 0 ≤ s) (s1 : s < 2147483648) (t0 : 0 ≤ t) (t1 : t ≤ 10) (hQ : Q (some (vi (wtW s t (w 1).toNat))) (SX I ch kd)) : Cl d 38 [vr 40, vi s, vi t] (SX I ch kd) Q := by
  obtain ⟨⟨wa0, wa1⟩, ⟨wb0, wb1⟩, ⟨wc0, wc1⟩, wC, wG, wU⟩ := hN.2.2.1
  refine ⟨by rw [l38]; exact Nat.le_of_ble_eq_true rfl, ?_⟩
  rw [l38]
  show Ev d 38 0 [some (vr 40), some (vi s), some (vi t), none, none] [] (SX I ch kd) Q
  refine ev_s1 (L' := [some (vr 40), some (vi s), some (vi t), none, none]) (S' := [vi 1]) k38_0 rfl rfl ?_
  refine ev_s1 (L' := [some (vr 40), some (vi s), some (vi t), some (vi 1), none]) (S' := []) k38_1 rfl rfl ?_
  refine ev_s1 (L' := [some (vr 40), some (vi s), some (vi t), some (vi 1), none]) (S' := [vi 0]) k38_2 rfl rfl ?_
  refine ev_s1 (L' := [some (vr 40), some (vi s), some (vi t), some (vi 1), some (vi 0)]) (S' := []) k38_3 rfl rfl ?_
  exact l_weight hN hI s0 s1 t0 t1 hQ 6 0 1 (by omega) (by omega) rfl

theorem gcd_step {o r : Nat} : Nat.gcd o r = Nat.gcd r (o % r) := by rw [Nat.gcd_comm o r, Nat.gcd_rec r o, Nat.gcd_comm]
theorem half_mod {o r : Nat} (h : r ≤ o) (hr : 0 < r) : 2 * (o % r) ≤ o := by
  have h1 := Nat.mod_lt o hr
  have h2 := Nat.div_add_mod o r
  have h3 : 1 ≤ o / r := (Nat.le_div_iff_mul_le hr).mpr (by omega)
  have h4 : r * 1 ≤ r * (o / r) := Nat.mul_le_mul_left r h3
  omega
/-- how many steps are left -/
def gst (f o r : Nat) : Prop := (r ≤ o → o * r < 2 ^ f) ∧ (o < r → 2 * (o * r) < 2 ^ f)
theorem gst_z {o r : Nat} (ho : 1 ≤ o) (h : gst 0 o r) : r = 0 := by
  rcases Nat.lt_or_ge o r with q | q
  · have := h.2 q
    have h2 : 1 ≤ o * r := Nat.mul_le_mul ho (show 1 ≤ r by omega)
    omega
  · have := h.1 q
    have h2 : r ≤ o * r := Nat.le_mul_of_pos_left r ho
    omega
theorem gst_s {f o r : Nat} (hr : 0 < r) (h : gst (f + 1) o r) : gst f r (o % r) := by
  have h1 := Nat.mod_lt o hr
  have e : 2 ^ (f + 1) = 2 ^ f * 2 := Nat.pow_succ 2 f
  refine ⟨fun _ => ?_, fun q => absurd q (by omega)⟩
  rcases Nat.lt_or_ge o r with q | q
  · have := h.2 q
    rw [Nat.mod_eq_of_lt q, Nat.mul_comm]
    omega
  · have := h.1 q
    have h2 := Nat.mul_le_mul_right r (half_mod q hr)
    rw [Nat.mul_assoc, Nat.mul_comm (o % r) r] at h2
    omega

set_option maxHeartbeats 1000000 in
theorem l_gcd {d : Nat} {I : Nat → Int → Int} {ch : Int → Nat} {kd : Nat → Nat} {Q : Option jV → jS → Prop} {a b : Int} {gg : Nat} (hQ : Q (some (vi (gg : Int))) (SX I ch kd)) : ∀ (n i o r : Nat) (x : Option jV), i + n ≤ 60 → 1 ≤ o → o < 2147483648 → gst n o r → Nat.gcd o r = gg → r < 2147483648 → True → Ev d 39 11 [some (vi a), some (vi b), some (vi (o : Int)), some (vi (r : Int)), some (vi (i : Int)), x] [] (SX I ch kd) Q := by
  intro n
  induction n with
  | zero =>
    intro i o r x hi ho h31 hg hz hr31 _
    have r0 := gst_z ho hg
    refine ev_s1 (L' := [some (vi a), some (vi b), some (vi (o : Int)), some (vi (r : Int)), some (vi (i : Int)), x]) (S' := [vi (i : Int)]) k39_11 rfl rfl ?_
    refine ev_s1 (L' := [some (vi a), some (vi b), some (vi (o : Int)), some (vi (r : Int)), some (vi (i : Int)), x]) (S' := [vi 100, vi (i : Int)]) k39_13 rfl rfl ?_
    refine ev_c_ge (t := 38) k39_15 rfl (by omega) (by omega) (by omega) (by omega) (fun h1 => ?_) (fun h1 => ?_)
    · refine ev_s1 (L' := [some (vi a), some (vi b), some (vi (o : Int)), some (vi (r : Int)), some (vi (i : Int)), x]) (S' := [vi (o : Int)]) k39_38 rfl rfl ?_
      refine ev_ireturn k39_39 ?_
      rw [← hz, r0, Nat.gcd_zero_right] at hQ
      exact hQ
    · refine ev_s1 (L' := [some (vi a), some (vi b), some (vi (o : Int)), some (vi (r : Int)), some (vi (i : Int)), x]) (S' := [vi (r : Int)]) k39_18 rfl rfl ?_
      refine ev_z_le (t := 38) k39_19 rfl (by omega) (by omega) (fun h2 => ?_) (fun h2 => ?_)
      · refine ev_s1 (L' := [some (vi a), some (vi b), some (vi (o : Int)), some (vi (r : Int)), some (vi (i : Int)), x]) (S' := [vi (o : Int)]) k39_38 rfl rfl ?_
        refine ev_ireturn k39_39 ?_
        rw [← hz, r0, Nat.gcd_zero_right] at hQ
        exact hQ
      · exfalso; omega
  | succ n ih =>
    intro i o r x hi ho h31 hg hz hr31 _
    refine ev_s1 (L' := [some (vi a), some (vi b), some (vi (o : Int)), some (vi (r : Int)), some (vi (i : Int)), x]) (S' := [vi (i : Int)]) k39_11 rfl rfl ?_
    refine ev_s1 (L' := [some (vi a), some (vi b), some (vi (o : Int)), some (vi (r : Int)), some (vi (i : Int)), x]) (S' := [vi 100, vi (i : Int)]) k39_13 rfl rfl ?_
    refine ev_c_ge (t := 38) k39_15 rfl (by omega) (by omega) (by omega) (by omega) (fun h1 => ?_) (fun h1 => ?_)
    · exfalso; omega
    · refine ev_s1 (L' := [some (vi a), some (vi b), some (vi (o : Int)), some (vi (r : Int)), some (vi (i : Int)), x]) (S' := [vi (r : Int)]) k39_18 rfl rfl ?_
      refine ev_z_le (t := 38) k39_19 rfl (by omega) (by omega) (fun h2 => ?_) (fun h2 => ?_)
      · refine ev_s1 (L' := [some (vi a), some (vi b), some (vi (o : Int)), some (vi (r : Int)), some (vi (i : Int)), x]) (S' := [vi (o : Int)]) k39_38 rfl rfl ?_
        refine ev_ireturn k39_39 ?_
        have r0 : r = 0 := by omega
        rw [← hz, r0, Nat.gcd_zero_right] at hQ
        exact hQ
      · refine ev_s1 (L' := [some (vi a), some (vi b), some (vi (o : Int)), some (vi (r : Int)), some (vi (i : Int)), x]) (S' := [vi (o : Int)]) k39_22 rfl rfl ?_
        refine ev_s1 (L' := [some (vi a), some (vi b), some (vi (o : Int)), some (vi (r : Int)), some (vi (i : Int)), x]) (S' := [vi (r : Int), vi (o : Int)]) k39_23 rfl rfl ?_
        refine ev_irem k39_24 (by omega) (by omega) (by omega) (by omega) ?_
        refine ev_s1 (L' := [some (vi a), some (vi b), some (vi (o : Int)), some (vi (r : Int)), some (vi (i : Int)), some (vi ((o : Int) % (r : Int)))]) (S' := []) k39_25 rfl rfl ?_
        refine ev_s1 (L' := [some (vi a), some (vi b), some (vi (o : Int)), some (vi (r : Int)), some (vi (i : Int)), some (vi ((o : Int) % (r : Int)))]) (S' := [vi (r : Int)]) k39_27 rfl rfl ?_
        refine ev_s1 (L' := [some (vi a), some (vi b), some (vi (r : Int)), some (vi (r : Int)), some (vi (i : Int)), some (vi ((o : Int) % (r : Int)))]) (S' := []) k39_28 rfl rfl ?_
        refine ev_s1 (L' := [some (vi a), some (vi b), some (vi (r : Int)), some (vi (r : Int)), some (vi (i : Int)), some (vi ((o : Int) % (r : Int)))]) (S' := [vi ((o : Int) % (r : Int))]) k39_29 rfl rfl ?_
        refine ev_s1 (L' := [some (vi a), some (vi b), some (vi (r : Int)), some (vi ((o : Int) % (r : Int))), some (vi (i : Int)), some (vi ((o : Int) % (r : Int)))]) (S' := []) k39_31 rfl rfl ?_
        refine ev_s1 (L' := [some (vi a), some (vi b), some (vi (r : Int)), some (vi ((o : Int) % (r : Int))), some (vi ((i : Int) + 1)), some (vi ((o : Int) % (r : Int)))]) (S' := []) k39_32 rfl rfl ?_
        refine ev_goto (t := 11) k39_35 rfl ?_
        rw [show (o : Int) % (r : Int) = ((o % r : Nat) : Int) from rfl]
        exact ih (i + 1) r (o % r) _ (by omega) (by omega) (by omega) (gst_s (by omega) hg) (by rw [← hz]; exact gcd_step.symm) (by have := Nat.mod_lt o (show 0 < r by omega); omega) trivial

set_option maxHeartbeats 1000000 in
theorem g_gcd {d : Nat} {I : Nat → Int → Int} {ch : Int → Nat} {kd : Nat → Nat} {Q : Option jV → jS → Prop} {a b : Int} (a1 : 1 ≤ a) (a2 : a ≤ 100000) (b0 : 0 ≤ b) (b2 : b ≤ 3200000) (hQ : Q (some (vi (gcdW a b))) (SX I ch kd)) : Cl d 39 [vi a, vi b] (SX I ch kd) Q := by
  refine ⟨by rw [l39]; exact Nat.le_of_ble_eq_true rfl, ?_⟩
  rw [l39]
  show Ev d 39 0 [some (vi a), some (vi b), none, none, none, none] [] (SX I ch kd) Q
  refine ev_s1 (L' := [some (vi a), some (vi b), none, none, none, none]) (S' := [vi a]) k39_0 rfl rfl ?_
  refine ev_s1 (L' := [some (vi a), some (vi b), none, none, none, none]) (S' := [vi 1, vi a]) k39_1 rfl rfl ?_
  refine ev_max k39_2 (inB_iff.mpr (by omega)) (inB_iff.mpr (by omega)) (Nat.le_of_ble_eq_true rfl) ?_
  rw [if_neg (show ¬ a < 1 by omega)]
  refine ev_s1 (L' := [some (vi a), some (vi b), some (vi a), none, none, none]) (S' := []) k39_5 rfl rfl ?_
  refine ev_s1 (L' := [some (vi a), some (vi b), some (vi a), none, none, none]) (S' := [vi b]) k39_6 rfl rfl ?_
  refine ev_s1 (L' := [some (vi a), some (vi b), some (vi a), some (vi b), none, none]) (S' := []) k39_7 rfl rfl ?_
  refine ev_s1 (L' := [some (vi a), some (vi b), some (vi a), some (vi b), none, none]) (S' := [vi 0]) k39_8 rfl rfl ?_
  refine ev_s1 (L' := [some (vi a), some (vi b), some (vi a), some (vi b), some (vi 0), none]) (S' := []) k39_9 rfl rfl ?_
  obtain ⟨x, rfl⟩ : ∃ x : Nat, a = (x : Int) := ⟨a.toNat, by omega⟩
  obtain ⟨y, rfl⟩ : ∃ y : Nat, b = (y : Int) := ⟨b.toNat, by omega⟩
  have hm : x * y ≤ 100000 * 3200000 := Nat.mul_le_mul (by omega) (by omega)
  have p39 : 2 ^ 40 = 1099511627776 := by decide
  exact l_gcd (gg := Nat.gcd x y) hQ 40 0 x y none (by decide) (by omega) (by omega) ⟨fun _ => by omega, fun _ => by omega⟩ rfl (by omega) trivial

set_option maxHeartbeats 1000000 in
theorem l_cha2 {d : Nat} {J : Nat → Int → Int} {ch : Int → Nat} {kdJ : Nat → Nat} {Q : Option jV → jS → Prop} {w : Int → Int} {q t x : Int} (q0 : 0 ≤ q) (q1 : q ≤ 40) (t0 : 0 ≤ t) (t1 : t ≤ 10) (x0 : 0 ≤ x) (x1 : x ≤ 1) (hd : 7 ≤ d) (hQ : ∀ I' kd', FSx J I' kdJ kd' → Q (some (vi (chaW w q t x))) (SX I' ch kd')) : ∀ (n : Nat) (I : Nat → Int → Int) (kd : Nat → Nat) (i : Nat) (z : Int), NOWX I ch kd w → Rg I → FSx J I kdJ kd → setN w - i < n → i ≤ setN w → z = sumF (fun s => if q ≤ rpW w s then wtW s t (w 1).toNat else 0) i → PGX I 41 w → Ev d 36 48 [some (vr 40), some (vi q), some (vi t), some (vi x), some (vi z), some (vi (pwW 10 (w 1).toNat)), some (vi (i : Int))] [] (SX I ch kd) Q := by
  intro n
  induction n with
  | zero =>
    intro I kd i z hN hI F hi hi2 hz hp
    exfalso; omega
  | succ n ih =>
    intro I kd i z hN hI F hi hi2 hz hp
    obtain ⟨⟨wa0, wa1⟩, ⟨wb0, wb1⟩, ⟨wc0, wc1⟩, wC, wG, wU⟩ := hN.2.2.1
    have sn := setN_le wb1
    have zr := abo_rng (w := w) (q := q) wb1 t0 t1 i
    rw [← hz] at zr
    have br := pw10_rng (w 1).toNat (by omega)
    refine ev_s1 (L' := [some (vr 40), some (vi q), some (vi t), some (vi x), some (vi z), some (vi (pwW 10 (w 1).toNat)), some (vi (i : Int))]) (S' := [vi (i : Int)]) k36_48 rfl rfl ?_
    refine ev_s1 (L' := [some (vr 40), some (vi q), some (vi t), some (vi x), some (vi z), some (vi (pwW 10 (w 1).toNat)), some (vi (i : Int))]) (S' := [vi 1, vi (i : Int)]) k36_50 rfl rfl ?_
    refine ev_s1 (L' := [some (vr 40), some (vi q), some (vi t), some (vi x), some (vi z), some (vi (pwW 10 (w 1).toNat)), some (vi (i : Int))]) (S' := [vr 40, vi 1, vi (i : Int)]) k36_51 rfl rfl ?_
    refine ev_getR k36_52 (by decide) (rfl) (x_40_0 ch kd) ?_
    refine ev_getI k36_55 (by decide) (rfl) ?_
    show Ev d 36 58 [some (vr 40), some (vi q), some (vi t), some (vi x), some (vi z), some (vi (pwW 10 (w 1).toNat)), some (vi (i : Int))] [vi (I 13 6), vi 1, vi (i : Int)] (SX I ch kd) Q
    have rr1 := hI 13 6
    rw [hN.2.1.1]
    rw [hN.2.1.1] at rr1
    refine ev_ishl k36_58 (by omega) (by omega) ?_
    rw [shl_setN]
    refine ev_c_ge (t := 90) k36_59 rfl (by omega) (by omega) (by omega) (by omega) (fun h2 => ?_) (fun h2 => ?_)
    · refine ev_s1 (L' := [some (vr 40), some (vi q), some (vi t), some (vi x), some (vi z), some (vi (pwW 10 (w 1).toNat)), some (vi (i : Int))]) (S' := [vi (pwW 10 (w 1).toNat)]) k36_90 rfl rfl ?_
      refine ev_s1 (L' := [some (vr 40), some (vi q), some (vi t), some (vi x), some (vi z), some (vi (pwW 10 (w 1).toNat)), some (vi (i : Int))]) (S' := [vi z, vi (pwW 10 (w 1).toNat)]) k36_92 rfl rfl ?_
      refine ev_static (a := [vi (pwW 10 (w 1).toNat), vi z]) (S' := []) k36_94 rfl (Nat.le_of_ble_eq_true rfl) (by omega) ?_
      refine g_gcd (a := pwW 10 (w 1).toNat) (b := z) (by omega) (by omega) (by omega) (by omega) (?_)
      have gr : 1 ≤ gcdW (pwW 10 (w 1).toNat) z ∧ gcdW (pwW 10 (w 1).toNat) z ≤ 100000 := by
        have h1 := Nat.gcd_le_left (m := ((pwW 10 (w 1).toNat)).toNat) (z).toNat (by omega)
        have h2 := Nat.gcd_pos_of_pos_left (m := ((pwW 10 (w 1).toNat)).toNat) (z).toNat (by omega)
        unfold gcdW
        omega
      show Ev d 36 97 [some (vr 40), some (vi q), some (vi t), some (vi x), some (vi z), some (vi (pwW 10 (w 1).toNat)), some (vi (i : Int))] [vi (gcdW (pwW 10 (w 1).toNat) z)] (SX I ch kd) Q
      refine ev_s1 (L' := [some (vr 40), some (vi q), some (vi t), some (vi x), some (vi z), some (vi (pwW 10 (w 1).toNat)), some (vi (gcdW (pwW 10 (w 1).toNat) z))]) (S' := []) k36_97 rfl rfl ?_
      refine ev_s1 (L' := [some (vr 40), some (vi q), some (vi t), some (vi x), some (vi z), some (vi (pwW 10 (w 1).toNat)), some (vi (gcdW (pwW 10 (w 1).toNat) z))]) (S' := [vi x]) k36_99 rfl rfl ?_
      refine ev_z_ne (t := 108) k36_100 rfl (by omega) (by omega) (fun h3 => ?_) (fun h3 => ?_)
      · refine ev_s1 (L' := [some (vr 40), some (vi q), some (vi t), some (vi x), some (vi z), some (vi (pwW 10 (w 1).toNat)), some (vi (gcdW (pwW 10 (w 1).toNat) z))]) (S' := [vi (pwW 10 (w 1).toNat)]) k36_108 rfl rfl ?_
        refine ev_s1 (L' := [some (vr 40), some (vi q), some (vi t), some (vi x), some (vi z), some (vi (pwW 10 (w 1).toNat)), some (vi (gcdW (pwW 10 (w 1).toNat) z))]) (S' := [vi (gcdW (pwW 10 (w 1).toNat) z), vi (pwW 10 (w 1).toNat)]) k36_110 rfl rfl ?_
        refine ev_idiv k36_112 (by omega) (by omega) (by omega) (by omega) ?_
        refine ev_ireturn k36_113 ?_
        unfold chaW aboW at hQ
        rw [show setN w = i by omega, ← hz, if_neg (by omega)] at hQ
        exact hQ _ _ F
      · refine ev_s1 (L' := [some (vr 40), some (vi q), some (vi t), some (vi x), some (vi z), some (vi (pwW 10 (w 1).toNat)), some (vi (gcdW (pwW 10 (w 1).toNat) z))]) (S' := [vi z]) k36_103 rfl rfl ?_
        refine ev_goto (t := 110) k36_105 rfl ?_
        refine ev_s1 (L' := [some (vr 40), some (vi q), some (vi t), some (vi x), some (vi z), some (vi (pwW 10 (w 1).toNat)), some (vi (gcdW (pwW 10 (w 1).toNat) z))]) (S' := [vi (gcdW (pwW 10 (w 1).toNat) z), vi z]) k36_110 rfl rfl ?_
        refine ev_idiv k36_112 (by omega) (by omega) (by omega) (by omega) ?_
        refine ev_ireturn k36_113 ?_
        unfold chaW aboW at hQ
        rw [show setN w = i by omega, ← hz, if_pos (by omega)] at hQ
        exact hQ _ _ F
    · refine ev_s1 (L' := [some (vr 40), some (vi q), some (vi t), some (vi x), some (vi z), some (vi (pwW 10 (w 1).toNat)), some (vi (i : Int))]) (S' := [vr 40]) k36_62 rfl rfl ?_
      refine ev_s1 (L' := [some (vr 40), some (vi q), some (vi t), some (vi x), some (vi z), some (vi (pwW 10 (w 1).toNat)), some (vi (i : Int))]) (S' := [vi (i : Int), vr 40]) k36_63 rfl rfl ?_
      refine ev_virt (a := [vi (i : Int)]) (S' := []) k36_65 rfl (Nat.le_of_ble_eq_true rfl) (by decide) (rfl) (by omega) ?_
      refine g_recp hN hI (s := (i : Int)) (by omega) (by omega) (by omega) (hp := hp) (fun I4 kd4 fy4 p4 => ?_)
      have hI4 := fy4.1
      have hN4 := hN.fs fy4
      have F4 := F.trans fy4
      have pr4 : -100 ≤ rpW w (i : Int) ∧ rpW w (i : Int) ≤ 100 := pe_rng (sd_ok (rec_ok hN.2.2.1 _ (by omega)) _ (by rw [rec_lo (by decide)]; omega))
      show Ev d 36 68 [some (vr 40), some (vi q), some (vi t), some (vi x), some (vi z), some (vi (pwW 10 (w 1).toNat)), some (vi (i : Int))] [vi (rpW w (i : Int))] (SX I4 ch kd4) Q
      refine ev_s1 (L' := [some (vr 40), some (vi q), some (vi t), some (vi x), some (vi z), some (vi (pwW 10 (w 1).toNat)), some (vi (i : Int))]) (S' := [vi q, vi (rpW w (i : Int))]) k36_68 rfl rfl ?_
      refine ev_c_lt (t := 84) k36_69 rfl (by omega) (by omega) (by omega) (by omega) (fun h5 => ?_) (fun h5 => ?_)
      · refine ev_s1 (L' := [some (vr 40), some (vi q), some (vi t), some (vi x), some (vi z), some (vi (pwW 10 (w 1).toNat)), some (vi ((i : Int) + 1))]) (S' := []) k36_84 rfl rfl ?_
        refine ev_goto (t := 48) k36_87 rfl ?_
        exact ih I4 kd4 (i + 1) _ hN4 hI4 F4 (by omega) (by omega) (by rw [sumF, if_neg (show ¬ q ≤ rpW w (i : Int) by omega), hz]; omega) p4
      · refine ev_s1 (L' := [some (vr 40), some (vi q), some (vi t), some (vi x), some (vi z), some (vi (pwW 10 (w 1).toNat)), some (vi (i : Int))]) (S' := [vi z]) k36_72 rfl rfl ?_
        refine ev_s1 (L' := [some (vr 40), some (vi q), some (vi t), some (vi x), some (vi z), some (vi (pwW 10 (w 1).toNat)), some (vi (i : Int))]) (S' := [vr 40, vi z]) k36_74 rfl rfl ?_
        refine ev_s1 (L' := [some (vr 40), some (vi q), some (vi t), some (vi x), some (vi z), some (vi (pwW 10 (w 1).toNat)), some (vi (i : Int))]) (S' := [vi (i : Int), vr 40, vi z]) k36_75 rfl rfl ?_
        refine ev_s1 (L' := [some (vr 40), some (vi q), some (vi t), some (vi x), some (vi z), some (vi (pwW 10 (w 1).toNat)), some (vi (i : Int))]) (S' := [vi t, vi (i : Int), vr 40, vi z]) k36_77 rfl rfl ?_
        refine ev_virt (a := [vi (i : Int), vi t]) (S' := [vi z]) k36_78 rfl (Nat.le_of_ble_eq_true rfl) (by decide) (rfl) (by omega) ?_
        refine g_weight hN4 hI4 (s := (i : Int)) (t := t) (by omega) (by omega) t0 t1 (?_)
        show Ev d 36 81 [some (vr 40), some (vi q), some (vi t), some (vi x), some (vi z), some (vi (pwW 10 (w 1).toNat)), some (vi (i : Int))] [vi (wtW (i : Int) t (w 1).toNat), vi z] (SX I4 ch kd4) Q
        refine ev_s1 (L' := [some (vr 40), some (vi q), some (vi t), some (vi x), some (vi z), some (vi (pwW 10 (w 1).toNat)), some (vi (i : Int))]) (S' := [vi (z + (wtW (i : Int) t (w 1).toNat))]) k36_81 rfl rfl ?_
        refine ev_s1 (L' := [some (vr 40), some (vi q), some (vi t), some (vi x), some (vi (z + (wtW (i : Int) t (w 1).toNat))), some (vi (pwW 10 (w 1).toNat)), some (vi (i : Int))]) (S' := []) k36_82 rfl rfl ?_
        refine ev_s1 (L' := [some (vr 40), some (vi q), some (vi t), some (vi x), some (vi (z + (wtW (i : Int) t (w 1).toNat))), some (vi (pwW 10 (w 1).toNat)), some (vi ((i : Int) + 1))]) (S' := []) k36_84 rfl rfl ?_
        refine ev_goto (t := 48) k36_87 rfl ?_
        exact ih I4 kd4 (i + 1) _ hN4 hI4 F4 (by omega) (by omega) (by rw [sumF, if_pos (show q ≤ rpW w (i : Int) by omega), hz]) p4

set_option maxHeartbeats 1000000 in
theorem l_cha1 {d : Nat} {J : Nat → Int → Int} {ch : Int → Nat} {kdJ : Nat → Nat} {Q : Option jV → jS → Prop} {w : Int → Int} {q t x : Int} (q0 : 0 ≤ q) (q1 : q ≤ 40) (t0 : 0 ≤ t) (t1 : t ≤ 10) (hd : 7 ≤ d) (x0 : 0 ≤ x) (x1 : x ≤ 1) (hQ : ∀ I' kd', FSx J I' kdJ kd' → Q (some (vi (chaW w q t x))) (SX I' ch kd')) : ∀ (n : Nat) (I : Nat → Int → Int) (kd : Nat → Nat) (i : Nat) (z : Int), NOWX I ch kd w → Rg I → FSx J I kdJ kd → w 1 - i < n → (i : Int) ≤ w 1 → z = pwW 10 i → PGX I 41 w → Ev d 36 20 [some (vr 40), some (vi q), some (vi t), some (vi x), some (vi 0), some (vi z), some (vi (i : Int))] [] (SX I ch kd) Q := by
  intro n
  induction n with
  | zero =>
    intro I kd i z hN hI F hi hi2 hz hp
    exfalso; omega
  | succ n ih =>
    intro I kd i z hN hI F hi hi2 hz hp
    obtain ⟨⟨wa0, wa1⟩, ⟨wb0, wb1⟩, ⟨wc0, wc1⟩, wC, wG, wU⟩ := hN.2.2.1
    have sn := setN_le wb1
    refine ev_s1 (L' := [some (vr 40), some (vi q), some (vi t), some (vi x), some (vi 0), some (vi z), some (vi (i : Int))]) (S' := [vi (i : Int)]) k36_20 rfl rfl ?_
    refine ev_s1 (L' := [some (vr 40), some (vi q), some (vi t), some (vi x), some (vi 0), some (vi z), some (vi (i : Int))]) (S' := [vr 40, vi (i : Int)]) k36_22 rfl rfl ?_
    refine ev_getR k36_23 (by decide) (rfl) (x_40_0 ch kd) ?_
    refine ev_getI k36_26 (by decide) (rfl) ?_
    show Ev d 36 29 [some (vr 40), some (vi q), some (vi t), some (vi x), some (vi 0), some (vi z), some (vi (i : Int))] [vi (I 13 6), vi (i : Int)] (SX I ch kd) Q
    have rr1 := hI 13 6
    rw [hN.2.1.1]
    rw [hN.2.1.1] at rr1
    refine ev_c_ge (t := 45) k36_29 rfl (by omega) (by omega) (by omega) (by omega) (fun h2 => ?_) (fun h2 => ?_)
    · refine ev_s1 (L' := [some (vr 40), some (vi q), some (vi t), some (vi x), some (vi 0), some (vi z), some (vi (i : Int))]) (S' := [vi 0]) k36_45 rfl rfl ?_
      refine ev_s1 (L' := [some (vr 40), some (vi q), some (vi t), some (vi x), some (vi 0), some (vi z), some (vi 0)]) (S' := []) k36_46 rfl rfl ?_
      rw [hz, show i = (w 1).toNat by omega]
      exact l_cha2 q0 q1 t0 t1 x0 x1 hd hQ 33 I kd 0 0 hN hI F (by omega) (by omega) rfl hp
    · refine ev_s1 (L' := [some (vr 40), some (vi q), some (vi t), some (vi x), some (vi 0), some (vi z), some (vi (i : Int))]) (S' := [vi z]) k36_32 rfl rfl ?_
      refine ev_s1 (L' := [some (vr 40), some (vi q), some (vi t), some (vi x), some (vi 0), some (vi z), some (vi (i : Int))]) (S' := [vi 10, vi z]) k36_34 rfl rfl ?_
      refine ev_s1 (L' := [some (vr 40), some (vi q), some (vi t), some (vi x), some (vi 0), some (vi z), some (vi (i : Int))]) (S' := [vi (z * 10)]) k36_36 rfl rfl ?_
      refine ev_s1 (L' := [some (vr 40), some (vi q), some (vi t), some (vi x), some (vi 0), some (vi (z * 10)), some (vi (i : Int))]) (S' := []) k36_37 rfl rfl ?_
      refine ev_s1 (L' := [some (vr 40), some (vi q), some (vi t), some (vi x), some (vi 0), some (vi (z * 10)), some (vi ((i : Int) + 1))]) (S' := []) k36_39 rfl rfl ?_
      refine ev_goto (t := 20) k36_42 rfl ?_
      exact ih I kd (i + 1) _ hN hI F (by omega) (by omega) (by rw [hz]; rfl) hp

set_option maxHeartbeats 1000000 in
theorem g_chance {d : Nat} {I : Nat → Int → Int} {ch : Int → Nat} {kd : Nat → Nat} {Q : Option jV → jS → Prop} {w : Int → Int} (hN : NOWX I ch kd w) (hI : Rg I) {q t x : Int} (q0 : 0 ≤ q) (q1 : q ≤ 40) (t0 : 0 ≤ t) (t1 : t ≤ 10) (hd : 7 ≤ d) (x0 : 0 ≤ x) (x1 : x ≤ 1) (hQ : ∀ I' kd', FSx I I' kd kd' → Q (some (vi (chaW w q t x))) (SX I' ch kd')) : Cl d 36 [vr 40, vi q, vi t, vi x] (SX I ch kd) Q := by
  obtain ⟨⟨wa0, wa1⟩, ⟨wb0, wb1⟩, ⟨wc0, wc1⟩, wC, wG, wU⟩ := hN.2.2.1
  refine ⟨by rw [l36]; exact Nat.le_of_ble_eq_true rfl, ?_⟩
  rw [l36]
  show Ev d 36 0 [some (vr 40), some (vi q), some (vi t), some (vi x), none, none, none] [] (SX I ch kd) Q
  refine ev_s1 (L' := [some (vr 40), some (vi q), some (vi t), some (vi x), none, none, none]) (S' := [vr 40]) k36_0 rfl rfl ?_
  refine ev_getR k36_1 (by decide) (rfl) (x_40_0 ch kd) ?_
  refine ev_s1 (L' := [some (vr 40), some (vi q), some (vi t), some (vi x), none, none, none]) (S' := [vr 40, vr 13]) k36_4 rfl rfl ?_
  refine ev_getR k36_5 (by decide) (rfl) (x_40_4 ch kd) ?_
  refine ev_virt (a := [vr 41]) (S' := []) k36_8 rfl (Nat.le_of_ble_eq_true rfl) (by decide) (rfl) (by omega) ?_
  refine g_writeTo hN.1 hI (by omega) ln41 (by omega) hN.2.2.2 hN.2.1 (by omega) (by omega) (fun I1 hI1 p1 f1 => ?_)
  have fx1 : FSx I I1 kd kd := ⟨hI1, fun a b q => f1 a b (by omega) (by omega), fun _ _ => rfl⟩
  have hN1 := hN.fs fx1
  have F1 := fx1
  show Ev d 36 11 [some (vr 40), some (vi q), some (vi t), some (vi x), none, none, none] [] (SX I1 ch kd) Q
  refine ev_s1 (L' := [some (vr 40), some (vi q), some (vi t), some (vi x), none, none, none]) (S' := [vi 0]) k36_11 rfl rfl ?_
  refine ev_s1 (L' := [some (vr 40), some (vi q), some (vi t), some (vi x), some (vi 0), none, none]) (S' := []) k36_12 rfl rfl ?_
  refine ev_s1 (L' := [some (vr 40), some (vi q), some (vi t), some (vi x), some (vi 0), none, none]) (S' := [vi 1]) k36_14 rfl rfl ?_
  refine ev_s1 (L' := [some (vr 40), some (vi q), some (vi t), some (vi x), some (vi 0), some (vi 1), none]) (S' := []) k36_15 rfl rfl ?_
  refine ev_s1 (L' := [some (vr 40), some (vi q), some (vi t), some (vi x), some (vi 0), some (vi 1), none]) (S' := [vi 0]) k36_17 rfl rfl ?_
  refine ev_s1 (L' := [some (vr 40), some (vi q), some (vi t), some (vi x), some (vi 0), some (vi 1), some (vi 0)]) (S' := []) k36_18 rfl rfl ?_
  exact l_cha1 (J := I) (kdJ := kd) q0 q1 t0 t1 hd x0 x1 hQ 6 I1 kd 0 1 hN1 hI1 F1 (by omega) (by omega) rfl p1
