/-! the reader's state: where it is and what is wrong -/
def rdst (I : Nat → Int → Int) (p μ : Int) : Nat → Int → Int := up (up I 24 3 p) 24 4 μ
theorem rdst_p {I : Nat → Int → Int} {p μ : Int} : rdst I p μ 24 3 = p := by unfold rdst; rw [upN (Or.inr (by decide))]; exact upE rfl rfl
theorem rdst_m {I : Nat → Int → Int} {p μ : Int} : rdst I p μ 24 4 = μ := upE rfl rfl
theorem rdst_o {I : Nat → Int → Int} {p μ b : Int} {a : Nat} (h : a ≠ 24) : rdst I p μ a b = I a b := by unfold rdst; rw [upN (Or.inl h), upN (Or.inl h)]
theorem rdst_up3 {I : Nat → Int → Int} {p q μ : Int} : up (rdst I p μ) 24 3 q = rdst I q μ := by
  funext a b
  unfold rdst up
  by_cases h3 : a = 24 ∧ b = 3
  · rw [if_pos h3, if_neg (by omega), if_pos h3]
  · rw [if_neg h3]
    by_cases h4 : a = 24 ∧ b = 4
    · rw [if_pos h4, if_pos h4]
    · rw [if_neg h4, if_neg h4, if_neg h3, if_neg h3]
theorem rdst_up4 {I : Nat → Int → Int} {p μ ν : Int} : up (rdst I p μ) 24 4 ν = rdst I p ν := by
  funext a b
  unfold rdst up
  by_cases h4 : a = 24 ∧ b = 4
  · rw [if_pos h4, if_pos h4]
  · rw [if_neg h4, if_neg h4, if_neg h4]
theorem tap_rdst {I : Nat → Int → Int} {p μ : Int} : tapF (rdst I p μ) = tapF I := by
  funext i
  unfold tapF
  rw [rdst_o (by decide), rdst_o (by decide)]
theorem rdst_rg {I : Nat → Int → Int} {p μ : Int} (hI : Rg I) (p0 : 0 ≤ p) (p1 : p < 2000) (m0 : 0 ≤ μ) (m1 : μ ≤ 3) : Rg (rdst I p μ) := rg_up (rg_up hI (by omega) (by omega)) (by omega) (by omega)
def sgP (T : Int → Int) (p μ s : Int) : Int := if μ = 0 ∧ T p = s then p + 1 else p
def sgM (T : Int → Int) (p μ s : Int) : Int := if μ ≠ 0 then μ else if T p = s then 0 else 1
/-- how many figures stand at a place (3: more than two) -/
def nmL (T : Int → Int) (p : Int) : Int := if figB (T p) = false then 0 else if figB (T (p + 1)) = false then 1 else if figB (T (p + 2)) = false then 2 else 3
def nmV (T : Int → Int) (p : Int) : Int := if figB (T p) = false then 0 else if figB (T (p + 1)) = false then 0 * 10 + T p - 48 else if figB (T (p + 2)) = false then (0 * 10 + T p - 48) * 10 + T (p + 1) - 48 else ((0 * 10 + T p - 48) * 10 + T (p + 1) - 48) * 10 + T (p + 2) - 48
def nuM (T : Int → Int) (p μ lo hi : Int) : Int := if μ ≠ 0 then μ else if nmL T p = 0 ∨ nmL T p = 3 then 1 else if nmV T p < lo ∨ hi < nmV T p then 2 else 0
def nuP (T : Int → Int) (p μ lo hi : Int) : Int := if μ = 0 ∧ nuM T p μ lo hi = 0 then p + nmL T p else p
def nuV (T : Int → Int) (p μ lo : Int) : Int := if μ ≠ 0 then lo else nmV T p

theorem c_sign {d : Nat} {I : Nat → Int → Int} {ch : Int → Nat} {kd : Nat → Nat} {Q : Option jV → jS → Prop} (hI : Rg I) (z0 : 0 ≤ I 25 1) (z1 : I 25 1 ≤ 100) {p μ : Int} (p0 : 0 ≤ p) (p1 : p < 1990) (m0 : 0 ≤ μ) (m1 : μ ≤ 3) (hd : 3 ≤ d) {s : Int} (s0 : -2147483648 ≤ s) (s1 : s < 2147483648) (hQ : Q none (SX (rdst I (sgP (tapF I) p μ s) (sgM (tapF I) p μ s)) ch kd)) : Cl d 67 [vr 24, vi s] (SX (rdst I p μ) ch kd) Q := by
  have e1 : rdst I p μ 25 1 = I 25 1 := rdst_o (by decide)
  refine c_readSign (rdst_rg hI p0 (by omega) m0 m1) (by rw [e1]; exact z0) (by rw [e1]; exact z1) (by rw [rdst_p]; exact p0) (by rw [rdst_p]; omega) hd s0 s1 (fun h => ?_) (fun h h2 => ?_) (fun h h2 => ?_)
  · rw [rdst_m] at h
    unfold sgP sgM at hQ
    rw [if_neg (fun q => h q.1), if_pos h] at hQ
    exact hQ
  · rw [rdst_m] at h
    rw [tap_rdst, rdst_p] at h2
    unfold sgP sgM at hQ
    rw [if_pos ⟨h, h2⟩, if_neg (fun q => q h), if_pos h2] at hQ
    rw [rdst_p, rdst_up3, h]
    exact hQ
  · rw [rdst_m] at h
    rw [tap_rdst, rdst_p] at h2
    unfold sgP sgM at hQ
    rw [if_neg (fun q => h2 q.2), if_neg (fun q => q h), if_neg h2] at hQ
    rw [rdst_up4]
    exact hQ

set_option maxHeartbeats 4000000 in
theorem c_readNumber {d : Nat} {I : Nat → Int → Int} {ch : Int → Nat} {kd : Nat → Nat} {Q : Option jV → jS → Prop} (hI : Rg I) (z0 : 0 ≤ I 25 1) (z1 : I 25 1 ≤ 100) (i0 : 0 ≤ I 24 3) (i1 : I 24 3 < 1990) (hd : 3 ≤ d) {lo hi : Int} (l0 : 0 ≤ lo) (l1 : lo ≤ 99) (u0 : 0 ≤ hi) (u1 : hi ≤ 99) (hN : I 24 4 ≠ 0 → Q (some (vi lo)) (SX I ch kd)) (hB : I 24 4 = 0 → (nmL (tapF I) (I 24 3) = 0 ∨ nmL (tapF I) (I 24 3) = 3) → Q (some (vi (nmV (tapF I) (I 24 3)))) (SX (up I 24 4 1) ch kd)) (hO : I 24 4 = 0 → ¬ (nmL (tapF I) (I 24 3) = 0 ∨ nmL (tapF I) (I 24 3) = 3) → (nmV (tapF I) (I 24 3) < lo ∨ hi < nmV (tapF I) (I 24 3)) → Q (some (vi (nmV (tapF I) (I 24 3)))) (SX (up I 24 4 2) ch kd)) (hG : I 24 4 = 0 → ¬ (nmL (tapF I) (I 24 3) = 0 ∨ nmL (tapF I) (I 24 3) = 3) → ¬ (nmV (tapF I) (I 24 3) < lo ∨ hi < nmV (tapF I) (I 24 3)) → Q (some (vi (nmV (tapF I) (I 24 3)))) (SX (up I 24 3 (I 24 3 + nmL (tapF I) (I 24 3))) ch kd)) : Cl d 68 [vr 24, vi lo, vi hi] (SX I ch kd) Q := by
  refine ⟨by rw [l68]; exact Nat.le_of_ble_eq_true rfl, ?_⟩
  rw [l68]
  show Ev d 68 0 [some (vr 24), some (vi lo), some (vi hi), none, none] [] (SX I ch kd) Q
  refine ev_s1 (L' := [some (vr 24), some (vi lo), some (vi hi), none, none]) (S' := [vr 24]) k68_0 rfl rfl ?_
  refine ev_getI k68_1 (by decide) (rfl) ?_
  show Ev d 68 4 [some (vr 24), some (vi lo), some (vi hi), none, none] [vi (I 24 4)] (SX I ch kd) Q
  have rr1 := hI 24 4
  refine ev_z_eq (t := 9) k68_4 rfl (by omega) (by omega) (fun h2 => ?_) (fun h2 => ?_)
  · refine ev_s1 (L' := [some (vr 24), some (vi lo), some (vi hi), none, none]) (S' := [vi 0]) k68_9 rfl rfl ?_
    refine ev_s1 (L' := [some (vr 24), some (vi lo), some (vi hi), some (vi 0), none]) (S' := []) k68_10 rfl rfl ?_
    refine ev_s1 (L' := [some (vr 24), some (vi lo), some (vi hi), some (vi 0), none]) (S' := [vi 0]) k68_11 rfl rfl ?_
    refine ev_s1 (L' := [some (vr 24), some (vi lo), some (vi hi), some (vi 0), some (vi 0)]) (S' := []) k68_12 rfl rfl ?_
    refine ev_s1 (L' := [some (vr 24), some (vi lo), some (vi hi), some (vi 0), some (vi 0)]) (S' := [vi 0]) k68_14 rfl rfl ?_
    refine ev_s1 (L' := [some (vr 24), some (vi lo), some (vi hi), some (vi 0), some (vi 0)]) (S' := [vi 2, vi 0]) k68_15 rfl rfl ?_
    refine ev_c_gt (t := 62) k68_16 rfl (by omega) (by omega) (by omega) (by omega) (fun h => absurd h (by decide)) (fun _ => ?_)
    refine ev_s1 (L' := [some (vr 24), some (vi lo), some (vi hi), some (vi 0), some (vi 0)]) (S' := [vr 24]) k68_19 rfl rfl ?_
    refine ev_s1 (L' := [some (vr 24), some (vi lo), some (vi hi), some (vi 0), some (vi 0)]) (S' := [vr 24, vr 24]) k68_20 rfl rfl ?_
    refine ev_getI k68_21 (by decide) (rfl) ?_
    show Ev d 68 24 [some (vr 24), some (vi lo), some (vi hi), some (vi 0), some (vi 0)] [vi (I 24 3), vr 24] (SX I ch kd) Q
    have rr3 := hI 24 3
    refine ev_s1 (L' := [some (vr 24), some (vi lo), some (vi hi), some (vi 0), some (vi 0)]) (S' := [vi 0, vi (I 24 3), vr 24]) k68_24 rfl rfl ?_
    refine ev_s1 (L' := [some (vr 24), some (vi lo), some (vi hi), some (vi 0), some (vi 0)]) (S' := [vi ((I 24 3) + 0), vr 24]) k68_25 rfl rfl ?_
    rw [Int.add_zero]
    refine ev_virt (a := [vi (I 24 3)]) (S' := []) k68_26 rfl (Nat.le_of_ble_eq_true rfl) (by decide) (rfl) (by omega) ?_
    refine c_byteAt hI z0 z1 (by omega) (i := I 24 3) (by omega) (by omega) (?_)
    have tr26 := tap_rg hI (I 24 3)
    show Ev d 68 29 [some (vr 24), some (vi lo), some (vi hi), some (vi 0), some (vi 0)] [vi (tapF I (I 24 3))] (SX I ch kd) Q
    refine ev_static (a := [vi (tapF I (I 24 3))]) (S' := []) k68_29 rfl (Nat.le_of_ble_eq_true rfl) (by omega) ?_
    refine c_isFigure hI (b := tapF I (I 24 3)) (by omega) (by omega) (fun hg0 => ?_) (fun hg0 => ?_)
    · have hv0 : 48 ≤ (tapF I (I 24 3)) ∧ (tapF I (I 24 3)) ≤ 57 := by simp [figB] at hg0; omega
      show Ev d 68 32 [some (vr 24), some (vi lo), some (vi hi), some (vi 0), some (vi 0)] [vi 1] (SX I ch kd) Q
      refine ev_z_eq (t := 62) k68_32 rfl (by omega) (by omega) (fun h => absurd h (by decide)) (fun _ => ?_)
      refine ev_s1 (L' := [some (vr 24), some (vi lo), some (vi hi), some (vi 0), some (vi 0)]) (S' := [vi 0]) k68_35 rfl rfl ?_
      refine ev_s1 (L' := [some (vr 24), some (vi lo), some (vi hi), some (vi 0), some (vi 0)]) (S' := [vi 10, vi 0]) k68_37 rfl rfl ?_
      refine ev_s1 (L' := [some (vr 24), some (vi lo), some (vi hi), some (vi 0), some (vi 0)]) (S' := [vi (0 * 10)]) k68_39 rfl rfl ?_
      show Ev d 68 40 [some (vr 24), some (vi lo), some (vi hi), some (vi 0), some (vi 0)] [vi 0] (SX I ch kd) Q
      refine ev_s1 (L' := [some (vr 24), some (vi lo), some (vi hi), some (vi 0), some (vi 0)]) (S' := [vr 24, vi 0]) k68_40 rfl rfl ?_
      refine ev_s1 (L' := [some (vr 24), some (vi lo), some (vi hi), some (vi 0), some (vi 0)]) (S' := [vr 24, vr 24, vi 0]) k68_41 rfl rfl ?_
      refine ev_getI k68_42 (by decide) (rfl) ?_
      show Ev d 68 45 [some (vr 24), some (vi lo), some (vi hi), some (vi 0), some (vi 0)] [vi (I 24 3), vr 24, vi 0] (SX I ch kd) Q
      have rr4 := hI 24 3
      refine ev_s1 (L' := [some (vr 24), some (vi lo), some (vi hi), some (vi 0), some (vi 0)]) (S' := [vi 0, vi (I 24 3), vr 24, vi 0]) k68_45 rfl rfl ?_
      refine ev_s1 (L' := [some (vr 24), some (vi lo), some (vi hi), some (vi 0), some (vi 0)]) (S' := [vi ((I 24 3) + 0), vr 24, vi 0]) k68_46 rfl rfl ?_
      rw [Int.add_zero]
      refine ev_virt (a := [vi (I 24 3)]) (S' := [vi 0]) k68_47 rfl (Nat.le_of_ble_eq_true rfl) (by decide) (rfl) (by omega) ?_
      refine c_byteAt hI z0 z1 (by omega) (i := I 24 3) (by omega) (by omega) (?_)
      have tr47 := tap_rg hI (I 24 3)
      show Ev d 68 50 [some (vr 24), some (vi lo), some (vi hi), some (vi 0), some (vi 0)] [vi (tapF I (I 24 3)), vi 0] (SX I ch kd) Q
      refine ev_s1 (L' := [some (vr 24), some (vi lo), some (vi hi), some (vi 0), some (vi 0)]) (S' := [vi (0 + (tapF I (I 24 3)))]) k68_50 rfl rfl ?_
      refine ev_s1 (L' := [some (vr 24), some (vi lo), some (vi hi), some (vi 0), some (vi 0)]) (S' := [vi 48, vi (0 + (tapF I (I 24 3)))]) k68_51 rfl rfl ?_
      refine ev_s1 (L' := [some (vr 24), some (vi lo), some (vi hi), some (vi 0), some (vi 0)]) (S' := [vi ((0 + (tapF I (I 24 3))) - 48)]) k68_53 rfl rfl ?_
      refine ev_s1 (L' := [some (vr 24), some (vi lo), some (vi hi), some (vi 0), some (vi ((0 + (tapF I (I 24 3))) - 48))]) (S' := []) k68_54 rfl rfl ?_
      refine ev_s1 (L' := [some (vr 24), some (vi lo), some (vi hi), some (vi 1), some (vi ((0 + (tapF I (I 24 3))) - 48))]) (S' := []) k68_56 rfl rfl ?_
      refine ev_goto (t := 14) k68_59 rfl ?_
      refine ev_s1 (L' := [some (vr 24), some (vi lo), some (vi hi), some (vi 1), some (vi ((0 + (tapF I (I 24 3))) - 48))]) (S' := [vi 1]) k68_14 rfl rfl ?_
      refine ev_s1 (L' := [some (vr 24), some (vi lo), some (vi hi), some (vi 1), some (vi ((0 + (tapF I (I 24 3))) - 48))]) (S' := [vi 2, vi 1]) k68_15 rfl rfl ?_
      refine ev_c_gt (t := 62) k68_16 rfl (by omega) (by omega) (by omega) (by omega) (fun h => absurd h (by decide)) (fun _ => ?_)
      refine ev_s1 (L' := [some (vr 24), some (vi lo), some (vi hi), some (vi 1), some (vi ((0 + (tapF I (I 24 3))) - 48))]) (S' := [vr 24]) k68_19 rfl rfl ?_
      refine ev_s1 (L' := [some (vr 24), some (vi lo), some (vi hi), some (vi 1), some (vi ((0 + (tapF I (I 24 3))) - 48))]) (S' := [vr 24, vr 24]) k68_20 rfl rfl ?_
      refine ev_getI k68_21 (by decide) (rfl) ?_
      show Ev d 68 24 [some (vr 24), some (vi lo), some (vi hi), some (vi 1), some (vi ((0 + (tapF I (I 24 3))) - 48))] [vi (I 24 3), vr 24] (SX I ch kd) Q
      have rr5 := hI 24 3
      refine ev_s1 (L' := [some (vr 24), some (vi lo), some (vi hi), some (vi 1), some (vi ((0 + (tapF I (I 24 3))) - 48))]) (S' := [vi 1, vi (I 24 3), vr 24]) k68_24 rfl rfl ?_
      refine ev_s1 (L' := [some (vr 24), some (vi lo), some (vi hi), some (vi 1), some (vi ((0 + (tapF I (I 24 3))) - 48))]) (S' := [vi ((I 24 3) + 1), vr 24]) k68_25 rfl rfl ?_
      refine ev_virt (a := [vi (I 24 3 + 1)]) (S' := []) k68_26 rfl (Nat.le_of_ble_eq_true rfl) (by decide) (rfl) (by omega) ?_
      refine c_byteAt hI z0 z1 (by omega) (i := I 24 3 + 1) (by omega) (by omega) (?_)
      have tr26 := tap_rg hI (I 24 3 + 1)
      show Ev d 68 29 [some (vr 24), some (vi lo), some (vi hi), some (vi 1), some (vi ((0 + (tapF I (I 24 3))) - 48))] [vi (tapF I (I 24 3 + 1))] (SX I ch kd) Q
      refine ev_static (a := [vi (tapF I (I 24 3 + 1))]) (S' := []) k68_29 rfl (Nat.le_of_ble_eq_true rfl) (by omega) ?_
      refine c_isFigure hI (b := tapF I (I 24 3 + 1)) (by omega) (by omega) (fun hg1 => ?_) (fun hg1 => ?_)
      · have hv1 : 48 ≤ (tapF I (I 24 3 + 1)) ∧ (tapF I (I 24 3 + 1)) ≤ 57 := by simp [figB] at hg1; omega
        show Ev d 68 32 [some (vr 24), some (vi lo), some (vi hi), some (vi 1), some (vi ((0 + (tapF I (I 24 3))) - 48))] [vi 1] (SX I ch kd) Q
        refine ev_z_eq (t := 62) k68_32 rfl (by omega) (by omega) (fun h => absurd h (by decide)) (fun _ => ?_)
        refine ev_s1 (L' := [some (vr 24), some (vi lo), some (vi hi), some (vi 1), some (vi ((0 + (tapF I (I 24 3))) - 48))]) (S' := [vi ((0 + (tapF I (I 24 3))) - 48)]) k68_35 rfl rfl ?_
        refine ev_s1 (L' := [some (vr 24), some (vi lo), some (vi hi), some (vi 1), some (vi ((0 + (tapF I (I 24 3))) - 48))]) (S' := [vi 10, vi ((0 + (tapF I (I 24 3))) - 48)]) k68_37 rfl rfl ?_
        refine ev_s1 (L' := [some (vr 24), some (vi lo), some (vi hi), some (vi 1), some (vi ((0 + (tapF I (I 24 3))) - 48))]) (S' := [vi (((0 + (tapF I (I 24 3))) - 48) * 10)]) k68_39 rfl rfl ?_
        refine ev_s1 (L' := [some (vr 24), some (vi lo), some (vi hi), some (vi 1), some (vi ((0 + (tapF I (I 24 3))) - 48))]) (S' := [vr 24, vi (((0 + (tapF I (I 24 3))) - 48) * 10)]) k68_40 rfl rfl ?_
        refine ev_s1 (L' := [some (vr 24), some (vi lo), some (vi hi), some (vi 1), some (vi ((0 + (tapF I (I 24 3))) - 48))]) (S' := [vr 24, vr 24, vi (((0 + (tapF I (I 24 3))) - 48) * 10)]) k68_41 rfl rfl ?_
        refine ev_getI k68_42 (by decide) (rfl) ?_
        show Ev d 68 45 [some (vr 24), some (vi lo), some (vi hi), some (vi 1), some (vi ((0 + (tapF I (I 24 3))) - 48))] [vi (I 24 3), vr 24, vi (((0 + (tapF I (I 24 3))) - 48) * 10)] (SX I ch kd) Q
        have rr6 := hI 24 3
        refine ev_s1 (L' := [some (vr 24), some (vi lo), some (vi hi), some (vi 1), some (vi ((0 + (tapF I (I 24 3))) - 48))]) (S' := [vi 1, vi (I 24 3), vr 24, vi (((0 + (tapF I (I 24 3))) - 48) * 10)]) k68_45 rfl rfl ?_
        refine ev_s1 (L' := [some (vr 24), some (vi lo), some (vi hi), some (vi 1), some (vi ((0 + (tapF I (I 24 3))) - 48))]) (S' := [vi ((I 24 3) + 1), vr 24, vi (((0 + (tapF I (I 24 3))) - 48) * 10)]) k68_46 rfl rfl ?_
        refine ev_virt (a := [vi (I 24 3 + 1)]) (S' := [vi (((0 + (tapF I (I 24 3))) - 48) * 10)]) k68_47 rfl (Nat.le_of_ble_eq_true rfl) (by decide) (rfl) (by omega) ?_
        refine c_byteAt hI z0 z1 (by omega) (i := I 24 3 + 1) (by omega) (by omega) (?_)
        have tr47 := tap_rg hI (I 24 3 + 1)
        show Ev d 68 50 [some (vr 24), some (vi lo), some (vi hi), some (vi 1), some (vi ((0 + (tapF I (I 24 3))) - 48))] [vi (tapF I (I 24 3 + 1)), vi (((0 + (tapF I (I 24 3))) - 48) * 10)] (SX I ch kd) Q
        refine ev_s1 (L' := [some (vr 24), some (vi lo), some (vi hi), some (vi 1), some (vi ((0 + (tapF I (I 24 3))) - 48))]) (S' := [vi ((((0 + (tapF I (I 24 3))) - 48) * 10) + (tapF I (I 24 3 + 1)))]) k68_50 rfl rfl ?_
        refine ev_s1 (L' := [some (vr 24), some (vi lo), some (vi hi), some (vi 1), some (vi ((0 + (tapF I (I 24 3))) - 48))]) (S' := [vi 48, vi ((((0 + (tapF I (I 24 3))) - 48) * 10) + (tapF I (I 24 3 + 1)))]) k68_51 rfl rfl ?_
        refine ev_s1 (L' := [some (vr 24), some (vi lo), some (vi hi), some (vi 1), some (vi ((0 + (tapF I (I 24 3))) - 48))]) (S' := [vi (((((0 + (tapF I (I 24 3))) - 48) * 10) + (tapF I (I 24 3 + 1))) - 48)]) k68_53 rfl rfl ?_
        refine ev_s1 (L' := [some (vr 24), some (vi lo), some (vi hi), some (vi 1), some (vi (((((0 + (tapF I (I 24 3))) - 48) * 10) + (tapF I (I 24 3 + 1))) - 48))]) (S' := []) k68_54 rfl rfl ?_
        refine ev_s1 (L' := [some (vr 24), some (vi lo), some (vi hi), some (vi 2), some (vi (((((0 + (tapF I (I 24 3))) - 48) * 10) + (tapF I (I 24 3 + 1))) - 48))]) (S' := []) k68_56 rfl rfl ?_
        refine ev_goto (t := 14) k68_59 rfl ?_
        refine ev_s1 (L' := [some (vr 24), some (vi lo), some (vi hi), some (vi 2), some (vi (((((0 + (tapF I (I 24 3))) - 48) * 10) + (tapF I (I 24 3 + 1))) - 48))]) (S' := [vi 2]) k68_14 rfl rfl ?_
        refine ev_s1 (L' := [some (vr 24), some (vi lo), some (vi hi), some (vi 2), some (vi (((((0 + (tapF I (I 24 3))) - 48) * 10) + (tapF I (I 24 3 + 1))) - 48))]) (S' := [vi 2, vi 2]) k68_15 rfl rfl ?_
        refine ev_c_gt (t := 62) k68_16 rfl (by omega) (by omega) (by omega) (by omega) (fun h => absurd h (by decide)) (fun _ => ?_)
        refine ev_s1 (L' := [some (vr 24), some (vi lo), some (vi hi), some (vi 2), some (vi (((((0 + (tapF I (I 24 3))) - 48) * 10) + (tapF I (I 24 3 + 1))) - 48))]) (S' := [vr 24]) k68_19 rfl rfl ?_
        refine ev_s1 (L' := [some (vr 24), some (vi lo), some (vi hi), some (vi 2), some (vi (((((0 + (tapF I (I 24 3))) - 48) * 10) + (tapF I (I 24 3 + 1))) - 48))]) (S' := [vr 24, vr 24]) k68_20 rfl rfl ?_
        refine ev_getI k68_21 (by decide) (rfl) ?_
        show Ev d 68 24 [some (vr 24), some (vi lo), some (vi hi), some (vi 2), some (vi (((((0 + (tapF I (I 24 3))) - 48) * 10) + (tapF I (I 24 3 + 1))) - 48))] [vi (I 24 3), vr 24] (SX I ch kd) Q
        have rr7 := hI 24 3
        refine ev_s1 (L' := [some (vr 24), some (vi lo), some (vi hi), some (vi 2), some (vi (((((0 + (tapF I (I 24 3))) - 48) * 10) + (tapF I (I 24 3 + 1))) - 48))]) (S' := [vi 2, vi (I 24 3), vr 24]) k68_24 rfl rfl ?_
        refine ev_s1 (L' := [some (vr 24), some (vi lo), some (vi hi), some (vi 2), some (vi (((((0 + (tapF I (I 24 3))) - 48) * 10) + (tapF I (I 24 3 + 1))) - 48))]) (S' := [vi ((I 24 3) + 2), vr 24]) k68_25 rfl rfl ?_
        refine ev_virt (a := [vi (I 24 3 + 2)]) (S' := []) k68_26 rfl (Nat.le_of_ble_eq_true rfl) (by decide) (rfl) (by omega) ?_
        refine c_byteAt hI z0 z1 (by omega) (i := I 24 3 + 2) (by omega) (by omega) (?_)
        have tr26 := tap_rg hI (I 24 3 + 2)
        show Ev d 68 29 [some (vr 24), some (vi lo), some (vi hi), some (vi 2), some (vi (((((0 + (tapF I (I 24 3))) - 48) * 10) + (tapF I (I 24 3 + 1))) - 48))] [vi (tapF I (I 24 3 + 2))] (SX I ch kd) Q
        refine ev_static (a := [vi (tapF I (I 24 3 + 2))]) (S' := []) k68_29 rfl (Nat.le_of_ble_eq_true rfl) (by omega) ?_
        refine c_isFigure hI (b := tapF I (I 24 3 + 2)) (by omega) (by omega) (fun hg2 => ?_) (fun hg2 => ?_)
        · have hv2 : 48 ≤ (tapF I (I 24 3 + 2)) ∧ (tapF I (I 24 3 + 2)) ≤ 57 := by simp [figB] at hg2; omega
          show Ev d 68 32 [some (vr 24), some (vi lo), some (vi hi), some (vi 2), some (vi (((((0 + (tapF I (I 24 3))) - 48) * 10) + (tapF I (I 24 3 + 1))) - 48))] [vi 1] (SX I ch kd) Q
          refine ev_z_eq (t := 62) k68_32 rfl (by omega) (by omega) (fun h => absurd h (by decide)) (fun _ => ?_)
          refine ev_s1 (L' := [some (vr 24), some (vi lo), some (vi hi), some (vi 2), some (vi (((((0 + (tapF I (I 24 3))) - 48) * 10) + (tapF I (I 24 3 + 1))) - 48))]) (S' := [vi (((((0 + (tapF I (I 24 3))) - 48) * 10) + (tapF I (I 24 3 + 1))) - 48)]) k68_35 rfl rfl ?_
          refine ev_s1 (L' := [some (vr 24), some (vi lo), some (vi hi), some (vi 2), some (vi (((((0 + (tapF I (I 24 3))) - 48) * 10) + (tapF I (I 24 3 + 1))) - 48))]) (S' := [vi 10, vi (((((0 + (tapF I (I 24 3))) - 48) * 10) + (tapF I (I 24 3 + 1))) - 48)]) k68_37 rfl rfl ?_
          refine ev_s1 (L' := [some (vr 24), some (vi lo), some (vi hi), some (vi 2), some (vi (((((0 + (tapF I (I 24 3))) - 48) * 10) + (tapF I (I 24 3 + 1))) - 48))]) (S' := [vi ((((((0 + (tapF I (I 24 3))) - 48) * 10) + (tapF I (I 24 3 + 1))) - 48) * 10)]) k68_39 rfl rfl ?_
          refine ev_s1 (L' := [some (vr 24), some (vi lo), some (vi hi), some (vi 2), some (vi (((((0 + (tapF I (I 24 3))) - 48) * 10) + (tapF I (I 24 3 + 1))) - 48))]) (S' := [vr 24, vi ((((((0 + (tapF I (I 24 3))) - 48) * 10) + (tapF I (I 24 3 + 1))) - 48) * 10)]) k68_40 rfl rfl ?_
          refine ev_s1 (L' := [some (vr 24), some (vi lo), some (vi hi), some (vi 2), some (vi (((((0 + (tapF I (I 24 3))) - 48) * 10) + (tapF I (I 24 3 + 1))) - 48))]) (S' := [vr 24, vr 24, vi ((((((0 + (tapF I (I 24 3))) - 48) * 10) + (tapF I (I 24 3 + 1))) - 48) * 10)]) k68_41 rfl rfl ?_
          refine ev_getI k68_42 (by decide) (rfl) ?_
          show Ev d 68 45 [some (vr 24), some (vi lo), some (vi hi), some (vi 2), some (vi (((((0 + (tapF I (I 24 3))) - 48) * 10) + (tapF I (I 24 3 + 1))) - 48))] [vi (I 24 3), vr 24, vi ((((((0 + (tapF I (I 24 3))) - 48) * 10) + (tapF I (I 24 3 + 1))) - 48) * 10)] (SX I ch kd) Q
          have rr8 := hI 24 3
          refine ev_s1 (L' := [some (vr 24), some (vi lo), some (vi hi), some (vi 2), some (vi (((((0 + (tapF I (I 24 3))) - 48) * 10) + (tapF I (I 24 3 + 1))) - 48))]) (S' := [vi 2, vi (I 24 3), vr 24, vi ((((((0 + (tapF I (I 24 3))) - 48) * 10) + (tapF I (I 24 3 + 1))) - 48) * 10)]) k68_45 rfl rfl ?_
          refine ev_s1 (L' := [some (vr 24), some (vi lo), some (vi hi), some (vi 2), some (vi (((((0 + (tapF I (I 24 3))) - 48) * 10) + (tapF I (I 24 3 + 1))) - 48))]) (S' := [vi ((I 24 3) + 2), vr 24, vi ((((((0 + (tapF I (I 24 3))) - 48) * 10) + (tapF I (I 24 3 + 1))) - 48) * 10)]) k68_46 rfl rfl ?_
          refine ev_virt (a := [vi (I 24 3 + 2)]) (S' := [vi ((((((0 + (tapF I (I 24 3))) - 48) * 10) + (tapF I (I 24 3 + 1))) - 48) * 10)]) k68_47 rfl (Nat.le_of_ble_eq_true rfl) (by decide) (rfl) (by omega) ?_
          refine c_byteAt hI z0 z1 (by omega) (i := I 24 3 + 2) (by omega) (by omega) (?_)
          have tr47 := tap_rg hI (I 24 3 + 2)
          show Ev d 68 50 [some (vr 24), some (vi lo), some (vi hi), some (vi 2), some (vi (((((0 + (tapF I (I 24 3))) - 48) * 10) + (tapF I (I 24 3 + 1))) - 48))] [vi (tapF I (I 24 3 + 2)), vi ((((((0 + (tapF I (I 24 3))) - 48) * 10) + (tapF I (I 24 3 + 1))) - 48) * 10)] (SX I ch kd) Q
          refine ev_s1 (L' := [some (vr 24), some (vi lo), some (vi hi), some (vi 2), some (vi (((((0 + (tapF I (I 24 3))) - 48) * 10) + (tapF I (I 24 3 + 1))) - 48))]) (S' := [vi (((((((0 + (tapF I (I 24 3))) - 48) * 10) + (tapF I (I 24 3 + 1))) - 48) * 10) + (tapF I (I 24 3 + 2)))]) k68_50 rfl rfl ?_
          refine ev_s1 (L' := [some (vr 24), some (vi lo), some (vi hi), some (vi 2), some (vi (((((0 + (tapF I (I 24 3))) - 48) * 10) + (tapF I (I 24 3 + 1))) - 48))]) (S' := [vi 48, vi (((((((0 + (tapF I (I 24 3))) - 48) * 10) + (tapF I (I 24 3 + 1))) - 48) * 10) + (tapF I (I 24 3 + 2)))]) k68_51 rfl rfl ?_
          refine ev_s1 (L' := [some (vr 24), some (vi lo), some (vi hi), some (vi 2), some (vi (((((0 + (tapF I (I 24 3))) - 48) * 10) + (tapF I (I 24 3 + 1))) - 48))]) (S' := [vi ((((((((0 + (tapF I (I 24 3))) - 48) * 10) + (tapF I (I 24 3 + 1))) - 48) * 10) + (tapF I (I 24 3 + 2))) - 48)]) k68_53 rfl rfl ?_
          refine ev_s1 (L' := [some (vr 24), some (vi lo), some (vi hi), some (vi 2), some (vi ((((((((0 + (tapF I (I 24 3))) - 48) * 10) + (tapF I (I 24 3 + 1))) - 48) * 10) + (tapF I (I 24 3 + 2))) - 48))]) (S' := []) k68_54 rfl rfl ?_
          refine ev_s1 (L' := [some (vr 24), some (vi lo), some (vi hi), some (vi 3), some (vi ((((((((0 + (tapF I (I 24 3))) - 48) * 10) + (tapF I (I 24 3 + 1))) - 48) * 10) + (tapF I (I 24 3 + 2))) - 48))]) (S' := []) k68_56 rfl rfl ?_
          refine ev_goto (t := 14) k68_59 rfl ?_
          refine ev_s1 (L' := [some (vr 24), some (vi lo), some (vi hi), some (vi 3), some (vi ((((((((0 + (tapF I (I 24 3))) - 48) * 10) + (tapF I (I 24 3 + 1))) - 48) * 10) + (tapF I (I 24 3 + 2))) - 48))]) (S' := [vi 3]) k68_14 rfl rfl ?_
          refine ev_s1 (L' := [some (vr 24), some (vi lo), some (vi hi), some (vi 3), some (vi ((((((((0 + (tapF I (I 24 3))) - 48) * 10) + (tapF I (I 24 3 + 1))) - 48) * 10) + (tapF I (I 24 3 + 2))) - 48))]) (S' := [vi 2, vi 3]) k68_15 rfl rfl ?_
          refine ev_c_gt (t := 62) k68_16 rfl (by omega) (by omega) (by omega) (by omega) (fun _ => ?_) (fun h => absurd h (by decide))
          refine ev_s1 (L' := [some (vr 24), some (vi lo), some (vi hi), some (vi 3), some (vi ((((((((0 + (tapF I (I 24 3))) - 48) * 10) + (tapF I (I 24 3 + 1))) - 48) * 10) + (tapF I (I 24 3 + 2))) - 48))]) (S' := [vi 3]) k68_62 rfl rfl ?_
          refine ev_z_eq (t := 71) k68_63 rfl (by omega) (by omega) (fun h => absurd h (by decide)) (fun _ => ?_)
          refine ev_s1 (L' := [some (vr 24), some (vi lo), some (vi hi), some (vi 3), some (vi ((((((((0 + (tapF I (I 24 3))) - 48) * 10) + (tapF I (I 24 3 + 1))) - 48) * 10) + (tapF I (I 24 3 + 2))) - 48))]) (S' := [vi 3]) k68_66 rfl rfl ?_
          refine ev_s1 (L' := [some (vr 24), some (vi lo), some (vi hi), some (vi 3), some (vi ((((((((0 + (tapF I (I 24 3))) - 48) * 10) + (tapF I (I 24 3 + 1))) - 48) * 10) + (tapF I (I 24 3 + 2))) - 48))]) (S' := [vi 2, vi 3]) k68_67 rfl rfl ?_
          refine ev_c_le (t := 79) k68_68 rfl (by omega) (by omega) (by omega) (by omega) (fun h => absurd h (by decide)) (fun _ => ?_)
          refine ev_s1 (L' := [some (vr 24), some (vi lo), some (vi hi), some (vi 3), some (vi ((((((((0 + (tapF I (I 24 3))) - 48) * 10) + (tapF I (I 24 3 + 1))) - 48) * 10) + (tapF I (I 24 3 + 2))) - 48))]) (S' := [vr 24]) k68_71 rfl rfl ?_
          refine ev_s1 (L' := [some (vr 24), some (vi lo), some (vi hi), some (vi 3), some (vi ((((((((0 + (tapF I (I 24 3))) - 48) * 10) + (tapF I (I 24 3 + 1))) - 48) * 10) + (tapF I (I 24 3 + 2))) - 48))]) (S' := [vi 1, vr 24]) k68_72 rfl rfl ?_
          refine ev_virt (a := [vi 1]) (S' := []) k68_73 rfl (Nat.le_of_ble_eq_true rfl) (by decide) (rfl) (by omega) ?_
          refine c_fail hI (b := 1) (by omega) (by omega) (fun _ => ?_) (fun hh => absurd (show I 24 4 = 0 by omega) hh)
          have hI9 := rg_up hI (k := 24) (j := 4) (z := 1) (by omega) (by omega)
          generalize hE9 : up I 24 4 1 = I9 at hI9 ⊢
          show Ev d 68 76 [some (vr 24), some (vi lo), some (vi hi), some (vi 3), some (vi ((((((((0 + (tapF I (I 24 3))) - 48) * 10) + (tapF I (I 24 3 + 1))) - 48) * 10) + (tapF I (I 24 3 + 2))) - 48))] [] (SX I9 ch kd) Q
          refine ev_goto (t := 109) k68_76 rfl ?_
          refine ev_s1 (L' := [some (vr 24), some (vi lo), some (vi hi), some (vi 3), some (vi ((((((((0 + (tapF I (I 24 3))) - 48) * 10) + (tapF I (I 24 3 + 1))) - 48) * 10) + (tapF I (I 24 3 + 2))) - 48))]) (S' := [vi ((((((((0 + (tapF I (I 24 3))) - 48) * 10) + (tapF I (I 24 3 + 1))) - 48) * 10) + (tapF I (I 24 3 + 2))) - 48)]) k68_109 rfl rfl ?_
          refine ev_ireturn k68_111 ?_
          subst hE9
          have hL : nmL (tapF I) (I 24 3) = 3 := by unfold nmL; rw [if_neg (by rw [hg0]; decide), if_neg (by rw [hg1]; decide), if_neg (by rw [hg2]; decide)]
          have hV : nmV (tapF I) (I 24 3) = ((0 * 10 + tapF I (I 24 3) - 48) * 10 + tapF I (I 24 3 + 1) - 48) * 10 + tapF I (I 24 3 + 2) - 48 := by unfold nmV; rw [if_neg (by rw [hg0]; decide), if_neg (by rw [hg1]; decide), if_neg (by rw [hg2]; decide)]
          rw [hL, hV] at hB
          exact hB (by omega) (by omega)
        · show Ev d 68 32 [some (vr 24), some (vi lo), some (vi hi), some (vi 2), some (vi (((((0 + (tapF I (I 24 3))) - 48) * 10) + (tapF I (I 24 3 + 1))) - 48))] [vi 0] (SX I ch kd) Q
          refine ev_z_eq (t := 62) k68_32 rfl (by omega) (by omega) (fun _ => ?_) (fun h => absurd h (by decide))
          refine ev_s1 (L' := [some (vr 24), some (vi lo), some (vi hi), some (vi 2), some (vi (((((0 + (tapF I (I 24 3))) - 48) * 10) + (tapF I (I 24 3 + 1))) - 48))]) (S' := [vi 2]) k68_62 rfl rfl ?_
          refine ev_z_eq (t := 71) k68_63 rfl (by omega) (by omega) (fun h => absurd h (by decide)) (fun _ => ?_)
          refine ev_s1 (L' := [some (vr 24), some (vi lo), some (vi hi), some (vi 2), some (vi (((((0 + (tapF I (I 24 3))) - 48) * 10) + (tapF I (I 24 3 + 1))) - 48))]) (S' := [vi 2]) k68_66 rfl rfl ?_
          refine ev_s1 (L' := [some (vr 24), some (vi lo), some (vi hi), some (vi 2), some (vi (((((0 + (tapF I (I 24 3))) - 48) * 10) + (tapF I (I 24 3 + 1))) - 48))]) (S' := [vi 2, vi 2]) k68_67 rfl rfl ?_
          refine ev_c_le (t := 79) k68_68 rfl (by omega) (by omega) (by omega) (by omega) (fun _ => ?_) (fun h => absurd h (by decide))
          refine ev_s1 (L' := [some (vr 24), some (vi lo), some (vi hi), some (vi 2), some (vi (((((0 + (tapF I (I 24 3))) - 48) * 10) + (tapF I (I 24 3 + 1))) - 48))]) (S' := [vi (((((0 + (tapF I (I 24 3))) - 48) * 10) + (tapF I (I 24 3 + 1))) - 48)]) k68_79 rfl rfl ?_
          refine ev_s1 (L' := [some (vr 24), some (vi lo), some (vi hi), some (vi 2), some (vi (((((0 + (tapF I (I 24 3))) - 48) * 10) + (tapF I (I 24 3 + 1))) - 48))]) (S' := [vi lo, vi (((((0 + (tapF I (I 24 3))) - 48) * 10) + (tapF I (I 24 3 + 1))) - 48)]) k68_81 rfl rfl ?_
          refine ev_c_lt (t := 91) k68_82 rfl (by omega) (by omega) (by omega) (by omega) (fun h10 => ?_) (fun h10 => ?_)
          · refine ev_s1 (L' := [some (vr 24), some (vi lo), some (vi hi), some (vi 2), some (vi (((((0 + (tapF I (I 24 3))) - 48) * 10) + (tapF I (I 24 3 + 1))) - 48))]) (S' := [vr 24]) k68_91 rfl rfl ?_
            refine ev_s1 (L' := [some (vr 24), some (vi lo), some (vi hi), some (vi 2), some (vi (((((0 + (tapF I (I 24 3))) - 48) * 10) + (tapF I (I 24 3 + 1))) - 48))]) (S' := [vi 2, vr 24]) k68_92 rfl rfl ?_
            refine ev_virt (a := [vi 2]) (S' := []) k68_93 rfl (Nat.le_of_ble_eq_true rfl) (by decide) (rfl) (by omega) ?_
            refine c_fail hI (b := 2) (by omega) (by omega) (fun _ => ?_) (fun hh => absurd (show I 24 4 = 0 by omega) hh)
            have hI11 := rg_up hI (k := 24) (j := 4) (z := 2) (by omega) (by omega)
            generalize hE11 : up I 24 4 2 = I11 at hI11 ⊢
            show Ev d 68 96 [some (vr 24), some (vi lo), some (vi hi), some (vi 2), some (vi (((((0 + (tapF I (I 24 3))) - 48) * 10) + (tapF I (I 24 3 + 1))) - 48))] [] (SX I11 ch kd) Q
            refine ev_goto (t := 109) k68_96 rfl ?_
            refine ev_s1 (L' := [some (vr 24), some (vi lo), some (vi hi), some (vi 2), some (vi (((((0 + (tapF I (I 24 3))) - 48) * 10) + (tapF I (I 24 3 + 1))) - 48))]) (S' := [vi (((((0 + (tapF I (I 24 3))) - 48) * 10) + (tapF I (I 24 3 + 1))) - 48)]) k68_109 rfl rfl ?_
            refine ev_ireturn k68_111 ?_
            subst hE11
            have hL : nmL (tapF I) (I 24 3) = 2 := by unfold nmL; rw [if_neg (by rw [hg0]; decide), if_neg (by rw [hg1]; decide), if_pos hg2]
            have hV : nmV (tapF I) (I 24 3) = (0 * 10 + tapF I (I 24 3) - 48) * 10 + tapF I (I 24 3 + 1) - 48 := by unfold nmV; rw [if_neg (by rw [hg0]; decide), if_neg (by rw [hg1]; decide), if_pos hg2]
            rw [hL, hV] at hO
            exact hO (by omega) (by omega) (by omega)
          · refine ev_s1 (L' := [some (vr 24), some (vi lo), some (vi hi), some (vi 2), some (vi (((((0 + (tapF I (I 24 3))) - 48) * 10) + (tapF I (I 24 3 + 1))) - 48))]) (S' := [vi (((((0 + (tapF I (I 24 3))) - 48) * 10) + (tapF I (I 24 3 + 1))) - 48)]) k68_85 rfl rfl ?_
            refine ev_s1 (L' := [some (vr 24), some (vi lo), some (vi hi), some (vi 2), some (vi (((((0 + (tapF I (I 24 3))) - 48) * 10) + (tapF I (I 24 3 + 1))) - 48))]) (S' := [vi hi, vi (((((0 + (tapF I (I 24 3))) - 48) * 10) + (tapF I (I 24 3 + 1))) - 48)]) k68_87 rfl rfl ?_
            refine ev_c_le (t := 99) k68_88 rfl (by omega) (by omega) (by omega) (by omega) (fun h12 => ?_) (fun h12 => ?_)
            · refine ev_s1 (L' := [some (vr 24), some (vi lo), some (vi hi), some (vi 2), some (vi (((((0 + (tapF I (I 24 3))) - 48) * 10) + (tapF I (I 24 3 + 1))) - 48))]) (S' := [vr 24]) k68_99 rfl rfl ?_
              refine ev_s1 (L' := [some (vr 24), some (vi lo), some (vi hi), some (vi 2), some (vi (((((0 + (tapF I (I 24 3))) - 48) * 10) + (tapF I (I 24 3 + 1))) - 48))]) (S' := [vr 24, vr 24]) k68_100 rfl rfl ?_
              refine ev_getI k68_101 (by decide) (rfl) ?_
              show Ev d 68 104 [some (vr 24), some (vi lo), some (vi hi), some (vi 2), some (vi (((((0 + (tapF I (I 24 3))) - 48) * 10) + (tapF I (I 24 3 + 1))) - 48))] [vi (I 24 3), vr 24] (SX I ch kd) Q
              have rr13 := hI 24 3
              refine ev_s1 (L' := [some (vr 24), some (vi lo), some (vi hi), some (vi 2), some (vi (((((0 + (tapF I (I 24 3))) - 48) * 10) + (tapF I (I 24 3 + 1))) - 48))]) (S' := [vi 2, vi (I 24 3), vr 24]) k68_104 rfl rfl ?_
              refine ev_s1 (L' := [some (vr 24), some (vi lo), some (vi hi), some (vi 2), some (vi (((((0 + (tapF I (I 24 3))) - 48) * 10) + (tapF I (I 24 3 + 1))) - 48))]) (S' := [vi ((I 24 3) + 2), vr 24]) k68_105 rfl rfl ?_
              refine ev_putI k68_106 (by decide) (rfl) ?_
              show Ev d 68 109 [some (vr 24), some (vi lo), some (vi hi), some (vi 2), some (vi (((((0 + (tapF I (I 24 3))) - 48) * 10) + (tapF I (I 24 3 + 1))) - 48))] [] (SX (up I 24 3 (I 24 3 + 2)) ch kd) Q
              have hI14 := rg_up hI (k := 24) (j := 3) (z := I 24 3 + 2) (by omega) (by omega)
              generalize hE14 : up I 24 3 (I 24 3 + 2) = I14 at hI14 ⊢
              refine ev_s1 (L' := [some (vr 24), some (vi lo), some (vi hi), some (vi 2), some (vi (((((0 + (tapF I (I 24 3))) - 48) * 10) + (tapF I (I 24 3 + 1))) - 48))]) (S' := [vi (((((0 + (tapF I (I 24 3))) - 48) * 10) + (tapF I (I 24 3 + 1))) - 48)]) k68_109 rfl rfl ?_
              refine ev_ireturn k68_111 ?_
              subst hE14
              have hL : nmL (tapF I) (I 24 3) = 2 := by unfold nmL; rw [if_neg (by rw [hg0]; decide), if_neg (by rw [hg1]; decide), if_pos hg2]
              have hV : nmV (tapF I) (I 24 3) = (0 * 10 + tapF I (I 24 3) - 48) * 10 + tapF I (I 24 3 + 1) - 48 := by unfold nmV; rw [if_neg (by rw [hg0]; decide), if_neg (by rw [hg1]; decide), if_pos hg2]
              rw [hL, hV] at hG
              exact hG (by omega) (by omega) (by omega)
            · refine ev_s1 (L' := [some (vr 24), some (vi lo), some (vi hi), some (vi 2), some (vi (((((0 + (tapF I (I 24 3))) - 48) * 10) + (tapF I (I 24 3 + 1))) - 48))]) (S' := [vr 24]) k68_91 rfl rfl ?_
              refine ev_s1 (L' := [some (vr 24), some (vi lo), some (vi hi), some (vi 2), some (vi (((((0 + (tapF I (I 24 3))) - 48) * 10) + (tapF I (I 24 3 + 1))) - 48))]) (S' := [vi 2, vr 24]) k68_92 rfl rfl ?_
              refine ev_virt (a := [vi 2]) (S' := []) k68_93 rfl (Nat.le_of_ble_eq_true rfl) (by decide) (rfl) (by omega) ?_
              refine c_fail hI (b := 2) (by omega) (by omega) (fun _ => ?_) (fun hh => absurd (show I 24 4 = 0 by omega) hh)
              have hI15 := rg_up hI (k := 24) (j := 4) (z := 2) (by omega) (by omega)
              generalize hE15 : up I 24 4 2 = I15 at hI15 ⊢
              show Ev d 68 96 [some (vr 24), some (vi lo), some (vi hi), some (vi 2), some (vi (((((0 + (tapF I (I 24 3))) - 48) * 10) + (tapF I (I 24 3 + 1))) - 48))] [] (SX I15 ch kd) Q
              refine ev_goto (t := 109) k68_96 rfl ?_
              refine ev_s1 (L' := [some (vr 24), some (vi lo), some (vi hi), some (vi 2), some (vi (((((0 + (tapF I (I 24 3))) - 48) * 10) + (tapF I (I 24 3 + 1))) - 48))]) (S' := [vi (((((0 + (tapF I (I 24 3))) - 48) * 10) + (tapF I (I 24 3 + 1))) - 48)]) k68_109 rfl rfl ?_
              refine ev_ireturn k68_111 ?_
              subst hE15
              have hL : nmL (tapF I) (I 24 3) = 2 := by unfold nmL; rw [if_neg (by rw [hg0]; decide), if_neg (by rw [hg1]; decide), if_pos hg2]
              have hV : nmV (tapF I) (I 24 3) = (0 * 10 + tapF I (I 24 3) - 48) * 10 + tapF I (I 24 3 + 1) - 48 := by unfold nmV; rw [if_neg (by rw [hg0]; decide), if_neg (by rw [hg1]; decide), if_pos hg2]
              rw [hL, hV] at hO
              exact hO (by omega) (by omega) (by omega)
      · show Ev d 68 32 [some (vr 24), some (vi lo), some (vi hi), some (vi 1), some (vi ((0 + (tapF I (I 24 3))) - 48))] [vi 0] (SX I ch kd) Q
        refine ev_z_eq (t := 62) k68_32 rfl (by omega) (by omega) (fun _ => ?_) (fun h => absurd h (by decide))
        refine ev_s1 (L' := [some (vr 24), some (vi lo), some (vi hi), some (vi 1), some (vi ((0 + (tapF I (I 24 3))) - 48))]) (S' := [vi 1]) k68_62 rfl rfl ?_
        refine ev_z_eq (t := 71) k68_63 rfl (by omega) (by omega) (fun h => absurd h (by decide)) (fun _ => ?_)
        refine ev_s1 (L' := [some (vr 24), some (vi lo), some (vi hi), some (vi 1), some (vi ((0 + (tapF I (I 24 3))) - 48))]) (S' := [vi 1]) k68_66 rfl rfl ?_
        refine ev_s1 (L' := [some (vr 24), some (vi lo), some (vi hi), some (vi 1), some (vi ((0 + (tapF I (I 24 3))) - 48))]) (S' := [vi 2, vi 1]) k68_67 rfl rfl ?_
        refine ev_c_le (t := 79) k68_68 rfl (by omega) (by omega) (by omega) (by omega) (fun _ => ?_) (fun h => absurd h (by decide))
        refine ev_s1 (L' := [some (vr 24), some (vi lo), some (vi hi), some (vi 1), some (vi ((0 + (tapF I (I 24 3))) - 48))]) (S' := [vi ((0 + (tapF I (I 24 3))) - 48)]) k68_79 rfl rfl ?_
        refine ev_s1 (L' := [some (vr 24), some (vi lo), some (vi hi), some (vi 1), some (vi ((0 + (tapF I (I 24 3))) - 48))]) (S' := [vi lo, vi ((0 + (tapF I (I 24 3))) - 48)]) k68_81 rfl rfl ?_
        refine ev_c_lt (t := 91) k68_82 rfl (by omega) (by omega) (by omega) (by omega) (fun h16 => ?_) (fun h16 => ?_)
        · refine ev_s1 (L' := [some (vr 24), some (vi lo), some (vi hi), some (vi 1), some (vi ((0 + (tapF I (I 24 3))) - 48))]) (S' := [vr 24]) k68_91 rfl rfl ?_
          refine ev_s1 (L' := [some (vr 24), some (vi lo), some (vi hi), some (vi 1), some (vi ((0 + (tapF I (I 24 3))) - 48))]) (S' := [vi 2, vr 24]) k68_92 rfl rfl ?_
          refine ev_virt (a := [vi 2]) (S' := []) k68_93 rfl (Nat.le_of_ble_eq_true rfl) (by decide) (rfl) (by omega) ?_
          refine c_fail hI (b := 2) (by omega) (by omega) (fun _ => ?_) (fun hh => absurd (show I 24 4 = 0 by omega) hh)
          have hI17 := rg_up hI (k := 24) (j := 4) (z := 2) (by omega) (by omega)
          generalize hE17 : up I 24 4 2 = I17 at hI17 ⊢
          show Ev d 68 96 [some (vr 24), some (vi lo), some (vi hi), some (vi 1), some (vi ((0 + (tapF I (I 24 3))) - 48))] [] (SX I17 ch kd) Q
          refine ev_goto (t := 109) k68_96 rfl ?_
          refine ev_s1 (L' := [some (vr 24), some (vi lo), some (vi hi), some (vi 1), some (vi ((0 + (tapF I (I 24 3))) - 48))]) (S' := [vi ((0 + (tapF I (I 24 3))) - 48)]) k68_109 rfl rfl ?_
          refine ev_ireturn k68_111 ?_
          subst hE17
          have hL : nmL (tapF I) (I 24 3) = 1 := by unfold nmL; rw [if_neg (by rw [hg0]; decide), if_pos hg1]
          have hV : nmV (tapF I) (I 24 3) = 0 * 10 + tapF I (I 24 3) - 48 := by unfold nmV; rw [if_neg (by rw [hg0]; decide), if_pos hg1]
          rw [hL, hV] at hO
          exact hO (by omega) (by omega) (by omega)
        · refine ev_s1 (L' := [some (vr 24), some (vi lo), some (vi hi), some (vi 1), some (vi ((0 + (tapF I (I 24 3))) - 48))]) (S' := [vi ((0 + (tapF I (I 24 3))) - 48)]) k68_85 rfl rfl ?_
          refine ev_s1 (L' := [some (vr 24), some (vi lo), some (vi hi), some (vi 1), some (vi ((0 + (tapF I (I 24 3))) - 48))]) (S' := [vi hi, vi ((0 + (tapF I (I 24 3))) - 48)]) k68_87 rfl rfl ?_
          refine ev_c_le (t := 99) k68_88 rfl (by omega) (by omega) (by omega) (by omega) (fun h18 => ?_) (fun h18 => ?_)
          · refine ev_s1 (L' := [some (vr 24), some (vi lo), some (vi hi), some (vi 1), some (vi ((0 + (tapF I (I 24 3))) - 48))]) (S' := [vr 24]) k68_99 rfl rfl ?_
            refine ev_s1 (L' := [some (vr 24), some (vi lo), some (vi hi), some (vi 1), some (vi ((0 + (tapF I (I 24 3))) - 48))]) (S' := [vr 24, vr 24]) k68_100 rfl rfl ?_
            refine ev_getI k68_101 (by decide) (rfl) ?_
            show Ev d 68 104 [some (vr 24), some (vi lo), some (vi hi), some (vi 1), some (vi ((0 + (tapF I (I 24 3))) - 48))] [vi (I 24 3), vr 24] (SX I ch kd) Q
            have rr19 := hI 24 3
            refine ev_s1 (L' := [some (vr 24), some (vi lo), some (vi hi), some (vi 1), some (vi ((0 + (tapF I (I 24 3))) - 48))]) (S' := [vi 1, vi (I 24 3), vr 24]) k68_104 rfl rfl ?_
            refine ev_s1 (L' := [some (vr 24), some (vi lo), some (vi hi), some (vi 1), some (vi ((0 + (tapF I (I 24 3))) - 48))]) (S' := [vi ((I 24 3) + 1), vr 24]) k68_105 rfl rfl ?_
            refine ev_putI k68_106 (by decide) (rfl) ?_
            show Ev d 68 109 [some (vr 24), some (vi lo), some (vi hi), some (vi 1), some (vi ((0 + (tapF I (I 24 3))) - 48))] [] (SX (up I 24 3 (I 24 3 + 1)) ch kd) Q
            have hI20 := rg_up hI (k := 24) (j := 3) (z := I 24 3 + 1) (by omega) (by omega)
            generalize hE20 : up I 24 3 (I 24 3 + 1) = I20 at hI20 ⊢
            refine ev_s1 (L' := [some (vr 24), some (vi lo), some (vi hi), some (vi 1), some (vi ((0 + (tapF I (I 24 3))) - 48))]) (S' := [vi ((0 + (tapF I (I 24 3))) - 48)]) k68_109 rfl rfl ?_
            refine ev_ireturn k68_111 ?_
            subst hE20
            have hL : nmL (tapF I) (I 24 3) = 1 := by unfold nmL; rw [if_neg (by rw [hg0]; decide), if_pos hg1]
            have hV : nmV (tapF I) (I 24 3) = 0 * 10 + tapF I (I 24 3) - 48 := by unfold nmV; rw [if_neg (by rw [hg0]; decide), if_pos hg1]
            rw [hL, hV] at hG
            exact hG (by omega) (by omega) (by omega)
          · refine ev_s1 (L' := [some (vr 24), some (vi lo), some (vi hi), some (vi 1), some (vi ((0 + (tapF I (I 24 3))) - 48))]) (S' := [vr 24]) k68_91 rfl rfl ?_
            refine ev_s1 (L' := [some (vr 24), some (vi lo), some (vi hi), some (vi 1), some (vi ((0 + (tapF I (I 24 3))) - 48))]) (S' := [vi 2, vr 24]) k68_92 rfl rfl ?_
            refine ev_virt (a := [vi 2]) (S' := []) k68_93 rfl (Nat.le_of_ble_eq_true rfl) (by decide) (rfl) (by omega) ?_
            refine c_fail hI (b := 2) (by omega) (by omega) (fun _ => ?_) (fun hh => absurd (show I 24 4 = 0 by omega) hh)
            have hI21 := rg_up hI (k := 24) (j := 4) (z := 2) (by omega) (by omega)
            generalize hE21 : up I 24 4 2 = I21 at hI21 ⊢
            show Ev d 68 96 [some (vr 24), some (vi lo), some (vi hi), some (vi 1), some (vi ((0 + (tapF I (I 24 3))) - 48))] [] (SX I21 ch kd) Q
            refine ev_goto (t := 109) k68_96 rfl ?_
            refine ev_s1 (L' := [some (vr 24), some (vi lo), some (vi hi), some (vi 1), some (vi ((0 + (tapF I (I 24 3))) - 48))]) (S' := [vi ((0 + (tapF I (I 24 3))) - 48)]) k68_109 rfl rfl ?_
            refine ev_ireturn k68_111 ?_
            subst hE21
            have hL : nmL (tapF I) (I 24 3) = 1 := by unfold nmL; rw [if_neg (by rw [hg0]; decide), if_pos hg1]
            have hV : nmV (tapF I) (I 24 3) = 0 * 10 + tapF I (I 24 3) - 48 := by unfold nmV; rw [if_neg (by rw [hg0]; decide), if_pos hg1]
            rw [hL, hV] at hO
            exact hO (by omega) (by omega) (by omega)
    · show Ev d 68 32 [some (vr 24), some (vi lo), some (vi hi), some (vi 0), some (vi 0)] [vi 0] (SX I ch kd) Q
      refine ev_z_eq (t := 62) k68_32 rfl (by omega) (by omega) (fun _ => ?_) (fun h => absurd h (by decide))
      refine ev_s1 (L' := [some (vr 24), some (vi lo), some (vi hi), some (vi 0), some (vi 0)]) (S' := [vi 0]) k68_62 rfl rfl ?_
      refine ev_z_eq (t := 71) k68_63 rfl (by omega) (by omega) (fun _ => ?_) (fun h => absurd h (by decide))
      refine ev_s1 (L' := [some (vr 24), some (vi lo), some (vi hi), some (vi 0), some (vi 0)]) (S' := [vr 24]) k68_71 rfl rfl ?_
      refine ev_s1 (L' := [some (vr 24), some (vi lo), some (vi hi), some (vi 0), some (vi 0)]) (S' := [vi 1, vr 24]) k68_72 rfl rfl ?_
      refine ev_virt (a := [vi 1]) (S' := []) k68_73 rfl (Nat.le_of_ble_eq_true rfl) (by decide) (rfl) (by omega) ?_
      refine c_fail hI (b := 1) (by omega) (by omega) (fun _ => ?_) (fun hh => absurd (show I 24 4 = 0 by omega) hh)
      have hI22 := rg_up hI (k := 24) (j := 4) (z := 1) (by omega) (by omega)
      generalize hE22 : up I 24 4 1 = I22 at hI22 ⊢
      show Ev d 68 76 [some (vr 24), some (vi lo), some (vi hi), some (vi 0), some (vi 0)] [] (SX I22 ch kd) Q
      refine ev_goto (t := 109) k68_76 rfl ?_
      refine ev_s1 (L' := [some (vr 24), some (vi lo), some (vi hi), some (vi 0), some (vi 0)]) (S' := [vi 0]) k68_109 rfl rfl ?_
      refine ev_ireturn k68_111 ?_
      subst hE22
      have hL : nmL (tapF I) (I 24 3) = 0 := by unfold nmL; rw [if_pos hg0]
      have hV : nmV (tapF I) (I 24 3) = 0 := by unfold nmV; rw [if_pos hg0]
      rw [hL, hV] at hB
      exact hB (by omega) (by omega)
  · refine ev_s1 (L' := [some (vr 24), some (vi lo), some (vi hi), none, none]) (S' := [vi lo]) k68_7 rfl rfl ?_
    refine ev_ireturn k68_8 ?_
    exact hN (by omega)

theorem c_number {d : Nat} {I : Nat → Int → Int} {ch : Int → Nat} {kd : Nat → Nat} {Q : Option jV → jS → Prop} (hI : Rg I) (z0 : 0 ≤ I 25 1) (z1 : I 25 1 ≤ 100) {p μ : Int} (p0 : 0 ≤ p) (p1 : p < 1990) (m0 : 0 ≤ μ) (m1 : μ ≤ 3) (hd : 3 ≤ d) {lo hi : Int} (l0 : 0 ≤ lo) (l1 : lo ≤ 99) (u0 : 0 ≤ hi) (u1 : hi ≤ 99) (hQ : Q (some (vi (nuV (tapF I) p μ lo))) (SX (rdst I (nuP (tapF I) p μ lo hi) (nuM (tapF I) p μ lo hi)) ch kd)) : Cl d 68 [vr 24, vi lo, vi hi] (SX (rdst I p μ) ch kd) Q := by
  have e1 : rdst I p μ 25 1 = I 25 1 := rdst_o (by decide)
  refine c_readNumber (rdst_rg hI p0 (by omega) m0 m1) (by rw [e1]; exact z0) (by rw [e1]; exact z1) (by rw [rdst_p]; exact p0) (by rw [rdst_p]; omega) hd l0 l1 u0 u1 (fun h => ?_) (fun h h2 => ?_) (fun h h2 h3 => ?_) (fun h h2 h3 => ?_)
  · rw [rdst_m] at h
    unfold nuV nuP nuM at hQ
    rw [if_pos h, if_neg (fun q => h q.1), if_pos h] at hQ
    exact hQ
  · rw [rdst_m] at h
    rw [tap_rdst, rdst_p] at h2 ⊢
    have e2 : nuM (tapF I) p μ lo hi = 1 := by unfold nuM; rw [if_neg (fun q => q h), if_pos h2]
    unfold nuV nuP at hQ
    rw [e2, if_neg (fun q => q h), if_neg (fun q => absurd q.2 (by decide))] at hQ
    rw [rdst_up4]
    exact hQ
  · rw [rdst_m] at h
    rw [tap_rdst, rdst_p] at h2 h3 ⊢
    have e2 : nuM (tapF I) p μ lo hi = 2 := by unfold nuM; rw [if_neg (fun q => q h), if_neg h2, if_pos h3]
    unfold nuV nuP at hQ
    rw [e2, if_neg (fun q => q h), if_neg (fun q => absurd q.2 (by decide))] at hQ
    rw [rdst_up4]
    exact hQ
  · rw [rdst_m] at h
    rw [tap_rdst, rdst_p] at h2 h3 ⊢
    have e2 : nuM (tapF I) p μ lo hi = 0 := by unfold nuM; rw [if_neg (fun q => q h), if_neg h2, if_neg h3]
    unfold nuV nuP at hQ
    rw [e2, if_neg (fun q => q h), if_pos ⟨h, rfl⟩] at hQ
    rw [rdst_up3, h]
    exact hQ
