/-! a page being written: its first n numbers are f's -/
def wpg (I : Nat → Int → Int) (k : Nat) (f : Int → Int) (n : Int) : Nat → Int → Int := fun a b => if a = k + 1 ∧ 0 ≤ b ∧ b < n then f b else if a = k ∧ b = 1 then n else if a = k ∧ b = 2 then 0 else I a b
theorem wpg_0 {I : Nat → Int → Int} {k : Nat} {f : Int → Int} : up (up I k 1 0) k 2 0 = wpg I k f 0 := by
  funext a b
  unfold wpg up
  rw [if_neg (show ¬ (a = k + 1 ∧ 0 ≤ b ∧ b < 0) by omega)]
  by_cases h2 : a = k ∧ b = 2
  · rw [if_pos h2, if_neg (by omega), if_pos h2]
  · rw [if_neg h2]
    by_cases h1 : a = k ∧ b = 1
    · rw [if_pos h1, if_pos h1]
    · rw [if_neg h1, if_neg h1, if_neg h2]
theorem wpg_s {I : Nat → Int → Int} {k : Nat} {f : Int → Int} {n : Int} (h0 : 0 ≤ n) : up (up (wpg I k f n) (k + 1) n (f n)) k 1 (n + 1) = wpg I k f (n + 1) := by
  funext a b
  unfold wpg up
  by_cases h1 : a = k ∧ b = 1
  · rw [if_pos h1, if_neg (by omega), if_pos h1]
  · rw [if_neg h1]
    by_cases h2 : a = k + 1 ∧ b = n
    · rw [if_pos h2, if_pos (by omega), h2.2]
    · rw [if_neg h2]
      dsimp only
      by_cases h3 : a = k + 1 ∧ 0 ≤ b ∧ b < n
      · rw [if_pos h3, if_pos (by omega)]
      · rw [if_neg h3, if_neg (show ¬ (a = k + 1 ∧ 0 ≤ b ∧ b < n + 1) by omega), if_neg h1, if_neg h1]
theorem wpg_o {I : Nat → Int → Int} {k a : Nat} {f : Int → Int} {n b : Int} (h1 : a ≠ k) (h2 : a ≠ k + 1) : wpg I k f n a b = I a b := by
  unfold wpg
  rw [if_neg (by omega), if_neg (by omega), if_neg (by omega)]
theorem wpg_1 {I : Nat → Int → Int} {k : Nat} {f : Int → Int} {n : Int} : wpg I k f n k 1 = n := by
  unfold wpg
  rw [if_neg (by omega), if_pos ⟨rfl, rfl⟩]
def fR2 (f : Int → Int) : Prop := ∀ b, -2147483648 ≤ f b ∧ f b < 2147483648
theorem wpg_rg {I : Nat → Int → Int} {k : Nat} {f : Int → Int} {n : Int} (hI : Rg I) (hf : fR2 f) (h0 : 0 ≤ n) (h1 : n ≤ 100) : Rg (wpg I k f n) := by
  intro a b
  have := hI a b
  have := hf b
  unfold wpg
  repeat' split
  all_goals omega
theorem c_pushW {d : Nat} {I : Nat → Int → Int} {ch : Int → Nat} {kd : Nat → Nat} {Q : Option jV → jS → Prop} {k cap : Nat} {f : Int → Int} {n n2 v : Int} (hl : isL2 k cap) (hI : Rg I) (hf : fR2 f) (n0 : 0 ≤ n) (n1 : n < cap) (e : n2 = n + 1) (hv : v = f n) (hQ : Q (some (vi 1)) (SX (wpg I k f n2) ch kd)) : Cl d 47 [vr k, vi v] (SX (wpg I k f n) ch kd) Q := by
  have hcap := hl.2.2.2.1
  refine c_push hl (wpg_rg hI hf n0 (by omega)) (by rw [wpg_1]; exact n0) (fun h => absurd h (by rw [wpg_1]; omega)) (fun _ => ?_)
  rw [wpg_1, hv, wpg_s n0, ← e]
  exact hQ

set_option maxHeartbeats 1000000 in
theorem c_writeC {d : Nat} {I : Nat → Int → Int} {ch : Int → Nat} {kd : Nat → Nat} {Q : Option jV → jS → Prop} {k cap c : Nat} {f : Int → Int} {n : Int} (hd : 1 ≤ d) (hl : isL2 k cap) (hc : isCh c = true) (hkd : 8 ≤ kd c ∧ kd c ≤ 12) (hck : c ≠ k ∧ c ≠ k + 1) (hI : Rg I) (hf : fR2 f) (n0 : 0 ≤ n) (n6 : n + 6 ≤ cap) (e0 : f n = (kd c : Int) - 7) (e1 : f (n + 1) = I c 1) (e2 : f (n + 2) = I c 2) (e3 : f (n + 3) = I c 3) (e4 : f (n + 4) = I c 4) (e5 : f (n + 5) = I c 5) (hQ : Q none (SX (wpg I k f (n + 6)) ch kd)) : Cl d 11 [vr c, vr k] (SX (wpg I k f n) ch kd) Q := by
  have hcl := (shp_c hc).1
  have hk1 := hl.1
  refine ⟨by rw [l11]; exact Nat.le_of_ble_eq_true rfl, ?_⟩
  rw [l11]
  show Ev d 11 0 [some (vr c), some (vr k)] [] (SX (wpg I k f n) ch kd) Q
  refine ev_s1 (L' := [some (vr c), some (vr k)]) (S' := [vr k]) k11_0 rfl rfl ?_
  refine ev_s1 (L' := [some (vr c), some (vr k)]) (S' := [vr c, vr k]) k11_1 rfl rfl ?_
  refine ev_getR k11_2 (by omega) ((shp_c hc).2) (rX_c hc) ?_
  have key : Ev d 11 8 [some (vr c), some (vr k)] [vi ((kd c : Int) - 7), vr k] (SX (wpg I k f n) ch kd) Q := by
    refine ev_virt (a := [vi ((kd c : Int) - 7)]) (S' := []) k11_8 rfl (Nat.le_of_ble_eq_true rfl) (by omega) (hl.2.1) (by omega) ?_
    refine c_pushW hl hI hf (n := n) (n2 := n + 1) (by omega) (by omega) (by omega) (by exact e0.symm) (?_)
    show Ev d 11 11 [some (vr c), some (vr k)] [vi 1] (SX (wpg I k f (n + 1)) ch kd) Q
    refine ev_s1 (L' := [some (vr c), some (vr k)]) (S' := []) k11_11 rfl rfl ?_
    refine ev_s1 (L' := [some (vr c), some (vr k)]) (S' := [vr k]) k11_12 rfl rfl ?_
    refine ev_s1 (L' := [some (vr c), some (vr k)]) (S' := [vr c, vr k]) k11_13 rfl rfl ?_
    refine ev_getI k11_14 (by omega) ((shp_c hc).2) ?_
    show Ev d 11 17 [some (vr c), some (vr k)] [vi (wpg I k f (n + 1) c 1), vr k] (SX (wpg I k f (n + 1)) ch kd) Q
    refine ev_virt (a := [vi (wpg I k f (n + 1) c 1)]) (S' := []) k11_17 rfl (Nat.le_of_ble_eq_true rfl) (by omega) (hl.2.1) (by omega) ?_
    refine c_pushW hl hI hf (n := n + 1) (n2 := n + 2) (by omega) (by omega) (by omega) (by rw [wpg_o hck.1 hck.2]; exact e1.symm) (?_)
    show Ev d 11 20 [some (vr c), some (vr k)] [vi 1] (SX (wpg I k f (n + 2)) ch kd) Q
    refine ev_s1 (L' := [some (vr c), some (vr k)]) (S' := []) k11_20 rfl rfl ?_
    refine ev_s1 (L' := [some (vr c), some (vr k)]) (S' := [vr k]) k11_21 rfl rfl ?_
    refine ev_s1 (L' := [some (vr c), some (vr k)]) (S' := [vr c, vr k]) k11_22 rfl rfl ?_
    refine ev_getI k11_23 (by omega) ((shp_c hc).2) ?_
    show Ev d 11 26 [some (vr c), some (vr k)] [vi (wpg I k f (n + 2) c 2), vr k] (SX (wpg I k f (n + 2)) ch kd) Q
    refine ev_virt (a := [vi (wpg I k f (n + 2) c 2)]) (S' := []) k11_26 rfl (Nat.le_of_ble_eq_true rfl) (by omega) (hl.2.1) (by omega) ?_
    refine c_pushW hl hI hf (n := n + 2) (n2 := n + 3) (by omega) (by omega) (by omega) (by rw [wpg_o hck.1 hck.2]; exact e2.symm) (?_)
    show Ev d 11 29 [some (vr c), some (vr k)] [vi 1] (SX (wpg I k f (n + 3)) ch kd) Q
    refine ev_s1 (L' := [some (vr c), some (vr k)]) (S' := []) k11_29 rfl rfl ?_
    refine ev_s1 (L' := [some (vr c), some (vr k)]) (S' := [vr k]) k11_30 rfl rfl ?_
    refine ev_s1 (L' := [some (vr c), some (vr k)]) (S' := [vr c, vr k]) k11_31 rfl rfl ?_
    refine ev_getI k11_32 (by omega) ((shp_c hc).2) ?_
    show Ev d 11 35 [some (vr c), some (vr k)] [vi (wpg I k f (n + 3) c 3), vr k] (SX (wpg I k f (n + 3)) ch kd) Q
    refine ev_virt (a := [vi (wpg I k f (n + 3) c 3)]) (S' := []) k11_35 rfl (Nat.le_of_ble_eq_true rfl) (by omega) (hl.2.1) (by omega) ?_
    refine c_pushW hl hI hf (n := n + 3) (n2 := n + 4) (by omega) (by omega) (by omega) (by rw [wpg_o hck.1 hck.2]; exact e3.symm) (?_)
    show Ev d 11 38 [some (vr c), some (vr k)] [vi 1] (SX (wpg I k f (n + 4)) ch kd) Q
    refine ev_s1 (L' := [some (vr c), some (vr k)]) (S' := []) k11_38 rfl rfl ?_
    refine ev_s1 (L' := [some (vr c), some (vr k)]) (S' := [vr k]) k11_39 rfl rfl ?_
    refine ev_s1 (L' := [some (vr c), some (vr k)]) (S' := [vr c, vr k]) k11_40 rfl rfl ?_
    refine ev_getI k11_41 (by omega) ((shp_c hc).2) ?_
    show Ev d 11 44 [some (vr c), some (vr k)] [vi (wpg I k f (n + 4) c 4), vr k] (SX (wpg I k f (n + 4)) ch kd) Q
    refine ev_virt (a := [vi (wpg I k f (n + 4) c 4)]) (S' := []) k11_44 rfl (Nat.le_of_ble_eq_true rfl) (by omega) (hl.2.1) (by omega) ?_
    refine c_pushW hl hI hf (n := n + 4) (n2 := n + 5) (by omega) (by omega) (by omega) (by rw [wpg_o hck.1 hck.2]; exact e4.symm) (?_)
    show Ev d 11 47 [some (vr c), some (vr k)] [vi 1] (SX (wpg I k f (n + 5)) ch kd) Q
    refine ev_s1 (L' := [some (vr c), some (vr k)]) (S' := []) k11_47 rfl rfl ?_
    refine ev_s1 (L' := [some (vr c), some (vr k)]) (S' := [vr k]) k11_48 rfl rfl ?_
    refine ev_s1 (L' := [some (vr c), some (vr k)]) (S' := [vr c, vr k]) k11_49 rfl rfl ?_
    refine ev_getI k11_50 (by omega) ((shp_c hc).2) ?_
    show Ev d 11 53 [some (vr c), some (vr k)] [vi (wpg I k f (n + 5) c 5), vr k] (SX (wpg I k f (n + 5)) ch kd) Q
    refine ev_virt (a := [vi (wpg I k f (n + 5) c 5)]) (S' := []) k11_53 rfl (Nat.le_of_ble_eq_true rfl) (by omega) (hl.2.1) (by omega) ?_
    refine c_pushW hl hI hf (n := n + 5) (n2 := n + 6) (by omega) (by omega) (by omega) (by rw [wpg_o hck.1 hck.2]; exact e5.symm) (?_)
    show Ev d 11 56 [some (vr c), some (vr k)] [vi 1] (SX (wpg I k f (n + 6)) ch kd) Q
    refine ev_s1 (L' := [some (vr c), some (vr k)]) (S' := []) k11_56 rfl rfl ?_
    refine ev_return k11_57 ?_
    exact hQ
  rcases (show kd c = 8 ∨ kd c = 9 ∨ kd c = 10 ∨ kd c = 11 ∨ kd c = 12 by omega) with hk | hk | hk | hk | hk
  · refine ev_virt (k := kd c) (a := []) (S' := [vr k]) k11_5_5 rfl (Nat.le_of_ble_eq_true rfl) (by omega) (by rw [hk]; rfl) (by omega) ?_
    exact c_num1 (by rw [hk] at key; exact key)
  · refine ev_virt (k := kd c) (a := []) (S' := [vr k]) k11_5_7 rfl (Nat.le_of_ble_eq_true rfl) (by omega) (by rw [hk]; rfl) (by omega) ?_
    exact c_num2 (by rw [hk] at key; exact key)
  · refine ev_virt (k := kd c) (a := []) (S' := [vr k]) k11_5_0 rfl (Nat.le_of_ble_eq_true rfl) (by omega) (by rw [hk]; rfl) (by omega) ?_
    exact c_num3 (by rw [hk] at key; exact key)
  · refine ev_virt (k := kd c) (a := []) (S' := [vr k]) k11_5_9 rfl (Nat.le_of_ble_eq_true rfl) (by omega) (by rw [hk]; rfl) (by omega) ?_
    exact c_num4 (by rw [hk] at key; exact key)
  · refine ev_virt (k := kd c) (a := []) (S' := [vr k]) k11_5_2 rfl (Nat.le_of_ble_eq_true rfl) (by omega) (by rw [hk]; rfl) (by omega) ?_
    exact c_num5 (by rw [hk] at key; exact key)

/-- what stands on a room's page -/
def pageF (I : Nat → Int → Int) (ρ : Nat) (cc : Int → Nat) (kd : Nat → Nat) (b : Int) : Int := if b = 0 then I ρ 6 else if b = 1 then I ρ 7 else if b = 2 then I ρ 8 else if b < 33 then (if (b - 3) % 6 = 0 then (kd (cc ((b - 3) / 6)) : Int) - 7 else I (cc ((b - 3) / 6)) ((b - 3) % 6)) else I (ρ + 2 + ((b - 33) % 4).toNat) ((b - 33) / 4)
theorem page_c {I : Nat → Int → Int} {ρ : Nat} {cc : Int → Nat} {kd : Nat → Nat} {i r : Int} (h0 : 0 ≤ i) (h1 : i < 5) (h2 : 1 ≤ r) (h3 : r < 6) : pageF I ρ cc kd (3 + 6 * i + r) = I (cc i) r := by
  unfold pageF
  rw [if_neg (by omega), if_neg (by omega), if_neg (by omega), if_pos (by omega), if_neg (by omega), show (3 + 6 * i + r - 3) / 6 = i by omega, show (3 + 6 * i + r - 3) % 6 = r by omega]
theorem page_k {I : Nat → Int → Int} {ρ : Nat} {cc : Int → Nat} {kd : Nat → Nat} {i : Int} (h0 : 0 ≤ i) (h1 : i < 5) : pageF I ρ cc kd (3 + 6 * i) = (kd (cc i) : Int) - 7 := by
  unfold pageF
  rw [if_neg (by omega), if_neg (by omega), if_neg (by omega), if_pos (by omega), if_pos (by omega), show (3 + 6 * i - 3) / 6 = i by omega]
theorem page_g {I : Nat → Int → Int} {ρ r : Nat} {cc : Int → Nat} {kd : Nat → Nat} {g : Int} (h0 : 0 ≤ g) (h1 : g < 5) (h3 : r < 4) : pageF I ρ cc kd (33 + 4 * g + r) = I (ρ + 2 + r) g := by
  unfold pageF
  rw [if_neg (by omega), if_neg (by omega), if_neg (by omega), if_neg (by omega), show (33 + 4 * g + (r : Int) - 33) / 4 = g by omega, show ((33 + 4 * g + (r : Int) - 33) % 4).toNat = r by omega]

set_option maxHeartbeats 1000000 in
theorem l_writeG {d : Nat} {I : Nat → Int → Int} {ch : Int → Nat} {kd : Nat → Nat} {Q : Option jV → jS → Prop} {ρ : Nat} {cc : Int → Nat} (hρ : isRm ρ cc ch kd) (hI : Rg I) {k : Nat} (hd : 2 ≤ d) (hl : isL2 k 53) (hkρ : k + 1 < ρ ∨ ρ + 10 < k) (hK : ∀ i, 0 ≤ i → i < 5 → 8 ≤ kd (cc i) ∧ kd (cc i) ≤ 12) (hf : fR2 (pageF I ρ cc kd)) (hQ : Q none (SX (wpg I k (pageF I ρ cc kd) 53) ch kd)) : ∀ (n i : Nat), 5 - (i : Int) < n → (i : Int) ≤ 5 → Ev d 101 56 [some (vr ρ), some (vr k), some (vi (i : Int))] [] (SX (wpg I k (pageF I ρ cc kd) (33 + 4 * (i : Int))) ch kd) Q := by
  obtain ⟨s0, s1, s2, s3, s4, s5, q0, q1, q2, q3, q4, q5, hlt⟩ := rm_f hρ
  have hk1 := hl.1
  intro n
  induction n with
  | zero => intro i h1 h2; exfalso; omega
  | succ n ih =>
    intro i hn hi
    refine ev_s1 (L' := [some (vr ρ), some (vr k), some (vi (i : Int))]) (S' := [vi (i : Int)]) k101_56 rfl rfl ?_
    refine ev_s1 (L' := [some (vr ρ), some (vr k), some (vi (i : Int))]) (S' := [vi 5, vi (i : Int)]) k101_57 rfl rfl ?_
    refine ev_c_ge (t := 111) k101_58 rfl (by omega) (by omega) (by omega) (by omega) (fun h1 => ?_) (fun h1 => ?_)
    · refine ev_return k101_111 ?_
      rw [show 33 + 4 * (i : Int) = 53 by omega]
      exact hQ
    · refine ev_s1 (L' := [some (vr ρ), some (vr k), some (vi (i : Int))]) (S' := [vr k]) k101_61 rfl rfl ?_
      refine ev_s1 (L' := [some (vr ρ), some (vr k), some (vi (i : Int))]) (S' := [vr ρ, vr k]) k101_62 rfl rfl ?_
      refine ev_getR k101_63 (by omega) (s0) (q2) ?_
      refine ev_s1 (L' := [some (vr ρ), some (vr k), some (vi (i : Int))]) (S' := [vi (i : Int), vr (ρ + 2), vr k]) k101_66 rfl rfl ?_
      refine ev_iald k101_67 (by omega) (s2) (by omega) (by omega) ?_
      refine ev_virt (a := [vi (wpg I k (pageF I ρ cc kd) (33 + 4 * (i : Int)) (ρ + 2) (i : Int))]) (S' := []) k101_68 rfl (Nat.le_of_ble_eq_true rfl) (by omega) (hl.2.1) (by omega) ?_
      refine c_pushW (f := pageF I ρ cc kd) hl hI hf (n := 33 + 4 * (i : Int)) (n2 := 33 + 4 * (i : Int) + 1) (by omega) (by omega) (by omega) (by rw [wpg_o (by omega) (by omega)]; have := page_g (I := I) (ρ := ρ) (cc := cc) (kd := kd) (r := 0) (g := i) (by omega) (by omega) (by decide); simpa using this.symm) (?_)
      show Ev d 101 71 [some (vr ρ), some (vr k), some (vi (i : Int))] [vi 1] (SX (wpg I k (pageF I ρ cc kd) (33 + 4 * (i : Int) + 1)) ch kd) Q
      refine ev_s1 (L' := [some (vr ρ), some (vr k), some (vi (i : Int))]) (S' := []) k101_71 rfl rfl ?_
      refine ev_s1 (L' := [some (vr ρ), some (vr k), some (vi (i : Int))]) (S' := [vr k]) k101_72 rfl rfl ?_
      refine ev_s1 (L' := [some (vr ρ), some (vr k), some (vi (i : Int))]) (S' := [vr ρ, vr k]) k101_73 rfl rfl ?_
      refine ev_getR k101_74 (by omega) (s0) (q3) ?_
      refine ev_s1 (L' := [some (vr ρ), some (vr k), some (vi (i : Int))]) (S' := [vi (i : Int), vr (ρ + 3), vr k]) k101_77 rfl rfl ?_
      refine ev_iald k101_78 (by omega) (s3) (by omega) (by omega) ?_
      refine ev_virt (a := [vi (wpg I k (pageF I ρ cc kd) (33 + 4 * (i : Int) + 1) (ρ + 3) (i : Int))]) (S' := []) k101_79 rfl (Nat.le_of_ble_eq_true rfl) (by omega) (hl.2.1) (by omega) ?_
      refine c_pushW (f := pageF I ρ cc kd) hl hI hf (n := 33 + 4 * (i : Int) + 1) (n2 := 33 + 4 * (i : Int) + 2) (by omega) (by omega) (by omega) (by rw [wpg_o (by omega) (by omega)]; exact (page_g (r := 1) (by omega) (by omega) (by decide)).symm) (?_)
      show Ev d 101 82 [some (vr ρ), some (vr k), some (vi (i : Int))] [vi 1] (SX (wpg I k (pageF I ρ cc kd) (33 + 4 * (i : Int) + 2)) ch kd) Q
      refine ev_s1 (L' := [some (vr ρ), some (vr k), some (vi (i : Int))]) (S' := []) k101_82 rfl rfl ?_
      refine ev_s1 (L' := [some (vr ρ), some (vr k), some (vi (i : Int))]) (S' := [vr k]) k101_83 rfl rfl ?_
      refine ev_s1 (L' := [some (vr ρ), some (vr k), some (vi (i : Int))]) (S' := [vr ρ, vr k]) k101_84 rfl rfl ?_
      refine ev_getR k101_85 (by omega) (s0) (q4) ?_
      refine ev_s1 (L' := [some (vr ρ), some (vr k), some (vi (i : Int))]) (S' := [vi (i : Int), vr (ρ + 4), vr k]) k101_88 rfl rfl ?_
      refine ev_iald k101_89 (by omega) (s4) (by omega) (by omega) ?_
      refine ev_virt (a := [vi (wpg I k (pageF I ρ cc kd) (33 + 4 * (i : Int) + 2) (ρ + 4) (i : Int))]) (S' := []) k101_90 rfl (Nat.le_of_ble_eq_true rfl) (by omega) (hl.2.1) (by omega) ?_
      refine c_pushW (f := pageF I ρ cc kd) hl hI hf (n := 33 + 4 * (i : Int) + 2) (n2 := 33 + 4 * (i : Int) + 3) (by omega) (by omega) (by omega) (by rw [wpg_o (by omega) (by omega)]; exact (page_g (r := 2) (by omega) (by omega) (by decide)).symm) (?_)
      show Ev d 101 93 [some (vr ρ), some (vr k), some (vi (i : Int))] [vi 1] (SX (wpg I k (pageF I ρ cc kd) (33 + 4 * (i : Int) + 3)) ch kd) Q
      refine ev_s1 (L' := [some (vr ρ), some (vr k), some (vi (i : Int))]) (S' := []) k101_93 rfl rfl ?_
      refine ev_s1 (L' := [some (vr ρ), some (vr k), some (vi (i : Int))]) (S' := [vr k]) k101_94 rfl rfl ?_
      refine ev_s1 (L' := [some (vr ρ), some (vr k), some (vi (i : Int))]) (S' := [vr ρ, vr k]) k101_95 rfl rfl ?_
      refine ev_getR k101_96 (by omega) (s0) (q5) ?_
      refine ev_s1 (L' := [some (vr ρ), some (vr k), some (vi (i : Int))]) (S' := [vi (i : Int), vr (ρ + 5), vr k]) k101_99 rfl rfl ?_
      refine ev_iald k101_100 (by omega) (s5) (by omega) (by omega) ?_
      refine ev_virt (a := [vi (wpg I k (pageF I ρ cc kd) (33 + 4 * (i : Int) + 3) (ρ + 5) (i : Int))]) (S' := []) k101_101 rfl (Nat.le_of_ble_eq_true rfl) (by omega) (hl.2.1) (by omega) ?_
      refine c_pushW (f := pageF I ρ cc kd) hl hI hf (n := 33 + 4 * (i : Int) + 3) (n2 := 33 + 4 * (i : Int) + 4) (by omega) (by omega) (by omega) (by rw [wpg_o (by omega) (by omega)]; exact (page_g (r := 3) (by omega) (by omega) (by decide)).symm) (?_)
      show Ev d 101 104 [some (vr ρ), some (vr k), some (vi (i : Int))] [vi 1] (SX (wpg I k (pageF I ρ cc kd) (33 + 4 * (i : Int) + 4)) ch kd) Q
      refine ev_s1 (L' := [some (vr ρ), some (vr k), some (vi (i : Int))]) (S' := []) k101_104 rfl rfl ?_
      refine ev_s1 (L' := [some (vr ρ), some (vr k), some (vi ((i : Int) + 1))]) (S' := []) k101_105 rfl rfl ?_
      refine ev_goto (t := 56) k101_108 rfl ?_
      rw [show 33 + 4 * (i : Int) + 4 = 33 + 4 * ((i + 1 : Nat) : Int) by omega]
      exact ih (i + 1) (by omega) (by omega)

set_option maxHeartbeats 1000000 in
theorem l_writeK {d : Nat} {I : Nat → Int → Int} {ch : Int → Nat} {kd : Nat → Nat} {Q : Option jV → jS → Prop} {ρ : Nat} {cc : Int → Nat} (hρ : isRm ρ cc ch kd) (hI : Rg I) {k : Nat} (hd : 2 ≤ d) (hl : isL2 k 53) (hkρ : k + 1 < ρ ∨ ρ + 10 < k) (hK : ∀ i, 0 ≤ i → i < 5 → 8 ≤ kd (cc i) ∧ kd (cc i) ≤ 12) (hf : fR2 (pageF I ρ cc kd)) (hQ : Q none (SX (wpg I k (pageF I ρ cc kd) 53) ch kd)) : ∀ (n i : Nat), 5 - (i : Int) < n → (i : Int) ≤ 5 → Ev d 101 33 [some (vr ρ), some (vr k), some (vi (i : Int))] [] (SX (wpg I k (pageF I ρ cc kd) (3 + 6 * (i : Int))) ch kd) Q := by
  obtain ⟨s0, s1, s2, s3, s4, s5, q0, q1, q2, q3, q4, q5, hlt⟩ := rm_f hρ
  have hk1 := hl.1
  intro n
  induction n with
  | zero => intro i h1 h2; exfalso; omega
  | succ n ih =>
    intro i hn hi
    have hcb : 0 ≤ (i : Int) → (i : Int) < 5 → ρ + 6 ≤ cc i ∧ cc i ≤ ρ + 10 := fun q1 q2 => hρ.2.2.2 i q1 q2
    refine ev_s1 (L' := [some (vr ρ), some (vr k), some (vi (i : Int))]) (S' := [vi (i : Int)]) k101_33 rfl rfl ?_
    refine ev_s1 (L' := [some (vr ρ), some (vr k), some (vi (i : Int))]) (S' := [vi 5, vi (i : Int)]) k101_34 rfl rfl ?_
    refine ev_c_ge (t := 54) k101_35 rfl (by omega) (by omega) (by omega) (by omega) (fun h1 => ?_) (fun h1 => ?_)
    · refine ev_s1 (L' := [some (vr ρ), some (vr k), some (vi (i : Int))]) (S' := [vi 0]) k101_54 rfl rfl ?_
      refine ev_s1 (L' := [some (vr ρ), some (vr k), some (vi 0)]) (S' := []) k101_55 rfl rfl ?_
      rw [show 3 + 6 * (i : Int) = 33 + 4 * ((0 : Nat) : Int) by omega]
      exact l_writeG hρ hI hd hl hkρ hK hf hQ 6 0 (by omega) (by omega)
    · refine ev_s1 (L' := [some (vr ρ), some (vr k), some (vi (i : Int))]) (S' := [vr ρ]) k101_38 rfl rfl ?_
      refine ev_getR k101_39 (by omega) (s0) (q1) ?_
      refine ev_s1 (L' := [some (vr ρ), some (vr k), some (vi (i : Int))]) (S' := [vi (i : Int), vr (ρ + 1)]) k101_42 rfl rfl ?_
      have hc2 := hρ.2.1 (i : Int) (by omega) (by omega)
      have hl2 := (shp_c hc2.2).1
      refine ev_aald (q := cc (i : Int)) k101_43 (by omega) (s1) (by decide) (by decide) (by omega) (by omega) (hc2.1) ?_
      refine ev_s1 (L' := [some (vr ρ), some (vr k), some (vi (i : Int))]) (S' := [vr k, vr (cc (i : Int))]) k101_44 rfl rfl ?_
      have hcx := hρ.2.1 i (by omega) (by omega)
      have hcy := hρ.2.2.2 i (by omega) (by omega)
      refine ev_virt (a := [vr k]) (S' := []) k101_45 rfl (Nat.le_of_ble_eq_true rfl) (by omega) ((shp_c hc2.2).2) (by omega) ?_
      refine c_writeC (f := pageF I ρ cc kd) (n := 3 + 6 * (i : Int)) (c := cc i) (by omega) hl hcx.2 (hK i (by omega) (by omega)) ⟨by omega, by omega⟩ hI hf (by omega) (by omega) (page_k (by omega) (by omega)) (by rw [show 3 + 6 * (i : Int) + 1 = 3 + 6 * (i : Int) + (1 : Int) from rfl]; exact page_c (by omega) (by omega) (by decide) (by decide)) (by rw [show 3 + 6 * (i : Int) + 2 = 3 + 6 * (i : Int) + (2 : Int) from rfl]; exact page_c (by omega) (by omega) (by decide) (by decide)) (by rw [show 3 + 6 * (i : Int) + 3 = 3 + 6 * (i : Int) + (3 : Int) from rfl]; exact page_c (by omega) (by omega) (by decide) (by decide)) (by rw [show 3 + 6 * (i : Int) + 4 = 3 + 6 * (i : Int) + (4 : Int) from rfl]; exact page_c (by omega) (by omega) (by decide) (by decide)) (by rw [show 3 + 6 * (i : Int) + 5 = 3 + 6 * (i : Int) + (5 : Int) from rfl]; exact page_c (by omega) (by omega) (by decide) (by decide)) (?_)
      show Ev d 101 48 [some (vr ρ), some (vr k), some (vi (i : Int))] [] (SX (wpg I k (pageF I ρ cc kd) (3 + 6 * (i : Int) + 6)) ch kd) Q
      refine ev_s1 (L' := [some (vr ρ), some (vr k), some (vi ((i : Int) + 1))]) (S' := []) k101_48 rfl rfl ?_
      refine ev_goto (t := 33) k101_51 rfl ?_
      rw [show 3 + 6 * (i : Int) + 6 = 3 + 6 * ((i + 1 : Nat) : Int) by omega]
      exact ih (i + 1) (by omega) (by omega)

set_option maxHeartbeats 1000000 in
theorem c_writeTo {d : Nat} {I : Nat → Int → Int} {ch : Int → Nat} {kd : Nat → Nat} {Q : Option jV → jS → Prop} {ρ : Nat} {cc : Int → Nat} (hρ : isRm ρ cc ch kd) (hI : Rg I) {k : Nat} (hd : 2 ≤ d) (hl : isL2 k 53) (hkρ : k + 1 < ρ ∨ ρ + 10 < k) (hK : ∀ i, 0 ≤ i → i < 5 → 8 ≤ kd (cc i) ∧ kd (cc i) ≤ 12) (hf : fR2 (pageF I ρ cc kd)) (hQ : Q none (SX (wpg I k (pageF I ρ cc kd) 53) ch kd)) : Cl d 101 [vr ρ, vr k] (SX I ch kd) Q := by
  obtain ⟨s0, s1, s2, s3, s4, s5, q0, q1, q2, q3, q4, q5, hlt⟩ := rm_f hρ
  have hk1 := hl.1
  refine ⟨by rw [l101]; exact Nat.le_of_ble_eq_true rfl, ?_⟩
  rw [l101]
  show Ev d 101 0 [some (vr ρ), some (vr k), none] [] (SX I ch kd) Q
  refine ev_s1 (L' := [some (vr ρ), some (vr k), none]) (S' := [vr k]) k101_0 rfl rfl ?_
  refine ev_virt (a := []) (S' := []) k101_1 rfl (Nat.le_of_ble_eq_true rfl) (by omega) (hl.2.1) (by omega) ?_
  refine c_clear hl (?_)
  rw [wpg_0 (f := pageF I ρ cc kd)]
  show Ev d 101 4 [some (vr ρ), some (vr k), none] [] (SX (wpg I k (pageF I ρ cc kd) 0) ch kd) Q
  refine ev_s1 (L' := [some (vr ρ), some (vr k), none]) (S' := [vr k]) k101_4 rfl rfl ?_
  refine ev_s1 (L' := [some (vr ρ), some (vr k), none]) (S' := [vr ρ, vr k]) k101_5 rfl rfl ?_
  refine ev_getI k101_6 (by omega) (s0) ?_
  show Ev d 101 9 [some (vr ρ), some (vr k), none] [vi (wpg I k (pageF I ρ cc kd) 0 ρ 6), vr k] (SX (wpg I k (pageF I ρ cc kd) 0) ch kd) Q
  refine ev_virt (a := [vi (wpg I k (pageF I ρ cc kd) 0 ρ 6)]) (S' := []) k101_9 rfl (Nat.le_of_ble_eq_true rfl) (by omega) (hl.2.1) (by omega) ?_
  refine c_pushW (f := pageF I ρ cc kd) hl hI hf (n := 0) (n2 := 1) (by omega) (by omega) (by omega) (by rw [wpg_o (by omega) (by omega)]; rfl) (?_)
  show Ev d 101 12 [some (vr ρ), some (vr k), none] [vi 1] (SX (wpg I k (pageF I ρ cc kd) 1) ch kd) Q
  refine ev_s1 (L' := [some (vr ρ), some (vr k), none]) (S' := []) k101_12 rfl rfl ?_
  refine ev_s1 (L' := [some (vr ρ), some (vr k), none]) (S' := [vr k]) k101_13 rfl rfl ?_
  refine ev_s1 (L' := [some (vr ρ), some (vr k), none]) (S' := [vr ρ, vr k]) k101_14 rfl rfl ?_
  refine ev_getI k101_15 (by omega) (s0) ?_
  show Ev d 101 18 [some (vr ρ), some (vr k), none] [vi (wpg I k (pageF I ρ cc kd) 1 ρ 7), vr k] (SX (wpg I k (pageF I ρ cc kd) 1) ch kd) Q
  refine ev_virt (a := [vi (wpg I k (pageF I ρ cc kd) 1 ρ 7)]) (S' := []) k101_18 rfl (Nat.le_of_ble_eq_true rfl) (by omega) (hl.2.1) (by omega) ?_
  refine c_pushW (f := pageF I ρ cc kd) hl hI hf (n := 1) (n2 := 2) (by omega) (by omega) (by omega) (by rw [wpg_o (by omega) (by omega)]; rfl) (?_)
  show Ev d 101 21 [some (vr ρ), some (vr k), none] [vi 1] (SX (wpg I k (pageF I ρ cc kd) 2) ch kd) Q
  refine ev_s1 (L' := [some (vr ρ), some (vr k), none]) (S' := []) k101_21 rfl rfl ?_
  refine ev_s1 (L' := [some (vr ρ), some (vr k), none]) (S' := [vr k]) k101_22 rfl rfl ?_
  refine ev_s1 (L' := [some (vr ρ), some (vr k), none]) (S' := [vr ρ, vr k]) k101_23 rfl rfl ?_
  refine ev_getI k101_24 (by omega) (s0) ?_
  show Ev d 101 27 [some (vr ρ), some (vr k), none] [vi (wpg I k (pageF I ρ cc kd) 2 ρ 8), vr k] (SX (wpg I k (pageF I ρ cc kd) 2) ch kd) Q
  refine ev_virt (a := [vi (wpg I k (pageF I ρ cc kd) 2 ρ 8)]) (S' := []) k101_27 rfl (Nat.le_of_ble_eq_true rfl) (by omega) (hl.2.1) (by omega) ?_
  refine c_pushW (f := pageF I ρ cc kd) hl hI hf (n := 2) (n2 := 3) (by omega) (by omega) (by omega) (by rw [wpg_o (by omega) (by omega)]; rfl) (?_)
  show Ev d 101 30 [some (vr ρ), some (vr k), none] [vi 1] (SX (wpg I k (pageF I ρ cc kd) 3) ch kd) Q
  refine ev_s1 (L' := [some (vr ρ), some (vr k), none]) (S' := []) k101_30 rfl rfl ?_
  refine ev_s1 (L' := [some (vr ρ), some (vr k), none]) (S' := [vi 0]) k101_31 rfl rfl ?_
  refine ev_s1 (L' := [some (vr ρ), some (vr k), some (vi 0)]) (S' := []) k101_32 rfl rfl ?_
  exact l_writeK hρ hI hd hl hkρ hK hf hQ 6 0 (by omega) (by omega)
