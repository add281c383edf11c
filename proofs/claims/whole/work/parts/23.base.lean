/-! branches with their conditions as they are read; the two stores -/
section EVB
variable {d m pc n sl : Nat} {sh : Nat → Nat × Nat} {I : Nat → Int → Int} {R : Nat → Int → Option Nat} {L : jL} {S : List jV} {Q : Option jV → jS → Prop}

theorem ev_c_eq {off : Int} {t : Nat} {x y : Int} (hd : decode (mB m) pc = .ok (.if_icmp .eq off, 3)) (ht : toPc pc off = some t) (h0 : -2147483648 ≤ x) (h1 : x < 2147483648) (h2 : -2147483648 ≤ y) (h3 : y < 2147483648) (kt : x = y → Ev d m t L S (ST n sl sh I R) Q) (kf : ¬ (x = y) → Ev d m (pc + 3) L S (ST n sl sh I R) Q) : Ev d m pc L (vi y :: vi x :: S) (ST n sl sh I R) Q :=
  ev_icmp hd ht h0 h1 h2 h3 (fun h => kt (by simpa [cmpB] using h)) (fun h => kf (by simpa [cmpB] using h))

theorem ev_z_eq {off : Int} {t : Nat} {x : Int} (hd : decode (mB m) pc = .ok (.ifCond .eq off, 3)) (ht : toPc pc off = some t) (h0 : -2147483648 ≤ x) (h1 : x < 2147483648) (kt : x = 0 → Ev d m t L S (ST n sl sh I R) Q) (kf : ¬ (x = 0) → Ev d m (pc + 3) L S (ST n sl sh I R) Q) : Ev d m pc L (vi x :: S) (ST n sl sh I R) Q :=
  ev_if hd ht h0 h1 (fun h => kt (by simpa [cmpB] using h)) (fun h => kf (by simpa [cmpB] using h))

theorem ev_c_ne {off : Int} {t : Nat} {x y : Int} (hd : decode (mB m) pc = .ok (.if_icmp .ne off, 3)) (ht : toPc pc off = some t) (h0 : -2147483648 ≤ x) (h1 : x < 2147483648) (h2 : -2147483648 ≤ y) (h3 : y < 2147483648) (kt : x ≠ y → Ev d m t L S (ST n sl sh I R) Q) (kf : ¬ (x ≠ y) → Ev d m (pc + 3) L S (ST n sl sh I R) Q) : Ev d m pc L (vi y :: vi x :: S) (ST n sl sh I R) Q :=
  ev_icmp hd ht h0 h1 h2 h3 (fun h => kt (by simpa [cmpB] using h)) (fun h => kf (by simpa [cmpB] using h))

theorem ev_z_ne {off : Int} {t : Nat} {x : Int} (hd : decode (mB m) pc = .ok (.ifCond .ne off, 3)) (ht : toPc pc off = some t) (h0 : -2147483648 ≤ x) (h1 : x < 2147483648) (kt : x ≠ 0 → Ev d m t L S (ST n sl sh I R) Q) (kf : ¬ (x ≠ 0) → Ev d m (pc + 3) L S (ST n sl sh I R) Q) : Ev d m pc L (vi x :: S) (ST n sl sh I R) Q :=
  ev_if hd ht h0 h1 (fun h => kt (by simpa [cmpB] using h)) (fun h => kf (by simpa [cmpB] using h))

theorem ev_c_lt {off : Int} {t : Nat} {x y : Int} (hd : decode (mB m) pc = .ok (.if_icmp .lt off, 3)) (ht : toPc pc off = some t) (h0 : -2147483648 ≤ x) (h1 : x < 2147483648) (h2 : -2147483648 ≤ y) (h3 : y < 2147483648) (kt : x < y → Ev d m t L S (ST n sl sh I R) Q) (kf : ¬ (x < y) → Ev d m (pc + 3) L S (ST n sl sh I R) Q) : Ev d m pc L (vi y :: vi x :: S) (ST n sl sh I R) Q :=
  ev_icmp hd ht h0 h1 h2 h3 (fun h => kt (by simpa [cmpB] using h)) (fun h => kf (by simpa [cmpB] using h))

theorem ev_z_lt {off : Int} {t : Nat} {x : Int} (hd : decode (mB m) pc = .ok (.ifCond .lt off, 3)) (ht : toPc pc off = some t) (h0 : -2147483648 ≤ x) (h1 : x < 2147483648) (kt : x < 0 → Ev d m t L S (ST n sl sh I R) Q) (kf : ¬ (x < 0) → Ev d m (pc + 3) L S (ST n sl sh I R) Q) : Ev d m pc L (vi x :: S) (ST n sl sh I R) Q :=
  ev_if hd ht h0 h1 (fun h => kt (by simpa [cmpB] using h)) (fun h => kf (by simpa [cmpB] using h))

theorem ev_c_ge {off : Int} {t : Nat} {x y : Int} (hd : decode (mB m) pc = .ok (.if_icmp .ge off, 3)) (ht : toPc pc off = some t) (h0 : -2147483648 ≤ x) (h1 : x < 2147483648) (h2 : -2147483648 ≤ y) (h3 : y < 2147483648) (kt : y ≤ x → Ev d m t L S (ST n sl sh I R) Q) (kf : ¬ (y ≤ x) → Ev d m (pc + 3) L S (ST n sl sh I R) Q) : Ev d m pc L (vi y :: vi x :: S) (ST n sl sh I R) Q :=
  ev_icmp hd ht h0 h1 h2 h3 (fun h => kt (by simpa [cmpB] using h)) (fun h => kf (by simpa [cmpB] using h))

theorem ev_z_ge {off : Int} {t : Nat} {x : Int} (hd : decode (mB m) pc = .ok (.ifCond .ge off, 3)) (ht : toPc pc off = some t) (h0 : -2147483648 ≤ x) (h1 : x < 2147483648) (kt : 0 ≤ x → Ev d m t L S (ST n sl sh I R) Q) (kf : ¬ (0 ≤ x) → Ev d m (pc + 3) L S (ST n sl sh I R) Q) : Ev d m pc L (vi x :: S) (ST n sl sh I R) Q :=
  ev_if hd ht h0 h1 (fun h => kt (by simpa [cmpB] using h)) (fun h => kf (by simpa [cmpB] using h))

theorem ev_c_gt {off : Int} {t : Nat} {x y : Int} (hd : decode (mB m) pc = .ok (.if_icmp .gt off, 3)) (ht : toPc pc off = some t) (h0 : -2147483648 ≤ x) (h1 : x < 2147483648) (h2 : -2147483648 ≤ y) (h3 : y < 2147483648) (kt : y < x → Ev d m t L S (ST n sl sh I R) Q) (kf : ¬ (y < x) → Ev d m (pc + 3) L S (ST n sl sh I R) Q) : Ev d m pc L (vi y :: vi x :: S) (ST n sl sh I R) Q :=
  ev_icmp hd ht h0 h1 h2 h3 (fun h => kt (by simpa [cmpB] using h)) (fun h => kf (by simpa [cmpB] using h))

theorem ev_z_gt {off : Int} {t : Nat} {x : Int} (hd : decode (mB m) pc = .ok (.ifCond .gt off, 3)) (ht : toPc pc off = some t) (h0 : -2147483648 ≤ x) (h1 : x < 2147483648) (kt : 0 < x → Ev d m t L S (ST n sl sh I R) Q) (kf : ¬ (0 < x) → Ev d m (pc + 3) L S (ST n sl sh I R) Q) : Ev d m pc L (vi x :: S) (ST n sl sh I R) Q :=
  ev_if hd ht h0 h1 (fun h => kt (by simpa [cmpB] using h)) (fun h => kf (by simpa [cmpB] using h))

theorem ev_c_le {off : Int} {t : Nat} {x y : Int} (hd : decode (mB m) pc = .ok (.if_icmp .le off, 3)) (ht : toPc pc off = some t) (h0 : -2147483648 ≤ x) (h1 : x < 2147483648) (h2 : -2147483648 ≤ y) (h3 : y < 2147483648) (kt : x ≤ y → Ev d m t L S (ST n sl sh I R) Q) (kf : ¬ (x ≤ y) → Ev d m (pc + 3) L S (ST n sl sh I R) Q) : Ev d m pc L (vi y :: vi x :: S) (ST n sl sh I R) Q :=
  ev_icmp hd ht h0 h1 h2 h3 (fun h => kt (by simpa [cmpB] using h)) (fun h => kf (by simpa [cmpB] using h))

theorem ev_z_le {off : Int} {t : Nat} {x : Int} (hd : decode (mB m) pc = .ok (.ifCond .le off, 3)) (ht : toPc pc off = some t) (h0 : -2147483648 ≤ x) (h1 : x < 2147483648) (kt : x ≤ 0 → Ev d m t L S (ST n sl sh I R) Q) (kf : ¬ (x ≤ 0) → Ev d m (pc + 3) L S (ST n sl sh I R) Q) : Ev d m pc L (vi x :: S) (ST n sl sh I R) Q :=
  ev_if hd ht h0 h1 (fun h => kt (by simpa [cmpB] using h)) (fun h => kf (by simpa [cmpB] using h))

theorem ev_areturn {k : Nat} {C : String} (hd : decode (mB m) pc = .ok (.areturn, 1) ∧ mR m = some (.object C)) (kk : Q (some (vr k)) (ST n sl sh I R)) : Ev d m pc L [vr k] (ST n sl sh I R) Q :=
  ev_s4 hd.1 rfl rfl rfl rfl (by rw [hd.2]; rfl) kk
end EVB
/-- all numbers are such as an int holds -/
def Rg (I : Nat → Int → Int) : Prop := ∀ (k : Nat) (j : Int), -2147483648 ≤ I k j ∧ I k j < 2147483648
theorem rg_up {I : Nat → Int → Int} (h : Rg I) {k : Nat} {j z : Int} (h0 : -2147483648 ≤ z) (h1 : z < 2147483648) : Rg (up I k j z) := by
  intro a b
  by_cases hq : a = k ∧ b = j
  · show _ ≤ (if a = k ∧ b = j then z else I a b) ∧ (if a = k ∧ b = j then z else I a b) < _
    rw [if_pos hq]; exact ⟨h0, h1⟩
  · show _ ≤ (if a = k ∧ b = j then z else I a b) ∧ (if a = k ∧ b = j then z else I a b) < _
    rw [if_neg hq]; exact h a b
abbrev SX (I : Nat → Int → Int) (ch : Int → Nat) (kd : Nat → Nat) : jS := ST 125 2312 shX I (rX ch kd)
abbrev SM (I : Nat → Int → Int) : jS := ST 15 1920 shM I rM
theorem upE {I : Nat → Int → Int} {k : Nat} {j z : Int} {a : Nat} {b : Int} (h1 : a = k) (h2 : b = j) : up I k j z a b = z := by simp [up, h1, h2]
theorem upN {I : Nat → Int → Int} {k : Nat} {j z : Int} {a : Nat} {b : Int} (h : a ≠ k ∨ b ≠ j) : up I k j z a b = I a b := by
  unfold up
  rw [if_neg (fun q => h.elim (fun h => h q.1) (fun h => h q.2))]

theorem x_0_0 (ch : Int → Nat) (kd : Nat → Nat) : rX ch kd 0 0 = some 1 := rfl
theorem x_0_1 (ch : Int → Nat) (kd : Nat → Nat) : rX ch kd 0 1 = some 2 := rfl
theorem x_0_2 (ch : Int → Nat) (kd : Nat → Nat) : rX ch kd 0 2 = some 3 := rfl
theorem x_0_3 (ch : Int → Nat) (kd : Nat → Nat) : rX ch kd 0 3 = some 5 := rfl
theorem x_0_4 (ch : Int → Nat) (kd : Nat → Nat) : rX ch kd 0 4 = some 6 := rfl
theorem x_0_5 (ch : Int → Nat) (kd : Nat → Nat) : rX ch kd 0 5 = some 13 := rfl
theorem x_0_6 (ch : Int → Nat) (kd : Nat → Nat) : rX ch kd 0 6 = some 24 := rfl
theorem x_0_7 (ch : Int → Nat) (kd : Nat → Nat) : rX ch kd 0 7 = some 40 := rfl
theorem x_1_0 (ch : Int → Nat) (kd : Nat → Nat) : rX ch kd 1 0 = some 57 := rfl
theorem x_1_1 (ch : Int → Nat) (kd : Nat → Nat) : rX ch kd 1 1 = some 59 := rfl
theorem x_1_2 (ch : Int → Nat) (kd : Nat → Nat) : rX ch kd 1 2 = some 61 := rfl
theorem x_1_3 (ch : Int → Nat) (kd : Nat → Nat) : rX ch kd 1 3 = some 63 := rfl
theorem x_1_4 (ch : Int → Nat) (kd : Nat → Nat) : rX ch kd 1 4 = some 65 := rfl
theorem x_1_5 (ch : Int → Nat) (kd : Nat → Nat) : rX ch kd 1 5 = some 67 := rfl
theorem x_1_6 (ch : Int → Nat) (kd : Nat → Nat) : rX ch kd 1 6 = some 69 := rfl
theorem x_1_7 (ch : Int → Nat) (kd : Nat → Nat) : rX ch kd 1 7 = some 71 := rfl
theorem x_3_0 (ch : Int → Nat) (kd : Nat → Nat) : rX ch kd 3 0 = some 4 := rfl
theorem x_5_0 (ch : Int → Nat) (kd : Nat → Nat) : rX ch kd 5 0 = some 73 := rfl
theorem x_5_1 (ch : Int → Nat) (kd : Nat → Nat) : rX ch kd 5 1 = some 75 := rfl
theorem x_6_0 (ch : Int → Nat) (kd : Nat → Nat) : rX ch kd 6 0 = some 77 := rfl
theorem x_6_1 (ch : Int → Nat) (kd : Nat → Nat) : rX ch kd 6 1 = some 79 := rfl
theorem x_6_2 (ch : Int → Nat) (kd : Nat → Nat) : rX ch kd 6 2 = some 81 := rfl
theorem x_6_3 (ch : Int → Nat) (kd : Nat → Nat) : rX ch kd 6 3 = some 83 := rfl
theorem x_6_4 (ch : Int → Nat) (kd : Nat → Nat) : rX ch kd 6 4 = some 85 := rfl
theorem x_6_5 (ch : Int → Nat) (kd : Nat → Nat) : rX ch kd 6 5 = some 87 := rfl
theorem x_6_6 (ch : Int → Nat) (kd : Nat → Nat) : rX ch kd 6 6 = some 89 := rfl
theorem x_6_7 (ch : Int → Nat) (kd : Nat → Nat) : rX ch kd 6 7 = some 91 := rfl
theorem x_6_8 (ch : Int → Nat) (kd : Nat → Nat) : rX ch kd 6 8 = some 93 := rfl
theorem x_6_9 (ch : Int → Nat) (kd : Nat → Nat) : rX ch kd 6 9 = some 95 := rfl
theorem x_6_10 (ch : Int → Nat) (kd : Nat → Nat) : rX ch kd 6 10 = some 97 := rfl
theorem x_6_11 (ch : Int → Nat) (kd : Nat → Nat) : rX ch kd 6 11 = some 99 := rfl
theorem x_6_12 (ch : Int → Nat) (kd : Nat → Nat) : rX ch kd 6 12 = some 101 := rfl
theorem x_6_13 (ch : Int → Nat) (kd : Nat → Nat) : rX ch kd 6 13 = some 103 := rfl
theorem x_6_14 (ch : Int → Nat) (kd : Nat → Nat) : rX ch kd 6 14 = some 105 := rfl
theorem x_6_15 (ch : Int → Nat) (kd : Nat → Nat) : rX ch kd 6 15 = some 107 := rfl
theorem x_6_16 (ch : Int → Nat) (kd : Nat → Nat) : rX ch kd 6 16 = some 109 := rfl
theorem x_6_17 (ch : Int → Nat) (kd : Nat → Nat) : rX ch kd 6 17 = some 111 := rfl
theorem x_6_18 (ch : Int → Nat) (kd : Nat → Nat) : rX ch kd 6 18 = some 113 := rfl
theorem x_6_19 (ch : Int → Nat) (kd : Nat → Nat) : rX ch kd 6 19 = some 115 := rfl
theorem x_6_20 (ch : Int → Nat) (kd : Nat → Nat) : rX ch kd 6 20 = some 117 := rfl
theorem x_6_21 (ch : Int → Nat) (kd : Nat → Nat) : rX ch kd 6 21 = some 119 := rfl
theorem x_6_22 (ch : Int → Nat) (kd : Nat → Nat) : rX ch kd 6 22 = some 121 := rfl
theorem x_6_23 (ch : Int → Nat) (kd : Nat → Nat) : rX ch kd 6 23 = some 123 := rfl
theorem x_7_0 (ch : Int → Nat) (kd : Nat → Nat) : rX ch kd 7 0 = some 8 := rfl
theorem x_7_1 (ch : Int → Nat) (kd : Nat → Nat) : rX ch kd 7 1 = some 9 := rfl
theorem x_7_2 (ch : Int → Nat) (kd : Nat → Nat) : rX ch kd 7 2 = some 10 := rfl
theorem x_7_3 (ch : Int → Nat) (kd : Nat → Nat) : rX ch kd 7 3 = some 11 := rfl
theorem x_7_4 (ch : Int → Nat) (kd : Nat → Nat) : rX ch kd 7 4 = some 12 := rfl
theorem x_13_0 (ch : Int → Nat) (kd : Nat → Nat) : rX ch kd 13 0 = some 7 := rfl
theorem x_13_1 (ch : Int → Nat) (kd : Nat → Nat) : rX ch kd 13 1 = some 14 := rfl
theorem x_13_2 (ch : Int → Nat) (kd : Nat → Nat) : rX ch kd 13 2 = some 15 := rfl
theorem x_13_3 (ch : Int → Nat) (kd : Nat → Nat) : rX ch kd 13 3 = some 16 := rfl
theorem x_13_4 (ch : Int → Nat) (kd : Nat → Nat) : rX ch kd 13 4 = some 17 := rfl
theorem x_13_5 (ch : Int → Nat) (kd : Nat → Nat) : rX ch kd 13 5 = some 18 := rfl
theorem x_24_0 (ch : Int → Nat) (kd : Nat → Nat) : rX ch kd 24 0 = some 25 := rfl
theorem x_24_1 (ch : Int → Nat) (kd : Nat → Nat) : rX ch kd 24 1 = some 27 := rfl
theorem x_24_2 (ch : Int → Nat) (kd : Nat → Nat) : rX ch kd 24 2 = some 29 := rfl
theorem x_25_0 (ch : Int → Nat) (kd : Nat → Nat) : rX ch kd 25 0 = some 26 := rfl
theorem x_27_0 (ch : Int → Nat) (kd : Nat → Nat) : rX ch kd 27 0 = some 28 := rfl
theorem x_29_0 (ch : Int → Nat) (kd : Nat → Nat) : rX ch kd 29 0 = some 7 := rfl
theorem x_29_1 (ch : Int → Nat) (kd : Nat → Nat) : rX ch kd 29 1 = some 30 := rfl
theorem x_29_2 (ch : Int → Nat) (kd : Nat → Nat) : rX ch kd 29 2 = some 31 := rfl
theorem x_29_3 (ch : Int → Nat) (kd : Nat → Nat) : rX ch kd 29 3 = some 32 := rfl
theorem x_29_4 (ch : Int → Nat) (kd : Nat → Nat) : rX ch kd 29 4 = some 33 := rfl
theorem x_29_5 (ch : Int → Nat) (kd : Nat → Nat) : rX ch kd 29 5 = some 34 := rfl
theorem x_30_0 (ch : Int → Nat) (kd : Nat → Nat) : rX ch kd 30 0 = some 35 := rfl
theorem x_30_1 (ch : Int → Nat) (kd : Nat → Nat) : rX ch kd 30 1 = some 36 := rfl
theorem x_30_2 (ch : Int → Nat) (kd : Nat → Nat) : rX ch kd 30 2 = some 37 := rfl
theorem x_30_3 (ch : Int → Nat) (kd : Nat → Nat) : rX ch kd 30 3 = some 38 := rfl
theorem x_30_4 (ch : Int → Nat) (kd : Nat → Nat) : rX ch kd 30 4 = some 39 := rfl
theorem x_40_0 (ch : Int → Nat) (kd : Nat → Nat) : rX ch kd 40 0 = some 13 := rfl
theorem x_40_1 (ch : Int → Nat) (kd : Nat → Nat) : rX ch kd 40 1 = some 45 := rfl
theorem x_40_2 (ch : Int → Nat) (kd : Nat → Nat) : rX ch kd 40 2 = some 7 := rfl
theorem x_40_3 (ch : Int → Nat) (kd : Nat → Nat) : rX ch kd 40 3 = some 56 := rfl
theorem x_40_4 (ch : Int → Nat) (kd : Nat → Nat) : rX ch kd 40 4 = some 41 := rfl
theorem x_40_5 (ch : Int → Nat) (kd : Nat → Nat) : rX ch kd 40 5 = some 43 := rfl
theorem x_40_6 (ch : Int → Nat) (kd : Nat → Nat) : rX ch kd 40 6 = some 44 := rfl
theorem x_41_0 (ch : Int → Nat) (kd : Nat → Nat) : rX ch kd 41 0 = some 42 := rfl
theorem x_45_0 (ch : Int → Nat) (kd : Nat → Nat) : rX ch kd 45 0 = some 7 := rfl
theorem x_45_1 (ch : Int → Nat) (kd : Nat → Nat) : rX ch kd 45 1 = some 46 := rfl
theorem x_45_2 (ch : Int → Nat) (kd : Nat → Nat) : rX ch kd 45 2 = some 47 := rfl
theorem x_45_3 (ch : Int → Nat) (kd : Nat → Nat) : rX ch kd 45 3 = some 48 := rfl
theorem x_45_4 (ch : Int → Nat) (kd : Nat → Nat) : rX ch kd 45 4 = some 49 := rfl
theorem x_45_5 (ch : Int → Nat) (kd : Nat → Nat) : rX ch kd 45 5 = some 50 := rfl
theorem x_46_0 (ch : Int → Nat) (kd : Nat → Nat) : rX ch kd 46 0 = some 51 := rfl
theorem x_46_1 (ch : Int → Nat) (kd : Nat → Nat) : rX ch kd 46 1 = some 52 := rfl
theorem x_46_2 (ch : Int → Nat) (kd : Nat → Nat) : rX ch kd 46 2 = some 53 := rfl
theorem x_46_3 (ch : Int → Nat) (kd : Nat → Nat) : rX ch kd 46 3 = some 54 := rfl
theorem x_46_4 (ch : Int → Nat) (kd : Nat → Nat) : rX ch kd 46 4 = some 55 := rfl
theorem x_57_0 (ch : Int → Nat) (kd : Nat → Nat) : rX ch kd 57 0 = some 58 := rfl
theorem x_59_0 (ch : Int → Nat) (kd : Nat → Nat) : rX ch kd 59 0 = some 60 := rfl
theorem x_61_0 (ch : Int → Nat) (kd : Nat → Nat) : rX ch kd 61 0 = some 62 := rfl
theorem x_63_0 (ch : Int → Nat) (kd : Nat → Nat) : rX ch kd 63 0 = some 64 := rfl
theorem x_65_0 (ch : Int → Nat) (kd : Nat → Nat) : rX ch kd 65 0 = some 66 := rfl
theorem x_67_0 (ch : Int → Nat) (kd : Nat → Nat) : rX ch kd 67 0 = some 68 := rfl
theorem x_69_0 (ch : Int → Nat) (kd : Nat → Nat) : rX ch kd 69 0 = some 70 := rfl
theorem x_71_0 (ch : Int → Nat) (kd : Nat → Nat) : rX ch kd 71 0 = some 72 := rfl
theorem x_73_0 (ch : Int → Nat) (kd : Nat → Nat) : rX ch kd 73 0 = some 74 := rfl
theorem x_75_0 (ch : Int → Nat) (kd : Nat → Nat) : rX ch kd 75 0 = some 76 := rfl
theorem x_77_0 (ch : Int → Nat) (kd : Nat → Nat) : rX ch kd 77 0 = some 78 := rfl
theorem x_79_0 (ch : Int → Nat) (kd : Nat → Nat) : rX ch kd 79 0 = some 80 := rfl
theorem x_81_0 (ch : Int → Nat) (kd : Nat → Nat) : rX ch kd 81 0 = some 82 := rfl
theorem x_83_0 (ch : Int → Nat) (kd : Nat → Nat) : rX ch kd 83 0 = some 84 := rfl
theorem x_85_0 (ch : Int → Nat) (kd : Nat → Nat) : rX ch kd 85 0 = some 86 := rfl
theorem x_87_0 (ch : Int → Nat) (kd : Nat → Nat) : rX ch kd 87 0 = some 88 := rfl
theorem x_89_0 (ch : Int → Nat) (kd : Nat → Nat) : rX ch kd 89 0 = some 90 := rfl
theorem x_91_0 (ch : Int → Nat) (kd : Nat → Nat) : rX ch kd 91 0 = some 92 := rfl
theorem x_93_0 (ch : Int → Nat) (kd : Nat → Nat) : rX ch kd 93 0 = some 94 := rfl
theorem x_95_0 (ch : Int → Nat) (kd : Nat → Nat) : rX ch kd 95 0 = some 96 := rfl
theorem x_97_0 (ch : Int → Nat) (kd : Nat → Nat) : rX ch kd 97 0 = some 98 := rfl
theorem x_99_0 (ch : Int → Nat) (kd : Nat → Nat) : rX ch kd 99 0 = some 100 := rfl
theorem x_101_0 (ch : Int → Nat) (kd : Nat → Nat) : rX ch kd 101 0 = some 102 := rfl
theorem x_103_0 (ch : Int → Nat) (kd : Nat → Nat) : rX ch kd 103 0 = some 104 := rfl
theorem x_105_0 (ch : Int → Nat) (kd : Nat → Nat) : rX ch kd 105 0 = some 106 := rfl
theorem x_107_0 (ch : Int → Nat) (kd : Nat → Nat) : rX ch kd 107 0 = some 108 := rfl
theorem x_109_0 (ch : Int → Nat) (kd : Nat → Nat) : rX ch kd 109 0 = some 110 := rfl
theorem x_111_0 (ch : Int → Nat) (kd : Nat → Nat) : rX ch kd 111 0 = some 112 := rfl
theorem x_113_0 (ch : Int → Nat) (kd : Nat → Nat) : rX ch kd 113 0 = some 114 := rfl
theorem x_115_0 (ch : Int → Nat) (kd : Nat → Nat) : rX ch kd 115 0 = some 116 := rfl
theorem x_117_0 (ch : Int → Nat) (kd : Nat → Nat) : rX ch kd 117 0 = some 118 := rfl
theorem x_119_0 (ch : Int → Nat) (kd : Nat → Nat) : rX ch kd 119 0 = some 120 := rfl
theorem x_121_0 (ch : Int → Nat) (kd : Nat → Nat) : rX ch kd 121 0 = some 122 := rfl
theorem x_123_0 (ch : Int → Nat) (kd : Nat → Nat) : rX ch kd 123 0 = some 124 := rfl
theorem y_0_0 : rM 0 0 = some 1 := rfl
theorem y_0_1 : rM 0 1 = some 2 := rfl
theorem y_0_2 : rM 0 2 = some 3 := rfl
theorem y_0_3 : rM 0 3 = some 4 := rfl
theorem y_0_5 : rM 0 5 = some 5 := rfl
theorem y_0_13 : rM 0 13 = some 6 := rfl
theorem y_0_14 : rM 0 14 = some 7 := rfl
theorem y_0_15 : rM 0 15 = some 8 := rfl
theorem y_0_16 : rM 0 16 = some 9 := rfl
theorem y_0_18 : rM 0 18 = some 10 := rfl
theorem y_0_19 : rM 0 19 = some 11 := rfl
theorem y_0_20 : rM 0 20 = some 12 := rfl
theorem y_0_21 : rM 0 21 = some 13 := rfl
theorem y_0_22 : rM 0 22 = some 14 := rfl
