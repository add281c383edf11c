/-! the kinds, a chair -/
theorem shp_c {c : Nat} (h : isCh c = true) : c < 57 ∧ shX c = (1, 0) := by
  have hc : c < 57 := by
    simp only [isCh, Bool.or_eq_true, Bool.and_eq_true, Nat.ble_eq] at h
    omega
  exact ⟨hc, (by decide : ∀ c, c < 57 → isCh c = true → shX c = (1, 0)) c hc h⟩
theorem rX_c {c : Nat} {ch : Int → Nat} {kd : Nat → Nat} (h : isCh c = true) : rX ch kd c 0 = some (kd c) := by
  have h14 : (c == 14) = false := by
    simp only [isCh, Bool.or_eq_true, Bool.and_eq_true, Nat.ble_eq] at h
    simp only [beq_eq_false_iff_ne]
    omega
  unfold rX
  rw [h14, h]
  rfl
def mixF (m s o : Int) : Int := (m * s + o * (16 - s)) / 16
theorem mix_rng {m s o : Int} (h1 : 0 ≤ m) (h2 : m ≤ 9) (h3 : 0 ≤ s) (h4 : s ≤ 16) (h5 : 0 ≤ o) (h6 : o ≤ 9) : 0 ≤ m * s + o * (16 - s) ∧ m * s + o * (16 - s) ≤ 144 := by
  have a1 := Int.mul_nonneg h1 h3
  have a2 := Int.mul_nonneg h5 (show 0 ≤ 16 - s by omega)
  have a3 := Int.mul_le_mul_of_nonneg_right h2 h3
  have a4 := Int.mul_le_mul_of_nonneg_right h6 (show 0 ≤ 16 - s by omega)
  omega
/-- how one of an own manner bears himself on a chair of a kind (8 plain, 9 rocker, 10 barber's, 11 throne, 12 dentist's) -/
def bearF (k : Nat) (m s t o : Int) : Int := if k = 8 then mixF m s o else if k = 9 then (if t % 2 = 0 then mixF m s o else o) else if k = 10 then mixF ((m + 1) % 10) s o else if k = 11 then (if s = 0 then o else m) else (if (if s = 0 then o else m) < 5 then 5 else (if s = 0 then o else m))
def strW (k : Nat) (s : Int) : Int := if k ≤ 10 then s - (s + 3) / 4 else s
def manW (k : Nat) (m : Int) : Int := if k = 10 then (m + 1) % 10 else m
def manA (k : Nat) (m s o w : Int) : Int := if strW k s < w then o else manW k m
def strA (k : Nat) (s w : Int) : Int := if strW k s < w then 16 else strW k s
def satA (t : Int) : Int := if t + 1 < 999 then t + 1 else 999
/-- a chair as the one who sat down leaves it -/
def sitC (I : Nat → Int → Int) (c k : Nat) (o w : Int) : Nat → Int → Int := fun a b => if a = c ∧ b = 1 then manA k (I c 1) (I c 2) o w else if a = c ∧ b = 2 then strA k (I c 2) w else if a = c ∧ b = 4 then satA (I c 4) else I a b
/-- a chair's numbers are as they may be -/
def CR (I : Nat → Int → Int) (c : Nat) : Prop := 0 ≤ I c 1 ∧ I c 1 ≤ 9 ∧ 0 ≤ I c 2 ∧ I c 2 ≤ 16 ∧ 0 ≤ I c 4 ∧ I c 4 ≤ 999

set_option maxHeartbeats 1000000 in
theorem c_blend {d : Nat} {I : Nat → Int → Int} {ch : Int → Nat} {kd : Nat → Nat} {Q : Option jV → jS → Prop} {mn s o : Int} (h1 : 0 ≤ mn) (h2 : mn ≤ 9) (h3 : 0 ≤ s) (h4 : s ≤ 16) (h5 : 0 ≤ o) (h6 : o ≤ 9) (hQ : Q (some (vi (mixF mn s o))) (SX I ch kd)) : Cl d 58 [vi mn, vi s, vi o] (SX I ch kd) Q := by
  have hm := mix_rng h1 h2 h3 h4 h5 h6
  refine ⟨by rw [l58]; exact Nat.le_of_ble_eq_true rfl, ?_⟩
  rw [l58]
  show Ev d 58 0 [some (vi mn), some (vi s), some (vi o)] [] (SX I ch kd) Q
  refine ev_s1 (L' := [some (vi mn), some (vi s), some (vi o)]) (S' := [vi mn]) k58_0 rfl rfl ?_
  refine ev_s1 (L' := [some (vi mn), some (vi s), some (vi o)]) (S' := [vi s, vi mn]) k58_1 rfl rfl ?_
  refine ev_s1 (L' := [some (vi mn), some (vi s), some (vi o)]) (S' := [vi (mn * s)]) k58_2 rfl rfl ?_
  refine ev_s1 (L' := [some (vi mn), some (vi s), some (vi o)]) (S' := [vi o, vi (mn * s)]) k58_3 rfl rfl ?_
  refine ev_s1 (L' := [some (vi mn), some (vi s), some (vi o)]) (S' := [vi 16, vi o, vi (mn * s)]) k58_4 rfl rfl ?_
  refine ev_s1 (L' := [some (vi mn), some (vi s), some (vi o)]) (S' := [vi s, vi 16, vi o, vi (mn * s)]) k58_6 rfl rfl ?_
  refine ev_s1 (L' := [some (vi mn), some (vi s), some (vi o)]) (S' := [vi (16 - s), vi o, vi (mn * s)]) k58_7 rfl rfl ?_
  refine ev_s1 (L' := [some (vi mn), some (vi s), some (vi o)]) (S' := [vi (o * (16 - s)), vi (mn * s)]) k58_8 rfl rfl ?_
  refine ev_s1 (L' := [some (vi mn), some (vi s), some (vi o)]) (S' := [vi ((mn * s) + (o * (16 - s)))]) k58_9 rfl rfl ?_
  refine ev_s1 (L' := [some (vi mn), some (vi s), some (vi o)]) (S' := [vi 16, vi ((mn * s) + (o * (16 - s)))]) k58_10 rfl rfl ?_
  refine ev_idiv k58_12 (by omega) (by omega) (by omega) (by omega) ?_
  refine ev_ireturn k58_13 ?_
  exact hQ

set_option maxHeartbeats 1000000 in
theorem c_after {d : Nat} {I : Nat → Int → Int} {ch : Int → Nat} {kd : Nat → Nat} {Q : Option jV → jS → Prop} {mn : Int} (h1 : 0 ≤ mn) (h2 : mn ≤ 9) (hQ : Q (some (vi ((mn + 1) % 10))) (SX I ch kd)) : Cl d 5 [vi mn] (SX I ch kd) Q := by
  refine ⟨by rw [l5]; exact Nat.le_of_ble_eq_true rfl, ?_⟩
  rw [l5]
  show Ev d 5 0 [some (vi mn)] [] (SX I ch kd) Q
  refine ev_s1 (L' := [some (vi mn)]) (S' := [vi mn]) k5_0 rfl rfl ?_
  refine ev_s1 (L' := [some (vi mn)]) (S' := [vi 1, vi mn]) k5_1 rfl rfl ?_
  refine ev_s1 (L' := [some (vi mn)]) (S' := [vi (mn + 1)]) k5_2 rfl rfl ?_
  refine ev_s1 (L' := [some (vi mn)]) (S' := [vi 10, vi (mn + 1)]) k5_3 rfl rfl ?_
  refine ev_irem k5_5 (by omega) (by omega) (by omega) (by omega) ?_
  refine ev_ireturn k5_6 ?_
  exact hQ

set_option maxHeartbeats 1000000 in
theorem c_boP {d : Nat} {I : Nat → Int → Int} {ch : Int → Nat} {kd : Nat → Nat} {Q : Option jV → jS → Prop} {c t : Nat} {own : Int} (hd : 1 ≤ d) (hc : isCh c = true) (hr : CR I c) (o1 : 0 ≤ own) (o2 : own ≤ 9) (hI : Rg I) (hQ : Q (some (vi (mixF (I c 1) (I c 2) own))) (SX I ch kd)) : Cl d 54 [vr t, vr c, vi own] (SX I ch kd) Q := by
  have hcl := (shp_c hc).1
  obtain ⟨r1, r2, r3, r4, r5, r6⟩ := hr
  refine ⟨by rw [l54]; exact Nat.le_of_ble_eq_true rfl, ?_⟩
  rw [l54]
  show Ev d 54 0 [some (vr t), some (vr c), some (vi own)] [] (SX I ch kd) Q
  refine ev_s1 (L' := [some (vr t), some (vr c), some (vi own)]) (S' := [vr c]) k54_0 rfl rfl ?_
  refine ev_getI k54_1 (by omega) ((shp_c hc).2) ?_
  show Ev d 54 4 [some (vr t), some (vr c), some (vi own)] [vi (I c 1)] (SX I ch kd) Q
  have rr1 := hI c 1
  refine ev_s1 (L' := [some (vr t), some (vr c), some (vi own)]) (S' := [vr c, vi (I c 1)]) k54_4 rfl rfl ?_
  refine ev_getI k54_5 (by omega) ((shp_c hc).2) ?_
  show Ev d 54 8 [some (vr t), some (vr c), some (vi own)] [vi (I c 2), vi (I c 1)] (SX I ch kd) Q
  have rr2 := hI c 2
  refine ev_s1 (L' := [some (vr t), some (vr c), some (vi own)]) (S' := [vi own, vi (I c 2), vi (I c 1)]) k54_8 rfl rfl ?_
  refine ev_static (a := [vi (I c 1), vi (I c 2), vi own]) (S' := []) k54_9 rfl (Nat.le_of_ble_eq_true rfl) (by omega) ?_
  refine c_blend (by omega) (by omega) (by omega) (by omega) (by omega) (by omega) (?_)
  show Ev d 54 12 [some (vr t), some (vr c), some (vi own)] [vi (mixF (I c 1) (I c 2) own)] (SX I ch kd) Q
  refine ev_ireturn k54_12 ?_
  exact hQ

set_option maxHeartbeats 1000000 in
theorem c_boB {d : Nat} {I : Nat → Int → Int} {ch : Int → Nat} {kd : Nat → Nat} {Q : Option jV → jS → Prop} {c t : Nat} {own : Int} (hd : 1 ≤ d) (hc : isCh c = true) (hr : CR I c) (o1 : 0 ≤ own) (o2 : own ≤ 9) (hI : Rg I) (hQ : Q (some (vi (mixF ((I c 1 + 1) % 10) (I c 2) own))) (SX I ch kd)) : Cl d 2 [vr t, vr c, vi own] (SX I ch kd) Q := by
  have hcl := (shp_c hc).1
  obtain ⟨r1, r2, r3, r4, r5, r6⟩ := hr
  refine ⟨by rw [l2]; exact Nat.le_of_ble_eq_true rfl, ?_⟩
  rw [l2]
  show Ev d 2 0 [some (vr t), some (vr c), some (vi own)] [] (SX I ch kd) Q
  refine ev_s1 (L' := [some (vr t), some (vr c), some (vi own)]) (S' := [vr c]) k2_0 rfl rfl ?_
  refine ev_getI k2_1 (by omega) ((shp_c hc).2) ?_
  show Ev d 2 4 [some (vr t), some (vr c), some (vi own)] [vi (I c 1)] (SX I ch kd) Q
  have rr1 := hI c 1
  refine ev_static (a := [vi (I c 1)]) (S' := []) k2_4 rfl (Nat.le_of_ble_eq_true rfl) (by omega) ?_
  refine c_after (by omega) (by omega) (?_)
  show Ev d 2 7 [some (vr t), some (vr c), some (vi own)] [vi (((I c 1) + 1) % 10)] (SX I ch kd) Q
  refine ev_s1 (L' := [some (vr t), some (vr c), some (vi own)]) (S' := [vr c, vi (((I c 1) + 1) % 10)]) k2_7 rfl rfl ?_
  refine ev_getI k2_8 (by omega) ((shp_c hc).2) ?_
  show Ev d 2 11 [some (vr t), some (vr c), some (vi own)] [vi (I c 2), vi (((I c 1) + 1) % 10)] (SX I ch kd) Q
  have rr2 := hI c 2
  refine ev_s1 (L' := [some (vr t), some (vr c), some (vi own)]) (S' := [vi own, vi (I c 2), vi (((I c 1) + 1) % 10)]) k2_11 rfl rfl ?_
  refine ev_static (a := [vi (((I c 1) + 1) % 10), vi (I c 2), vi own]) (S' := []) k2_12 rfl (Nat.le_of_ble_eq_true rfl) (by omega) ?_
  refine c_blend (by omega) (by omega) (by omega) (by omega) (by omega) (by omega) (?_)
  show Ev d 2 15 [some (vr t), some (vr c), some (vi own)] [vi (mixF (((I c 1) + 1) % 10) (I c 2) own)] (SX I ch kd) Q
  refine ev_ireturn k2_15 ?_
  exact hQ

set_option maxHeartbeats 1000000 in
theorem c_boR {d : Nat} {I : Nat → Int → Int} {ch : Int → Nat} {kd : Nat → Nat} {Q : Option jV → jS → Prop} {c t : Nat} {own : Int} (hd : 1 ≤ d) (hc : isCh c = true) (hr : CR I c) (o1 : 0 ≤ own) (o2 : own ≤ 9) (hI : Rg I) (hQ : Q (some (vi (if I c 4 % 2 = 0 then mixF (I c 1) (I c 2) own else own))) (SX I ch kd)) : Cl d 76 [vr t, vr c, vi own] (SX I ch kd) Q := by
  have hcl := (shp_c hc).1
  obtain ⟨r1, r2, r3, r4, r5, r6⟩ := hr
  refine ⟨by rw [l76]; exact Nat.le_of_ble_eq_true rfl, ?_⟩
  rw [l76]
  show Ev d 76 0 [some (vr t), some (vr c), some (vi own)] [] (SX I ch kd) Q
  refine ev_s1 (L' := [some (vr t), some (vr c), some (vi own)]) (S' := [vr c]) k76_0 rfl rfl ?_
  refine ev_getI k76_1 (by omega) ((shp_c hc).2) ?_
  show Ev d 76 4 [some (vr t), some (vr c), some (vi own)] [vi (I c 4)] (SX I ch kd) Q
  have rr1 := hI c 4
  refine ev_s1 (L' := [some (vr t), some (vr c), some (vi own)]) (S' := [vi 2, vi (I c 4)]) k76_4 rfl rfl ?_
  refine ev_irem k76_5 (by omega) (by omega) (by omega) (by omega) ?_
  refine ev_z_ne (t := 24) k76_6 rfl (by omega) (by omega) (fun h2 => ?_) (fun h2 => ?_)
  · refine ev_s1 (L' := [some (vr t), some (vr c), some (vi own)]) (S' := [vi own]) k76_24 rfl rfl ?_
    refine ev_ireturn k76_25 ?_
    rw [if_neg (by omega)] at hQ; exact hQ
  · refine ev_s1 (L' := [some (vr t), some (vr c), some (vi own)]) (S' := [vr c]) k76_9 rfl rfl ?_
    refine ev_getI k76_10 (by omega) ((shp_c hc).2) ?_
    show Ev d 76 13 [some (vr t), some (vr c), some (vi own)] [vi (I c 1)] (SX I ch kd) Q
    have rr3 := hI c 1
    refine ev_s1 (L' := [some (vr t), some (vr c), some (vi own)]) (S' := [vr c, vi (I c 1)]) k76_13 rfl rfl ?_
    refine ev_getI k76_14 (by omega) ((shp_c hc).2) ?_
    show Ev d 76 17 [some (vr t), some (vr c), some (vi own)] [vi (I c 2), vi (I c 1)] (SX I ch kd) Q
    have rr4 := hI c 2
    refine ev_s1 (L' := [some (vr t), some (vr c), some (vi own)]) (S' := [vi own, vi (I c 2), vi (I c 1)]) k76_17 rfl rfl ?_
    refine ev_static (a := [vi (I c 1), vi (I c 2), vi own]) (S' := []) k76_18 rfl (Nat.le_of_ble_eq_true rfl) (by omega) ?_
    refine c_blend (by omega) (by omega) (by omega) (by omega) (by omega) (by omega) (?_)
    show Ev d 76 21 [some (vr t), some (vr c), some (vi own)] [vi (mixF (I c 1) (I c 2) own)] (SX I ch kd) Q
    refine ev_goto (t := 25) k76_21 rfl ?_
    refine ev_ireturn k76_25 ?_
    rw [if_pos (by omega)] at hQ; exact hQ

set_option maxHeartbeats 1000000 in
theorem c_boT {d : Nat} {I : Nat → Int → Int} {ch : Int → Nat} {kd : Nat → Nat} {Q : Option jV → jS → Prop} {c t : Nat} {own : Int} (hd : 1 ≤ d) (hc : isCh c = true) (hr : CR I c) (o1 : 0 ≤ own) (o2 : own ≤ 9) (hI : Rg I) (hQ : Q (some (vi (if I c 2 = 0 then own else I c 1))) (SX I ch kd)) : Cl d 105 [vr t, vr c, vi own] (SX I ch kd) Q := by
  have hcl := (shp_c hc).1
  obtain ⟨r1, r2, r3, r4, r5, r6⟩ := hr
  refine ⟨by rw [l105]; exact Nat.le_of_ble_eq_true rfl, ?_⟩
  rw [l105]
  show Ev d 105 0 [some (vr t), some (vr c), some (vi own)] [] (SX I ch kd) Q
  refine ev_s1 (L' := [some (vr t), some (vr c), some (vi own)]) (S' := [vr c]) k105_0 rfl rfl ?_
  refine ev_getI k105_1 (by omega) ((shp_c hc).2) ?_
  show Ev d 105 4 [some (vr t), some (vr c), some (vi own)] [vi (I c 2)] (SX I ch kd) Q
  have rr1 := hI c 2
  refine ev_z_ne (t := 11) k105_4 rfl (by omega) (by omega) (fun h2 => ?_) (fun h2 => ?_)
  · refine ev_s1 (L' := [some (vr t), some (vr c), some (vi own)]) (S' := [vr c]) k105_11 rfl rfl ?_
    refine ev_getI k105_12 (by omega) ((shp_c hc).2) ?_
    show Ev d 105 15 [some (vr t), some (vr c), some (vi own)] [vi (I c 1)] (SX I ch kd) Q
    have rr3 := hI c 1
    refine ev_ireturn k105_15 ?_
    rw [if_neg (by omega)] at hQ; exact hQ
  · refine ev_s1 (L' := [some (vr t), some (vr c), some (vi own)]) (S' := [vi own]) k105_7 rfl rfl ?_
    refine ev_goto (t := 15) k105_8 rfl ?_
    refine ev_ireturn k105_15 ?_
    rw [if_pos (by omega)] at hQ; exact hQ

set_option maxHeartbeats 1000000 in
theorem c_boD {d : Nat} {I : Nat → Int → Int} {ch : Int → Nat} {kd : Nat → Nat} {Q : Option jV → jS → Prop} {c : Nat} {own : Int} (hd : 2 ≤ d) (hc : isCh c = true) (hr : CR I c) (o1 : 0 ≤ own) (o2 : own ≤ 9) (hI : Rg I) (hQ : Q (some (vi (if (if I c 2 = 0 then own else I c 1) < 5 then 5 else (if I c 2 = 0 then own else I c 1)))) (SX I ch kd)) : Cl d 15 [vr 12, vr c, vi own] (SX I ch kd) Q := by
  have hcl := (shp_c hc).1
  obtain ⟨r1, r2, r3, r4, r5, r6⟩ := hr
  refine ⟨by rw [l15]; exact Nat.le_of_ble_eq_true rfl, ?_⟩
  rw [l15]
  show Ev d 15 0 [some (vr 12), some (vr c), some (vi own)] [] (SX I ch kd) Q
  refine ev_s1 (L' := [some (vr 12), some (vr c), some (vi own)]) (S' := [vr 12]) k15_0 rfl rfl ?_
  refine ev_s1 (L' := [some (vr 12), some (vr c), some (vi own)]) (S' := [vr c, vr 12]) k15_1 rfl rfl ?_
  refine ev_s1 (L' := [some (vr 12), some (vr c), some (vi own)]) (S' := [vi own, vr c, vr 12]) k15_2 rfl rfl ?_
  refine ev_spec (a := [vr c, vi own]) (S' := []) k15_3 rfl (Nat.le_of_ble_eq_true rfl) (by decide) (rfl) (by decide) (by omega) ?_
  refine c_boT (c := c) (t := 12) (own := own) (by omega) hc ⟨r1, r2, r3, r4, r5, r6⟩ o1 o2 hI (?_)
  have rb : 0 ≤ (if I c 2 = 0 then own else I c 1) ∧ (if I c 2 = 0 then own else I c 1) ≤ 9 := by split <;> omega
  generalize hv : (if I c 2 = 0 then own else I c 1) = v at rb hQ ⊢
  show Ev d 15 6 [some (vr 12), some (vr c), some (vi own)] [vi v] (SX I ch kd) Q
  refine ev_s1 (L' := [some (vr 12), some (vr c), some (vi own)]) (S' := [vi 5, vi v]) k15_6 rfl rfl ?_
  refine ev_max k15_7 (inB_iff.mpr (by omega)) (inB_iff.mpr (by omega)) (Nat.le_of_ble_eq_true rfl) ?_
  refine ev_ireturn k15_10 ?_
  exact hQ

set_option maxHeartbeats 1000000 in
theorem c_wearP {d : Nat} {I : Nat → Int → Int} {ch : Int → Nat} {kd : Nat → Nat} {Q : Option jV → jS → Prop} {c t : Nat} (hc : isCh c = true) (hr : CR I c) (hI : Rg I) (hQ : Q none (SX (up I c 2 (I c 2 - (I c 2 + 3) / 4)) ch kd)) : Cl d 55 [vr t, vr c] (SX I ch kd) Q := by
  have hcl := (shp_c hc).1
  obtain ⟨r1, r2, r3, r4, r5, r6⟩ := hr
  refine ⟨by rw [l55]; exact Nat.le_of_ble_eq_true rfl, ?_⟩
  rw [l55]
  show Ev d 55 0 [some (vr t), some (vr c)] [] (SX I ch kd) Q
  refine ev_s1 (L' := [some (vr t), some (vr c)]) (S' := [vr c]) k55_0 rfl rfl ?_
  refine ev_s1 (L' := [some (vr t), some (vr c)]) (S' := [vr c, vr c]) k55_1 rfl rfl ?_
  refine ev_getI k55_2 (by omega) ((shp_c hc).2) ?_
  show Ev d 55 5 [some (vr t), some (vr c)] [vi (I c 2), vr c] (SX I ch kd) Q
  have rr1 := hI c 2
  refine ev_s1 (L' := [some (vr t), some (vr c)]) (S' := [vr c, vi (I c 2), vr c]) k55_5 rfl rfl ?_
  refine ev_getI k55_6 (by omega) ((shp_c hc).2) ?_
  show Ev d 55 9 [some (vr t), some (vr c)] [vi (I c 2), vi (I c 2), vr c] (SX I ch kd) Q
  have rr2 := hI c 2
  refine ev_s1 (L' := [some (vr t), some (vr c)]) (S' := [vi 3, vi (I c 2), vi (I c 2), vr c]) k55_9 rfl rfl ?_
  refine ev_s1 (L' := [some (vr t), some (vr c)]) (S' := [vi ((I c 2) + 3), vi (I c 2), vr c]) k55_10 rfl rfl ?_
  refine ev_s1 (L' := [some (vr t), some (vr c)]) (S' := [vi 4, vi ((I c 2) + 3), vi (I c 2), vr c]) k55_11 rfl rfl ?_
  refine ev_idiv k55_12 (by omega) (by omega) (by omega) (by omega) ?_
  refine ev_s1 (L' := [some (vr t), some (vr c)]) (S' := [vi ((I c 2) - (((I c 2) + 3) / 4)), vr c]) k55_13 rfl rfl ?_
  refine ev_putI k55_14 (by omega) ((shp_c hc).2) ?_
  show Ev d 55 17 [some (vr t), some (vr c)] [] (SX (up I c 2 ((I c 2) - (((I c 2) + 3) / 4))) ch kd) Q
  refine ev_return k55_17 ?_
  exact hQ

set_option maxHeartbeats 1000000 in
theorem c_wearT {d : Nat} {I : Nat → Int → Int} {ch : Int → Nat} {kd : Nat → Nat} {Q : Option jV → jS → Prop} {c t : Nat} (hQ : Q none (SX I ch kd)) : Cl d 106 [vr t, vr c] (SX I ch kd) Q := by
  refine ⟨by rw [l106]; exact Nat.le_of_ble_eq_true rfl, ?_⟩
  rw [l106]
  show Ev d 106 0 [some (vr t), some (vr c)] [] (SX I ch kd) Q
  refine ev_return k106_0 ?_
  exact hQ

set_option maxHeartbeats 1000000 in
theorem c_wearB {d : Nat} {I : Nat → Int → Int} {ch : Int → Nat} {kd : Nat → Nat} {Q : Option jV → jS → Prop} {c : Nat} (hd : 1 ≤ d) (hc : isCh c = true) (hr : CR I c) (hI : Rg I) (hQ : Q none (SX (up (up I c 2 (I c 2 - (I c 2 + 3) / 4)) c 1 ((I c 1 + 1) % 10)) ch kd)) : Cl d 3 [vr 10, vr c] (SX I ch kd) Q := by
  have hcl := (shp_c hc).1
  obtain ⟨r1, r2, r3, r4, r5, r6⟩ := hr
  refine ⟨by rw [l3]; exact Nat.le_of_ble_eq_true rfl, ?_⟩
  rw [l3]
  show Ev d 3 0 [some (vr 10), some (vr c)] [] (SX I ch kd) Q
  refine ev_s1 (L' := [some (vr 10), some (vr c)]) (S' := [vr 10]) k3_0 rfl rfl ?_
  refine ev_s1 (L' := [some (vr 10), some (vr c)]) (S' := [vr c, vr 10]) k3_1 rfl rfl ?_
  refine ev_spec (a := [vr c]) (S' := []) k3_2 rfl (Nat.le_of_ble_eq_true rfl) (by decide) (rfl) (by decide) (by omega) ?_
  refine c_wearP (c := c) (t := 10) hc ⟨r1, r2, r3, r4, r5, r6⟩ hI (?_)
  have hI1 := rg_up hI (k := c) (j := 2) (z := I c 2 - (I c 2 + 3) / 4) (by omega) (by omega)
  have e1 : up I c 2 (I c 2 - (I c 2 + 3) / 4) c 1 = I c 1 := upN (Or.inr (by decide))
  generalize hE1 : up I c 2 (I c 2 - (I c 2 + 3) / 4) = I1 at hI1 e1 ⊢
  show Ev d 3 5 [some (vr 10), some (vr c)] [] (SX I1 ch kd) Q
  refine ev_s1 (L' := [some (vr 10), some (vr c)]) (S' := [vr c]) k3_5 rfl rfl ?_
  refine ev_s1 (L' := [some (vr 10), some (vr c)]) (S' := [vr c, vr c]) k3_6 rfl rfl ?_
  refine ev_getI k3_7 (by omega) ((shp_c hc).2) ?_
  show Ev d 3 10 [some (vr 10), some (vr c)] [vi (I1 c 1), vr c] (SX I1 ch kd) Q
  have rr2 := hI1 c 1
  refine ev_static (a := [vi (I1 c 1)]) (S' := [vr c]) k3_10 rfl (Nat.le_of_ble_eq_true rfl) (by omega) ?_
  refine c_after (by omega) (by omega) (?_)
  show Ev d 3 13 [some (vr 10), some (vr c)] [vi (((I1 c 1) + 1) % 10), vr c] (SX I1 ch kd) Q
  refine ev_putI k3_13 (by omega) ((shp_c hc).2) ?_
  show Ev d 3 16 [some (vr 10), some (vr c)] [] (SX (up I1 c 1 (((I1 c 1) + 1) % 10)) ch kd) Q
  have hI3 := rg_up hI1 (k := c) (j := 1) (z := ((I1 c 1) + 1) % 10) (by omega) (by omega)
  generalize hE3 : up I1 c 1 (((I1 c 1) + 1) % 10) = I3 at hI3 ⊢
  refine ev_return k3_16 ?_
  subst hE3
  subst hE1
  rw [upN (I := I) (k := c) (j := 2) (z := I c 2 - (I c 2 + 3) / 4) (a := c) (b := 1) (Or.inr (by decide))]
  exact hQ

set_option maxHeartbeats 1000000 in
theorem c_num1 {d : Nat} {I : Nat → Int → Int} {ch : Int → Nat} {kd : Nat → Nat} {Q : Option jV → jS → Prop} {t : Nat} (hQ : Q (some (vi 1)) (SX I ch kd)) : Cl d 53 [vr t] (SX I ch kd) Q := by
  refine ⟨by rw [l53]; exact Nat.le_of_ble_eq_true rfl, ?_⟩
  rw [l53]
  show Ev d 53 0 [some (vr t)] [] (SX I ch kd) Q
  refine ev_s1 (L' := [some (vr t)]) (S' := [vi 1]) k53_0 rfl rfl ?_
  refine ev_ireturn k53_1 ?_
  exact hQ

set_option maxHeartbeats 1000000 in
theorem c_num2 {d : Nat} {I : Nat → Int → Int} {ch : Int → Nat} {kd : Nat → Nat} {Q : Option jV → jS → Prop} {t : Nat} (hQ : Q (some (vi 2)) (SX I ch kd)) : Cl d 75 [vr t] (SX I ch kd) Q := by
  refine ⟨by rw [l75]; exact Nat.le_of_ble_eq_true rfl, ?_⟩
  rw [l75]
  show Ev d 75 0 [some (vr t)] [] (SX I ch kd) Q
  refine ev_s1 (L' := [some (vr t)]) (S' := [vi 2]) k75_0 rfl rfl ?_
  refine ev_ireturn k75_1 ?_
  exact hQ

set_option maxHeartbeats 1000000 in
theorem c_num3 {d : Nat} {I : Nat → Int → Int} {ch : Int → Nat} {kd : Nat → Nat} {Q : Option jV → jS → Prop} {t : Nat} (hQ : Q (some (vi 3)) (SX I ch kd)) : Cl d 1 [vr t] (SX I ch kd) Q := by
  refine ⟨by rw [l1]; exact Nat.le_of_ble_eq_true rfl, ?_⟩
  rw [l1]
  show Ev d 1 0 [some (vr t)] [] (SX I ch kd) Q
  refine ev_s1 (L' := [some (vr t)]) (S' := [vi 3]) k1_0 rfl rfl ?_
  refine ev_ireturn k1_1 ?_
  exact hQ

set_option maxHeartbeats 1000000 in
theorem c_num4 {d : Nat} {I : Nat → Int → Int} {ch : Int → Nat} {kd : Nat → Nat} {Q : Option jV → jS → Prop} {t : Nat} (hQ : Q (some (vi 4)) (SX I ch kd)) : Cl d 104 [vr t] (SX I ch kd) Q := by
  refine ⟨by rw [l104]; exact Nat.le_of_ble_eq_true rfl, ?_⟩
  rw [l104]
  show Ev d 104 0 [some (vr t)] [] (SX I ch kd) Q
  refine ev_s1 (L' := [some (vr t)]) (S' := [vi 4]) k104_0 rfl rfl ?_
  refine ev_ireturn k104_1 ?_
  exact hQ

set_option maxHeartbeats 1000000 in
theorem c_num5 {d : Nat} {I : Nat → Int → Int} {ch : Int → Nat} {kd : Nat → Nat} {Q : Option jV → jS → Prop} {t : Nat} (hQ : Q (some (vi 5)) (SX I ch kd)) : Cl d 14 [vr t] (SX I ch kd) Q := by
  refine ⟨by rw [l14]; exact Nat.le_of_ble_eq_true rfl, ?_⟩
  rw [l14]
  show Ev d 14 0 [some (vr t)] [] (SX I ch kd) Q
  refine ev_s1 (L' := [some (vr t)]) (S' := [vi 5]) k14_0 rfl rfl ?_
  refine ev_ireturn k14_1 ?_
  exact hQ

set_option maxHeartbeats 4000000 in
theorem c_bearingOf {d : Nat} {I : Nat → Int → Int} {ch : Int → Nat} {kd : Nat → Nat} {Q : Option jV → jS → Prop} {c : Nat} {own : Int} (hd : 3 ≤ d) (hc : isCh c = true) (hkd : 8 ≤ kd c ∧ kd c ≤ 12) (hr : CR I c) (o1 : 0 ≤ own) (o2 : own ≤ 9) (hI : Rg I) (hQ : Q (some (vi (bearF (kd c) (I c 1) (I c 2) (I c 4) own))) (SX I ch kd)) : Cl d 7 [vr c, vi own] (SX I ch kd) Q := by
  have hcl := (shp_c hc).1
  obtain ⟨r1, r2, r3, r4, r5, r6⟩ := hr
  rcases (show kd c = 8 ∨ kd c = 9 ∨ kd c = 10 ∨ kd c = 11 ∨ kd c = 12 by omega) with hk | hk | hk | hk | hk
  · refine ⟨by rw [l7]; exact Nat.le_of_ble_eq_true rfl, ?_⟩
    rw [l7]
    show Ev d 7 0 [some (vr c), some (vi own)] [] (SX I ch kd) Q
    refine ev_s1 (L' := [some (vr c), some (vi own)]) (S' := [vr c]) k7_0 rfl rfl ?_
    refine ev_getR k7_1 (by omega) ((shp_c hc).2) ((rX_c hc).trans (by rw [hk])) ?_
    refine ev_s1 (L' := [some (vr c), some (vi own)]) (S' := [vr c, vr 8]) k7_4 rfl rfl ?_
    refine ev_s1 (L' := [some (vr c), some (vi own)]) (S' := [vi own, vr c, vr 8]) k7_5 rfl rfl ?_
    refine ev_virt (a := [vr c, vi own]) (S' := []) k7_6_5 rfl (Nat.le_of_ble_eq_true rfl) (by decide) (rfl) (by omega) ?_
    refine c_boP (c := c) (t := 8) (own := own) (by omega) hc ⟨r1, r2, r3, r4, r5, r6⟩ o1 o2 hI (?_)
    have hbv : bearF (kd c) (I c 1) (I c 2) (I c 4) own = mixF (I c 1) (I c 2) own := by unfold bearF; rw [hk]; rfl
    rw [← hbv]
    generalize hv : bearF (kd c) (I c 1) (I c 2) (I c 4) own = bv at hbv hQ ⊢
    show Ev d 7 9 [some (vr c), some (vi own)] [vi bv] (SX I ch kd) Q
    refine ev_ireturn k7_9 ?_
    exact hQ
  · refine ⟨by rw [l7]; exact Nat.le_of_ble_eq_true rfl, ?_⟩
    rw [l7]
    show Ev d 7 0 [some (vr c), some (vi own)] [] (SX I ch kd) Q
    refine ev_s1 (L' := [some (vr c), some (vi own)]) (S' := [vr c]) k7_0 rfl rfl ?_
    refine ev_getR k7_1 (by omega) ((shp_c hc).2) ((rX_c hc).trans (by rw [hk])) ?_
    refine ev_s1 (L' := [some (vr c), some (vi own)]) (S' := [vr c, vr 9]) k7_4 rfl rfl ?_
    refine ev_s1 (L' := [some (vr c), some (vi own)]) (S' := [vi own, vr c, vr 9]) k7_5 rfl rfl ?_
    refine ev_virt (a := [vr c, vi own]) (S' := []) k7_6_7 rfl (Nat.le_of_ble_eq_true rfl) (by decide) (rfl) (by omega) ?_
    refine c_boR (c := c) (t := 9) (own := own) (by omega) hc ⟨r1, r2, r3, r4, r5, r6⟩ o1 o2 hI (?_)
    have hbv : bearF (kd c) (I c 1) (I c 2) (I c 4) own = if I c 4 % 2 = 0 then mixF (I c 1) (I c 2) own else own := by unfold bearF; rw [hk]; rfl
    rw [← hbv]
    generalize hv : bearF (kd c) (I c 1) (I c 2) (I c 4) own = bv at hbv hQ ⊢
    show Ev d 7 9 [some (vr c), some (vi own)] [vi bv] (SX I ch kd) Q
    refine ev_ireturn k7_9 ?_
    exact hQ
  · refine ⟨by rw [l7]; exact Nat.le_of_ble_eq_true rfl, ?_⟩
    rw [l7]
    show Ev d 7 0 [some (vr c), some (vi own)] [] (SX I ch kd) Q
    refine ev_s1 (L' := [some (vr c), some (vi own)]) (S' := [vr c]) k7_0 rfl rfl ?_
    refine ev_getR k7_1 (by omega) ((shp_c hc).2) ((rX_c hc).trans (by rw [hk])) ?_
    refine ev_s1 (L' := [some (vr c), some (vi own)]) (S' := [vr c, vr 10]) k7_4 rfl rfl ?_
    refine ev_s1 (L' := [some (vr c), some (vi own)]) (S' := [vi own, vr c, vr 10]) k7_5 rfl rfl ?_
    refine ev_virt (a := [vr c, vi own]) (S' := []) k7_6_0 rfl (Nat.le_of_ble_eq_true rfl) (by decide) (rfl) (by omega) ?_
    refine c_boB (c := c) (t := 10) (own := own) (by omega) hc ⟨r1, r2, r3, r4, r5, r6⟩ o1 o2 hI (?_)
    have hbv : bearF (kd c) (I c 1) (I c 2) (I c 4) own = mixF ((I c 1 + 1) % 10) (I c 2) own := by unfold bearF; rw [hk]; rfl
    rw [← hbv]
    generalize hv : bearF (kd c) (I c 1) (I c 2) (I c 4) own = bv at hbv hQ ⊢
    show Ev d 7 9 [some (vr c), some (vi own)] [vi bv] (SX I ch kd) Q
    refine ev_ireturn k7_9 ?_
    exact hQ
  · refine ⟨by rw [l7]; exact Nat.le_of_ble_eq_true rfl, ?_⟩
    rw [l7]
    show Ev d 7 0 [some (vr c), some (vi own)] [] (SX I ch kd) Q
    refine ev_s1 (L' := [some (vr c), some (vi own)]) (S' := [vr c]) k7_0 rfl rfl ?_
    refine ev_getR k7_1 (by omega) ((shp_c hc).2) ((rX_c hc).trans (by rw [hk])) ?_
    refine ev_s1 (L' := [some (vr c), some (vi own)]) (S' := [vr c, vr 11]) k7_4 rfl rfl ?_
    refine ev_s1 (L' := [some (vr c), some (vi own)]) (S' := [vi own, vr c, vr 11]) k7_5 rfl rfl ?_
    refine ev_virt (a := [vr c, vi own]) (S' := []) k7_6_9 rfl (Nat.le_of_ble_eq_true rfl) (by decide) (rfl) (by omega) ?_
    refine c_boT (c := c) (t := 11) (own := own) (by omega) hc ⟨r1, r2, r3, r4, r5, r6⟩ o1 o2 hI (?_)
    have hbv : bearF (kd c) (I c 1) (I c 2) (I c 4) own = if I c 2 = 0 then own else I c 1 := by unfold bearF; rw [hk]; rfl
    rw [← hbv]
    generalize hv : bearF (kd c) (I c 1) (I c 2) (I c 4) own = bv at hbv hQ ⊢
    show Ev d 7 9 [some (vr c), some (vi own)] [vi bv] (SX I ch kd) Q
    refine ev_ireturn k7_9 ?_
    exact hQ
  · refine ⟨by rw [l7]; exact Nat.le_of_ble_eq_true rfl, ?_⟩
    rw [l7]
    show Ev d 7 0 [some (vr c), some (vi own)] [] (SX I ch kd) Q
    refine ev_s1 (L' := [some (vr c), some (vi own)]) (S' := [vr c]) k7_0 rfl rfl ?_
    refine ev_getR k7_1 (by omega) ((shp_c hc).2) ((rX_c hc).trans (by rw [hk])) ?_
    refine ev_s1 (L' := [some (vr c), some (vi own)]) (S' := [vr c, vr 12]) k7_4 rfl rfl ?_
    refine ev_s1 (L' := [some (vr c), some (vi own)]) (S' := [vi own, vr c, vr 12]) k7_5 rfl rfl ?_
    refine ev_virt (a := [vr c, vi own]) (S' := []) k7_6_2 rfl (Nat.le_of_ble_eq_true rfl) (by decide) (rfl) (by omega) ?_
    refine c_boD (c := c) (own := own) (by omega) hc ⟨r1, r2, r3, r4, r5, r6⟩ o1 o2 hI (?_)
    have hbv : bearF (kd c) (I c 1) (I c 2) (I c 4) own = if (if I c 2 = 0 then own else I c 1) < 5 then 5 else (if I c 2 = 0 then own else I c 1) := by unfold bearF; rw [hk]; rfl
    rw [← hbv]
    generalize hv : bearF (kd c) (I c 1) (I c 2) (I c 4) own = bv at hbv hQ ⊢
    show Ev d 7 9 [some (vr c), some (vi own)] [vi bv] (SX I ch kd) Q
    refine ev_ireturn k7_9 ?_
    exact hQ

theorem sit_ext {I J : Nat → Int → Int} {c k : Nat} {o w : Int} (h1 : J c 1 = manA k (I c 1) (I c 2) o w) (h2 : J c 2 = strA k (I c 2) w) (h4 : J c 4 = satA (I c 4)) (hf : ∀ (a : Nat) (b : Int), (a ≠ c ∨ (b ≠ 1 ∧ b ≠ 2 ∧ b ≠ 4)) → J a b = I a b) : J = sitC I c k o w := by
  funext a b
  unfold sitC
  by_cases ha : a = c
  · subst ha
    by_cases b1 : b = 1
    · subst b1; rw [if_pos ⟨rfl, rfl⟩]; exact h1
    · rw [if_neg (fun q => b1 q.2)]
      by_cases b2 : b = 2
      · subst b2; rw [if_pos ⟨rfl, rfl⟩]; exact h2
      · rw [if_neg (fun q => b2 q.2)]
        by_cases b4 : b = 4
        · subst b4; rw [if_pos ⟨rfl, rfl⟩]; exact h4
        · rw [if_neg (fun q => b4 q.2)]; exact hf a b (Or.inr ⟨b1, b2, b4⟩)
  · rw [if_neg (fun q => ha q.1), if_neg (fun q => ha q.1), if_neg (fun q => ha q.1)]; exact hf a b (Or.inl ha)

set_option maxHeartbeats 4000000 in
theorem c_bear {d : Nat} {I : Nat → Int → Int} {ch : Int → Nat} {kd : Nat → Nat} {Q : Option jV → jS → Prop} {c : Nat} {own : Int} (hd : 3 ≤ d) (hc : isCh c = true) (hkd : 8 ≤ kd c ∧ kd c ≤ 12) (hr : CR I c) (o1 : 0 ≤ own) (o2 : own ≤ 9) (hI : Rg I) {will : Int} (w1 : 1 ≤ will) (w2 : will ≤ 9) (hQ : Q (some (vi (bearF (kd c) (I c 1) (I c 2) (I c 4) own))) (SX (sitC I c (kd c) own will) ch kd)) : Cl d 8 [vr c, vi own, vi will] (SX I ch kd) Q := by
  have hcl := (shp_c hc).1
  obtain ⟨r1, r2, r3, r4, r5, r6⟩ := hr
  rcases (show kd c = 8 ∨ kd c = 9 ∨ kd c = 10 ∨ kd c = 11 ∨ kd c = 12 by omega) with hk | hk | hk | hk | hk
  · have f0_0 : I c 1 = I c 1 := rfl
    have f0_1 : I c 2 = I c 2 := rfl
    have f0_2 : I c 4 = I c 4 := rfl
    refine ⟨by rw [l8]; exact Nat.le_of_ble_eq_true rfl, ?_⟩
    rw [l8]
    show Ev d 8 0 [some (vr c), some (vi own), some (vi will), none] [] (SX I ch kd) Q
    refine ev_s1 (L' := [some (vr c), some (vi own), some (vi will), none]) (S' := [vr c]) k8_0 rfl rfl ?_
    refine ev_getR k8_1 (by omega) ((shp_c hc).2) ((rX_c hc).trans (by rw [hk])) ?_
    refine ev_s1 (L' := [some (vr c), some (vi own), some (vi will), none]) (S' := [vr c, vr 8]) k8_4 rfl rfl ?_
    refine ev_s1 (L' := [some (vr c), some (vi own), some (vi will), none]) (S' := [vi own, vr c, vr 8]) k8_5 rfl rfl ?_
    refine ev_virt (a := [vr c, vi own]) (S' := []) k8_6_5 rfl (Nat.le_of_ble_eq_true rfl) (by decide) (rfl) (by omega) ?_
    refine c_boP (c := c) (t := 8) (own := own) (by omega) hc ⟨r1, r2, r3, r4, r5, r6⟩ o1 o2 hI (?_)
    have hbv : bearF (kd c) (I c 1) (I c 2) (I c 4) own = mixF (I c 1) (I c 2) own := by unfold bearF; rw [hk]; rfl
    rw [← hbv]
    generalize hv : bearF (kd c) (I c 1) (I c 2) (I c 4) own = bv at hbv hQ ⊢
    show Ev d 8 9 [some (vr c), some (vi own), some (vi will), none] [vi bv] (SX I ch kd) Q
    refine ev_s1 (L' := [some (vr c), some (vi own), some (vi will), some (vi bv)]) (S' := []) k8_9 rfl rfl ?_
    refine ev_s1 (L' := [some (vr c), some (vi own), some (vi will), some (vi bv)]) (S' := [vr c]) k8_10 rfl rfl ?_
    refine ev_s1 (L' := [some (vr c), some (vi own), some (vi will), some (vi bv)]) (S' := [vr c, vr c]) k8_11 rfl rfl ?_
    refine ev_getI k8_12 (by omega) ((shp_c hc).2) ?_
    show Ev d 8 15 [some (vr c), some (vi own), some (vi will), some (vi bv)] [vi (I c 4), vr c] (SX I ch kd) Q
    have rr1 := hI c 4
    refine ev_s1 (L' := [some (vr c), some (vi own), some (vi will), some (vi bv)]) (S' := [vi 1, vi (I c 4), vr c]) k8_15 rfl rfl ?_
    refine ev_s1 (L' := [some (vr c), some (vi own), some (vi will), some (vi bv)]) (S' := [vi ((I c 4) + 1), vr c]) k8_16 rfl rfl ?_
    refine ev_s1 (L' := [some (vr c), some (vi own), some (vi will), some (vi bv)]) (S' := [vi 999, vi ((I c 4) + 1), vr c]) k8_17 rfl rfl ?_
    refine ev_min k8_20 (inB_iff.mpr (by omega)) (inB_iff.mpr (by omega)) (Nat.le_of_ble_eq_true rfl) ?_
    have rs : 0 ≤ (if ((I c 4) + 1) < 999 then (I c 4) + 1 else 999) ∧ (if ((I c 4) + 1) < 999 then (I c 4) + 1 else 999) ≤ 999 := by split <;> omega
    generalize hsat : (if ((I c 4) + 1) < 999 then (I c 4) + 1 else 999) = sv at rs ⊢
    show Ev d 8 23 [some (vr c), some (vi own), some (vi will), some (vi bv)] [vi sv, vr c] (SX I ch kd) Q
    refine ev_putI k8_23 (by omega) ((shp_c hc).2) ?_
    show Ev d 8 26 [some (vr c), some (vi own), some (vi will), some (vi bv)] [] (SX (up I c 4 sv) ch kd) Q
    have hI2 := rg_up hI (k := c) (j := 4) (z := sv) (by omega) (by omega)
    generalize hE2 : up I c 4 sv = I2 at hI2 ⊢
    have f2_0 : I2 c 1 = I c 1 := by rw [← hE2]; exact (upN (Or.inr (by decide))).trans f0_0
    have f2_1 : I2 c 2 = I c 2 := by rw [← hE2]; exact (upN (Or.inr (by decide))).trans f0_1
    have f2_2 : I2 c 4 = sv := by rw [← hE2]; exact upE rfl rfl
    have g2 : ∀ (a : Nat) (b : Int), (a ≠ c ∨ (b ≠ 1 ∧ b ≠ 2 ∧ b ≠ 4)) → I2 a b = I a b := fun a b hf => by rw [← hE2]; exact (upN (by omega)).trans ((fun a b _ => rfl : ∀ (a : Nat) (b : Int), (a ≠ c ∨ (b ≠ 1 ∧ b ≠ 2 ∧ b ≠ 4)) → I a b = I a b) a b hf)
    refine ev_s1 (L' := [some (vr c), some (vi own), some (vi will), some (vi bv)]) (S' := [vr c]) k8_26 rfl rfl ?_
    refine ev_getR k8_27 (by omega) ((shp_c hc).2) ((rX_c hc).trans (by rw [hk])) ?_
    refine ev_s1 (L' := [some (vr c), some (vi own), some (vi will), some (vi bv)]) (S' := [vr c, vr 8]) k8_30 rfl rfl ?_
    refine ev_virt (a := [vr c]) (S' := []) k8_31_5 rfl (Nat.le_of_ble_eq_true rfl) (by decide) (rfl) (by omega) ?_
    have hcr : CR I2 c := by refine ⟨?_, ?_, ?_, ?_, ?_, ?_⟩ <;> first | (rw [f2_0]; omega) | (rw [f2_1]; omega) | (rw [f2_2]; omega)
    refine c_wearP (c := c) (t := 8) hc hcr hI2 (?_)
    have hI3 := rg_up hI2 (k := c) (j := 2) (z := I2 c 2 - (I2 c 2 + 3) / 4) (by rw [f2_1]; omega) (by rw [f2_1]; omega)
    generalize hE3 : up I2 c 2 (I2 c 2 - (I2 c 2 + 3) / 4) = I3 at hI3 ⊢
    have f3_0 : I3 c 1 = I c 1 := by rw [← hE3]; exact (upN (Or.inr (by decide))).trans f2_0
    have f3_1 : I3 c 2 = I2 c 2 - (I2 c 2 + 3) / 4 := by rw [← hE3]; exact upE rfl rfl
    have f3_2 : I3 c 4 = sv := by rw [← hE3]; exact (upN (Or.inr (by decide))).trans f2_2
    have g3 : ∀ (a : Nat) (b : Int), (a ≠ c ∨ (b ≠ 1 ∧ b ≠ 2 ∧ b ≠ 4)) → I3 a b = I a b := fun a b hf => by rw [← hE3]; exact (upN (by omega)).trans (g2 a b hf)
    show Ev d 8 34 [some (vr c), some (vi own), some (vi will), some (vi bv)] [] (SX I3 ch kd) Q
    refine ev_s1 (L' := [some (vr c), some (vi own), some (vi will), some (vi bv)]) (S' := [vr c]) k8_34 rfl rfl ?_
    refine ev_getI k8_35 (by omega) ((shp_c hc).2) ?_
    show Ev d 8 38 [some (vr c), some (vi own), some (vi will), some (vi bv)] [vi (I3 c 2)] (SX I3 ch kd) Q
    have rr4 := hI3 c 2
    rw [f3_1]
    rw [f3_1] at rr4
    refine ev_s1 (L' := [some (vr c), some (vi own), some (vi will), some (vi bv)]) (S' := [vi will, vi (I2 c 2 - (I2 c 2 + 3) / 4)]) k8_38 rfl rfl ?_
    refine ev_c_ge (t := 53) k8_39 rfl (by omega) (by omega) (by omega) (by omega) (fun h5 => ?_) (fun h5 => ?_)
    · refine ev_s1 (L' := [some (vr c), some (vi own), some (vi will), some (vi bv)]) (S' := [vi bv]) k8_53 rfl rfl ?_
      refine ev_ireturn k8_54 ?_
      have hs : strW (kd c) (I c 2) = I c 2 - (I c 2 + 3) / 4 := by unfold strW; rw [hk]; rfl
      have hm : manW (kd c) (I c 1) = I c 1 := by unfold manW; rw [hk]; rfl
      have e : I3 = sitC I c (kd c) own will := by
        refine sit_ext ?_ ?_ ?_ g3
        · unfold manA; rw [hs, hm, f3_0]; first | (rw [if_pos (by omega)]; done) | (rw [if_neg (by omega)]; done) | (rw [if_pos (by omega)]; omega) | (rw [if_neg (by omega)]; omega)
        · unfold strA; rw [hs, f3_1]; first | (rw [if_pos (by omega)]; done) | (rw [if_neg (by omega)]; done) | (rw [if_pos (by omega)]; omega) | (rw [if_neg (by omega)]; omega)
        · rw [f3_2]; exact hsat.symm
      rw [e]; exact hQ
    · refine ev_s1 (L' := [some (vr c), some (vi own), some (vi will), some (vi bv)]) (S' := [vr c]) k8_42 rfl rfl ?_
      refine ev_s1 (L' := [some (vr c), some (vi own), some (vi will), some (vi bv)]) (S' := [vi own, vr c]) k8_43 rfl rfl ?_
      refine ev_putI k8_44 (by omega) ((shp_c hc).2) ?_
      show Ev d 8 47 [some (vr c), some (vi own), some (vi will), some (vi bv)] [] (SX (up I3 c 1 own) ch kd) Q
      have hI6 := rg_up hI3 (k := c) (j := 1) (z := own) (by omega) (by omega)
      generalize hE6 : up I3 c 1 own = I6 at hI6 ⊢
      have f6_0 : I6 c 1 = own := by rw [← hE6]; exact upE rfl rfl
      have f6_1 : I6 c 2 = I2 c 2 - (I2 c 2 + 3) / 4 := by rw [← hE6]; exact (upN (Or.inr (by decide))).trans f3_1
      have f6_2 : I6 c 4 = sv := by rw [← hE6]; exact (upN (Or.inr (by decide))).trans f3_2
      have g6 : ∀ (a : Nat) (b : Int), (a ≠ c ∨ (b ≠ 1 ∧ b ≠ 2 ∧ b ≠ 4)) → I6 a b = I a b := fun a b hf => by rw [← hE6]; exact (upN (by omega)).trans (g3 a b hf)
      refine ev_s1 (L' := [some (vr c), some (vi own), some (vi will), some (vi bv)]) (S' := [vr c]) k8_47 rfl rfl ?_
      refine ev_s1 (L' := [some (vr c), some (vi own), some (vi will), some (vi bv)]) (S' := [vi 16, vr c]) k8_48 rfl rfl ?_
      refine ev_putI k8_50 (by omega) ((shp_c hc).2) ?_
      show Ev d 8 53 [some (vr c), some (vi own), some (vi will), some (vi bv)] [] (SX (up I6 c 2 16) ch kd) Q
      have hI7 := rg_up hI6 (k := c) (j := 2) (z := 16) (by omega) (by omega)
      generalize hE7 : up I6 c 2 16 = I7 at hI7 ⊢
      have f7_0 : I7 c 1 = own := by rw [← hE7]; exact (upN (Or.inr (by decide))).trans f6_0
      have f7_1 : I7 c 2 = 16 := by rw [← hE7]; exact upE rfl rfl
      have f7_2 : I7 c 4 = sv := by rw [← hE7]; exact (upN (Or.inr (by decide))).trans f6_2
      have g7 : ∀ (a : Nat) (b : Int), (a ≠ c ∨ (b ≠ 1 ∧ b ≠ 2 ∧ b ≠ 4)) → I7 a b = I a b := fun a b hf => by rw [← hE7]; exact (upN (by omega)).trans (g6 a b hf)
      refine ev_s1 (L' := [some (vr c), some (vi own), some (vi will), some (vi bv)]) (S' := [vi bv]) k8_53 rfl rfl ?_
      refine ev_ireturn k8_54 ?_
      have hs : strW (kd c) (I c 2) = I c 2 - (I c 2 + 3) / 4 := by unfold strW; rw [hk]; rfl
      have hm : manW (kd c) (I c 1) = I c 1 := by unfold manW; rw [hk]; rfl
      have e : I7 = sitC I c (kd c) own will := by
        refine sit_ext ?_ ?_ ?_ g7
        · unfold manA; rw [hs, hm, f7_0]; first | (rw [if_pos (by omega)]; done) | (rw [if_neg (by omega)]; done) | (rw [if_pos (by omega)]; omega) | (rw [if_neg (by omega)]; omega)
        · unfold strA; rw [hs, f7_1]; first | (rw [if_pos (by omega)]; done) | (rw [if_neg (by omega)]; done) | (rw [if_pos (by omega)]; omega) | (rw [if_neg (by omega)]; omega)
        · rw [f7_2]; exact hsat.symm
      rw [e]; exact hQ
  · have f0_0 : I c 1 = I c 1 := rfl
    have f0_1 : I c 2 = I c 2 := rfl
    have f0_2 : I c 4 = I c 4 := rfl
    refine ⟨by rw [l8]; exact Nat.le_of_ble_eq_true rfl, ?_⟩
    rw [l8]
    show Ev d 8 0 [some (vr c), some (vi own), some (vi will), none] [] (SX I ch kd) Q
    refine ev_s1 (L' := [some (vr c), some (vi own), some (vi will), none]) (S' := [vr c]) k8_0 rfl rfl ?_
    refine ev_getR k8_1 (by omega) ((shp_c hc).2) ((rX_c hc).trans (by rw [hk])) ?_
    refine ev_s1 (L' := [some (vr c), some (vi own), some (vi will), none]) (S' := [vr c, vr 9]) k8_4 rfl rfl ?_
    refine ev_s1 (L' := [some (vr c), some (vi own), some (vi will), none]) (S' := [vi own, vr c, vr 9]) k8_5 rfl rfl ?_
    refine ev_virt (a := [vr c, vi own]) (S' := []) k8_6_7 rfl (Nat.le_of_ble_eq_true rfl) (by decide) (rfl) (by omega) ?_
    refine c_boR (c := c) (t := 9) (own := own) (by omega) hc ⟨r1, r2, r3, r4, r5, r6⟩ o1 o2 hI (?_)
    have hbv : bearF (kd c) (I c 1) (I c 2) (I c 4) own = if I c 4 % 2 = 0 then mixF (I c 1) (I c 2) own else own := by unfold bearF; rw [hk]; rfl
    rw [← hbv]
    generalize hv : bearF (kd c) (I c 1) (I c 2) (I c 4) own = bv at hbv hQ ⊢
    show Ev d 8 9 [some (vr c), some (vi own), some (vi will), none] [vi bv] (SX I ch kd) Q
    refine ev_s1 (L' := [some (vr c), some (vi own), some (vi will), some (vi bv)]) (S' := []) k8_9 rfl rfl ?_
    refine ev_s1 (L' := [some (vr c), some (vi own), some (vi will), some (vi bv)]) (S' := [vr c]) k8_10 rfl rfl ?_
    refine ev_s1 (L' := [some (vr c), some (vi own), some (vi will), some (vi bv)]) (S' := [vr c, vr c]) k8_11 rfl rfl ?_
    refine ev_getI k8_12 (by omega) ((shp_c hc).2) ?_
    show Ev d 8 15 [some (vr c), some (vi own), some (vi will), some (vi bv)] [vi (I c 4), vr c] (SX I ch kd) Q
    have rr1 := hI c 4
    refine ev_s1 (L' := [some (vr c), some (vi own), some (vi will), some (vi bv)]) (S' := [vi 1, vi (I c 4), vr c]) k8_15 rfl rfl ?_
    refine ev_s1 (L' := [some (vr c), some (vi own), some (vi will), some (vi bv)]) (S' := [vi ((I c 4) + 1), vr c]) k8_16 rfl rfl ?_
    refine ev_s1 (L' := [some (vr c), some (vi own), some (vi will), some (vi bv)]) (S' := [vi 999, vi ((I c 4) + 1), vr c]) k8_17 rfl rfl ?_
    refine ev_min k8_20 (inB_iff.mpr (by omega)) (inB_iff.mpr (by omega)) (Nat.le_of_ble_eq_true rfl) ?_
    have rs : 0 ≤ (if ((I c 4) + 1) < 999 then (I c 4) + 1 else 999) ∧ (if ((I c 4) + 1) < 999 then (I c 4) + 1 else 999) ≤ 999 := by split <;> omega
    generalize hsat : (if ((I c 4) + 1) < 999 then (I c 4) + 1 else 999) = sv at rs ⊢
    show Ev d 8 23 [some (vr c), some (vi own), some (vi will), some (vi bv)] [vi sv, vr c] (SX I ch kd) Q
    refine ev_putI k8_23 (by omega) ((shp_c hc).2) ?_
    show Ev d 8 26 [some (vr c), some (vi own), some (vi will), some (vi bv)] [] (SX (up I c 4 sv) ch kd) Q
    have hI2 := rg_up hI (k := c) (j := 4) (z := sv) (by omega) (by omega)
    generalize hE2 : up I c 4 sv = I2 at hI2 ⊢
    have f2_0 : I2 c 1 = I c 1 := by rw [← hE2]; exact (upN (Or.inr (by decide))).trans f0_0
    have f2_1 : I2 c 2 = I c 2 := by rw [← hE2]; exact (upN (Or.inr (by decide))).trans f0_1
    have f2_2 : I2 c 4 = sv := by rw [← hE2]; exact upE rfl rfl
    have g2 : ∀ (a : Nat) (b : Int), (a ≠ c ∨ (b ≠ 1 ∧ b ≠ 2 ∧ b ≠ 4)) → I2 a b = I a b := fun a b hf => by rw [← hE2]; exact (upN (by omega)).trans ((fun a b _ => rfl : ∀ (a : Nat) (b : Int), (a ≠ c ∨ (b ≠ 1 ∧ b ≠ 2 ∧ b ≠ 4)) → I a b = I a b) a b hf)
    refine ev_s1 (L' := [some (vr c), some (vi own), some (vi will), some (vi bv)]) (S' := [vr c]) k8_26 rfl rfl ?_
    refine ev_getR k8_27 (by omega) ((shp_c hc).2) ((rX_c hc).trans (by rw [hk])) ?_
    refine ev_s1 (L' := [some (vr c), some (vi own), some (vi will), some (vi bv)]) (S' := [vr c, vr 9]) k8_30 rfl rfl ?_
    refine ev_virt (a := [vr c]) (S' := []) k8_31_7 rfl (Nat.le_of_ble_eq_true rfl) (by decide) (rfl) (by omega) ?_
    have hcr : CR I2 c := by refine ⟨?_, ?_, ?_, ?_, ?_, ?_⟩ <;> first | (rw [f2_0]; omega) | (rw [f2_1]; omega) | (rw [f2_2]; omega)
    refine c_wearP (c := c) (t := 9) hc hcr hI2 (?_)
    have hI3 := rg_up hI2 (k := c) (j := 2) (z := I2 c 2 - (I2 c 2 + 3) / 4) (by rw [f2_1]; omega) (by rw [f2_1]; omega)
    generalize hE3 : up I2 c 2 (I2 c 2 - (I2 c 2 + 3) / 4) = I3 at hI3 ⊢
    have f3_0 : I3 c 1 = I c 1 := by rw [← hE3]; exact (upN (Or.inr (by decide))).trans f2_0
    have f3_1 : I3 c 2 = I2 c 2 - (I2 c 2 + 3) / 4 := by rw [← hE3]; exact upE rfl rfl
    have f3_2 : I3 c 4 = sv := by rw [← hE3]; exact (upN (Or.inr (by decide))).trans f2_2
    have g3 : ∀ (a : Nat) (b : Int), (a ≠ c ∨ (b ≠ 1 ∧ b ≠ 2 ∧ b ≠ 4)) → I3 a b = I a b := fun a b hf => by rw [← hE3]; exact (upN (by omega)).trans (g2 a b hf)
    show Ev d 8 34 [some (vr c), some (vi own), some (vi will), some (vi bv)] [] (SX I3 ch kd) Q
    refine ev_s1 (L' := [some (vr c), some (vi own), some (vi will), some (vi bv)]) (S' := [vr c]) k8_34 rfl rfl ?_
    refine ev_getI k8_35 (by omega) ((shp_c hc).2) ?_
    show Ev d 8 38 [some (vr c), some (vi own), some (vi will), some (vi bv)] [vi (I3 c 2)] (SX I3 ch kd) Q
    have rr4 := hI3 c 2
    rw [f3_1]
    rw [f3_1] at rr4
    refine ev_s1 (L' := [some (vr c), some (vi own), some (vi will), some (vi bv)]) (S' := [vi will, vi (I2 c 2 - (I2 c 2 + 3) / 4)]) k8_38 rfl rfl ?_
    refine ev_c_ge (t := 53) k8_39 rfl (by omega) (by omega) (by omega) (by omega) (fun h5 => ?_) (fun h5 => ?_)
    · refine ev_s1 (L' := [some (vr c), some (vi own), some (vi will), some (vi bv)]) (S' := [vi bv]) k8_53 rfl rfl ?_
      refine ev_ireturn k8_54 ?_
      have hs : strW (kd c) (I c 2) = I c 2 - (I c 2 + 3) / 4 := by unfold strW; rw [hk]; rfl
      have hm : manW (kd c) (I c 1) = I c 1 := by unfold manW; rw [hk]; rfl
      have e : I3 = sitC I c (kd c) own will := by
        refine sit_ext ?_ ?_ ?_ g3
        · unfold manA; rw [hs, hm, f3_0]; first | (rw [if_pos (by omega)]; done) | (rw [if_neg (by omega)]; done) | (rw [if_pos (by omega)]; omega) | (rw [if_neg (by omega)]; omega)
        · unfold strA; rw [hs, f3_1]; first | (rw [if_pos (by omega)]; done) | (rw [if_neg (by omega)]; done) | (rw [if_pos (by omega)]; omega) | (rw [if_neg (by omega)]; omega)
        · rw [f3_2]; exact hsat.symm
      rw [e]; exact hQ
    · refine ev_s1 (L' := [some (vr c), some (vi own), some (vi will), some (vi bv)]) (S' := [vr c]) k8_42 rfl rfl ?_
      refine ev_s1 (L' := [some (vr c), some (vi own), some (vi will), some (vi bv)]) (S' := [vi own, vr c]) k8_43 rfl rfl ?_
      refine ev_putI k8_44 (by omega) ((shp_c hc).2) ?_
      show Ev d 8 47 [some (vr c), some (vi own), some (vi will), some (vi bv)] [] (SX (up I3 c 1 own) ch kd) Q
      have hI6 := rg_up hI3 (k := c) (j := 1) (z := own) (by omega) (by omega)
      generalize hE6 : up I3 c 1 own = I6 at hI6 ⊢
      have f6_0 : I6 c 1 = own := by rw [← hE6]; exact upE rfl rfl
      have f6_1 : I6 c 2 = I2 c 2 - (I2 c 2 + 3) / 4 := by rw [← hE6]; exact (upN (Or.inr (by decide))).trans f3_1
      have f6_2 : I6 c 4 = sv := by rw [← hE6]; exact (upN (Or.inr (by decide))).trans f3_2
      have g6 : ∀ (a : Nat) (b : Int), (a ≠ c ∨ (b ≠ 1 ∧ b ≠ 2 ∧ b ≠ 4)) → I6 a b = I a b := fun a b hf => by rw [← hE6]; exact (upN (by omega)).trans (g3 a b hf)
      refine ev_s1 (L' := [some (vr c), some (vi own), some (vi will), some (vi bv)]) (S' := [vr c]) k8_47 rfl rfl ?_
      refine ev_s1 (L' := [some (vr c), some (vi own), some (vi will), some (vi bv)]) (S' := [vi 16, vr c]) k8_48 rfl rfl ?_
      refine ev_putI k8_50 (by omega) ((shp_c hc).2) ?_
      show Ev d 8 53 [some (vr c), some (vi own), some (vi will), some (vi bv)] [] (SX (up I6 c 2 16) ch kd) Q
      have hI7 := rg_up hI6 (k := c) (j := 2) (z := 16) (by omega) (by omega)
      generalize hE7 : up I6 c 2 16 = I7 at hI7 ⊢
      have f7_0 : I7 c 1 = own := by rw [← hE7]; exact (upN (Or.inr (by decide))).trans f6_0
      have f7_1 : I7 c 2 = 16 := by rw [← hE7]; exact upE rfl rfl
      have f7_2 : I7 c 4 = sv := by rw [← hE7]; exact (upN (Or.inr (by decide))).trans f6_2
      have g7 : ∀ (a : Nat) (b : Int), (a ≠ c ∨ (b ≠ 1 ∧ b ≠ 2 ∧ b ≠ 4)) → I7 a b = I a b := fun a b hf => by rw [← hE7]; exact (upN (by omega)).trans (g6 a b hf)
      refine ev_s1 (L' := [some (vr c), some (vi own), some (vi will), some (vi bv)]) (S' := [vi bv]) k8_53 rfl rfl ?_
      refine ev_ireturn k8_54 ?_
      have hs : strW (kd c) (I c 2) = I c 2 - (I c 2 + 3) / 4 := by unfold strW; rw [hk]; rfl
      have hm : manW (kd c) (I c 1) = I c 1 := by unfold manW; rw [hk]; rfl
      have e : I7 = sitC I c (kd c) own will := by
        refine sit_ext ?_ ?_ ?_ g7
        · unfold manA; rw [hs, hm, f7_0]; first | (rw [if_pos (by omega)]; done) | (rw [if_neg (by omega)]; done) | (rw [if_pos (by omega)]; omega) | (rw [if_neg (by omega)]; omega)
        · unfold strA; rw [hs, f7_1]; first | (rw [if_pos (by omega)]; done) | (rw [if_neg (by omega)]; done) | (rw [if_pos (by omega)]; omega) | (rw [if_neg (by omega)]; omega)
        · rw [f7_2]; exact hsat.symm
      rw [e]; exact hQ
  · have f0_0 : I c 1 = I c 1 := rfl
    have f0_1 : I c 2 = I c 2 := rfl
    have f0_2 : I c 4 = I c 4 := rfl
    refine ⟨by rw [l8]; exact Nat.le_of_ble_eq_true rfl, ?_⟩
    rw [l8]
    show Ev d 8 0 [some (vr c), some (vi own), some (vi will), none] [] (SX I ch kd) Q
    refine ev_s1 (L' := [some (vr c), some (vi own), some (vi will), none]) (S' := [vr c]) k8_0 rfl rfl ?_
    refine ev_getR k8_1 (by omega) ((shp_c hc).2) ((rX_c hc).trans (by rw [hk])) ?_
    refine ev_s1 (L' := [some (vr c), some (vi own), some (vi will), none]) (S' := [vr c, vr 10]) k8_4 rfl rfl ?_
    refine ev_s1 (L' := [some (vr c), some (vi own), some (vi will), none]) (S' := [vi own, vr c, vr 10]) k8_5 rfl rfl ?_
    refine ev_virt (a := [vr c, vi own]) (S' := []) k8_6_0 rfl (Nat.le_of_ble_eq_true rfl) (by decide) (rfl) (by omega) ?_
    refine c_boB (c := c) (t := 10) (own := own) (by omega) hc ⟨r1, r2, r3, r4, r5, r6⟩ o1 o2 hI (?_)
    have hbv : bearF (kd c) (I c 1) (I c 2) (I c 4) own = mixF ((I c 1 + 1) % 10) (I c 2) own := by unfold bearF; rw [hk]; rfl
    rw [← hbv]
    generalize hv : bearF (kd c) (I c 1) (I c 2) (I c 4) own = bv at hbv hQ ⊢
    show Ev d 8 9 [some (vr c), some (vi own), some (vi will), none] [vi bv] (SX I ch kd) Q
    refine ev_s1 (L' := [some (vr c), some (vi own), some (vi will), some (vi bv)]) (S' := []) k8_9 rfl rfl ?_
    refine ev_s1 (L' := [some (vr c), some (vi own), some (vi will), some (vi bv)]) (S' := [vr c]) k8_10 rfl rfl ?_
    refine ev_s1 (L' := [some (vr c), some (vi own), some (vi will), some (vi bv)]) (S' := [vr c, vr c]) k8_11 rfl rfl ?_
    refine ev_getI k8_12 (by omega) ((shp_c hc).2) ?_
    show Ev d 8 15 [some (vr c), some (vi own), some (vi will), some (vi bv)] [vi (I c 4), vr c] (SX I ch kd) Q
    have rr1 := hI c 4
    refine ev_s1 (L' := [some (vr c), some (vi own), some (vi will), some (vi bv)]) (S' := [vi 1, vi (I c 4), vr c]) k8_15 rfl rfl ?_
    refine ev_s1 (L' := [some (vr c), some (vi own), some (vi will), some (vi bv)]) (S' := [vi ((I c 4) + 1), vr c]) k8_16 rfl rfl ?_
    refine ev_s1 (L' := [some (vr c), some (vi own), some (vi will), some (vi bv)]) (S' := [vi 999, vi ((I c 4) + 1), vr c]) k8_17 rfl rfl ?_
    refine ev_min k8_20 (inB_iff.mpr (by omega)) (inB_iff.mpr (by omega)) (Nat.le_of_ble_eq_true rfl) ?_
    have rs : 0 ≤ (if ((I c 4) + 1) < 999 then (I c 4) + 1 else 999) ∧ (if ((I c 4) + 1) < 999 then (I c 4) + 1 else 999) ≤ 999 := by split <;> omega
    generalize hsat : (if ((I c 4) + 1) < 999 then (I c 4) + 1 else 999) = sv at rs ⊢
    show Ev d 8 23 [some (vr c), some (vi own), some (vi will), some (vi bv)] [vi sv, vr c] (SX I ch kd) Q
    refine ev_putI k8_23 (by omega) ((shp_c hc).2) ?_
    show Ev d 8 26 [some (vr c), some (vi own), some (vi will), some (vi bv)] [] (SX (up I c 4 sv) ch kd) Q
    have hI2 := rg_up hI (k := c) (j := 4) (z := sv) (by omega) (by omega)
    generalize hE2 : up I c 4 sv = I2 at hI2 ⊢
    have f2_0 : I2 c 1 = I c 1 := by rw [← hE2]; exact (upN (Or.inr (by decide))).trans f0_0
    have f2_1 : I2 c 2 = I c 2 := by rw [← hE2]; exact (upN (Or.inr (by decide))).trans f0_1
    have f2_2 : I2 c 4 = sv := by rw [← hE2]; exact upE rfl rfl
    have g2 : ∀ (a : Nat) (b : Int), (a ≠ c ∨ (b ≠ 1 ∧ b ≠ 2 ∧ b ≠ 4)) → I2 a b = I a b := fun a b hf => by rw [← hE2]; exact (upN (by omega)).trans ((fun a b _ => rfl : ∀ (a : Nat) (b : Int), (a ≠ c ∨ (b ≠ 1 ∧ b ≠ 2 ∧ b ≠ 4)) → I a b = I a b) a b hf)
    refine ev_s1 (L' := [some (vr c), some (vi own), some (vi will), some (vi bv)]) (S' := [vr c]) k8_26 rfl rfl ?_
    refine ev_getR k8_27 (by omega) ((shp_c hc).2) ((rX_c hc).trans (by rw [hk])) ?_
    refine ev_s1 (L' := [some (vr c), some (vi own), some (vi will), some (vi bv)]) (S' := [vr c, vr 10]) k8_30 rfl rfl ?_
    refine ev_virt (a := [vr c]) (S' := []) k8_31_0 rfl (Nat.le_of_ble_eq_true rfl) (by decide) (rfl) (by omega) ?_
    have hcr : CR I2 c := by refine ⟨?_, ?_, ?_, ?_, ?_, ?_⟩ <;> first | (rw [f2_0]; omega) | (rw [f2_1]; omega) | (rw [f2_2]; omega)
    refine c_wearB (c := c) (by omega) hc hcr hI2 (?_)
    have hI3 := rg_up hI2 (k := c) (j := 2) (z := I2 c 2 - (I2 c 2 + 3) / 4) (by rw [f2_1]; omega) (by rw [f2_1]; omega)
    generalize hE3 : up I2 c 2 (I2 c 2 - (I2 c 2 + 3) / 4) = I3 at hI3 ⊢
    have f3_0 : I3 c 1 = I c 1 := by rw [← hE3]; exact (upN (Or.inr (by decide))).trans f2_0
    have f3_1 : I3 c 2 = I2 c 2 - (I2 c 2 + 3) / 4 := by rw [← hE3]; exact upE rfl rfl
    have f3_2 : I3 c 4 = sv := by rw [← hE3]; exact (upN (Or.inr (by decide))).trans f2_2
    have g3 : ∀ (a : Nat) (b : Int), (a ≠ c ∨ (b ≠ 1 ∧ b ≠ 2 ∧ b ≠ 4)) → I3 a b = I a b := fun a b hf => by rw [← hE3]; exact (upN (by omega)).trans (g2 a b hf)
    have hI4 := rg_up hI3 (k := c) (j := 1) (z := (I2 c 1 + 1) % 10) (by omega) (by omega)
    generalize hE4 : up I3 c 1 ((I2 c 1 + 1) % 10) = I4 at hI4 ⊢
    have f4_0 : I4 c 1 = (I2 c 1 + 1) % 10 := by rw [← hE4]; exact upE rfl rfl
    have f4_1 : I4 c 2 = I2 c 2 - (I2 c 2 + 3) / 4 := by rw [← hE4]; exact (upN (Or.inr (by decide))).trans f3_1
    have f4_2 : I4 c 4 = sv := by rw [← hE4]; exact (upN (Or.inr (by decide))).trans f3_2
    have g4 : ∀ (a : Nat) (b : Int), (a ≠ c ∨ (b ≠ 1 ∧ b ≠ 2 ∧ b ≠ 4)) → I4 a b = I a b := fun a b hf => by rw [← hE4]; exact (upN (by omega)).trans (g3 a b hf)
    show Ev d 8 34 [some (vr c), some (vi own), some (vi will), some (vi bv)] [] (SX I4 ch kd) Q
    refine ev_s1 (L' := [some (vr c), some (vi own), some (vi will), some (vi bv)]) (S' := [vr c]) k8_34 rfl rfl ?_
    refine ev_getI k8_35 (by omega) ((shp_c hc).2) ?_
    show Ev d 8 38 [some (vr c), some (vi own), some (vi will), some (vi bv)] [vi (I4 c 2)] (SX I4 ch kd) Q
    have rr5 := hI4 c 2
    rw [f4_1]
    rw [f4_1] at rr5
    refine ev_s1 (L' := [some (vr c), some (vi own), some (vi will), some (vi bv)]) (S' := [vi will, vi (I2 c 2 - (I2 c 2 + 3) / 4)]) k8_38 rfl rfl ?_
    refine ev_c_ge (t := 53) k8_39 rfl (by omega) (by omega) (by omega) (by omega) (fun h6 => ?_) (fun h6 => ?_)
    · refine ev_s1 (L' := [some (vr c), some (vi own), some (vi will), some (vi bv)]) (S' := [vi bv]) k8_53 rfl rfl ?_
      refine ev_ireturn k8_54 ?_
      have hs : strW (kd c) (I c 2) = I c 2 - (I c 2 + 3) / 4 := by unfold strW; rw [hk]; rfl
      have hm : manW (kd c) (I c 1) = (I c 1 + 1) % 10 := by unfold manW; rw [hk]; rfl
      have e : I4 = sitC I c (kd c) own will := by
        refine sit_ext ?_ ?_ ?_ g4
        · unfold manA; rw [hs, hm, f4_0]; first | (rw [if_pos (by omega)]; done) | (rw [if_neg (by omega)]; done) | (rw [if_pos (by omega)]; omega) | (rw [if_neg (by omega)]; omega)
        · unfold strA; rw [hs, f4_1]; first | (rw [if_pos (by omega)]; done) | (rw [if_neg (by omega)]; done) | (rw [if_pos (by omega)]; omega) | (rw [if_neg (by omega)]; omega)
        · rw [f4_2]; exact hsat.symm
      rw [e]; exact hQ
    · refine ev_s1 (L' := [some (vr c), some (vi own), some (vi will), some (vi bv)]) (S' := [vr c]) k8_42 rfl rfl ?_
      refine ev_s1 (L' := [some (vr c), some (vi own), some (vi will), some (vi bv)]) (S' := [vi own, vr c]) k8_43 rfl rfl ?_
      refine ev_putI k8_44 (by omega) ((shp_c hc).2) ?_
      show Ev d 8 47 [some (vr c), some (vi own), some (vi will), some (vi bv)] [] (SX (up I4 c 1 own) ch kd) Q
      have hI7 := rg_up hI4 (k := c) (j := 1) (z := own) (by omega) (by omega)
      generalize hE7 : up I4 c 1 own = I7 at hI7 ⊢
      have f7_0 : I7 c 1 = own := by rw [← hE7]; exact upE rfl rfl
      have f7_1 : I7 c 2 = I2 c 2 - (I2 c 2 + 3) / 4 := by rw [← hE7]; exact (upN (Or.inr (by decide))).trans f4_1
      have f7_2 : I7 c 4 = sv := by rw [← hE7]; exact (upN (Or.inr (by decide))).trans f4_2
      have g7 : ∀ (a : Nat) (b : Int), (a ≠ c ∨ (b ≠ 1 ∧ b ≠ 2 ∧ b ≠ 4)) → I7 a b = I a b := fun a b hf => by rw [← hE7]; exact (upN (by omega)).trans (g4 a b hf)
      refine ev_s1 (L' := [some (vr c), some (vi own), some (vi will), some (vi bv)]) (S' := [vr c]) k8_47 rfl rfl ?_
      refine ev_s1 (L' := [some (vr c), some (vi own), some (vi will), some (vi bv)]) (S' := [vi 16, vr c]) k8_48 rfl rfl ?_
      refine ev_putI k8_50 (by omega) ((shp_c hc).2) ?_
      show Ev d 8 53 [some (vr c), some (vi own), some (vi will), some (vi bv)] [] (SX (up I7 c 2 16) ch kd) Q
      have hI8 := rg_up hI7 (k := c) (j := 2) (z := 16) (by omega) (by omega)
      generalize hE8 : up I7 c 2 16 = I8 at hI8 ⊢
      have f8_0 : I8 c 1 = own := by rw [← hE8]; exact (upN (Or.inr (by decide))).trans f7_0
      have f8_1 : I8 c 2 = 16 := by rw [← hE8]; exact upE rfl rfl
      have f8_2 : I8 c 4 = sv := by rw [← hE8]; exact (upN (Or.inr (by decide))).trans f7_2
      have g8 : ∀ (a : Nat) (b : Int), (a ≠ c ∨ (b ≠ 1 ∧ b ≠ 2 ∧ b ≠ 4)) → I8 a b = I a b := fun a b hf => by rw [← hE8]; exact (upN (by omega)).trans (g7 a b hf)
      refine ev_s1 (L' := [some (vr c), some (vi own), some (vi will), some (vi bv)]) (S' := [vi bv]) k8_53 rfl rfl ?_
      refine ev_ireturn k8_54 ?_
      have hs : strW (kd c) (I c 2) = I c 2 - (I c 2 + 3) / 4 := by unfold strW; rw [hk]; rfl
      have hm : manW (kd c) (I c 1) = (I c 1 + 1) % 10 := by unfold manW; rw [hk]; rfl
      have e : I8 = sitC I c (kd c) own will := by
        refine sit_ext ?_ ?_ ?_ g8
        · unfold manA; rw [hs, hm, f8_0]; first | (rw [if_pos (by omega)]; done) | (rw [if_neg (by omega)]; done) | (rw [if_pos (by omega)]; omega) | (rw [if_neg (by omega)]; omega)
        · unfold strA; rw [hs, f8_1]; first | (rw [if_pos (by omega)]; done) | (rw [if_neg (by omega)]; done) | (rw [if_pos (by omega)]; omega) | (rw [if_neg (by omega)]; omega)
        · rw [f8_2]; exact hsat.symm
      rw [e]; exact hQ
  · have f0_0 : I c 1 = I c 1 := rfl
    have f0_1 : I c 2 = I c 2 := rfl
    have f0_2 : I c 4 = I c 4 := rfl
    refine ⟨by rw [l8]; exact Nat.le_of_ble_eq_true rfl, ?_⟩
    rw [l8]
    show Ev d 8 0 [some (vr c), some (vi own), some (vi will), none] [] (SX I ch kd) Q
    refine ev_s1 (L' := [some (vr c), some (vi own), some (vi will), none]) (S' := [vr c]) k8_0 rfl rfl ?_
    refine ev_getR k8_1 (by omega) ((shp_c hc).2) ((rX_c hc).trans (by rw [hk])) ?_
    refine ev_s1 (L' := [some (vr c), some (vi own), some (vi will), none]) (S' := [vr c, vr 11]) k8_4 rfl rfl ?_
    refine ev_s1 (L' := [some (vr c), some (vi own), some (vi will), none]) (S' := [vi own, vr c, vr 11]) k8_5 rfl rfl ?_
    refine ev_virt (a := [vr c, vi own]) (S' := []) k8_6_9 rfl (Nat.le_of_ble_eq_true rfl) (by decide) (rfl) (by omega) ?_
    refine c_boT (c := c) (t := 11) (own := own) (by omega) hc ⟨r1, r2, r3, r4, r5, r6⟩ o1 o2 hI (?_)
    have hbv : bearF (kd c) (I c 1) (I c 2) (I c 4) own = if I c 2 = 0 then own else I c 1 := by unfold bearF; rw [hk]; rfl
    rw [← hbv]
    generalize hv : bearF (kd c) (I c 1) (I c 2) (I c 4) own = bv at hbv hQ ⊢
    show Ev d 8 9 [some (vr c), some (vi own), some (vi will), none] [vi bv] (SX I ch kd) Q
    refine ev_s1 (L' := [some (vr c), some (vi own), some (vi will), some (vi bv)]) (S' := []) k8_9 rfl rfl ?_
    refine ev_s1 (L' := [some (vr c), some (vi own), some (vi will), some (vi bv)]) (S' := [vr c]) k8_10 rfl rfl ?_
    refine ev_s1 (L' := [some (vr c), some (vi own), some (vi will), some (vi bv)]) (S' := [vr c, vr c]) k8_11 rfl rfl ?_
    refine ev_getI k8_12 (by omega) ((shp_c hc).2) ?_
    show Ev d 8 15 [some (vr c), some (vi own), some (vi will), some (vi bv)] [vi (I c 4), vr c] (SX I ch kd) Q
    have rr1 := hI c 4
    refine ev_s1 (L' := [some (vr c), some (vi own), some (vi will), some (vi bv)]) (S' := [vi 1, vi (I c 4), vr c]) k8_15 rfl rfl ?_
    refine ev_s1 (L' := [some (vr c), some (vi own), some (vi will), some (vi bv)]) (S' := [vi ((I c 4) + 1), vr c]) k8_16 rfl rfl ?_
    refine ev_s1 (L' := [some (vr c), some (vi own), some (vi will), some (vi bv)]) (S' := [vi 999, vi ((I c 4) + 1), vr c]) k8_17 rfl rfl ?_
    refine ev_min k8_20 (inB_iff.mpr (by omega)) (inB_iff.mpr (by omega)) (Nat.le_of_ble_eq_true rfl) ?_
    have rs : 0 ≤ (if ((I c 4) + 1) < 999 then (I c 4) + 1 else 999) ∧ (if ((I c 4) + 1) < 999 then (I c 4) + 1 else 999) ≤ 999 := by split <;> omega
    generalize hsat : (if ((I c 4) + 1) < 999 then (I c 4) + 1 else 999) = sv at rs ⊢
    show Ev d 8 23 [some (vr c), some (vi own), some (vi will), some (vi bv)] [vi sv, vr c] (SX I ch kd) Q
    refine ev_putI k8_23 (by omega) ((shp_c hc).2) ?_
    show Ev d 8 26 [some (vr c), some (vi own), some (vi will), some (vi bv)] [] (SX (up I c 4 sv) ch kd) Q
    have hI2 := rg_up hI (k := c) (j := 4) (z := sv) (by omega) (by omega)
    generalize hE2 : up I c 4 sv = I2 at hI2 ⊢
    have f2_0 : I2 c 1 = I c 1 := by rw [← hE2]; exact (upN (Or.inr (by decide))).trans f0_0
    have f2_1 : I2 c 2 = I c 2 := by rw [← hE2]; exact (upN (Or.inr (by decide))).trans f0_1
    have f2_2 : I2 c 4 = sv := by rw [← hE2]; exact upE rfl rfl
    have g2 : ∀ (a : Nat) (b : Int), (a ≠ c ∨ (b ≠ 1 ∧ b ≠ 2 ∧ b ≠ 4)) → I2 a b = I a b := fun a b hf => by rw [← hE2]; exact (upN (by omega)).trans ((fun a b _ => rfl : ∀ (a : Nat) (b : Int), (a ≠ c ∨ (b ≠ 1 ∧ b ≠ 2 ∧ b ≠ 4)) → I a b = I a b) a b hf)
    refine ev_s1 (L' := [some (vr c), some (vi own), some (vi will), some (vi bv)]) (S' := [vr c]) k8_26 rfl rfl ?_
    refine ev_getR k8_27 (by omega) ((shp_c hc).2) ((rX_c hc).trans (by rw [hk])) ?_
    refine ev_s1 (L' := [some (vr c), some (vi own), some (vi will), some (vi bv)]) (S' := [vr c, vr 11]) k8_30 rfl rfl ?_
    refine ev_virt (a := [vr c]) (S' := []) k8_31_9 rfl (Nat.le_of_ble_eq_true rfl) (by decide) (rfl) (by omega) ?_
    have hcr : CR I2 c := by refine ⟨?_, ?_, ?_, ?_, ?_, ?_⟩ <;> first | (rw [f2_0]; omega) | (rw [f2_1]; omega) | (rw [f2_2]; omega)
    refine c_wearT (c := c) (t := 11) (?_)
    show Ev d 8 34 [some (vr c), some (vi own), some (vi will), some (vi bv)] [] (SX I2 ch kd) Q
    refine ev_s1 (L' := [some (vr c), some (vi own), some (vi will), some (vi bv)]) (S' := [vr c]) k8_34 rfl rfl ?_
    refine ev_getI k8_35 (by omega) ((shp_c hc).2) ?_
    show Ev d 8 38 [some (vr c), some (vi own), some (vi will), some (vi bv)] [vi (I2 c 2)] (SX I2 ch kd) Q
    have rr3 := hI2 c 2
    rw [f2_1]
    rw [f2_1] at rr3
    refine ev_s1 (L' := [some (vr c), some (vi own), some (vi will), some (vi bv)]) (S' := [vi will, vi (I c 2)]) k8_38 rfl rfl ?_
    refine ev_c_ge (t := 53) k8_39 rfl (by omega) (by omega) (by omega) (by omega) (fun h4 => ?_) (fun h4 => ?_)
    · refine ev_s1 (L' := [some (vr c), some (vi own), some (vi will), some (vi bv)]) (S' := [vi bv]) k8_53 rfl rfl ?_
      refine ev_ireturn k8_54 ?_
      have hs : strW (kd c) (I c 2) = I c 2 := by unfold strW; rw [hk]; rfl
      have hm : manW (kd c) (I c 1) = I c 1 := by unfold manW; rw [hk]; rfl
      have e : I2 = sitC I c (kd c) own will := by
        refine sit_ext ?_ ?_ ?_ g2
        · unfold manA; rw [hs, hm, f2_0]; first | (rw [if_pos (by omega)]; done) | (rw [if_neg (by omega)]; done) | (rw [if_pos (by omega)]; omega) | (rw [if_neg (by omega)]; omega)
        · unfold strA; rw [hs, f2_1]; first | (rw [if_pos (by omega)]; done) | (rw [if_neg (by omega)]; done) | (rw [if_pos (by omega)]; omega) | (rw [if_neg (by omega)]; omega)
        · rw [f2_2]; exact hsat.symm
      rw [e]; exact hQ
    · refine ev_s1 (L' := [some (vr c), some (vi own), some (vi will), some (vi bv)]) (S' := [vr c]) k8_42 rfl rfl ?_
      refine ev_s1 (L' := [some (vr c), some (vi own), some (vi will), some (vi bv)]) (S' := [vi own, vr c]) k8_43 rfl rfl ?_
      refine ev_putI k8_44 (by omega) ((shp_c hc).2) ?_
      show Ev d 8 47 [some (vr c), some (vi own), some (vi will), some (vi bv)] [] (SX (up I2 c 1 own) ch kd) Q
      have hI5 := rg_up hI2 (k := c) (j := 1) (z := own) (by omega) (by omega)
      generalize hE5 : up I2 c 1 own = I5 at hI5 ⊢
      have f5_0 : I5 c 1 = own := by rw [← hE5]; exact upE rfl rfl
      have f5_1 : I5 c 2 = I c 2 := by rw [← hE5]; exact (upN (Or.inr (by decide))).trans f2_1
      have f5_2 : I5 c 4 = sv := by rw [← hE5]; exact (upN (Or.inr (by decide))).trans f2_2
      have g5 : ∀ (a : Nat) (b : Int), (a ≠ c ∨ (b ≠ 1 ∧ b ≠ 2 ∧ b ≠ 4)) → I5 a b = I a b := fun a b hf => by rw [← hE5]; exact (upN (by omega)).trans (g2 a b hf)
      refine ev_s1 (L' := [some (vr c), some (vi own), some (vi will), some (vi bv)]) (S' := [vr c]) k8_47 rfl rfl ?_
      refine ev_s1 (L' := [some (vr c), some (vi own), some (vi will), some (vi bv)]) (S' := [vi 16, vr c]) k8_48 rfl rfl ?_
      refine ev_putI k8_50 (by omega) ((shp_c hc).2) ?_
      show Ev d 8 53 [some (vr c), some (vi own), some (vi will), some (vi bv)] [] (SX (up I5 c 2 16) ch kd) Q
      have hI6 := rg_up hI5 (k := c) (j := 2) (z := 16) (by omega) (by omega)
      generalize hE6 : up I5 c 2 16 = I6 at hI6 ⊢
      have f6_0 : I6 c 1 = own := by rw [← hE6]; exact (upN (Or.inr (by decide))).trans f5_0
      have f6_1 : I6 c 2 = 16 := by rw [← hE6]; exact upE rfl rfl
      have f6_2 : I6 c 4 = sv := by rw [← hE6]; exact (upN (Or.inr (by decide))).trans f5_2
      have g6 : ∀ (a : Nat) (b : Int), (a ≠ c ∨ (b ≠ 1 ∧ b ≠ 2 ∧ b ≠ 4)) → I6 a b = I a b := fun a b hf => by rw [← hE6]; exact (upN (by omega)).trans (g5 a b hf)
      refine ev_s1 (L' := [some (vr c), some (vi own), some (vi will), some (vi bv)]) (S' := [vi bv]) k8_53 rfl rfl ?_
      refine ev_ireturn k8_54 ?_
      have hs : strW (kd c) (I c 2) = I c 2 := by unfold strW; rw [hk]; rfl
      have hm : manW (kd c) (I c 1) = I c 1 := by unfold manW; rw [hk]; rfl
      have e : I6 = sitC I c (kd c) own will := by
        refine sit_ext ?_ ?_ ?_ g6
        · unfold manA; rw [hs, hm, f6_0]; first | (rw [if_pos (by omega)]; done) | (rw [if_neg (by omega)]; done) | (rw [if_pos (by omega)]; omega) | (rw [if_neg (by omega)]; omega)
        · unfold strA; rw [hs, f6_1]; first | (rw [if_pos (by omega)]; done) | (rw [if_neg (by omega)]; done) | (rw [if_pos (by omega)]; omega) | (rw [if_neg (by omega)]; omega)
        · rw [f6_2]; exact hsat.symm
      rw [e]; exact hQ
  · have f0_0 : I c 1 = I c 1 := rfl
    have f0_1 : I c 2 = I c 2 := rfl
    have f0_2 : I c 4 = I c 4 := rfl
    refine ⟨by rw [l8]; exact Nat.le_of_ble_eq_true rfl, ?_⟩
    rw [l8]
    show Ev d 8 0 [some (vr c), some (vi own), some (vi will), none] [] (SX I ch kd) Q
    refine ev_s1 (L' := [some (vr c), some (vi own), some (vi will), none]) (S' := [vr c]) k8_0 rfl rfl ?_
    refine ev_getR k8_1 (by omega) ((shp_c hc).2) ((rX_c hc).trans (by rw [hk])) ?_
    refine ev_s1 (L' := [some (vr c), some (vi own), some (vi will), none]) (S' := [vr c, vr 12]) k8_4 rfl rfl ?_
    refine ev_s1 (L' := [some (vr c), some (vi own), some (vi will), none]) (S' := [vi own, vr c, vr 12]) k8_5 rfl rfl ?_
    refine ev_virt (a := [vr c, vi own]) (S' := []) k8_6_2 rfl (Nat.le_of_ble_eq_true rfl) (by decide) (rfl) (by omega) ?_
    refine c_boD (c := c) (own := own) (by omega) hc ⟨r1, r2, r3, r4, r5, r6⟩ o1 o2 hI (?_)
    have hbv : bearF (kd c) (I c 1) (I c 2) (I c 4) own = if (if I c 2 = 0 then own else I c 1) < 5 then 5 else (if I c 2 = 0 then own else I c 1) := by unfold bearF; rw [hk]; rfl
    rw [← hbv]
    generalize hv : bearF (kd c) (I c 1) (I c 2) (I c 4) own = bv at hbv hQ ⊢
    show Ev d 8 9 [some (vr c), some (vi own), some (vi will), none] [vi bv] (SX I ch kd) Q
    refine ev_s1 (L' := [some (vr c), some (vi own), some (vi will), some (vi bv)]) (S' := []) k8_9 rfl rfl ?_
    refine ev_s1 (L' := [some (vr c), some (vi own), some (vi will), some (vi bv)]) (S' := [vr c]) k8_10 rfl rfl ?_
    refine ev_s1 (L' := [some (vr c), some (vi own), some (vi will), some (vi bv)]) (S' := [vr c, vr c]) k8_11 rfl rfl ?_
    refine ev_getI k8_12 (by omega) ((shp_c hc).2) ?_
    show Ev d 8 15 [some (vr c), some (vi own), some (vi will), some (vi bv)] [vi (I c 4), vr c] (SX I ch kd) Q
    have rr1 := hI c 4
    refine ev_s1 (L' := [some (vr c), some (vi own), some (vi will), some (vi bv)]) (S' := [vi 1, vi (I c 4), vr c]) k8_15 rfl rfl ?_
    refine ev_s1 (L' := [some (vr c), some (vi own), some (vi will), some (vi bv)]) (S' := [vi ((I c 4) + 1), vr c]) k8_16 rfl rfl ?_
    refine ev_s1 (L' := [some (vr c), some (vi own), some (vi will), some (vi bv)]) (S' := [vi 999, vi ((I c 4) + 1), vr c]) k8_17 rfl rfl ?_
    refine ev_min k8_20 (inB_iff.mpr (by omega)) (inB_iff.mpr (by omega)) (Nat.le_of_ble_eq_true rfl) ?_
    have rs : 0 ≤ (if ((I c 4) + 1) < 999 then (I c 4) + 1 else 999) ∧ (if ((I c 4) + 1) < 999 then (I c 4) + 1 else 999) ≤ 999 := by split <;> omega
    generalize hsat : (if ((I c 4) + 1) < 999 then (I c 4) + 1 else 999) = sv at rs ⊢
    show Ev d 8 23 [some (vr c), some (vi own), some (vi will), some (vi bv)] [vi sv, vr c] (SX I ch kd) Q
    refine ev_putI k8_23 (by omega) ((shp_c hc).2) ?_
    show Ev d 8 26 [some (vr c), some (vi own), some (vi will), some (vi bv)] [] (SX (up I c 4 sv) ch kd) Q
    have hI2 := rg_up hI (k := c) (j := 4) (z := sv) (by omega) (by omega)
    generalize hE2 : up I c 4 sv = I2 at hI2 ⊢
    have f2_0 : I2 c 1 = I c 1 := by rw [← hE2]; exact (upN (Or.inr (by decide))).trans f0_0
    have f2_1 : I2 c 2 = I c 2 := by rw [← hE2]; exact (upN (Or.inr (by decide))).trans f0_1
    have f2_2 : I2 c 4 = sv := by rw [← hE2]; exact upE rfl rfl
    have g2 : ∀ (a : Nat) (b : Int), (a ≠ c ∨ (b ≠ 1 ∧ b ≠ 2 ∧ b ≠ 4)) → I2 a b = I a b := fun a b hf => by rw [← hE2]; exact (upN (by omega)).trans ((fun a b _ => rfl : ∀ (a : Nat) (b : Int), (a ≠ c ∨ (b ≠ 1 ∧ b ≠ 2 ∧ b ≠ 4)) → I a b = I a b) a b hf)
    refine ev_s1 (L' := [some (vr c), some (vi own), some (vi will), some (vi bv)]) (S' := [vr c]) k8_26 rfl rfl ?_
    refine ev_getR k8_27 (by omega) ((shp_c hc).2) ((rX_c hc).trans (by rw [hk])) ?_
    refine ev_s1 (L' := [some (vr c), some (vi own), some (vi will), some (vi bv)]) (S' := [vr c, vr 12]) k8_30 rfl rfl ?_
    refine ev_virt (a := [vr c]) (S' := []) k8_31_2 rfl (Nat.le_of_ble_eq_true rfl) (by decide) (rfl) (by omega) ?_
    have hcr : CR I2 c := by refine ⟨?_, ?_, ?_, ?_, ?_, ?_⟩ <;> first | (rw [f2_0]; omega) | (rw [f2_1]; omega) | (rw [f2_2]; omega)
    refine c_wearT (c := c) (t := 12) (?_)
    show Ev d 8 34 [some (vr c), some (vi own), some (vi will), some (vi bv)] [] (SX I2 ch kd) Q
    refine ev_s1 (L' := [some (vr c), some (vi own), some (vi will), some (vi bv)]) (S' := [vr c]) k8_34 rfl rfl ?_
    refine ev_getI k8_35 (by omega) ((shp_c hc).2) ?_
    show Ev d 8 38 [some (vr c), some (vi own), some (vi will), some (vi bv)] [vi (I2 c 2)] (SX I2 ch kd) Q
    have rr3 := hI2 c 2
    rw [f2_1]
    rw [f2_1] at rr3
    refine ev_s1 (L' := [some (vr c), some (vi own), some (vi will), some (vi bv)]) (S' := [vi will, vi (I c 2)]) k8_38 rfl rfl ?_
    refine ev_c_ge (t := 53) k8_39 rfl (by omega) (by omega) (by omega) (by omega) (fun h4 => ?_) (fun h4 => ?_)
    · refine ev_s1 (L' := [some (vr c), some (vi own), some (vi will), some (vi bv)]) (S' := [vi bv]) k8_53 rfl rfl ?_
      refine ev_ireturn k8_54 ?_
      have hs : strW (kd c) (I c 2) = I c 2 := by unfold strW; rw [hk]; rfl
      have hm : manW (kd c) (I c 1) = I c 1 := by unfold manW; rw [hk]; rfl
      have e : I2 = sitC I c (kd c) own will := by
        refine sit_ext ?_ ?_ ?_ g2
        · unfold manA; rw [hs, hm, f2_0]; first | (rw [if_pos (by omega)]; done) | (rw [if_neg (by omega)]; done) | (rw [if_pos (by omega)]; omega) | (rw [if_neg (by omega)]; omega)
        · unfold strA; rw [hs, f2_1]; first | (rw [if_pos (by omega)]; done) | (rw [if_neg (by omega)]; done) | (rw [if_pos (by omega)]; omega) | (rw [if_neg (by omega)]; omega)
        · rw [f2_2]; exact hsat.symm
      rw [e]; exact hQ
    · refine ev_s1 (L' := [some (vr c), some (vi own), some (vi will), some (vi bv)]) (S' := [vr c]) k8_42 rfl rfl ?_
      refine ev_s1 (L' := [some (vr c), some (vi own), some (vi will), some (vi bv)]) (S' := [vi own, vr c]) k8_43 rfl rfl ?_
      refine ev_putI k8_44 (by omega) ((shp_c hc).2) ?_
      show Ev d 8 47 [some (vr c), some (vi own), some (vi will), some (vi bv)] [] (SX (up I2 c 1 own) ch kd) Q
      have hI5 := rg_up hI2 (k := c) (j := 1) (z := own) (by omega) (by omega)
      generalize hE5 : up I2 c 1 own = I5 at hI5 ⊢
      have f5_0 : I5 c 1 = own := by rw [← hE5]; exact upE rfl rfl
      have f5_1 : I5 c 2 = I c 2 := by rw [← hE5]; exact (upN (Or.inr (by decide))).trans f2_1
      have f5_2 : I5 c 4 = sv := by rw [← hE5]; exact (upN (Or.inr (by decide))).trans f2_2
      have g5 : ∀ (a : Nat) (b : Int), (a ≠ c ∨ (b ≠ 1 ∧ b ≠ 2 ∧ b ≠ 4)) → I5 a b = I a b := fun a b hf => by rw [← hE5]; exact (upN (by omega)).trans (g2 a b hf)
      refine ev_s1 (L' := [some (vr c), some (vi own), some (vi will), some (vi bv)]) (S' := [vr c]) k8_47 rfl rfl ?_
      refine ev_s1 (L' := [some (vr c), some (vi own), some (vi will), some (vi bv)]) (S' := [vi 16, vr c]) k8_48 rfl rfl ?_
      refine ev_putI k8_50 (by omega) ((shp_c hc).2) ?_
      show Ev d 8 53 [some (vr c), some (vi own), some (vi will), some (vi bv)] [] (SX (up I5 c 2 16) ch kd) Q
      have hI6 := rg_up hI5 (k := c) (j := 2) (z := 16) (by omega) (by omega)
      generalize hE6 : up I5 c 2 16 = I6 at hI6 ⊢
      have f6_0 : I6 c 1 = own := by rw [← hE6]; exact (upN (Or.inr (by decide))).trans f5_0
      have f6_1 : I6 c 2 = 16 := by rw [← hE6]; exact upE rfl rfl
      have f6_2 : I6 c 4 = sv := by rw [← hE6]; exact (upN (Or.inr (by decide))).trans f5_2
      have g6 : ∀ (a : Nat) (b : Int), (a ≠ c ∨ (b ≠ 1 ∧ b ≠ 2 ∧ b ≠ 4)) → I6 a b = I a b := fun a b hf => by rw [← hE6]; exact (upN (by omega)).trans (g5 a b hf)
      refine ev_s1 (L' := [some (vr c), some (vi own), some (vi will), some (vi bv)]) (S' := [vi bv]) k8_53 rfl rfl ?_
      refine ev_ireturn k8_54 ?_
      have hs : strW (kd c) (I c 2) = I c 2 := by unfold strW; rw [hk]; rfl
      have hm : manW (kd c) (I c 1) = I c 1 := by unfold manW; rw [hk]; rfl
      have e : I6 = sitC I c (kd c) own will := by
        refine sit_ext ?_ ?_ ?_ g6
        · unfold manA; rw [hs, hm, f6_0]; first | (rw [if_pos (by omega)]; done) | (rw [if_neg (by omega)]; done) | (rw [if_pos (by omega)]; omega) | (rw [if_neg (by omega)]; omega)
        · unfold strA; rw [hs, f6_1]; first | (rw [if_pos (by omega)]; done) | (rw [if_neg (by omega)]; done) | (rw [if_pos (by omega)]; omega) | (rw [if_neg (by omega)]; omega)
        · rw [f6_2]; exact hsat.symm
      rw [e]; exact hQ
