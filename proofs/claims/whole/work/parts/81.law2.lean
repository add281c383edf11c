/-! THE TWO OBJECTS MADE, AND THE LAW'S CASES -/
theorem chkp_at {lo n : Nat} {sh : Nat → Nat × Nat} {I : Nat → Int → Int} {R : Nat → Int → Option Nat} {σ : jS} (h : chkp lo n sh I R (some (none, σ)) = true) (k : Nat) (h1 : lo ≤ k) (h2 : k < lo + n) : σ.2.2.2.1 k = sh k ∧ ∀ j : Nat, j < plc (sh k) → σ.2.2.2.2.1 k j = I k j ∧ σ.2.2.2.2.2 k j = R k j := by
  have h3 := List.all_eq_true.mp h (k - lo) (List.mem_range.mpr (by omega))
  rw [show lo + (k - lo) = k from by omega] at h3
  obtain ⟨h4, h5⟩ := (Bool.and_eq_true_iff).mp h3
  refine ⟨of_decide_eq_true h4, fun j hj => ?_⟩
  obtain ⟨h6, h7⟩ := (Bool.and_eq_true_iff).mp (List.all_eq_true.mp h5 j (List.mem_range.mpr hj))
  exact ⟨of_decide_eq_true h6, of_decide_eq_true h7⟩
def ch0 : Int → Nat := fun i => 19 + i.toNat
def kd0 : Nat → Nat := fun _ => 8
def mdX (σ : jS) : Prop := σ.1 = true ∧ σ.2.1 = 125 ∧ σ.2.2.1 = 2312 ∧ ∀ k, k < 125 → σ.2.2.2.1 k = shX k ∧ ∀ j : Nat, j < plc (shX k) → σ.2.2.2.2.1 k j = iX k j ∧ σ.2.2.2.2.2 k j = rX ch0 kd0 k j
def mdM (σ : jS) : Prop := σ.1 = true ∧ σ.2.1 = 15 ∧ σ.2.2.1 = 1920 ∧ ∀ k, k < 15 → σ.2.2.2.1 k = shM k ∧ ∀ j : Nat, j < plc (shM k) → σ.2.2.2.2.1 k j = iM k j ∧ σ.2.2.2.2.2 k j = rM k j
theorem chkn_ex {o : Option (Option jV × jS)} (h : chkn o = true) : ∃ σ, o = some (none, σ) ∧ σ.1 = true ∧ σ.2.1 = 125 ∧ σ.2.2.1 = 2312 := by
  match o, h with
  | some (none, σ), h =>
    obtain ⟨h1, h3⟩ := (Bool.and_eq_true_iff).mp (show (σ.1 && (σ.2.1 == 125) && (σ.2.2.1 == 2312)) = true from h)
    obtain ⟨h1, h2⟩ := (Bool.and_eq_true_iff).mp h1
    exact ⟨σ, rfl, h1, by simpa using h2, by simpa using h3⟩
theorem mdX_of {o : Option (Option jV × jS)} (h0 : chkn o = true)
    (s1 : chkp 0 27 shX iX (rX (fun i => 19 + i.toNat) (fun _ => 8)) o = true) (s2 : chkp 27 25 shX iX (rX (fun i => 19 + i.toNat) (fun _ => 8)) o = true) (s3 : chkp 52 15 shX iX (rX (fun i => 19 + i.toNat) (fun _ => 8)) o = true) (s4 : chkp 67 10 shX iX (rX (fun i => 19 + i.toNat) (fun _ => 8)) o = true) (s5 : chkp 77 10 shX iX (rX (fun i => 19 + i.toNat) (fun _ => 8)) o = true) (s6 : chkp 87 10 shX iX (rX (fun i => 19 + i.toNat) (fun _ => 8)) o = true) (s7 : chkp 97 10 shX iX (rX (fun i => 19 + i.toNat) (fun _ => 8)) o = true) (s8 : chkp 107 10 shX iX (rX (fun i => 19 + i.toNat) (fun _ => 8)) o = true) (s9 : chkp 117 8 shX iX (rX (fun i => 19 + i.toNat) (fun _ => 8)) o = true) : ∃ σ, o = some (none, σ) ∧ mdX σ := by
  obtain ⟨σ, rfl, h1, h2, h3⟩ := chkn_ex h0
  refine ⟨σ, rfl, h1, h2, h3, fun k hk => ?_⟩
  by_cases c1 : k < 27
  · exact chkp_at s1 k (by omega) (by omega)
  by_cases c2 : k < 52
  · exact chkp_at s2 k (by omega) (by omega)
  by_cases c3 : k < 67
  · exact chkp_at s3 k (by omega) (by omega)
  by_cases c4 : k < 77
  · exact chkp_at s4 k (by omega) (by omega)
  by_cases c5 : k < 87
  · exact chkp_at s5 k (by omega) (by omega)
  by_cases c6 : k < 97
  · exact chkp_at s6 k (by omega) (by omega)
  by_cases c7 : k < 107
  · exact chkp_at s7 k (by omega) (by omega)
  by_cases c8 : k < 117
  · exact chkp_at s8 k (by omega) (by omega)
  exact chkp_at s9 k (by omega) (by omega)
theorem mkX : ∃ σ, run 3000 10 109 0 (iniL (mL 109) [vr 0]) [] sX0 = some (none, σ) ∧ mdX σ := mdX_of mk_X0 mk_X1 mk_X2 mk_X3 mk_X4 mk_X5 mk_X6 mk_X7 mk_X8 mk_X9
theorem mdM_of {o : Option (Option jV × jS)} (h : chk 15 1920 shM iM rM o = true) : ∃ σ, o = some (none, σ) ∧ mdM σ := by
  match o, h with
  | some (none, σ), h =>
    obtain ⟨h1, h4⟩ := (Bool.and_eq_true_iff).mp (show (σ.1 && (σ.2.1 == 15) && (σ.2.2.1 == 1920) && (List.range 15).all (fun k => decide (σ.2.2.2.1 k = shM k) && (List.range (plc (shM k))).all (fun j => decide (σ.2.2.2.2.1 k j = iM k j) && decide (σ.2.2.2.2.2 k j = rM k j)))) = true from h)
    obtain ⟨h1, h3⟩ := (Bool.and_eq_true_iff).mp h1
    obtain ⟨h1, h2⟩ := (Bool.and_eq_true_iff).mp h1
    refine ⟨σ, rfl, h1, by simpa using h2, by simpa using h3, fun k hk => ?_⟩
    obtain ⟨h4, h5⟩ := (Bool.and_eq_true_iff).mp (List.all_eq_true.mp h4 k (List.mem_range.mpr hk))
    refine ⟨of_decide_eq_true h4, fun j hj => ?_⟩
    obtain ⟨h6, h7⟩ := (Bool.and_eq_true_iff).mp (List.all_eq_true.mp h5 j (List.mem_range.mpr hj))
    exact ⟨of_decide_eq_true h6, of_decide_eq_true h7⟩
theorem mkM : ∃ σ, run 1000 10 154 0 (iniL (mL 154) [vr 0]) [] sM0 = some (none, σ) ∧ mdM σ := mdM_of mk_M
theorem mdX.jR {D : va_G} {b : Nat} {σ : jS} {s : State} {H : Heap} (hm : mdX σ) (h : jR D b σ s H) : jR D b (SX iX ch0 kd0) s H := by
  obtain ⟨o, n, sl, sh, I, Rf⟩ := σ
  obtain ⟨-, h2, -, h4⟩ := hm
  have h2 : n = 125 := h2
  subst h2
  exact jR.congr h (fun k hk => h4 k hk)
theorem mdM.jR {D : va_G} {b : Nat} {σ : jS} {s : State} {H : Heap} (hm : mdM σ) (h : jR D b σ s H) : jR D b (SM iM) s H := by
  obtain ⟨o, n, sl, sh, I, Rf⟩ := σ
  obtain ⟨-, h2, -, h4⟩ := hm
  have h2 : n = 15 := h2
  subst h2
  exact jR.congr h (fun k hk => h4 k hk)
theorem iX_0 {k : Nat} (h : (k == 2) = false) (h2 : isCh k = false) (j : Int) : iX k j = 0 := by
  unfold iX
  rw [h, h2]
  rfl
theorem iM_0 {k : Nat} (h : (k == 1) = false) (j : Int) : iM k j = 0 := by
  unfold iM
  rw [h]
  rfl
theorem ch0_is {i : Int} (h1 : 0 ≤ i) (h2 : i < 5) : isCh (ch0 i) = true ∧ 19 ≤ ch0 i ∧ ch0 i ≤ 23 := by
  have h3 : ch0 i = 19 ∨ ch0 i = 20 ∨ ch0 i = 21 ∨ ch0 i = 22 ∨ ch0 i = 23 := by unfold ch0; omega
  rcases h3 with h | h | h | h | h <;> rw [h] <;> decide
theorem XR0 : XR iX ch0 kd0 iM := by
  have rg : Rg iX := by
    intro k j
    unfold iX
    split
    · omega
    · split <;> omega
  have rm : Rg iM := by
    intro k j
    unfold iM
    split <;> omega
  refine ⟨rg, ⟨rm, fun k h1 h2 x _ => iM_0 (by rw [beq_eq_false_iff_ne]; omega) x⟩, ⟨⟨Or.inl rfl, fun i h1 h2 => ⟨?_, (ch0_is h1 h2).1⟩, fun i j h1 h2 h3 h4 h5 => by unfold ch0 at h5; omega, fun i h1 h2 => (ch0_is h1 h2).2⟩, ⟨rfl, rfl, rfl, fun c h1 h2 => ?_, fun g h1 h2 => ?_⟩, ⟨by decide, by decide, by decide, fun c h1 h2 => ?_, fun g h1 h2 => ?_, fun g h h1 h2 => ?_⟩, fun i _ _ => ⟨by unfold kd0; omega, by unfold kd0; omega⟩⟩, ⟨by decide, by decide, rfl, fun i h1 h2 => ?_⟩, fun r h1 h2 => Or.inl ⟨rfl, rfl⟩, ⟨rfl, rfl⟩, ⟨rfl, by decide, fun p _ => rfl, fun p h1 h2 => ?_⟩, fun k h1 h2 => Or.inl ⟨?_, rfl⟩, ⟨rfl, by decide, fun i h1 h2 => ?_⟩, fun a _ _ => ⟨by unfold kd0; omega, by unfold kd0; omega⟩⟩
  · show (if decide (0 ≤ i) && decide (i < 5) then some (ch0 i) else none) = _
    rw [if_pos (by simp [h1, h2])]
  · rw [iM_0 rfl] at h2; omega
  · rw [iM_0 rfl] at h2; omega
  · rw [iM_0 rfl] at h2; omega
  · rw [iM_0 rfl] at h2; omega
  · rw [iM_0 rfl] at h2; omega
  · rw [iX_0 rfl rfl] at h2; omega
  · rw [iM_0 rfl] at h2; omega
  · have h3 : 73 + 2 * k.toNat = 73 ∨ 73 + 2 * k.toNat = 75 := by omega
    rcases h3 with h | h <;> rw [h] <;> rfl
  · rw [iM_0 rfl] at h2; omega
/-- a case of the law: where it begins, how many arguments, the two calls -/
def lopL : List (Nat × Nat × Nat × Nat × Nat × Nat) := [(180, 3, 13, 110, 17, 163), (223, 3, 18, 111, 21, 164), (266, 5, 22, 112, 26, 166), (329, 1, 27, 113, 31, 167), (352, 1, 32, 114, 35, 168), (375, 0, 36, 115, 40, 179), (388, 0, 41, 116, 44, 180), (401, 2, 45, 117, 49, 192), (434, 1, 50, 118, 53, 193), (457, 1, 54, 119, 57, 194), (480, 1, 58, 120, 61, 195), (503, 0, 62, 121, 65, 196), (516, 2, 66, 122, 69, 197), (549, 2, 70, 123, 73, 198), (582, 0, 74, 124, 77, 199), (595, 3, 78, 125, 81, 200), (638, 1, 82, 126, 85, 203), (661, 4, 86, 127, 90, 204), (714, 2, 91, 128, 94, 205), (747, 4, 95, 129, 98, 207), (800, 1, 99, 130, 102, 208), (823, 3, 103, 131, 106, 209), (866, 4, 107, 132, 110, 210), (919, 3, 111, 133, 114, 212), (962, 3, 115, 134, 118, 213), (1005, 1, 119, 135, 122, 214), (1028, 1, 123, 136, 126, 215), (1051, 1, 127, 137, 130, 217), (1074, 2, 131, 138, 134, 218), (1107, 2, 135, 139, 138, 224), (1140, 1, 139, 140, 142, 225), (1163, 1, 143, 141, 146, 228), (1186, 0, 147, 142, 150, 229)]
def lop (t : Nat) : Nat × Nat × Nat × Nat × Nat × Nat := lopL.getD t (0, 0, 0, 0, 0, 0)
abbrev argD (q k : Nat) : Prop := decode code q = .ok (.aload_n 0, 1) ∧ decode code (q + 1) = .ok (.iload_n 3, 1) ∧ decode code (q + 1 + 1) = .ok (.iconst (k : Int), 1) ∧ decode code (q + 1 + 1 + 1) = .ok (.iadd, 1) ∧ decode code (q + 1 + 1 + 1 + 1) = .ok (.iaload, 1)
abbrev opD (pc na nX nM : Nat) : Prop := decode code pc = .ok (.aload_n 1, 1) ∧ (∀ j, j < na → argD (pc + 1 + 5 * j) (j + 1)) ∧ decode code (pc + 1 + 5 * na) = .ok (.invokevirtual nX, 3) ∧ decode code (pc + 1 + 5 * na + 3) = .ok (.aload_n 2, 1) ∧ (∀ j, j < na → argD (pc + 1 + 5 * na + 3 + 1 + 5 * j) (j + 1)) ∧ decode code (pc + 1 + 5 * na + 3 + 1 + 5 * na) = .ok (.invokevirtual nM, 3) ∧ decode code (pc + 1 + 5 * na + 3 + 1 + 5 * na + 3) = .ok (.if_icmp .eq (1199 - ((pc + 1 + 5 * na + 3 + 1 + 5 * na + 3 : Nat) : Int)), 3)
def dk (q : Nat) (i : Instr) (n : Nat) : Bool := decide (decode code q = .ok (i, n))
def argB (q k : Nat) : Bool := dk q (.aload_n 0) 1 && (dk (q + 1) (.iload_n 3) 1 && (dk (q + 1 + 1) (.iconst (k : Int)) 1 && (dk (q + 1 + 1 + 1) .iadd 1 && dk (q + 1 + 1 + 1 + 1) .iaload 1)))
def opB (pc na nX nM : Nat) : Bool := dk pc (.aload_n 1) 1 && ((List.range na).all (fun j => argB (pc + 1 + 5 * j) (j + 1)) && (dk (pc + 1 + 5 * na) (.invokevirtual nX) 3 && (dk (pc + 1 + 5 * na + 3) (.aload_n 2) 1 && ((List.range na).all (fun j => argB (pc + 1 + 5 * na + 3 + 1 + 5 * j) (j + 1)) && (dk (pc + 1 + 5 * na + 3 + 1 + 5 * na) (.invokevirtual nM) 3 && dk (pc + 1 + 5 * na + 3 + 1 + 5 * na + 3) (.if_icmp .eq (1199 - ((pc + 1 + 5 * na + 3 + 1 + 5 * na + 3 : Nat) : Int))) 3)))))
theorem and2 {a b : Bool} (h : (a && b) = true) : a = true ∧ b = true := (Bool.and_eq_true_iff).mp h
theorem argB_D {q k : Nat} (h : argB q k = true) : argD q k := by
  obtain ⟨h1, h⟩ := and2 h
  obtain ⟨h2, h⟩ := and2 h
  obtain ⟨h3, h⟩ := and2 h
  obtain ⟨h4, h⟩ := and2 h
  exact ⟨of_decide_eq_true h1, of_decide_eq_true h2, of_decide_eq_true h3, of_decide_eq_true h4, of_decide_eq_true h⟩
theorem opB_D {pc na nX nM : Nat} (h : opB pc na nX nM = true) : opD pc na nX nM := by
  obtain ⟨h1, h⟩ := and2 h
  obtain ⟨h2, h⟩ := and2 h
  obtain ⟨h3, h⟩ := and2 h
  obtain ⟨h4, h⟩ := and2 h
  obtain ⟨h5, h⟩ := and2 h
  obtain ⟨h6, h⟩ := and2 h
  exact ⟨of_decide_eq_true h1, fun j hj => argB_D (List.all_eq_true.mp h2 j (List.mem_range.mpr hj)), of_decide_eq_true h3, of_decide_eq_true h4, fun j hj => argB_D (List.all_eq_true.mp h5 j (List.mem_range.mpr hj)), of_decide_eq_true h6, of_decide_eq_true h⟩
abbrev lnk (n m' ci na : Nat) : Prop := (Cond.methodLink R_law n (mY m') ∈ lw_tbl) ∧ (Cond.instanceMethod (mY m') ∈ lw_tbl) ∧ (Cond.initialized (mY m').cls ∈ lw_tbl) ∧ (Cond.selects (cN ci) (mY m') (mY m') ∈ lw_tbl) ∧ mP m' = na ∧ m' < 230
def lnkB (n m' ci na w1 w2 w3 w4 : Nat) : Bool := decide (lw_tbl[w1]? = some (Cond.methodLink R_law n (mY m'))) && (decide (lw_tbl[w2]? = some (Cond.instanceMethod (mY m'))) && (decide (lw_tbl[w3]? = some (Cond.initialized (mY m').cls)) && (decide (lw_tbl[w4]? = some (Cond.selects (cN ci) (mY m') (mY m'))) && (decide (mP m' = na) && decide (m' < 230)))))
theorem lnkB_D {n m' ci na w1 w2 w3 w4 : Nat} (h : lnkB n m' ci na w1 w2 w3 w4 = true) : lnk n m' ci na := by
  obtain ⟨h1, h⟩ := and2 h
  obtain ⟨h2, h⟩ := and2 h
  obtain ⟨h3, h⟩ := and2 h
  obtain ⟨h4, h⟩ := and2 h
  obtain ⟨h5, h⟩ := and2 h
  exact ⟨List.mem_of_getElem? (of_decide_eq_true h1), List.mem_of_getElem? (of_decide_eq_true h2), List.mem_of_getElem? (of_decide_eq_true h3), List.mem_of_getElem? (of_decide_eq_true h4), of_decide_eq_true h5, of_decide_eq_true h⟩
/-- the places of the words of each case -/
def lwX (t : Nat) : Nat × Nat × Nat := [(356, 357, 358), (384, 385, 386), (395, 396, 397), (406, 407, 408), (410, 411, 412), (415, 416, 417), (543, 544, 545), (547, 548, 549), (633, 634, 635), (642, 643, 644), (646, 647, 648), (671, 672, 673), (675, 676, 677), (679, 680, 681), (683, 684, 685), (691, 692, 693), (708, 709, 710), (755, 756, 757), (777, 778, 779), (785, 786, 787), (801, 802, 803), (813, 814, 815), (829, 830, 831), (845, 846, 847), (869, 870, 871), (888, 889, 890), (892, 893, 894), (896, 897, 898), (901, 902, 903), (908, 909, 910), (960, 961, 962), (965, 966, 967), (975, 976, 977)].getD t (0, 0, 0)
def lwM (t : Nat) : Nat × Nat × Nat := [(1060, 1061, 1062), (1080, 1081, 1082), (1091, 1092, 1093), (1099, 1100, 1101), (1103, 1104, 1105), (1108, 1109, 1110), (1155, 1156, 1157), (1159, 1160, 1161), (1191, 1192, 1193), (1195, 1196, 1197), (1199, 1200, 1201), (1209, 1210, 1211), (1213, 1214, 1215), (1217, 1218, 1219), (1221, 1222, 1223), (1229, 1230, 1231), (1233, 1234, 1235), (1245, 1246, 1247), (1249, 1250, 1251), (1253, 1254, 1255), (1261, 1262, 1263), (1265, 1266, 1267), (1269, 1270, 1271), (1273, 1274, 1275), (1284, 1285, 1286), (1291, 1292, 1293), (1295, 1296, 1297), (1299, 1300, 1301), (1307, 1308, 1309), (1311, 1312, 1313), (1335, 1336, 1337), (1339, 1340, 1341), (1351, 1352, 1353)].getD t (0, 0, 0)
set_option maxRecDepth 100000 in
theorem lop_xB : (List.range 33).all (fun t => lnkB (lop t).2.2.1 (lop t).2.2.2.1 10 (lop t).2.1 (lwX t).1 (lwX t).2.1 61 (lwX t).2.2) = true := by decide +kernel
set_option maxRecDepth 100000 in
theorem lop_mB : (List.range 33).all (fun t => lnkB (lop t).2.2.2.2.1 (lop t).2.2.2.2.2 11 (lop t).2.1 (lwM t).1 (lwM t).2.1 74 (lwM t).2.2) = true := by decide +kernel
theorem lop_x {t : Nat} (h : t < 33) : lnk (lop t).2.2.1 (lop t).2.2.2.1 10 (lop t).2.1 := lnkB_D (List.all_eq_true.mp lop_xB t (List.mem_range.mpr h))
theorem lop_m {t : Nat} (h : t < 33) : lnk (lop t).2.2.2.2.1 (lop t).2.2.2.2.2 11 (lop t).2.1 := lnkB_D (List.all_eq_true.mp lop_mB t (List.mem_range.mpr h))
def lofs : Array Int := #[147, 190, 233, 296, 319, 342, 355, 368, 401, 424, 447, 470, 483, 516, 549, 562, 605, 628, 681, 714, 767, 790, 833, 886, 929, 972, 995, 1018, 1041, 1074, 1107, 1130, 1153]
theorem lop_o : ∀ t, t < 33 → lofs[t]? = some (((lop t).1 : Int) - 33) := by decide +kernel
def argL (na : Nat) (z : Nat → Int) : List jV := (List.range na).map (fun j => vi (z j))
/-- the two calls of a case answer alike, and the relation goes on -/
def SimOK (na mX mM : Nat) : Prop := ∀ (I : Nat → Int → Int) (ch : Int → Nat) (kd : Nat → Nat) (J : Nat → Int → Int) (z : Nat → Int), XR I ch kd J → (∀ j, -2147483648 ≤ z j ∧ z j < 2147483648) → Cl 13 mX (vr 0 :: argL na z) (SX I ch kd) (fun r σ => ∃ I' ch' kd' v, r = some (vi v) ∧ σ = SX I' ch' kd' ∧ AN 13 mM (vr 0 :: argL na z) J v I' ch' kd')
theorem sm_0 : SimOK 3 110 163 := fun _ _ _ _ z hX hz => s_row hX (hz 0).1 (hz 0).2 (hz 1).1 (hz 1).2 (hz 2).1 (hz 2).2 (Nat.le_refl 13) (Nat.le_refl 13) (fun I' ch' kd' v h => ⟨I', ch', kd', v, rfl, rfl, h⟩)
theorem sm_1 : SimOK 3 111 164 := fun _ _ _ _ z hX hz => s_set hX (hz 0).1 (hz 0).2 (hz 1).1 (hz 1).2 (hz 2).1 (hz 2).2 (Nat.le_refl 13) (Nat.le_refl 13) (fun I' ch' kd' v h => ⟨I', ch', kd', v, rfl, rfl, h⟩)
theorem sm_2 : SimOK 5 112 166 := fun _ _ _ _ z hX hz => s_copy hX (hz 0).1 (hz 0).2 (hz 1).1 (hz 1).2 (hz 2).1 (hz 2).2 (hz 3).1 (hz 3).2 (hz 4).1 (hz 4).2 (Nat.le_refl 13) (Nat.le_refl 13) (fun I' ch' kd' v h => ⟨I', ch', kd', v, rfl, rfl, h⟩)
theorem sm_3 : SimOK 1 113 167 := fun _ _ _ _ z hX hz => s_drop hX (hz 0).1 (hz 0).2 (Nat.le_refl 13) (Nat.le_refl 13) (fun I' ch' kd' v h => ⟨I', ch', kd', v, rfl, rfl, h⟩)
theorem sm_4 : SimOK 1 114 168 := fun _ _ _ _ z hX hz => s_feed hX (hz 0).1 (hz 0).2 (Nat.le_refl 13) (Nat.le_refl 13) (fun I' ch' kd' v h => ⟨I', ch', kd', v, rfl, rfl, h⟩)
theorem sm_5 : SimOK 0 115 179 := fun _ _ _ _ z hX hz => s_room hX  (Nat.le_refl 13) (Nat.le_refl 13) (fun I' ch' kd' v h => ⟨I', ch', kd', v, rfl, rfl, h⟩)
theorem sm_6 : SimOK 0 116 180 := fun _ _ _ _ z hX hz => s_fault hX  (Nat.le_refl 13) (Nat.le_refl 13) (fun I' ch' kd' v h => ⟨I', ch', kd', v, rfl, rfl, h⟩)
theorem sm_7 : SimOK 2 117 192 := fun _ _ _ _ z hX hz => s_sit hX (hz 0).1 (hz 0).2 (hz 1).1 (hz 1).2 (Nat.le_refl 13) (Nat.le_refl 13) (fun I' ch' kd' v h => ⟨I', ch', kd', v, rfl, rfl, h⟩)
theorem sm_8 : SimOK 1 118 193 := fun _ _ _ _ z hX hz => s_rise hX (hz 0).1 (hz 0).2 (Nat.le_refl 13) (Nat.le_refl 13) (fun I' ch' kd' v h => ⟨I', ch', kd', v, rfl, rfl, h⟩)
theorem sm_9 : SimOK 1 119 194 := fun _ _ _ _ z hX hz => s_recane hX (hz 0).1 (hz 0).2 (Nat.le_refl 13) (Nat.le_refl 13) (fun I' ch' kd' v h => ⟨I', ch', kd', v, rfl, rfl, h⟩)
theorem sm_10 : SimOK 1 120 195 := fun _ _ _ _ z hX hz => s_move hX (hz 0).1 (hz 0).2 (Nat.le_refl 13) (Nat.le_refl 13) (fun I' ch' kd' v h => ⟨I', ch', kd', v, rfl, rfl, h⟩)
theorem sm_11 : SimOK 0 121 196 := fun _ _ _ _ z hX hz => s_undo hX  (Nat.le_refl 13) (Nat.le_refl 13) (fun I' ch' kd' v h => ⟨I', ch', kd', v, rfl, rfl, h⟩)
theorem sm_12 : SimOK 2 122 197 := fun _ _ _ _ z hX hz => s_chair hX (hz 0).1 (hz 0).2 (hz 1).1 (hz 1).2 (Nat.le_refl 13) (Nat.le_refl 13) (fun I' ch' kd' v h => ⟨I', ch', kd', v, rfl, rfl, h⟩)
theorem sm_13 : SimOK 2 123 198 := fun _ _ _ _ z hX hz => s_guest hX (hz 0).1 (hz 0).2 (hz 1).1 (hz 1).2 (Nat.le_refl 13) (Nat.le_refl 13) (fun I' ch' kd' v h => ⟨I', ch', kd', v, rfl, rfl, h⟩)
theorem sm_14 : SimOK 0 124 199 := fun _ _ _ _ z hX hz => s_peace hX  (Nat.le_refl 13) (Nat.le_refl 13) (fun I' ch' kd' v h => ⟨I', ch', kd', v, rfl, rfl, h⟩)
theorem sm_15 : SimOK 3 125 200 := fun _ _ _ _ z hX hz => s_would hX (hz 0).1 (hz 0).2 (hz 1).1 (hz 1).2 (hz 2).1 (hz 2).2 (Nat.le_refl 13) (Nat.le_refl 13) (fun I' ch' kd' v h => ⟨I', ch', kd', v, rfl, rfl, h⟩)
theorem sm_16 : SimOK 1 126 203 := fun _ _ _ _ z hX hz => s_seating hX (hz 0).1 (hz 0).2 (Nat.le_refl 13) (Nat.le_refl 13) (fun I' ch' kd' v h => ⟨I', ch', kd', v, rfl, rfl, h⟩)
theorem sm_17 : SimOK 4 127 204 := fun _ _ _ _ z hX hz => s_warm hX (hz 0).1 (hz 0).2 (hz 1).1 (hz 1).2 (hz 2).1 (hz 2).2 (hz 3).1 (hz 3).2 (Nat.le_refl 13) (Nat.le_refl 13) (fun I' ch' kd' v h => ⟨I', ch', kd', v, rfl, rfl, h⟩)
theorem sm_18 : SimOK 2 128 205 := fun _ _ _ _ z hX hz => s_pure hX (hz 0).1 (hz 0).2 (hz 1).1 (hz 1).2 (Nat.le_refl 13) (Nat.le_refl 13) (fun I' ch' kd' v h => ⟨I', ch', kd', v, rfl, rfl, h⟩)
theorem sm_19 : SimOK 4 129 207 := fun _ _ _ _ z hX hz => s_between hX (hz 0).1 (hz 0).2 (hz 1).1 (hz 1).2 (hz 2).1 (hz 2).2 (hz 3).1 (hz 3).2 (Nat.le_refl 13) (Nat.le_refl 13) (fun I' ch' kd' v h => ⟨I', ch', kd', v, rfl, rfl, h⟩)
theorem sm_20 : SimOK 1 130 208 := fun _ _ _ _ z hX hz => s_trios hX (hz 0).1 (hz 0).2 (Nat.le_refl 13) (Nat.le_refl 13) (fun I' ch' kd' v h => ⟨I', ch', kd', v, rfl, rfl, h⟩)
theorem sm_21 : SimOK 3 131 209 := fun _ _ _ _ z hX hz => s_owns hX (hz 0).1 (hz 0).2 (hz 1).1 (hz 1).2 (hz 2).1 (hz 2).2 (Nat.le_refl 13) (Nat.le_refl 13) (fun I' ch' kd' v h => ⟨I', ch', kd', v, rfl, rfl, h⟩)
theorem sm_22 : SimOK 4 132 210 := fun _ _ _ _ z hX hz => s_fits hX (hz 0).1 (hz 0).2 (hz 1).1 (hz 1).2 (hz 2).1 (hz 2).2 (hz 3).1 (hz 3).2 (Nat.le_refl 13) (Nat.le_refl 13) (fun I' ch' kd' v h => ⟨I', ch', kd', v, rfl, rfl, h⟩)
theorem sm_23 : SimOK 3 133 212 := fun _ _ _ _ z hX hz => s_caned hX (hz 0).1 (hz 0).2 (hz 1).1 (hz 1).2 (hz 2).1 (hz 2).2 (Nat.le_refl 13) (Nat.le_refl 13) (fun I' ch' kd' v h => ⟨I', ch', kd', v, rfl, rfl, h⟩)
theorem sm_24 : SimOK 3 134 213 := fun _ _ _ _ z hX hz => s_drawn hX (hz 0).1 (hz 0).2 (hz 1).1 (hz 1).2 (hz 2).1 (hz 2).2 (Nat.le_refl 13) (Nat.le_refl 13) (fun I' ch' kd' v h => ⟨I', ch', kd', v, rfl, rfl, h⟩)
theorem sm_25 : SimOK 1 135 214 := fun _ _ _ _ z hX hz => s_image hX (hz 0).1 (hz 0).2 (Nat.le_refl 13) (Nat.le_refl 13) (fun I' ch' kd' v h => ⟨I', ch', kd', v, rfl, rfl, h⟩)
theorem sm_26 : SimOK 1 136 215 := fun _ _ _ _ z hX hz => s_restore hX (hz 0).1 (hz 0).2 (Nat.le_refl 13) (Nat.le_refl 13) (fun I' ch' kd' v h => ⟨I', ch', kd', v, rfl, rfl, h⟩)
theorem sm_27 : SimOK 1 137 217 := fun _ _ _ _ z hX hz => s_kind hX (hz 0).1 (hz 0).2 (Nat.le_refl 13) (Nat.le_refl 13) (fun I' ch' kd' v h => ⟨I', ch', kd', v, rfl, rfl, h⟩)
theorem sm_28 : SimOK 2 138 218 := fun _ _ _ _ z hX hz => s_as hX (hz 0).1 (hz 0).2 (hz 1).1 (hz 1).2 (Nat.le_refl 13) (Nat.le_refl 13) (fun I' ch' kd' v h => ⟨I', ch', kd', v, rfl, rfl, h⟩)
theorem sm_29 : SimOK 2 139 224 := fun _ _ _ _ z hX hz => s_ask hX (hz 0).1 (hz 0).2 (hz 1).1 (hz 1).2 (Nat.le_refl 13) (Nat.le_refl 13) (fun I' ch' kd' v h => ⟨I', ch', kd', v, rfl, rfl, h⟩)
theorem sm_30 : SimOK 1 140 225 := fun _ _ _ _ z hX hz => s_trace hX (hz 0).1 (hz 0).2 (Nat.le_refl 13) (Nat.le_refl 13) (fun I' ch' kd' v h => ⟨I', ch', kd', v, rfl, rfl, h⟩)
theorem sm_31 : SimOK 1 141 228 := fun _ _ _ _ z hX hz => s_count hX (hz 0).1 (hz 0).2 (Nat.le_refl 13) (Nat.le_refl 13) (fun I' ch' kd' v h => ⟨I', ch', kd', v, rfl, rfl, h⟩)
theorem sm_32 : SimOK 0 142 229 := fun _ _ _ _ z hX hz => s_status hX  (Nat.le_refl 13) (Nat.le_refl 13) (fun I' ch' kd' v h => ⟨I', ch', kd', v, rfl, rfl, h⟩)
theorem lop_s : ∀ t, t < 33 → SimOK (lop t).2.1 (lop t).2.2.2.1 (lop t).2.2.2.2.2
  | 0, _ => sm_0
  | 1, _ => sm_1
  | 2, _ => sm_2
  | 3, _ => sm_3
  | 4, _ => sm_4
  | 5, _ => sm_5
  | 6, _ => sm_6
  | 7, _ => sm_7
  | 8, _ => sm_8
  | 9, _ => sm_9
  | 10, _ => sm_10
  | 11, _ => sm_11
  | 12, _ => sm_12
  | 13, _ => sm_13
  | 14, _ => sm_14
  | 15, _ => sm_15
  | 16, _ => sm_16
  | 17, _ => sm_17
  | 18, _ => sm_18
  | 19, _ => sm_19
  | 20, _ => sm_20
  | 21, _ => sm_21
  | 22, _ => sm_22
  | 23, _ => sm_23
  | 24, _ => sm_24
  | 25, _ => sm_25
  | 26, _ => sm_26
  | 27, _ => sm_27
  | 28, _ => sm_28
  | 29, _ => sm_29
  | 30, _ => sm_30
  | 31, _ => sm_31
  | 32, _ => sm_32
  | t + 33, h => absurd h (by omega)
