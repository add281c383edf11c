/-! A CASE OF THE LAW -/
theorem lop_na : ∀ t, t < 33 → (lop t).2.1 ≤ 5 := by decide +kernel
theorem ofI (x : Int32) : Int32.ofInt x.toInt = x := Int32.ofInt_toInt x
theorem argL_rv (b na : Nat) (xs : Nat → Int32) (n : Nat) : (argL na (fun j => (xs (n + 1 + j)).toInt)).map (rv b) = (List.range na).map (fun j => Value.int (xs (n + 1 + j))) := by
  unfold argL
  rw [List.map_map]
  refine List.map_congr_left (fun j _ => ?_)
  show Value.int (Int32.ofInt (xs (n + 1 + j)).toInt) = _
  rw [ofI]
theorem argL_len (na : Nat) (z : Nat → Int) : (argL na z).length = na := by
  unfold argL
  rw [List.length_map, List.length_range]
section LWO
variable {p : Program} {l : Launch} {e : Env} {s : State} {m : MethodId} {args : Array Value} {below : List Frame} {meth : Method} {c : Code} {H : Heap} {locs : List Loc} {cells slots : Nat} {Q : State → Prop} {b pc : Nat} {ls : Array Slot} {D : va_G} {A0 : Nat → Prop} {rest : List Value} {L n B B2 : Nat} {xs : Nat → Int32}
/-- the law's locals: the script, the two objects, the place -/
def lwl (ls : Array Slot) (b B B2 n : Nat) : Prop := lv_has ls 4 [(3, .int (Int32.ofInt (n : Int))), (2, .ref (B2 + 0)), (1, .ref (B + 0)), (0, .ref b)]
theorem lw_push {R : Room} (hx : p.tables.exec = Jvm.exec) (hb : c.code = code) (hX : va_X b L xs s s.heap) (hbl : b < s.heap.size) (hbA : ¬ A0 b) (hS : va_S A0 s.heap H locs) (hl : lwl ls b B B2 n) (hL : L ≤ 384) : ∀ {na : Nat}, (∀ j, j < na → argD (pc + 5 * j) (j + 1)) → n + na < L → W p l e R s m args below meth c H locs cells slots Q (F0 m (pc + 5 * na) ls (((List.range na).map (fun j => Value.int (xs (n + 1 + j)))).reverse ++ rest)) → W p l e R s m args below meth c H locs cells slots Q (F0 m pc ls rest)
  | 0, _, _, kk => kk
  | na + 1, hD, hn, kk => by
    refine lw_push hx hb hX hbl hbA hS hl hL (na := na) (fun j hj => hD j (by omega)) (by omega) ?_
    obtain ⟨i1, i2, i3, i4, i5⟩ := hD na (by omega)
    refine lv_aload_n hx hb (i := 0) i1 rfl (hl.2.2 (0, .ref b) (by simp)) ?_
    refine lv_iload_n hx hb (i := 3) i2 rfl (hl.2.2 (3, .int (Int32.ofInt (n : Int))) (by simp)) ?_
    refine lv_iconst hx hb i3 rfl ?_
    refine lv_iadd hx hb i4 ?_
    rw [← Int32.ofInt_add]
    obtain ⟨z1, z2⟩ := oI_in (x := (n : Int) + ((na + 1 : Nat) : Int)) (n := L) (by omega) (by omega) (by omega)
    refine va_sld (A := A0) hx hb hX hbl hbA hS z1 i5 ?_
    rw [z2, show ((n : Int) + ((na + 1 : Nat) : Int)).toNat = n + 1 + na from by omega]
    rw [List.range_succ, List.map_append, List.reverse_append] at kk
    exact kk
theorem law_op {t : Nat} (ht : t < 33) (hx : p.tables.exec = Jvm.exec) (hb : c.code = code) (hml : c.maxLocals = 4) (hown : s.vm.findClass R_law = some m.cls) (hts : ∀ w ∈ lw_tbl, w.before args s = true) (hX : va_X b L xs s s.heap) (hbl : b < s.heap.size) (hbB : s.heap.size ≤ B) (hB2 : B + 125 ≤ B2)
    (hS : va_S (fun q => s.heap.size ≤ q) s.heap H locs) (hl : lwl ls b B B2 n) (hL : L ≤ 384) (hn : n + 6 ≤ L) {I : Nat → Int → Int} {ch : Int → Nat} {kd : Nat → Nat} {J : Nat → Int → Int} (hR : jR D B (SX I ch kd) s H) (hR2 : jR D B2 (SM J) s H) (hXR : XR I ch kd J)
    (kk : ∀ (H1 : Heap) (locs1 : List Loc) (I' : Nat → Int → Int) (ch' : Int → Nat) (kd' : Nat → Nat) (J' : Nat → Int → Int), jR D B (SX I' ch' kd') s H1 → jR D B2 (SM J') s H1 → XR I' ch' kd' J' → va_S (fun q => s.heap.size ≤ q) s.heap H1 locs1 → W p l e room_1 s m args below meth c H1 locs1 140 4232 Q (F0 m 1199 ls [])) : W p l e room_1 s m args below meth c H locs 140 4232 Q (F0 m (lop t).1 ls []) := by
  obtain ⟨o1, o2, o3, o4, o5, o6, o7⟩ := lop_d t ht
  obtain ⟨x1, x2, x3, x4, x5, x6⟩ := lop_x ht
  obtain ⟨y1, y2, y3, y4, y5, y6⟩ := lop_m ht
  have hsim := lop_s t ht
  have hna : (lop t).2.1 ≤ 5 := lop_na t ht
  generalize (lop t).1 = q at *
  generalize (lop t).2.1 = na at *
  generalize (lop t).2.2.1 = nX at *
  generalize (lop t).2.2.2.1 = mX at *
  generalize (lop t).2.2.2.2.1 = nM at *
  generalize (lop t).2.2.2.2.2 = mM at *
  have hsz : c.maxLocals = ls.size := by rw [hml, hl.1]
  have htj : ∀ w ∈ jW, w.before args s = true := fun w hw => hts w (jW_sub hw)
  have hbA : ¬ s.heap.size ≤ b := by omega
  obtain ⟨c1, f, r, σ', hrun, I', ch', kd', v, rfl, rfl, c2, f2, r2, σ2, hrun2, J', rfl, rfl, hXR'⟩ := hsim I ch kd J (fun j => (xs (n + 1 + j)).toInt) hXR (fun j => ⟨Int32.le_toInt _, Int32.toInt_lt _⟩)
  have ec : 140 + ((SX I' ch' kd').2.1 - (SX I ch kd).2.1) = 140 := congrArg (140 + ·) (Nat.sub_self 125)
  have es : 4232 + ((SX I' ch' kd').2.2.1 - (SX I ch kd).2.2.1) = 4232 := congrArg (4232 + ·) (Nat.sub_self 2312)
  have fc : 140 + ((SM J').2.1 - (SM J).2.1) = 140 := congrArg (140 + ·) (Nat.sub_self 15)
  have fs : 4232 + ((SM J').2.2.1 - (SM J).2.2.1) = 4232 := congrArg (4232 + ·) (Nat.sub_self 1920)
  refine lv_aload_n hx hb (i := 1) o1 rfl (hl.2.2 (1, .ref (B + 0)) (by simp)) ?_
  refine lw_push (A0 := fun q => s.heap.size ≤ q) hx hb hX hbl hbA hS hl hL o2 (by omega) ?_
  rw [← argL_rv B]
  refine lw_callV (A := fun q => B ≤ q ∧ q < B + 125) (A0 := fun q => s.heap.size ≤ q) (d := 13) (r := some (vi v)) (σ := SX I ch kd) (σ' := SX I' ch' kd') (ci := 10) hx hb hsz htj hown o3 hR rfl hS (fun q hq => Nat.le_trans hbB hq.1) (by decide) (by decide) (by rw [ec]; decide) (by rw [es]; decide) x6 ?_ (hts _ x1) (hts _ x2) (hts _ x3) (hts _ x4) (by decide) (show 0 < 125 from by decide) rfl (by rw [argL_len, x5]) (by decide) (fun H1 locs1 hR' hS' hF => ?_)
  · exact sound (up_ok l) 13 mX _ _ _ _ x6 c1 ⟨f, hrun⟩ (fun k hk => ⟨Nat.le_add_right _ _, Nat.add_lt_add_left hk B⟩) (fun h => by cases h)
  have hR2' : jR D B2 (SM J) s H1 := hR2.keep (fun k hk => hF _ (jR_lt hR2 hk) (fun hq => by omega))
  rw [ec, es]
  show W p l e room_1 s m args below meth c H1 locs1 140 4232 Q (F0 m (q + 1 + 5 * na + 3) ls [Value.int (Int32.ofInt v)])
  refine lv_aload_n hx hb (i := 2) o4 rfl (hl.2.2 (2, .ref (B2 + 0)) (by simp)) ?_
  refine lw_push (A0 := fun q => s.heap.size ≤ q) hx hb hX hbl hbA hS' hl hL o5 (by omega) ?_
  rw [← argL_rv B2]
  refine lw_callV (A := fun q => B2 ≤ q) (A0 := fun q => s.heap.size ≤ q) (d := 13) (r := some (vi v)) (σ := SM J) (σ' := SM J') (ci := 11) hx hb hsz htj hown o6 hR2' rfl hS' (fun q hq => by have : B2 ≤ q := hq; omega) (by decide) (by decide) (by rw [fc]; decide) (by rw [fs]; decide) y6 ?_ (hts _ y1) (hts _ y2) (hts _ y3) (hts _ y4) (by decide) (show 0 < 15 from by decide) rfl (by rw [argL_len, y5]) (show 1 + 0 ≤ 8 from by decide) (fun H2 locs2 hR3 hS3 hF2 => ?_)
  · exact sound (up_ok l) 13 mM _ _ _ _ y6 c2 ⟨f2, hrun2⟩ (fun k hk => Nat.le_add_right _ _) (fun h => by cases h)
  have hR4 : jR D B (SX I' ch' kd') s H2 := hR'.keep (fun k hk => hF2 _ (jR_lt hR' hk) (fun hq => by have hk : k < 125 := hk; have hq : B2 ≤ B + k := hq; omega))
  rw [fc, fs]
  show W p l e room_1 s m args below meth c H2 locs2 140 4232 Q (F0 m (q + 1 + 5 * na + 3 + 1 + 5 * na + 3) ls [Value.int (Int32.ofInt v), Value.int (Int32.ofInt v)])
  refine lv_icmp_eq hx hb (tgt := 1199) o7 (by omega) (fun _ => ?_) (fun h => absurd rfl h)
  exact kk H2 locs2 I' ch' kd' J' hR4 hR3 hXR' hS3
end LWO
