/-! THE LAW'S LOOP AND ITS START -/
theorem dl_0 : decode code 0 = .ok (.new 7, 3) := by decide +kernel
theorem dl_3 : decode code 3 = .ok (.dup, 1) := by decide +kernel
theorem dl_4 : decode code 4 = .ok (.invokespecial 9, 3) := by decide +kernel
theorem dl_7 : decode code 7 = .ok (.astore_n 1, 1) := by decide +kernel
theorem dl_8 : decode code 8 = .ok (.new 10, 3) := by decide +kernel
theorem dl_11 : decode code 11 = .ok (.dup, 1) := by decide +kernel
theorem dl_12 : decode code 12 = .ok (.invokespecial 12, 3) := by decide +kernel
theorem dl_15 : decode code 15 = .ok (.astore_n 2, 1) := by decide +kernel
theorem dl_16 : decode code 16 = .ok (.iconst 0, 1) := by decide +kernel
theorem dl_17 : decode code 17 = .ok (.istore_n 3, 1) := by decide +kernel
theorem dl_18 : decode code 18 = .ok (.iload_n 3, 1) := by decide +kernel
theorem dl_19 : decode code 19 = .ok (.aload_n 0, 1) := by decide +kernel
theorem dl_20 : decode code 20 = .ok (.arraylength, 1) := by decide +kernel
theorem dl_21 : decode code 21 = .ok (.bipush 6, 2) := by decide +kernel
theorem dl_23 : decode code 23 = .ok (.isub, 1) := by decide +kernel
theorem dl_24 : decode code 24 = .ok (.if_icmp .gt 1181, 3) := by decide +kernel
theorem dl_27 : decode code 27 = .ok (.aload_n 0, 1) := by decide +kernel
theorem dl_28 : decode code 28 = .ok (.iload_n 3, 1) := by decide +kernel
theorem dl_29 : decode code 29 = .ok (.iaload, 1) := by decide +kernel
theorem dl_30 : decode code 30 = .ok (.bipush 63, 2) := by decide +kernel
theorem dl_32 : decode code 32 = .ok (.iand, 1) := by decide +kernel
theorem dl_1199 : decode code 1199 = .ok (.iinc 3 6, 3) := by decide +kernel
theorem dl_1202 : decode code 1202 = .ok (.goto (-1184), 3) := by decide +kernel
theorem dl_1205 : decode code 1205 = .ok (.iconst 1, 1) := by decide +kernel
theorem dl_1206 : decode code 1206 = .ok (.ireturn, 1) := by decide +kernel
theorem dl_33 : decode code 33 = .ok (.tableswitch 1166 0 32 lofs, 147) := by decide +kernel
theorem oI_ofNat (L : Nat) : Int32.ofNat L - Int32.ofInt 6 = Int32.ofInt ((L : Int) - 6) := by
  rw [Int32.ofInt_sub, ← Int32.ofInt_eq_ofNat]
section LWP
variable {p : Program} {l : Launch} {e : Env} {s : State} {m : MethodId} {below : List Frame} {meth : Method} {c : Code} {b : Nat} {D : va_G} {L B B2 : Nat} {xs : Nat → Int32}
/-- the loop's head, and one turn -/
theorem law_head (hx : p.tables.exec = Jvm.exec) (hb : c.code = code) (hr : meth.sig.returnType = ret) (hlocks : meth.locks = false) (hml : c.maxLocals = 4) (hown : s.vm.findClass R_law = some m.cls) (hts : ∀ w ∈ lw_tbl, w.before #[Value.ref b] s = true) (hX : va_X b L xs s s.heap) (hbl : b < s.heap.size) (hbB : s.heap.size ≤ B) (hB2 : B + 125 ≤ B2) (hL : L ≤ 384)
    {n : Nat} {H : Heap} {locs : List Loc} {ls : Array Slot} {I : Nat → Int → Int} {ch : Int → Nat} {kd : Nat → Nat} {J : Nat → Int → Int} (hn : n ≤ L) (hl : lwl ls b B B2 n) (hR : jR D B (SX I ch kd) s H) (hR2 : jR D B2 (SM J) s H) (hXR : XR I ch kd J) (hS : va_S (fun q => s.heap.size ≤ q) s.heap H locs)
    (kk : ∀ (H1 : Heap) (locs1 : List Loc) (ls1 : Array Slot) (I' : Nat → Int → Int) (ch' : Int → Nat) (kd' : Nat → Nat) (J' : Nat → Int → Int), n + 6 ≤ L → lwl ls1 b B B2 (n + 6) → jR D B (SX I' ch' kd') s H1 → jR D B2 (SM J') s H1 → XR I' ch' kd' J' → va_S (fun q => s.heap.size ≤ q) s.heap H1 locs1 → W p l e room_1 s m #[Value.ref b] below meth c H1 locs1 140 4232 (lw_Z below #[Value.ref b] s) (F0 m 18 ls1 [])) : W p l e room_1 s m #[Value.ref b] below meth c H locs 140 4232 (lw_Z below #[Value.ref b] s) (F0 m 18 ls []) := by
  have hbA : ¬ s.heap.size ≤ b := by omega
  refine lv_iload_n hx hb (i := 3) dl_18 rfl (hl.2.2 (3, .int (Int32.ofInt (n : Int))) (by simp)) ?_
  refine lv_aload_n hx hb (i := 0) dl_19 rfl (hl.2.2 (0, .ref b) (by simp)) ?_
  refine va_slen (A := fun q => s.heap.size ≤ q) hx hb hX hbl hbA hS dl_20 ?_
  refine lv_bipush hx hb (v := Int32.ofInt 6) dl_21 (oI_bi (by decide) (by decide)) ?_
  refine lv_isub hx hb dl_23 ?_
  rw [oI_ofNat]
  have hlt : Int32.ofInt ((L : Int) - 6) < Int32.ofInt (n : Int) ↔ (L : Int) - 6 < n := oI_lt (inB_iff.mpr (by omega)) (inB_iff.mpr (by omega))
  refine lv_icmp_gt hx hb (tgt := 1205) dl_24 (by decide) (fun _ => ?_) (fun hno => ?_)
  · refine lv_iconst hx hb (v := 1) dl_1205 (by decide) ?_
    refine va_forget (fun q hq => hS.2.2 q hq) ?_
    exact W.widen (k := 600000) (n := 7302250) (by decide) (by decide) (lw_ret hx hb hr hlocks dl_1206)
  have hn6 : n + 6 ≤ L := by
    have : ¬ ((L : Int) - 6 < n) := fun q => hno (hlt.mpr q)
    omega
  refine lv_aload_n hx hb (i := 0) dl_27 rfl (hl.2.2 (0, .ref b) (by simp)) ?_
  refine lv_iload_n hx hb (i := 3) dl_28 rfl (hl.2.2 (3, .int (Int32.ofInt (n : Int))) (by simp)) ?_
  obtain ⟨z1, z2⟩ := oI_in (x := (n : Int)) (n := L) (by omega) (by omega) (by omega)
  refine va_sld (A := fun q => s.heap.size ≤ q) hx hb hX hbl hbA hS z1 dl_29 ?_
  rw [z2]
  refine lv_bipush hx hb (v := Int32.ofInt 63) dl_30 (oI_bi (by decide) (by decide)) ?_
  refine lv_iand hx hb dl_32 ?_
  rw [← ofI (xs (n : Int).toNat), oI_and63]
  generalize hu : (xs (n : Int).toNat).toInt % 64 = u
  have hu0 : 0 ≤ u ∧ u < 64 := by omega
  have hut : (Int32.ofInt u).toInt = u := oI_t (inB_iff.mpr (by omega))
  have hend : ∀ (H1 : Heap) (locs1 : List Loc) (I' : Nat → Int → Int) (ch' : Int → Nat) (kd' : Nat → Nat) (J' : Nat → Int → Int), jR D B (SX I' ch' kd') s H1 → jR D B2 (SM J') s H1 → XR I' ch' kd' J' → va_S (fun q => s.heap.size ≤ q) s.heap H1 locs1 → W p l e room_1 s m #[Value.ref b] below meth c H1 locs1 140 4232 (lw_Z below #[Value.ref b] s) (F0 m 1199 ls []) := by
    intro H1 locs1 I' ch' kd' J' k1 k2 k3 k4
    refine lv_iinc hx hb (k := 0) (v := Int32.ofInt ((n + 6 : Nat) : Int)) dl_1199 hl rfl ?_ (by decide) rfl (fun ls1 hl1 => ?_)
    · rw [← Int32.ofInt_add]; rfl
    · refine lv_goto hx hb (tgt := 18) dl_1202 (by decide) ?_
      exact kk H1 locs1 ls1 I' ch' kd' J' hn6 hl1 k1 k2 k3 k4
  by_cases h33 : u < 33
  · have ht : u.toNat < 33 := by omega
    refine lv_tableIn hx hb (off := ((lop u.toNat).1 : Int) - 33) (tgt := (lop u.toNat).1) dl_33 (by rw [hut]; omega) (by rw [hut]; omega) ?_ (by omega) ?_
    · rw [hut, Int.sub_zero]
      exact lop_o u.toNat ht
    · exact law_op ht hx hb hml hown hts hX hbl hbB hB2 hS hl hL hn6 hR hR2 hXR hend
  · refine lv_tableOut hx hb (tgt := 1199) dl_33 (Or.inr (by rw [hut]; omega)) (by decide) ?_
    exact hend H locs I ch kd J hR hR2 hXR hS
theorem law_loop (hx : p.tables.exec = Jvm.exec) (hb : c.code = code) (hr : meth.sig.returnType = ret) (hlocks : meth.locks = false) (hml : c.maxLocals = 4) (hown : s.vm.findClass R_law = some m.cls) (hts : ∀ w ∈ lw_tbl, w.before #[Value.ref b] s = true) (hX : va_X b L xs s s.heap) (hbl : b < s.heap.size) (hbB : s.heap.size ≤ B) (hB2 : B + 125 ≤ B2) (hL : L ≤ 384) : ∀ (k n : Nat) (H : Heap) (locs : List Loc) (ls : Array Slot) (I : Nat → Int → Int) (ch : Int → Nat) (kd : Nat → Nat) (J : Nat → Int → Int), n ≤ L → L ≤ n + k → lwl ls b B B2 n → jR D B (SX I ch kd) s H → jR D B2 (SM J) s H → XR I ch kd J → va_S (fun q => s.heap.size ≤ q) s.heap H locs → W p l e room_1 s m #[Value.ref b] below meth c H locs 140 4232 (lw_Z below #[Value.ref b] s) (F0 m 18 ls []) := by
  intro k
  induction k with
  | zero =>
    intro n H locs ls I ch kd J hn hk hl hR hR2 hXR hS
    exact law_head hx hb hr hlocks hml hown hts hX hbl hbB hB2 hL hn hl hR hR2 hXR hS (fun _ _ _ _ _ _ _ u _ _ _ _ _ => by omega)
  | succ k ih =>
    intro n H locs ls I ch kd J hn hk hl hR hR2 hXR hS
    exact law_head hx hb hr hlocks hml hown hts hX hbl hbB hB2 hL hn hl hR hR2 hXR hS (fun H1 locs1 ls1 I' ch' kd' J' u v1 v2 v3 v4 v5 => ih (n + 6) H1 locs1 ls1 I' ch' kd' J' u (by omega) v1 v2 v3 v4 v5)
end LWP

theorem whole_start {p : Program} {e : Env} {s : State} {m : MethodId} {below : List Frame} {meth : Method} {c : Code} (l : Launch) (hflags : l.flags = flags0) {b L : Nat} {xs : Nat → Int32} (hL : L ≤ 384) (C0 : lw_At p s m meth c b L xs) : W p l e room_1 s m #[Value.ref b] below meth c s.heap [] 0 0 (lw_Z below #[Value.ref b] s) (entryFrame m ([Value.ref b] : List Value).toArray 4) := by
  obtain ⟨hx, hb, hr, hml, hown, hts, hX, hbl, hlocks, hgv⟩ := C0
  obtain ⟨D, hK⟩ := lw_known hts
  have hJ : jX s := lw_jX hts hgv
  have htj : ∀ w ∈ jW, w.before #[Value.ref b] s = true := fun w hw => hts w (jW_sub hw)
  obtain ⟨σx, rx, mx⟩ := mkX
  obtain ⟨σm, rm, mm⟩ := mkM
  have hS : va_S (fun q : Nat => s.heap.size ≤ q) s.heap s.heap [] := va_S.rf
  have hl := lv_entry ([.ref b]) (n := 4) (Nat.le_of_ble_eq_true rfl)
  rw [lg_entry_eq]
  generalize (lg_sl ([.ref b]) ++ List.replicate (4 - (lg_sl ([.ref b])).length) Slot.unset).toArray = ls at hl ⊢
  have hl : lv_has ls 4 [(0, .ref b)] := hl
  refine lw_new (ci := 10) (A0 := fun q => s.heap.size ≤ q) hx hb htj hown dl_0 (by decide) (hts (.classLink R_law 7 (cN 10)) (List.mem_of_getElem? (i := 77) (by decide +kernel))) (hts (.instantiable (cN 10) (cF 10)) (List.mem_of_getElem? (i := 78) (by decide +kernel))) (hts (.initialized (cN 10)) (List.mem_of_getElem? (i := 61) (by decide +kernel))) hK hJ rfl hS (by decide) (by decide +kernel) (fun H1 z1 hR1 hS1 hF1 => ?_)
  have hR1 : jR D s.heap.size sX0 s H1 := hR1
  refine W.widen (k := 1) (n := 12) (by decide) (by decide +kernel) ?_
  refine lv_dup hx hb dl_3 rfl ?_
  have xc : 1 + (σx.2.1 - sX0.2.1) = 125 := by rw [mx.2.1]; rfl
  have xs' : 12 + (σx.2.2.1 - sX0.2.2.1) = 2312 := by rw [mx.2.2.1]; rfl
  refine lw_callI (A := fun q => s.heap.size ≤ q) (A0 := fun q => s.heap.size ≤ q) (d := 10) (m' := 109) (r := none) (σ := sX0) (σ' := σx) hx hb (by rw [hml, hl.1]) htj hown dl_4 hR1 (fun _ => z1) hS1 (fun q hq => hq) (by decide) (by decide) (by rw [xc]; decide) (by rw [xs']; decide) (by decide) ?_ (hts (.methodLink R_law 9 (mY 109)) (List.mem_of_getElem? (i := 79) (by decide +kernel))) (hts (.instanceMethod (mY 109)) (List.mem_of_getElem? (i := 80) (by decide +kernel))) (hts (.initialized (mY 109).cls) (List.mem_of_getElem? (i := 61) (by decide +kernel))) (by decide +kernel) (by decide +kernel) (by decide +kernel) (show 1 + 0 ≤ 8 from by decide) (fun H2 locs2 hR2 hS2 _ => ?_)
  · exact sound (up_ok l) 10 109 _ _ _ _ (by decide) (by decide +kernel) ⟨3000, rx⟩ (fun k _ => Nat.le_add_right _ _) (fun _ => show 0 < 1 from by decide)
  have hRX : jR D s.heap.size (SX iX ch0 kd0) s H2 := mx.jR hR2
  have hB2 : s.heap.size + 125 ≤ H2.size := jR_lt hRX (k := 124) (show 124 < 125 from by decide)
  rw [xc, xs']
  show W p l e room_1 s m #[Value.ref b] below meth c H2 locs2 125 2312 (lw_Z below #[Value.ref b] s) (F0 m 7 ls [Value.ref (s.heap.size + 0)])
  refine lv_astore_n hx hb (i := 1) dl_7 rfl hl (by decide) rfl (fun ls1 hl1 => ?_)
  have hl1 : lv_has ls1 4 [(1, .ref (s.heap.size + 0)), (0, .ref b)] := hl1
  refine lw_new (ci := 11) (b := H2.size) (A0 := fun q => s.heap.size ≤ q) hx hb htj hown dl_8 (by decide) (hts (.classLink R_law 10 (cN 11)) (List.mem_of_getElem? (i := 979) (by decide +kernel))) (hts (.instantiable (cN 11) (cF 11)) (List.mem_of_getElem? (i := 980) (by decide +kernel))) (hts (.initialized (cN 11)) (List.mem_of_getElem? (i := 74) (by decide +kernel))) hK hJ rfl hS2 (by decide) (by decide +kernel) (fun H3 z3 hR3 hS3 hF3 => ?_)
  have hRX3 : jR D s.heap.size (SX iX ch0 kd0) s H3 := hRX.keep (fun k hk => hF3 _ (jR_lt hRX hk))
  have hR3 : jR D H2.size sM0 s H3 := hR3
  refine W.widen (k := 126) (n := 2336) (by decide) (by decide +kernel) ?_
  refine lv_dup hx hb dl_11 rfl ?_
  have yc : 126 + (σm.2.1 - sM0.2.1) = 140 := by rw [mm.2.1]; rfl
  have ys : 2336 + (σm.2.2.1 - sM0.2.2.1) = 4232 := by rw [mm.2.2.1]; rfl
  refine lw_callI (A := fun q => H2.size ≤ q) (A0 := fun q => s.heap.size ≤ q) (d := 10) (m' := 154) (r := none) (σ := sM0) (σ' := σm) hx hb (by rw [hml, hl1.1]) htj hown dl_12 hR3 (fun _ => z3) hS3 (fun q hq => by have hq : H2.size ≤ q := hq; omega) (by decide) (by decide) (by rw [yc]; decide) (by rw [ys]; decide) (by decide) ?_ (hts (.methodLink R_law 12 (mY 154)) (List.mem_of_getElem? (i := 981) (by decide +kernel))) (hts (.instanceMethod (mY 154)) (List.mem_of_getElem? (i := 982) (by decide +kernel))) (hts (.initialized (mY 154).cls) (List.mem_of_getElem? (i := 74) (by decide +kernel))) (by decide +kernel) (by decide +kernel) (by decide +kernel) (show 1 + 0 ≤ 8 from by decide) (fun H4 locs4 hR4 hS4 hF4 => ?_)
  · exact sound (up_ok l) 10 154 _ _ _ _ (by decide) (by decide +kernel) ⟨1000, rm⟩ (fun k _ => Nat.le_add_right _ _) (fun _ => show 0 < 1 from by decide)
  have hRM : jR D H2.size (SM iM) s H4 := mm.jR hR4
  have hRX4 : jR D s.heap.size (SX iX ch0 kd0) s H4 := hRX3.keep (fun k hk => hF4 _ (jR_lt hRX3 hk) (fun hq => by have hk : k < 125 := hk; have hq : H2.size ≤ s.heap.size + k := hq; omega))
  rw [yc, ys]
  show W p l e room_1 s m #[Value.ref b] below meth c H4 locs4 140 4232 (lw_Z below #[Value.ref b] s) (F0 m 15 ls1 [Value.ref (H2.size + 0)])
  refine lv_astore_n hx hb (i := 2) dl_15 rfl hl1 (by decide) rfl (fun ls2 hl2 => ?_)
  refine lv_iconst hx hb (v := Int32.ofInt ((0 : Nat) : Int)) dl_16 rfl ?_
  refine lv_istore_n hx hb (i := 3) dl_17 rfl hl2 (by decide) rfl (fun ls3 hl3 => ?_)
  exact law_loop hx hb hr hlocks hml hown hts hX hbl (Nat.le_refl _) hB2 hL L 0 H4 locs4 ls3 iX ch0 kd0 iM (Nat.zero_le _) (by omega) hl3 hRX4 hRM XR0 hS4

