section W1
variable {p : Program} {l : Launch} {e : Env} {R : Room} {s : State} {m : MethodId} {args : Array Value} {below : List Frame} {meth : Method} {c : Code} {H : Heap} {locs : List Loc} {cells slots : Nat} {Q : State → Prop} {cc : ByteArray} {b nL pc o : Nat} {ls : Array Slot} {L L' : jL} {S S' : List jV}
theorem find_mem {α β : Type} {l : List α} {f : α → Bool} {g : α → β} {x : β} (h : (l.find? f).map g = some x) : ∃ e ∈ l, f e = true ∧ g e = x := by
  obtain ⟨e, he, rfl⟩ := Option.map_eq_some_iff.mp h
  exact ⟨e, List.mem_of_find?_eq_some he, List.find?_some he, rfl⟩
theorem tK_use {n : Nat} {z : Int} (hts : ∀ w ∈ jW, w.before args s = true) (h : tK o n = some z) : (Cond.constant (oN o) n (Int32.ofInt z)).before args s = true := by
  obtain ⟨e, he, h1, h2⟩ := find_mem h
  have h3 := List.all_eq_true.mp tK_ok e he
  simp only [Bool.and_eq_true, beq_iff_eq, decide_eq_true_eq] at h1 h3
  obtain ⟨rfl, rfl⟩ := h1
  subst h2
  exact hts _ (jW_mem h3 rfl)
theorem tKK_use {n : Nat} {z : Int} (hts : ∀ w ∈ jW, w.before args s = true) (h : tKK o n = some z) : (Cond.constantLong (oN o) n (Int64.ofInt z)).before args s = true := by
  obtain ⟨e, he, h1, h2⟩ := find_mem h
  have h3 := List.all_eq_true.mp tKK_ok e he
  simp only [Bool.and_eq_true, beq_iff_eq, decide_eq_true_eq] at h1 h3
  obtain ⟨rfl, rfl⟩ := h1
  subst h2
  exact hts _ (jW_mem h3 rfl)
set_option maxHeartbeats 4000000 in
theorem w1 {i : Instr} (hx : p.tables.exec = Jvm.exec) (hb : c.code = cc) (hts : ∀ w ∈ jW, w.before args s = true) (hown : s.vm.findClass (oN o) = some m.cls) (hd : decode cc pc = .ok (i, ilen i)) (hl : jLs b nL ls L) (h : s1 o i L S = some (L', S'))
    (k : ∀ ls' : Array Slot, jLs b nL ls' L' → W p l e R s m args below meth c H locs cells slots Q (F0 m (pc + ilen i) ls' (S'.map (rv b)))) : W p l e R s m args below meth c H locs cells slots Q (F0 m pc ls (S.map (rv b))) := by
  cases i
  case iload n =>
    unfold s1 at h
    dsimp only at h
    split at h <;> cases h
    rename_i z hz
    exact lv_iload hx hb hd (hl.2.2.2 _ _ hz) (k ls hl)
  case iload_n n =>
    unfold s1 at h
    dsimp only at h
    split at h <;> cases h
    rename_i z hz
    exact lv_iload_n hx hb hd rfl (hl.2.2.2 _ _ hz) (k ls hl)
  case lload n =>
    unfold s1 at h
    dsimp only at h
    split at h <;> cases h
    rename_i z hz
    exact lv_lload hx hb hd (hl.2.2.2 _ _ hz) (k ls hl)
  case lload_n n =>
    unfold s1 at h
    dsimp only at h
    split at h <;> cases h
    rename_i z hz
    exact lv_lload_n hx hb hd rfl (hl.2.2.2 _ _ hz) (k ls hl)
  case aload n =>
    unfold s1 at h
    dsimp only at h
    split at h <;> cases h
    rename_i z hz
    exact lv_aload hx hb hd (hl.2.2.2 _ _ hz) (k ls hl)
  case aload_n n =>
    unfold s1 at h
    dsimp only at h
    split at h <;> cases h
    rename_i z hz
    exact lv_aload_n hx hb hd rfl (hl.2.2.2 _ _ hz) (k ls hl)
  case istore n =>
    unfold s1 at h
    dsimp only at h
    split at h
    · rename_i z S0
      obtain ⟨L1, hL, e1⟩ := Option.map_eq_some_iff.mp h
      cases e1
      exact lv_istore hx hb hd hl.has (by rw [← hl.1]; exact lput_lt hL) rfl (fun ls' h' => k ls' (jLs.put hl.1 hL h'))
    · cases h
  case istore_n n =>
    unfold s1 at h
    dsimp only at h
    split at h
    · rename_i z S0
      obtain ⟨L1, hL, e1⟩ := Option.map_eq_some_iff.mp h
      cases e1
      exact lv_istore_n hx hb hd rfl hl.has (by rw [← hl.1]; exact lput_lt hL) rfl (fun ls' h' => k ls' (jLs.put hl.1 hL h'))
    · cases h
  case astore n =>
    unfold s1 at h
    dsimp only at h
    split at h
    · rename_i z S0
      obtain ⟨L1, hL, e1⟩ := Option.map_eq_some_iff.mp h
      cases e1
      exact lv_astore hx hb hd hl.has (by rw [← hl.1]; exact lput_lt hL) rfl (fun ls' h' => k ls' (jLs.put hl.1 hL h'))
    · cases h
  case astore_n n =>
    unfold s1 at h
    dsimp only at h
    split at h
    · rename_i z S0
      obtain ⟨L1, hL, e1⟩ := Option.map_eq_some_iff.mp h
      cases e1
      exact lv_astore_n hx hb hd rfl hl.has (by rw [← hl.1]; exact lput_lt hL) rfl (fun ls' h' => k ls' (jLs.put hl.1 hL h'))
    · cases h
  case lstore n =>
    unfold s1 at h
    dsimp only at h
    split at h
    · rename_i z S0
      obtain ⟨L1, hL, e1⟩ := Option.map_eq_some_iff.mp h
      cases e1
      exact lv_lstore hx hb hd hl.has (by rw [← hl.1]; exact lput2_lt hL) rfl (fun ls' h' => k ls' (jLs.put2 hl.1 hL h'))
    · cases h
  case lstore_n n =>
    unfold s1 at h
    dsimp only at h
    split at h
    · rename_i z S0
      obtain ⟨L1, hL, e1⟩ := Option.map_eq_some_iff.mp h
      cases e1
      exact lv_lstore_n hx hb hd rfl hl.has (by rw [← hl.1]; exact lput2_lt hL) rfl (fun ls' h' => k ls' (jLs.put2 hl.1 hL h'))
    · cases h
  case iinc n d =>
    unfold s1 at h
    dsimp only at h
    split at h
    · rename_i z hz
      obtain ⟨L1, hL, e1⟩ := Option.map_eq_some_iff.mp h
      cases e1
      obtain ⟨j, hj⟩ := List.getElem?_of_mem (mem_lsl (b := b) hz)
      exact lv_iinc hx hb hd hl.has hj (by rw [← Int32.ofInt_add]) (by rw [← hl.1]; exact lput_lt hL) rfl (fun ls' h' => k ls' (jLs.put hl.1 hL h'))
    · cases h
  case iconst z =>
    unfold s1 at h
    dsimp only at h
    cases h
    exact lv_iconst hx hb hd rfl (k ls hl)
  case bipush z =>
    unfold s1 at h
    dsimp only at h
    split at h <;> cases h
    rename_i hc
    simp only [Bool.and_eq_true, decide_eq_true_eq] at hc
    exact lv_bipush hx hb hd (oI_bi hc.1 hc.2) (k ls hl)
  case sipush z =>
    unfold s1 at h
    dsimp only at h
    split at h <;> cases h
    rename_i hc
    simp only [Bool.and_eq_true, decide_eq_true_eq] at hc
    exact lv_sipush hx hb hd (oI_si hc.1 hc.2) (k ls hl)
  case ldc n =>
    unfold s1 at h
    dsimp only at h
    obtain ⟨z, hz, e1⟩ := Option.map_eq_some_iff.mp h
    cases e1
    exact lv_ldc hx hb hown (tK_use hts hz) hd (k ls hl)
  case ldc_w n =>
    unfold s1 at h
    dsimp only at h
    obtain ⟨z, hz, e1⟩ := Option.map_eq_some_iff.mp h
    cases e1
    exact lv_ldcw hx hb hown (tK_use hts hz) hd (k ls hl)
  case ldc2_w n =>
    unfold s1 at h
    dsimp only at h
    obtain ⟨z, hz, e1⟩ := Option.map_eq_some_iff.mp h
    cases e1
    exact lv_ldc2 hx hb hown (tKK_use hts hz) hd (k ls hl)
  case dup =>
    unfold s1 at h
    dsimp only at h
    split at h
    · split at h <;> cases h
      rename_i v S0 hc
      exact lv_dup hx hb hd (by rw [rv_cat, if_neg hc]) (k ls hl)
    · cases h
  case pop =>
    unfold s1 at h
    dsimp only at h
    split at h
    · split at h <;> cases h
      rename_i v hc
      exact lv_pop hx hb hd (by rw [rv_cat, if_neg hc]) (k ls hl)
    · cases h
  case dup2 =>
    unfold s1 at h
    dsimp only at h
    split at h
    · split at h <;> cases h
      rename_i v w S0 hc
      simp only [Bool.or_eq_true, not_or] at hc
      exact lv_dup2_11 hx hb hd (by rw [rv_cat, if_neg hc.1]) (by rw [rv_cat, if_neg hc.2]) (k ls hl)
    · cases h
  case iadd =>
    unfold s1 at h
    dsimp only at h
    split at h <;> cases h
    refine lv_iadd hx hb hd ?_
    rw [← Int32.ofInt_add]
    exact k ls hl
  case isub =>
    unfold s1 at h
    dsimp only at h
    split at h <;> cases h
    refine lv_isub hx hb hd ?_
    rw [← Int32.ofInt_sub]
    exact k ls hl
  case imul =>
    unfold s1 at h
    dsimp only at h
    split at h <;> cases h
    refine lv_imul hx hb hd ?_
    rw [← Int32.ofInt_mul]
    exact k ls hl
  case ineg =>
    unfold s1 at h
    dsimp only at h
    split at h <;> cases h
    refine lv_ineg hx hb hd ?_
    rw [← Int32.ofInt_neg]
    exact k ls hl
  case idiv =>
    unfold s1 at h
    dsimp only at h
    split at h
    · split at h <;> cases h
      rename_i hc
      simp only [Bool.and_eq_true, decide_eq_true_eq] at hc
      refine lv_idiv hx hb hd (oI_ne0 hc.1.2 hc.2) ?_
      rw [oI_div hc.1.1.1 hc.1.1.2 hc.1.2 hc.2]
      exact k ls hl
    · cases h
  case irem =>
    unfold s1 at h
    dsimp only at h
    split at h
    · split at h <;> cases h
      rename_i hc
      simp only [Bool.and_eq_true, decide_eq_true_eq] at hc
      refine lv_irem hx hb hd (oI_ne0 hc.1.2 hc.2) ?_
      rw [oI_rem hc.1.1.1 hc.1.1.2 hc.1.2 hc.2]
      exact k ls hl
    · cases h
  case lrem =>
    unfold s1 at h
    dsimp only at h
    split at h
    · split at h <;> cases h
      rename_i hc
      simp only [Bool.and_eq_true, decide_eq_true_eq] at hc
      refine lv_lrem hx hb hd (oL_ne0 hc.1.2 hc.2) ?_
      rw [oL_rem hc.1.1.1 hc.1.1.2 hc.1.2 hc.2]
      exact k ls hl
    · cases h
  case lmul =>
    unfold s1 at h
    dsimp only at h
    split at h <;> cases h
    refine lv_lmul hx hb hd ?_
    rw [← Int64.ofInt_mul]
    exact k ls hl
  case ishl =>
    unfold s1 at h
    dsimp only at h
    split at h
    · split at h <;> cases h
      rename_i hc
      simp only [Bool.and_eq_true, decide_eq_true_eq] at hc
      refine lv_ishl hx hb hd ?_
      rw [oI_shl hc.1 hc.2]
      exact k ls hl
    · cases h
  case ishr =>
    unfold s1 at h
    dsimp only at h
    split at h
    · split at h <;> cases h
      rename_i hc
      simp only [Bool.and_eq_true, decide_eq_true_eq] at hc
      refine lv_ishr hx hb hd ?_
      rw [oI_shr hc.1 hc.2]
      exact k ls hl
    · cases h
  case iand =>
    unfold s1 at h
    dsimp only at h
    split at h
    · split at h
      · rename_i hc
        cases h
        subst hc
        refine lv_iand hx hb hd ?_
        rw [oI_and63]
        exact k ls hl
      · split at h <;> cases h
        rename_i hc
        subst hc
        refine lv_iand hx hb hd ?_
        rw [oI_and1]
        exact k ls hl
    · cases h
  case ior =>
    unfold s1 at h
    dsimp only at h
    split at h
    · split at h <;> cases h
      rename_i hc
      simp only [Bool.and_eq_true, decide_eq_true_eq] at hc
      refine lv_ior hx hb hd ?_
      rw [oI_or hc.1.1.1 hc.1.2]
      exact k ls hl
    · cases h
  case i2l =>
    unfold s1 at h
    dsimp only at h
    split at h
    · split at h <;> cases h
      rename_i hc
      exact lv_i2l hx hb hd (oI_i2l hc) (k ls hl)
    · cases h
  case l2i =>
    unfold s1 at h
    dsimp only at h
    split at h <;> cases h
    exact lv_l2i hx hb hd Int64.toInt32_ofInt (k ls hl)
  case i2b =>
    unfold s1 at h
    dsimp only at h
    split at h <;> cases h
    exact lv_i2b hx hb hd (oI_b _) (k ls hl)
  case i2s =>
    unfold s1 at h
    dsimp only at h
    split at h <;> cases h
    exact lv_i2s hx hb hd (oI_s _) (k ls hl)
  all_goals (unfold s1 at h; cases h)
end W1
