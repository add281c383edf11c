section W2f
variable {p : Program} {l : Launch} {e : Env} {R : Room} {s : State} {m : MethodId} {args : Array Value} {below : List Frame} {meth : Method} {c : Code} {H : Heap} {locs : List Loc} {cells slots : Nat} {Q : State → Prop} {cc : ByteArray} {b nL pc o : Nat} {ls : Array Slot} {D : va_G} {σ σ' : jS} {A : Nat → Prop} {S S' : List jV}
set_option maxHeartbeats 4000000 in
theorem w2 {i : Instr} {init : Bool} (hx : p.tables.exec = Jvm.exec) (hb : c.code = cc) (hml : c.maxLocals = ls.size) (hts : ∀ w ∈ jW, w.before args s = true) (hown : s.vm.findClass (oN o) = some m.cls) (hd : decode cc pc = .ok (i, ilen i)) (hin : init = true → meth.name = "<init>") (hR : jR D b σ s H) (hS : va_S A s.heap H locs) (hA : ∀ k, k < σ'.2.1 → A (b + k)) (hN : σ.1 = true → s.heap.size + cells = b + σ.2.1) (hf : 1 ≤ R.frames) (hlo : 100 ≤ R.locals) (hc : cells + (σ'.2.1 - σ.2.1) ≤ R.cells) (hs : slots + (σ'.2.2.1 - σ.2.2.1) ≤ R.slots) (h : s2 o init i S σ = some (S', σ'))
    (k : ∀ (H1 : Heap) (locs1 : List Loc) (cells1 slots1 : Nat), jR D b σ' s H1 → va_S A s.heap H1 locs1 → σ'.1 = σ.1 → cells1 + σ.2.1 = cells + σ'.2.1 → slots1 + σ.2.2.1 = slots + σ'.2.2.1 → W p l e R s m args below meth c H1 locs1 cells1 slots1 Q (F0 m (pc + ilen i) ls (S'.map (rv b)))) : W p l e R s m args below meth c H locs cells slots Q (F0 m pc ls (S.map (rv b))) := by
  cases i
  case getfield n =>
    unfold s2 at h
    dsimp only at h
    split at h
    · rename_i kk S0 ci j rf fin ht
      split at h
      · rename_i hc1
        simp only [Bool.and_eq_true, decide_eq_true_eq] at hc1
        refine w_get (ls := ls) hx hb hts hown hd hR ht hc1.1 hc1.2 ?_
        split at h
        · rename_i h1
          cases h
          rw [if_pos h1]
          exact k H locs cells slots hR hS rfl rfl rfl
        · rename_i h1
          cases h
          rw [if_neg h1]
          exact k H locs cells slots hR hS rfl rfl rfl
      · cases h
    · cases h
  case putfield n =>
    unfold s2 at h
    dsimp only at h
    split at h
    · rename_i z kk S0 ci j rf fin ht
      split at h <;> cases h
      rename_i hc1
      simp only [Bool.and_eq_true, decide_eq_true_eq, beq_iff_eq] at hc1
      exact w_putI hx hb hts hown hd hR hS hA ht hc1.1.1.1 hc1.1.1.2 hc1.1.2 hc1.2 (fun H1 l1 g1 g2 => k H1 l1 cells slots g1 g2 rfl rfl rfl)
    · rename_i q kk S0 ci j rf fin ht
      split at h <;> cases h
      rename_i hc1
      simp only [Bool.and_eq_true, decide_eq_true_eq, beq_iff_eq, Bool.or_eq_true] at hc1
      exact w_putR hx hb hts hown hd hR hS hA ht hc1.1.1.1 hc1.1.1.2 hc1.1.2 (hc1.2.imp id (fun q => ⟨hin q.1, q.2⟩)) (fun H1 l1 g1 g2 => k H1 l1 cells slots g1 g2 rfl rfl rfl)
    · cases h
  case iaload =>
    unfold s2 at h
    dsimp only at h
    split at h
    · split at h <;> cases h
      rename_i hc1
      simp only [Bool.and_eq_true, decide_eq_true_eq, beq_iff_eq] at hc1
      exact w_iald hx hb hd hR hc1.1.1.1 hc1.1.1.2 hc1.1.2 hc1.2 (k H locs cells slots hR hS rfl rfl rfl)
    · cases h
  case baload =>
    unfold s2 at h
    dsimp only at h
    split at h
    · split at h <;> cases h
      rename_i hc1
      simp only [Bool.and_eq_true, decide_eq_true_eq, beq_iff_eq] at hc1
      exact w_zald hx hb hd hR hc1.1.1.1 hc1.1.1.2 hc1.1.2 hc1.2 (k H locs cells slots hR hS rfl rfl rfl)
    · cases h
  case aaload =>
    unfold s2 at h
    dsimp only at h
    split at h
    · split at h <;> cases h
      rename_i hc1
      simp only [Bool.and_eq_true, decide_eq_true_eq] at hc1
      exact w_aald hx hb hd hR hc1.1.1.1.1 hc1.1.1.1.2 hc1.1.1.2 hc1.1.2 hc1.2 (k H locs cells slots hR hS rfl rfl rfl)
    · cases h
  case iastore =>
    unfold s2 at h
    dsimp only at h
    split at h
    · split at h <;> cases h
      rename_i hc1
      simp only [Bool.and_eq_true, decide_eq_true_eq, beq_iff_eq] at hc1
      exact w_iast hx hb hd hR hS hA hc1.1.1.1 hc1.1.1.2 hc1.1.2 hc1.2 (fun H1 l1 g1 g2 => k H1 l1 cells slots g1 g2 rfl rfl rfl)
    · cases h
  case bastore =>
    unfold s2 at h
    dsimp only at h
    split at h
    · split at h <;> cases h
      rename_i hc1
      simp only [Bool.and_eq_true, decide_eq_true_eq, beq_iff_eq, Bool.or_eq_true] at hc1
      exact w_zast hx hb hd hR hS hA hc1.1.1.1.1 hc1.1.1.1.2 hc1.1.1.2 hc1.1.2 hc1.2 (fun H1 l1 g1 g2 => k H1 l1 cells slots g1 g2 rfl rfl rfl)
    · cases h
  case aastore =>
    unfold s2 at h
    dsimp only at h
    split at h
    · split at h <;> cases h
      rename_i hc1
      simp only [Bool.and_eq_true, decide_eq_true_eq] at hc1
      exact w_aast hx hb hd hR hS hA hc1.1.1.1.1.1.1.1 hc1.1.1.1.1.1.1.2 hc1.1.1.1.1.1.2 hc1.1.1.1.1.2 hc1.1.1.1.2 hc1.1.1.2 hc1.1.2 hc1.2 (fun H1 l1 g1 g2 => k H1 l1 cells slots g1 g2 rfl rfl rfl)
    · cases h
  case arraylength =>
    unfold s2 at h
    dsimp only at h
    split at h
    · split at h <;> cases h
      rename_i hc1
      simp only [Bool.and_eq_true, decide_eq_true_eq] at hc1
      exact w_len hx hb hd hR hc1.1.1 hc1.1.2 (k H locs cells slots hR hS rfl rfl rfl)
    · cases h
  case instanceof n =>
    unfold s2 at h
    dsimp only at h
    split at h
    · rename_i kk S0 w ht
      split at h
      · rename_i hc1
        simp only [Bool.and_eq_true, decide_eq_true_eq] at hc1
        obtain ⟨r, hr, e1⟩ := Option.map_eq_some_iff.mp h
        cases e1
        exact w_inst hx hb hts hown hd hR ht hc1.1 hc1.2 hr (k H locs cells slots hR hS rfl rfl rfl)
      · cases h
    · cases h
  case new n =>
    unfold s2 at h
    dsimp only at h
    obtain ⟨ci, ht, h⟩ := Option.bind_eq_some_iff.mp h
    split at h <;> cases h
    rename_i hc1
    simp only [Bool.and_eq_true, decide_eq_true_eq] at hc1
    dsimp only at hc hs
    refine w_new hx hb hts hown hd hR hS ht hc1.2 (hN hc1.1) (by omega) (by omega) (fun H1 g1 g2 => k H1 locs _ _ g1 g2 hc1.1.symm ?_ ?_)
    · dsimp only; omega
    · dsimp only; omega
  case newarray t =>
    unfold s2 at h
    dsimp only at h
    split at h
    · split at h <;> cases h
      rename_i hc1
      simp only [Bool.and_eq_true, decide_eq_true_eq, Bool.or_eq_true, beq_iff_eq] at hc1
      dsimp only at hc hs
      have ht : t = .int ∨ t = .boolean := by
        have q := hc1.2
        clear k hd hc1
        cases t <;> first | exact Or.inl rfl | exact Or.inr rfl | (rcases q with q | q <;> cases q)
      refine w_newa hx hb hts hd hR hS ht hc1.1.1.2 hc1.1.2 hc1.1.1.1.2 (hN hc1.1.1.1.1) (by omega) (by omega) (fun H1 g1 g2 => k H1 locs _ _ g1 g2 hc1.1.1.1.1.symm ?_ ?_)
      · dsimp only; omega
      · dsimp only; omega
    · cases h
  case anewarray n =>
    unfold s2 at h
    dsimp only at h
    split at h
    · rename_i x S0 t ht
      split at h <;> cases h
      rename_i hc1
      simp only [Bool.and_eq_true, decide_eq_true_eq] at hc1
      dsimp only at hc hs
      refine w_anew hx hb hts hown hd hR hS ht hc1.1.2 hc1.2 hc1.1.1.2 (hN hc1.1.1.1) (by omega) (by omega) (fun H1 g1 g2 => k H1 locs _ _ g1 g2 hc1.1.1.1.symm ?_ ?_)
      · dsimp only; omega
      · dsimp only; omega
    · cases h
  case invokespecial n =>
    unfold s2 at h
    dsimp only at h
    split at h
    · split at h <;> cases h
      rename_i hc1
      simp only [Bool.and_eq_true, decide_eq_true_eq] at hc1
      exact w_obj hx hb hml hts hown hd hc1.1 hf (by rw [sz_rv]; omega) (k H locs cells slots hR hS rfl rfl rfl)
    · cases h
  case invokestatic n =>
    unfold s2 at h
    dsimp only at h
    split at h
    · rename_i ht
      split at h
      · split at h <;> cases h
        rename_i hc1
        simp only [Bool.and_eq_true, decide_eq_true_eq, beq_iff_eq] at hc1
        exact w_copy hx hb hml hts hown hd ht hf (by rw [sz_rv]; omega) hR hS hA hc1.1.1.1.1.1.1.1.1.1 hc1.1.1.1.1.1.1.1.1.2 hc1.1.1.1.1.1.1.1.2 hc1.1.1.1.1.1.1.2 hc1.1.1.1.1.1.2 hc1.1.1.1.1.2 hc1.1.1.1.2 hc1.1.1.2 hc1.1.2 (fun H1 l1 g1 g2 => k H1 l1 cells slots g1 g2 rfl rfl rfl)
      · cases h
    · rename_i ht
      split at h
      · split at h <;> cases h
        rename_i hc1
        simp only [Bool.and_eq_true, decide_eq_true_eq] at hc1
        exact w_abs hx hb hml hts hown hd ht hf (by rw [sz_rv]; omega) (by omega) (by omega) (inB_iff.mpr (by omega)) (k H locs cells slots hR hS rfl rfl rfl)
      · cases h
    · rename_i ht
      split at h
      · split at h <;> cases h
        rename_i hc1
        simp only [Bool.and_eq_true, decide_eq_true_eq] at hc1
        exact w_max hx hb hml hts hown hd ht hf (by rw [sz_rv]; omega) (by omega) (by omega) hc1.1.1 hc1.1.2 (k H locs cells slots hR hS rfl rfl rfl)
      · cases h
    · rename_i ht
      split at h
      · split at h <;> cases h
        rename_i hc1
        simp only [Bool.and_eq_true, decide_eq_true_eq] at hc1
        exact w_min hx hb hml hts hown hd ht hf (by rw [sz_rv]; omega) (by omega) (by omega) hc1.1.1 hc1.1.2 (k H locs cells slots hR hS rfl rfl rfl)
      · cases h
    · rename_i ht
      split at h
      · split at h <;> cases h
        rename_i hc1
        simp only [Bool.and_eq_true, decide_eq_true_eq] at hc1
        exact w_bit hx hb hml hts hown hd ht hf (by omega) (by rw [sz_rv]; exact hc1.2) (by omega) (by omega) hc1.1.1 hc1.1.2 (k H locs cells slots hR hS rfl rfl rfl)
      · cases h
    · cases h
  all_goals (unfold s2 at h; cases h)
theorem toPc_eq {off : Int} {t : Nat} (h : toPc pc off = some t) : (pc : Int) + off = (t : Int) := by
  unfold toPc at h
  split at h <;> cases h
  rename_i h1
  simp only [decide_eq_true_eq] at h1
  omega
set_option maxHeartbeats 4000000 in
theorem w3 {i : Instr} {len pc' : Nat} (hx : p.tables.exec = Jvm.exec) (hb : c.code = cc) (hd : decode cc pc = .ok (i, len)) (hle : lenOk i len = true) (h : s3 i pc len S = some (pc', S'))
    (k : W p l e R s m args below meth c H locs cells slots Q (F0 m pc' ls (S'.map (rv b)))) : W p l e R s m args below meth c H locs cells slots Q (F0 m pc ls (S.map (rv b))) := by
  cases i
  case goto off =>
    have hle : (len == 3) = true := hle
    rw [beq_iff_eq] at hle
    subst hle
    unfold s3 at h
    dsimp only at h
    obtain ⟨t, ht, e1⟩ := Option.map_eq_some_iff.mp h
    cases e1
    exact lv_goto hx hb hd (toPc_eq ht) k
  case ifCond cd off =>
    have hle : (len == 3) = true := hle
    rw [beq_iff_eq] at hle
    subst hle
    unfold s3 at h
    dsimp only at h
    split at h
    · rename_i x S0
      split at h
      · rename_i h0
        have e0 : Int32.ofInt x = 0 ↔ x = 0 := oI_eq (y := 0) h0 (by decide)
        have e1 : Int32.ofInt x < 0 ↔ x < 0 := oI_lt (y := 0) h0 (by decide)
        have e2 : Int32.ofInt x ≤ 0 ↔ x ≤ 0 := oI_le (y := 0) h0 (by decide)
        have e3 : (0 : Int32) < Int32.ofInt x ↔ 0 < x := oI_lt (x := 0) (by decide) h0
        have e4 : (0 : Int32) ≤ Int32.ofInt x ↔ 0 ≤ x := oI_le (x := 0) (by decide) h0
        obtain ⟨t, ht, e1'⟩ := Option.map_eq_some_iff.mp h
        cases e1'
        have ht := toPc_eq ht
        cases cd
        · exact lv_if_eq hx hb hd ht (fun q => by rw [if_pos (by simpa [cmpB] using e0.mp q)] at k; exact k) (fun q => by rw [if_neg (by simpa [cmpB] using fun z => q (e0.mpr z))] at k; exact k)
        · exact lv_if_ne hx hb hd ht (fun q => by rw [if_pos (by simpa [cmpB] using fun z => q (e0.mpr z))] at k; exact k) (fun q => by rw [if_neg (by simpa [cmpB] using e0.mp q)] at k; exact k)
        · exact lv_if_lt hx hb hd ht (fun q => by rw [if_pos (by simpa [cmpB] using e1.mp q)] at k; exact k) (fun q => by rw [if_neg (by simpa [cmpB] using fun z => q (e1.mpr z))] at k; exact k)
        · exact lv_if_ge hx hb hd ht (fun q => by rw [if_pos (by simpa [cmpB] using e4.mp q)] at k; exact k) (fun q => by rw [if_neg (by simpa [cmpB] using fun z => q (e4.mpr z))] at k; exact k)
        · exact lv_if_gt hx hb hd ht (fun q => by rw [if_pos (by simpa [cmpB] using e3.mp q)] at k; exact k) (fun q => by rw [if_neg (by simpa [cmpB] using fun z => q (e3.mpr z))] at k; exact k)
        · exact lv_if_le hx hb hd ht (fun q => by rw [if_pos (by simpa [cmpB] using e2.mp q)] at k; exact k) (fun q => by rw [if_neg (by simpa [cmpB] using fun z => q (e2.mpr z))] at k; exact k)
      · cases h
    · cases h
  case if_icmp cd off =>
    have hle : (len == 3) = true := hle
    rw [beq_iff_eq] at hle
    subst hle
    unfold s3 at h
    dsimp only at h
    split at h
    · rename_i y x S0
      split at h
      · rename_i h0
        simp only [Bool.and_eq_true] at h0
        have e0 : Int32.ofInt x = Int32.ofInt y ↔ x = y := oI_eq h0.1 h0.2
        have e1 : Int32.ofInt x < Int32.ofInt y ↔ x < y := oI_lt h0.1 h0.2
        have e2 : Int32.ofInt x ≤ Int32.ofInt y ↔ x ≤ y := oI_le h0.1 h0.2
        have e3 : Int32.ofInt y < Int32.ofInt x ↔ y < x := oI_lt h0.2 h0.1
        have e4 : Int32.ofInt y ≤ Int32.ofInt x ↔ y ≤ x := oI_le h0.2 h0.1
        obtain ⟨t, ht, e1'⟩ := Option.map_eq_some_iff.mp h
        cases e1'
        have ht := toPc_eq ht
        cases cd
        · exact lv_icmp_eq hx hb hd ht (fun q => by rw [if_pos (by simpa [cmpB] using e0.mp q)] at k; exact k) (fun q => by rw [if_neg (by simpa [cmpB] using fun z => q (e0.mpr z))] at k; exact k)
        · exact lv_icmp_ne hx hb hd ht (fun q => by rw [if_pos (by simpa [cmpB] using fun z => q (e0.mpr z))] at k; exact k) (fun q => by rw [if_neg (by simpa [cmpB] using e0.mp q)] at k; exact k)
        · exact lv_icmp_lt hx hb hd ht (fun q => by rw [if_pos (by simpa [cmpB] using e1.mp q)] at k; exact k) (fun q => by rw [if_neg (by simpa [cmpB] using fun z => q (e1.mpr z))] at k; exact k)
        · exact lv_icmp_ge hx hb hd ht (fun q => by rw [if_pos (by simpa [cmpB] using e4.mp q)] at k; exact k) (fun q => by rw [if_neg (by simpa [cmpB] using fun z => q (e4.mpr z))] at k; exact k)
        · exact lv_icmp_gt hx hb hd ht (fun q => by rw [if_pos (by simpa [cmpB] using e3.mp q)] at k; exact k) (fun q => by rw [if_neg (by simpa [cmpB] using fun z => q (e3.mpr z))] at k; exact k)
        · exact lv_icmp_le hx hb hd ht (fun q => by rw [if_pos (by simpa [cmpB] using e2.mp q)] at k; exact k) (fun q => by rw [if_neg (by simpa [cmpB] using fun z => q (e2.mpr z))] at k; exact k)
      · cases h
    · cases h
  case tableswitch df lo hi offs =>
    unfold s3 at h
    dsimp only at h
    split at h
    · rename_i x S0
      split at h
      · rename_i h0
        split at h
        · rename_i h1
          obtain ⟨t, ht, e1⟩ := Option.map_eq_some_iff.mp h
          cases e1
          exact lv_tableOut hx hb hd (by rw [oI_t h0]; exact h1) (toPc_eq ht) k
        · rename_i h1
          obtain ⟨off, ho, h⟩ := Option.bind_eq_some_iff.mp h
          obtain ⟨t, ht, e1⟩ := Option.map_eq_some_iff.mp h
          cases e1
          exact lv_tableIn hx hb hd (by rw [oI_t h0]; omega) (by rw [oI_t h0]; omega) (by rw [oI_t h0]; exact ho) (toPc_eq ht) k
      · cases h
    · cases h
  case lookupswitch df ps =>
    unfold s3 at h
    dsimp only at h
    split at h
    · rename_i x S0
      split at h
      · rename_i h0
        simp only [Bool.and_eq_true] at h0
        obtain ⟨t, ht, e1⟩ := Option.map_eq_some_iff.mp h
        cases e1
        exact lv_lookup hx hb hd h0.2 (by rw [oI_t h0.1]) (toPc_eq ht) k
      · cases h
    · cases h
  all_goals (unfold s3 at h; cases h)
end W2f
