section W2c
variable {p : Program} {l : Launch} {e : Env} {R : Room} {s : State} {m : MethodId} {args : Array Value} {below : List Frame} {meth : Method} {c : Code} {H : Heap} {locs : List Loc} {cells slots : Nat} {Q : State → Prop} {cc : ByteArray} {b nL pc o : Nat} {ls : Array Slot} {rest : List Value} {D : va_G} {σ : jS} {A : Nat → Prop}
theorem w_sz {g : JFrame} (kk : s.heap.size ≤ H.size → H.size ≤ s.heap.size + cells → W p l e R s m args below meth c H locs cells slots Q g) : W p l e R s m args below meth c H locs cells slots Q g := by
  intro T hT X
  have h1 : s.heap.size ≤ T.heap.size := X.same.2.1
  have h2 : T.heap.size ≤ s.heap.size + cells := X.same.2.2.1
  rw [hT] at h1 h2
  exact kk h1 h2 T hT X
theorem jR_lt (hR : jR D b σ s H) {k : Nat} (hk : k < σ.2.1) : b + k < H.size := by
  obtain ⟨ac, tys, hK, hT, hP, hX⟩ := hR
  exact (hP k _ (wld_at hk)).lt
theorem jR_new {n sl t len : Nat} {bo : Bool} {sh : Nat → Nat × Nat} {I : Nat → Int → Int} {Rf : Nat → Int → Option Nat} {ac : Nat → ClassId} {tys tys' : List (ClassId × FieldType)} {cA : ClassId} {H1 : Heap} (hK : va_K D jcl tys' s)
    (hT : ∀ k, k < n → ((sh k).1 < 12 ∧ (sh k).2 = 0) ∨ (50 ≤ (sh k).1 ∧ (sh k).1 ≤ 54 ∧ (sh k).2 < 100001 ∧ ∃ t0 : Nat, tys[t0]? = some (ac k, aT (sh k).1))) (hsub : ∀ (t0 : Nat) (q : ClassId × FieldType), tys[t0]? = some q → tys'[t0]? = some q)
    (hP : va_P D jcl (wld b ac n sh I Rf) H) (hX : jX s) (ho : ∀ q, q < b + n → H1[q]? = H[q]?)
    (hnew : (t < 12 ∧ len = 0) ∨ (50 ≤ t ∧ t ≤ 54 ∧ len < 100001 ∧ ∃ t0 : Nat, tys'[t0]? = some (cA, aT t)))
    (hat : va_at D jcl (b + n, wE b (fun _ => cA) (fun _ => (t, len)) (fun _ _ => 0) (fun _ _ => none) n) H1) :
    jR D b (bo, n + 1, sl, (fun a => if a = n then (t, len) else sh a), (fun a b => if a = n then 0 else I a b), (fun a b => if a = n then none else Rf a b)) s H1 := by
  refine ⟨fun a => if a = n then cA else ac a, tys', hK, fun k hk => ?_, fun k q hq => ?_, hX⟩
  · dsimp only at hk ⊢
    by_cases hkn : k = n
    · rw [if_pos hkn, if_pos hkn]; exact hnew
    · rw [if_neg hkn, if_neg hkn]
      rcases hT k (by omega) with h | ⟨h1, h2, h3, t0, h4⟩
      · exact Or.inl h
      · exact Or.inr ⟨h1, h2, h3, t0, hsub _ _ h4⟩
  · obtain ⟨hk, rfl⟩ := wld_in hq
    dsimp only at hk
    by_cases hkn : k = n
    · subst hkn
      have e1 : wE b (fun a => if a = k then cA else ac a) (fun a => if a = k then (t, len) else sh a) (fun a b => if a = k then 0 else I a b) (fun a b => if a = k then none else Rf a b) k = wE b (fun _ => cA) (fun _ => (t, len)) (fun _ _ => 0) (fun _ _ => none) k := by
        unfold wE
        simp only [if_true]
      rw [e1]
      exact hat
    · have e1 : wE b (fun a => if a = n then cA else ac a) (fun a => if a = n then (t, len) else sh a) (fun a b => if a = n then 0 else I a b) (fun a b => if a = n then none else Rf a b) k = wE b ac sh I Rf k := by
        unfold wE
        simp only [if_neg hkn]
      rw [e1]
      exact (hP k _ (wld_at (by omega))).kept (ho _ (by show b + k < b + n; omega))
theorem tN_use {n ci : Nat} (hts : ∀ w ∈ jW, w.before args s = true) (h : tN o n = some ci) : ci < 12 ∧ (Cond.classLink (oN o) n (cN ci)).before args s = true ∧ (Cond.instantiable (cN ci) (cF ci)).before args s = true ∧ (Cond.initialized (cN ci)).before args s = true := by
  obtain ⟨⟨e0, e1, e2, e3, e4, e5⟩, he, h1, h2⟩ := find_mem h
  have h3 := List.all_eq_true.mp tN_ok _ he
  simp only [Bool.and_eq_true, beq_iff_eq, decide_eq_true_eq] at h1 h3
  obtain ⟨rfl, rfl⟩ := h1
  cases h2
  exact ⟨h3.2, hts _ (jW_mem h3.1.1.1 rfl), hts _ (jW_mem h3.1.1.2 rfl), hts _ (jW_mem h3.1.2 rfl)⟩
theorem va_S_new {H0 H1 : Heap} {h : Nat} (hS : va_S A H0 H locs) (hh : H.size = h) (z1 : H1.size = h + 1) (o1 : ∀ q, q < h → H1[q]? = H[q]?) : va_S A H0 H1 locs :=
  ⟨Nat.le_trans hS.1 (by omega), fun x h1 h2 => (o1 x (by have := hS.1; omega)).trans (hS.2.1 x h1 h2), hS.2.2⟩
theorem w_new {n ci : Nat} (hx : p.tables.exec = Jvm.exec) (hb : c.code = cc) (hts : ∀ w ∈ jW, w.before args s = true) (hown : s.vm.findClass (oN o) = some m.cls) (hd : decode cc pc = .ok (.new n, 3)) (hR : jR D b σ s H) (hS : va_S A s.heap H locs) (ht : tN o n = some ci) (hn : 0 < σ.2.1) (hN : s.heap.size + cells = b + σ.2.1) (hcells : cells + 1 ≤ R.cells) (hslots : slots + cF ci ≤ R.slots)
    (kk : ∀ H1 : Heap, jR D b (true, σ.2.1 + 1, σ.2.2.1 + cF ci, (fun a => if a = σ.2.1 then (ci, 0) else σ.2.2.2.1 a), (fun a b => if a = σ.2.1 then 0 else σ.2.2.2.2.1 a b), (fun a b => if a = σ.2.1 then none else σ.2.2.2.2.2 a b)) s H1 → va_S A s.heap H1 locs → W p l e R s m args below meth c H1 locs (cells + 1) (slots + cF ci) Q (F0 m (pc + 3) ls (.ref (b + σ.2.1) :: rest))) : W p l e R s m args below meth c H locs cells slots Q (F0 m pc ls rest) := by
  refine w_sz (fun z1 z2 => ?_)
  have hz : H.size = b + σ.2.1 := by
    have := jR_lt hR (k := σ.2.1 - 1) (by omega)
    omega
  obtain ⟨ac, tys, hK, hT, hP, hX⟩ := hR
  obtain ⟨h1, h2, h3, h4⟩ := tN_use hts ht
  have hKn := hK.1 ci _ (cl_at h1)
  refine W.newcK hx hb hown h2 h3 h4 rfl hd hcells hslots hKn.2.1 hz (fun H1 kC hkC e1 z1 o1 => ?_)
  refine kk H1 (jR_new (cA := 0) hK hT (fun _ _ h => h) hP hX o1 (Or.inl ⟨h1, rfl⟩) ?_) (va_S_new hS hz z1 o1)
  rw [wE_obj (sh := fun _ => (ci, 0)) (k := σ.2.1) rfl h1]
  refine ⟨_, cl_at h1, (u_born (cY ci) hts (cl_use h1) hKn hkC e1 (fun k hk => (cl_typ h1 hk).1)).to (fun j hj => ?_)⟩
  have hj : j < cF ci := hj
  have h5 : (fld b ci (fun _ => 0) (fun _ => none))[j]? = _ := fld_at hj
  unfold vp_V
  rw [List.getD_eq_getElem?_getD, h5, Option.getD_some]
  rcases (cl_typ h1 hj).2 with ⟨q1, ⟨nn, q2⟩ | ⟨nn, q2⟩⟩ | ⟨q1, q2⟩ <;> rw [q1, q2] <;> rfl
theorem va_K_add {tys : List (ClassId × FieldType)} {cA : ClassId} {ty : FieldType} (hK : va_K D jcl tys s) (h1 : ArrOfT s cA ty) (h2 : va_RA s cA ty) : va_K D jcl (tys ++ [(cA, ty)]) s := by
  refine hK.app ⟨hK.1, fun k q hk => ?_⟩
  have hz : k < 1 := (List.getElem?_eq_some_iff.mp hk).1
  rw [show k = 0 by omega] at hk
  cases hk
  exact ⟨h1, h2⟩
theorem app_l {α : Type} {l l' : List α} (t0 : Nat) (q : α) (h : l[t0]? = some q) : (l ++ l')[t0]? = some q := by
  rw [List.getElem?_append_left (List.getElem?_eq_some_iff.mp h).1]; exact h
theorem app_r {α : Type} {l : List α} {q : α} : ∃ t0 : Nat, (l ++ [q])[t0]? = some q := ⟨l.length, by simp⟩
theorem oI_pos {x : Int} (h0 : 0 ≤ x) (h1 : x < 100000) : ¬ Int32.ofInt x < 0 ∧ (Int32.ofInt x).toNatClampNeg = x.toNat := by
  rw [oI_nat h0]
  exact ⟨nI_pos (by omega), nI_clamp (by omega)⟩
theorem w_newa {x : Int} {t : ArrayType} (hx : p.tables.exec = Jvm.exec) (hb : c.code = cc) (hts : ∀ w ∈ jW, w.before args s = true) (hd : decode cc pc = .ok (.newarray t, 2)) (hR : jR D b σ s H) (hS : va_S A s.heap H locs) (ht : t = .int ∨ t = .boolean) (h0 : 0 ≤ x) (h1 : x < 100000) (hn : 0 < σ.2.1) (hN : s.heap.size + cells = b + σ.2.1) (hcells : cells + 1 ≤ R.cells) (hslots : slots + x.toNat ≤ R.slots)
    (kk : ∀ H1 : Heap, jR D b (true, σ.2.1 + 1, σ.2.2.1 + x.toNat, (fun a => if a = σ.2.1 then (if t == .int then 50 else 51, x.toNat) else σ.2.2.2.1 a), (fun a b => if a = σ.2.1 then 0 else σ.2.2.2.2.1 a b), (fun a b => if a = σ.2.1 then none else σ.2.2.2.2.2 a b)) s H1 → va_S A s.heap H1 locs → W p l e R s m args below meth c H1 locs (cells + 1) (slots + x.toNat) Q (F0 m (pc + 2) ls (.ref (b + σ.2.1) :: rest))) : W p l e R s m args below meth c H locs cells slots Q (F0 m pc ls (.int (Int32.ofInt x) :: rest)) := by
  refine w_sz (fun z1 z2 => ?_)
  have hz : H.size = b + σ.2.1 := by
    have := jR_lt hR (k := σ.2.1 - 1) (by omega)
    omega
  obtain ⟨ac, tys, hK, hT, hP, hX⟩ := hR
  have hp := oI_pos h0 h1
  rcases ht with rfl | rfl
  · refine va_newaK hx hb (atype := .int) (hts (.arrayClass .int) (jW_mem (i := 108) (by decide +kernel) rfl)) (g := F0 m pc ls (.int (Int32.ofInt x) :: rest)) rfl hd rfl hp.1 hp.2 (by show x.toNat * 4 ≤ _; omega) hcells hslots hz (fun H1 cA e1 z1 o1 hAr hNm => ?_)
    refine kk H1 (jR_new (tys' := tys ++ [(cA, .int)]) (cA := cA) (va_K_add (ty := .int) hK hAr hNm) hT (fun _ _ h => app_l _ _ h) hP hX o1 (Or.inr ⟨by show 50 ≤ 50; decide, by show 50 ≤ 54; decide, by show x.toNat < _; omega, app_r⟩) ?_) (va_S_new hS hz z1 o1)
    rw [wE_int (by show 50 ≤ 50; decide) (by show 50 < 52; decide)]
    exact e1
  · refine va_newaK hx hb (atype := .boolean) (hts (.arrayClass .boolean) (jW_mem (i := 1059) (by decide +kernel) rfl)) (g := F0 m pc ls (.int (Int32.ofInt x) :: rest)) rfl hd rfl hp.1 hp.2 (by show x.toNat * 1 ≤ _; omega) hcells hslots hz (fun H1 cA e1 z1 o1 hAr hNm => ?_)
    refine kk H1 (jR_new (tys' := tys ++ [(cA, .boolean)]) (cA := cA) (va_K_add (ty := .boolean) hK hAr hNm) hT (fun _ _ h => app_l _ _ h) hP hX o1 (Or.inr ⟨by show 50 ≤ 51; decide, by show 51 ≤ 54; decide, by show x.toNat < _; omega, app_r⟩) ?_) (va_S_new hS hz z1 o1)
    rw [wE_int (by show 50 ≤ 51; decide) (by show 51 < 52; decide)]
    exact e1
theorem tA_use {n t : Nat} (hts : ∀ w ∈ jW, w.before args s = true) (h : tA o n = some t) : 52 ≤ t ∧ t ≤ 54 ∧ (Cond.classLink (oN o) n (aC t)).before args s = true := by
  obtain ⟨⟨e0, e1, e2, e3, e4⟩, he, h1, h2⟩ := find_mem h
  have h3 := List.all_eq_true.mp tA_ok _ he
  simp only [Bool.and_eq_true, beq_iff_eq, decide_eq_true_eq] at h1 h3
  obtain ⟨rfl, rfl⟩ := h1
  cases h2
  exact ⟨h3.1.2, h3.2, hts _ (jW_mem h3.1.1.1 rfl)⟩
theorem w_anew {x : Int} {n t : Nat} (hx : p.tables.exec = Jvm.exec) (hb : c.code = cc) (hts : ∀ w ∈ jW, w.before args s = true) (hown : s.vm.findClass (oN o) = some m.cls) (hd : decode cc pc = .ok (.anewarray n, 3)) (hR : jR D b σ s H) (hS : va_S A s.heap H locs) (ht : tA o n = some t) (h0 : 0 ≤ x) (h1 : x < 100000) (hn : 0 < σ.2.1) (hN : s.heap.size + cells = b + σ.2.1) (hcells : cells + 1 ≤ R.cells) (hslots : slots + x.toNat ≤ R.slots)
    (kk : ∀ H1 : Heap, jR D b (true, σ.2.1 + 1, σ.2.2.1 + x.toNat, (fun a => if a = σ.2.1 then (t, x.toNat) else σ.2.2.2.1 a), (fun a b => if a = σ.2.1 then 0 else σ.2.2.2.2.1 a b), (fun a b => if a = σ.2.1 then none else σ.2.2.2.2.2 a b)) s H1 → va_S A s.heap H1 locs → W p l e R s m args below meth c H1 locs (cells + 1) (slots + x.toNat) Q (F0 m (pc + 3) ls (.ref (b + σ.2.1) :: rest))) : W p l e R s m args below meth c H locs cells slots Q (F0 m pc ls (.int (Int32.ofInt x) :: rest)) := by
  refine w_sz (fun z1 z2 => ?_)
  have hz : H.size = b + σ.2.1 := by
    have := jR_lt hR (k := σ.2.1 - 1) (by omega)
    omega
  obtain ⟨ac, tys, hK, hT, hP, hX⟩ := hR
  obtain ⟨h2, h3, h4⟩ := tA_use hts ht
  have hp := oI_pos h0 h1
  have h5 : va_AO (aC t) s ∧ aT t = .object (aC t) := by
    rcases (show t = 52 ∨ t = 53 ∨ t = 54 by omega) with rfl | rfl | rfl
    · exact ⟨hX.2.2.2.1 RX5 (by decide), rfl⟩
    · exact ⟨hX.2.2.2.1 RX4 (by decide), rfl⟩
    · exact ⟨hX.2.2.2.1 RX1 (by decide), rfl⟩
  refine W.anew hx hb hown h4 (va_AO.use h5.1) rfl hd rfl hp.1 (by rw [hp.2]; omega) hcells (by rw [hp.2]; exact hslots) (fun cA kA comp f1 f2 f3 f4 => ?_)
  rw [hp.2, arrV_new, hz]
  generalize hH1 : H.push (arrV cA x.toNat (fun _ => .null)) = H1
  have z3 : H1.size = b + σ.2.1 + 1 := by rw [← hH1, Array.size_push, hz]
  have o1 : ∀ q, q < b + σ.2.1 → H1[q]? = H[q]? := fun q hq => by
    rw [← hH1, Array.getElem?_push, if_neg (by omega)]
  have e1 : H1[b + σ.2.1]? = some (arrV cA x.toNat (fun _ => .null)) := by rw [← hH1, ← hz, Array.getElem?_push_size]
  refine kk H1 (jR_new (tys' := tys ++ [(cA, aT t)]) (cA := cA) (va_K_add hK ?_ ?_) hT (fun _ _ h => app_l _ _ h) hP hX o1 (Or.inr ⟨by omega, h3, by omega, app_r⟩) ?_) (va_S_new hS hz z3 o1)
  · rw [h5.2]
    exact fun N z => ⟨(fun k h => by cases h), kA, f2, comp, f3⟩
  · rw [h5.2]
    exact ⟨kA, comp, f2, f3, f4, f1⟩
  · rw [wE_ref h2]
    exact e1
end W2c
