section W2d
variable {p : Program} {l : Launch} {e : Env} {R : Room} {s : State} {m : MethodId} {args : Array Value} {below : List Frame} {meth : Method} {c : Code} {H : Heap} {locs : List Loc} {cells slots : Nat} {Q : State → Prop} {cc : ByteArray} {b nL pc o : Nat} {ls : Array Slot} {rest : List Value} {D : va_G} {σ : jS} {A : Nat → Prop}
theorem sz_rv (b : Nat) (S : List jV) : ((S.map (rv b)).map fun v => v.category).sum = szS S := by
  unfold szS
  rw [List.map_map]
  congr 1
  apply List.map_congr_left
  intro v _
  exact rv_cat b v
/-- a call whose contract is any: what is behind it -/
theorem w_call {Qa : State → Outcome → State → Prop} {free : Addr → Prop} {mc ms : Nat} {st0 : List Value} (hr : va_Run p l e R s m args below meth c H locs cells slots mc ms (F0 m pc ls st0) rest Qa free)
    (kk : ∀ (v : Option Value) (st₀ t : State) (H1 : Heap) (L : List Loc), st₀.heap = H → t.heap = H1 → s.WarmedH t.vm → Qa st₀ (.returned v) t → (∀ q ∈ L, free q.base) → W p l e R s m args below meth c H1 (locs ++ L) (cells + mc) (slots + ms) Q (F0 m (pc + 3) ls (v.toList ++ rest))) : W p l e R s m args below meth c H locs cells slots Q (F0 m pc ls st0) := by
  intro T hT X
  obtain ⟨v, st₀, t, T', L, h0, X', hL, e1, e2, hq, st⟩ := hr T hT X
  obtain ⟨t2, a1, b1⟩ := kk v st₀ t T'.heap L h0 e1.symm (by rw [← e2]; exact X'.warmed) hq hL T' rfl X'
  exact ⟨t2, st t2 a1, b1⟩
theorem tB_use {n : Nat} (hts : ∀ w ∈ jW, w.before args s = true) (h : tB o n = true) : (Cond.methodLink (oN o) n objectInit).before args s = true := by
  obtain ⟨⟨e0, e1, e2⟩, he, h1⟩ := List.any_eq_true.mp h
  have h3 := List.all_eq_true.mp tB_ok _ he
  simp only [Bool.and_eq_true, beq_iff_eq, decide_eq_true_eq] at h1 h3
  obtain ⟨rfl, rfl⟩ := h1
  exact hts _ (jW_mem h3 rfl)
def natY (w : Nat) : MethodName := match w with | 0 => arraycopyName | 1 => ⟨RJ6, "bitCount", "(I)I"⟩ | 2 => Lib.Math.abs.name | 3 => Lib.Math.max.name | _ => Lib.Math.min.name
theorem tM_use {n w : Nat} (hts : ∀ w ∈ jW, w.before args s = true) (h : tM o n = some w) : (Cond.methodLink (oN o) n (natY w)).before args s = true := by
  obtain ⟨⟨e0, e1, e2, e3⟩, he, h1, h2⟩ := find_mem h
  have h3 := List.all_eq_true.mp tM_ok _ he
  simp only [Bool.and_eq_true, beq_iff_eq, decide_eq_true_eq] at h1 h3
  obtain ⟨rfl, rfl⟩ := h1
  have h2 : e2 = w := h2
  subst h2
  have h4 : lw_tbl[e3]? = some (.methodLink (oN e0) e1 (natY e2)) := h3
  exact hts _ (jW_mem h4 rfl)
theorem w_obj {n : Nat} {a : Addr} (hx : p.tables.exec = Jvm.exec) (hb : c.code = cc) (hml : c.maxLocals = ls.size) (hts : ∀ w ∈ jW, w.before args s = true) (hown : s.vm.findClass (oN o) = some m.cls) (hd : decode cc pc = .ok (.invokespecial n, 3)) (ht : tB o n = true) (hf : 1 ≤ R.frames) (hlo : (rest.map fun v => v.category).sum + 12 ≤ R.locals)
    (kk : W p l e R s m args below meth c H locs cells slots Q (F0 m (pc + 3) ls rest)) : W p l e R s m args below meth c H locs cells slots Q (F0 m pc ls (.ref a :: rest)) := by
  refine W.objInit hx hb hown (tB_use hts ht) (hts (.instanceMethod objectInit) (jW_mem (i := 83) (by decide +kernel) rfl)) (hts (.code objectInit ⟨#[0xb1]⟩ 1 none) (jW_mem (i := 84) (by decide +kernel) rfl)) rfl hml.symm rfl hd hf ?_ kk
  show 2 * 0 + _ + 12 ≤ _
  omega
theorem w_max {n : Nat} {x y : Int} (hx : p.tables.exec = Jvm.exec) (hb : c.code = cc) (hml : c.maxLocals = ls.size) (hts : ∀ w ∈ jW, w.before args s = true) (hown : s.vm.findClass (oN o) = some m.cls) (hd : decode cc pc = .ok (.invokestatic n, 3)) (ht : tM o n = some 3) (hf : 1 ≤ R.frames) (hlo : (rest.map fun v => v.category).sum + 13 ≤ R.locals) (hc : cells ≤ R.cells) (hs : slots ≤ R.slots) (h1 : inB x = true) (h2 : inB y = true)
    (kk : W p l e R s m args below meth c H locs cells slots Q (F0 m (pc + 3) ls (.int (Int32.ofInt (if x < y then y else x)) :: rest))) : W p l e R s m args below meth c H locs cells slots Q (F0 m pc ls (.int (Int32.ofInt y) :: .int (Int32.ofInt x) :: rest)) := by
  refine va_mmax hx hb hml hown (tM_use hts ht) (hts (.static Lib.Math.max.name) (jW_mem (i := 93) (by decide +kernel) rfl)) (hts (.initialized "java/lang/Math") (jW_mem (i := 63) (by decide +kernel) rfl)) (hts (.code Lib.Math.max.name Lib.Math.max.code 2 (some .int)) (jW_mem (i := 94) (by decide +kernel) rfl)) hf hlo hc hs hd ?_
  by_cases h : x < y
  · rw [if_pos ((oI_lt h1 h2).mpr h)]; rw [if_pos h] at kk; exact kk
  · rw [if_neg (fun q => h ((oI_lt h1 h2).mp q))]; rw [if_neg h] at kk; exact kk
theorem w_min {n : Nat} {x y : Int} (hx : p.tables.exec = Jvm.exec) (hb : c.code = cc) (hml : c.maxLocals = ls.size) (hts : ∀ w ∈ jW, w.before args s = true) (hown : s.vm.findClass (oN o) = some m.cls) (hd : decode cc pc = .ok (.invokestatic n, 3)) (ht : tM o n = some 4) (hf : 1 ≤ R.frames) (hlo : (rest.map fun v => v.category).sum + 13 ≤ R.locals) (hc : cells ≤ R.cells) (hs : slots ≤ R.slots) (h1 : inB x = true) (h2 : inB y = true)
    (kk : W p l e R s m args below meth c H locs cells slots Q (F0 m (pc + 3) ls (.int (Int32.ofInt (if x < y then x else y)) :: rest))) : W p l e R s m args below meth c H locs cells slots Q (F0 m pc ls (.int (Int32.ofInt y) :: .int (Int32.ofInt x) :: rest)) := by
  refine va_mmin hx hb hml hown (tM_use hts ht) (hts (.static Lib.Math.min.name) (jW_mem (i := 612) (by decide +kernel) rfl)) (hts (.initialized "java/lang/Math") (jW_mem (i := 63) (by decide +kernel) rfl)) (hts (.code Lib.Math.min.name Lib.Math.min.code 2 (some .int)) (jW_mem (i := 613) (by decide +kernel) rfl)) hf hlo hc hs hd ?_
  by_cases h : y < x
  · rw [if_pos ((oI_lt h2 h1).mpr h)]; rw [if_neg (by omega)] at kk; exact kk
  · rw [if_neg (fun q => h ((oI_lt h2 h1).mp q))]
    by_cases h3 : x < y
    · rw [if_pos h3] at kk; exact kk
    · rw [if_neg h3, show y = x by omega] at kk; exact kk
theorem w_abs {n : Nat} {x : Int} (hx : p.tables.exec = Jvm.exec) (hb : c.code = cc) (hml : c.maxLocals = ls.size) (hts : ∀ w ∈ jW, w.before args s = true) (hown : s.vm.findClass (oN o) = some m.cls) (hd : decode cc pc = .ok (.invokestatic n, 3)) (ht : tM o n = some 2) (hf : 1 ≤ R.frames) (hlo : (rest.map fun v => v.category).sum + 13 ≤ R.locals) (hc : cells ≤ R.cells) (hs : slots ≤ R.slots) (h1 : inB x = true)
    (kk : W p l e R s m args below meth c H locs cells slots Q (F0 m (pc + 3) ls (.int (Int32.ofInt (if 0 ≤ x then x else -x)) :: rest))) : W p l e R s m args below meth c H locs cells slots Q (F0 m pc ls (.int (Int32.ofInt x) :: rest)) := by
  refine va_mabs hx hb hml hown (tM_use hts ht) (hts (.static Lib.Math.abs.name) (jW_mem (i := 664) (by decide +kernel) rfl)) (hts (.initialized "java/lang/Math") (jW_mem (i := 63) (by decide +kernel) rfl)) (hts (.code Lib.Math.abs.name Lib.Math.abs.code 1 (some .int)) (jW_mem (i := 665) (by decide +kernel) rfl)) hf hlo hc hs hd ?_
  have h0 : (0 : Int32) ≤ Int32.ofInt x ↔ 0 ≤ x := oI_le (x := 0) (by decide) h1
  by_cases h : 0 ≤ x
  · rw [if_pos (h0.mpr h)]; rw [if_pos h] at kk; exact kk
  · rw [if_neg (fun q => h (h0.mp q))]; rw [if_neg h] at kk
    have e1 : (0 : Int32) - Int32.ofInt x = Int32.ofInt (-x) := by
      rw [show (0 : Int32) = Int32.ofInt 0 from rfl, ← Int32.ofInt_sub]
      congr 1
      omega
    rw [e1]; exact kk
theorem cpyI {I : Nat → Int → Int} {k0 k1 : Nat} {sp dp n : Int} (h0 : 0 ≤ sp) (h1 : 0 ≤ dp) (h2 : 0 ≤ n) : va_cpy (fun (j : Nat) => Int32.ofInt (I k0 j)) (fun (j : Nat) => Int32.ofInt (I k1 j)) sp.toNat dp.toNat n.toNat = fun (j : Nat) => Int32.ofInt (cpI I k0 k1 sp dp n k1 j) := by
  funext j
  unfold va_cpy cpI
  by_cases h : dp.toNat ≤ j ∧ j < dp.toNat + n.toNat
  · rw [if_pos h, if_pos ⟨rfl, by omega, by omega⟩]
    have : ((sp.toNat + (j - dp.toNat) : Nat) : Int) = sp + ((j : Int) - dp) := by omega
    rw [← this]
  · rw [if_neg h, if_neg (fun q => h (by omega))]
theorem w_copy {n k0 k1 : Nat} {x sp dp : Int} (hx : p.tables.exec = Jvm.exec) (hb : c.code = cc) (hml : c.maxLocals = ls.size) (hts : ∀ w ∈ jW, w.before args s = true) (hown : s.vm.findClass (oN o) = some m.cls) (hd : decode cc pc = .ok (.invokestatic n, 3)) (ht : tM o n = some 0) (hf : 1 ≤ R.frames) (hlo : (rest.map fun v => v.category).sum + 18 ≤ R.locals) (hR : jR D b σ s H) (hS : va_S A s.heap H locs) (hA : ∀ k, k < σ.2.1 → A (b + k))
    (g0 : k0 < σ.2.1) (g1 : k1 < σ.2.1) (t0 : (σ.2.2.2.1 k0).1 = 50) (t1 : (σ.2.2.2.1 k1).1 = 50) (h0 : 0 ≤ sp) (h1 : 0 ≤ dp) (h2 : 0 ≤ x) (h3 : sp + x ≤ (σ.2.2.2.1 k0).2) (h4 : dp + x ≤ (σ.2.2.2.1 k1).2)
    (kk : ∀ (H1 : Heap) (locs1 : List Loc), jR D b (σ.1, σ.2.1, σ.2.2.1, σ.2.2.2.1, cpI σ.2.2.2.2.1 k0 k1 sp dp x, σ.2.2.2.2.2) s H1 → va_S A s.heap H1 locs1 → W p l e R s m args below meth c H1 locs1 cells slots Q (F0 m (pc + 3) ls rest)) : W p l e R s m args below meth c H locs cells slots Q (F0 m pc ls (.int (Int32.ofInt x) :: .int (Int32.ofInt dp) :: .ref (b + k1) :: .int (Int32.ofInt sp) :: .ref (b + k0) :: rest)) := by
  obtain ⟨ac, tys, hK, hT, hP, hX⟩ := hR
  obtain ⟨-, l0, u0, e0⟩ := arr_ty hT g0 (by omega)
  obtain ⟨-, l1, u1, e1⟩ := arr_ty hT g1 (by omega)
  rw [t0] at e0
  rw [t1] at e1
  have n1 : ∀ z : Int, 0 ≤ z → z < 100001 → ¬ Int32.ofInt z < 0 ∧ (Int32.ofInt z).toNatClampNeg = z.toNat := fun z hz hz2 => by
    rw [oI_nat hz]
    exact ⟨nI_pos (by omega), nI_clamp (by omega)⟩
  have a0 := n1 sp h0 (by omega)
  have a1 := n1 dp h1 (by omega)
  have a2 := n1 x h2 (by omega)
  refine va_copyi hx hb hml hown (tM_use hts ht) (hts (.native arraycopyName) (jW_mem (i := 405) (by decide +kernel) rfl)) (hts (.static arraycopyName) (jW_mem (i := 404) (by decide +kernel) rfl)) (hts (.initialized "java/lang/System") (jW_mem (i := 75) (by decide +kernel) rfl)) hK hP (wld_D hA) hS k0 k1 u0 u1 (by rw [wld_at g0, wE_int (by omega) (by omega)]) (by rw [wld_at g1, wE_int (by omega) (by omega)]) e0 e1 rfl a0.1 a1.1 a2.1 (by rw [a0.2, a2.2]; omega) (by rw [a1.2, a2.2]; omega) (fun _ _ => rfl) hf (by rw [show nativeFrameWords "java/lang/System" "arraycopy" 5 = 7 from by decide]; exact hlo) hd (fun H1 locs1 hP1 _ hS1 => kk H1 locs1 ?_ hS1)
  refine jR_set hK hT hX g1 ?_ (fun j hj => ?_) hP1
  · rw [wE_int (by omega) (by omega), a0.2, a1.2, a2.2, cpyI h0 h1 h2]
  · unfold wE
    have : cpI σ.2.2.2.2.1 k0 k1 sp dp x j = σ.2.2.2.2.1 j := by
      funext y
      unfold cpI
      rw [if_neg (fun q => hj q.1)]
    rw [this]
end W2d
