/-! CALLS: a method's contract out of a run of the small machine -/
def jRM (d mc ms : Nat) : Room := { frames := d + 1, cells := mc, slots := ms, locals := 100 * (d + 1) }
def jP (D : va_G) (b : Nat) (a : List jV) (σ : jS) : Array Value → State → Prop := va_Pc (a.map (rv b)) (fun U => jR D b σ U U.heap ∧ (σ.1 = true → U.heap.size = b + σ.2.1))
def jQ (D : va_G) (b : Nat) (r : Option jV) (σ' : jS) (A : Nat → Prop) : Array Value → State → Outcome → State → Prop := fun _ st oc t => oc = .returned (r.map (rv b)) ∧ jR D b σ' t t.heap ∧ va_F A st t
def jws (m : Nat) : List Cond := Cond.code (mY m) (mB m) (mL m) (mR m) :: jW
def jMet (l : Launch) (D : va_G) (b : Nat) (A : Nat → Prop) (d m : Nat) (a : List jV) (σ : jS) (r : Option jV) (σ' : jS) : Prop := Met l (mY m) (jws m) (jRM d (σ'.2.1 - σ.2.1) (σ'.2.2.1 - σ.2.2.1)) (jP D b a σ) (jQ D b r σ' A) (σ'.2.1 - σ.2.1) (σ'.2.2.1 - σ.2.2.1) A
theorem jP_blind {D : va_G} {b : Nat} {a : List jV} {σ : jS} : FrameBlind (jP D b a σ) := fun a U g mk q => ⟨q.1, q.2.1.same (U := U.calling g mk a) rfl, q.2.2⟩
theorem jGood {m : Nat} (hm : m < 230) : GoodIn jW (jws m) := by
  intro w hw
  have h : w ∈ jW := by
    rcases List.mem_cons.mp hw with rfl | h
    · exact mT_code m hm
    · exact h
  exact ⟨h, good_of_word (List.mem_filter.mp h).2⟩
theorem jR.back {D : va_G} {b : Nat} {σ : jS} {s t : State} {H : Heap} (hW : s.WarmedH t.vm) (h : jR D b σ t H) (hX : jX s) : jR D b σ s H := by
  obtain ⟨ac, tys, h1, h2, h3, -⟩ := h
  exact ⟨ac, tys, va_K.moved hW.alike.symm h1, h2, h3, hX⟩
theorem jR.x {D : va_G} {b : Nat} {σ : jS} {s : State} {H : Heap} (h : jR D b σ s H) : jX s := by
  obtain ⟨ac, tys, h1, h2, h3, h⟩ := h
  exact h
theorem mT_cls {m : Nat} (hm : m < 230) : (mY m).cls = oN (mO m) ∧ mO m < 13 ∧ plainName (mY m).cls = true ∧ (mY m).cls ≠ "java/lang/invoke/MethodHandle" ∧ (mY m).cls ≠ "java/lang/invoke/VarHandle" ∧ (parseMethodDescriptor (mY m).desc).map (fun d => d.parameters.length) = some (mP m) ∧ mL m ≤ 20 := by
  have h1 := rng mT_own hm
  simp only [Bool.and_eq_true, decide_eq_true_eq] at h1
  have h2 := rng mT_plain h1.2
  have h3 := rng mT_par hm
  simp only [Bool.and_eq_true, decide_eq_true_eq] at h2 h3
  rw [← h1.1] at h2
  exact ⟨h1.1, h1.2, h2.1.1, h2.1.2, h2.2, h3.1, h3.2⟩
theorem popN_eq : ∀ {n : Nat} {S a r : List jV}, popN n S = some (a, r) → S = a.reverse ++ r ∧ a.length = n := by
  intro n
  induction n with
  | zero => intro S a r h; cases h; exact ⟨rfl, rfl⟩
  | succ n ih =>
    intro S a r h
    cases S with
    | nil => cases h
    | cons v S =>
      obtain ⟨⟨a', r'⟩, h1, h2⟩ := Option.map_eq_some_iff.mp h
      cases h2
      obtain ⟨h3, h4⟩ := ih h1
      refine ⟨?_, by simp [h4]⟩
      simp [h3]
section W5
variable {p : Program} {l : Launch} {e : Env} {R : Room} {s : State} {m : MethodId} {args : Array Value} {below : List Frame} {meth : Method} {c : Code} {H : Heap} {locs : List Loc} {cells slots : Nat} {Q : State → Prop} {cc : ByteArray} {b nL pc o : Nat} {ls : Array Slot} {D : va_G} {σ σ' : jS} {A : Nat → Prop} {S S' a : List jV} {m' d : Nat} {r : Option jV}
theorem w_size {g : JFrame} (hR : jR D b σ s H) (hN : σ.1 = true → s.heap.size + cells = b + σ.2.1 ∧ 0 < σ.2.1) (kk : (σ.1 = true → H.size = b + σ.2.1) → W p l e R s m args below meth c H locs cells slots Q g) : W p l e R s m args below meth c H locs cells slots Q g := by
  refine w_sz (fun z1 z2 => kk (fun ho => ?_))
  obtain ⟨h1, h2⟩ := hN ho
  have := jR_lt hR (k := σ.2.1 - 1) (by omega)
  omega
/-- behind a call -/
theorem w_back {Ar : Array Value} {st0 : List Value} (hR : jR D b σ s H) (hS : va_S A s.heap H locs)
    (hr : va_Run p l e R s m args below meth c H locs cells slots (σ'.2.1 - σ.2.1) (σ'.2.2.1 - σ.2.2.1) (F0 m pc ls st0) (S'.map (rv b)) (jQ D b r σ' A Ar) A)
    (kk : ∀ (H1 : Heap) (locs1 : List Loc), jR D b σ' s H1 → va_S A s.heap H1 locs1 → W p l e R s m args below meth c H1 locs1 (cells + (σ'.2.1 - σ.2.1)) (slots + (σ'.2.2.1 - σ.2.2.1)) Q (F0 m (pc + 3) ls ((r.toList ++ S').map (rv b)))) : W p l e R s m args below meth c H locs cells slots Q (F0 m pc ls st0) := by
  refine w_call hr (fun v st₀ t H1 L e1 e2 hW hq hL => ?_)
  obtain ⟨q1, q2, q3⟩ := hq
  have q1 : v = r.map (rv b) := Option.some.inj (by cases q1; rfl)
  subst q1
  rw [e2] at q2
  have h1 : (r.map (rv b)).toList ++ S'.map (rv b) = (r.toList ++ S').map (rv b) := by cases r <;> simp
  rw [h1]
  obtain ⟨z1, z2⟩ := q3
  rw [e1, e2] at z1 z2
  refine kk H1 (locs ++ L) (q2.back hW hR.x) ⟨Nat.le_trans hS.1 z1, fun q g1 g2 => ?_, fun q hq => ?_⟩
  · rw [z2 q (Nat.lt_of_lt_of_le g1 hS.1) g2]; exact hS.2.1 q g1 g2
  · rcases List.mem_append.mp hq with h | h
    · exact hS.2.2 q h
    · exact hL q h
theorem pre_of (hR : jR D b σ s H) (hz : σ.1 = true → H.size = b + σ.2.1) : ∀ U : State, U.heap = H → s.WarmedH U.vm → jP D b a σ (a.map (rv b)).toArray U := fun U hU hW => ⟨rfl, by rw [hU]; exact hR.warm hW, fun ho => by rw [hU]; exact hz ho⟩
theorem tS_use {n : Nat} (hts : ∀ w ∈ jW, w.before args s = true) (h : tS o n = some m') : m' < 230 ∧ (Cond.static (mY m')).before args s = true ∧ (Cond.initialized (mY m').cls).before args s = true ∧ ((Cond.methodLink (oN o) n (mY m')).before args s = true ∨ ((Cond.methodLink (oN o) n ⟨oN o, (mY m').name, (mY m').desc⟩).before args s = true ∧ (Cond.sameMethod (oN o) (mY m').cls (mY m').name (mY m').desc).before args s = true)) := by
  obtain ⟨⟨e0, e1, e2, e3, e4, e5, e6⟩, he, h1, h2⟩ := find_mem h
  have h3 := List.all_eq_true.mp tS_ok _ he
  simp only [Bool.and_eq_true, beq_iff_eq, decide_eq_true_eq, Bool.or_eq_true] at h1 h3
  obtain ⟨rfl, rfl⟩ := h1
  have h2 : e2 = m' := h2
  subst h2
  refine ⟨h3.1.2, hts _ (jW_mem h3.1.1.1.2 rfl), hts _ (jW_mem h3.1.1.2 rfl), ?_⟩
  have h4 := h3.1.1.1.1
  rcases h3.2 with h5 | h5
  · rw [if_pos h5] at h4
    exact Or.inl (hts _ (jW_mem h4 rfl))
  · by_cases h6 : e6 = 0
    · rw [if_pos h6] at h4
      exact Or.inl (hts _ (jW_mem h4 rfl))
    · rw [if_neg h6] at h4
      exact Or.inr ⟨hts _ (jW_mem h4 rfl), hts _ (jW_mem h5 rfl)⟩
theorem tI_use {n : Nat} (hts : ∀ w ∈ jW, w.before args s = true) (h : tI o n = some m') : m' < 230 ∧ (Cond.methodLink (oN o) n (mY m')).before args s = true ∧ (Cond.instanceMethod (mY m')).before args s = true ∧ (Cond.initialized (mY m').cls).before args s = true ∧ (mY m').name = "<init>" ∧ mR m' = none := by
  obtain ⟨⟨e0, e1, e2, e3, e4, e5⟩, he, h1, h2⟩ := find_mem h
  have h3 := List.all_eq_true.mp tI_ok _ he
  simp only [Bool.and_eq_true, beq_iff_eq, decide_eq_true_eq] at h1 h3
  obtain ⟨rfl, rfl⟩ := h1
  have h2 : e2 = m' := h2
  subst h2
  exact ⟨h3.1.1.2, hts _ (jW_mem h3.1.1.1.1.1 rfl), hts _ (jW_mem h3.1.1.1.1.2 rfl), hts _ (jW_mem h3.1.1.1.2 rfl), h3.1.2, h3.2⟩
theorem tJ_use {n : Nat} (hX : jX s) (hts : ∀ w ∈ jW, w.before args s = true) (h : tJ o n = some m') : m' < 230 ∧ va_Nw (.methodLinkNest (oN o) n (mY m') RX11) s ∧ (Cond.instanceMethod (mY m')).before args s = true ∧ (Cond.initialized (mY m').cls).before args s = true ∧ (mY m').name = "<init>" ∧ mR m' = none := by
  obtain ⟨⟨e0, e1, e2, e3, e4, e5⟩, he, h1, h2⟩ := find_mem h
  have h3 := List.all_eq_true.mp tJ_ok _ he
  have hX := hX.1 _ he
  simp only [Bool.and_eq_true, beq_iff_eq, decide_eq_true_eq] at h1 h3
  obtain ⟨rfl, rfl⟩ := h1
  have h2 : e2 = m' := h2
  subst h2
  exact ⟨h3.1.1.2, hX, hts _ (jW_mem h3.1.1.1.1.2 rfl), hts _ (jW_mem h3.1.1.1.2 rfl), h3.1.2, h3.2⟩
theorem tP_use {n : Nat} (hts : ∀ w ∈ jW, w.before args s = true) (h : tP o n = some m') : m' < 230 ∧ (Cond.methodLink (oN o) n (mY m')).before args s = true ∧ (Cond.instanceMethod (mY m')).before args s = true ∧ (Cond.initialized (mY m').cls).before args s = true ∧ (Cond.sameMethod (mY m').cls (mY m').cls (mY m').name (mY m').desc).before args s = true ∧ (Cond.superclass (oN o) (mY m').cls).before args s = true ∧ (mY m').name ≠ "<init>" := by
  obtain ⟨⟨e0, e1, e2, e3, e4, e5, e6, e7⟩, he, h1, h2⟩ := find_mem h
  have h3 := List.all_eq_true.mp tP_ok _ he
  simp only [Bool.and_eq_true, beq_iff_eq, decide_eq_true_eq, Bool.not_eq_true'] at h1 h3
  obtain ⟨rfl, rfl⟩ := h1
  have h2 : e2 = m' := h2
  subst h2
  refine ⟨h3.1.2, hts _ (jW_mem h3.1.1.1.1.1.1 rfl), hts _ (jW_mem h3.1.1.1.1.1.2 rfl), hts _ (jW_mem h3.1.1.1.1.2 rfl), hts _ (jW_mem h3.1.1.1.2 rfl), hts _ (jW_mem h3.1.1.2 rfl), fun q => ?_⟩
  have h4 := h3.2
  rw [q] at h4
  revert h4
  decide
theorem callB {n : Nat} (hts : ∀ w ∈ jW, w.before args s = true) (hm : m' < 230) (hini : (Cond.initialized (mY m').cls).before args s = true) (hl : (Cond.methodLink (oN o) n (mY m')).before args s = true) {mc ms : Nat} (hf : d + 2 ≤ R.frames) (hlo : 100 * (d + 2) ≤ R.locals) : CallB R s args (oN o) n (mY m') (mB m') (mL m') (mR m') (jws m') (jRM d mc ms) mc ms (mP m') := by
  obtain ⟨-, -, -, h1, h2, h3, h4⟩ := mT_cls hm
  exact callB_of _ hts (jGood hm) rfl rfl rfl hini hl ⟨h1, h2, h3⟩ ⟨hf, by show 8 + (mL m' + 11) + 100 * (d + 1) ≤ _; omega⟩
end W5
