/-! the cells of a store, as the kit's worlds have them -/
theorem cl_in : (List.range 12).all (fun c => (u_ws (cN c) (cT c) (cF c)).all (fun w => decide (w ∈ lw_tbl) && goodWord w)) = true := by decide +kernel
theorem cl_q : (List.range 12).all (fun c => decide (jcl[c]?.isSome = true)) = true := by decide +kernel
theorem cl_ty : (List.range 12).all (fun c => (List.range (cF c)).all (fun k => match parseFieldDescriptor (cT c k).2.2.1 with
  | some (.object _) => fR c k
  | some (.array _) => fR c k
  | some .int => !fR c k
  | _ => false)) = true := by decide +kernel
theorem cl_own : (List.range 12).all (fun c => decide (cN c = oN (cO c)) && (List.range (cF c)).all (fun k => decide ((cT c k).1 = oN (cO c)))) = true := by decide +kernel
theorem cl_nm : (List.range 12).all (fun c => (List.range (cF c)).all (fun a => (List.range (cF c)).all (fun b => (a == b) || decide ((cT c a).2.1 ≠ (cT c b).2.1)))) = true := by decide +kernel
theorem rng {n : Nat} {f : Nat → Bool} (h : (List.range n).all f = true) {k : Nat} (hk : k < n) : f k = true := List.all_eq_true.mp h k (List.mem_range.mpr hk)
theorem cl_at {c : Nat} (hc : c < 12) : jcl[c]? = some (cN c, cT c, cF c) := by
  have h := rng cl_q hc
  simp only [decide_eq_true_eq] at h
  obtain ⟨q, hq⟩ := Option.isSome_iff_exists.mp h
  rw [hq]
  unfold cN cT cF cQ
  rw [List.getD_eq_getElem?_getD, hq]
  rfl
theorem cl_use {c : Nat} (hc : c < 12) : ∀ w ∈ u_ws (cN c) (cT c) (cF c), w ∈ jW := by
  intro w hw
  have h := List.all_eq_true.mp (rng cl_in hc) w hw
  simp only [Bool.and_eq_true, decide_eq_true_eq] at h
  exact List.mem_filter.mpr h
/-- the type of a field -/
def cY (c k : Nat) : FieldType := (parseFieldDescriptor (cT c k).2.2.1).getD .int
theorem cl_typ {c k : Nat} (hc : c < 12) (hk : k < cF c) : parseFieldDescriptor (cT c k).2.2.1 = some (cY c k) ∧ ((fR c k = true ∧ ((∃ n, cY c k = .object n) ∨ ∃ t, cY c k = .array t)) ∨ (fR c k = false ∧ cY c k = .int)) := by
  have h := rng (rng cl_ty hc) hk
  unfold cY
  revert h
  cases parseFieldDescriptor (cT c k).2.2.1 with
  | none => intro h; cases h
  | some t => cases t <;> intro h <;> simp_all
theorem cl_name {c : Nat} (hc : c < 12) : ∀ a, a < cF c → ∀ b, b < cF c → a ≠ b → (cT c a).2.1 ≠ (cT c b).2.1 := by
  intro a ha b hb hab
  have h := rng (rng (rng cl_nm hc) ha) hb
  simp only [Bool.or_eq_true, beq_iff_eq, decide_eq_true_eq] at h
  exact h.resolve_left hab
def fld (b c : Nat) (I : Int → Int) (R : Int → Option Nat) : List Value := (List.range (cF c)).map (fun (j : Nat) => if fR c j then va_rf ((R j).map (b + ·)) else .int (Int32.ofInt (I j)))
def wE (b : Nat) (ac : Nat → ClassId) (sh : Nat → Nat × Nat) (I : Nat → Int → Int) (R : Nat → Int → Option Nat) (k : Nat) : va_E :=
  if (sh k).1 < 50 then .inr ((sh k).1, fld b (sh k).1 (I k) (R k))
  else if (sh k).1 < 52 then .inl (ac k, (sh k).2, .inl (fun j => Int32.ofInt (I k j)))
  else .inl (ac k, (sh k).2, .inr (.inr (.inr (.inr (fun j => (R k j).map (b + ·))))))
def wld (b : Nat) (ac : Nat → ClassId) (n : Nat) (sh : Nat → Nat × Nat) (I : Nat → Int → Int) (R : Nat → Int → Option Nat) : va_W := (List.range n).map (fun k => (b + k, wE b ac sh I R k))
section WL
variable {b n k : Nat} {ac : Nat → ClassId} {sh sh' : Nat → Nat × Nat} {I I' : Nat → Int → Int} {R R' : Nat → Int → Option Nat}
theorem wld_at (hk : k < n) : (wld b ac n sh I R)[k]? = some (b + k, wE b ac sh I R k) := by
  unfold wld
  rw [List.getElem?_map, List.getElem?_range hk]
  rfl
theorem wld_len : (wld b ac n sh I R).length = n := by simp [wld]
theorem wld_in {q : Nat × va_E} (h : (wld b ac n sh I R)[k]? = some q) : k < n ∧ q = (b + k, wE b ac sh I R k) := by
  have hk : k < n := by
    have := (List.getElem?_eq_some_iff.mp h).1
    rwa [wld_len] at this
  rw [wld_at hk] at h
  exact ⟨hk, (Option.some.inj h).symm⟩
theorem wld_D {A : Nat → Prop} (hA : ∀ k, k < n → A (b + k)) : va_D A (wld b ac n sh I R) := by
  refine ⟨fun i j p q hp hq e => ?_, fun k q hk => ?_⟩
  · obtain ⟨-, rfl⟩ := wld_in hp
    obtain ⟨-, rfl⟩ := wld_in hq
    have e : b + i = b + j := e
    omega
  · obtain ⟨h1, rfl⟩ := wld_in hk
    exact hA k h1
theorem wld_set {e : va_E} (hk : k < n) (h1 : wE b ac sh I' R' k = e) (h2 : ∀ j, j ≠ k → wE b ac sh I' R' j = wE b ac sh I R j) : (wld b ac n sh I R).set k (b + k, e) = wld b ac n sh I' R' := by
  apply List.ext_getElem?
  intro i
  rw [List.getElem?_set, wld_len]
  by_cases hi : k = i
  · subst hi
    rw [if_pos rfl, if_pos hk, wld_at hk, h1]
  · rw [if_neg hi]
    by_cases hn : i < n
    · rw [wld_at hn, wld_at hn, h2 i (fun e => hi e.symm)]
    · rw [List.getElem?_eq_none (by rw [wld_len]; omega), List.getElem?_eq_none (by rw [wld_len]; omega)]
theorem wE_obj {c : Nat} (h : sh k = (c, 0)) (hc : c < 12) : wE b ac sh I R k = .inr (c, fld b c (I k) (R k)) := by
  unfold wE
  rw [h]
  dsimp only
  rw [if_pos (by omega)]
theorem wE_int (h0 : 50 ≤ (sh k).1) (h : (sh k).1 < 52) : wE b ac sh I R k = .inl (ac k, (sh k).2, .inl (fun j => Int32.ofInt (I k j))) := by
  unfold wE
  rw [if_neg (by omega), if_pos h]
theorem wE_ref (h : 52 ≤ (sh k).1) : wE b ac sh I R k = .inl (ac k, (sh k).2, .inr (.inr (.inr (.inr (fun j => (R k j).map (b + ·)))))) := by
  unfold wE
  rw [if_neg (by omega), if_neg (by omega)]
theorem up_ne {α : Type} {f : Nat → Int → α} {j : Nat} {x : Int} {v : α} (h : j ≠ k) : up f k x v j = f j := by
  funext y
  unfold up
  rw [if_neg (fun e => h e.1)]
theorem fld_at {c j : Nat} {I : Int → Int} {R : Int → Option Nat} (hj : j < cF c) : (fld b c I R)[j]? = some (if fR c j then va_rf ((R j).map (b + ·)) else .int (Int32.ofInt (I j))) := by
  unfold fld
  rw [List.getElem?_map, List.getElem?_range hj]
  rfl
theorem fld_len {c : Nat} {I : Int → Int} {R : Int → Option Nat} : (fld b c I R).length = cF c := by simp [fld]
theorem fld_set {c j : Nat} {I I' : Int → Int} {R R' : Int → Option Nat} {v : Value} (hj : j < cF c) (h1 : (if fR c j then va_rf ((R' j).map (b + ·)) else .int (Int32.ofInt (I' j))) = v) (h2 : ∀ i : Nat, i ≠ j → I' i = I i ∧ R' i = R i) : (fld b c I R).set j v = fld b c I' R' := by
  apply List.ext_getElem?
  intro i
  rw [List.getElem?_set, fld_len]
  by_cases hi : j = i
  · subst hi
    rw [if_pos rfl, if_pos hj, fld_at hj, h1]
  · rw [if_neg hi]
    by_cases hn : i < cF c
    · rw [fld_at hn, fld_at hn, (h2 i (fun e => hi e.symm)).1, (h2 i (fun e => hi e.symm)).2]
    · rw [List.getElem?_eq_none (by rw [fld_len]; omega), List.getElem?_eq_none (by rw [fld_len]; omega)]
end WL
/-- the words that aren't among jW: what the state says of them -/
def noC : List (String × String) := [(RX6, RX8), (RX6, RX0), (RX6, RX10), (RX6, RX2), (RX8, RX0), (RX8, RX10), (RX8, RX2), (RX0, RX8), (RX0, RX10), (RX0, RX2), (RX10, RX6), (RX10, RX8), (RX10, RX0), (RX10, RX2), (RX2, RX6), (RX2, RX8), (RX2, RX0)]
def yesC : List (String × String) := [(RX0, RX6), (RX8, RX6), (RX2, RX10), (RX6, RX4), (RX8, RX4), (RX0, RX4), (RX10, RX4), (RX2, RX4)]
def absM : List MethodName := [⟨RX4, "number", "()I"⟩, ⟨RX4, "bearingOn", "(LChairPast$Chair;I)I"⟩, ⟨RX4, "wear", "(LChairPast$Chair;)V"⟩]
def jX (U : State) : Prop := (∀ e ∈ tJl, va_Nw (.methodLinkNest (oN e.1) e.2.1 (mY e.2.2.1) RX11) U) ∧ (∀ y ∈ absM, va_Nw (.declares y) U) ∧ (∀ q ∈ yesC, va_Nw (.castable q.1 q.2) U) ∧ (∀ C ∈ [RX5, RX4, RX1], va_AO C U) ∧ ∀ q ∈ noC, va_Nc q.1 q.2 U
theorem jX.warm {s U : State} (hW : s.WarmedH U.vm) (h : jX s) : jX U := ⟨fun e he => va_Nw.warmM hW (h.1 e he), fun y hy => va_Nw.warmD hW (h.2.1 y hy), fun q hq => va_Nw.warmC hW (h.2.2.1 q hq), fun C hC => va_AO.moved hW.alike (h.2.2.2.1 C hC), fun q hq => va_Nc.moved hW.alike (h.2.2.2.2 q hq)⟩
theorem jX.same {s U : State} (hv : s.vm = U.vm) (h : jX s) : jX U := by
  refine ⟨fun e he => va_Nw.same rfl hv (h.1 e he), fun y hy => va_Nw.same rfl hv (h.2.1 y hy), fun q hq => va_Nw.same rfl hv (h.2.2.1 q hq), fun C hC => va_AO.moved ?_ (h.2.2.2.1 C hC), fun q hq => va_Nc.moved ?_ (h.2.2.2.2 q hq)⟩ <;> (rw [hv]; exact Vm.Alike.refl _)
/-- the store stands in the heap, its cell 0 at b -/
def jR (D : va_G) (b : Nat) (σ : jS) (U : State) (H : Heap) : Prop :=
  ∃ (ac : Nat → ClassId) (tys : List (ClassId × FieldType)), va_K D jcl tys U ∧
    (∀ k, k < σ.2.1 → ((σ.2.2.2.1 k).1 < 12 ∧ (σ.2.2.2.1 k).2 = 0) ∨ (50 ≤ (σ.2.2.2.1 k).1 ∧ (σ.2.2.2.1 k).1 ≤ 54 ∧ (σ.2.2.2.1 k).2 < 100001 ∧ ∃ t0 : Nat, tys[t0]? = some (ac k, aT (σ.2.2.2.1 k).1))) ∧
    va_P D jcl (wld b ac σ.2.1 σ.2.2.2.1 σ.2.2.2.2.1 σ.2.2.2.2.2) H ∧ jX U
theorem jR.warm {D : va_G} {b : Nat} {σ : jS} {s U : State} {H : Heap} (hW : s.WarmedH U.vm) (h : jR D b σ s H) : jR D b σ U H := by
  obtain ⟨ac, tys, h1, h2, h3, h5⟩ := h
  exact ⟨ac, tys, va_K.moved hW.alike h1, h2, h3, h5.warm hW⟩
theorem jR.same {D : va_G} {b : Nat} {σ : jS} {s U : State} {H : Heap} (hv : s.vm = U.vm) (h : jR D b σ s H) : jR D b σ U H := by
  obtain ⟨ac, tys, h1, h2, h3, h5⟩ := h
  exact ⟨ac, tys, va_K.moved (by rw [hv]; exact Vm.Alike.refl _) h1, h2, h3, h5.same hv⟩
