/-! THE REAL MACHINE BESIDE THE SMALL ONE: values, locals, cells (b: the address of cell 0) -/
def rv (b : Nat) (v : jV) : Value := match v with
  | .inl z => .int (Int32.ofInt z)
  | .inr (.inl z) => .long (Int64.ofInt z)
  | .inr (.inr (some k)) => .ref (b + k)
  | .inr (.inr none) => .null
theorem rv_cat (b : Nat) (v : jV) : (rv b v).category = if isL v then 2 else 1 := by
  rcases v with z | z | (_ | k) <;> rfl
def jLs (b nL : Nat) (ls : Array Slot) (L : jL) : Prop := L.length = nL ∧ ls.size = nL ∧ lv_wf ls ∧ ∀ (i : Nat) (v : jV), lget L i = some v → ls[i]? = some (.val (rv b v))
def lsl (b : Nat) (L : jL) : List (Nat × Value) := (List.range L.length).filterMap (fun i => (lget L i).map (fun v => (i, rv b v)))
theorem lget_lt {L : jL} {i : Nat} {v : jV} (h : lget L i = some v) : i < L.length := by
  unfold lget at h
  rcases Nat.lt_or_ge i L.length with q | q
  · exact q
  · rw [List.getElem?_eq_none q] at h
    cases h
theorem mem_lsl {b : Nat} {L : jL} {i : Nat} {v : jV} (h : lget L i = some v) : (i, rv b v) ∈ lsl b L := by
  refine List.mem_filterMap.mpr ⟨i, List.mem_range.mpr (lget_lt h), ?_⟩
  rw [h]
  rfl
theorem lsl_mem {b : Nat} {L : jL} {q : Nat × Value} (h : q ∈ lsl b L) : ∃ v, lget L q.1 = some v ∧ q.2 = rv b v := by
  obtain ⟨i, -, hi⟩ := List.mem_filterMap.mp h
  obtain ⟨v, hv, e⟩ := Option.map_eq_some_iff.mp hi
  subst e
  exact ⟨v, hv, rfl⟩
theorem jLs.has {b nL : Nat} {ls : Array Slot} {L : jL} (h : jLs b nL ls L) : lv_has ls nL (lsl b L) := by
  refine ⟨h.2.1, h.2.2.1, fun q hq => ?_⟩
  obtain ⟨v, h1, h2⟩ := lsl_mem hq
  rw [h2]
  exact h.2.2.2 _ _ h1
theorem lget_set {L : jL} {i j : Nat} {v : jV} {x : Option jV} (h : lget (L.set i x) j = some v) : (j = i ∧ x = some v) ∨ (j ≠ i ∧ lget L j = some v) := by
  unfold lget at h ⊢
  rw [List.getElem?_set] at h
  by_cases hj : i = j
  · subst hj
    rw [if_pos rfl] at h
    split at h
    · left
      exact ⟨rfl, h⟩
    · cases h
  · rw [if_neg hj] at h
    right
    exact ⟨fun e => hj e.symm, h⟩
theorem noL_use {L : jL} {i j : Nat} {v : jV} (hn : noL L i = true) (hj : j + 1 = i) (hv : lget L j = some v) : isL v = false := by
  subst hj
  simp only [noL, hv] at hn
  simpa using hn
theorem jLs.put {b nL i : Nat} {ls' : Array Slot} {L L' : jL} {v : jV} (hn : L.length = nL) (h : lput L i v = some L') (h2 : lv_has ls' nL ((i, rv b v) :: (lsl b L).filter (fun q => !(q.1 == i) && !(q.1 + 1 == i && q.2.category == 2)))) : jLs b nL ls' L' := by
  unfold lput at h
  split at h <;> cases h
  rename_i hc
  simp only [Bool.and_eq_true, decide_eq_true_eq] at hc
  refine ⟨by rw [List.length_set]; exact hn, h2.1, h2.2.1, fun j w hw => ?_⟩
  rcases lget_set hw with ⟨rfl, e⟩ | ⟨hj, hw⟩
  · cases e
    exact h2.2.2 (j, rv b v) List.mem_cons_self
  · refine h2.2.2 (j, rv b w) (List.mem_cons_of_mem _ (List.mem_filter.mpr ⟨mem_lsl hw, ?_⟩))
    have h3 : (j == i) = false := by simpa using hj
    by_cases h4 : j + 1 = i
    · simp [h3, h4, rv_cat, noL_use hc.2 h4 hw]
    · simp [h3, h4]
theorem jLs.put2 {b nL i : Nat} {ls' : Array Slot} {L L' : jL} {v : jV} (hn : L.length = nL) (h : lput2 L i v = some L') (h2 : lv_has ls' nL ((i, rv b v) :: (lsl b L).filter (fun q => !(q.1 == i) && (!(q.1 == i + 1) && !(q.1 + 1 == i && q.2.category == 2))))) : jLs b nL ls' L' := by
  unfold lput2 at h
  split at h <;> cases h
  rename_i hc
  simp only [Bool.and_eq_true, decide_eq_true_eq] at hc
  refine ⟨by rw [List.length_set, List.length_set]; exact hn, h2.1, h2.2.1, fun j w hw => ?_⟩
  rcases lget_set hw with ⟨-, e⟩ | ⟨hj1, hw⟩
  · cases e
  rcases lget_set hw with ⟨rfl, e⟩ | ⟨hj, hw⟩
  · cases e
    exact h2.2.2 (j, rv b v) List.mem_cons_self
  · refine h2.2.2 (j, rv b w) (List.mem_cons_of_mem _ (List.mem_filter.mpr ⟨mem_lsl hw, ?_⟩))
    have h3 : (j == i) = false := by simpa using hj
    have h5 : (j == i + 1) = false := by simpa using hj1
    by_cases h4 : j + 1 = i
    · simp [h3, h5, h4, rv_cat, noL_use hc.2 h4 hw]
    · simp [h3, h5, h4]
theorem lput_lt {L L' : jL} {i : Nat} {v : jV} (h : lput L i v = some L') : i < L.length := by
  unfold lput at h
  split at h <;> cases h
  rename_i hc
  simp only [Bool.and_eq_true, decide_eq_true_eq] at hc
  exact hc.1
theorem lput2_lt {L L' : jL} {i : Nat} {v : jV} (h : lput2 L i v = some L') : i + 1 < L.length := by
  unfold lput2 at h
  split at h <;> cases h
  rename_i hc
  simp only [Bool.and_eq_true, decide_eq_true_eq] at hc
  exact hc.1
