section W2
variable {p : Program} {l : Launch} {e : Env} {R : Room} {s : State} {m : MethodId} {args : Array Value} {below : List Frame} {meth : Method} {c : Code} {H : Heap} {locs : List Loc} {cells slots : Nat} {Q : State → Prop} {cc : ByteArray} {b nL pc o : Nat} {ls : Array Slot} {rest : List Value} {D : va_G} {σ : jS} {A : Nat → Prop}
theorem tF_use {n ci j rf fin : Nat} (hts : ∀ w ∈ jW, w.before args s = true) (h : tF o n = some (ci, j, rf, fin)) : ci < 12 ∧ j < cF ci ∧ fR ci j = (rf == 1) ∧ (cT ci j).2.2.2 = (fin == 1) ∧ (Cond.fieldLink (oN o) n (cT ci j).1 (cT ci j).2.1 (cT ci j).2.2.1).before args s = true := by
  obtain ⟨⟨e0, e1, e2, e3, e4, e5, e6⟩, he, h1, h2⟩ := find_mem h
  have h3 := List.all_eq_true.mp tF_ok _ he
  simp only [Bool.and_eq_true, beq_iff_eq, decide_eq_true_eq] at h1 h3
  obtain ⟨rfl, rfl⟩ := h1
  cases h2
  exact ⟨h3.1.1.2, h3.1.1.1.2, h3.1.2, h3.2, hts _ (jW_mem h3.1.1.1.1 rfl)⟩
theorem rv_rf (b : Nat) (r : Option Nat) : rv b (.inr (.inr r)) = va_rf (r.map (b + ·)) := by cases r <;> rfl
theorem w_get {n k ci j rf fin : Nat} (hx : p.tables.exec = Jvm.exec) (hb : c.code = cc) (hts : ∀ w ∈ jW, w.before args s = true) (hown : s.vm.findClass (oN o) = some m.cls) (hd : decode cc pc = .ok (.getfield n, 3)) (hR : jR D b σ s H)
    (ht : tF o n = some (ci, j, rf, fin)) (hk : k < σ.2.1) (hs : σ.2.2.2.1 k = (ci, 0)) (kk : W p l e R s m args below meth c H locs cells slots Q (F0 m (pc + 3) ls (rv b (if rf == 1 then .inr (.inr (σ.2.2.2.2.2 k j)) else .inl (σ.2.2.2.2.1 k j)) :: rest))) : W p l e R s m args below meth c H locs cells slots Q (F0 m pc ls (.ref (b + k) :: rest)) := by
  obtain ⟨ac, tys, hK, -, hP, -⟩ := hR
  obtain ⟨h1, h2, h3, -, h4⟩ := tF_use hts ht
  refine va_get hx hb hts (cl_use h1) hown hK hP k (by rw [wld_at hk, wE_obj hs h1]) (cl_at h1) j h2 h4 (fun _ h => h) (by rw [fld_at h2, h3]) hd ?_
  cases hrf : (rf == 1)
  · rw [hrf] at kk; exact kk
  · rw [hrf] at kk; rw [if_pos rfl] at kk ⊢; rw [rv_rf] at kk; exact kk
theorem jR_set {k : Nat} {e : va_E} {ac : Nat → ClassId} {tys : List (ClassId × FieldType)} {I' : Nat → Int → Int} {R' : Nat → Int → Option Nat} {H1 : Heap} (hK : va_K D jcl tys s)
    (hT : ∀ k, k < σ.2.1 → ((σ.2.2.2.1 k).1 < 12 ∧ (σ.2.2.2.1 k).2 = 0) ∨ (50 ≤ (σ.2.2.2.1 k).1 ∧ (σ.2.2.2.1 k).1 ≤ 54 ∧ (σ.2.2.2.1 k).2 < 100001 ∧ ∃ t0 : Nat, tys[t0]? = some (ac k, aT (σ.2.2.2.1 k).1)))
    (hX : jX s) (hk : k < σ.2.1) (h1 : wE b ac σ.2.2.2.1 I' R' k = e) (h2 : ∀ j, j ≠ k → wE b ac σ.2.2.2.1 I' R' j = wE b ac σ.2.2.2.1 σ.2.2.2.2.1 σ.2.2.2.2.2 j)
    (hP : va_P D jcl ((wld b ac σ.2.1 σ.2.2.2.1 σ.2.2.2.2.1 σ.2.2.2.2.2).set k (b + k, e)) H1) : jR D b (σ.1, σ.2.1, σ.2.2.1, σ.2.2.2.1, I', R') s H1 := by
  rw [wld_set hk h1 h2] at hP
  exact ⟨ac, tys, hK, hT, hP, hX⟩
theorem wE_I {k j : Nat} {ac : Nat → ClassId} {sh : Nat → Nat × Nat} {I : Nat → Int → Int} {Rf : Nat → Int → Option Nat} {x z : Int} (h : j ≠ k) : wE b ac sh (up I k x z) Rf j = wE b ac sh I Rf j := by unfold wE; rw [up_ne h]
theorem wE_R {k j : Nat} {ac : Nat → ClassId} {sh : Nat → Nat × Nat} {I : Nat → Int → Int} {Rf : Nat → Int → Option Nat} {x : Int} {z : Option Nat} (h : j ≠ k) : wE b ac sh I (up Rf k x z) j = wE b ac sh I Rf j := by unfold wE; rw [up_ne h]
theorem up_at {α : Type} {f : Nat → Int → α} {k : Nat} {x : Int} {v : α} : up f k x v k x = v := by simp [up]
theorem up_off {α : Type} {f : Nat → Int → α} {k : Nat} {x y : Int} {v : α} (h : y ≠ x) : up f k x v k y = f k y := by simp [up, h]

theorem w_putI {n k ci j rf fin : Nat} {z : Int} (hx : p.tables.exec = Jvm.exec) (hb : c.code = cc) (hts : ∀ w ∈ jW, w.before args s = true) (hown : s.vm.findClass (oN o) = some m.cls) (hd : decode cc pc = .ok (.putfield n, 3)) (hR : jR D b σ s H) (hS : va_S A s.heap H locs) (hA : ∀ k, k < σ.2.1 → A (b + k))
    (ht : tF o n = some (ci, j, rf, fin)) (hk : k < σ.2.1) (hs : σ.2.2.2.1 k = (ci, 0)) (hrf : rf = 0) (hfin : fin = 0)
    (kk : ∀ (H1 : Heap) (locs1 : List Loc), jR D b (σ.1, σ.2.1, σ.2.2.1, σ.2.2.2.1, up σ.2.2.2.2.1 k j z, σ.2.2.2.2.2) s H1 → va_S A s.heap H1 locs1 → W p l e R s m args below meth c H1 locs1 cells slots Q (F0 m (pc + 3) ls rest)) : W p l e R s m args below meth c H locs cells slots Q (F0 m pc ls (.int (Int32.ofInt z) :: .ref (b + k) :: rest)) := by
  obtain ⟨ac, tys, hK, hT, hP, hX⟩ := hR
  obtain ⟨h1, h2, h3, h4, h5⟩ := tF_use hts ht
  subst hrf; subst hfin
  have hty := cl_typ h1 h2
  have hint : cY ci j = .int := by
    rcases hty.2 with ⟨q, -⟩ | ⟨-, q⟩
    · rw [h3] at q; cases q
    · exact q
  refine va_put hx hb hts (cl_use h1) (cY ci) (fun k hk => (cl_typ h1 hk).1) (cl_name h1) hown hK hP (wld_D hA) hS k (by rw [wld_at hk, wE_obj hs h1]) (cl_at h1) j h2 h5 (fun _ h => h) h4 (by rw [hty.1, hint]) rfl rfl (by rw [fld_len]; exact h2) hd (fun H1 locs1 hP1 _ hS1 => kk H1 locs1 ?_ hS1)
  refine jR_set hK hT hX hk ?_ (fun j hj => wE_I hj) hP1
  rw [wE_obj hs h1, fld_set h2 (I' := up σ.2.2.2.2.1 k j z k) (R' := σ.2.2.2.2.2 k)]
  · rw [h3, up_at]; rfl
  · intro i hi
    exact ⟨up_off (by omega), rfl⟩
theorem w_putR {n k q ci j rf fin : Nat} (hx : p.tables.exec = Jvm.exec) (hb : c.code = cc) (hts : ∀ w ∈ jW, w.before args s = true) (hown : s.vm.findClass (oN o) = some m.cls) (hd : decode cc pc = .ok (.putfield n, 3)) (hR : jR D b σ s H) (hS : va_S A s.heap H locs) (hA : ∀ k, k < σ.2.1 → A (b + k))
    (ht : tF o n = some (ci, j, rf, fin)) (hk : k < σ.2.1) (hs : σ.2.2.2.1 k = (ci, 0)) (hrf : rf = 1) (hfin : fin = 0 ∨ (meth.name = "<init>" ∧ cO ci = o))
    (kk : ∀ (H1 : Heap) (locs1 : List Loc), jR D b (σ.1, σ.2.1, σ.2.2.1, σ.2.2.2.1, σ.2.2.2.2.1, up σ.2.2.2.2.2 k j (some q)) s H1 → va_S A s.heap H1 locs1 → W p l e R s m args below meth c H1 locs1 cells slots Q (F0 m (pc + 3) ls rest)) : W p l e R s m args below meth c H locs cells slots Q (F0 m pc ls (.ref (b + q) :: .ref (b + k) :: rest)) := by
  obtain ⟨ac, tys, hK, hT, hP, hX⟩ := hR
  obtain ⟨h1, h2, h3, h4, h5⟩ := tF_use hts ht
  subst hrf
  have hty := cl_typ h1 h2
  have href : (∃ n, cY ci j = .object n) ∨ ∃ t, cY ci j = .array t := by
    rcases hty.2 with ⟨-, q⟩ | ⟨q, -⟩
    · exact q
    · rw [h3] at q; cases q
  have hn : narrow (cY ci j) (.ref (b + q)) = .ref (b + q) := by rcases href with ⟨n, e⟩ | ⟨t, e⟩ <;> rw [e] <;> rfl
  have hf : fits (cY ci j) (.ref (b + q)) = true := by rcases href with ⟨n, e⟩ | ⟨t, e⟩ <;> rw [e] <;> rfl
  have fin : ∀ (H1 : Heap), va_P D jcl ((wld b ac σ.2.1 σ.2.2.2.1 σ.2.2.2.2.1 σ.2.2.2.2.2).set k (b + k, .inr (ci, (fld b ci (σ.2.2.2.2.1 k) (σ.2.2.2.2.2 k)).set j (.ref (b + q))))) H1 → jR D b (σ.1, σ.2.1, σ.2.2.1, σ.2.2.2.1, σ.2.2.2.2.1, up σ.2.2.2.2.2 k j (some q)) s H1 := by
    intro H1 hP1
    refine jR_set hK hT hX hk ?_ (fun j hj => wE_R hj) hP1
    rw [wE_obj hs h1, fld_set h2 (I' := σ.2.2.2.2.1 k) (R' := up σ.2.2.2.2.2 k j (some q) k)]
    · rw [h3, up_at]; rfl
    · intro i hi
      exact ⟨rfl, up_off (by omega)⟩
  cases hf2 : (cT ci j).2.2.2
  · exact va_put hx hb hts (cl_use h1) (cY ci) (fun k hk => (cl_typ h1 hk).1) (cl_name h1) hown hK hP (wld_D hA) hS k (by rw [wld_at hk, wE_obj hs h1]) (cl_at h1) j h2 h5 (fun _ h => h) hf2 hty.1 hn hf (by rw [fld_len]; exact h2) hd (fun H1 locs1 hP1 _ hS1 => kk H1 locs1 (fin H1 hP1) hS1)
  · rcases hfin with h | ⟨hi, ho⟩
    · subst h
      rw [hf2] at h4; cases h4
    · have h6 := rng cl_own h1
      simp only [Bool.and_eq_true, decide_eq_true_eq] at h6
      have h7 := rng h6.2 h2
      simp only [decide_eq_true_eq] at h7
      rw [ho] at h7
      exact va_putF hx hb hts (cl_use h1) (cY ci) (fun k hk => (cl_typ h1 hk).1) (cl_name h1) hown hK hP (wld_D hA) hS k (by rw [wld_at hk, wE_obj hs h1]) (cl_at h1) j h2 h5 (fun _ h => h) hf2 hi h7 hty.1 hn hf (by rw [fld_len]; exact h2) hd (fun H1 locs1 hP1 _ hS1 => kk H1 locs1 (fin H1 hP1) hS1)
end W2
