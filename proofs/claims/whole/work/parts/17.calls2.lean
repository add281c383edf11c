/-- calls that name another method than they run: class, entry, receiver, method run, places of the words, 1 abstract | 2 with a body, which is named -/
def tWl : List (Nat × Nat × Nat × Nat × Nat × Nat × Nat × Nat × Nat × Nat) := [(1, 20, 5, 54, 581, 601, 583, 1, 1, 0), (1, 20, 7, 76, 581, 605, 583, 1, 1, 0), (1, 20, 0, 2, 581, 584, 583, 1, 1, 0), (1, 20, 9, 105, 581, 610, 583, 1, 1, 0),
  (1, 20, 2, 15, 581, 594, 583, 1, 1, 0), (1, 35, 5, 55, 614, 626, 616, 1, 2, 0), (1, 35, 7, 55, 614, 627, 616, 1, 2, 0), (1, 35, 0, 3, 614, 617, 616, 1, 2, 0),
  (1, 35, 9, 106, 614, 628, 616, 1, 2, 0), (1, 35, 2, 106, 614, 623, 616, 1, 2, 0), (1, 48, 5, 53, 503, 512, 505, 1, 0, 0), (1, 48, 7, 75, 503, 515, 505, 1, 0, 0),
  (1, 48, 0, 1, 503, 506, 505, 1, 0, 0), (1, 48, 9, 104, 503, 518, 505, 1, 0, 0), (1, 48, 2, 14, 503, 509, 505, 1, 0, 0), (6, 34, 7, 78, 920, 929, 923, 2, 57, 921),
  (6, 34, 0, 4, 920, 924, 923, 2, 57, 921), (10, 29, 2, 16, 959, 1362, 1358, 2, 107, 944), (11, 281, 5, 53, 900, 512, 505, 1, 0, 0), (11, 281, 7, 75, 900, 515, 505, 1, 0, 0),
  (11, 281, 0, 1, 900, 506, 505, 1, 0, 0), (11, 281, 9, 104, 900, 518, 505, 1, 0, 0), (11, 281, 2, 14, 900, 509, 505, 1, 0, 0), (11, 288, 5, 56, 912, 948, 914, 2, 43, 913),
  (11, 288, 7, 77, 912, 949, 914, 2, 43, 913), (11, 288, 0, 56, 912, 915, 914, 2, 43, 913), (11, 288, 9, 107, 912, 953, 914, 2, 43, 913), (11, 288, 2, 16, 912, 939, 914, 2, 43, 913),
  (11, 292, 5, 57, 955, 1364, 1357, 2, 44, 936), (11, 292, 7, 78, 955, 1365, 1357, 2, 44, 936), (11, 292, 0, 4, 955, 1360, 1357, 2, 44, 936), (11, 292, 9, 108, 955, 1366, 1357, 2, 44, 936),
  (11, 292, 2, 108, 955, 1361, 1357, 2, 44, 936)]

def wX (k r : Nat) : MethodName := if k = 1 then absM.getD r ⟨"", "", ""⟩ else mY r
theorem tW_ok : tWl.all (fun e => decide (lw_tbl[e.2.2.2.2.1]? = some (.methodLink (oN e.1) e.2.1 (wX e.2.2.2.2.2.2.2.1 e.2.2.2.2.2.2.2.2.1))) && decide (lw_tbl[e.2.2.2.2.2.1]? = some (.selects (cN e.2.2.1) (wX e.2.2.2.2.2.2.2.1 e.2.2.2.2.2.2.2.2.1) (mY e.2.2.2.1))) && decide (lw_tbl[e.2.2.2.2.2.2.1]? = some (.sameMethod (wX e.2.2.2.2.2.2.2.1 e.2.2.2.2.2.2.2.2.1).cls (wX e.2.2.2.2.2.2.2.1 e.2.2.2.2.2.2.2.2.1).cls (wX e.2.2.2.2.2.2.2.1 e.2.2.2.2.2.2.2.2.1).name (wX e.2.2.2.2.2.2.2.1 e.2.2.2.2.2.2.2.2.1).desc))) = true := by decide +kernel
theorem tW_ok2 : tWl.all (fun e => decide ((parseMethodDescriptor (wX e.2.2.2.2.2.2.2.1 e.2.2.2.2.2.2.2.2.1).desc).map (fun d => d.parameters.length) = some (mP e.2.2.2.1)) && decide ((wX e.2.2.2.2.2.2.2.1 e.2.2.2.2.2.2.2.2.1).cls ≠ "java/lang/invoke/MethodHandle") && decide ((wX e.2.2.2.2.2.2.2.1 e.2.2.2.2.2.2.2.2.1).cls ≠ "java/lang/invoke/VarHandle") && ((e.2.2.2.2.2.2.2.1 == 1 && decide (e.2.2.2.2.2.2.2.2.1 < 3)) || (e.2.2.2.2.2.2.2.1 == 2 && decide (e.2.2.2.2.2.2.2.2.1 < 230) && decide (lw_tbl[e.2.2.2.2.2.2.2.2.2]? = some (.instanceMethod (mY e.2.2.2.2.2.2.2.2.1)))))) = true := by decide +kernel
theorem tV_ok2 : tVl.all (fun e => e.2.2.2.2.2.2.2.2.2.1 == 0 || tWl.any (fun w => w.1 == e.1 && w.2.1 == e.2.1 && w.2.2.1 == e.2.2.2.1 && w.2.2.2.1 == e.2.2.2.2.1)) = true := by decide +kernel
theorem tV_np : tVl.all (fun e => tVl.all (fun f => !(e.1 == f.1) || !(e.2.1 == f.2.1) || e.2.2.1 == f.2.2.1)) = true := by decide +kernel

section W5v
variable {p : Program} {l : Launch} {e : Env} {R : Room} {s : State} {m : MethodId} {args : Array Value} {below : List Frame} {meth : Method} {c : Code} {H : Heap} {locs : List Loc} {cells slots : Nat} {Q : State → Prop} {cc : ByteArray} {b nL pc o : Nat} {ls : Array Slot} {D : va_G} {σ σ' : jS} {A : Nat → Prop} {S S' a : List jV} {m' d : Nat} {r : Option jV}
/-- what a virtual call's row says: the method itself, or one that overrides or inherits -/
theorem tV_use {n ci : Nat} (hX : jX s) (hts : ∀ w ∈ jW, w.before args s = true) (h : tV o n ci = some m') : m' < 230 ∧ ci < 12 ∧ (Cond.instanceMethod (mY m')).before args s = true ∧ (Cond.initialized (mY m').cls).before args s = true ∧
    (((Cond.methodLink (oN o) n (mY m')).before args s = true ∧ (Cond.selects (cN ci) (mY m') (mY m')).before args s = true) ∨
     ∃ x : MethodName, (Cond.methodLink (oN o) n x).before args s = true ∧ (Cond.selects (cN ci) x (mY m')).before args s = true ∧ (Cond.sameMethod x.cls x.cls x.name x.desc).before args s = true ∧ va_Decl s x ∧ x.cls ≠ "java/lang/invoke/MethodHandle" ∧ x.cls ≠ "java/lang/invoke/VarHandle" ∧ (parseMethodDescriptor x.desc).map (fun d => d.parameters.length) = some (mP m')) := by
  obtain ⟨⟨e0, e1, e2, e3, e4, e5, e6, e7, e8, e9, e10, e11⟩, he, h1, h2⟩ := find_mem h
  have h3 := List.all_eq_true.mp tV_ok0 _ he
  have h4 := List.all_eq_true.mp tV_ok1 _ he
  have h5 := List.all_eq_true.mp tV_ok2 _ he
  simp only [Bool.and_eq_true, beq_iff_eq, decide_eq_true_eq, Bool.or_eq_true, Bool.not_eq_true'] at h1 h3 h4 h5
  obtain ⟨⟨rfl, rfl⟩, rfl⟩ := h1
  have h2 : e4 = m' := h2
  subst h2
  refine ⟨h3.1.1.2, h3.2, hts _ (jW_mem h3.1.1.1.1 rfl), hts _ (jW_mem h3.1.1.1.2 rfl), ?_⟩
  rcases h5 with h5 | h5
  · left
    rcases h4 with h4 | h4
    · rw [h5] at h4; cases h4
    · exact ⟨hts _ (jW_mem h4.1.1 rfl), hts _ (jW_mem h4.1.2 rfl)⟩
  · right
    obtain ⟨⟨w0, w1, w2, w3, w4, w5, w6, w7, w8, w9⟩, hw, hq⟩ := List.any_eq_true.mp h5
    have g1 := List.all_eq_true.mp tW_ok _ hw
    have g2 := List.all_eq_true.mp tW_ok2 _ hw
    simp only [Bool.and_eq_true, beq_iff_eq, decide_eq_true_eq, Bool.or_eq_true] at hq g1 g2
    obtain ⟨⟨⟨rfl, rfl⟩, rfl⟩, rfl⟩ := hq
    refine ⟨wX w7 w8, hts _ (jW_mem g1.1.1 rfl), hts _ (jW_mem g1.1.2 rfl), hts _ (jW_mem g1.2 rfl), ?_, g2.1.1.2, g2.1.2, g2.1.1.1⟩
    rcases g2.2 with ⟨k1, k2⟩ | ⟨⟨k1, k2⟩, k3⟩
    · subst k1
      have k4 : wX 1 w8 ∈ absM := by
        rcases (show w8 = 0 ∨ w8 = 1 ∨ w8 = 2 by omega) with rfl | rfl | rfl <;> decide
      exact va_Decl.abs (hX.2.1 _ k4)
    · subst k1
      exact va_Decl.of (hts _ (jW_mem k3 rfl)) (hts _ (mT_code w8 k2))
theorem par_len {y : MethodName} {k : Nat} (h : (parseMethodDescriptor y.desc).map (fun d => d.parameters.length) = some k) : ∀ sig, parseMethodDescriptor y.desc = some sig → k = sig.parameters.length := by
  intro sig hs
  rw [hs] at h
  exact (Option.some.inj h).symm
theorem rev_map {b : Nat} {a r : List jV} : (a.reverse ++ r).map (rv b) = (a.map (rv b)).reverse ++ r.map (rv b) := by simp
set_option maxHeartbeats 1000000 in
theorem w5 {i : Instr} (hx : p.tables.exec = Jvm.exec) (hb : c.code = cc) (hml : c.maxLocals = ls.size) (hts : ∀ w ∈ jW, w.before args s = true) (hown : s.vm.findClass (oN o) = some m.cls) (hd : decode cc pc = .ok (i, 3)) (hR : jR D b σ s H) (hS : va_S A s.heap H locs) (hN : σ.1 = true → s.heap.size + cells = b + σ.2.1 ∧ 0 < σ.2.1) (hf : d + 2 ≤ R.frames) (hlo : 100 * (d + 2) ≤ R.locals) (hc : cells + (σ'.2.1 - σ.2.1) ≤ R.cells) (hs : slots + (σ'.2.2.1 - σ.2.2.1) ≤ R.slots)
    (h : s5 o i S σ = some (m', a, S')) (hM : m' < 230 → jMet l D b A d m' a σ r σ')
    (hup : ∀ n, tS o n = some m' → (Cond.methodLink (oN o) n ⟨oN o, (mY m').name, (mY m').desc⟩).before args s = true → (Cond.sameMethod (oN o) (mY m').cls (mY m').name (mY m').desc).before args s = true → decode cc pc = .ok (.invokestatic n, 3) → a.length = mP m' → S = a.reverse ++ S' → szS S' ≤ 8 → (σ.1 = true → H.size = b + σ.2.1) → va_Run p l e R s m args below meth c H locs cells slots (σ'.2.1 - σ.2.1) (σ'.2.2.1 - σ.2.2.1) (F0 m pc ls (S.map (rv b))) (S'.map (rv b)) (jQ D b r σ' A (a.map (rv b)).toArray) A)
    (kk : ∀ (H1 : Heap) (locs1 : List Loc), jR D b σ' s H1 → va_S A s.heap H1 locs1 → W p l e R s m args below meth c H1 locs1 (cells + (σ'.2.1 - σ.2.1)) (slots + (σ'.2.2.1 - σ.2.2.1)) Q (F0 m (pc + 3) ls ((r.toList ++ S').map (rv b)))) : W p l e R s m args below meth c H locs cells slots Q (F0 m pc ls (S.map (rv b))) := by
  refine w_size hR hN (fun hz => ?_)
  cases i
  case invokestatic n =>
    unfold s5 at h
    dsimp only at h
    obtain ⟨m1, h1, h⟩ := Option.bind_eq_some_iff.mp h
    obtain ⟨⟨a1, r1⟩, h2, h⟩ := Option.bind_eq_some_iff.mp h
    dsimp only at h
    split at h <;> cases h
    rename_i h3
    obtain ⟨e1, e2⟩ := popN_eq h2
    obtain ⟨g1, g2, g3, g4⟩ := tS_use hts h1
    rcases g4 with g4 | ⟨g4, g5⟩
    · refine w_back (Ar := (a.map (rv b)).toArray) hR hS ?_ kk
      exact va_runS (As := a.map (rv b)) (rest := S'.map (rv b)) ⟨hx, hb, hml, hown, hts⟩ (hM g1) ⟨callB hts g1 g3 g4 hf hlo, g2⟩ ⟨jP_blind, pre_of hR hz⟩ rfl (by simp [e2]) rfl (by rw [e1]; exact rev_map) (lv_room (by rw [sz_rv]; exact h3)) hd ⟨hc, hs⟩
    · exact w_back hR hS (hup n h1 g4 g5 hd e2 e1 h3 hz) kk
  case invokespecial n =>
    unfold s5 at h
    dsimp only at h
    split at h
    · rename_i m1 hm1
      obtain ⟨⟨a1, r1⟩, h2, h⟩ := Option.bind_eq_some_iff.mp h
      obtain ⟨e1, e2⟩ := popN_eq h2
      dsimp only at h
      split at h
      · rename_i k0 r0
        split at h <;> cases h
        rename_i h3
        simp only [Bool.and_eq_true, decide_eq_true_eq] at h3
        have hst : S.map (rv b) = (a1.map (rv b)).reverse ++ .ref (b + k0) :: S'.map (rv b) := by rw [e1]; simp [rv]
        refine w_back (Ar := (Value.ref (b + k0) :: a1.map (rv b)).toArray) hR hS ?_ kk
        cases hI : tI o n with
        | some m2 =>
          rw [hI] at hm1
          cases hm1
          obtain ⟨g1, g2, g3, g4, g5, g6⟩ := tI_use hts hI
          have hcb := callB (R := R) (s := s) (args := args) (mc := σ'.2.1 - σ.2.1) (ms := σ'.2.2.1 - σ.2.2.1) hts g1 g4 g2 hf hlo
          rw [g6] at hcb
          exact va_runI (As := a1.map (rv b)) (rest := S'.map (rv b)) ⟨hx, hb, hml, hown, hts⟩ (hM g1) ⟨hcb, g5, g3⟩ ⟨jP_blind, pre_of (a := .inr (.inr (some k0)) :: a1) hR hz⟩ rfl (by simp [e2]) rfl hst (lv_room (by rw [sz_rv]; exact h3.1.1)) hd ⟨hc, hs⟩
        | none =>
          rw [hI] at hm1
          cases hJ : tJ o n with
          | some m2 =>
            rw [hJ] at hm1
            cases hm1
            obtain ⟨g1, g2, g3, g4, g5, g6⟩ := tJ_use hR.x hts hJ
            obtain ⟨-, -, -, k1, k2, k3, k4⟩ := mT_cls g1
            have hcn : va_CN R s args (oN o) n (mY m') RX11 (mB m') (mL m') (mR m') (jws m') (jRM d (σ'.2.1 - σ.2.1) (σ'.2.2.1 - σ.2.2.1)) (σ'.2.1 - σ.2.1) (σ'.2.2.1 - σ.2.2.1) (mP m') := va_cnB _ hts (jGood g1) rfl rfl rfl g2 g4 ⟨k1, k2, k3⟩ ⟨hf, by show 8 + (mL m' + 11) + 100 * (d + 1) ≤ _; omega⟩
            rw [g6] at hcn
            exact va_runIN (As := a1.map (rv b)) (rest := S'.map (rv b)) ⟨hx, hb, hml, hown, hts⟩ (hM g1) ⟨hcn, g5, g3⟩ ⟨jP_blind, pre_of (a := .inr (.inr (some k0)) :: a1) hR hz⟩ rfl (by simp [e2]) rfl hst (lv_room (by rw [sz_rv]; exact h3.1.1)) hd ⟨hc, hs⟩
          | none =>
            rw [hJ] at hm1
            have hP : tP o n = some m' := hm1
            obtain ⟨g1, g2, g3, g4, g5, g6, g7⟩ := tP_use hts hP
            obtain ⟨-, -, -, -, -, k3, k4⟩ := mT_cls g1
            have hcs : va_CS R s args (oN o) n (mY m') (mB m') (mL m') (mR m') (jws m') (jRM d (σ'.2.1 - σ.2.1) (σ'.2.2.1 - σ.2.2.1)) (σ'.2.1 - σ.2.1) (σ'.2.2.1 - σ.2.2.1) (mP m') :=
              ⟨⟨rfl, rfl, hf, by show 8 + (mL m' + 11) + 100 * (d + 1) ≤ _; omega, pay_in hts (jGood g1), List.mem_cons_self⟩, g2, g5, g6, g3, g4, hts _ (mT_code m' g1), g7, par_len k3⟩
            have hsk : σ.2.2.2.1 k0 = ((σ.2.2.2.1 k0).1, 0) := by
              obtain ⟨ac, tys, hK, hT, hP, hX⟩ := hR
              rcases hT k0 h3.1.2 with ⟨-, z⟩ | ⟨z, -⟩
              · rw [← z]
              · have := h3.2; omega
            have hrec : ∃ cellB : Cell, H[b + k0]? = some cellB ∧ cellB.vm.isStatics = false ∧ s.vm.findClass (cN (σ.2.2.2.1 k0).1) = some cellB.cls := by
              obtain ⟨ac, tys, hK, hT, hP, hX⟩ := hR
              exact va_recv hK hP (ci := (σ.2.2.2.1 k0).1) (q0 := k0) (cl_at h3.2) (by rw [wld_at h3.1.2, wE_obj hsk h3.2])
            have hat : ClassAt s (cN (σ.2.2.2.1 k0).1) (D.1 (σ.2.2.2.1 k0).1) := by
              obtain ⟨ac, tys, hK, hT, hP, hX⟩ := hR
              exact (hK.1 _ _ (cl_at h3.2)).2
            exact va_runSU (As := a1.map (rv b)) (rest := S'.map (rv b)) hat ⟨hx, hb, hml, hown, hts⟩ (hM g1) hcs ⟨jP_blind, hrec, pre_of (a := .inr (.inr (some k0)) :: a1) hR hz⟩ rfl (by simp [e2]) rfl hst (lv_room (by rw [sz_rv]; exact h3.1.1)) hd ⟨hc, hs⟩
      · cases h
    · cases h
  case invokevirtual n =>
    unfold s5 at h
    dsimp only at h
    obtain ⟨np, h1, h⟩ := Option.bind_eq_some_iff.mp h
    obtain ⟨⟨a1, r1⟩, h2, h⟩ := Option.bind_eq_some_iff.mp h
    obtain ⟨e1, e2⟩ := popN_eq h2
    dsimp only at h
    split at h
    · rename_i k0 r0
      split at h
      · rename_i h3
        simp only [Bool.and_eq_true, decide_eq_true_eq] at h3
        obtain ⟨m2, h4, e3⟩ := Option.map_eq_some_iff.mp h
        cases e3
        have hst : S.map (rv b) = (a1.map (rv b)).reverse ++ .ref (b + k0) :: S'.map (rv b) := by rw [e1]; simp [rv]
        obtain ⟨g1, g2, g3, g4, g5⟩ := tV_use hR.x hts h4
        have hnp : np = mP m' := by
          obtain ⟨f1, hf1, q1, q2⟩ := find_mem h1
          obtain ⟨f2, hf2, q3, q4⟩ := find_mem h4
          have q5 := List.all_eq_true.mp (List.all_eq_true.mp tV_np f1 hf1) f2 hf2
          have q6 := List.all_eq_true.mp tV_ok0 f2 hf2
          simp only [Bool.and_eq_true, beq_iff_eq, decide_eq_true_eq, Bool.or_eq_true, Bool.not_eq_true'] at q1 q3 q5 q6
          rw [q1.1, q1.2, q3.1.1, q3.1.2] at q5
          simp at q5
          rw [← q2, q5, ← q4]
          exact q6.1.2.symm
        subst hnp
        have hrec : ∃ cellB : Cell, H[b + k0]? = some cellB ∧ cellB.vm.isStatics = false ∧ s.vm.findClass (cN (σ.2.2.2.1 k0).1) = some cellB.cls := by
          obtain ⟨ac, tys, hK, hT, hP, hX⟩ := hR
          have hsk : σ.2.2.2.1 k0 = ((σ.2.2.2.1 k0).1, 0) := by rw [← h3.2]
          exact va_recv hK hP (ci := (σ.2.2.2.1 k0).1) (q0 := k0) (cl_at g2) (by rw [wld_at h3.1.2, wE_obj hsk g2])
        refine w_back (Ar := (Value.ref (b + k0) :: a1.map (rv b)).toArray) hR hS ?_ kk
        rcases g5 with ⟨g5, g6⟩ | ⟨x, g5, g6, g7, g8, g9, g10, g11⟩
        · exact va_runV (As := a1.map (rv b)) (rest := S'.map (rv b)) ⟨hx, hb, hml, hown, hts⟩ (hM g1) ⟨callB hts g1 g4 g5 hf hlo, g3, g6⟩ ⟨jP_blind, hrec, pre_of (a := .inr (.inr (some k0)) :: a1) hR hz⟩ rfl (by simp [e2]) rfl hst (lv_room (by rw [sz_rv]; exact h3.1.1)) hd ⟨hc, hs⟩
        · obtain ⟨-, -, -, -, -, k3, k4⟩ := mT_cls g1
          have hcu : va_CU R s args (oN o) (cN (σ.2.2.2.1 k0).1) x.cls n x (mY m') (mB m') (mL m') (mR m') (jws m') (jRM d (σ'.2.1 - σ.2.1) (σ'.2.2.1 - σ.2.2.1)) (σ'.2.1 - σ.2.1) (σ'.2.2.1 - σ.2.2.1) (mP m') :=
            ⟨⟨rfl, rfl, hf, by show 8 + (mL m' + 11) + 100 * (d + 1) ≤ _; omega, pay_in hts (jGood g1), List.mem_cons_self⟩, hts _ (mT_code m' g1), g4, ⟨g9, g10⟩, par_len g11, g5, g7, g8, g6, g3⟩
          exact va_runU (As := a1.map (rv b)) (rest := S'.map (rv b)) ⟨hx, hb, hml, hown, hts⟩ (hM g1) hcu ⟨jP_blind, hrec, pre_of (a := .inr (.inr (some k0)) :: a1) hR hz⟩ rfl (by simp [e2]) rfl hst (lv_room (by rw [sz_rv]; exact h3.1.1)) hd ⟨hc, hs⟩
      · cases h
    · cases h
  all_goals (unfold s5 at h; cases h)
end W5v
