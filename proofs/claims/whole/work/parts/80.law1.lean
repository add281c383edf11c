/-! THE CLAIM OUT OF ONE WALK OF THE LAW'S BODY. Your part is whole_start (and what it stands on); all else here is the same for every law, but numbers. -/
def R_law : String := "ChairPastLaw"
def lw_P (b : Addr) (xs : List Int32) (args : Array Value) (s : State) : Prop := args = #[.ref b] ∧ s.IntsAt b xs ∧ xs.length ≤ 384 ∧ (Jvm.Cond.and given_1 narrow_1).before args s = true
def lw_Q (_ : Array Value) (s : State) (o : Outcome) (t : State) : Prop := o = .returned (some (.int 1)) ∧ Framed s o t [] 600000 7302250
def lw_Z (below : List Frame) (a : Array Value) (s : State) : State → Prop := fun t => ∃ o, t.status = .running ∧ Ended t below o ∧ lw_Q a s o t
/-- the law's own end, with 1 on the stack, nothing written that was there before, its room as the claim has it -/
theorem lw_ret {p : Program} {l : Launch} {e : Env} {s : State} {m : MethodId} {below : List Frame} {meth : Method} {c : Code} {b : Nat} (hx : p.tables.exec = Jvm.exec) (hb : c.code = code) (hr : meth.sig.returnType = ret) (hlocks : meth.locks = false) {pc : Nat} {H : Heap} {ls : Array Slot} (hdg : decode code pc = .ok (.ireturn, 1)) : W p l e room_1 s m #[Value.ref b] below meth c H [] 600000 7302250 (lw_Z below #[Value.ref b] s) (F0 m pc ls [.int 1]) := by
  intro T hT X
  obtain ⟨fs, hret, hrun, hended, hW, hframe⟩ := X.leave (v := some (.int 1)) (hlocks := hlocks) (fun h => by rw [hr] at h; cases h)
  have hmeth' : T.vm.method? m = some meth := X.method'
  refine ⟨T.setFrames fs, ?_, .returned (some (.int 1)), hrun, hended, rfl, ⟨_, rfl⟩, hW, hframe⟩
  jvm_step X.here [X.here.top, hx, hb, hdg, hmeth', hr, ret, narrow_b1]
  (try refine ⟨rfl, ?_⟩); (try refine ⟨rfl, ?_⟩)
  first | (intro acts; rw [hret _ acts rfl rfl rfl]) | rw [hret _ _ rfl rfl rfl]
  exact Steps.refl _
/-- what holds at the law's entry: the machine, the code, the tables' words (any of lw_tbl by 'hts w (by decide +kernel)'), the script of L ints xs at the cell b, what the Statement gives of the start (any of its parts by flat_of_before) -/
def lw_At (p : Program) (s : State) (m : MethodId) (meth : Method) (c : Code) (b L : Nat) (xs : Nat → Int32) : Prop :=
  p.tables.exec = Jvm.exec ∧ c.code = code ∧ meth.sig.returnType = ret ∧ c.maxLocals = 4 ∧ s.vm.findClass R_law = some m.cls ∧ (∀ w ∈ lw_tbl, w.before #[Value.ref b] s = true) ∧ va_X b L xs s s.heap ∧ b < s.heap.size ∧ meth.locks = false ∧ (Jvm.Cond.and given_1 narrow_1).before #[Value.ref b] s = true

theorem jR.keep {D : va_G} {b : Nat} {σ : jS} {s : State} {H H1 : Heap} (h : jR D b σ s H) (hq : ∀ k, k < σ.2.1 → H1[b + k]? = H[b + k]?) : jR D b σ s H1 := by
  obtain ⟨ac, tys, h1, h2, h3, h4⟩ := h
  refine ⟨ac, tys, h1, h2, h3.kept (fun k q hk => ?_), h4⟩
  obtain ⟨g1, rfl⟩ := wld_in hk
  exact hq k g1
theorem arrV_congr {cI : ClassId} {N : Nat} {f g : Nat → Value} (h : ∀ j, j < N → f j = g j) : arrV cI N f = arrV cI N g := by
  unfold arrV
  rw [show (fun j : Fin N => f j.val) = (fun j : Fin N => g j.val) from funext (fun j => h j.val j.isLt)]
/-- a store is known by its cells' places -/
theorem jR.congr {D : va_G} {b n sl sl' : Nat} {o o' : Bool} {sh sh' : Nat → Nat × Nat} {I I' : Nat → Int → Int} {Rf Rf' : Nat → Int → Option Nat} {s : State} {H : Heap} (h : jR D b (o, n, sl, sh, I, Rf) s H) (hs : ∀ k, k < n → sh k = sh' k ∧ ∀ j : Nat, j < plc (sh' k) → I k j = I' k j ∧ Rf k j = Rf' k j) : jR D b (o', n, sl', sh', I', Rf') s H := by
  obtain ⟨ac, tys, h1, h2, h3, h4⟩ := h
  refine ⟨ac, tys, h1, fun k hk => ?_, fun k q hk => ?_, h4⟩
  · have h2 : ((sh k).1 < 12 ∧ (sh k).2 = 0) ∨ (50 ≤ (sh k).1 ∧ (sh k).1 ≤ 54 ∧ (sh k).2 < 100001 ∧ ∃ t0 : Nat, tys[t0]? = some (ac k, aT (sh k).1)) := h2 k hk
    rw [(hs k hk).1] at h2
    exact h2
  · obtain ⟨g1, rfl⟩ := wld_in hk
    have g1 : k < n := g1
    obtain ⟨e1, e2⟩ := hs k g1
    have hat := h3 k _ (wld_at g1)
    have hT : _ := h2 k g1
    show va_at D jcl (b + k, wE b ac sh' I' Rf' k) H
    have hat : va_at D jcl (b + k, wE b ac sh I Rf k) H := hat
    have hT : ((sh k).1 < 12 ∧ (sh k).2 = 0) ∨ (50 ≤ (sh k).1 ∧ (sh k).1 ≤ 54 ∧ (sh k).2 < 100001 ∧ ∃ t0 : Nat, tys[t0]? = some (ac k, aT (sh k).1)) := hT
    rw [e1] at hT
    unfold wE at hat ⊢
    rw [e1] at hat
    rcases hT with ⟨t1, t2⟩ | ⟨t1, t2, t3, -⟩
    · rw [if_pos (by omega)] at hat ⊢
      have ef : fld b (sh' k).1 (I k) (Rf k) = fld b (sh' k).1 (I' k) (Rf' k) := by
        unfold fld
        refine List.map_congr_left (fun j hj => ?_)
        have hj : j < plc (sh' k) := by
          unfold plc
          rw [if_pos t1]
          exact List.mem_range.mp hj
        rw [(e2 j hj).1, (e2 j hj).2]
      rw [← ef]
      exact hat
    · rw [if_neg (by omega)] at hat ⊢
      have hp : ∀ j, j < (sh' k).2 → I k j = I' k j ∧ Rf k j = Rf' k j := fun j hj => e2 j (by unfold plc; rw [if_neg (by omega)]; exact hj)
      by_cases t4 : (sh' k).1 < 52
      · rw [if_pos t4] at hat ⊢
        have hat : H[b + k]? = some (vp_cell (ac k) ((sh' k).2, .inl (fun j => Int32.ofInt (I k j)))) := hat
        show H[b + k]? = some (vp_cell (ac k) ((sh' k).2, .inl (fun j => Int32.ofInt (I' k j))))
        rw [hat, vp_cell_i, vp_cell_i, arrV_congr (fun j hj => by rw [(hp j hj).1])]
      · rw [if_neg t4] at hat ⊢
        have hat : H[b + k]? = some (vp_cell (ac k) ((sh' k).2, .inr (.inr (.inr (.inr (fun j => (Rf k j).map (b + ·))))))) := hat
        show H[b + k]? = some (vp_cell (ac k) ((sh' k).2, .inr (.inr (.inr (.inr (fun j => (Rf' k j).map (b + ·)))))))
        rw [hat, vp_cell_q, vp_cell_q, arrV_congr (fun j hj => by rw [(hp j hj).2])]
/-- what the tables and the start say -/
theorem tJ_in : tJl.all (fun e => decide (Cond.methodLinkNest (oN e.1) e.2.1 (mY e.2.2.1) RX11 ∈ lw_tbl)) = true := by decide +kernel
theorem abs_in : absM.all (fun y => decide (Cond.declares y ∈ lw_tbl)) = true := by decide +kernel
theorem yes_in : yesC.all (fun q => decide (Cond.castable q.1 q.2 ∈ lw_tbl)) = true := by decide +kernel
theorem ao_in : [RX5, RX4, RX1].all (fun C => decide (Cond.arrayOver (.object C) ∈ lw_tbl)) = true := by decide +kernel
theorem no_in : noC.all (fun q => decide (Cond.not (.castable q.1 q.2) ∈ flatC (Jvm.Cond.and given_1 narrow_1))) = true := by decide +kernel
theorem ins_in : (List.range 12).all (fun c => decide (Cond.instantiable (cN c) (cF c) ∈ lw_tbl)) = true := by decide +kernel
theorem lw_jX {s : State} {A : Array Value} (hts : ∀ w ∈ lw_tbl, w.before A s = true) (hgv : (Jvm.Cond.and given_1 narrow_1).before A s = true) : jX s := by
  have hs := flat_of_before _ hgv
  refine ⟨fun e he => ?_, fun y hy => ?_, fun q hq => ?_, fun C hC => ?_, fun q hq => ?_⟩
  · exact va_Nw.of rfl (hts _ (of_decide_eq_true (List.all_eq_true.mp tJ_in e he)))
  · exact va_Nw.of rfl (hts _ (of_decide_eq_true (List.all_eq_true.mp abs_in y hy)))
  · exact va_Nw.of rfl (hts _ (of_decide_eq_true (List.all_eq_true.mp yes_in q hq)))
  · exact va_AO.of (hts _ (of_decide_eq_true (List.all_eq_true.mp ao_in C hC)))
  · exact va_Nc.of (hs _ (of_decide_eq_true (List.all_eq_true.mp no_in q hq)))
theorem jW_sub {w : Cond} (h : w ∈ jW) : w ∈ lw_tbl := (List.mem_filter.mp h).1
theorem lw_known {s : State} {A : Array Value} (hts : ∀ w ∈ lw_tbl, w.before A s = true) : ∃ D : va_G, va_K D jcl [] s := by
  have h : ∀ c : Nat, ∃ q : ClassId × (Nat → Nat), c < 12 → u_Kn s (cN c) (cT c) (cF c) q.1 q.2 := by
    intro c
    by_cases hc : c < 12
    · obtain ⟨x, y, hk⟩ := u_known (C := cN c) (T := cT c) (N := cF c) (n := cF c) (fun w hw => hts w (jW_sub hw)) (cl_use hc) (hts _ (of_decide_eq_true (rng ins_in hc)))
      exact ⟨(x, y), fun _ => hk⟩
    · exact ⟨(0, fun _ => 0), fun q => absurd q hc⟩
  obtain ⟨F, hF⟩ := Classical.axiomOfChoice h
  refine ⟨(fun c => (F c).1, fun c => (F c).2), fun c q hq => ?_, fun k q h => by simp at h⟩
  have hc : c < 12 := (List.getElem?_eq_some_iff.mp hq).1
  rw [cl_at hc] at hq
  cases hq
  exact hF c hc
section LWC
variable {p : Program} {l : Launch} {e : Env} {R : Room} {s : State} {m : MethodId} {args : Array Value} {below : List Frame} {meth : Method} {c : Code} {H : Heap} {locs : List Loc} {cells slots : Nat} {Q : State → Prop} {cc : ByteArray} {b pc : Nat} {ls : Array Slot} {D : va_G} {σ σ' : jS} {A A0 : Nat → Prop} {a : List jV} {rest : List Value} {m' d n ci : Nat} {r : Option jV} {own : String}
theorem callBL (hts : ∀ w ∈ jW, w.before args s = true) (hm : m' < 230) (hini : (Cond.initialized (mY m').cls).before args s = true) (hl : (Cond.methodLink own n (mY m')).before args s = true) {mc ms : Nat} (hf : d + 2 ≤ R.frames) (hlo : 100 * (d + 2) ≤ R.locals) : CallB R s args own n (mY m') (mB m') (mL m') (mR m') (jws m') (jRM d mc ms) mc ms (mP m') := by
  obtain ⟨-, -, -, h1, h2, h3, h4⟩ := mT_cls hm
  exact callB_of _ hts (jGood hm) rfl rfl rfl hini hl ⟨h1, h2, h3⟩ ⟨hf, by show 8 + (mL m' + 11) + 100 * (d + 1) ≤ _; omega⟩
/-- behind a call from the law -/
theorem lw_back {Ar : Array Value} {st0 : List Value} (hR : jR D b σ s H) (hS : va_S A0 s.heap H locs) (hsub : ∀ q, A q → A0 q)
    (hr : va_Run p l e R s m args below meth c H locs cells slots (σ'.2.1 - σ.2.1) (σ'.2.2.1 - σ.2.2.1) (F0 m pc ls st0) rest (jQ D b r σ' A Ar) A)
    (kk : ∀ (H1 : Heap) (locs1 : List Loc), jR D b σ' s H1 → va_S A0 s.heap H1 locs1 → (∀ q, q < H.size → ¬ A q → H1[q]? = H[q]?) → W p l e R s m args below meth c H1 locs1 (cells + (σ'.2.1 - σ.2.1)) (slots + (σ'.2.2.1 - σ.2.2.1)) Q (F0 m (pc + 3) ls ((r.map (rv b)).toList ++ rest))) : W p l e R s m args below meth c H locs cells slots Q (F0 m pc ls st0) := by
  refine w_call hr (fun v st₀ t H1 L e1 e2 hW hq hL => ?_)
  obtain ⟨q1, q2, q3⟩ := hq
  have q1 : v = r.map (rv b) := Option.some.inj (by cases q1; rfl)
  subst q1
  rw [e2] at q2
  obtain ⟨z1, z2⟩ := q3
  rw [e1, e2] at z1 z2
  refine kk H1 (locs ++ L) (q2.back hW hR.x) ⟨Nat.le_trans hS.1 z1, fun q g1 g2 => ?_, fun q hq => ?_⟩ z2
  · rw [z2 q (Nat.lt_of_lt_of_le g1 hS.1) (fun u => g2 (hsub q u))]; exact hS.2.1 q g1 g2
  · rcases List.mem_append.mp hq with h | h
    · exact hS.2.2 q h
    · exact hsub _ (hL q h)
theorem lw_callV (hx : p.tables.exec = Jvm.exec) (hb : c.code = cc) (hml : c.maxLocals = ls.size) (hts : ∀ w ∈ jW, w.before args s = true) (hown : s.vm.findClass own = some m.cls) (hd : decode cc pc = .ok (.invokevirtual n, 3)) (hR : jR D b σ s H) (ho : σ.1 = false) (hS : va_S A0 s.heap H locs) (hsub : ∀ q, A q → A0 q) (hf : d + 2 ≤ R.frames) (hlo : 100 * (d + 2) ≤ R.locals) (hc : cells + (σ'.2.1 - σ.2.1) ≤ R.cells) (hs : slots + (σ'.2.2.1 - σ.2.2.1) ≤ R.slots)
    (hm : m' < 230) (hM : jMet l D b A d m' (vr 0 :: a) σ r σ') (hlink : (Cond.methodLink own n (mY m')).before args s = true) (hin : (Cond.instanceMethod (mY m')).before args s = true) (hini : (Cond.initialized (mY m').cls).before args s = true) (hsel : (Cond.selects (cN ci) (mY m') (mY m')).before args s = true) (hci : ci < 12) (h0 : 0 < σ.2.1) (hsh : σ.2.2.2.1 0 = (ci, 0)) (hlen : a.length = mP m') (hrs : (rest.map fun v => v.category).sum ≤ 8)
    (kk : ∀ (H1 : Heap) (locs1 : List Loc), jR D b σ' s H1 → va_S A0 s.heap H1 locs1 → (∀ q, q < H.size → ¬ A q → H1[q]? = H[q]?) → W p l e R s m args below meth c H1 locs1 (cells + (σ'.2.1 - σ.2.1)) (slots + (σ'.2.2.1 - σ.2.2.1)) Q (F0 m (pc + 3) ls ((r.map (rv b)).toList ++ rest))) : W p l e R s m args below meth c H locs cells slots Q (F0 m pc ls ((a.map (rv b)).reverse ++ .ref (b + 0) :: rest)) := by
  have hz : σ.1 = true → H.size = b + σ.2.1 := fun q => by rw [ho] at q; cases q
  have hrec : ∃ cellB : Cell, H[b + 0]? = some cellB ∧ cellB.vm.isStatics = false ∧ s.vm.findClass (cN ci) = some cellB.cls := by
    obtain ⟨ac, tys, hK, hT, hP, hX⟩ := hR
    exact va_recv hK hP (ci := ci) (q0 := 0) (cl_at hci) (by rw [wld_at h0, wE_obj hsh hci])
  refine lw_back (A := A) (Ar := (Value.ref (b + 0) :: a.map (rv b)).toArray) hR hS hsub ?_ kk
  exact va_runV (As := a.map (rv b)) (rest := rest) ⟨hx, hb, hml, hown, hts⟩ hM ⟨callBL hts hm hini hlink hf hlo, hin, hsel⟩ ⟨jP_blind, hrec, pre_of (a := .inr (.inr (some 0)) :: a) hR hz⟩ rfl (by simp [hlen]) rfl rfl (lv_room hrs) hd ⟨hc, hs⟩
theorem lw_callI (hx : p.tables.exec = Jvm.exec) (hb : c.code = cc) (hml : c.maxLocals = ls.size) (hts : ∀ w ∈ jW, w.before args s = true) (hown : s.vm.findClass own = some m.cls) (hd : decode cc pc = .ok (.invokespecial n, 3)) (hR : jR D b σ s H) (hz : σ.1 = true → H.size = b + σ.2.1) (hS : va_S A0 s.heap H locs) (hsub : ∀ q, A q → A0 q) (hf : d + 2 ≤ R.frames) (hlo : 100 * (d + 2) ≤ R.locals) (hc : cells + (σ'.2.1 - σ.2.1) ≤ R.cells) (hs : slots + (σ'.2.2.1 - σ.2.2.1) ≤ R.slots)
    (hm : m' < 230) (hM : jMet l D b A d m' [vr 0] σ r σ') (hlink : (Cond.methodLink own n (mY m')).before args s = true) (hin : (Cond.instanceMethod (mY m')).before args s = true) (hini : (Cond.initialized (mY m').cls).before args s = true) (hnm : (mY m').name = "<init>") (hret : mR m' = none) (hpar : mP m' = 0) (hrs : (rest.map fun v => v.category).sum ≤ 8)
    (kk : ∀ (H1 : Heap) (locs1 : List Loc), jR D b σ' s H1 → va_S A0 s.heap H1 locs1 → (∀ q, q < H.size → ¬ A q → H1[q]? = H[q]?) → W p l e R s m args below meth c H1 locs1 (cells + (σ'.2.1 - σ.2.1)) (slots + (σ'.2.2.1 - σ.2.2.1)) Q (F0 m (pc + 3) ls ((r.map (rv b)).toList ++ rest))) : W p l e R s m args below meth c H locs cells slots Q (F0 m pc ls (.ref (b + 0) :: rest)) := by
  refine lw_back (A := A) (Ar := (Value.ref (b + 0) :: []).toArray) hR hS hsub ?_ kk
  have hcb := callBL (R := R) (s := s) (args := args) (own := own) (mc := σ'.2.1 - σ.2.1) (ms := σ'.2.2.1 - σ.2.2.1) hts hm hini hlink hf hlo
  rw [hret] at hcb
  exact va_runI (As := []) (rest := rest) ⟨hx, hb, hml, hown, hts⟩ hM ⟨hcb, hnm, hin⟩ ⟨jP_blind, pre_of (a := [.inr (.inr (some 0))]) hR hz⟩ rfl (by rw [hpar]; rfl) rfl rfl (lv_room hrs) hd ⟨hc, hs⟩
/-- the first cell of a store is made -/
theorem lw_new (hx : p.tables.exec = Jvm.exec) (hb : c.code = cc) (hts : ∀ w ∈ jW, w.before args s = true) (hown : s.vm.findClass own = some m.cls) (hd : decode cc pc = .ok (.new n, 3)) (hci : ci < 12) (hcl : (Cond.classLink own n (cN ci)).before args s = true) (hins : (Cond.instantiable (cN ci) (cF ci)).before args s = true) (hini : (Cond.initialized (cN ci)).before args s = true) (hK : va_K D jcl [] s) (hX : jX s) (hz : H.size = b) (hS : va_S A0 s.heap H locs) (hcells : cells + 1 ≤ R.cells) (hslots : slots + cF ci ≤ R.slots)
    (kk : ∀ H1 : Heap, H1.size = b + 1 → jR D b (true, 1, cF ci, (fun a => if a = 0 then (ci, 0) else (0, 0)), (fun _ _ => 0), (fun _ _ => none)) s H1 → va_S A0 s.heap H1 locs → (∀ q, q < H.size → H1[q]? = H[q]?) → W p l e R s m args below meth c H1 locs (cells + 1) (slots + cF ci) Q (F0 m (pc + 3) ls (.ref (b + 0) :: rest))) : W p l e R s m args below meth c H locs cells slots Q (F0 m pc ls rest) := by
  have hKn := hK.1 ci _ (cl_at hci)
  refine W.newcK hx hb hown hcl hins hini rfl hd hcells hslots hKn.2.1 hz (fun H1 kC hkC e1 z1 o1 => ?_)
  have hS1 : va_S A0 s.heap H1 locs := ⟨Nat.le_trans hS.1 (by omega), fun q g1 g2 => (o1 q (by have := hS.1; omega)).trans (hS.2.1 q g1 g2), hS.2.2⟩
  refine kk H1 z1 ?_ hS1 (fun q hq => o1 q (by omega))
  have hj := jR_new (n := 0) (sl := cF ci) (t := ci) (len := 0) (bo := true) (sh := fun _ => (0, 0)) (I := fun _ _ => 0) (Rf := fun _ _ => none) (ac := fun _ => 0) (tys := []) (tys' := []) (cA := 0) (b := b) (H := H) (H1 := H1) hK (fun k hk => absurd hk (Nat.not_lt_zero k)) (fun _ _ h => h) (fun k q hk => absurd (wld_in hk).1 (Nat.not_lt_zero k)) hX (fun q hq => o1 q hq) (Or.inl ⟨hci, rfl⟩) ?_
  · refine jR.congr hj (fun k hk => ⟨rfl, fun j _ => ⟨?_, ?_⟩⟩)
    · show (if k = 0 then (0 : Int) else 0) = 0
      split <;> rfl
    · show (if k = 0 then (none : Option Nat) else none) = none
      split <;> rfl
  · rw [wE_obj (sh := fun _ => (ci, 0)) (k := 0) rfl hci]
    refine ⟨_, cl_at hci, (u_born (cY ci) hts (cl_use hci) hKn hkC e1 (fun k hk => (cl_typ hci hk).1)).to (fun j hj => ?_)⟩
    have hj : j < cF ci := hj
    have h5 : (fld b ci (fun _ => 0) (fun _ => none))[j]? = _ := fld_at hj
    unfold vp_V
    rw [List.getD_eq_getElem?_getD, h5, Option.getD_some]
    rcases (cl_typ hci hj).2 with ⟨q1, ⟨nn, q2⟩ | ⟨nn, q2⟩⟩ | ⟨q1, q2⟩ <;> rw [q1, q2] <;> rfl
end LWC
