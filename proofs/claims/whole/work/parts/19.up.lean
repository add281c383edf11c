/-! a static method that a class inherits: its entry is resolved at the named class, the method is its superclass's -/
section UP
variable {p : Program} {l : Launch} {e : Env} {R : Room} {s : State} {m : MethodId} {args : Array Value} {below : List Frame} {meth : Method} {c : Code} {T : State} {locs : List Loc} {cells slots : Nat}
theorem sup_warm {Q : Unit → Pre} {E : CtlPost} {d : Bool} {acts : List Action} {U U₀ : State} {f : JFrame} {ix ci nt cn : Nat} {mk : MethodId} {dk ck : Class} {cf : ClassFile} {nm ds : String}
    (htop : U.topJava?.isSome) (hpv : e.platform.polymorphicOnlyByInvokevirtual = true) (hW : U₀.WarmedH U.vm) (hE : U₀.MethodEntryUp e U.vm f.method.cls ix cn mk ci) (hdk : U₀.vm.classes[f.method.cls]? = some dk) (hcf : dk.cf = some cf)
    (hcp : cf.constantPool[ix]? = some (if false then .interfaceMethodref ci nt else .methodref ci nt)) (hnt : cf.constantPool.nameAndType? nt = some (nm, ds)) (hck : U₀.vm.classes[cn]? = some ck) (hno : (ck.methods.any fun y => y.name == nm && !y.isStatic && signaturePolymorphic ck y) = false) :
    wp (invokestatic.sem ix) Q E e d acts (U.setTop f) ↔ wp (invokestatic.sem ix) Q E e d acts ((U.setVm (U.vm.calledUp f.method.cls ci ix cn mk)).setTop f) := by
  obtain ⟨gc, -, w1, gm⟩ := hE.classFirst
  have look : ∀ {vm : Vm}, U₀.WarmedH vm → (∃ k, vm.classes[f.method.cls]? = some k ∧ k.cf = some cf) ∧ ∃ k, vm.classes[cn]? = some k ∧ (k.methods.any fun y => y.name == nm && !y.isStatic && signaturePolymorphic k y) = false := by
    intro vm w
    obtain ⟨k, hk, ek⟩ := w.alike.2.2 _ _ hdk
    obtain ⟨k', hk', ek'⟩ := w.alike.2.2 _ _ hck
    exact ⟨⟨k, hk, by rw [ek]; exact hcf⟩, k', hk', by rw [ek']; exact hno⟩
  obtain ⟨⟨ka, hka, fa⟩, -⟩ := look hW
  obtain ⟨-, kb, hkb, nb⟩ := look w1
  obtain ⟨⟨kd, hkd, fd⟩, kq, hkq, nq⟩ := look hE.warmed
  have ra := memberRef_ask_via (e := e) hka fa hcp hnt
  have rd := memberRef_ask_via (e := e) hkd fd hcp hnt
  have t1 := State.method?_setTop (s := U) f htop
  have t2 := State.method?_setTop (s := U.setVm (U.vm.noted f.method.cls ci (.cls cn))) f htop
  have t3 := State.method?_setTop (s := U.setVm (U.vm.calledUp f.method.cls ci ix cn mk)) f htop
  have stC : ∀ {Q' : ClassId → Pre} {d' : Bool} {acts' : List Action}, wp (Jvm.resolveClassAt ci) Q' E e d' acts' (U.setTop f) ↔ Q' cn d' acts' ((U.setVm (U.vm.noted f.method.cls ci (.cls cn))).setTop f) := W.resolveClassAt_links (t := U.setTop f) t1 gc
  have stM : ∀ {Q' : MethodId → Pre} {d' : Bool} {acts' : List Action}, wp (Jvm.resolveMethodAt ix) Q' E e d' acts' ((U.setVm (U.vm.noted f.method.cls ci (.cls cn))).setTop f) ↔ Q' mk d' acts' ((U.setVm (U.vm.calledUp f.method.cls ci ix cn mk)).setTop f) := W.resolveMethodAt_links (t := (U.setVm (U.vm.noted f.method.cls ci (.cls cn))).setTop f) t2 gm
  simp [invokestatic.sem, hpv, Seam.memberRefOf, t1, t3, ra, rd, stC, stM, W.resolveClassAt_ready (s := (U.setVm (U.vm.calledUp f.method.cls ci ix cn mk)).setTop f) t3 hE.classReady, W.resolveMethodAt_ready (s := (U.setVm (U.vm.calledUp f.method.cls ci ix cn mk)).setTop f) t3 hE.ready, hkb, hkq, nb, nq, -Array.any_eq_true]
theorem sup_step (X : Stand p l e R s m args below meth c T locs cells slots) (hexec : p.tables.exec = Jvm.exec) {own : String} {ix : Nat} {y : MethodName} {cls : String} (hown : s.vm.findClass own = some m.cls)
    (hlink : (Cond.methodLink own ix ⟨cls, y.name, y.desc⟩).before args s = true) (hsame : (Cond.sameMethod cls y.cls y.name y.desc).before args s = true) (hy : y.cls ≠ "java/lang/invoke/MethodHandle" ∧ y.cls ≠ "java/lang/invoke/VarHandle")
    {mk : MethodId} {mm : Method} {kk : Class} (hn : s.methodNamed? y = some mk) (hmm : s.vm.method? mk = some mm) (hst : mm.isStatic = true) (hkk : s.vm.classes[mk.cls]? = some kk) (hini : kk.init = .initialized)
    {g : JFrame} (hg : g.method = m) {As rest : List Value} (hlen : As.length = mm.sig.parameters.length) (hstack : g.stack = As.reverse ++ rest) (hdg : decode c.code g.pc = .ok (.invokestatic ix, 3)) :
    ∃ vm', Stand p l e R s m args below meth c (T.setVm vm') locs cells slots ∧ ∀ tg, (∀ acts, Steps p.tables e below (doInvoke e ((T.setVm vm').setTop { g with stack := rest }) acts mk As.toArray).1 tg) → Steps p.tables e below (T.setTop g) tg := by
  obtain ⟨cn, ck, r1, hcn, hck, hni, hf, hn1⟩ := Cond.sameMethod_found hsame
  cases hn.symm.trans hn1
  obtain ⟨ci, hl, hright⟩ := Cond.methodLink_specUp (x := ⟨cls, y.name, y.desc⟩) hown hcn hck hni hf hlink e.platform (by rw [X.admits.platform]) (by rw [X.admits.platform])
  have hE : s.MethodEntryUp e T.vm m.cls ix cn mk ci := State.methodEntryUp X.warmed hl hright
  obtain ⟨kx, hkx, hnx⟩ := className_of_methodNamed hn
  cases hkk.symm.trans hkx
  obtain ⟨dk, cf, nt, nm, ds, ck1, -, -, hdk, hcf, hcp, hnt, -, -, hck1, -, hpoly, -⟩ := hl.here
  cases hck.symm.trans hck1
  have hcp : cf.constantPool[ix]? = some (if false then .interfaceMethodref ci nt else .methodref ci nt) := hcp
  have al := hE.warmed.alike
  obtain ⟨dk2, hdk2, ed⟩ := al.2.2 _ _ hdk
  obtain ⟨kk2, hkk2, ek⟩ := al.2.2 _ _ hkk
  obtain ⟨ck2, hck2, ec⟩ := al.2.2 _ _ hck
  have no1 : (ck.methods.any fun z => z.name == nm && !z.isStatic && signaturePolymorphic ck z) = false := by simp [hpoly]
  have no2 : (ck2.methods.any fun z => z.name == nm && !z.isStatic && signaturePolymorphic ck2 z) = false := by rw [ec]; exact no1
  have np : signaturePolymorphic kk2 mm = false := by rw [ek]; show signaturePolymorphic kk mm = false; simp [signaturePolymorphic, hnx, hy.1, hy.2]
  have hm2 : (T.vm.calledUp m.cls ci ix cn mk).method? mk = some mm := by rw [al.method?]; exact hmm
  refine ⟨T.vm.calledUp m.cls ci ix cn mk, X.noted hE.warmed, fun tg hr => ?_⟩
  subst hg
  jvm_step X.here [hexec, hdg, sup_warm (e := e) (U := T) (U₀ := s) (f := g) X.here.top (by rw [X.admits.platform]) X.warmed hE hdk hcf hcp hnt hck no1,
    invokestatic.wp_ready (e := e) (s := T.setVm (T.vm.calledUp g.method.cls ci ix cn mk)) (k := kk2) (meth := mm) (m := mk) (args := As) (rest := rest) (f := g) X.here.top ⟨ci, nm, ds, false, cn, ck2, memberRef_ask_via (e := e) hdk2 (by rw [ed]; exact hcf) hcp hnt, hE.classReady, hck2, no2⟩ hE.ready hkk2 hm2 np hst (by rw [ek]; exact hini) hlen hstack]
  exact fun acts => hr _
end UP
theorem up_ok (l : Launch) : upOk l := by
  intro p e R s m args below meth c H locs cells slots cc pc o n d m' mc ms ls As rest Pc Qc free hx hb hml hts hown hd hf hlo hc hs hm hlink hsame hst hini hM hp hn hW
  obtain ⟨k1, k2, k3, k4, k5, k6, k7⟩ := mT_cls hm
  have hcode : (Cond.code (mY m') (mB m') (mL m') (mR m')).before args s = true := hts _ (mT_code m' hm)
  have hK : Back l R p e below s args (mY m') 3 8 (PreOf R mc ms Pc) (PostOf Qc mc ms free) := back_of (bytes := mB m') (maxL := mL m') (ret := mR m') hM hp.1 rfl rfl hf (by show 8 + (mL m' + 11) + 100 * (d + 1) ≤ _; omega) (pay_in hts (jGood hm)) List.mem_cons_self (fun a' U hW => word_at hW (Or.inl (by first | rfl | simp [Cond.onTables, Cond.keeps, Cond.steady])) hini)
  intro T hT X
  obtain ⟨mk, hnamed⟩ := Cond.code_named hcode
  obtain ⟨methM, cM, hmethM, -, -, -, -, -, -, hsigM⟩ := Cond.code_spec hnamed hcode
  have hstatic : methM.isStatic = true := Cond.static_spec hnamed hmethM hst
  obtain ⟨kP, hkP, -⟩ := className_of_methodNamed hnamed
  have hinitP : kP.init = .initialized := Cond.initialized_spec (findClass_of_methodNamed hnamed) hkP hini
  obtain ⟨vm₁, X₁, hstep⟩ := sup_step X hx hown hlink hsame ⟨k4, k5⟩ hnamed hmethM hstatic hkP hinitP (g := F0 m pc ls (As.reverse ++ rest)) rfl (As := As) (rest := rest) (hn.trans (par_len k6 _ hsigM)) rfl (by rw [hb]; exact hd)
  obtain ⟨v, B, X', hpost, hsteps⟩ := hK m meth c ⟨T.setVm vm₁, locs, cells, slots⟩ (F0 m pc ls rest) (.invokestatic n) mk As.toArray X₁ rfl hml.symm (by rw [hb]; exact hd) (lv_room hW) (X₁.named hnamed) ⟨hc, hs, hp.2 (T.setVm vm₁) hT X₁.warmed⟩
  obtain ⟨U', l2, c2, s2⟩ := B
  obtain ⟨g', mk', t, L, e1, e2, hq, h1, hL, h2, h3⟩ := hpost
  dsimp only [Pt.U, Pt.locs, Pt.cells, Pt.slots] at X' e1 e2 h1 h2 h3 hsteps
  subst h1; subst h2; subst h3
  exact ⟨v, (T.setVm vm₁).calling g' mk' As.toArray, t, U', L, hT, X', hL, e1, e2, hq, fun tg h => hstep _ fun acts => by rw [doInvoke_state]; exact hsteps.trans h⟩
