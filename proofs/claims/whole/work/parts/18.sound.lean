/-! THE SMALL MACHINE'S RUNS ARE THE REAL ONE'S -/
theorem s2_mono {o : Nat} {init : Bool} {i : Instr} {S S' : List jV} {σ σ' : jS} (h : s2 o init i S σ = some (S', σ')) : σ.2.1 ≤ σ'.2.1 ∧ σ.2.2.1 ≤ σ'.2.2.1 ∧ σ'.1 = σ.1 := by
  cases i
  case new n =>
    unfold s2 at h
    dsimp only at h
    obtain ⟨ci, ht, h⟩ := Option.bind_eq_some_iff.mp h
    split at h <;> cases h
    rename_i hc1
    simp only [Bool.and_eq_true] at hc1
    exact ⟨Nat.le_add_right _ _, Nat.le_add_right _ _, hc1.1.symm⟩
  case newarray t =>
    unfold s2 at h
    dsimp only at h
    split at h
    · split at h <;> cases h
      rename_i hc1
      simp only [Bool.and_eq_true] at hc1
      exact ⟨Nat.le_add_right _ _, Nat.le_add_right _ _, hc1.1.1.1.1.symm⟩
    · cases h
  case anewarray n =>
    unfold s2 at h
    dsimp only at h
    split at h
    · split at h <;> cases h
      rename_i hc1
      simp only [Bool.and_eq_true] at hc1
      exact ⟨Nat.le_add_right _ _, Nat.le_add_right _ _, hc1.1.1.1.symm⟩
    · cases h
  case instanceof n =>
    unfold s2 at h
    dsimp only at h
    split at h
    · split at h
      · obtain ⟨r, hr, e1⟩ := Option.map_eq_some_iff.mp h
        cases e1
        exact ⟨Nat.le_refl _, Nat.le_refl _, rfl⟩
      · cases h
    · cases h
  all_goals (unfold s2 at h; dsimp only at h; repeat' (first | cases h | split at h))
  all_goals exact ⟨Nat.le_refl _, Nat.le_refl _, rfl⟩
theorem run_mono : ∀ (f d m pc : Nat) (L : jL) (S : List jV) (σ : jS) (r : Option jV) (σ' : jS), run f d m pc L S σ = some (r, σ') → σ.2.1 ≤ σ'.2.1 ∧ σ.2.2.1 ≤ σ'.2.2.1 ∧ σ'.1 = σ.1 := by
  intro f
  induction f with
  | zero => intro d m pc L S σ r σ' h; simp [run] at h
  | succ f ih =>
    intro d m pc L S σ r σ' h
    unfold run at h
    split at h <;> try (cases h; done)
    split at h
    · split at h
      · exact ih _ _ _ _ _ _ _ _ h
      · split at h
        · rename_i h2
          obtain ⟨a1, a2, a3⟩ := s2_mono h2
          obtain ⟨b1, b2, b3⟩ := ih _ _ _ _ _ _ _ _ h
          exact ⟨Nat.le_trans a1 b1, Nat.le_trans a2 b2, b3.trans a3⟩
        · split at h
          · exact ih _ _ _ _ _ _ _ _ h
          · split at h
            · cases h; exact ⟨Nat.le_refl _, Nat.le_refl _, rfl⟩
            · split at h
              · split at h
                · cases h
                · split at h
                  · rename_i h6
                    split at h6
                    · obtain ⟨a1, a2, a3⟩ := ih _ _ _ _ _ _ _ _ h6
                      obtain ⟨b1, b2, b3⟩ := ih _ _ _ _ _ _ _ _ h
                      exact ⟨Nat.le_trans a1 b1, Nat.le_trans a2 b2, b3.trans a3⟩
                    · cases h6
                  · cases h
              · cases h
    · cases h
theorem sz_cons (v : jV) (a : List jV) : szS (v :: a) = (if isL v then 2 else 1) + szS a := by simp [szS]
theorem lgl_len (b : Nat) : ∀ a : List jV, (lg_sl (a.map (rv b))).length = szS a := by
  intro a
  induction a with
  | nil => rfl
  | cons v a ih =>
    rw [sz_cons, ← ih]
    rcases v with z | z | (_ | k) <;> simp [lg_sl, rv, isL, Value.category] <;> omega
theorem flat_len : ∀ a : List jV, (a.flatMap (fun v => if isL v then [some v, none] else [some v])).length = szS a := by
  intro a
  induction a with
  | nil => rfl
  | cons v a ih =>
    rw [List.flatMap_cons, List.length_append, ih, sz_cons]
    split <;> rfl
theorem lget_z {x : Option jV} {l : jL} : lget (x :: l) 0 = x := by cases x <;> rfl
theorem lget_s {x : Option jV} {l : jL} {i : Nat} : lget (x :: l) (i + 1) = lget l i := by simp [lget]
theorem lget_none {n i : Nat} {v : jV} : lget (List.replicate n none) i = some v → False := by
  intro h
  unfold lget at h
  rw [List.getElem?_replicate] at h
  split at h <;> cases h
theorem ini_get (b : Nat) : ∀ (a : List jV) (n i j : Nat) (v : jV), lget (a.flatMap (fun v => if isL v then [some v, none] else [some v]) ++ List.replicate n none) i = some v → (j + i, rv b v) ∈ lv_args j (a.map (rv b)) := by
  intro a
  induction a with
  | nil => intro n i j v h; exact absurd h (fun h => lget_none h)
  | cons w a ih =>
    intro n i j v h
    rw [List.flatMap_cons, List.append_assoc] at h
    rw [List.map_cons]
    unfold lv_args
    rw [rv_cat]
    cases hw : isL w
    · rw [hw] at h
      cases i with
      | zero => cases lget_z.symm.trans h; exact List.mem_cons_self
      | succ i =>
        have h : lget _ (i + 1) = some v := h
        rw [if_neg (by decide)] at h
        have h3 := ih n i (j + 1) v (lget_s.symm.trans h)
        rw [show j + 1 + i = j + (i + 1) by omega] at h3
        exact List.mem_cons_of_mem _ h3
    · rw [hw] at h
      rw [if_pos rfl] at h
      cases i with
      | zero => cases lget_z.symm.trans h; exact List.mem_cons_self
      | succ i =>
        have h := lget_s.symm.trans h
        cases i with
        | zero => cases lget_z.symm.trans h
        | succ i =>
          have h3 := ih n i (j + 2) v (lget_s.symm.trans h)
          rw [show j + 2 + i = j + (i + 1 + 1) by omega] at h3
          exact List.mem_cons_of_mem _ h3
theorem ini_ls {b n : Nat} {a : List jV} {ls : Array Slot} (hz : szS a ≤ n) (hl : lv_has ls n (lv_args 0 (a.map (rv b)))) : jLs b n ls (iniL n a) := by
  refine ⟨?_, hl.1, hl.2.1, fun i v hv => ?_⟩
  · unfold iniL
    rw [List.length_append, List.length_replicate, flat_len]
    omega
  · have h := ini_get b a _ i 0 v hv
    rw [Nat.zero_add] at h
    exact hl.2.2 _ h
section SND
variable {p : Program} {l : Launch} {e : Env} {s : State} {mi : MethodId} {args : Array Value} {below : List Frame} {meth : Method} {c : Code} {D : va_G} {b : Nat} {A : Nat → Prop} {m d mc ms : Nat} {r : Option jV} {σ' : jS}
/-- what is to be shown of a call of a static method that its class inherits (below) -/
def upOk (l : Launch) : Prop := ∀ {p : Program} {e : Env} {R : Room} {s : State} {m : MethodId} {args : Array Value} {below : List Frame} {meth : Method} {c : Code} {H : Heap} {locs : List Loc} {cells slots : Nat} {cc : ByteArray} {pc o n d m' mc ms : Nat} {ls : Array Slot} {As rest : List Value} {Pc : Array Value → State → Prop} {Qc : Array Value → State → Outcome → State → Prop} {free : Addr → Prop},
  p.tables.exec = Jvm.exec → c.code = cc → c.maxLocals = ls.size → (∀ w ∈ jW, w.before args s = true) → s.vm.findClass (oN o) = some m.cls → decode cc pc = .ok (.invokestatic n, 3) → d + 2 ≤ R.frames → 100 * (d + 2) ≤ R.locals → cells + mc ≤ R.cells → slots + ms ≤ R.slots → m' < 230 →
  (Cond.methodLink (oN o) n ⟨oN o, (mY m').name, (mY m').desc⟩).before args s = true → (Cond.sameMethod (oN o) (mY m').cls (mY m').name (mY m').desc).before args s = true → (Cond.static (mY m')).before args s = true → (Cond.initialized (mY m').cls).before args s = true →
  Met l (mY m') (jws m') (jRM d mc ms) Pc Qc mc ms free → PreS s H Pc As → As.length = mP m' → (rest.map fun v => v.category).sum ≤ 8 →
  va_Run p l e R s m args below meth c H locs cells slots mc ms (F0 m pc ls (As.reverse ++ rest)) rest (Qc As.toArray) free
set_option maxHeartbeats 1000000 in
theorem soundF (hu : upOk l) (hx : p.tables.exec = Jvm.exec) (hb : c.code = mB m) (hml : c.maxLocals = mL m) (hr : meth.sig.returnType = mR m) (hlocks : meth.locks = false) (hts : ∀ w ∈ jW, w.before args s = true) (hown : s.vm.findClass (oN (mO m)) = some mi.cls) (hin : isInit m = true → meth.name = "<init>")
    (hA : ∀ k, k < σ'.2.1 → A (b + k))
    (hC : ∀ d', d = d' + 1 → ∀ (m' : Nat) (a : List jV) (σ : jS) (r : Option jV) (σ' : jS), m' < 230 → szS a ≤ mL m' → (∃ f, run f d' m' 0 (iniL (mL m') a) [] σ = some (r, σ')) → (∀ k, k < σ'.2.1 → A (b + k)) → (σ.1 = true → 0 < σ.2.1) → jMet l D b A d' m' a σ r σ') :
    ∀ (f pc : Nat) (L : jL) (S : List jV) (σ : jS), run f d m pc L S σ = some (r, σ') → ∀ (ls : Array Slot) (H : Heap) (locs : List Loc) (cells slots : Nat), jLs b (mL m) ls L → jR D b σ s H → va_S A s.heap H locs → (σ.1 = true → s.heap.size + cells = b + σ.2.1 ∧ 0 < σ.2.1) → cells + (σ'.2.1 - σ.2.1) = mc → slots + (σ'.2.2.1 - σ.2.2.1) = ms →
      W p l e (jRM d mc ms) s mi args below meth c H locs cells slots (MQ below (jQ D b r σ' A) args s mc ms A) (F0 mi pc ls (S.map (rv b))) := by
  intro f
  induction f with
  | zero => intro pc L S σ h; simp [run] at h
  | succ f ih =>
    intro pc L S σ h ls H locs cells slots hl hR hS hN hmc hms
    have hmono := run_mono _ _ _ _ _ _ _ _ _ h
    have hml2 : c.maxLocals = ls.size := by rw [hml, hl.2.1]
    have hfr : 1 ≤ (jRM d mc ms).frames := Nat.le_add_left 1 d
    have hlo : 100 ≤ (jRM d mc ms).locals := by show 100 ≤ 100 * (d + 1); omega
    unfold run at h
    split at h <;> try (cases h; done)
    rename_i i len hd
    split at h
    case isFalse => cases h
    rename_i hlen
    cases h1 : s1 (mO m) i L S with
    | some q =>
      obtain ⟨L1, S1⟩ := q
      rw [h1] at h
      dsimp only at h
      have hlen2 : len = ilen i := by
        unfold lenOk at hlen
        split at hlen
        · cases h1
        · cases h1
        · exact beq_iff_eq.mp hlen
      subst hlen2
      exact w1 hx hb hts hown hd hl h1 (fun ls' hl' => ih _ _ _ _ h ls' H locs cells slots hl' hR hS hN hmc hms)
    | none =>
      rw [h1] at h
      dsimp only at h
      cases h2 : s2 (mO m) (isInit m) i S σ with
      | some q =>
        obtain ⟨S1, σ1⟩ := q
        rw [h2] at h
        dsimp only at h
        have hlen2 : len = ilen i := by
          unfold lenOk at hlen
          split at hlen
          · cases h2
          · cases h2
          · exact beq_iff_eq.mp hlen
        subst hlen2
        obtain ⟨a1, a2, a3⟩ := s2_mono h2
        obtain ⟨b1, b2, b3⟩ := run_mono _ _ _ _ _ _ _ _ _ h
        refine w2 hx hb hml2 hts hown hd hin hR hS (fun k hk => hA k (by omega)) (fun ho => (hN ho).1) hfr hlo ?_ ?_ h2 (fun H1 locs1 c1 s1 g1 g2 g3 g4 g5 => ih _ _ _ _ h ls H1 locs1 c1 s1 hl g1 g2 (fun ho => ?_) ?_ ?_)
        · show _ ≤ mc; omega
        · show _ ≤ ms; omega
        · have := hN (g3.symm.trans ho)
          omega
        · omega
        · omega
      | none =>
        rw [h2] at h
        dsimp only at h
        cases h3 : s3 i pc len S with
        | some q =>
          obtain ⟨pc1, S1⟩ := q
          rw [h3] at h
          dsimp only at h
          exact w3 hx hb hd hlen h3 (ih _ _ _ _ h ls H locs cells slots hl hR hS hN hmc hms)
        | none =>
          rw [h3] at h
          dsimp only at h
          cases h4 : s4 (mR m) i S with
          | some q =>
            rw [h4] at h
            cases h
            have e1 : mc = cells := by omega
            have e2 : ms = slots := by omega
            subst e1; subst e2
            have hq : ∀ (v : Option Value), v = r.map (rv b) → ∀ t : State, t.heap = H → s.WarmedH t.vm → jQ D b r σ' A args s (.returned v) t := fun v hv t ht hW => ⟨by rw [hv], by rw [ht]; exact hR.warm hW, hS.F ht⟩
            cases i
            case ireturn =>
              have hlen : (len == 1) = true := hlen
              rw [beq_iff_eq] at hlen
              subst hlen
              unfold s4 at h4
              dsimp only at h4
              split at h4
              · rename_i x hrt
                cases h4
                rw [hrt] at hr
                exact W.zret hx hb hr rfl (hq _ rfl) hS.2.2 hd hlocks
              · rename_i x hrt
                split at h4 <;> cases h4
                rename_i hz
                simp only [Bool.or_eq_true, decide_eq_true_eq] at hz
                rw [hrt] at hr
                exact W.zret hx hb hr (by rcases hz with rfl | rfl <;> decide) (hq _ rfl) hS.2.2 hd hlocks
              · cases h4
            case areturn =>
              have hlen : (len == 1) = true := hlen
              rw [beq_iff_eq] at hlen
              subst hlen
              unfold s4 at h4
              dsimp only at h4
              split at h4
              · rename_i x nn hrt
                cases h4
                rw [hrt] at hr
                exact W.aret hx hb hr (Or.inl ⟨_, rfl⟩) (Or.inr ⟨_, rfl⟩) (hq _ rfl) hS.2.2 hd hlocks
              · cases h4
            case return_ =>
              have hlen : (len == 1) = true := hlen
              rw [beq_iff_eq] at hlen
              subst hlen
              unfold s4 at h4
              dsimp only at h4
              split at h4
              · rename_i hrt
                cases h4
                rw [hrt] at hr
                exact W.vret hx hb hr (hq _ rfl) hS.2.2 hd hlocks
              · cases h4
            all_goals (unfold s4 at h4; cases h4)
          | none =>
            rw [h4] at h
            dsimp only at h
            cases h5 : s5 (mO m) i S σ with
            | none => rw [h5] at h; cases h
            | some q =>
              obtain ⟨m', a, S1⟩ := q
              rw [h5] at h
              dsimp only at h
              cases d with
              | zero => cases h
              | succ d =>
                dsimp only at h
                by_cases hz : szS a ≤ mL m'
                case neg => rw [if_neg hz] at h; cases h
                rw [if_pos hz] at h
                cases h6 : run f d m' 0 (iniL (mL m') a) [] σ with
                | none => rw [h6] at h; cases h
                | some q =>
                  obtain ⟨r1, σ1⟩ := q
                  rw [h6] at h
                  dsimp only at h
                  obtain ⟨a1, a2, a3⟩ := run_mono _ _ _ _ _ _ _ _ _ h6
                  obtain ⟨b1, b2, b3⟩ := run_mono _ _ _ _ _ _ _ _ _ h
                  have hlen2 : len = 3 := by
                    cases i <;> first | (unfold s5 at h5; cases h5; done) | exact beq_iff_eq.mp hlen
                  subst hlen2
                  have hM : m' < 230 → jMet l D b A d m' a σ r1 σ1 := fun hm' => hC d rfl m' a σ r1 σ1 hm' hz ⟨f, h6⟩ (fun k hk => hA k (by omega)) (fun ho => (hN ho).2)
                  refine w5 (d := d) (r := r1) (σ' := σ1) hx hb hml2 hts hown hd hR hS hN (Nat.le_refl _) (Nat.le_refl _) (by show _ ≤ mc; omega) (by show _ ≤ ms; omega) h5 hM ?_ (fun H1 locs1 g1 g2 => ih _ _ _ _ h ls H1 locs1 _ _ hl g1 g2 (fun ho => ?_) ?_ ?_)
                  · intro n g1 g2 g3 g4 g5 g6 g7 g8
                    obtain ⟨k1, k2, k3, -⟩ := tS_use hts g1
                    have := hu (As := a.map (rv b)) (rest := S1.map (rv b)) (R := jRM (d + 1) mc ms) (H := H) (locs := locs) (cells := cells) (slots := slots) (below := below) (meth := meth) (e := e) hx hb hml2 hts hown g4 (Nat.le_refl _) (Nat.le_refl _) (by show _ ≤ mc; omega) (by show _ ≤ ms; omega) k1 g2 g3 k2 k3 (hM k1) ⟨jP_blind, pre_of hR g8⟩ (by rw [List.length_map]; exact g5) (by rw [sz_rv]; exact g7)
                    rw [g6, rev_map]
                    exact this
                  · have := hN (a3.symm.trans ho)
                    omega
                  · omega
                  · omega
theorem sound1 (hu : upOk l) (d : Nat) (hC : ∀ d', d = d' + 1 → ∀ (m' : Nat) (a : List jV) (σ : jS) (r : Option jV) (σ' : jS), m' < 230 → szS a ≤ mL m' → (∃ f, run f d' m' 0 (iniL (mL m') a) [] σ = some (r, σ')) → (∀ k, k < σ'.2.1 → A (b + k)) → (σ.1 = true → 0 < σ.2.1) → jMet l D b A d' m' a σ r σ')
    (m : Nat) (a : List jV) (σ : jS) (r : Option jV) (σ' : jS) (hm : m < 230) (hz : szS a ≤ mL m) (hf : ∃ f, run f d m 0 (iniL (mL m) a) [] σ = some (r, σ')) (hA : ∀ k, k < σ'.2.1 → A (b + k)) (hpos : σ.1 = true → 0 < σ.2.1) : jMet l D b A d m a σ r σ' := by
  obtain ⟨f, hf⟩ := hf
  refine Met.ofW (cc := mB m) (maxL := mL m) (ret := mR m) (mT_cls hm).2.2.1 rfl ?_
  intro p e s mi args below meth c s₁ B hml hv
  obtain ⟨rfl, hR, hsz⟩ := hv
  have hts0 := atoms_spec (ws := jws m) B.pre
  have hts : ∀ w ∈ jW, w.before ((a.map (rv b)).toArray) s = true := fun w hw => hts0 w (List.mem_cons_of_mem _ hw)
  have hown : s.vm.findClass (oN (mO m)) = some mi.cls := by rw [← (mT_cls hm).1]; exact findClass_of_methodNamed B.named
  have hin : isInit m = true → meth.name = "<init>" := fun h => (name_of_methodNamed B.named B.method).1.trans (beq_iff_eq.mp h)
  have hl := lv_entry (a.map (rv b)) (n := mL m) (by rw [lgl_len]; exact hz)
  rw [lg_entry_eq]
  generalize (lg_sl (a.map (rv b)) ++ List.replicate (mL m - (lg_sl (a.map (rv b))).length) Slot.unset).toArray = ls at hl ⊢
  exact soundF hu B.exec B.bytes hml B.returns B.notSynchronized hts hown hin hA hC f 0 _ [] σ hf ls s.heap [] 0 0 (ini_ls hz hl) hR va_S.rf (fun ho => ⟨by rw [hsz ho]; rfl, hpos ho⟩) (Nat.zero_add _) (Nat.zero_add _)
theorem sound (hu : upOk l) : ∀ (d m : Nat) (a : List jV) (σ : jS) (r : Option jV) (σ' : jS), m < 230 → szS a ≤ mL m → (∃ f, run f d m 0 (iniL (mL m) a) [] σ = some (r, σ')) → (∀ k, k < σ'.2.1 → A (b + k)) → (σ.1 = true → 0 < σ.2.1) → jMet l D b A d m a σ r σ' := by
  intro d
  induction d with
  | zero => exact sound1 hu 0 (fun d' h => by cases h)
  | succ d ihd => exact sound1 hu (d + 1) (fun d' h => by cases h; exact ihd)
end SND
