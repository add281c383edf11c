/-! Integer.bitCount, at 0 to 31 -/
def yBC : MethodName := ⟨RJ6, "bitCount", "(I)I"⟩
abbrev cBC : ByteArray := prog_15_method_49_code
def wBC : List Cond := .code yBC cBC 1 (some .int) :: [.constant RJ6 265 1431655765, .constant RJ6 266 858993459, .constant RJ6 267 252645135]
theorem dBC_0 : decode cBC 0 = .ok (.iload_n 0, 1) := by decide +kernel
theorem dBC_1 : decode cBC 1 = .ok (.iload_n 0, 1) := by decide +kernel
theorem dBC_2 : decode cBC 2 = .ok (.iconst 1, 1) := by decide +kernel
theorem dBC_3 : decode cBC 3 = .ok (.iushr, 1) := by decide +kernel
theorem dBC_4 : decode cBC 4 = .ok (.ldc_w 265, 3) := by decide +kernel
theorem dBC_7 : decode cBC 7 = .ok (.iand, 1) := by decide +kernel
theorem dBC_8 : decode cBC 8 = .ok (.isub, 1) := by decide +kernel
theorem dBC_9 : decode cBC 9 = .ok (.istore_n 0, 1) := by decide +kernel
theorem dBC_10 : decode cBC 10 = .ok (.iload_n 0, 1) := by decide +kernel
theorem dBC_11 : decode cBC 11 = .ok (.ldc_w 266, 3) := by decide +kernel
theorem dBC_14 : decode cBC 14 = .ok (.iand, 1) := by decide +kernel
theorem dBC_15 : decode cBC 15 = .ok (.iload_n 0, 1) := by decide +kernel
theorem dBC_16 : decode cBC 16 = .ok (.iconst 2, 1) := by decide +kernel
theorem dBC_17 : decode cBC 17 = .ok (.iushr, 1) := by decide +kernel
theorem dBC_18 : decode cBC 18 = .ok (.ldc_w 266, 3) := by decide +kernel
theorem dBC_21 : decode cBC 21 = .ok (.iand, 1) := by decide +kernel
theorem dBC_22 : decode cBC 22 = .ok (.iadd, 1) := by decide +kernel
theorem dBC_23 : decode cBC 23 = .ok (.istore_n 0, 1) := by decide +kernel
theorem dBC_24 : decode cBC 24 = .ok (.iload_n 0, 1) := by decide +kernel
theorem dBC_25 : decode cBC 25 = .ok (.iload_n 0, 1) := by decide +kernel
theorem dBC_26 : decode cBC 26 = .ok (.iconst 4, 1) := by decide +kernel
theorem dBC_27 : decode cBC 27 = .ok (.iushr, 1) := by decide +kernel
theorem dBC_28 : decode cBC 28 = .ok (.iadd, 1) := by decide +kernel
theorem dBC_29 : decode cBC 29 = .ok (.ldc_w 267, 3) := by decide +kernel
theorem dBC_32 : decode cBC 32 = .ok (.iand, 1) := by decide +kernel
theorem dBC_33 : decode cBC 33 = .ok (.istore_n 0, 1) := by decide +kernel
theorem dBC_34 : decode cBC 34 = .ok (.iload_n 0, 1) := by decide +kernel
theorem dBC_35 : decode cBC 35 = .ok (.iload_n 0, 1) := by decide +kernel
theorem dBC_36 : decode cBC 36 = .ok (.bipush 8, 2) := by decide +kernel
theorem dBC_38 : decode cBC 38 = .ok (.iushr, 1) := by decide +kernel
theorem dBC_39 : decode cBC 39 = .ok (.iadd, 1) := by decide +kernel
theorem dBC_40 : decode cBC 40 = .ok (.istore_n 0, 1) := by decide +kernel
theorem dBC_41 : decode cBC 41 = .ok (.iload_n 0, 1) := by decide +kernel
theorem dBC_42 : decode cBC 42 = .ok (.iload_n 0, 1) := by decide +kernel
theorem dBC_43 : decode cBC 43 = .ok (.bipush 16, 2) := by decide +kernel
theorem dBC_45 : decode cBC 45 = .ok (.iushr, 1) := by decide +kernel
theorem dBC_46 : decode cBC 46 = .ok (.iadd, 1) := by decide +kernel
theorem dBC_47 : decode cBC 47 = .ok (.istore_n 0, 1) := by decide +kernel
theorem dBC_48 : decode cBC 48 = .ok (.iload_n 0, 1) := by decide +kernel
theorem dBC_49 : decode cBC 49 = .ok (.bipush 63, 2) := by decide +kernel
theorem dBC_51 : decode cBC 51 = .ok (.iand, 1) := by decide +kernel
theorem dBC_52 : decode cBC 52 = .ok (.ireturn, 1) := by decide +kernel
def bcF (x : Int32) : Int32 :=
  let s (x k : Int32) : Int32 := (x.toUInt32 >>> (k.toUInt32 &&& Int32.toUInt32 31)).toInt32
  let x1 := x - (s x 1 &&& 1431655765)
  let x2 := (x1 &&& 858993459) + (s x1 2 &&& 858993459)
  let x3 := (x2 + s x2 4) &&& 252645135
  let x4 := x3 + s x3 8
  let x5 := x4 + s x4 16
  x5 &&& 63
theorem bcF_ok : ∀ n, n < 32 → bcF (nI n) = Int32.ofInt (bitC (n : Int)) := by decide +kernel
set_option maxHeartbeats 4000000 in
theorem c_BC (l : Launch) (x : Int32) : Met l yBC wBC { frames := 0, cells := 0, slots := 0, locals := 0 } (va_Pc [.int x] (fun _ => True)) (fun _ st oc t => oc = .returned (some (.int (bcF x))) ∧ t.heap = st.heap) 0 0 (fun _ => False) := by
  refine Met.ofW (cc := cBC) (maxL := 1) (ret := some .int) (by decide +kernel) rfl ?_
  intro p e s m args below meth c s₁ B hml hv
  obtain ⟨rfl, -⟩ := hv
  have hx := B.exec
  have hb := B.bytes
  have hr := B.returns
  have hts := atoms_spec (ws := wBC) B.pre
  have hown : s.vm.findClass RJ6 = some m.cls := findClass_of_methodNamed B.named
  have hlocks := B.notSynchronized
  have hl := lv_entry ([.int x]) (n := 1) (Nat.le_of_ble_eq_true rfl)
  rw [lg_entry_eq]
  generalize (lg_sl ([.int x]) ++ List.replicate (1 - (lg_sl ([.int x])).length) Slot.unset).toArray = ls at hl ⊢
  have hl : lv_has ls 1 [(0, .int x)] := hl
  refine lv_iload_n hx hb dBC_0 rfl (lv_at hl 0 rfl) ?_
  refine lv_iload_n hx hb dBC_1 rfl (lv_at hl 0 rfl) ?_
  refine lv_iconst (v := 1) hx hb dBC_2 (by decide) ?_
  refine lv_iushr hx hb dBC_3 rfl ?_
  refine lv_ldcw hx hb hown (hts (.constant RJ6 265 1431655765) (by decide +kernel)) dBC_4 ?_
  refine lv_iand hx hb dBC_7 ?_
  refine lv_isub hx hb dBC_8 ?_
  refine lv_topi (fun y1 e1 => ?_)
  refine lv_istore_n (lv' := [(0, .int y1)]) hx hb dBC_9 rfl hl (by decide) rfl (fun ls hl => ?_)
  refine lv_iload_n hx hb dBC_10 rfl (lv_at hl 0 rfl) ?_
  refine lv_ldcw hx hb hown (hts (.constant RJ6 266 858993459) (by decide +kernel)) dBC_11 ?_
  refine lv_iand hx hb dBC_14 ?_
  refine lv_iload_n hx hb dBC_15 rfl (lv_at hl 0 rfl) ?_
  refine lv_iconst (v := 2) hx hb dBC_16 (by decide) ?_
  refine lv_iushr hx hb dBC_17 rfl ?_
  refine lv_ldcw hx hb hown (hts (.constant RJ6 266 858993459) (by decide +kernel)) dBC_18 ?_
  refine lv_iand hx hb dBC_21 ?_
  refine lv_iadd hx hb dBC_22 ?_
  refine lv_topi (fun y2 e2 => ?_)
  refine lv_istore_n (lv' := [(0, .int y2)]) hx hb dBC_23 rfl hl (by decide) rfl (fun ls hl => ?_)
  refine lv_iload_n hx hb dBC_24 rfl (lv_at hl 0 rfl) ?_
  refine lv_iload_n hx hb dBC_25 rfl (lv_at hl 0 rfl) ?_
  refine lv_iconst (v := 4) hx hb dBC_26 (by decide) ?_
  refine lv_iushr hx hb dBC_27 rfl ?_
  refine lv_iadd hx hb dBC_28 ?_
  refine lv_ldcw hx hb hown (hts (.constant RJ6 267 252645135) (by decide +kernel)) dBC_29 ?_
  refine lv_iand hx hb dBC_32 ?_
  refine lv_topi (fun y3 e3 => ?_)
  refine lv_istore_n (lv' := [(0, .int y3)]) hx hb dBC_33 rfl hl (by decide) rfl (fun ls hl => ?_)
  refine lv_iload_n hx hb dBC_34 rfl (lv_at hl 0 rfl) ?_
  refine lv_iload_n hx hb dBC_35 rfl (lv_at hl 0 rfl) ?_
  refine lv_bipush (v := 8) hx hb dBC_36 (by decide) ?_
  refine lv_iushr hx hb dBC_38 rfl ?_
  refine lv_iadd hx hb dBC_39 ?_
  refine lv_topi (fun y4 e4 => ?_)
  refine lv_istore_n (lv' := [(0, .int y4)]) hx hb dBC_40 rfl hl (by decide) rfl (fun ls hl => ?_)
  refine lv_iload_n hx hb dBC_41 rfl (lv_at hl 0 rfl) ?_
  refine lv_iload_n hx hb dBC_42 rfl (lv_at hl 0 rfl) ?_
  refine lv_bipush (v := 16) hx hb dBC_43 (by decide) ?_
  refine lv_iushr hx hb dBC_45 rfl ?_
  refine lv_iadd hx hb dBC_46 ?_
  refine lv_topi (fun y5 e5 => ?_)
  refine lv_istore_n (lv' := [(0, .int y5)]) hx hb dBC_47 rfl hl (by decide) rfl (fun ls hl => ?_)
  refine lv_iload_n hx hb dBC_48 rfl (lv_at hl 0 rfl) ?_
  refine lv_bipush (v := 63) hx hb dBC_49 (by decide) ?_
  refine lv_iand hx hb dBC_51 ?_
  subst e1; subst e2; subst e3; subst e4; subst e5
  exact W.iret hx hb hr (fun t ht hW => ⟨rfl, ht⟩) (fun q h => by cases h) dBC_52
section W2e
variable {p : Program} {l : Launch} {e : Env} {R : Room} {s : State} {m : MethodId} {args : Array Value} {below : List Frame} {meth : Method} {c : Code} {H : Heap} {locs : List Loc} {cells slots : Nat} {Q : State → Prop} {cc : ByteArray} {b nL pc o : Nat} {ls : Array Slot} {rest : List Value} {D : va_G} {σ : jS} {A : Nat → Prop}
theorem wBC_in : GoodIn jW wBC := by
  intro w hw
  have h : w ∈ jW := by
    rcases List.mem_cons.mp hw with rfl | hw
    · exact jW_mem (i := 723) (by decide +kernel) rfl
    rcases List.mem_cons.mp hw with rfl | hw
    · exact jW_mem (i := 724) (by decide +kernel) rfl
    rcases List.mem_cons.mp hw with rfl | hw
    · exact jW_mem (i := 725) (by decide +kernel) rfl
    rcases List.mem_cons.mp hw with rfl | hw
    · exact jW_mem (i := 726) (by decide +kernel) rfl
    · cases hw
  exact ⟨h, good_of_word (List.mem_filter.mp h).2⟩
theorem w_bit {n : Nat} {x : Int} (hx : p.tables.exec = Jvm.exec) (hb : c.code = cc) (hml : c.maxLocals = ls.size) (hts : ∀ w ∈ jW, w.before args s = true) (hown : s.vm.findClass (oN o) = some m.cls) (hd : decode cc pc = .ok (.invokestatic n, 3)) (ht : tM o n = some 1) (hf : 1 ≤ R.frames) (hlo : 20 ≤ R.locals) (hre : (rest.map fun v => v.category).sum ≤ 8) (hc : cells ≤ R.cells) (hs : slots ≤ R.slots) (h1 : 0 ≤ x) (h2 : x < 32)
    (kk : W p l e R s m args below meth c H locs cells slots Q (F0 m (pc + 3) ls (.int (Int32.ofInt (bitC x)) :: rest))) : W p l e R s m args below meth c H locs cells slots Q (F0 m pc ls (.int (Int32.ofInt x) :: rest)) := by
  refine w_call (va_runS (As := [.int (Int32.ofInt x)]) (rest := rest) (n := 1) ⟨hx, hb, hml, hown, hts⟩ (c_BC l (Int32.ofInt x)) ⟨callB_of 1 hts wBC_in rfl rfl rfl (hts (.initialized RJ6) (jW_mem (i := 76) (by decide +kernel) rfl)) (tM_use hts ht) (by decide +kernel) ⟨hf, by omega⟩, hts (.static yBC) (jW_mem (i := 722) (by decide +kernel) rfl)⟩ ⟨fun a U g mk q => q, fun U hU hW => ⟨rfl, trivial⟩⟩ rfl rfl rfl rfl (lv_room hre) hd ⟨hc, hs⟩) (fun v st₀ t H1 L e1 e2 hW hq hL => ?_)
  obtain ⟨hv, ht⟩ := hq
  cases hv
  have e3 : H1 = H := by rw [← e2, ht, e1]
  subst e3
  have e4 : L = [] := by
    cases L with
    | nil => rfl
    | cons q L => exact absurd (hL q List.mem_cons_self) id
  subst e4
  rw [List.append_nil]
  have e5 : bcF (Int32.ofInt x) = Int32.ofInt (bitC x) := by
    rw [oI_nat h1, bcF_ok x.toNat (by omega), Int.toNat_of_nonneg h1]
  rw [e5]
  exact kk
end W2e
