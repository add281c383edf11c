section W2b
variable {p : Program} {l : Launch} {e : Env} {R : Room} {s : State} {m : MethodId} {args : Array Value} {below : List Frame} {meth : Method} {c : Code} {H : Heap} {locs : List Loc} {cells slots : Nat} {Q : State → Prop} {cc : ByteArray} {b nL pc o : Nat} {ls : Array Slot} {rest : List Value} {D : va_G} {σ : jS} {A : Nat → Prop}
theorem arr_ty {k : Nat} {ac : Nat → ClassId} {tys : List (ClassId × FieldType)} {sh : Nat → Nat × Nat} {n : Nat}
    (hT : ∀ k, k < n → ((sh k).1 < 12 ∧ (sh k).2 = 0) ∨ (50 ≤ (sh k).1 ∧ (sh k).1 ≤ 54 ∧ (sh k).2 < 100001 ∧ ∃ t0 : Nat, tys[t0]? = some (ac k, aT (sh k).1))) (hk : k < n) (h : 50 ≤ (sh k).1) : (sh k).1 ≤ 54 ∧ (sh k).2 < 100001 ∧ ∃ t0 : Nat, tys[t0]? = some (ac k, aT (sh k).1) := by
  rcases hT k hk with ⟨q, -⟩ | ⟨-, h1, h2, h3⟩
  · omega
  · exact ⟨h1, h2, h3⟩
theorem w_iald {k : Nat} {x : Int} (hx : p.tables.exec = Jvm.exec) (hb : c.code = cc) (hd : decode cc pc = .ok (.iaload, 1)) (hR : jR D b σ s H) (hk : k < σ.2.1) (ht : (σ.2.2.2.1 k).1 = 50) (h0 : 0 ≤ x) (h1 : x < (σ.2.2.2.1 k).2)
    (kk : W p l e R s m args below meth c H locs cells slots Q (F0 m (pc + 1) ls (.int (Int32.ofInt (σ.2.2.2.2.1 k x)) :: rest))) : W p l e R s m args below meth c H locs cells slots Q (F0 m pc ls (.int (Int32.ofInt x) :: .ref (b + k) :: rest)) := by
  obtain ⟨ac, tys, hK, hT, hP, hX⟩ := hR
  obtain ⟨-, h2, t0, h3⟩ := arr_ty hT hk (by omega)
  rw [ht] at h3
  have h4 := oI_in h0 h1 h2
  refine va_iald hx hb hK hP k t0 (by rw [wld_at hk, wE_int (by omega) (by omega)]) h3 h4.1 hd ?_
  rw [h4.2, Int.toNat_of_nonneg h0]
  exact kk
theorem w_zald {k : Nat} {x : Int} (hx : p.tables.exec = Jvm.exec) (hb : c.code = cc) (hd : decode cc pc = .ok (.baload, 1)) (hR : jR D b σ s H) (hk : k < σ.2.1) (ht : (σ.2.2.2.1 k).1 = 51) (h0 : 0 ≤ x) (h1 : x < (σ.2.2.2.1 k).2)
    (kk : W p l e R s m args below meth c H locs cells slots Q (F0 m (pc + 1) ls (.int (Int32.ofInt (σ.2.2.2.2.1 k x)) :: rest))) : W p l e R s m args below meth c H locs cells slots Q (F0 m pc ls (.int (Int32.ofInt x) :: .ref (b + k) :: rest)) := by
  obtain ⟨ac, tys, hK, hT, hP, hX⟩ := hR
  obtain ⟨-, h2, t0, h3⟩ := arr_ty hT hk (by omega)
  rw [ht] at h3
  have h4 := oI_in h0 h1 h2
  refine va_zald hx hb hK hP k t0 (by rw [wld_at hk, wE_int (by omega) (by omega)]) h3 h4.1 hd ?_
  rw [h4.2, Int.toNat_of_nonneg h0]
  exact kk
theorem w_aald {k : Nat} {x : Int} (hx : p.tables.exec = Jvm.exec) (hb : c.code = cc) (hd : decode cc pc = .ok (.aaload, 1)) (hR : jR D b σ s H) (hk : k < σ.2.1) (ht : 52 ≤ (σ.2.2.2.1 k).1) (ht2 : (σ.2.2.2.1 k).1 ≤ 54) (h0 : 0 ≤ x) (h1 : x < (σ.2.2.2.1 k).2)
    (kk : W p l e R s m args below meth c H locs cells slots Q (F0 m (pc + 1) ls (rv b (.inr (.inr (σ.2.2.2.2.2 k x))) :: rest))) : W p l e R s m args below meth c H locs cells slots Q (F0 m pc ls (.int (Int32.ofInt x) :: .ref (b + k) :: rest)) := by
  obtain ⟨ac, tys, hK, hT, hP, hX⟩ := hR
  obtain ⟨-, h2, t0, h3⟩ := arr_ty hT hk (by omega)
  have h4 := oI_in h0 h1 h2
  have h5 : aT (σ.2.2.2.1 k).1 = .object (aC (σ.2.2.2.1 k).1) := by
    rcases (show (σ.2.2.2.1 k).1 = 52 ∨ (σ.2.2.2.1 k).1 = 53 ∨ (σ.2.2.2.1 k).1 = 54 by omega) with q | q | q <;> rw [q] <;> rfl
  rw [h5] at h3
  refine va_aldq hx hb hK hP k t0 (by rw [wld_at hk, wE_ref ht]) h3 h4.1 hd ?_
  rw [h4.2, Int.toNat_of_nonneg h0, ← rv_rf]
  exact kk
theorem updI {I : Nat → Int → Int} {k : Nat} {x z : Int} (h0 : 0 ≤ x) : upd (fun (j : Nat) => Int32.ofInt (I k j)) x.toNat (Int32.ofInt z) = fun (j : Nat) => Int32.ofInt (up I k x z k j) := by
  funext j
  unfold upd up
  by_cases h : j = x.toNat
  · rw [if_pos h, if_pos ⟨rfl, by omega⟩]
  · rw [if_neg h, if_neg (fun q => h (by omega))]
theorem w_iast {k : Nat} {x z : Int} (hx : p.tables.exec = Jvm.exec) (hb : c.code = cc) (hd : decode cc pc = .ok (.iastore, 1)) (hR : jR D b σ s H) (hS : va_S A s.heap H locs) (hA : ∀ k, k < σ.2.1 → A (b + k)) (hk : k < σ.2.1) (ht : (σ.2.2.2.1 k).1 = 50) (h0 : 0 ≤ x) (h1 : x < (σ.2.2.2.1 k).2)
    (kk : ∀ (H1 : Heap) (locs1 : List Loc), jR D b (σ.1, σ.2.1, σ.2.2.1, σ.2.2.2.1, up σ.2.2.2.2.1 k x z, σ.2.2.2.2.2) s H1 → va_S A s.heap H1 locs1 → W p l e R s m args below meth c H1 locs1 cells slots Q (F0 m (pc + 1) ls rest)) : W p l e R s m args below meth c H locs cells slots Q (F0 m pc ls (.int (Int32.ofInt z) :: .int (Int32.ofInt x) :: .ref (b + k) :: rest)) := by
  obtain ⟨ac, tys, hK, hT, hP, hX⟩ := hR
  obtain ⟨-, h2, t0, h3⟩ := arr_ty hT hk (by omega)
  rw [ht] at h3
  have h4 := oI_in h0 h1 h2
  refine va_iast hx hb hK hP (wld_D hA) hS k t0 (by rw [wld_at hk, wE_int (by omega) (by omega)]) h3 h4.1 hd (fun H1 locs1 hP1 _ hS1 => kk H1 locs1 ?_ hS1)
  refine jR_set hK hT hX hk ?_ (fun j hj => wE_I hj) hP1
  rw [wE_int (by omega) (by omega), h4.2, updI h0]
theorem w_zast {k : Nat} {x z : Int} (hx : p.tables.exec = Jvm.exec) (hb : c.code = cc) (hd : decode cc pc = .ok (.bastore, 1)) (hR : jR D b σ s H) (hS : va_S A s.heap H locs) (hA : ∀ k, k < σ.2.1 → A (b + k)) (hk : k < σ.2.1) (ht : (σ.2.2.2.1 k).1 = 51) (h0 : 0 ≤ x) (h1 : x < (σ.2.2.2.1 k).2) (hz : z = 0 ∨ z = 1)
    (kk : ∀ (H1 : Heap) (locs1 : List Loc), jR D b (σ.1, σ.2.1, σ.2.2.1, σ.2.2.2.1, up σ.2.2.2.2.1 k x z, σ.2.2.2.2.2) s H1 → va_S A s.heap H1 locs1 → W p l e R s m args below meth c H1 locs1 cells slots Q (F0 m (pc + 1) ls rest)) : W p l e R s m args below meth c H locs cells slots Q (F0 m pc ls (.int (Int32.ofInt z) :: .int (Int32.ofInt x) :: .ref (b + k) :: rest)) := by
  obtain ⟨ac, tys, hK, hT, hP, hX⟩ := hR
  obtain ⟨-, h2, t0, h3⟩ := arr_ty hT hk (by omega)
  rw [ht] at h3
  have h4 := oI_in h0 h1 h2
  refine va_zast hx hb hK hP (wld_D hA) hS k t0 (by rw [wld_at hk, wE_int (by omega) (by omega)]) h3 h4.1 hd (fun H1 locs1 hP1 _ hS1 => kk H1 locs1 ?_ hS1)
  refine jR_set hK hT hX hk ?_ (fun j hj => wE_I hj) hP1
  have h5 : vp_nar .boolean (Int32.ofInt z) = Int32.ofInt z := by rcases hz with rfl | rfl <;> decide
  rw [wE_int (by omega) (by omega), h4.2, h5, updI h0]
theorem updR {Rf : Nat → Int → Option Nat} {k q : Nat} {x : Int} (h0 : 0 ≤ x) : va_up (fun (j : Nat) => (Rf k j).map (b + ·)) x.toNat (some (b + q)) = fun (j : Nat) => (up Rf k x (some q) k j).map (b + ·) := by
  funext j
  unfold va_up up
  by_cases h : j = x.toNat
  · rw [if_pos h, if_pos ⟨rfl, by omega⟩]; rfl
  · rw [if_neg h, if_neg (fun q => h (by omega))]
theorem tIt_use {ci t : Nat} (hX : jX s) (hci : ci < 12) (h : tIt ci t = true) (ht : 52 ≤ t) (ht2 : t ≤ 54) : (cN ci = aC t) ∨ va_Nw (.castable (cN ci) (aC t)) s := by
  rcases (show t = 52 ∨ t = 53 ∨ t = 54 by omega) with rfl | rfl | rfl
  · have h : (ci == 4) = true := h
    rw [beq_iff_eq] at h
    subst h
    exact Or.inl rfl
  · have h : (ci == 5 || ci == 7 || ci == 0 || ci == 9 || ci == 2) = true := h
    simp only [Bool.or_eq_true, beq_iff_eq] at h
    right
    rcases h with (((rfl | rfl) | rfl) | rfl) | rfl
    · exact hX.2.2.1 (RX6, RX4) (by decide)
    · exact hX.2.2.1 (RX8, RX4) (by decide)
    · exact hX.2.2.1 (RX0, RX4) (by decide)
    · exact hX.2.2.1 (RX10, RX4) (by decide)
    · exact hX.2.2.1 (RX2, RX4) (by decide)
  · have h : (ci == 1) = true := h
    rw [beq_iff_eq] at h
    subst h
    exact Or.inl rfl
theorem w_aast {k q : Nat} {x : Int} (hx : p.tables.exec = Jvm.exec) (hb : c.code = cc) (hd : decode cc pc = .ok (.aastore, 1)) (hR : jR D b σ s H) (hS : va_S A s.heap H locs) (hA : ∀ k, k < σ.2.1 → A (b + k)) (hk : k < σ.2.1) (hq : q < σ.2.1) (hq2 : (σ.2.2.2.1 q).1 < 12) (ht : 52 ≤ (σ.2.2.2.1 k).1) (ht2 : (σ.2.2.2.1 k).1 ≤ 54) (hi : tIt (σ.2.2.2.1 q).1 (σ.2.2.2.1 k).1 = true) (h0 : 0 ≤ x) (h1 : x < (σ.2.2.2.1 k).2)
    (kk : ∀ (H1 : Heap) (locs1 : List Loc), jR D b (σ.1, σ.2.1, σ.2.2.1, σ.2.2.2.1, σ.2.2.2.2.1, up σ.2.2.2.2.2 k x (some q)) s H1 → va_S A s.heap H1 locs1 → W p l e R s m args below meth c H1 locs1 cells slots Q (F0 m (pc + 1) ls rest)) : W p l e R s m args below meth c H locs cells slots Q (F0 m pc ls (.ref (b + q) :: .int (Int32.ofInt x) :: .ref (b + k) :: rest)) := by
  obtain ⟨ac, tys, hK, hT, hP, hX⟩ := hR
  obtain ⟨-, h2, t0, h3⟩ := arr_ty hT hk (by omega)
  have h4 := oI_in h0 h1 h2
  have h5 : aT (σ.2.2.2.1 k).1 = .object (aC (σ.2.2.2.1 k).1) := by
    rcases (show (σ.2.2.2.1 k).1 = 52 ∨ (σ.2.2.2.1 k).1 = 53 ∨ (σ.2.2.2.1 k).1 = 54 by omega) with q | q | q <;> rw [q] <;> rfl
  rw [h5] at h3
  have hsq : σ.2.2.2.1 q = ((σ.2.2.2.1 q).1, 0) := by
    rcases hT q hq with ⟨-, z⟩ | ⟨z, -⟩
    · rw [← z]
    · omega
  have fin : ∀ (H1 : Heap), va_P D jcl ((wld b ac σ.2.1 σ.2.2.2.1 σ.2.2.2.2.1 σ.2.2.2.2.2).set k (b + k, .inl (ac k, (σ.2.2.2.1 k).2, .inr (.inr (.inr (.inr (va_up (fun (j : Nat) => (σ.2.2.2.2.2 k j).map (b + ·)) (Int32.ofInt x).toNatClampNeg (some (b + q))))))))) H1 → jR D b (σ.1, σ.2.1, σ.2.2.1, σ.2.2.2.1, σ.2.2.2.2.1, up σ.2.2.2.2.2 k x (some q)) s H1 := by
    intro H1 hP1
    refine jR_set hK hT hX hk ?_ (fun j hj => wE_R hj) hP1
    rw [wE_ref ht, h4.2, updR h0]
  rcases tIt_use hX hq2 hi ht ht2 with h6 | h6
  · exact va_astq hx hb hK hP (wld_D hA) hS k t0 q (σ.2.2.2.1 q).1 (r := (cN (σ.2.2.2.1 q).1, cT (σ.2.2.2.1 q).1, cF (σ.2.2.2.1 q).1)) (by rw [wld_at hk, wE_ref ht]) (by rw [h3]; dsimp only; rw [h6]) (by rw [wld_at hq, wE_obj hsq hq2]) (cl_at hq2) h4.1 hd (fun H1 locs1 hP1 _ hS1 => kk H1 locs1 (fin H1 hP1) hS1)
  · exact va_astqO hx hb hK hP (wld_D hA) hS k t0 q (σ.2.2.2.1 q).1 (r := (cN (σ.2.2.2.1 q).1, cT (σ.2.2.2.1 q).1, cF (σ.2.2.2.1 q).1)) (by rw [wld_at hk, wE_ref ht]) h3 h6 (by rw [wld_at hq, wE_obj hsq hq2]) (cl_at hq2) h4.1 hd (fun H1 locs1 hP1 _ hS1 => kk H1 locs1 (fin H1 hP1) hS1)
theorem w_len {k : Nat} (hx : p.tables.exec = Jvm.exec) (hb : c.code = cc) (hd : decode cc pc = .ok (.arraylength, 1)) (hR : jR D b σ s H) (hk : k < σ.2.1) (ht : 50 ≤ (σ.2.2.2.1 k).1)
    (kk : W p l e R s m args below meth c H locs cells slots Q (F0 m (pc + 1) ls (.int (Int32.ofInt ((σ.2.2.2.1 k).2 : Nat)) :: rest))) : W p l e R s m args below meth c H locs cells slots Q (F0 m pc ls (.ref (b + k) :: rest)) := by
  obtain ⟨ac, tys, hK, hT, hP, hX⟩ := hR
  obtain ⟨h1, h2, t0, h3⟩ := arr_ty hT hk ht
  by_cases h4 : (σ.2.2.2.1 k).1 < 52
  · exact va_alen hx hb hK hP k t0 (by rw [wld_at hk, wE_int ht h4]) h3 (Int32.ofInt_eq_ofNat.symm) hd kk
  · exact va_alen hx hb hK hP k t0 (by rw [wld_at hk, wE_ref (by omega)]) h3 (Int32.ofInt_eq_ofNat.symm) hd kk
theorem tO_use {n w : Nat} (hts : ∀ w ∈ jW, w.before args s = true) (h : tO o n = some w) : (Cond.classLink (oN o) n (oN w)).before args s = true := by
  obtain ⟨⟨e0, e1, e2, e3⟩, he, h1, h2⟩ := find_mem h
  have h3 := List.all_eq_true.mp tO_ok _ he
  simp only [Bool.and_eq_true, beq_iff_eq, decide_eq_true_eq] at h1 h3
  obtain ⟨rfl, rfl⟩ := h1
  cases h2
  exact hts _ (jW_mem h3 rfl)
def inC : List (Nat × Nat × Bool) := [(5, 6, true), (5, 8, false), (5, 0, false), (5, 10, false), (5, 2, false), (7, 6, true), (7, 8, true), (7, 0, false), (7, 10, false), (7, 2, false), (0, 6, true), (0, 8, false), (0, 0, true), (0, 10, false), (0, 2, false), (9, 6, false), (9, 8, false), (9, 0, false), (9, 10, true), (9, 2, false), (2, 6, false), (2, 8, false), (2, 0, false), (2, 10, true), (2, 2, true)]
theorem tIn_in {ci w : Nat} {r : Bool} (h : tIn ci w = some r) : (ci, w, r) ∈ inC := by
  unfold tIn at h
  split at h <;> first | (cases h; decide) | cases h
theorem inC_ok : inC.all (fun q => (decide (q.1 < 12) && decide (q.2.1 < 13)) && if q.2.2 then decide (cN q.1 = oN q.2.1) || decide ((cN q.1, oN q.2.1) ∈ yesC) else decide ((cN q.1, oN q.2.1) ∈ noC)) = true := by decide +kernel
theorem w_inst {n k w : Nat} {r : Bool} (hx : p.tables.exec = Jvm.exec) (hb : c.code = cc) (hts : ∀ w ∈ jW, w.before args s = true) (hown : s.vm.findClass (oN o) = some m.cls) (hd : decode cc pc = .ok (.instanceof n, 3)) (hR : jR D b σ s H) (ht : tO o n = some w) (hk : k < σ.2.1) (hs : (σ.2.2.2.1 k).1 < 12) (hr : tIn (σ.2.2.2.1 k).1 w = some r)
    (kk : W p l e R s m args below meth c H locs cells slots Q (F0 m (pc + 3) ls (.int (Int32.ofInt (if r then 1 else 0)) :: rest))) : W p l e R s m args below meth c H locs cells slots Q (F0 m pc ls (.ref (b + k) :: rest)) := by
  obtain ⟨ac, tys, hK, hT, hP, hX⟩ := hR
  have hsk : σ.2.2.2.1 k = ((σ.2.2.2.1 k).1, 0) := by
    rcases hT k hk with ⟨-, z⟩ | ⟨z, -⟩
    · rw [← z]
    · omega
  have hrec := va_recv hK hP (ci := (σ.2.2.2.1 k).1) (q0 := k) (cl_at hs) (by rw [wld_at hk, wE_obj hsk hs])
  have h1 := List.all_eq_true.mp inC_ok _ (tIn_in hr)
  have hlink := tO_use hts ht
  cases r
  · simp only [Bool.and_eq_true, decide_eq_true_eq] at h1
    have h2 : (cN (σ.2.2.2.1 k).1, oN w) ∈ noC := by simpa using h1.2
    have h3 : va_Nc (cN (σ.2.2.2.1 k).1) (oN w) s := hX.2.2.2.2 _ h2
    exact va_instNo hx hb hown hlink h3 hrec hd kk
  · simp only [Bool.and_eq_true, decide_eq_true_eq, if_true, Bool.or_eq_true] at h1
    rcases h1.2 with h2 | h2
    · have h3 : ClassAt s (cN (σ.2.2.2.1 k).1) _ := (hK.1 _ _ (cl_at hs)).2
      rw [h2] at h3
      exact va_instS hx hb hown hlink h3 (by rw [← h2]; exact hrec) hd kk
    · have h3 : va_Nw (.castable (cN (σ.2.2.2.1 k).1) (oN w)) s := hX.2.2.1 _ h2
      exact va_instY hx hb hown hlink h3 hrec hd kk
end W2b
