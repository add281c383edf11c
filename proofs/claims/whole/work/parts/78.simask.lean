def ASX (I I' : Nat → Int → Int) (l : List Int) : Prop := Rg I' ∧ TRo (I' 3 1) (I' 4) l ∧ ∀ a b, (a ≠ 3 ∧ a ≠ 4) → I' a b = I a b
theorem x_beg {d : Nat} {I : Nat → Int → Int} {ch : Int → Nat} {kd : Nat → Nat} {Q : Option jV → jS → Prop} {v : Int} (hI : Rg I) (v0 : 0 ≤ v) (v1 : v < 100) {l : List Int} (hT : TRo (I 3 1) (I 4) l) (hl : l.length < 16) (hQ : ∀ I', ASX I I' (l ++ [v]) → Q (some (vi 1)) (SX I' ch kd)) : Cl d 47 [vr 3, vi v] (SX I ch kd) Q := by
  have hn := hT.1
  refine x_push ln3 hI (by omega) (by omega) (by omega) (by omega) (fun I' r e1 e2 f => hQ I' ⟨r, tr_push hT e1 e2 (fun j hj => f 4 j (by omega) (by omega)), fun a b q => f a b (by omega) (by omega)⟩)
theorem XR.ask {I I' J J' : Nat → Int → Int} {ch : Int → Nat} {kd : Nat → Nat} {l : List Int} (h : XR I ch kd J) (hl : l.length ≤ 16) (f1 : Rg I') (f2 : TRo (I' 3 1) (I' 4) l) (ff : ∀ a b, (a ≠ 3 ∧ a ≠ 4) → I' a b = I a b) (hm : ASM J J' l) : XR I' ch kd J' := by
  obtain ⟨h1, h2, h3, h4, o1, o2, o3, o4, o5, o6⟩ := h
  obtain ⟨m1, m2, m3, m4⟩ := hm
  refine ⟨f1, m1, ?_, ?_, ?_, ⟨?_, ?_⟩, ?_, ?_, ?_, o6⟩
  · rw [m4 6 (by decide)]
    exact h3.fr (fun a b a0 a1 => ff a b (by omega))
  · exact h4.fr (fun a a0 => ff a 1 (by omega)) (fun a b a0 a1 => ff a b (by omega)) (ff 0 8 (by omega)) (ff 0 9 (by omega)) (m3 17 (by decide)) (m4 9 (by decide))
  · exact o1.fr (fun b => ff _ _ (by omega)) (fun a a0 a1 => ff a 1 (by omega)) (fun a b a0 a1 a2 => ff a b (by omega)) (m4 1 (by decide)) (m4 2 (by decide)) (m4 3 (by decide))
  · rw [ff 0 11 (by omega), m3 4 (by decide)]; exact o2.1
  · rw [ff 0 10 (by omega), m3 7 (by decide)]; exact o2.2
  · exact o3.fr (ff _ _ (by omega)) (fun b => ff _ _ (by omega)) (m3 6 (by decide)) (m4 5 (by decide))
  · exact o4.fr (fun a a0 a1 => ff a 1 (by omega)) (fun a b a0 a1 a2 => ff a b (by omega)) (m4 10 (by decide)) (m4 11 (by decide))
  · have q1 := f2.1
    have q2 := m2.1
    refine ⟨by omega, by omega, fun i i0 i1 => ?_⟩
    have x1 := f2.2 i.toNat (by omega)
    have x2 := m2.2 i.toNat (by omega)
    rw [show ((i.toNat : Nat) : Int) = i by omega] at x1 x2
    rw [x1] at x2
    exact Option.some.inj x2

theorem ch_lo {c : Nat} (h : isCh c = true) : 19 ≤ c := by
  simp only [isCh, Bool.or_eq_true, Bool.and_eq_true, Nat.ble_eq] at h
  omega

set_option maxHeartbeats 1000000 in
theorem a_43_8 {d : Nat} {I : Nat → Int → Int} {ch : Int → Nat} {kd : Nat → Nat} {Q : Option jV → jS → Prop} (hI : Rg I) {c : Nat} (hc : isCh c = true) {l : List Int} (hT : TRo (I 3 1) (I 4) l) (hl : l.length + 1 ≤ 16) (hd : 6 ≤ d + 5) (hQ : ∀ I', ASX I I' (l ++ [10]) → Q (some (vi (I c 3))) (SX I' ch kd)) : Cl d 43 [vr 8, vr c, vr 3] (SX I ch kd) Q := by
  have hcl := (shp_c hc).1
  have hcb : 19 ≤ c := ch_lo hc
  refine ⟨by rw [l43]; exact Nat.le_of_ble_eq_true rfl, ?_⟩
  rw [l43]
  show Ev d 43 0 [some (vr 8), some (vr c), some (vr 3)] [] (SX I ch kd) Q
  refine ev_s1 (L' := [some (vr 8), some (vr c), some (vr 3)]) (S' := [vr 3]) k43_0 rfl rfl ?_
  refine ev_s1 (L' := [some (vr 8), some (vr c), some (vr 3)]) (S' := [vi 10, vr 3]) k43_1 rfl rfl ?_
  refine ev_virt (a := [vi 10]) (S' := []) k43_3 rfl (Nat.le_of_ble_eq_true rfl) (by decide) (rfl) (by omega) ?_
  refine x_beg hI (v := 10) (by decide) (by decide) hT (by first | omega | (simp only [List.length_append, List.length_cons, List.length_nil]; omega)) (fun I1 as1 => ?_)
  have hI1 := as1.1
  show Ev d 43 6 [some (vr 8), some (vr c), some (vr 3)] [vi 1] (SX I1 ch kd) Q
  refine ev_s1 (L' := [some (vr 8), some (vr c), some (vr 3)]) (S' := []) k43_6 rfl rfl ?_
  refine ev_s1 (L' := [some (vr 8), some (vr c), some (vr 3)]) (S' := [vr c]) k43_7 rfl rfl ?_
  refine ev_getI k43_8 (by omega) ((shp_c hc).2) ?_
  show Ev d 43 11 [some (vr 8), some (vr c), some (vr 3)] [vi (I1 c 3)] (SX I1 ch kd) Q
  have rr2 := hI1 c 3
  rw [as1.2.2 c 3 (by omega)]
  rw [as1.2.2 c 3 (by omega)] at rr2
  refine ev_ireturn k43_11 ?_
  exact hQ _ ⟨hI1, (by have tt := as1.2.1; simpa only [List.append_assoc, List.cons_append, List.nil_append] using tt), fun a b q => (as1.2.2 a b q)⟩

set_option maxHeartbeats 1000000 in
theorem a_44_8 {d : Nat} {I : Nat → Int → Int} {ch : Int → Nat} {kd : Nat → Nat} {Q : Option jV → jS → Prop} (hI : Rg I) {c : Nat} (hc : isCh c = true) {l : List Int} (hT : TRo (I 3 1) (I 4) l) (hl : l.length + 1 ≤ 16) (hd : 6 ≤ d + 5) (hQ : ∀ I', ASX I I' (l ++ [20]) → Q (some (vi (I c 1))) (SX I' ch kd)) : Cl d 44 [vr 8, vr c, vr 3] (SX I ch kd) Q := by
  have hcl := (shp_c hc).1
  have hcb : 19 ≤ c := ch_lo hc
  refine ⟨by rw [l44]; exact Nat.le_of_ble_eq_true rfl, ?_⟩
  rw [l44]
  show Ev d 44 0 [some (vr 8), some (vr c), some (vr 3)] [] (SX I ch kd) Q
  refine ev_s1 (L' := [some (vr 8), some (vr c), some (vr 3)]) (S' := [vr 3]) k44_0 rfl rfl ?_
  refine ev_s1 (L' := [some (vr 8), some (vr c), some (vr 3)]) (S' := [vi 20, vr 3]) k44_1 rfl rfl ?_
  refine ev_virt (a := [vi 20]) (S' := []) k44_3 rfl (Nat.le_of_ble_eq_true rfl) (by decide) (rfl) (by omega) ?_
  refine x_beg hI (v := 20) (by decide) (by decide) hT (by first | omega | (simp only [List.length_append, List.length_cons, List.length_nil]; omega)) (fun I1 as1 => ?_)
  have hI1 := as1.1
  show Ev d 44 6 [some (vr 8), some (vr c), some (vr 3)] [vi 1] (SX I1 ch kd) Q
  refine ev_s1 (L' := [some (vr 8), some (vr c), some (vr 3)]) (S' := []) k44_6 rfl rfl ?_
  refine ev_s1 (L' := [some (vr 8), some (vr c), some (vr 3)]) (S' := [vr c]) k44_7 rfl rfl ?_
  refine ev_getI k44_8 (by omega) ((shp_c hc).2) ?_
  show Ev d 44 11 [some (vr 8), some (vr c), some (vr 3)] [vi (I1 c 1)] (SX I1 ch kd) Q
  have rr2 := hI1 c 1
  rw [as1.2.2 c 1 (by omega)]
  rw [as1.2.2 c 1 (by omega)] at rr2
  refine ev_ireturn k44_11 ?_
  exact hQ _ ⟨hI1, (by have tt := as1.2.1; simpa only [List.append_assoc, List.cons_append, List.nil_append] using tt), fun a b q => (as1.2.2 a b q)⟩

set_option maxHeartbeats 1000000 in
theorem a_43_9 {d : Nat} {I : Nat → Int → Int} {ch : Int → Nat} {kd : Nat → Nat} {Q : Option jV → jS → Prop} (hI : Rg I) {c : Nat} (hc : isCh c = true) {l : List Int} (hT : TRo (I 3 1) (I 4) l) (hl : l.length + 1 ≤ 16) (hd : 6 ≤ d + 5) (hQ : ∀ I', ASX I I' (l ++ [10]) → Q (some (vi (I c 3))) (SX I' ch kd)) : Cl d 43 [vr 9, vr c, vr 3] (SX I ch kd) Q := by
  have hcl := (shp_c hc).1
  have hcb : 19 ≤ c := ch_lo hc
  refine ⟨by rw [l43]; exact Nat.le_of_ble_eq_true rfl, ?_⟩
  rw [l43]
  show Ev d 43 0 [some (vr 9), some (vr c), some (vr 3)] [] (SX I ch kd) Q
  refine ev_s1 (L' := [some (vr 9), some (vr c), some (vr 3)]) (S' := [vr 3]) k43_0 rfl rfl ?_
  refine ev_s1 (L' := [some (vr 9), some (vr c), some (vr 3)]) (S' := [vi 10, vr 3]) k43_1 rfl rfl ?_
  refine ev_virt (a := [vi 10]) (S' := []) k43_3 rfl (Nat.le_of_ble_eq_true rfl) (by decide) (rfl) (by omega) ?_
  refine x_beg hI (v := 10) (by decide) (by decide) hT (by first | omega | (simp only [List.length_append, List.length_cons, List.length_nil]; omega)) (fun I1 as1 => ?_)
  have hI1 := as1.1
  show Ev d 43 6 [some (vr 9), some (vr c), some (vr 3)] [vi 1] (SX I1 ch kd) Q
  refine ev_s1 (L' := [some (vr 9), some (vr c), some (vr 3)]) (S' := []) k43_6 rfl rfl ?_
  refine ev_s1 (L' := [some (vr 9), some (vr c), some (vr 3)]) (S' := [vr c]) k43_7 rfl rfl ?_
  refine ev_getI k43_8 (by omega) ((shp_c hc).2) ?_
  show Ev d 43 11 [some (vr 9), some (vr c), some (vr 3)] [vi (I1 c 3)] (SX I1 ch kd) Q
  have rr2 := hI1 c 3
  rw [as1.2.2 c 3 (by omega)]
  rw [as1.2.2 c 3 (by omega)] at rr2
  refine ev_ireturn k43_11 ?_
  exact hQ _ ⟨hI1, (by have tt := as1.2.1; simpa only [List.append_assoc, List.cons_append, List.nil_append] using tt), fun a b q => (as1.2.2 a b q)⟩

set_option maxHeartbeats 1000000 in
theorem a_44_9 {d : Nat} {I : Nat → Int → Int} {ch : Int → Nat} {kd : Nat → Nat} {Q : Option jV → jS → Prop} (hI : Rg I) {c : Nat} (hc : isCh c = true) {l : List Int} (hT : TRo (I 3 1) (I 4) l) (hl : l.length + 1 ≤ 16) (hd : 6 ≤ d + 5) (hQ : ∀ I', ASX I I' (l ++ [20]) → Q (some (vi (I c 1))) (SX I' ch kd)) : Cl d 44 [vr 9, vr c, vr 3] (SX I ch kd) Q := by
  have hcl := (shp_c hc).1
  have hcb : 19 ≤ c := ch_lo hc
  refine ⟨by rw [l44]; exact Nat.le_of_ble_eq_true rfl, ?_⟩
  rw [l44]
  show Ev d 44 0 [some (vr 9), some (vr c), some (vr 3)] [] (SX I ch kd) Q
  refine ev_s1 (L' := [some (vr 9), some (vr c), some (vr 3)]) (S' := [vr 3]) k44_0 rfl rfl ?_
  refine ev_s1 (L' := [some (vr 9), some (vr c), some (vr 3)]) (S' := [vi 20, vr 3]) k44_1 rfl rfl ?_
  refine ev_virt (a := [vi 20]) (S' := []) k44_3 rfl (Nat.le_of_ble_eq_true rfl) (by decide) (rfl) (by omega) ?_
  refine x_beg hI (v := 20) (by decide) (by decide) hT (by first | omega | (simp only [List.length_append, List.length_cons, List.length_nil]; omega)) (fun I1 as1 => ?_)
  have hI1 := as1.1
  show Ev d 44 6 [some (vr 9), some (vr c), some (vr 3)] [vi 1] (SX I1 ch kd) Q
  refine ev_s1 (L' := [some (vr 9), some (vr c), some (vr 3)]) (S' := []) k44_6 rfl rfl ?_
  refine ev_s1 (L' := [some (vr 9), some (vr c), some (vr 3)]) (S' := [vr c]) k44_7 rfl rfl ?_
  refine ev_getI k44_8 (by omega) ((shp_c hc).2) ?_
  show Ev d 44 11 [some (vr 9), some (vr c), some (vr 3)] [vi (I1 c 1)] (SX I1 ch kd) Q
  have rr2 := hI1 c 1
  rw [as1.2.2 c 1 (by omega)]
  rw [as1.2.2 c 1 (by omega)] at rr2
  refine ev_ireturn k44_11 ?_
  exact hQ _ ⟨hI1, (by have tt := as1.2.1; simpa only [List.append_assoc, List.cons_append, List.nil_append] using tt), fun a b q => (as1.2.2 a b q)⟩

set_option maxHeartbeats 1000000 in
theorem a_43_10 {d : Nat} {I : Nat → Int → Int} {ch : Int → Nat} {kd : Nat → Nat} {Q : Option jV → jS → Prop} (hI : Rg I) {c : Nat} (hc : isCh c = true) {l : List Int} (hT : TRo (I 3 1) (I 4) l) (hl : l.length + 1 ≤ 16) (hd : 6 ≤ d + 5) (hQ : ∀ I', ASX I I' (l ++ [10]) → Q (some (vi (I c 3))) (SX I' ch kd)) : Cl d 43 [vr 10, vr c, vr 3] (SX I ch kd) Q := by
  have hcl := (shp_c hc).1
  have hcb : 19 ≤ c := ch_lo hc
  refine ⟨by rw [l43]; exact Nat.le_of_ble_eq_true rfl, ?_⟩
  rw [l43]
  show Ev d 43 0 [some (vr 10), some (vr c), some (vr 3)] [] (SX I ch kd) Q
  refine ev_s1 (L' := [some (vr 10), some (vr c), some (vr 3)]) (S' := [vr 3]) k43_0 rfl rfl ?_
  refine ev_s1 (L' := [some (vr 10), some (vr c), some (vr 3)]) (S' := [vi 10, vr 3]) k43_1 rfl rfl ?_
  refine ev_virt (a := [vi 10]) (S' := []) k43_3 rfl (Nat.le_of_ble_eq_true rfl) (by decide) (rfl) (by omega) ?_
  refine x_beg hI (v := 10) (by decide) (by decide) hT (by first | omega | (simp only [List.length_append, List.length_cons, List.length_nil]; omega)) (fun I1 as1 => ?_)
  have hI1 := as1.1
  show Ev d 43 6 [some (vr 10), some (vr c), some (vr 3)] [vi 1] (SX I1 ch kd) Q
  refine ev_s1 (L' := [some (vr 10), some (vr c), some (vr 3)]) (S' := []) k43_6 rfl rfl ?_
  refine ev_s1 (L' := [some (vr 10), some (vr c), some (vr 3)]) (S' := [vr c]) k43_7 rfl rfl ?_
  refine ev_getI k43_8 (by omega) ((shp_c hc).2) ?_
  show Ev d 43 11 [some (vr 10), some (vr c), some (vr 3)] [vi (I1 c 3)] (SX I1 ch kd) Q
  have rr2 := hI1 c 3
  rw [as1.2.2 c 3 (by omega)]
  rw [as1.2.2 c 3 (by omega)] at rr2
  refine ev_ireturn k43_11 ?_
  exact hQ _ ⟨hI1, (by have tt := as1.2.1; simpa only [List.append_assoc, List.cons_append, List.nil_append] using tt), fun a b q => (as1.2.2 a b q)⟩

set_option maxHeartbeats 1000000 in
theorem a_44_10 {d : Nat} {I : Nat → Int → Int} {ch : Int → Nat} {kd : Nat → Nat} {Q : Option jV → jS → Prop} (hI : Rg I) {c : Nat} (hc : isCh c = true) {l : List Int} (hT : TRo (I 3 1) (I 4) l) (hl : l.length + 1 ≤ 16) (hd : 6 ≤ d + 5) (hQ : ∀ I', ASX I I' (l ++ [20]) → Q (some (vi (I c 1))) (SX I' ch kd)) : Cl d 44 [vr 10, vr c, vr 3] (SX I ch kd) Q := by
  have hcl := (shp_c hc).1
  have hcb : 19 ≤ c := ch_lo hc
  refine ⟨by rw [l44]; exact Nat.le_of_ble_eq_true rfl, ?_⟩
  rw [l44]
  show Ev d 44 0 [some (vr 10), some (vr c), some (vr 3)] [] (SX I ch kd) Q
  refine ev_s1 (L' := [some (vr 10), some (vr c), some (vr 3)]) (S' := [vr 3]) k44_0 rfl rfl ?_
  refine ev_s1 (L' := [some (vr 10), some (vr c), some (vr 3)]) (S' := [vi 20, vr 3]) k44_1 rfl rfl ?_
  refine ev_virt (a := [vi 20]) (S' := []) k44_3 rfl (Nat.le_of_ble_eq_true rfl) (by decide) (rfl) (by omega) ?_
  refine x_beg hI (v := 20) (by decide) (by decide) hT (by first | omega | (simp only [List.length_append, List.length_cons, List.length_nil]; omega)) (fun I1 as1 => ?_)
  have hI1 := as1.1
  show Ev d 44 6 [some (vr 10), some (vr c), some (vr 3)] [vi 1] (SX I1 ch kd) Q
  refine ev_s1 (L' := [some (vr 10), some (vr c), some (vr 3)]) (S' := []) k44_6 rfl rfl ?_
  refine ev_s1 (L' := [some (vr 10), some (vr c), some (vr 3)]) (S' := [vr c]) k44_7 rfl rfl ?_
  refine ev_getI k44_8 (by omega) ((shp_c hc).2) ?_
  show Ev d 44 11 [some (vr 10), some (vr c), some (vr 3)] [vi (I1 c 1)] (SX I1 ch kd) Q
  have rr2 := hI1 c 1
  rw [as1.2.2 c 1 (by omega)]
  rw [as1.2.2 c 1 (by omega)] at rr2
  refine ev_ireturn k44_11 ?_
  exact hQ _ ⟨hI1, (by have tt := as1.2.1; simpa only [List.append_assoc, List.cons_append, List.nil_append] using tt), fun a b q => (as1.2.2 a b q)⟩

set_option maxHeartbeats 1000000 in
theorem a_43_11 {d : Nat} {I : Nat → Int → Int} {ch : Int → Nat} {kd : Nat → Nat} {Q : Option jV → jS → Prop} (hI : Rg I) {c : Nat} (hc : isCh c = true) {l : List Int} (hT : TRo (I 3 1) (I 4) l) (hl : l.length + 1 ≤ 16) (hd : 6 ≤ d + 5) (hQ : ∀ I', ASX I I' (l ++ [10]) → Q (some (vi (I c 3))) (SX I' ch kd)) : Cl d 43 [vr 11, vr c, vr 3] (SX I ch kd) Q := by
  have hcl := (shp_c hc).1
  have hcb : 19 ≤ c := ch_lo hc
  refine ⟨by rw [l43]; exact Nat.le_of_ble_eq_true rfl, ?_⟩
  rw [l43]
  show Ev d 43 0 [some (vr 11), some (vr c), some (vr 3)] [] (SX I ch kd) Q
  refine ev_s1 (L' := [some (vr 11), some (vr c), some (vr 3)]) (S' := [vr 3]) k43_0 rfl rfl ?_
  refine ev_s1 (L' := [some (vr 11), some (vr c), some (vr 3)]) (S' := [vi 10, vr 3]) k43_1 rfl rfl ?_
  refine ev_virt (a := [vi 10]) (S' := []) k43_3 rfl (Nat.le_of_ble_eq_true rfl) (by decide) (rfl) (by omega) ?_
  refine x_beg hI (v := 10) (by decide) (by decide) hT (by first | omega | (simp only [List.length_append, List.length_cons, List.length_nil]; omega)) (fun I1 as1 => ?_)
  have hI1 := as1.1
  show Ev d 43 6 [some (vr 11), some (vr c), some (vr 3)] [vi 1] (SX I1 ch kd) Q
  refine ev_s1 (L' := [some (vr 11), some (vr c), some (vr 3)]) (S' := []) k43_6 rfl rfl ?_
  refine ev_s1 (L' := [some (vr 11), some (vr c), some (vr 3)]) (S' := [vr c]) k43_7 rfl rfl ?_
  refine ev_getI k43_8 (by omega) ((shp_c hc).2) ?_
  show Ev d 43 11 [some (vr 11), some (vr c), some (vr 3)] [vi (I1 c 3)] (SX I1 ch kd) Q
  have rr2 := hI1 c 3
  rw [as1.2.2 c 3 (by omega)]
  rw [as1.2.2 c 3 (by omega)] at rr2
  refine ev_ireturn k43_11 ?_
  exact hQ _ ⟨hI1, (by have tt := as1.2.1; simpa only [List.append_assoc, List.cons_append, List.nil_append] using tt), fun a b q => (as1.2.2 a b q)⟩

set_option maxHeartbeats 1000000 in
theorem a_44_11 {d : Nat} {I : Nat → Int → Int} {ch : Int → Nat} {kd : Nat → Nat} {Q : Option jV → jS → Prop} (hI : Rg I) {c : Nat} (hc : isCh c = true) {l : List Int} (hT : TRo (I 3 1) (I 4) l) (hl : l.length + 1 ≤ 16) (hd : 6 ≤ d + 5) (hQ : ∀ I', ASX I I' (l ++ [20]) → Q (some (vi (I c 1))) (SX I' ch kd)) : Cl d 44 [vr 11, vr c, vr 3] (SX I ch kd) Q := by
  have hcl := (shp_c hc).1
  have hcb : 19 ≤ c := ch_lo hc
  refine ⟨by rw [l44]; exact Nat.le_of_ble_eq_true rfl, ?_⟩
  rw [l44]
  show Ev d 44 0 [some (vr 11), some (vr c), some (vr 3)] [] (SX I ch kd) Q
  refine ev_s1 (L' := [some (vr 11), some (vr c), some (vr 3)]) (S' := [vr 3]) k44_0 rfl rfl ?_
  refine ev_s1 (L' := [some (vr 11), some (vr c), some (vr 3)]) (S' := [vi 20, vr 3]) k44_1 rfl rfl ?_
  refine ev_virt (a := [vi 20]) (S' := []) k44_3 rfl (Nat.le_of_ble_eq_true rfl) (by decide) (rfl) (by omega) ?_
  refine x_beg hI (v := 20) (by decide) (by decide) hT (by first | omega | (simp only [List.length_append, List.length_cons, List.length_nil]; omega)) (fun I1 as1 => ?_)
  have hI1 := as1.1
  show Ev d 44 6 [some (vr 11), some (vr c), some (vr 3)] [vi 1] (SX I1 ch kd) Q
  refine ev_s1 (L' := [some (vr 11), some (vr c), some (vr 3)]) (S' := []) k44_6 rfl rfl ?_
  refine ev_s1 (L' := [some (vr 11), some (vr c), some (vr 3)]) (S' := [vr c]) k44_7 rfl rfl ?_
  refine ev_getI k44_8 (by omega) ((shp_c hc).2) ?_
  show Ev d 44 11 [some (vr 11), some (vr c), some (vr 3)] [vi (I1 c 1)] (SX I1 ch kd) Q
  have rr2 := hI1 c 1
  rw [as1.2.2 c 1 (by omega)]
  rw [as1.2.2 c 1 (by omega)] at rr2
  refine ev_ireturn k44_11 ?_
  exact hQ _ ⟨hI1, (by have tt := as1.2.1; simpa only [List.append_assoc, List.cons_append, List.nil_append] using tt), fun a b q => (as1.2.2 a b q)⟩

set_option maxHeartbeats 1000000 in
theorem a_43_12 {d : Nat} {I : Nat → Int → Int} {ch : Int → Nat} {kd : Nat → Nat} {Q : Option jV → jS → Prop} (hI : Rg I) {c : Nat} (hc : isCh c = true) {l : List Int} (hT : TRo (I 3 1) (I 4) l) (hl : l.length + 1 ≤ 16) (hd : 6 ≤ d + 5) (hQ : ∀ I', ASX I I' (l ++ [10]) → Q (some (vi (I c 3))) (SX I' ch kd)) : Cl d 43 [vr 12, vr c, vr 3] (SX I ch kd) Q := by
  have hcl := (shp_c hc).1
  have hcb : 19 ≤ c := ch_lo hc
  refine ⟨by rw [l43]; exact Nat.le_of_ble_eq_true rfl, ?_⟩
  rw [l43]
  show Ev d 43 0 [some (vr 12), some (vr c), some (vr 3)] [] (SX I ch kd) Q
  refine ev_s1 (L' := [some (vr 12), some (vr c), some (vr 3)]) (S' := [vr 3]) k43_0 rfl rfl ?_
  refine ev_s1 (L' := [some (vr 12), some (vr c), some (vr 3)]) (S' := [vi 10, vr 3]) k43_1 rfl rfl ?_
  refine ev_virt (a := [vi 10]) (S' := []) k43_3 rfl (Nat.le_of_ble_eq_true rfl) (by decide) (rfl) (by omega) ?_
  refine x_beg hI (v := 10) (by decide) (by decide) hT (by first | omega | (simp only [List.length_append, List.length_cons, List.length_nil]; omega)) (fun I1 as1 => ?_)
  have hI1 := as1.1
  show Ev d 43 6 [some (vr 12), some (vr c), some (vr 3)] [vi 1] (SX I1 ch kd) Q
  refine ev_s1 (L' := [some (vr 12), some (vr c), some (vr 3)]) (S' := []) k43_6 rfl rfl ?_
  refine ev_s1 (L' := [some (vr 12), some (vr c), some (vr 3)]) (S' := [vr c]) k43_7 rfl rfl ?_
  refine ev_getI k43_8 (by omega) ((shp_c hc).2) ?_
  show Ev d 43 11 [some (vr 12), some (vr c), some (vr 3)] [vi (I1 c 3)] (SX I1 ch kd) Q
  have rr2 := hI1 c 3
  rw [as1.2.2 c 3 (by omega)]
  rw [as1.2.2 c 3 (by omega)] at rr2
  refine ev_ireturn k43_11 ?_
  exact hQ _ ⟨hI1, (by have tt := as1.2.1; simpa only [List.append_assoc, List.cons_append, List.nil_append] using tt), fun a b q => (as1.2.2 a b q)⟩

set_option maxHeartbeats 1000000 in
theorem a_44_12 {d : Nat} {I : Nat → Int → Int} {ch : Int → Nat} {kd : Nat → Nat} {Q : Option jV → jS → Prop} (hI : Rg I) {c : Nat} (hc : isCh c = true) {l : List Int} (hT : TRo (I 3 1) (I 4) l) (hl : l.length + 1 ≤ 16) (hd : 6 ≤ d + 5) (hQ : ∀ I', ASX I I' (l ++ [20]) → Q (some (vi (I c 1))) (SX I' ch kd)) : Cl d 44 [vr 12, vr c, vr 3] (SX I ch kd) Q := by
  have hcl := (shp_c hc).1
  have hcb : 19 ≤ c := ch_lo hc
  refine ⟨by rw [l44]; exact Nat.le_of_ble_eq_true rfl, ?_⟩
  rw [l44]
  show Ev d 44 0 [some (vr 12), some (vr c), some (vr 3)] [] (SX I ch kd) Q
  refine ev_s1 (L' := [some (vr 12), some (vr c), some (vr 3)]) (S' := [vr 3]) k44_0 rfl rfl ?_
  refine ev_s1 (L' := [some (vr 12), some (vr c), some (vr 3)]) (S' := [vi 20, vr 3]) k44_1 rfl rfl ?_
  refine ev_virt (a := [vi 20]) (S' := []) k44_3 rfl (Nat.le_of_ble_eq_true rfl) (by decide) (rfl) (by omega) ?_
  refine x_beg hI (v := 20) (by decide) (by decide) hT (by first | omega | (simp only [List.length_append, List.length_cons, List.length_nil]; omega)) (fun I1 as1 => ?_)
  have hI1 := as1.1
  show Ev d 44 6 [some (vr 12), some (vr c), some (vr 3)] [vi 1] (SX I1 ch kd) Q
  refine ev_s1 (L' := [some (vr 12), some (vr c), some (vr 3)]) (S' := []) k44_6 rfl rfl ?_
  refine ev_s1 (L' := [some (vr 12), some (vr c), some (vr 3)]) (S' := [vr c]) k44_7 rfl rfl ?_
  refine ev_getI k44_8 (by omega) ((shp_c hc).2) ?_
  show Ev d 44 11 [some (vr 12), some (vr c), some (vr 3)] [vi (I1 c 1)] (SX I1 ch kd) Q
  have rr2 := hI1 c 1
  rw [as1.2.2 c 1 (by omega)]
  rw [as1.2.2 c 1 (by omega)] at rr2
  refine ev_ireturn k44_11 ?_
  exact hQ _ ⟨hI1, (by have tt := as1.2.1; simpa only [List.append_assoc, List.cons_append, List.nil_append] using tt), fun a b q => (as1.2.2 a b q)⟩

set_option maxHeartbeats 1000000 in
theorem a_57_8 {d : Nat} {I : Nat → Int → Int} {ch : Int → Nat} {kd : Nat → Nat} {Q : Option jV → jS → Prop} (hI : Rg I) {c : Nat} (hc : isCh c = true) {l : List Int} (hT : TRo (I 3 1) (I 4) l) (hl : l.length + 2 ≤ 16) (hd : 6 ≤ d + 4) (hQ : ∀ I', ASX I I' (l ++ [21, 20]) → Q (some (vi (I c 1 + I c 2))) (SX I' ch kd)) : Cl d 57 [vr 8, vr c, vr 3] (SX I ch kd) Q := by
  have hcl := (shp_c hc).1
  have hcb : 19 ≤ c := ch_lo hc
  refine ⟨by rw [l57]; exact Nat.le_of_ble_eq_true rfl, ?_⟩
  rw [l57]
  show Ev d 57 0 [some (vr 8), some (vr c), some (vr 3)] [] (SX I ch kd) Q
  refine ev_s1 (L' := [some (vr 8), some (vr c), some (vr 3)]) (S' := [vr 3]) k57_0 rfl rfl ?_
  refine ev_s1 (L' := [some (vr 8), some (vr c), some (vr 3)]) (S' := [vi 21, vr 3]) k57_1 rfl rfl ?_
  refine ev_virt (a := [vi 21]) (S' := []) k57_3 rfl (Nat.le_of_ble_eq_true rfl) (by decide) (rfl) (by omega) ?_
  refine x_beg hI (v := 21) (by decide) (by decide) hT (by first | omega | (simp only [List.length_append, List.length_cons, List.length_nil]; omega)) (fun I1 as1 => ?_)
  have hI1 := as1.1
  show Ev d 57 6 [some (vr 8), some (vr c), some (vr 3)] [vi 1] (SX I1 ch kd) Q
  refine ev_s1 (L' := [some (vr 8), some (vr c), some (vr 3)]) (S' := []) k57_6 rfl rfl ?_
  refine ev_s1 (L' := [some (vr 8), some (vr c), some (vr 3)]) (S' := [vr 8]) k57_7 rfl rfl ?_
  refine ev_s1 (L' := [some (vr 8), some (vr c), some (vr 3)]) (S' := [vr c, vr 8]) k57_8 rfl rfl ?_
  refine ev_s1 (L' := [some (vr 8), some (vr c), some (vr 3)]) (S' := [vr 3, vr c, vr 8]) k57_9 rfl rfl ?_
  refine ev_spec (a := [vr c, vr 3]) (S' := []) k57_10 rfl (Nat.le_of_ble_eq_true rfl) (by decide) (rfl) (by decide) (by omega) ?_
  refine a_44_8 hI1 hc as1.2.1 (by first | omega | (simp only [List.length_append, List.length_cons, List.length_nil]; omega)) (by omega) (fun I2 as2 => ?_)
  rw [as1.2.2 c 1 (by omega)]
  have hI2 := as2.1
  show Ev d 57 13 [some (vr 8), some (vr c), some (vr 3)] [vi (I c 1)] (SX I2 ch kd) Q
  refine ev_s1 (L' := [some (vr 8), some (vr c), some (vr 3)]) (S' := [vr c, vi (I c 1)]) k57_13 rfl rfl ?_
  refine ev_getI k57_14 (by omega) ((shp_c hc).2) ?_
  show Ev d 57 17 [some (vr 8), some (vr c), some (vr 3)] [vi (I2 c 2), vi (I c 1)] (SX I2 ch kd) Q
  have rr3 := hI2 c 2
  rw [as2.2.2 c 2 (by omega), as1.2.2 c 2 (by omega)]
  rw [as2.2.2 c 2 (by omega), as1.2.2 c 2 (by omega)] at rr3
  refine ev_s1 (L' := [some (vr 8), some (vr c), some (vr 3)]) (S' := [vi ((I c 1) + (I c 2))]) k57_17 rfl rfl ?_
  refine ev_ireturn k57_18 ?_
  exact hQ _ ⟨hI2, (by have tt := as2.2.1; simpa only [List.append_assoc, List.cons_append, List.nil_append] using tt), fun a b q => ((as2.2.2 a b q).trans (as1.2.2 a b q))⟩

set_option maxHeartbeats 1000000 in
theorem a_57_9 {d : Nat} {I : Nat → Int → Int} {ch : Int → Nat} {kd : Nat → Nat} {Q : Option jV → jS → Prop} (hI : Rg I) {c : Nat} (hc : isCh c = true) {l : List Int} (hT : TRo (I 3 1) (I 4) l) (hl : l.length + 2 ≤ 16) (hd : 6 ≤ d + 4) (hQ : ∀ I', ASX I I' (l ++ [21, 20]) → Q (some (vi (I c 1 + I c 2))) (SX I' ch kd)) : Cl d 57 [vr 9, vr c, vr 3] (SX I ch kd) Q := by
  have hcl := (shp_c hc).1
  have hcb : 19 ≤ c := ch_lo hc
  refine ⟨by rw [l57]; exact Nat.le_of_ble_eq_true rfl, ?_⟩
  rw [l57]
  show Ev d 57 0 [some (vr 9), some (vr c), some (vr 3)] [] (SX I ch kd) Q
  refine ev_s1 (L' := [some (vr 9), some (vr c), some (vr 3)]) (S' := [vr 3]) k57_0 rfl rfl ?_
  refine ev_s1 (L' := [some (vr 9), some (vr c), some (vr 3)]) (S' := [vi 21, vr 3]) k57_1 rfl rfl ?_
  refine ev_virt (a := [vi 21]) (S' := []) k57_3 rfl (Nat.le_of_ble_eq_true rfl) (by decide) (rfl) (by omega) ?_
  refine x_beg hI (v := 21) (by decide) (by decide) hT (by first | omega | (simp only [List.length_append, List.length_cons, List.length_nil]; omega)) (fun I1 as1 => ?_)
  have hI1 := as1.1
  show Ev d 57 6 [some (vr 9), some (vr c), some (vr 3)] [vi 1] (SX I1 ch kd) Q
  refine ev_s1 (L' := [some (vr 9), some (vr c), some (vr 3)]) (S' := []) k57_6 rfl rfl ?_
  refine ev_s1 (L' := [some (vr 9), some (vr c), some (vr 3)]) (S' := [vr 9]) k57_7 rfl rfl ?_
  refine ev_s1 (L' := [some (vr 9), some (vr c), some (vr 3)]) (S' := [vr c, vr 9]) k57_8 rfl rfl ?_
  refine ev_s1 (L' := [some (vr 9), some (vr c), some (vr 3)]) (S' := [vr 3, vr c, vr 9]) k57_9 rfl rfl ?_
  refine ev_spec (a := [vr c, vr 3]) (S' := []) k57_10 rfl (Nat.le_of_ble_eq_true rfl) (by decide) (rfl) (by decide) (by omega) ?_
  refine a_44_9 hI1 hc as1.2.1 (by first | omega | (simp only [List.length_append, List.length_cons, List.length_nil]; omega)) (by omega) (fun I2 as2 => ?_)
  rw [as1.2.2 c 1 (by omega)]
  have hI2 := as2.1
  show Ev d 57 13 [some (vr 9), some (vr c), some (vr 3)] [vi (I c 1)] (SX I2 ch kd) Q
  refine ev_s1 (L' := [some (vr 9), some (vr c), some (vr 3)]) (S' := [vr c, vi (I c 1)]) k57_13 rfl rfl ?_
  refine ev_getI k57_14 (by omega) ((shp_c hc).2) ?_
  show Ev d 57 17 [some (vr 9), some (vr c), some (vr 3)] [vi (I2 c 2), vi (I c 1)] (SX I2 ch kd) Q
  have rr3 := hI2 c 2
  rw [as2.2.2 c 2 (by omega), as1.2.2 c 2 (by omega)]
  rw [as2.2.2 c 2 (by omega), as1.2.2 c 2 (by omega)] at rr3
  refine ev_s1 (L' := [some (vr 9), some (vr c), some (vr 3)]) (S' := [vi ((I c 1) + (I c 2))]) k57_17 rfl rfl ?_
  refine ev_ireturn k57_18 ?_
  exact hQ _ ⟨hI2, (by have tt := as2.2.1; simpa only [List.append_assoc, List.cons_append, List.nil_append] using tt), fun a b q => ((as2.2.2 a b q).trans (as1.2.2 a b q))⟩

set_option maxHeartbeats 1000000 in
theorem a_57_10 {d : Nat} {I : Nat → Int → Int} {ch : Int → Nat} {kd : Nat → Nat} {Q : Option jV → jS → Prop} (hI : Rg I) {c : Nat} (hc : isCh c = true) {l : List Int} (hT : TRo (I 3 1) (I 4) l) (hl : l.length + 2 ≤ 16) (hd : 6 ≤ d + 4) (hQ : ∀ I', ASX I I' (l ++ [21, 20]) → Q (some (vi (I c 1 + I c 2))) (SX I' ch kd)) : Cl d 57 [vr 10, vr c, vr 3] (SX I ch kd) Q := by
  have hcl := (shp_c hc).1
  have hcb : 19 ≤ c := ch_lo hc
  refine ⟨by rw [l57]; exact Nat.le_of_ble_eq_true rfl, ?_⟩
  rw [l57]
  show Ev d 57 0 [some (vr 10), some (vr c), some (vr 3)] [] (SX I ch kd) Q
  refine ev_s1 (L' := [some (vr 10), some (vr c), some (vr 3)]) (S' := [vr 3]) k57_0 rfl rfl ?_
  refine ev_s1 (L' := [some (vr 10), some (vr c), some (vr 3)]) (S' := [vi 21, vr 3]) k57_1 rfl rfl ?_
  refine ev_virt (a := [vi 21]) (S' := []) k57_3 rfl (Nat.le_of_ble_eq_true rfl) (by decide) (rfl) (by omega) ?_
  refine x_beg hI (v := 21) (by decide) (by decide) hT (by first | omega | (simp only [List.length_append, List.length_cons, List.length_nil]; omega)) (fun I1 as1 => ?_)
  have hI1 := as1.1
  show Ev d 57 6 [some (vr 10), some (vr c), some (vr 3)] [vi 1] (SX I1 ch kd) Q
  refine ev_s1 (L' := [some (vr 10), some (vr c), some (vr 3)]) (S' := []) k57_6 rfl rfl ?_
  refine ev_s1 (L' := [some (vr 10), some (vr c), some (vr 3)]) (S' := [vr 10]) k57_7 rfl rfl ?_
  refine ev_s1 (L' := [some (vr 10), some (vr c), some (vr 3)]) (S' := [vr c, vr 10]) k57_8 rfl rfl ?_
  refine ev_s1 (L' := [some (vr 10), some (vr c), some (vr 3)]) (S' := [vr 3, vr c, vr 10]) k57_9 rfl rfl ?_
  refine ev_spec (a := [vr c, vr 3]) (S' := []) k57_10 rfl (Nat.le_of_ble_eq_true rfl) (by decide) (rfl) (by decide) (by omega) ?_
  refine a_44_10 hI1 hc as1.2.1 (by first | omega | (simp only [List.length_append, List.length_cons, List.length_nil]; omega)) (by omega) (fun I2 as2 => ?_)
  rw [as1.2.2 c 1 (by omega)]
  have hI2 := as2.1
  show Ev d 57 13 [some (vr 10), some (vr c), some (vr 3)] [vi (I c 1)] (SX I2 ch kd) Q
  refine ev_s1 (L' := [some (vr 10), some (vr c), some (vr 3)]) (S' := [vr c, vi (I c 1)]) k57_13 rfl rfl ?_
  refine ev_getI k57_14 (by omega) ((shp_c hc).2) ?_
  show Ev d 57 17 [some (vr 10), some (vr c), some (vr 3)] [vi (I2 c 2), vi (I c 1)] (SX I2 ch kd) Q
  have rr3 := hI2 c 2
  rw [as2.2.2 c 2 (by omega), as1.2.2 c 2 (by omega)]
  rw [as2.2.2 c 2 (by omega), as1.2.2 c 2 (by omega)] at rr3
  refine ev_s1 (L' := [some (vr 10), some (vr c), some (vr 3)]) (S' := [vi ((I c 1) + (I c 2))]) k57_17 rfl rfl ?_
  refine ev_ireturn k57_18 ?_
  exact hQ _ ⟨hI2, (by have tt := as2.2.1; simpa only [List.append_assoc, List.cons_append, List.nil_append] using tt), fun a b q => ((as2.2.2 a b q).trans (as1.2.2 a b q))⟩

set_option maxHeartbeats 1000000 in
theorem a_78_9 {d : Nat} {I : Nat → Int → Int} {ch : Int → Nat} {kd : Nat → Nat} {Q : Option jV → jS → Prop} (hI : Rg I) {c : Nat} (hc : isCh c = true) {l : List Int} (hT : TRo (I 3 1) (I 4) l) (hl : l.length + 3 ≤ 16) (hd : 6 ≤ d + 3) (hQ : ∀ I', ASX I I' (l ++ [24, 21, 20]) → Q (some (vi (2 * (I c 1 + I c 2)))) (SX I' ch kd)) : Cl d 78 [vr 9, vr c, vr 3] (SX I ch kd) Q := by
  have hcl := (shp_c hc).1
  have hcb : 19 ≤ c := ch_lo hc
  refine ⟨by rw [l78]; exact Nat.le_of_ble_eq_true rfl, ?_⟩
  rw [l78]
  show Ev d 78 0 [some (vr 9), some (vr c), some (vr 3)] [] (SX I ch kd) Q
  refine ev_s1 (L' := [some (vr 9), some (vr c), some (vr 3)]) (S' := [vr 3]) k78_0 rfl rfl ?_
  refine ev_s1 (L' := [some (vr 9), some (vr c), some (vr 3)]) (S' := [vi 24, vr 3]) k78_1 rfl rfl ?_
  refine ev_virt (a := [vi 24]) (S' := []) k78_3 rfl (Nat.le_of_ble_eq_true rfl) (by decide) (rfl) (by omega) ?_
  refine x_beg hI (v := 24) (by decide) (by decide) hT (by first | omega | (simp only [List.length_append, List.length_cons, List.length_nil]; omega)) (fun I1 as1 => ?_)
  have hI1 := as1.1
  show Ev d 78 6 [some (vr 9), some (vr c), some (vr 3)] [vi 1] (SX I1 ch kd) Q
  refine ev_s1 (L' := [some (vr 9), some (vr c), some (vr 3)]) (S' := []) k78_6 rfl rfl ?_
  refine ev_s1 (L' := [some (vr 9), some (vr c), some (vr 3)]) (S' := [vi 2]) k78_7 rfl rfl ?_
  refine ev_s1 (L' := [some (vr 9), some (vr c), some (vr 3)]) (S' := [vr 9, vi 2]) k78_8 rfl rfl ?_
  refine ev_s1 (L' := [some (vr 9), some (vr c), some (vr 3)]) (S' := [vr c, vr 9, vi 2]) k78_9 rfl rfl ?_
  refine ev_s1 (L' := [some (vr 9), some (vr c), some (vr 3)]) (S' := [vr 3, vr c, vr 9, vi 2]) k78_10 rfl rfl ?_
  refine ev_spec (a := [vr c, vr 3]) (S' := [vi 2]) k78_11 rfl (Nat.le_of_ble_eq_true rfl) (by decide) (rfl) (by decide) (by omega) ?_
  refine a_57_9 hI1 hc as1.2.1 (by first | omega | (simp only [List.length_append, List.length_cons, List.length_nil]; omega)) (by omega) (fun I2 as2 => ?_)
  rw [as1.2.2 c 1 (by omega), as1.2.2 c 2 (by omega)]
  have hI2 := as2.1
  show Ev d 78 14 [some (vr 9), some (vr c), some (vr 3)] [vi (I c 1 + I c 2), vi 2] (SX I2 ch kd) Q
  refine ev_s1 (L' := [some (vr 9), some (vr c), some (vr 3)]) (S' := [vi (2 * (I c 1 + I c 2))]) k78_14 rfl rfl ?_
  refine ev_ireturn k78_15 ?_
  exact hQ _ ⟨hI2, (by have tt := as2.2.1; simpa only [List.append_assoc, List.cons_append, List.nil_append] using tt), fun a b q => ((as2.2.2 a b q).trans (as1.2.2 a b q))⟩

set_option maxHeartbeats 1000000 in
theorem a_4_10 {d : Nat} {I : Nat → Int → Int} {ch : Int → Nat} {kd : Nat → Nat} {Q : Option jV → jS → Prop} (hI : Rg I) {c : Nat} (hc : isCh c = true) {l : List Int} (hT : TRo (I 3 1) (I 4) l) (hl : l.length + 3 ≤ 16) (hd : 6 ≤ d + 3) (hQ : ∀ I', ASX I I' (l ++ [22, 21, 20]) → Q (some (vi (I c 1 + I c 2 - 1000))) (SX I' ch kd)) : Cl d 4 [vr 10, vr c, vr 3] (SX I ch kd) Q := by
  have hcl := (shp_c hc).1
  have hcb : 19 ≤ c := ch_lo hc
  refine ⟨by rw [l4]; exact Nat.le_of_ble_eq_true rfl, ?_⟩
  rw [l4]
  show Ev d 4 0 [some (vr 10), some (vr c), some (vr 3)] [] (SX I ch kd) Q
  refine ev_s1 (L' := [some (vr 10), some (vr c), some (vr 3)]) (S' := [vr 3]) k4_0 rfl rfl ?_
  refine ev_s1 (L' := [some (vr 10), some (vr c), some (vr 3)]) (S' := [vi 22, vr 3]) k4_1 rfl rfl ?_
  refine ev_virt (a := [vi 22]) (S' := []) k4_3 rfl (Nat.le_of_ble_eq_true rfl) (by decide) (rfl) (by omega) ?_
  refine x_beg hI (v := 22) (by decide) (by decide) hT (by first | omega | (simp only [List.length_append, List.length_cons, List.length_nil]; omega)) (fun I1 as1 => ?_)
  have hI1 := as1.1
  show Ev d 4 6 [some (vr 10), some (vr c), some (vr 3)] [vi 1] (SX I1 ch kd) Q
  refine ev_s1 (L' := [some (vr 10), some (vr c), some (vr 3)]) (S' := []) k4_6 rfl rfl ?_
  refine ev_s1 (L' := [some (vr 10), some (vr c), some (vr 3)]) (S' := [vr 10]) k4_7 rfl rfl ?_
  refine ev_s1 (L' := [some (vr 10), some (vr c), some (vr 3)]) (S' := [vr c, vr 10]) k4_8 rfl rfl ?_
  refine ev_s1 (L' := [some (vr 10), some (vr c), some (vr 3)]) (S' := [vr 3, vr c, vr 10]) k4_9 rfl rfl ?_
  refine ev_spec (a := [vr c, vr 3]) (S' := []) k4_10 rfl (Nat.le_of_ble_eq_true rfl) (by decide) (rfl) (by decide) (by omega) ?_
  refine a_57_10 hI1 hc as1.2.1 (by first | omega | (simp only [List.length_append, List.length_cons, List.length_nil]; omega)) (by omega) (fun I2 as2 => ?_)
  rw [as1.2.2 c 1 (by omega), as1.2.2 c 2 (by omega)]
  have hI2 := as2.1
  show Ev d 4 13 [some (vr 10), some (vr c), some (vr 3)] [vi (I c 1 + I c 2)] (SX I2 ch kd) Q
  refine ev_s1 (L' := [some (vr 10), some (vr c), some (vr 3)]) (S' := [vi 1000, vi (I c 1 + I c 2)]) k4_13 rfl rfl ?_
  refine ev_s1 (L' := [some (vr 10), some (vr c), some (vr 3)]) (S' := [vi ((I c 1 + I c 2) - 1000)]) k4_16 rfl rfl ?_
  refine ev_ireturn k4_17 ?_
  exact hQ _ ⟨hI2, (by have tt := as2.2.1; simpa only [List.append_assoc, List.cons_append, List.nil_append] using tt), fun a b q => ((as2.2.2 a b q).trans (as1.2.2 a b q))⟩

set_option maxHeartbeats 1000000 in
theorem a_56_8 {d : Nat} {I : Nat → Int → Int} {ch : Int → Nat} {kd : Nat → Nat} {Q : Option jV → jS → Prop} (hI : Rg I) {c : Nat} (hc : isCh c = true) {l : List Int} (hT : TRo (I 3 1) (I 4) l) (hl : l.length + 4 ≤ 16) (hd : 6 ≤ d + 2) (hQ : ∀ I', ASX I I' (l ++ [11, 10, 21, 20]) → Q (some (vi (I c 3 + (I c 1 + I c 2)))) (SX I' ch kd)) : Cl d 56 [vr 8, vr c, vr 3] (SX I ch kd) Q := by
  have hcl := (shp_c hc).1
  have hcb : 19 ≤ c := ch_lo hc
  refine ⟨by rw [l56]; exact Nat.le_of_ble_eq_true rfl, ?_⟩
  rw [l56]
  show Ev d 56 0 [some (vr 8), some (vr c), some (vr 3), none] [] (SX I ch kd) Q
  refine ev_s1 (L' := [some (vr 8), some (vr c), some (vr 3), none]) (S' := [vr 3]) k56_0 rfl rfl ?_
  refine ev_s1 (L' := [some (vr 8), some (vr c), some (vr 3), none]) (S' := [vi 11, vr 3]) k56_1 rfl rfl ?_
  refine ev_virt (a := [vi 11]) (S' := []) k56_3 rfl (Nat.le_of_ble_eq_true rfl) (by decide) (rfl) (by omega) ?_
  refine x_beg hI (v := 11) (by decide) (by decide) hT (by first | omega | (simp only [List.length_append, List.length_cons, List.length_nil]; omega)) (fun I1 as1 => ?_)
  have hI1 := as1.1
  show Ev d 56 6 [some (vr 8), some (vr c), some (vr 3), none] [vi 1] (SX I1 ch kd) Q
  refine ev_s1 (L' := [some (vr 8), some (vr c), some (vr 3), none]) (S' := []) k56_6 rfl rfl ?_
  refine ev_s1 (L' := [some (vr 8), some (vr c), some (vr 3), none]) (S' := [vr 8]) k56_7 rfl rfl ?_
  refine ev_s1 (L' := [some (vr 8), some (vr c), some (vr 3), none]) (S' := [vr c, vr 8]) k56_8 rfl rfl ?_
  refine ev_s1 (L' := [some (vr 8), some (vr c), some (vr 3), none]) (S' := [vr 3, vr c, vr 8]) k56_9 rfl rfl ?_
  refine ev_spec (a := [vr c, vr 3]) (S' := []) k56_10 rfl (Nat.le_of_ble_eq_true rfl) (by decide) (rfl) (by decide) (by omega) ?_
  refine a_43_8 hI1 hc as1.2.1 (by first | omega | (simp only [List.length_append, List.length_cons, List.length_nil]; omega)) (by omega) (fun I2 as2 => ?_)
  rw [as1.2.2 c 3 (by omega)]
  have hI2 := as2.1
  show Ev d 56 13 [some (vr 8), some (vr c), some (vr 3), none] [vi (I c 3)] (SX I2 ch kd) Q
  refine ev_s1 (L' := [some (vr 8), some (vr c), some (vr 3), some (vi (I c 3))]) (S' := []) k56_13 rfl rfl ?_
  refine ev_s1 (L' := [some (vr 8), some (vr c), some (vr 3), some (vi (I c 3))]) (S' := [vi (I c 3)]) k56_14 rfl rfl ?_
  refine ev_s1 (L' := [some (vr 8), some (vr c), some (vr 3), some (vi (I c 3))]) (S' := [vr 8, vi (I c 3)]) k56_15 rfl rfl ?_
  refine ev_s1 (L' := [some (vr 8), some (vr c), some (vr 3), some (vi (I c 3))]) (S' := [vr c, vr 8, vi (I c 3)]) k56_16 rfl rfl ?_
  refine ev_s1 (L' := [some (vr 8), some (vr c), some (vr 3), some (vi (I c 3))]) (S' := [vr 3, vr c, vr 8, vi (I c 3)]) k56_17 rfl rfl ?_
  refine ev_virt (a := [vr c, vr 3]) (S' := [vi (I c 3)]) k56_18_5 rfl (Nat.le_of_ble_eq_true rfl) (by decide) (rfl) (by omega) ?_
  refine a_57_8 hI2 hc as2.2.1 (by first | omega | (simp only [List.length_append, List.length_cons, List.length_nil]; omega)) (by omega) (fun I3 as3 => ?_)
  rw [as2.2.2 c 1 (by omega), as1.2.2 c 1 (by omega), as2.2.2 c 2 (by omega), as1.2.2 c 2 (by omega)]
  have hI3 := as3.1
  show Ev d 56 21 [some (vr 8), some (vr c), some (vr 3), some (vi (I c 3))] [vi (I c 1 + I c 2), vi (I c 3)] (SX I3 ch kd) Q
  refine ev_s1 (L' := [some (vr 8), some (vr c), some (vr 3), some (vi (I c 3))]) (S' := [vi ((I c 3) + (I c 1 + I c 2))]) k56_21 rfl rfl ?_
  refine ev_ireturn k56_22 ?_
  exact hQ _ ⟨hI3, (by have tt := as3.2.1; simpa only [List.append_assoc, List.cons_append, List.nil_append] using tt), fun a b q => ((as3.2.2 a b q).trans ((as2.2.2 a b q).trans (as1.2.2 a b q)))⟩

set_option maxHeartbeats 1000000 in
theorem a_56_9 {d : Nat} {I : Nat → Int → Int} {ch : Int → Nat} {kd : Nat → Nat} {Q : Option jV → jS → Prop} (hI : Rg I) {c : Nat} (hc : isCh c = true) {l : List Int} (hT : TRo (I 3 1) (I 4) l) (hl : l.length + 5 ≤ 16) (hd : 6 ≤ d + 2) (hQ : ∀ I', ASX I I' (l ++ [11, 10, 24, 21, 20]) → Q (some (vi (I c 3 + (2 * (I c 1 + I c 2))))) (SX I' ch kd)) : Cl d 56 [vr 9, vr c, vr 3] (SX I ch kd) Q := by
  have hcl := (shp_c hc).1
  have hcb : 19 ≤ c := ch_lo hc
  refine ⟨by rw [l56]; exact Nat.le_of_ble_eq_true rfl, ?_⟩
  rw [l56]
  show Ev d 56 0 [some (vr 9), some (vr c), some (vr 3), none] [] (SX I ch kd) Q
  refine ev_s1 (L' := [some (vr 9), some (vr c), some (vr 3), none]) (S' := [vr 3]) k56_0 rfl rfl ?_
  refine ev_s1 (L' := [some (vr 9), some (vr c), some (vr 3), none]) (S' := [vi 11, vr 3]) k56_1 rfl rfl ?_
  refine ev_virt (a := [vi 11]) (S' := []) k56_3 rfl (Nat.le_of_ble_eq_true rfl) (by decide) (rfl) (by omega) ?_
  refine x_beg hI (v := 11) (by decide) (by decide) hT (by first | omega | (simp only [List.length_append, List.length_cons, List.length_nil]; omega)) (fun I1 as1 => ?_)
  have hI1 := as1.1
  show Ev d 56 6 [some (vr 9), some (vr c), some (vr 3), none] [vi 1] (SX I1 ch kd) Q
  refine ev_s1 (L' := [some (vr 9), some (vr c), some (vr 3), none]) (S' := []) k56_6 rfl rfl ?_
  refine ev_s1 (L' := [some (vr 9), some (vr c), some (vr 3), none]) (S' := [vr 9]) k56_7 rfl rfl ?_
  refine ev_s1 (L' := [some (vr 9), some (vr c), some (vr 3), none]) (S' := [vr c, vr 9]) k56_8 rfl rfl ?_
  refine ev_s1 (L' := [some (vr 9), some (vr c), some (vr 3), none]) (S' := [vr 3, vr c, vr 9]) k56_9 rfl rfl ?_
  refine ev_spec (a := [vr c, vr 3]) (S' := []) k56_10 rfl (Nat.le_of_ble_eq_true rfl) (by decide) (rfl) (by decide) (by omega) ?_
  refine a_43_9 hI1 hc as1.2.1 (by first | omega | (simp only [List.length_append, List.length_cons, List.length_nil]; omega)) (by omega) (fun I2 as2 => ?_)
  rw [as1.2.2 c 3 (by omega)]
  have hI2 := as2.1
  show Ev d 56 13 [some (vr 9), some (vr c), some (vr 3), none] [vi (I c 3)] (SX I2 ch kd) Q
  refine ev_s1 (L' := [some (vr 9), some (vr c), some (vr 3), some (vi (I c 3))]) (S' := []) k56_13 rfl rfl ?_
  refine ev_s1 (L' := [some (vr 9), some (vr c), some (vr 3), some (vi (I c 3))]) (S' := [vi (I c 3)]) k56_14 rfl rfl ?_
  refine ev_s1 (L' := [some (vr 9), some (vr c), some (vr 3), some (vi (I c 3))]) (S' := [vr 9, vi (I c 3)]) k56_15 rfl rfl ?_
  refine ev_s1 (L' := [some (vr 9), some (vr c), some (vr 3), some (vi (I c 3))]) (S' := [vr c, vr 9, vi (I c 3)]) k56_16 rfl rfl ?_
  refine ev_s1 (L' := [some (vr 9), some (vr c), some (vr 3), some (vi (I c 3))]) (S' := [vr 3, vr c, vr 9, vi (I c 3)]) k56_17 rfl rfl ?_
  refine ev_virt (a := [vr c, vr 3]) (S' := [vi (I c 3)]) k56_18_7 rfl (Nat.le_of_ble_eq_true rfl) (by decide) (rfl) (by omega) ?_
  refine a_78_9 hI2 hc as2.2.1 (by first | omega | (simp only [List.length_append, List.length_cons, List.length_nil]; omega)) (by omega) (fun I3 as3 => ?_)
  rw [as2.2.2 c 1 (by omega), as1.2.2 c 1 (by omega), as2.2.2 c 2 (by omega), as1.2.2 c 2 (by omega)]
  have hI3 := as3.1
  show Ev d 56 21 [some (vr 9), some (vr c), some (vr 3), some (vi (I c 3))] [vi (2 * (I c 1 + I c 2)), vi (I c 3)] (SX I3 ch kd) Q
  refine ev_s1 (L' := [some (vr 9), some (vr c), some (vr 3), some (vi (I c 3))]) (S' := [vi ((I c 3) + (2 * (I c 1 + I c 2)))]) k56_21 rfl rfl ?_
  refine ev_ireturn k56_22 ?_
  exact hQ _ ⟨hI3, (by have tt := as3.2.1; simpa only [List.append_assoc, List.cons_append, List.nil_append] using tt), fun a b q => ((as3.2.2 a b q).trans ((as2.2.2 a b q).trans (as1.2.2 a b q)))⟩

set_option maxHeartbeats 1000000 in
theorem a_56_10 {d : Nat} {I : Nat → Int → Int} {ch : Int → Nat} {kd : Nat → Nat} {Q : Option jV → jS → Prop} (hI : Rg I) {c : Nat} (hc : isCh c = true) {l : List Int} (hT : TRo (I 3 1) (I 4) l) (hl : l.length + 5 ≤ 16) (hd : 6 ≤ d + 2) (hQ : ∀ I', ASX I I' (l ++ [11, 10, 22, 21, 20]) → Q (some (vi (I c 3 + (I c 1 + I c 2 - 1000)))) (SX I' ch kd)) : Cl d 56 [vr 10, vr c, vr 3] (SX I ch kd) Q := by
  have hcl := (shp_c hc).1
  have hcb : 19 ≤ c := ch_lo hc
  refine ⟨by rw [l56]; exact Nat.le_of_ble_eq_true rfl, ?_⟩
  rw [l56]
  show Ev d 56 0 [some (vr 10), some (vr c), some (vr 3), none] [] (SX I ch kd) Q
  refine ev_s1 (L' := [some (vr 10), some (vr c), some (vr 3), none]) (S' := [vr 3]) k56_0 rfl rfl ?_
  refine ev_s1 (L' := [some (vr 10), some (vr c), some (vr 3), none]) (S' := [vi 11, vr 3]) k56_1 rfl rfl ?_
  refine ev_virt (a := [vi 11]) (S' := []) k56_3 rfl (Nat.le_of_ble_eq_true rfl) (by decide) (rfl) (by omega) ?_
  refine x_beg hI (v := 11) (by decide) (by decide) hT (by first | omega | (simp only [List.length_append, List.length_cons, List.length_nil]; omega)) (fun I1 as1 => ?_)
  have hI1 := as1.1
  show Ev d 56 6 [some (vr 10), some (vr c), some (vr 3), none] [vi 1] (SX I1 ch kd) Q
  refine ev_s1 (L' := [some (vr 10), some (vr c), some (vr 3), none]) (S' := []) k56_6 rfl rfl ?_
  refine ev_s1 (L' := [some (vr 10), some (vr c), some (vr 3), none]) (S' := [vr 10]) k56_7 rfl rfl ?_
  refine ev_s1 (L' := [some (vr 10), some (vr c), some (vr 3), none]) (S' := [vr c, vr 10]) k56_8 rfl rfl ?_
  refine ev_s1 (L' := [some (vr 10), some (vr c), some (vr 3), none]) (S' := [vr 3, vr c, vr 10]) k56_9 rfl rfl ?_
  refine ev_spec (a := [vr c, vr 3]) (S' := []) k56_10 rfl (Nat.le_of_ble_eq_true rfl) (by decide) (rfl) (by decide) (by omega) ?_
  refine a_43_10 hI1 hc as1.2.1 (by first | omega | (simp only [List.length_append, List.length_cons, List.length_nil]; omega)) (by omega) (fun I2 as2 => ?_)
  rw [as1.2.2 c 3 (by omega)]
  have hI2 := as2.1
  show Ev d 56 13 [some (vr 10), some (vr c), some (vr 3), none] [vi (I c 3)] (SX I2 ch kd) Q
  refine ev_s1 (L' := [some (vr 10), some (vr c), some (vr 3), some (vi (I c 3))]) (S' := []) k56_13 rfl rfl ?_
  refine ev_s1 (L' := [some (vr 10), some (vr c), some (vr 3), some (vi (I c 3))]) (S' := [vi (I c 3)]) k56_14 rfl rfl ?_
  refine ev_s1 (L' := [some (vr 10), some (vr c), some (vr 3), some (vi (I c 3))]) (S' := [vr 10, vi (I c 3)]) k56_15 rfl rfl ?_
  refine ev_s1 (L' := [some (vr 10), some (vr c), some (vr 3), some (vi (I c 3))]) (S' := [vr c, vr 10, vi (I c 3)]) k56_16 rfl rfl ?_
  refine ev_s1 (L' := [some (vr 10), some (vr c), some (vr 3), some (vi (I c 3))]) (S' := [vr 3, vr c, vr 10, vi (I c 3)]) k56_17 rfl rfl ?_
  refine ev_virt (a := [vr c, vr 3]) (S' := [vi (I c 3)]) k56_18_0 rfl (Nat.le_of_ble_eq_true rfl) (by decide) (rfl) (by omega) ?_
  refine a_4_10 hI2 hc as2.2.1 (by first | omega | (simp only [List.length_append, List.length_cons, List.length_nil]; omega)) (by omega) (fun I3 as3 => ?_)
  rw [as2.2.2 c 1 (by omega), as1.2.2 c 1 (by omega), as2.2.2 c 2 (by omega), as1.2.2 c 2 (by omega)]
  have hI3 := as3.1
  show Ev d 56 21 [some (vr 10), some (vr c), some (vr 3), some (vi (I c 3))] [vi (I c 1 + I c 2 - 1000), vi (I c 3)] (SX I3 ch kd) Q
  refine ev_s1 (L' := [some (vr 10), some (vr c), some (vr 3), some (vi (I c 3))]) (S' := [vi ((I c 3) + (I c 1 + I c 2 - 1000))]) k56_21 rfl rfl ?_
  refine ev_ireturn k56_22 ?_
  exact hQ _ ⟨hI3, (by have tt := as3.2.1; simpa only [List.append_assoc, List.cons_append, List.nil_append] using tt), fun a b q => ((as3.2.2 a b q).trans ((as2.2.2 a b q).trans (as1.2.2 a b q)))⟩

set_option maxHeartbeats 1000000 in
theorem a_77_9 {d : Nat} {I : Nat → Int → Int} {ch : Int → Nat} {kd : Nat → Nat} {Q : Option jV → jS → Prop} (hI : Rg I) {c : Nat} (hc : isCh c = true) {l : List Int} (hT : TRo (I 3 1) (I 4) l) (hl : l.length + 6 ≤ 16) (hd : 6 ≤ d + 1) (hQ : ∀ I', ASX I I' (l ++ [12, 11, 10, 24, 21, 20]) → Q (some (vi (-(I c 3 + (2 * (I c 1 + I c 2)))))) (SX I' ch kd)) : Cl d 77 [vr 9, vr c, vr 3] (SX I ch kd) Q := by
  have hcl := (shp_c hc).1
  have hcb : 19 ≤ c := ch_lo hc
  refine ⟨by rw [l77]; exact Nat.le_of_ble_eq_true rfl, ?_⟩
  rw [l77]
  show Ev d 77 0 [some (vr 9), some (vr c), some (vr 3)] [] (SX I ch kd) Q
  refine ev_s1 (L' := [some (vr 9), some (vr c), some (vr 3)]) (S' := [vr 3]) k77_0 rfl rfl ?_
  refine ev_s1 (L' := [some (vr 9), some (vr c), some (vr 3)]) (S' := [vi 12, vr 3]) k77_1 rfl rfl ?_
  refine ev_virt (a := [vi 12]) (S' := []) k77_3 rfl (Nat.le_of_ble_eq_true rfl) (by decide) (rfl) (by omega) ?_
  refine x_beg hI (v := 12) (by decide) (by decide) hT (by first | omega | (simp only [List.length_append, List.length_cons, List.length_nil]; omega)) (fun I1 as1 => ?_)
  have hI1 := as1.1
  show Ev d 77 6 [some (vr 9), some (vr c), some (vr 3)] [vi 1] (SX I1 ch kd) Q
  refine ev_s1 (L' := [some (vr 9), some (vr c), some (vr 3)]) (S' := []) k77_6 rfl rfl ?_
  refine ev_s1 (L' := [some (vr 9), some (vr c), some (vr 3)]) (S' := [vr 9]) k77_7 rfl rfl ?_
  refine ev_s1 (L' := [some (vr 9), some (vr c), some (vr 3)]) (S' := [vr c, vr 9]) k77_8 rfl rfl ?_
  refine ev_s1 (L' := [some (vr 9), some (vr c), some (vr 3)]) (S' := [vr 3, vr c, vr 9]) k77_9 rfl rfl ?_
  refine ev_spec (a := [vr c, vr 3]) (S' := []) k77_10 rfl (Nat.le_of_ble_eq_true rfl) (by decide) (rfl) (by decide) (by omega) ?_
  refine a_56_9 hI1 hc as1.2.1 (by first | omega | (simp only [List.length_append, List.length_cons, List.length_nil]; omega)) (by omega) (fun I2 as2 => ?_)
  rw [as1.2.2 c 1 (by omega), as1.2.2 c 2 (by omega), as1.2.2 c 3 (by omega)]
  have hI2 := as2.1
  show Ev d 77 13 [some (vr 9), some (vr c), some (vr 3)] [vi (I c 3 + (2 * (I c 1 + I c 2)))] (SX I2 ch kd) Q
  refine ev_s1 (L' := [some (vr 9), some (vr c), some (vr 3)]) (S' := [vi (-(I c 3 + (2 * (I c 1 + I c 2))))]) k77_13 rfl rfl ?_
  refine ev_ireturn k77_14 ?_
  exact hQ _ ⟨hI2, (by have tt := as2.2.1; simpa only [List.append_assoc, List.cons_append, List.nil_append] using tt), fun a b q => ((as2.2.2 a b q).trans (as1.2.2 a b q))⟩

set_option maxHeartbeats 1000000 in
theorem a_107_11 {d : Nat} {I : Nat → Int → Int} {ch : Int → Nat} {kd : Nat → Nat} {Q : Option jV → jS → Prop} (hI : Rg I) {c : Nat} (hc : isCh c = true) {l : List Int} (hT : TRo (I 3 1) (I 4) l) (hl : l.length + 2 ≤ 16) (hd : 6 ≤ d + 4) (hQ : ∀ I', ASX I I' (l ++ [13, 10]) → Q (some (vi (I c 3 - 100))) (SX I' ch kd)) : Cl d 107 [vr 11, vr c, vr 3] (SX I ch kd) Q := by
  have hcl := (shp_c hc).1
  have hcb : 19 ≤ c := ch_lo hc
  refine ⟨by rw [l107]; exact Nat.le_of_ble_eq_true rfl, ?_⟩
  rw [l107]
  show Ev d 107 0 [some (vr 11), some (vr c), some (vr 3)] [] (SX I ch kd) Q
  refine ev_s1 (L' := [some (vr 11), some (vr c), some (vr 3)]) (S' := [vr 3]) k107_0 rfl rfl ?_
  refine ev_s1 (L' := [some (vr 11), some (vr c), some (vr 3)]) (S' := [vi 13, vr 3]) k107_1 rfl rfl ?_
  refine ev_virt (a := [vi 13]) (S' := []) k107_3 rfl (Nat.le_of_ble_eq_true rfl) (by decide) (rfl) (by omega) ?_
  refine x_beg hI (v := 13) (by decide) (by decide) hT (by first | omega | (simp only [List.length_append, List.length_cons, List.length_nil]; omega)) (fun I1 as1 => ?_)
  have hI1 := as1.1
  show Ev d 107 6 [some (vr 11), some (vr c), some (vr 3)] [vi 1] (SX I1 ch kd) Q
  refine ev_s1 (L' := [some (vr 11), some (vr c), some (vr 3)]) (S' := []) k107_6 rfl rfl ?_
  refine ev_s1 (L' := [some (vr 11), some (vr c), some (vr 3)]) (S' := [vr 11]) k107_7 rfl rfl ?_
  refine ev_s1 (L' := [some (vr 11), some (vr c), some (vr 3)]) (S' := [vr c, vr 11]) k107_8 rfl rfl ?_
  refine ev_s1 (L' := [some (vr 11), some (vr c), some (vr 3)]) (S' := [vr 3, vr c, vr 11]) k107_9 rfl rfl ?_
  refine ev_spec (a := [vr c, vr 3]) (S' := []) k107_10 rfl (Nat.le_of_ble_eq_true rfl) (by decide) (rfl) (by decide) (by omega) ?_
  refine a_43_11 hI1 hc as1.2.1 (by first | omega | (simp only [List.length_append, List.length_cons, List.length_nil]; omega)) (by omega) (fun I2 as2 => ?_)
  rw [as1.2.2 c 3 (by omega)]
  have hI2 := as2.1
  show Ev d 107 13 [some (vr 11), some (vr c), some (vr 3)] [vi (I c 3)] (SX I2 ch kd) Q
  refine ev_s1 (L' := [some (vr 11), some (vr c), some (vr 3)]) (S' := [vi 100, vi (I c 3)]) k107_13 rfl rfl ?_
  refine ev_s1 (L' := [some (vr 11), some (vr c), some (vr 3)]) (S' := [vi ((I c 3) - 100)]) k107_15 rfl rfl ?_
  refine ev_ireturn k107_16 ?_
  exact hQ _ ⟨hI2, (by have tt := as2.2.1; simpa only [List.append_assoc, List.cons_append, List.nil_append] using tt), fun a b q => ((as2.2.2 a b q).trans (as1.2.2 a b q))⟩

set_option maxHeartbeats 1000000 in
theorem a_107_12 {d : Nat} {I : Nat → Int → Int} {ch : Int → Nat} {kd : Nat → Nat} {Q : Option jV → jS → Prop} (hI : Rg I) {c : Nat} (hc : isCh c = true) {l : List Int} (hT : TRo (I 3 1) (I 4) l) (hl : l.length + 2 ≤ 16) (hd : 6 ≤ d + 4) (hQ : ∀ I', ASX I I' (l ++ [13, 10]) → Q (some (vi (I c 3 - 100))) (SX I' ch kd)) : Cl d 107 [vr 12, vr c, vr 3] (SX I ch kd) Q := by
  have hcl := (shp_c hc).1
  have hcb : 19 ≤ c := ch_lo hc
  refine ⟨by rw [l107]; exact Nat.le_of_ble_eq_true rfl, ?_⟩
  rw [l107]
  show Ev d 107 0 [some (vr 12), some (vr c), some (vr 3)] [] (SX I ch kd) Q
  refine ev_s1 (L' := [some (vr 12), some (vr c), some (vr 3)]) (S' := [vr 3]) k107_0 rfl rfl ?_
  refine ev_s1 (L' := [some (vr 12), some (vr c), some (vr 3)]) (S' := [vi 13, vr 3]) k107_1 rfl rfl ?_
  refine ev_virt (a := [vi 13]) (S' := []) k107_3 rfl (Nat.le_of_ble_eq_true rfl) (by decide) (rfl) (by omega) ?_
  refine x_beg hI (v := 13) (by decide) (by decide) hT (by first | omega | (simp only [List.length_append, List.length_cons, List.length_nil]; omega)) (fun I1 as1 => ?_)
  have hI1 := as1.1
  show Ev d 107 6 [some (vr 12), some (vr c), some (vr 3)] [vi 1] (SX I1 ch kd) Q
  refine ev_s1 (L' := [some (vr 12), some (vr c), some (vr 3)]) (S' := []) k107_6 rfl rfl ?_
  refine ev_s1 (L' := [some (vr 12), some (vr c), some (vr 3)]) (S' := [vr 12]) k107_7 rfl rfl ?_
  refine ev_s1 (L' := [some (vr 12), some (vr c), some (vr 3)]) (S' := [vr c, vr 12]) k107_8 rfl rfl ?_
  refine ev_s1 (L' := [some (vr 12), some (vr c), some (vr 3)]) (S' := [vr 3, vr c, vr 12]) k107_9 rfl rfl ?_
  refine ev_spec (a := [vr c, vr 3]) (S' := []) k107_10 rfl (Nat.le_of_ble_eq_true rfl) (by decide) (rfl) (by decide) (by omega) ?_
  refine a_43_12 hI1 hc as1.2.1 (by first | omega | (simp only [List.length_append, List.length_cons, List.length_nil]; omega)) (by omega) (fun I2 as2 => ?_)
  rw [as1.2.2 c 3 (by omega)]
  have hI2 := as2.1
  show Ev d 107 13 [some (vr 12), some (vr c), some (vr 3)] [vi (I c 3)] (SX I2 ch kd) Q
  refine ev_s1 (L' := [some (vr 12), some (vr c), some (vr 3)]) (S' := [vi 100, vi (I c 3)]) k107_13 rfl rfl ?_
  refine ev_s1 (L' := [some (vr 12), some (vr c), some (vr 3)]) (S' := [vi ((I c 3) - 100)]) k107_15 rfl rfl ?_
  refine ev_ireturn k107_16 ?_
  exact hQ _ ⟨hI2, (by have tt := as2.2.1; simpa only [List.append_assoc, List.cons_append, List.nil_append] using tt), fun a b q => ((as2.2.2 a b q).trans (as1.2.2 a b q))⟩

set_option maxHeartbeats 1000000 in
theorem a_16_12 {d : Nat} {I : Nat → Int → Int} {ch : Int → Nat} {kd : Nat → Nat} {Q : Option jV → jS → Prop} (hI : Rg I) {c : Nat} (hc : isCh c = true) {l : List Int} (hT : TRo (I 3 1) (I 4) l) (hl : l.length + 3 ≤ 16) (hd : 6 ≤ d + 3) (hQ : ∀ I', ASX I I' (l ++ [14, 13, 10]) → Q (some (vi (2 * (I c 3 - 100)))) (SX I' ch kd)) : Cl d 16 [vr 12, vr c, vr 3] (SX I ch kd) Q := by
  have hcl := (shp_c hc).1
  have hcb : 19 ≤ c := ch_lo hc
  refine ⟨by rw [l16]; exact Nat.le_of_ble_eq_true rfl, ?_⟩
  rw [l16]
  show Ev d 16 0 [some (vr 12), some (vr c), some (vr 3)] [] (SX I ch kd) Q
  refine ev_s1 (L' := [some (vr 12), some (vr c), some (vr 3)]) (S' := [vr 3]) k16_0 rfl rfl ?_
  refine ev_s1 (L' := [some (vr 12), some (vr c), some (vr 3)]) (S' := [vi 14, vr 3]) k16_1 rfl rfl ?_
  refine ev_virt (a := [vi 14]) (S' := []) k16_3 rfl (Nat.le_of_ble_eq_true rfl) (by decide) (rfl) (by omega) ?_
  refine x_beg hI (v := 14) (by decide) (by decide) hT (by first | omega | (simp only [List.length_append, List.length_cons, List.length_nil]; omega)) (fun I1 as1 => ?_)
  have hI1 := as1.1
  show Ev d 16 6 [some (vr 12), some (vr c), some (vr 3)] [vi 1] (SX I1 ch kd) Q
  refine ev_s1 (L' := [some (vr 12), some (vr c), some (vr 3)]) (S' := []) k16_6 rfl rfl ?_
  refine ev_s1 (L' := [some (vr 12), some (vr c), some (vr 3)]) (S' := [vi 2]) k16_7 rfl rfl ?_
  refine ev_s1 (L' := [some (vr 12), some (vr c), some (vr 3)]) (S' := [vr 12, vi 2]) k16_8 rfl rfl ?_
  refine ev_s1 (L' := [some (vr 12), some (vr c), some (vr 3)]) (S' := [vr c, vr 12, vi 2]) k16_9 rfl rfl ?_
  refine ev_s1 (L' := [some (vr 12), some (vr c), some (vr 3)]) (S' := [vr 3, vr c, vr 12, vi 2]) k16_10 rfl rfl ?_
  refine ev_spec (a := [vr c, vr 3]) (S' := [vi 2]) k16_11 rfl (Nat.le_of_ble_eq_true rfl) (by decide) (rfl) (by decide) (by omega) ?_
  refine a_107_12 hI1 hc as1.2.1 (by first | omega | (simp only [List.length_append, List.length_cons, List.length_nil]; omega)) (by omega) (fun I2 as2 => ?_)
  rw [as1.2.2 c 3 (by omega)]
  have hI2 := as2.1
  show Ev d 16 14 [some (vr 12), some (vr c), some (vr 3)] [vi (I c 3 - 100), vi 2] (SX I2 ch kd) Q
  refine ev_s1 (L' := [some (vr 12), some (vr c), some (vr 3)]) (S' := [vi (2 * (I c 3 - 100))]) k16_14 rfl rfl ?_
  refine ev_ireturn k16_15 ?_
  exact hQ _ ⟨hI2, (by have tt := as2.2.1; simpa only [List.append_assoc, List.cons_append, List.nil_append] using tt), fun a b q => ((as2.2.2 a b q).trans (as1.2.2 a b q))⟩

set_option maxHeartbeats 1000000 in
theorem a_108_11 {d : Nat} {I : Nat → Int → Int} {ch : Int → Nat} {kd : Nat → Nat} {Q : Option jV → jS → Prop} (hI : Rg I) {c : Nat} (hc : isCh c = true) {l : List Int} (hT : TRo (I 3 1) (I 4) l) (hl : l.length + 4 ≤ 16) (hd : 6 ≤ d + 2) (hQ : ∀ I', ASX I I' (l ++ [23, 20, 13, 10]) → Q (some (vi (I c 1 - (I c 3 - 100)))) (SX I' ch kd)) : Cl d 108 [vr 11, vr c, vr 3] (SX I ch kd) Q := by
  have hcl := (shp_c hc).1
  have hcb : 19 ≤ c := ch_lo hc
  refine ⟨by rw [l108]; exact Nat.le_of_ble_eq_true rfl, ?_⟩
  rw [l108]
  show Ev d 108 0 [some (vr 11), some (vr c), some (vr 3), none] [] (SX I ch kd) Q
  refine ev_s1 (L' := [some (vr 11), some (vr c), some (vr 3), none]) (S' := [vr 3]) k108_0 rfl rfl ?_
  refine ev_s1 (L' := [some (vr 11), some (vr c), some (vr 3), none]) (S' := [vi 23, vr 3]) k108_1 rfl rfl ?_
  refine ev_virt (a := [vi 23]) (S' := []) k108_3 rfl (Nat.le_of_ble_eq_true rfl) (by decide) (rfl) (by omega) ?_
  refine x_beg hI (v := 23) (by decide) (by decide) hT (by first | omega | (simp only [List.length_append, List.length_cons, List.length_nil]; omega)) (fun I1 as1 => ?_)
  have hI1 := as1.1
  show Ev d 108 6 [some (vr 11), some (vr c), some (vr 3), none] [vi 1] (SX I1 ch kd) Q
  refine ev_s1 (L' := [some (vr 11), some (vr c), some (vr 3), none]) (S' := []) k108_6 rfl rfl ?_
  refine ev_s1 (L' := [some (vr 11), some (vr c), some (vr 3), none]) (S' := [vr 11]) k108_7 rfl rfl ?_
  refine ev_s1 (L' := [some (vr 11), some (vr c), some (vr 3), none]) (S' := [vr c, vr 11]) k108_8 rfl rfl ?_
  refine ev_s1 (L' := [some (vr 11), some (vr c), some (vr 3), none]) (S' := [vr 3, vr c, vr 11]) k108_9 rfl rfl ?_
  refine ev_spec (a := [vr c, vr 3]) (S' := []) k108_10 rfl (Nat.le_of_ble_eq_true rfl) (by decide) (rfl) (by decide) (by omega) ?_
  refine a_44_11 hI1 hc as1.2.1 (by first | omega | (simp only [List.length_append, List.length_cons, List.length_nil]; omega)) (by omega) (fun I2 as2 => ?_)
  rw [as1.2.2 c 1 (by omega)]
  have hI2 := as2.1
  show Ev d 108 13 [some (vr 11), some (vr c), some (vr 3), none] [vi (I c 1)] (SX I2 ch kd) Q
  refine ev_s1 (L' := [some (vr 11), some (vr c), some (vr 3), some (vi (I c 1))]) (S' := []) k108_13 rfl rfl ?_
  refine ev_s1 (L' := [some (vr 11), some (vr c), some (vr 3), some (vi (I c 1))]) (S' := [vi (I c 1)]) k108_14 rfl rfl ?_
  refine ev_s1 (L' := [some (vr 11), some (vr c), some (vr 3), some (vi (I c 1))]) (S' := [vr 11, vi (I c 1)]) k108_15 rfl rfl ?_
  refine ev_s1 (L' := [some (vr 11), some (vr c), some (vr 3), some (vi (I c 1))]) (S' := [vr c, vr 11, vi (I c 1)]) k108_16 rfl rfl ?_
  refine ev_s1 (L' := [some (vr 11), some (vr c), some (vr 3), some (vi (I c 1))]) (S' := [vr 3, vr c, vr 11, vi (I c 1)]) k108_17 rfl rfl ?_
  refine ev_virt (a := [vr c, vr 3]) (S' := [vi (I c 1)]) k108_18_9 rfl (Nat.le_of_ble_eq_true rfl) (by decide) (rfl) (by omega) ?_
  refine a_107_11 hI2 hc as2.2.1 (by first | omega | (simp only [List.length_append, List.length_cons, List.length_nil]; omega)) (by omega) (fun I3 as3 => ?_)
  rw [as2.2.2 c 3 (by omega), as1.2.2 c 3 (by omega)]
  have hI3 := as3.1
  show Ev d 108 21 [some (vr 11), some (vr c), some (vr 3), some (vi (I c 1))] [vi (I c 3 - 100), vi (I c 1)] (SX I3 ch kd) Q
  refine ev_s1 (L' := [some (vr 11), some (vr c), some (vr 3), some (vi (I c 1))]) (S' := [vi ((I c 1) - (I c 3 - 100))]) k108_21 rfl rfl ?_
  refine ev_ireturn k108_22 ?_
  exact hQ _ ⟨hI3, (by have tt := as3.2.1; simpa only [List.append_assoc, List.cons_append, List.nil_append] using tt), fun a b q => ((as3.2.2 a b q).trans ((as2.2.2 a b q).trans (as1.2.2 a b q)))⟩

set_option maxHeartbeats 1000000 in
theorem a_108_12 {d : Nat} {I : Nat → Int → Int} {ch : Int → Nat} {kd : Nat → Nat} {Q : Option jV → jS → Prop} (hI : Rg I) {c : Nat} (hc : isCh c = true) {l : List Int} (hT : TRo (I 3 1) (I 4) l) (hl : l.length + 5 ≤ 16) (hd : 6 ≤ d + 2) (hQ : ∀ I', ASX I I' (l ++ [23, 20, 14, 13, 10]) → Q (some (vi (I c 1 - (2 * (I c 3 - 100))))) (SX I' ch kd)) : Cl d 108 [vr 12, vr c, vr 3] (SX I ch kd) Q := by
  have hcl := (shp_c hc).1
  have hcb : 19 ≤ c := ch_lo hc
  refine ⟨by rw [l108]; exact Nat.le_of_ble_eq_true rfl, ?_⟩
  rw [l108]
  show Ev d 108 0 [some (vr 12), some (vr c), some (vr 3), none] [] (SX I ch kd) Q
  refine ev_s1 (L' := [some (vr 12), some (vr c), some (vr 3), none]) (S' := [vr 3]) k108_0 rfl rfl ?_
  refine ev_s1 (L' := [some (vr 12), some (vr c), some (vr 3), none]) (S' := [vi 23, vr 3]) k108_1 rfl rfl ?_
  refine ev_virt (a := [vi 23]) (S' := []) k108_3 rfl (Nat.le_of_ble_eq_true rfl) (by decide) (rfl) (by omega) ?_
  refine x_beg hI (v := 23) (by decide) (by decide) hT (by first | omega | (simp only [List.length_append, List.length_cons, List.length_nil]; omega)) (fun I1 as1 => ?_)
  have hI1 := as1.1
  show Ev d 108 6 [some (vr 12), some (vr c), some (vr 3), none] [vi 1] (SX I1 ch kd) Q
  refine ev_s1 (L' := [some (vr 12), some (vr c), some (vr 3), none]) (S' := []) k108_6 rfl rfl ?_
  refine ev_s1 (L' := [some (vr 12), some (vr c), some (vr 3), none]) (S' := [vr 12]) k108_7 rfl rfl ?_
  refine ev_s1 (L' := [some (vr 12), some (vr c), some (vr 3), none]) (S' := [vr c, vr 12]) k108_8 rfl rfl ?_
  refine ev_s1 (L' := [some (vr 12), some (vr c), some (vr 3), none]) (S' := [vr 3, vr c, vr 12]) k108_9 rfl rfl ?_
  refine ev_spec (a := [vr c, vr 3]) (S' := []) k108_10 rfl (Nat.le_of_ble_eq_true rfl) (by decide) (rfl) (by decide) (by omega) ?_
  refine a_44_12 hI1 hc as1.2.1 (by first | omega | (simp only [List.length_append, List.length_cons, List.length_nil]; omega)) (by omega) (fun I2 as2 => ?_)
  rw [as1.2.2 c 1 (by omega)]
  have hI2 := as2.1
  show Ev d 108 13 [some (vr 12), some (vr c), some (vr 3), none] [vi (I c 1)] (SX I2 ch kd) Q
  refine ev_s1 (L' := [some (vr 12), some (vr c), some (vr 3), some (vi (I c 1))]) (S' := []) k108_13 rfl rfl ?_
  refine ev_s1 (L' := [some (vr 12), some (vr c), some (vr 3), some (vi (I c 1))]) (S' := [vi (I c 1)]) k108_14 rfl rfl ?_
  refine ev_s1 (L' := [some (vr 12), some (vr c), some (vr 3), some (vi (I c 1))]) (S' := [vr 12, vi (I c 1)]) k108_15 rfl rfl ?_
  refine ev_s1 (L' := [some (vr 12), some (vr c), some (vr 3), some (vi (I c 1))]) (S' := [vr c, vr 12, vi (I c 1)]) k108_16 rfl rfl ?_
  refine ev_s1 (L' := [some (vr 12), some (vr c), some (vr 3), some (vi (I c 1))]) (S' := [vr 3, vr c, vr 12, vi (I c 1)]) k108_17 rfl rfl ?_
  refine ev_virt (a := [vr c, vr 3]) (S' := [vi (I c 1)]) k108_18_2 rfl (Nat.le_of_ble_eq_true rfl) (by decide) (rfl) (by omega) ?_
  refine a_16_12 hI2 hc as2.2.1 (by first | omega | (simp only [List.length_append, List.length_cons, List.length_nil]; omega)) (by omega) (fun I3 as3 => ?_)
  rw [as2.2.2 c 3 (by omega), as1.2.2 c 3 (by omega)]
  have hI3 := as3.1
  show Ev d 108 21 [some (vr 12), some (vr c), some (vr 3), some (vi (I c 1))] [vi (2 * (I c 3 - 100)), vi (I c 1)] (SX I3 ch kd) Q
  refine ev_s1 (L' := [some (vr 12), some (vr c), some (vr 3), some (vi (I c 1))]) (S' := [vi ((I c 1) - (2 * (I c 3 - 100)))]) k108_21 rfl rfl ?_
  refine ev_ireturn k108_22 ?_
  exact hQ _ ⟨hI3, (by have tt := as3.2.1; simpa only [List.append_assoc, List.cons_append, List.nil_append] using tt), fun a b q => ((as3.2.2 a b q).trans ((as2.2.2 a b q).trans (as1.2.2 a b q)))⟩

set_option maxHeartbeats 4000000 in
theorem s_ask {d e : Nat} {I : Nat → Int → Int} {ch : Int → Nat} {kd : Nat → Nat} {J : Nat → Int → Int} {Q : Option jV → jS → Prop} (hX : XR I ch kd J) {c x : Int} (ca : -2147483648 ≤ c) (cb : c < 2147483648) (xa : -2147483648 ≤ x) (xb : x < 2147483648) (hd : 13 ≤ d) (he : 13 ≤ e) (hQ : ∀ I' ch' kd' v, AN e 224 [vr 0, vi c, vi x] J v I' ch' kd' → Q (some (vi v)) (SX I' ch' kd')) : Cl d 139 [vr 0, vi c, vi x] (SX I ch kd) Q := by
  obtain ⟨hI, hJ, hN, hA, hO⟩ := id hX
  have hw := hN.2.2.1
  obtain ⟨⟨wa0, wa1⟩, ⟨wb0, wb1⟩, ⟨wc0, wc1⟩, wC, wG, wU⟩ := id hw
  refine ⟨by rw [l139]; exact Nat.le_of_ble_eq_true rfl, ?_⟩
  rw [l139]
  show Ev d 139 0 [some (vr 0), some (vi c), some (vi x), none] [] (SX I ch kd) Q
  refine ev_s1 (L' := [some (vr 0), some (vi c), some (vi x), none]) (S' := [vr 0]) k139_0 rfl rfl ?_
  refine ev_getR k139_1 (by decide) (rfl) (x_0_5 ch kd) ?_
  refine ev_s1 (L' := [some (vr 0), some (vi c), some (vi x), none]) (S' := [vi c, vr 13]) k139_4 rfl rfl ?_
  refine ev_virt (a := [vi c]) (S' := []) k139_5 rfl (Nat.le_of_ble_eq_true rfl) (by decide) (rfl) (by omega) ?_
  refine x_hasC hN hI (i := c) (by omega) (by omega) (fun h1 => ?_) (fun h1 => ?_)
  · show Ev d 139 8 [some (vr 0), some (vi c), some (vi x), none] [vi 1] (SX I ch kd) Q
    refine ev_z_eq (t := 20) k139_8 rfl (by omega) (by omega) (fun h => absurd h (by decide)) (fun _ => ?_)
    refine ev_s1 (L' := [some (vr 0), some (vi c), some (vi x), none]) (S' := [vi x]) k139_11 rfl rfl ?_
    refine ev_s1 (L' := [some (vr 0), some (vi c), some (vi x), none]) (S' := [vi 0, vi x]) k139_12 rfl rfl ?_
    refine ev_s1 (L' := [some (vr 0), some (vi c), some (vi x), none]) (S' := [vi 1, vi 0, vi x]) k139_13 rfl rfl ?_
    refine ev_static (a := [vi x, vi 0, vi 1]) (S' := []) k139_14 rfl (Nat.le_of_ble_eq_true rfl) (by omega) ?_
    refine x_within (v := x) (lo := 0) (hi := 1) (by omega) (by omega) (by omega) (by omega) (by omega) (by omega) (fun h2 => ?_) (fun h2 => ?_)
    · show Ev d 139 17 [some (vr 0), some (vi c), some (vi x), none] [vi 1] (SX I ch kd) Q
      refine ev_z_ne (t := 23) k139_17 rfl (by omega) (by omega) (fun _ => ?_) (fun h => absurd h (by decide))
      refine ev_s1 (L' := [some (vr 0), some (vi c), some (vi x), none]) (S' := [vr 0]) k139_23 rfl rfl ?_
      refine ev_getR k139_24 (by decide) (rfl) (x_0_2 ch kd) ?_
      refine ev_virt (a := []) (S' := []) k139_27 rfl (Nat.le_of_ble_eq_true rfl) (by decide) (rfl) (by omega) ?_
      refine x_clear ln3 hI (fun I3 hI3 e3 f3 => ?_)
      show Ev d 139 30 [some (vr 0), some (vi c), some (vi x), none] [] (SX I3 ch kd) Q
      have tr0 : TRo (I3 3 1) (I3 4) [] := ⟨e3.trans rfl, fun i hi => absurd hi (Nat.not_lt_zero i)⟩
      have hN3 := hN.fr (I' := I3) (fun a b a0 a1 => f3 a b (by omega))
      refine ev_s1 (L' := [some (vr 0), some (vi c), some (vi x), none]) (S' := [vr 0]) k139_30 rfl rfl ?_
      refine ev_getR k139_31 (by decide) (rfl) (x_0_5 ch kd) ?_
      refine ev_getR k139_34 (by decide) (rfl) (x_13_1 ch kd) ?_
      refine ev_s1 (L' := [some (vr 0), some (vi c), some (vi x), none]) (S' := [vi c, vr 14]) k139_37 rfl rfl ?_
      have hc4 := hN3.1.2.1 c (by omega) (by omega)
      have hl4 := (shp_c hc4.2).1
      have hb4 := hN3.1.2.2.2 c (by omega) (by omega)
      refine ev_aald (q := ch c) k139_38 (by decide) (rfl) (by decide) (by decide) (by omega) (by omega) (rX14 (by omega) (by omega)) ?_
      refine ev_s1 (L' := [some (vr 0), some (vi c), some (vi x), some (vr (ch c))]) (S' := []) k139_39 rfl rfl ?_
      refine ev_s1 (L' := [some (vr 0), some (vi c), some (vi x), some (vr (ch c))]) (S' := [vi x]) k139_40 rfl rfl ?_
      refine ev_z_ne (t := 59) k139_41 rfl (by omega) (by omega) (fun h5 => ?_) (fun h5 => ?_)
      · refine ev_s1 (L' := [some (vr 0), some (vi c), some (vi x), some (vr (ch c))]) (S' := [vr (ch c)]) k139_59 rfl rfl ?_
        refine ev_getR k139_60 (by omega) ((shp_c hc4.2).2) (rX_c hc4.2) ?_
        refine ev_s1 (L' := [some (vr 0), some (vi c), some (vi x), some (vr (ch c))]) (S' := [vr (ch c), vr (kd (ch c))]) k139_63 rfl rfl ?_
        refine ev_s1 (L' := [some (vr 0), some (vi c), some (vi x), some (vr (ch c))]) (S' := [vr 0, vr (ch c), vr (kd (ch c))]) k139_64 rfl rfl ?_
        refine ev_getR k139_65 (by decide) (rfl) (x_0_2 ch kd) ?_
        have kb := hN.2.2.2 c (by omega) (by omega)
        have kc := (hN.2.1.2.2.2.1 c (by omega) (by omega)).1
        have hch := (hN.1.2.1 c (by omega) (by omega)).2
        have hchb := hN.1.2.2.2 c (by omega) (by omega)
        rcases (show kd (ch c) = 8 ∨ kd (ch c) = 9 ∨ kd (ch c) = 10 ∨ kd (ch c) = 11 ∨ kd (ch c) = 12 by omega) with hk | hk | hk | hk | hk
        · refine ev_virt (k := kd (ch c)) (a := [vr (ch c), vr 3]) (S' := []) k139_68_5 rfl (Nat.le_of_ble_eq_true rfl) (by omega) (by rw [hk]; rfl) (by omega) ?_
          rw [hk]
          refine a_57_8 hI3 hch (l := []) tr0 (by decide) (by omega) (fun I6 as6 => ?_)
          rw [f3 (ch c) 1 (by omega), (hN.2.1.2.2.2.1 c (by omega) (by omega)).2.1, f3 (ch c) 2 (by omega), (hN.2.1.2.2.2.1 c (by omega) (by omega)).2.2.1]
          have hI6 := as6.1
          show Ev d 139 71 [some (vr 0), some (vi c), some (vi x), some (vr (ch c))] [vi (J 6 (3 + 5 * c + 1) + J 6 (3 + 5 * c + 2))] (SX I6 ch kd) Q
          refine ev_ireturn k139_71 ?_
          have hkk : J 6 (3 + 5 * c) = 1 := by omega
          have ev : (if x = 0 then sizV (J 6 (3 + 5 * c)) (J 6 (3 + 5 * c + 1)) (J 6 (3 + 5 * c + 2)) (J 6 (3 + 5 * c + 3)) else marV (J 6 (3 + 5 * c)) (J 6 (3 + 5 * c + 1)) (J 6 (3 + 5 * c + 2)) (J 6 (3 + 5 * c + 3))) = J 6 (3 + 5 * c + 1) + J 6 (3 + 5 * c + 2) := by rw [if_neg (by omega), hkk]; rfl
          have el : (if x = 0 then sizL (J 6 (3 + 5 * c)) else marL (J 6 (3 + 5 * c))) = [21, 20] := by rw [if_neg (by omega), hkk]; rfl
          refine hQ _ _ _ _ ?_
          exact m_ask hJ hw (by omega) (by omega) (by omega) (by omega) (by omega) (fun h => by exfalso; omega) (fun h J' fm => ⟨J', by rw [ev], rfl, hX.ask (l := [21, 20]) (by decide) hI6 (by have tt := as6.2.1; simpa only [List.nil_append] using tt) (fun a b q => (as6.2.2 a b q).trans (f3 a b (by omega))) (by rw [el] at fm; exact fm)⟩)
        · refine ev_virt (k := kd (ch c)) (a := [vr (ch c), vr 3]) (S' := []) k139_68_7 rfl (Nat.le_of_ble_eq_true rfl) (by omega) (by rw [hk]; rfl) (by omega) ?_
          rw [hk]
          refine a_78_9 hI3 hch (l := []) tr0 (by decide) (by omega) (fun I7 as7 => ?_)
          rw [f3 (ch c) 1 (by omega), (hN.2.1.2.2.2.1 c (by omega) (by omega)).2.1, f3 (ch c) 2 (by omega), (hN.2.1.2.2.2.1 c (by omega) (by omega)).2.2.1]
          have hI7 := as7.1
          show Ev d 139 71 [some (vr 0), some (vi c), some (vi x), some (vr (ch c))] [vi (2 * (J 6 (3 + 5 * c + 1) + J 6 (3 + 5 * c + 2)))] (SX I7 ch kd) Q
          refine ev_ireturn k139_71 ?_
          have hkk : J 6 (3 + 5 * c) = 2 := by omega
          have ev : (if x = 0 then sizV (J 6 (3 + 5 * c)) (J 6 (3 + 5 * c + 1)) (J 6 (3 + 5 * c + 2)) (J 6 (3 + 5 * c + 3)) else marV (J 6 (3 + 5 * c)) (J 6 (3 + 5 * c + 1)) (J 6 (3 + 5 * c + 2)) (J 6 (3 + 5 * c + 3))) = 2 * (J 6 (3 + 5 * c + 1) + J 6 (3 + 5 * c + 2)) := by rw [if_neg (by omega), hkk]; rfl
          have el : (if x = 0 then sizL (J 6 (3 + 5 * c)) else marL (J 6 (3 + 5 * c))) = [24, 21, 20] := by rw [if_neg (by omega), hkk]; rfl
          refine hQ _ _ _ _ ?_
          exact m_ask hJ hw (by omega) (by omega) (by omega) (by omega) (by omega) (fun h => by exfalso; omega) (fun h J' fm => ⟨J', by rw [ev], rfl, hX.ask (l := [24, 21, 20]) (by decide) hI7 (by have tt := as7.2.1; simpa only [List.nil_append] using tt) (fun a b q => (as7.2.2 a b q).trans (f3 a b (by omega))) (by rw [el] at fm; exact fm)⟩)
        · refine ev_virt (k := kd (ch c)) (a := [vr (ch c), vr 3]) (S' := []) k139_68_0 rfl (Nat.le_of_ble_eq_true rfl) (by omega) (by rw [hk]; rfl) (by omega) ?_
          rw [hk]
          refine a_4_10 hI3 hch (l := []) tr0 (by decide) (by omega) (fun I8 as8 => ?_)
          rw [f3 (ch c) 1 (by omega), (hN.2.1.2.2.2.1 c (by omega) (by omega)).2.1, f3 (ch c) 2 (by omega), (hN.2.1.2.2.2.1 c (by omega) (by omega)).2.2.1]
          have hI8 := as8.1
          show Ev d 139 71 [some (vr 0), some (vi c), some (vi x), some (vr (ch c))] [vi (J 6 (3 + 5 * c + 1) + J 6 (3 + 5 * c + 2) - 1000)] (SX I8 ch kd) Q
          refine ev_ireturn k139_71 ?_
          have hkk : J 6 (3 + 5 * c) = 3 := by omega
          have ev : (if x = 0 then sizV (J 6 (3 + 5 * c)) (J 6 (3 + 5 * c + 1)) (J 6 (3 + 5 * c + 2)) (J 6 (3 + 5 * c + 3)) else marV (J 6 (3 + 5 * c)) (J 6 (3 + 5 * c + 1)) (J 6 (3 + 5 * c + 2)) (J 6 (3 + 5 * c + 3))) = J 6 (3 + 5 * c + 1) + J 6 (3 + 5 * c + 2) - 1000 := by rw [if_neg (by omega), hkk]; rfl
          have el : (if x = 0 then sizL (J 6 (3 + 5 * c)) else marL (J 6 (3 + 5 * c))) = [22, 21, 20] := by rw [if_neg (by omega), hkk]; rfl
          refine hQ _ _ _ _ ?_
          exact m_ask hJ hw (by omega) (by omega) (by omega) (by omega) (by omega) (fun h => by exfalso; omega) (fun h J' fm => ⟨J', by rw [ev], rfl, hX.ask (l := [22, 21, 20]) (by decide) hI8 (by have tt := as8.2.1; simpa only [List.nil_append] using tt) (fun a b q => (as8.2.2 a b q).trans (f3 a b (by omega))) (by rw [el] at fm; exact fm)⟩)
        · refine ev_virt (k := kd (ch c)) (a := [vr (ch c), vr 3]) (S' := []) k139_68_9 rfl (Nat.le_of_ble_eq_true rfl) (by omega) (by rw [hk]; rfl) (by omega) ?_
          rw [hk]
          refine a_108_11 hI3 hch (l := []) tr0 (by decide) (by omega) (fun I9 as9 => ?_)
          rw [f3 (ch c) 1 (by omega), (hN.2.1.2.2.2.1 c (by omega) (by omega)).2.1, f3 (ch c) 3 (by omega), (hN.2.1.2.2.2.1 c (by omega) (by omega)).2.2.2.1]
          have hI9 := as9.1
          show Ev d 139 71 [some (vr 0), some (vi c), some (vi x), some (vr (ch c))] [vi (J 6 (3 + 5 * c + 1) - (J 6 (3 + 5 * c + 3) - 100))] (SX I9 ch kd) Q
          refine ev_ireturn k139_71 ?_
          have hkk : J 6 (3 + 5 * c) = 4 := by omega
          have ev : (if x = 0 then sizV (J 6 (3 + 5 * c)) (J 6 (3 + 5 * c + 1)) (J 6 (3 + 5 * c + 2)) (J 6 (3 + 5 * c + 3)) else marV (J 6 (3 + 5 * c)) (J 6 (3 + 5 * c + 1)) (J 6 (3 + 5 * c + 2)) (J 6 (3 + 5 * c + 3))) = J 6 (3 + 5 * c + 1) - (J 6 (3 + 5 * c + 3) - 100) := by rw [if_neg (by omega), hkk]; rfl
          have el : (if x = 0 then sizL (J 6 (3 + 5 * c)) else marL (J 6 (3 + 5 * c))) = [23, 20, 13, 10] := by rw [if_neg (by omega), hkk]; rfl
          refine hQ _ _ _ _ ?_
          exact m_ask hJ hw (by omega) (by omega) (by omega) (by omega) (by omega) (fun h => by exfalso; omega) (fun h J' fm => ⟨J', by rw [ev], rfl, hX.ask (l := [23, 20, 13, 10]) (by decide) hI9 (by have tt := as9.2.1; simpa only [List.nil_append] using tt) (fun a b q => (as9.2.2 a b q).trans (f3 a b (by omega))) (by rw [el] at fm; exact fm)⟩)
        · refine ev_virt (k := kd (ch c)) (a := [vr (ch c), vr 3]) (S' := []) k139_68_2 rfl (Nat.le_of_ble_eq_true rfl) (by omega) (by rw [hk]; rfl) (by omega) ?_
          rw [hk]
          refine a_108_12 hI3 hch (l := []) tr0 (by decide) (by omega) (fun I10 as10 => ?_)
          rw [f3 (ch c) 1 (by omega), (hN.2.1.2.2.2.1 c (by omega) (by omega)).2.1, f3 (ch c) 3 (by omega), (hN.2.1.2.2.2.1 c (by omega) (by omega)).2.2.2.1]
          have hI10 := as10.1
          show Ev d 139 71 [some (vr 0), some (vi c), some (vi x), some (vr (ch c))] [vi (J 6 (3 + 5 * c + 1) - (2 * (J 6 (3 + 5 * c + 3) - 100)))] (SX I10 ch kd) Q
          refine ev_ireturn k139_71 ?_
          have hkk : J 6 (3 + 5 * c) = 5 := by omega
          have ev : (if x = 0 then sizV (J 6 (3 + 5 * c)) (J 6 (3 + 5 * c + 1)) (J 6 (3 + 5 * c + 2)) (J 6 (3 + 5 * c + 3)) else marV (J 6 (3 + 5 * c)) (J 6 (3 + 5 * c + 1)) (J 6 (3 + 5 * c + 2)) (J 6 (3 + 5 * c + 3))) = J 6 (3 + 5 * c + 1) - (2 * (J 6 (3 + 5 * c + 3) - 100)) := by rw [if_neg (by omega), hkk]; rfl
          have el : (if x = 0 then sizL (J 6 (3 + 5 * c)) else marL (J 6 (3 + 5 * c))) = [23, 20, 14, 13, 10] := by rw [if_neg (by omega), hkk]; rfl
          refine hQ _ _ _ _ ?_
          exact m_ask hJ hw (by omega) (by omega) (by omega) (by omega) (by omega) (fun h => by exfalso; omega) (fun h J' fm => ⟨J', by rw [ev], rfl, hX.ask (l := [23, 20, 14, 13, 10]) (by decide) hI10 (by have tt := as10.2.1; simpa only [List.nil_append] using tt) (fun a b q => (as10.2.2 a b q).trans (f3 a b (by omega))) (by rw [el] at fm; exact fm)⟩)
        
      · refine ev_s1 (L' := [some (vr 0), some (vi c), some (vi x), some (vr (ch c))]) (S' := [vr (ch c)]) k139_44 rfl rfl ?_
        refine ev_getR k139_45 (by omega) ((shp_c hc4.2).2) (rX_c hc4.2) ?_
        refine ev_s1 (L' := [some (vr 0), some (vi c), some (vi x), some (vr (ch c))]) (S' := [vr (ch c), vr (kd (ch c))]) k139_48 rfl rfl ?_
        refine ev_s1 (L' := [some (vr 0), some (vi c), some (vi x), some (vr (ch c))]) (S' := [vr 0, vr (ch c), vr (kd (ch c))]) k139_49 rfl rfl ?_
        refine ev_getR k139_50 (by decide) (rfl) (x_0_2 ch kd) ?_
        have kb := hN.2.2.2 c (by omega) (by omega)
        have kc := (hN.2.1.2.2.2.1 c (by omega) (by omega)).1
        have hch := (hN.1.2.1 c (by omega) (by omega)).2
        have hchb := hN.1.2.2.2 c (by omega) (by omega)
        rcases (show kd (ch c) = 8 ∨ kd (ch c) = 9 ∨ kd (ch c) = 10 ∨ kd (ch c) = 11 ∨ kd (ch c) = 12 by omega) with hk | hk | hk | hk | hk
        · refine ev_virt (k := kd (ch c)) (a := [vr (ch c), vr 3]) (S' := []) k139_53_5 rfl (Nat.le_of_ble_eq_true rfl) (by omega) (by rw [hk]; rfl) (by omega) ?_
          rw [hk]
          refine a_56_8 hI3 hch (l := []) tr0 (by decide) (by omega) (fun I11 as11 => ?_)
          rw [f3 (ch c) 1 (by omega), (hN.2.1.2.2.2.1 c (by omega) (by omega)).2.1, f3 (ch c) 2 (by omega), (hN.2.1.2.2.2.1 c (by omega) (by omega)).2.2.1, f3 (ch c) 3 (by omega), (hN.2.1.2.2.2.1 c (by omega) (by omega)).2.2.2.1]
          have hI11 := as11.1
          show Ev d 139 56 [some (vr 0), some (vi c), some (vi x), some (vr (ch c))] [vi (J 6 (3 + 5 * c + 3) + (J 6 (3 + 5 * c + 1) + J 6 (3 + 5 * c + 2)))] (SX I11 ch kd) Q
          refine ev_goto (t := 71) k139_56 rfl ?_
          refine ev_ireturn k139_71 ?_
          have hkk : J 6 (3 + 5 * c) = 1 := by omega
          have ev : (if x = 0 then sizV (J 6 (3 + 5 * c)) (J 6 (3 + 5 * c + 1)) (J 6 (3 + 5 * c + 2)) (J 6 (3 + 5 * c + 3)) else marV (J 6 (3 + 5 * c)) (J 6 (3 + 5 * c + 1)) (J 6 (3 + 5 * c + 2)) (J 6 (3 + 5 * c + 3))) = J 6 (3 + 5 * c + 3) + (J 6 (3 + 5 * c + 1) + J 6 (3 + 5 * c + 2)) := by rw [if_pos (by omega), hkk]; rfl
          have el : (if x = 0 then sizL (J 6 (3 + 5 * c)) else marL (J 6 (3 + 5 * c))) = [11, 10, 21, 20] := by rw [if_pos (by omega), hkk]; rfl
          refine hQ _ _ _ _ ?_
          exact m_ask hJ hw (by omega) (by omega) (by omega) (by omega) (by omega) (fun h => by exfalso; omega) (fun h J' fm => ⟨J', by rw [ev], rfl, hX.ask (l := [11, 10, 21, 20]) (by decide) hI11 (by have tt := as11.2.1; simpa only [List.nil_append] using tt) (fun a b q => (as11.2.2 a b q).trans (f3 a b (by omega))) (by rw [el] at fm; exact fm)⟩)
        · refine ev_virt (k := kd (ch c)) (a := [vr (ch c), vr 3]) (S' := []) k139_53_7 rfl (Nat.le_of_ble_eq_true rfl) (by omega) (by rw [hk]; rfl) (by omega) ?_
          rw [hk]
          refine a_77_9 hI3 hch (l := []) tr0 (by decide) (by omega) (fun I12 as12 => ?_)
          rw [f3 (ch c) 1 (by omega), (hN.2.1.2.2.2.1 c (by omega) (by omega)).2.1, f3 (ch c) 2 (by omega), (hN.2.1.2.2.2.1 c (by omega) (by omega)).2.2.1, f3 (ch c) 3 (by omega), (hN.2.1.2.2.2.1 c (by omega) (by omega)).2.2.2.1]
          have hI12 := as12.1
          show Ev d 139 56 [some (vr 0), some (vi c), some (vi x), some (vr (ch c))] [vi (-(J 6 (3 + 5 * c + 3) + (2 * (J 6 (3 + 5 * c + 1) + J 6 (3 + 5 * c + 2)))))] (SX I12 ch kd) Q
          refine ev_goto (t := 71) k139_56 rfl ?_
          refine ev_ireturn k139_71 ?_
          have hkk : J 6 (3 + 5 * c) = 2 := by omega
          have ev : (if x = 0 then sizV (J 6 (3 + 5 * c)) (J 6 (3 + 5 * c + 1)) (J 6 (3 + 5 * c + 2)) (J 6 (3 + 5 * c + 3)) else marV (J 6 (3 + 5 * c)) (J 6 (3 + 5 * c + 1)) (J 6 (3 + 5 * c + 2)) (J 6 (3 + 5 * c + 3))) = -(J 6 (3 + 5 * c + 3) + (2 * (J 6 (3 + 5 * c + 1) + J 6 (3 + 5 * c + 2)))) := by rw [if_pos (by omega), hkk]; rfl
          have el : (if x = 0 then sizL (J 6 (3 + 5 * c)) else marL (J 6 (3 + 5 * c))) = [12, 11, 10, 24, 21, 20] := by rw [if_pos (by omega), hkk]; rfl
          refine hQ _ _ _ _ ?_
          exact m_ask hJ hw (by omega) (by omega) (by omega) (by omega) (by omega) (fun h => by exfalso; omega) (fun h J' fm => ⟨J', by rw [ev], rfl, hX.ask (l := [12, 11, 10, 24, 21, 20]) (by decide) hI12 (by have tt := as12.2.1; simpa only [List.nil_append] using tt) (fun a b q => (as12.2.2 a b q).trans (f3 a b (by omega))) (by rw [el] at fm; exact fm)⟩)
        · refine ev_virt (k := kd (ch c)) (a := [vr (ch c), vr 3]) (S' := []) k139_53_0 rfl (Nat.le_of_ble_eq_true rfl) (by omega) (by rw [hk]; rfl) (by omega) ?_
          rw [hk]
          refine a_56_10 hI3 hch (l := []) tr0 (by decide) (by omega) (fun I13 as13 => ?_)
          rw [f3 (ch c) 1 (by omega), (hN.2.1.2.2.2.1 c (by omega) (by omega)).2.1, f3 (ch c) 2 (by omega), (hN.2.1.2.2.2.1 c (by omega) (by omega)).2.2.1, f3 (ch c) 3 (by omega), (hN.2.1.2.2.2.1 c (by omega) (by omega)).2.2.2.1]
          have hI13 := as13.1
          show Ev d 139 56 [some (vr 0), some (vi c), some (vi x), some (vr (ch c))] [vi (J 6 (3 + 5 * c + 3) + (J 6 (3 + 5 * c + 1) + J 6 (3 + 5 * c + 2) - 1000))] (SX I13 ch kd) Q
          refine ev_goto (t := 71) k139_56 rfl ?_
          refine ev_ireturn k139_71 ?_
          have hkk : J 6 (3 + 5 * c) = 3 := by omega
          have ev : (if x = 0 then sizV (J 6 (3 + 5 * c)) (J 6 (3 + 5 * c + 1)) (J 6 (3 + 5 * c + 2)) (J 6 (3 + 5 * c + 3)) else marV (J 6 (3 + 5 * c)) (J 6 (3 + 5 * c + 1)) (J 6 (3 + 5 * c + 2)) (J 6 (3 + 5 * c + 3))) = J 6 (3 + 5 * c + 3) + (J 6 (3 + 5 * c + 1) + J 6 (3 + 5 * c + 2) - 1000) := by rw [if_pos (by omega), hkk]; rfl
          have el : (if x = 0 then sizL (J 6 (3 + 5 * c)) else marL (J 6 (3 + 5 * c))) = [11, 10, 22, 21, 20] := by rw [if_pos (by omega), hkk]; rfl
          refine hQ _ _ _ _ ?_
          exact m_ask hJ hw (by omega) (by omega) (by omega) (by omega) (by omega) (fun h => by exfalso; omega) (fun h J' fm => ⟨J', by rw [ev], rfl, hX.ask (l := [11, 10, 22, 21, 20]) (by decide) hI13 (by have tt := as13.2.1; simpa only [List.nil_append] using tt) (fun a b q => (as13.2.2 a b q).trans (f3 a b (by omega))) (by rw [el] at fm; exact fm)⟩)
        · refine ev_virt (k := kd (ch c)) (a := [vr (ch c), vr 3]) (S' := []) k139_53_9 rfl (Nat.le_of_ble_eq_true rfl) (by omega) (by rw [hk]; rfl) (by omega) ?_
          rw [hk]
          refine a_107_11 hI3 hch (l := []) tr0 (by decide) (by omega) (fun I14 as14 => ?_)
          rw [f3 (ch c) 3 (by omega), (hN.2.1.2.2.2.1 c (by omega) (by omega)).2.2.2.1]
          have hI14 := as14.1
          show Ev d 139 56 [some (vr 0), some (vi c), some (vi x), some (vr (ch c))] [vi (J 6 (3 + 5 * c + 3) - 100)] (SX I14 ch kd) Q
          refine ev_goto (t := 71) k139_56 rfl ?_
          refine ev_ireturn k139_71 ?_
          have hkk : J 6 (3 + 5 * c) = 4 := by omega
          have ev : (if x = 0 then sizV (J 6 (3 + 5 * c)) (J 6 (3 + 5 * c + 1)) (J 6 (3 + 5 * c + 2)) (J 6 (3 + 5 * c + 3)) else marV (J 6 (3 + 5 * c)) (J 6 (3 + 5 * c + 1)) (J 6 (3 + 5 * c + 2)) (J 6 (3 + 5 * c + 3))) = J 6 (3 + 5 * c + 3) - 100 := by rw [if_pos (by omega), hkk]; rfl
          have el : (if x = 0 then sizL (J 6 (3 + 5 * c)) else marL (J 6 (3 + 5 * c))) = [13, 10] := by rw [if_pos (by omega), hkk]; rfl
          refine hQ _ _ _ _ ?_
          exact m_ask hJ hw (by omega) (by omega) (by omega) (by omega) (by omega) (fun h => by exfalso; omega) (fun h J' fm => ⟨J', by rw [ev], rfl, hX.ask (l := [13, 10]) (by decide) hI14 (by have tt := as14.2.1; simpa only [List.nil_append] using tt) (fun a b q => (as14.2.2 a b q).trans (f3 a b (by omega))) (by rw [el] at fm; exact fm)⟩)
        · refine ev_virt (k := kd (ch c)) (a := [vr (ch c), vr 3]) (S' := []) k139_53_2 rfl (Nat.le_of_ble_eq_true rfl) (by omega) (by rw [hk]; rfl) (by omega) ?_
          rw [hk]
          refine a_16_12 hI3 hch (l := []) tr0 (by decide) (by omega) (fun I15 as15 => ?_)
          rw [f3 (ch c) 3 (by omega), (hN.2.1.2.2.2.1 c (by omega) (by omega)).2.2.2.1]
          have hI15 := as15.1
          show Ev d 139 56 [some (vr 0), some (vi c), some (vi x), some (vr (ch c))] [vi (2 * (J 6 (3 + 5 * c + 3) - 100))] (SX I15 ch kd) Q
          refine ev_goto (t := 71) k139_56 rfl ?_
          refine ev_ireturn k139_71 ?_
          have hkk : J 6 (3 + 5 * c) = 5 := by omega
          have ev : (if x = 0 then sizV (J 6 (3 + 5 * c)) (J 6 (3 + 5 * c + 1)) (J 6 (3 + 5 * c + 2)) (J 6 (3 + 5 * c + 3)) else marV (J 6 (3 + 5 * c)) (J 6 (3 + 5 * c + 1)) (J 6 (3 + 5 * c + 2)) (J 6 (3 + 5 * c + 3))) = 2 * (J 6 (3 + 5 * c + 3) - 100) := by rw [if_pos (by omega), hkk]; rfl
          have el : (if x = 0 then sizL (J 6 (3 + 5 * c)) else marL (J 6 (3 + 5 * c))) = [14, 13, 10] := by rw [if_pos (by omega), hkk]; rfl
          refine hQ _ _ _ _ ?_
          exact m_ask hJ hw (by omega) (by omega) (by omega) (by omega) (by omega) (fun h => by exfalso; omega) (fun h J' fm => ⟨J', by rw [ev], rfl, hX.ask (l := [14, 13, 10]) (by decide) hI15 (by have tt := as15.2.1; simpa only [List.nil_append] using tt) (fun a b q => (as15.2.2 a b q).trans (f3 a b (by omega))) (by rw [el] at fm; exact fm)⟩)
        
    · show Ev d 139 17 [some (vr 0), some (vi c), some (vi x), none] [vi 0] (SX I ch kd) Q
      refine ev_z_ne (t := 23) k139_17 rfl (by omega) (by omega) (fun h => absurd h (by decide)) (fun _ => ?_)
      refine ev_ldc k139_20 ?_
      refine ev_ireturn k139_22 ?_
      refine hQ _ _ _ _ ?_
      exact m_ask hJ hw (by omega) (by omega) (by omega) (by omega) (by omega) (fun h => ⟨J, rfl, rfl, hX⟩) (fun h J' fm => by exfalso; omega)
  · show Ev d 139 8 [some (vr 0), some (vi c), some (vi x), none] [vi 0] (SX I ch kd) Q
    refine ev_z_eq (t := 20) k139_8 rfl (by omega) (by omega) (fun _ => ?_) (fun h => absurd h (by decide))
    refine ev_ldc k139_20 ?_
    refine ev_ireturn k139_22 ?_
    refine hQ _ _ _ _ ?_
    exact m_ask hJ hw (by omega) (by omega) (by omega) (by omega) (by omega) (fun h => ⟨J, rfl, rfl, hX⟩) (fun h J' fm => by exfalso; omega)
