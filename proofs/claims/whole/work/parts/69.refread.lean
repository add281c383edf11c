theorem PST.w0 {J : Nat → Int → Int} {T : Int → Int} {z p k0 : Int} (h : PST J T z p 0 k0) : J 0 8 = -1 ∧ J 0 10 = p ∧ J 0 11 = tokK T p ∧ J 0 12 = tokV T p ∧ J 0 9 = tokE T p ∧ J 0 7 = k0 := by
  rcases h.2.2 with q | q
  · exact q.2
  · exact absurd rfl q.1
theorem PST.wN {J : Nat → Int → Int} {T : Int → Int} {z p μ k0 : Int} (h : PST J T z p μ k0) (hm : μ ≠ 0) : J 0 8 = p ∧ J 0 7 = μ := by
  rcases h.2.2 with q | q
  · exact absurd q.1 hm
  · exact q.2
theorem PST.well {J : Nat → Int → Int} {T : Int → Int} {z p μ k0 : Int} (h : PST J T z p μ k0) : J 0 8 < 0 ↔ μ = 0 := by
  have hp := h.2.1
  constructor
  · intro q
    by_cases hm : μ = 0
    · exact hm
    · have := (h.wN hm).1
      omega
  · intro q
    subst q
    have := h.w0.1
    omega
theorem PST.fr {J K : Nat → Int → Int} {T : Int → Int} {z p μ k0 : Int} (h : PST J T z p μ k0) (hz : K 0 = J 0) (h5 : K 5 = J 5) : PST K T z p μ k0 := by
  unfold PST at h ⊢
  rw [hz]
  exact ⟨h.1.fr (by rw [hz]) h5, h.2⟩
def FR7 (J J' : Nat → Int → Int) : Prop := (∀ b, (b < 7 ∨ 12 < b) → J' 0 b = J 0 b) ∧ ∀ a, (a ≠ 0 ∧ a ≠ 7) → J' a = J a
theorem FR7.trans {J J' K : Nat → Int → Int} (h : FR7 J J') (h2 : FR7 J' K) : FR7 J K := ⟨fun b hb => (h2.1 b hb).trans (h.1 b hb), fun a ha => (h2.2 a ha).trans (h.2 a ha)⟩
theorem FR7.refl (J : Nat → Int → Int) : FR7 J J := ⟨fun _ _ => rfl, fun _ _ => rfl⟩
theorem FRP.fr7 {J J' : Nat → Int → Int} (h : FRP J J') : FR7 J J' := ⟨h.1, fun a ha => h.2 a ha.1⟩
def FR6 (J J' : Nat → Int → Int) : Prop := (∀ b, (b ≠ 6 ∧ (b < 7 ∨ 12 < b)) → J' 0 b = J 0 b) ∧ ∀ a, (a ≠ 0 ∧ a ≠ 7) → J' a = J a
theorem nuP3 {T : Int → Int} {p lo hi : Int} : nuP T p 3 lo hi = p := by
  unfold nuP
  rw [if_neg (fun q => absurd q.1 (by decide))]
theorem nuM3 {T : Int → Int} {p lo hi : Int} : nuM T p 3 lo hi = 3 := by
  unfold nuM
  rw [if_pos (by decide)]
theorem sgP3 {T : Int → Int} {p s : Int} : sgP T p 3 s = p := by
  unfold sgP
  rw [if_neg (fun q => absurd q.1 (by decide))]
theorem sgM3 {T : Int → Int} {p s : Int} : sgM T p 3 s = 3 := by
  unfold sgM
  rw [if_pos (by decide)]
/-- a chair, a guest more -/
def addC (D : Int → Int) (n k m s t : Int) : Int → Int := fun b => if b = 1 then n + 1 else if b = 3 + 5 * n + 3 then t else if b = 3 + 5 * n + 2 then s else if b = 3 + 5 * n + 1 then m else if b = 3 + 5 * n then k else D b
def addG (D : Int → Int) (n o w : Int) : Int → Int := fun b => if b = 2 then n + 1 else if b = 28 + 4 * n + 1 then w else if b = 28 + 4 * n then o else D b
theorem add_ext {D u : Int → Int} {n k m s t : Int} (h1 : u 1 = n + 1) (h3 : u (3 + 5 * n + 3) = t) (h2 : u (3 + 5 * n + 2) = s) (hm : u (3 + 5 * n + 1) = m) (hk : u (3 + 5 * n) = k) (ho : ∀ b, b ≠ 1 → b ≠ 3 + 5 * n + 3 → b ≠ 3 + 5 * n + 2 → b ≠ 3 + 5 * n + 1 → b ≠ 3 + 5 * n → u b = D b) : u = addC D n k m s t := by
  funext b
  unfold addC
  by_cases q1 : b = 1
  · rw [if_pos q1, q1, h1]
  · rw [if_neg q1]
    by_cases q3 : b = 3 + 5 * n + 3
    · rw [if_pos q3, q3, h3]
    · rw [if_neg q3]
      by_cases q2 : b = 3 + 5 * n + 2
      · rw [if_pos q2, q2, h2]
      · rw [if_neg q2]
        by_cases qm : b = 3 + 5 * n + 1
        · rw [if_pos qm, qm, hm]
        · rw [if_neg qm]
          by_cases qk : b = 3 + 5 * n
          · rw [if_pos qk, qk, hk]
          · rw [if_neg qk, ho b q1 q3 q2 qm qk]
theorem adg_ext {D u : Int → Int} {n o w : Int} (h2 : u 2 = n + 1) (hw : u (28 + 4 * n + 1) = w) (hk : u (28 + 4 * n) = o) (ho : ∀ b, b ≠ 2 → b ≠ 28 + 4 * n + 1 → b ≠ 28 + 4 * n → u b = D b) : u = addG D n o w := by
  funext b
  unfold addG
  by_cases q2 : b = 2
  · rw [if_pos q2, q2, h2]
  · rw [if_neg q2]
    by_cases qm : b = 28 + 4 * n + 1
    · rw [if_pos qm, qm, hw]
    · rw [if_neg qm]
      by_cases qk : b = 28 + 4 * n
      · rw [if_pos qk, qk, hk]
      · rw [if_neg qk, ho b q2 qm qk]

set_option maxHeartbeats 1000000 in
theorem m_rchY {d : Nat} {J : Nat → Int → Int} {Q : Option jV → jS → Prop} (hJ : RZ J) {T : Int → Int} {z p k0 n : Int} (h : PST J T z p 0 k0) (hd : 6 ≤ d) (a12 : J 0 12 = T p) (hk : kindF (T p) ≠ 0) (hn : J 7 1 = n) (n0 : 0 ≤ n) (n5 : n < 5) (hQ : ∀ J', RZ J' → PST J' T z (cP6 T p) (cM6 T p) k0 → (cM6 T p = 0 → J' 7 = addC (J 7) n (kindF (T p)) (cV1 T p) (cV2 T p) (cV3 T p)) → FR7 J J' → Q none (SM J')) : Cl d 176 [vr 0] (SM J) Q := by
  have tl := tok_l (p := p) (kind_l hk)
  have hkl := kind_l hk
  refine ⟨by rw [l176]; exact Nat.le_of_ble_eq_true rfl, ?_⟩
  rw [l176]
  show Ev d 176 0 [some (vr 0), none, none, none, none, none] [] (SM J) Q
  refine ev_s1 (L' := [some (vr 0), none, none, none, none, none]) (S' := [vr 0]) k176_0 rfl rfl ?_
  refine ev_getI k176_1 (by decide) (rfl) ?_
  show Ev d 176 4 [some (vr 0), none, none, none, none, none] [vi (J 0 12)] (SM J) Q
  have rr1 := hJ.1 0 12
  rw [a12]
  rw [a12] at rr1
  refine ev_static (a := [vi (T p)]) (S' := []) k176_4 rfl (Nat.le_of_ble_eq_true rfl) (by omega) ?_
  refine m_kindOf (b := T p) (by omega) (by omega) (?_)
  have kk4 := kind_rg2 (T p)
  show Ev d 176 7 [some (vr 0), none, none, none, none, none] [vi (kindF (T p))] (SM J) Q
  refine ev_s1 (L' := [some (vr 0), some (vi (kindF (T p))), none, none, none, none]) (S' := []) k176_7 rfl rfl ?_
  refine ev_s1 (L' := [some (vr 0), some (vi (kindF (T p))), none, none, none, none]) (S' := [vr 0]) k176_8 rfl rfl ?_
  refine ev_s1 (L' := [some (vr 0), some (vi (kindF (T p))), none, none, none, none]) (S' := [vr 0, vr 0]) k176_9 rfl rfl ?_
  refine ev_getR k176_10 (by decide) (rfl) (y_0_14) ?_
  refine ev_s1 (L' := [some (vr 0), some (vi (kindF (T p))), none, none, none, none]) (S' := [vi 1, vr 7, vr 0]) k176_13 rfl rfl ?_
  refine ev_iald k176_14 (by decide) (rfl) (by omega) (by omega) ?_
  have rr2 := hJ.1 7 1
  rw [hn]
  rw [hn] at rr2
  refine ev_s1 (L' := [some (vr 0), some (vi (kindF (T p))), none, none, none, none]) (S' := [vi 5, vi n, vr 0]) k176_15 rfl rfl ?_
  refine ev_c_ge (t := 23) k176_16 rfl (by omega) (by omega) (by omega) (by omega) (fun h3 => ?_) (fun h3 => ?_)
  · exfalso; omega
  · refine ev_s1 (L' := [some (vr 0), some (vi (kindF (T p))), none, none, none, none]) (S' := [vi 1, vr 0]) k176_19 rfl rfl ?_
    refine ev_goto (t := 24) k176_20 rfl ?_
    refine ev_s1 (L' := [some (vr 0), some (vi (kindF (T p))), none, none, none, none]) (S' := [vi 3, vi 1, vr 0]) k176_24 rfl rfl ?_
    refine ev_virt (a := [vi 1, vi 3]) (S' := []) k176_25 rfl (Nat.le_of_ble_eq_true rfl) (by decide) (rfl) (by omega) ?_
    refine m_takes hJ h (i := 1) (k := 3) (by decide) (by decide) (by decide) (by omega) (fun u => absurd rfl u) (fun _ u => absurd u (by decide)) (fun _ _ J4 hJ4 ps4 fr4 => ?_)
    show Ev d 176 28 [some (vr 0), some (vi (kindF (T p))), none, none, none, none] [vi (tokV T p)] (SM J4) Q
    rw [tl.2.2] at ps4
    refine ev_s1 (L' := [some (vr 0), some (vi (kindF (T p))), none, none, none, none]) (S' := []) k176_28 rfl rfl ?_
    refine ev_s1 (L' := [some (vr 0), some (vi (kindF (T p))), none, none, none, none]) (S' := [vi 3]) k176_29 rfl rfl ?_
    refine ev_s1 (L' := [some (vr 0), some (vi (kindF (T p))), none, none, none, none]) (S' := [vi 5, vi 3]) k176_30 rfl rfl ?_
    refine ev_s1 (L' := [some (vr 0), some (vi (kindF (T p))), none, none, none, none]) (S' := [vr 0, vi 5, vi 3]) k176_31 rfl rfl ?_
    refine ev_getR k176_32 (by decide) (rfl) (y_0_14) ?_
    refine ev_s1 (L' := [some (vr 0), some (vi (kindF (T p))), none, none, none, none]) (S' := [vi 1, vr 7, vi 5, vi 3]) k176_35 rfl rfl ?_
    refine ev_iald k176_36 (by decide) (rfl) (by omega) (by omega) ?_
    have rr5 := hJ4.1 7 1
    rw [fr4.2 7 (by decide), hn]
    rw [fr4.2 7 (by decide), hn] at rr5
    refine ev_s1 (L' := [some (vr 0), some (vi (kindF (T p))), none, none, none, none]) (S' := [vi 5, vi n, vi 5, vi 3]) k176_37 rfl rfl ?_
    refine ev_c_ge (t := 50) k176_38 rfl (by omega) (by omega) (by omega) (by omega) (fun h6 => ?_) (fun h6 => ?_)
    · exfalso; omega
    · refine ev_s1 (L' := [some (vr 0), some (vi (kindF (T p))), none, none, none, none]) (S' := [vr 0, vi 5, vi 3]) k176_41 rfl rfl ?_
      refine ev_getR k176_42 (by decide) (rfl) (y_0_14) ?_
      refine ev_s1 (L' := [some (vr 0), some (vi (kindF (T p))), none, none, none, none]) (S' := [vi 1, vr 7, vi 5, vi 3]) k176_45 rfl rfl ?_
      refine ev_iald k176_46 (by decide) (rfl) (by omega) (by omega) ?_
      have rr7 := hJ4.1 7 1
      rw [fr4.2 7 (by decide), hn]
      rw [fr4.2 7 (by decide), hn] at rr7
      refine ev_goto (t := 51) k176_47 rfl ?_
      refine ev_s1 (L' := [some (vr 0), some (vi (kindF (T p))), none, none, none, none]) (S' := [vi (5 * n), vi 3]) k176_51 rfl rfl ?_
      refine ev_s1 (L' := [some (vr 0), some (vi (kindF (T p))), none, none, none, none]) (S' := [vi (3 + (5 * n))]) k176_52 rfl rfl ?_
      refine ev_s1 (L' := [some (vr 0), some (vi (kindF (T p))), some (vi (3 + (5 * n))), none, none, none]) (S' := []) k176_53 rfl rfl ?_
      refine ev_s1 (L' := [some (vr 0), some (vi (kindF (T p))), some (vi (3 + (5 * n))), none, none, none]) (S' := [vr 0]) k176_54 rfl rfl ?_
      refine ev_s1 (L' := [some (vr 0), some (vi (kindF (T p))), some (vi (3 + (5 * n))), none, none, none]) (S' := [vi 0, vr 0]) k176_55 rfl rfl ?_
      refine ev_s1 (L' := [some (vr 0), some (vi (kindF (T p))), some (vi (3 + (5 * n))), none, none, none]) (S' := [vi 9, vi 0, vr 0]) k176_56 rfl rfl ?_
      refine ev_virt (a := [vi 0, vi 9]) (S' := []) k176_58 rfl (Nat.le_of_ble_eq_true rfl) (by decide) (rfl) (by omega) ?_
      refine m_figure hJ4 ps4 (by omega) (by omega) (by omega) (by omega) (by omega) (fun J8 v8 hJ8 ps8 vn8 fr8 vl8 vu8 => ?_)
      show Ev d 176 61 [some (vr 0), some (vi (kindF (T p))), some (vi (3 + (5 * n))), none, none, none] [vi v8] (SM J8) Q
      refine ev_s1 (L' := [some (vr 0), some (vi (kindF (T p))), some (vi (3 + (5 * n))), some (vi v8), none, none]) (S' := []) k176_61 rfl rfl ?_
      refine ev_s1 (L' := [some (vr 0), some (vi (kindF (T p))), some (vi (3 + (5 * n))), some (vi v8), none, none]) (S' := [vr 0]) k176_62 rfl rfl ?_
      refine ev_s1 (L' := [some (vr 0), some (vi (kindF (T p))), some (vi (3 + (5 * n))), some (vi v8), none, none]) (S' := [vi 0, vr 0]) k176_63 rfl rfl ?_
      refine ev_s1 (L' := [some (vr 0), some (vi (kindF (T p))), some (vi (3 + (5 * n))), some (vi v8), none, none]) (S' := [vi 16, vi 0, vr 0]) k176_64 rfl rfl ?_
      refine ev_virt (a := [vi 0, vi 16]) (S' := []) k176_66 rfl (Nat.le_of_ble_eq_true rfl) (by decide) (rfl) (by omega) ?_
      refine m_follows hJ8 ps8 (by omega) (by omega) (by omega) (by omega) (by omega) (fun J9 v9 hJ9 ps9 vn9 fr9 vl9 vu9 => ?_)
      show Ev d 176 69 [some (vr 0), some (vi (kindF (T p))), some (vi (3 + (5 * n))), some (vi v8), none, none] [vi v9] (SM J9) Q
      refine ev_s1 (L' := [some (vr 0), some (vi (kindF (T p))), some (vi (3 + (5 * n))), some (vi v8), some (vi v9), none]) (S' := []) k176_69 rfl rfl ?_
      refine ev_s1 (L' := [some (vr 0), some (vi (kindF (T p))), some (vi (3 + (5 * n))), some (vi v8), some (vi v9), none]) (S' := [vr 0]) k176_71 rfl rfl ?_
      refine ev_s1 (L' := [some (vr 0), some (vi (kindF (T p))), some (vi (3 + (5 * n))), some (vi v8), some (vi v9), none]) (S' := [vi 0, vr 0]) k176_72 rfl rfl ?_
      refine ev_s1 (L' := [some (vr 0), some (vi (kindF (T p))), some (vi (3 + (5 * n))), some (vi v8), some (vi v9), none]) (S' := [vi 3, vi 0, vr 0]) k176_73 rfl rfl ?_
      refine ev_virt (a := [vi 0, vi 3]) (S' := []) k176_74 rfl (Nat.le_of_ble_eq_true rfl) (by decide) (rfl) (by omega) ?_
      refine m_follows hJ9 ps9 (by omega) (by omega) (by omega) (by omega) (by omega) (fun J10 v10 hJ10 ps10 vn10 fr10 vl10 vu10 => ?_)
      show Ev d 176 77 [some (vr 0), some (vi (kindF (T p))), some (vi (3 + (5 * n))), some (vi v8), some (vi v9), none] [vi v10] (SM J10) Q
      refine ev_s1 (L' := [some (vr 0), some (vi (kindF (T p))), some (vi (3 + (5 * n))), some (vi v8), some (vi v9), some (vi v10)]) (S' := []) k176_77 rfl rfl ?_
      refine ev_s1 (L' := [some (vr 0), some (vi (kindF (T p))), some (vi (3 + (5 * n))), some (vi v8), some (vi v9), some (vi v10)]) (S' := [vr 0]) k176_79 rfl rfl ?_
      refine ev_s1 (L' := [some (vr 0), some (vi (kindF (T p))), some (vi (3 + (5 * n))), some (vi v8), some (vi v9), some (vi v10)]) (S' := [vr 0, vr 0]) k176_80 rfl rfl ?_
      refine ev_getI k176_81 (by decide) (rfl) ?_
      show Ev d 176 84 [some (vr 0), some (vi (kindF (T p))), some (vi (3 + (5 * n))), some (vi v8), some (vi v9), some (vi v10)] [vi (J10 0 11), vr 0] (SM J10) Q
      have rr11 := hJ10.1 0 11
      refine ev_s1 (L' := [some (vr 0), some (vi (kindF (T p))), some (vi (3 + (5 * n))), some (vi v8), some (vi v9), some (vi v10)]) (S' := [vi 4, vi (J10 0 11), vr 0]) k176_84 rfl rfl ?_
      refine ev_c_ne (t := 92) k176_85 rfl (by omega) (by omega) (by omega) (by omega) (fun h12 => ?_) (fun h12 => ?_)
      · refine ev_s1 (L' := [some (vr 0), some (vi (kindF (T p))), some (vi (3 + (5 * n))), some (vi v8), some (vi v9), some (vi v10)]) (S' := [vi 0, vr 0]) k176_92 rfl rfl ?_
        refine ev_s1 (L' := [some (vr 0), some (vi (kindF (T p))), some (vi (3 + (5 * n))), some (vi v8), some (vi v9), some (vi v10)]) (S' := [vi 1, vi 0, vr 0]) k176_93 rfl rfl ?_
        refine ev_virt (a := [vi 0, vi 1]) (S' := []) k176_94 rfl (Nat.le_of_ble_eq_true rfl) (by decide) (rfl) (by omega) ?_
        refine m_takeS hJ10 ps10 (i := 0) (t := 4) (s := 59) (by decide) (by omega) (by omega) (fun J13 v13 hJ13 ps13 fr13 => ?_)
        show Ev d 176 97 [some (vr 0), some (vi (kindF (T p))), some (vi (3 + (5 * n))), some (vi v8), some (vi v9), some (vi v10)] [vi v13] (SM J13) Q
        refine ev_s1 (L' := [some (vr 0), some (vi (kindF (T p))), some (vi (3 + (5 * n))), some (vi v8), some (vi v9), some (vi v10)]) (S' := []) k176_97 rfl rfl ?_
        refine ev_s1 (L' := [some (vr 0), some (vi (kindF (T p))), some (vi (3 + (5 * n))), some (vi v8), some (vi v9), some (vi v10)]) (S' := [vr 0]) k176_98 rfl rfl ?_
        refine ev_virt (a := []) (S' := []) k176_99 rfl (Nat.le_of_ble_eq_true rfl) (by decide) (rfl) (by omega) ?_
        refine m_isWell hJ13 (fun hw14 => ?_) (fun hw14 => ?_)
        · have hm14 := ps13.well.mp hw14
          show Ev d 176 102 [some (vr 0), some (vi (kindF (T p))), some (vi (3 + (5 * n))), some (vi v8), some (vi v9), some (vi v10)] [vi 1] (SM J13) Q
          refine ev_z_eq (t := 151) k176_102 rfl (by omega) (by omega) (fun h => absurd h (by decide)) (fun _ => ?_)
          refine ev_s1 (L' := [some (vr 0), some (vi (kindF (T p))), some (vi (3 + (5 * n))), some (vi v8), some (vi v9), some (vi v10)]) (S' := [vr 0]) k176_105 rfl rfl ?_
          refine ev_getR k176_106 (by decide) (rfl) (y_0_14) ?_
          refine ev_s1 (L' := [some (vr 0), some (vi (kindF (T p))), some (vi (3 + (5 * n))), some (vi v8), some (vi v9), some (vi v10)]) (S' := [vi (3 + (5 * n)), vr 7]) k176_109 rfl rfl ?_
          refine ev_s1 (L' := [some (vr 0), some (vi (kindF (T p))), some (vi (3 + (5 * n))), some (vi v8), some (vi v9), some (vi v10)]) (S' := [vi (kindF (T p)), vi (3 + (5 * n)), vr 7]) k176_110 rfl rfl ?_
          refine ev_iast k176_111 (by decide) (rfl) (by omega) (by omega) ?_
          show Ev d 176 112 [some (vr 0), some (vi (kindF (T p))), some (vi (3 + (5 * n))), some (vi v8), some (vi v9), some (vi v10)] [] (SM (up J13 7 (3 + (5 * n)) (kindF (T p)))) Q
          have hJ15 := rz_up hJ13 (k := 7) (j := 3 + (5 * n)) (z := kindF (T p)) (by omega) (by omega) (by omega)
          have g15 : ∀ aa, aa ≠ 7 → up J13 7 (3 + (5 * n)) (kindF (T p)) aa = J13 aa := fun aa h => upf h
          have q15 : ∀ bb, bb ≠ 3 + (5 * n) → up J13 7 (3 + (5 * n)) (kindF (T p)) 7 bb = J13 7 bb := fun bb h => upN (Or.inr h)
          have e15 : up J13 7 (3 + (5 * n)) (kindF (T p)) 7 (3 + (5 * n)) = kindF (T p) := upE rfl rfl
          generalize up J13 7 (3 + (5 * n)) (kindF (T p)) = J15 at hJ15 g15 q15 e15 ⊢
          refine ev_s1 (L' := [some (vr 0), some (vi (kindF (T p))), some (vi (3 + (5 * n))), some (vi v8), some (vi v9), some (vi v10)]) (S' := [vr 0]) k176_112 rfl rfl ?_
          refine ev_getR k176_113 (by decide) (rfl) (y_0_14) ?_
          refine ev_s1 (L' := [some (vr 0), some (vi (kindF (T p))), some (vi (3 + (5 * n))), some (vi v8), some (vi v9), some (vi v10)]) (S' := [vi (3 + (5 * n)), vr 7]) k176_116 rfl rfl ?_
          refine ev_s1 (L' := [some (vr 0), some (vi (kindF (T p))), some (vi (3 + (5 * n))), some (vi v8), some (vi v9), some (vi v10)]) (S' := [vi 1, vi (3 + (5 * n)), vr 7]) k176_117 rfl rfl ?_
          refine ev_s1 (L' := [some (vr 0), some (vi (kindF (T p))), some (vi (3 + (5 * n))), some (vi v8), some (vi v9), some (vi v10)]) (S' := [vi ((3 + (5 * n)) + 1), vr 7]) k176_118 rfl rfl ?_
          refine ev_s1 (L' := [some (vr 0), some (vi (kindF (T p))), some (vi (3 + (5 * n))), some (vi v8), some (vi v9), some (vi v10)]) (S' := [vi v8, vi ((3 + (5 * n)) + 1), vr 7]) k176_119 rfl rfl ?_
          refine ev_iast k176_120 (by decide) (rfl) (by omega) (by omega) ?_
          show Ev d 176 121 [some (vr 0), some (vi (kindF (T p))), some (vi (3 + (5 * n))), some (vi v8), some (vi v9), some (vi v10)] [] (SM (up J15 7 ((3 + (5 * n)) + 1) v8)) Q
          have hJ16 := rz_up hJ15 (k := 7) (j := (3 + (5 * n)) + 1) (z := v8) (by omega) (by omega) (by omega)
          have g16 : ∀ aa, aa ≠ 7 → up J15 7 ((3 + (5 * n)) + 1) v8 aa = J15 aa := fun aa h => upf h
          have q16 : ∀ bb, bb ≠ (3 + (5 * n)) + 1 → up J15 7 ((3 + (5 * n)) + 1) v8 7 bb = J15 7 bb := fun bb h => upN (Or.inr h)
          have e16 : up J15 7 ((3 + (5 * n)) + 1) v8 7 ((3 + (5 * n)) + 1) = v8 := upE rfl rfl
          generalize up J15 7 ((3 + (5 * n)) + 1) v8 = J16 at hJ16 g16 q16 e16 ⊢
          refine ev_s1 (L' := [some (vr 0), some (vi (kindF (T p))), some (vi (3 + (5 * n))), some (vi v8), some (vi v9), some (vi v10)]) (S' := [vr 0]) k176_121 rfl rfl ?_
          refine ev_getR k176_122 (by decide) (rfl) (y_0_14) ?_
          refine ev_s1 (L' := [some (vr 0), some (vi (kindF (T p))), some (vi (3 + (5 * n))), some (vi v8), some (vi v9), some (vi v10)]) (S' := [vi (3 + (5 * n)), vr 7]) k176_125 rfl rfl ?_
          refine ev_s1 (L' := [some (vr 0), some (vi (kindF (T p))), some (vi (3 + (5 * n))), some (vi v8), some (vi v9), some (vi v10)]) (S' := [vi 2, vi (3 + (5 * n)), vr 7]) k176_126 rfl rfl ?_
          refine ev_s1 (L' := [some (vr 0), some (vi (kindF (T p))), some (vi (3 + (5 * n))), some (vi v8), some (vi v9), some (vi v10)]) (S' := [vi ((3 + (5 * n)) + 2), vr 7]) k176_127 rfl rfl ?_
          refine ev_s1 (L' := [some (vr 0), some (vi (kindF (T p))), some (vi (3 + (5 * n))), some (vi v8), some (vi v9), some (vi v10)]) (S' := [vi v9, vi ((3 + (5 * n)) + 2), vr 7]) k176_128 rfl rfl ?_
          refine ev_iast k176_130 (by decide) (rfl) (by omega) (by omega) ?_
          show Ev d 176 131 [some (vr 0), some (vi (kindF (T p))), some (vi (3 + (5 * n))), some (vi v8), some (vi v9), some (vi v10)] [] (SM (up J16 7 ((3 + (5 * n)) + 2) v9)) Q
          have hJ17 := rz_up hJ16 (k := 7) (j := (3 + (5 * n)) + 2) (z := v9) (by omega) (by omega) (by omega)
          have g17 : ∀ aa, aa ≠ 7 → up J16 7 ((3 + (5 * n)) + 2) v9 aa = J16 aa := fun aa h => upf h
          have q17 : ∀ bb, bb ≠ (3 + (5 * n)) + 2 → up J16 7 ((3 + (5 * n)) + 2) v9 7 bb = J16 7 bb := fun bb h => upN (Or.inr h)
          have e17 : up J16 7 ((3 + (5 * n)) + 2) v9 7 ((3 + (5 * n)) + 2) = v9 := upE rfl rfl
          generalize up J16 7 ((3 + (5 * n)) + 2) v9 = J17 at hJ17 g17 q17 e17 ⊢
          refine ev_s1 (L' := [some (vr 0), some (vi (kindF (T p))), some (vi (3 + (5 * n))), some (vi v8), some (vi v9), some (vi v10)]) (S' := [vr 0]) k176_131 rfl rfl ?_
          refine ev_getR k176_132 (by decide) (rfl) (y_0_14) ?_
          refine ev_s1 (L' := [some (vr 0), some (vi (kindF (T p))), some (vi (3 + (5 * n))), some (vi v8), some (vi v9), some (vi v10)]) (S' := [vi (3 + (5 * n)), vr 7]) k176_135 rfl rfl ?_
          refine ev_s1 (L' := [some (vr 0), some (vi (kindF (T p))), some (vi (3 + (5 * n))), some (vi v8), some (vi v9), some (vi v10)]) (S' := [vi 3, vi (3 + (5 * n)), vr 7]) k176_136 rfl rfl ?_
          refine ev_s1 (L' := [some (vr 0), some (vi (kindF (T p))), some (vi (3 + (5 * n))), some (vi v8), some (vi v9), some (vi v10)]) (S' := [vi ((3 + (5 * n)) + 3), vr 7]) k176_137 rfl rfl ?_
          refine ev_s1 (L' := [some (vr 0), some (vi (kindF (T p))), some (vi (3 + (5 * n))), some (vi v8), some (vi v9), some (vi v10)]) (S' := [vi v10, vi ((3 + (5 * n)) + 3), vr 7]) k176_138 rfl rfl ?_
          refine ev_iast k176_140 (by decide) (rfl) (by omega) (by omega) ?_
          show Ev d 176 141 [some (vr 0), some (vi (kindF (T p))), some (vi (3 + (5 * n))), some (vi v8), some (vi v9), some (vi v10)] [] (SM (up J17 7 ((3 + (5 * n)) + 3) v10)) Q
          have hJ18 := rz_up hJ17 (k := 7) (j := (3 + (5 * n)) + 3) (z := v10) (by omega) (by omega) (by omega)
          have g18 : ∀ aa, aa ≠ 7 → up J17 7 ((3 + (5 * n)) + 3) v10 aa = J17 aa := fun aa h => upf h
          have q18 : ∀ bb, bb ≠ (3 + (5 * n)) + 3 → up J17 7 ((3 + (5 * n)) + 3) v10 7 bb = J17 7 bb := fun bb h => upN (Or.inr h)
          have e18 : up J17 7 ((3 + (5 * n)) + 3) v10 7 ((3 + (5 * n)) + 3) = v10 := upE rfl rfl
          generalize up J17 7 ((3 + (5 * n)) + 3) v10 = J18 at hJ18 g18 q18 e18 ⊢
          refine ev_s1 (L' := [some (vr 0), some (vi (kindF (T p))), some (vi (3 + (5 * n))), some (vi v8), some (vi v9), some (vi v10)]) (S' := [vr 0]) k176_141 rfl rfl ?_
          refine ev_getR k176_142 (by decide) (rfl) (y_0_14) ?_
          refine ev_s1 (L' := [some (vr 0), some (vi (kindF (T p))), some (vi (3 + (5 * n))), some (vi v8), some (vi v9), some (vi v10)]) (S' := [vi 1, vr 7]) k176_145 rfl rfl ?_
          refine ev_s1 (L' := [some (vr 0), some (vi (kindF (T p))), some (vi (3 + (5 * n))), some (vi v8), some (vi v9), some (vi v10)]) (S' := [vi 1, vr 7, vi 1, vr 7]) k176_146 rfl rfl ?_
          refine ev_iald k176_147 (by decide) (rfl) (by omega) (by omega) ?_
          have rr19 := hJ18.1 7 1
          rw [q18 1 (by omega), q17 1 (by omega), q16 1 (by omega), q15 1 (by omega), fr13.2 7 (by decide), fr10.2 7 (by decide), fr9.2 7 (by decide), fr8.2 7 (by decide), fr4.2 7 (by decide), hn]
          rw [q18 1 (by omega), q17 1 (by omega), q16 1 (by omega), q15 1 (by omega), fr13.2 7 (by decide), fr10.2 7 (by decide), fr9.2 7 (by decide), fr8.2 7 (by decide), fr4.2 7 (by decide), hn] at rr19
          refine ev_s1 (L' := [some (vr 0), some (vi (kindF (T p))), some (vi (3 + (5 * n))), some (vi v8), some (vi v9), some (vi v10)]) (S' := [vi 1, vi n, vi 1, vr 7]) k176_148 rfl rfl ?_
          refine ev_s1 (L' := [some (vr 0), some (vi (kindF (T p))), some (vi (3 + (5 * n))), some (vi v8), some (vi v9), some (vi v10)]) (S' := [vi (n + 1), vi 1, vr 7]) k176_149 rfl rfl ?_
          refine ev_iast k176_150 (by decide) (rfl) (by omega) (by omega) ?_
          show Ev d 176 151 [some (vr 0), some (vi (kindF (T p))), some (vi (3 + (5 * n))), some (vi v8), some (vi v9), some (vi v10)] [] (SM (up J18 7 1 (n + 1))) Q
          have hJ20 := rz_up hJ18 (k := 7) (j := 1) (z := n + 1) (by omega) (by omega) (by omega)
          have g20 : ∀ aa, aa ≠ 7 → up J18 7 1 (n + 1) aa = J18 aa := fun aa h => upf h
          have q20 : ∀ bb, bb ≠ 1 → up J18 7 1 (n + 1) 7 bb = J18 7 bb := fun bb h => upN (Or.inr h)
          have e20 : up J18 7 1 (n + 1) 7 1 = n + 1 := upE rfl rfl
          generalize up J18 7 1 (n + 1) = J20 at hJ20 g20 q20 e20 ⊢
          refine ev_return k176_151 ?_
          have k5 := (sg_ok hm14).1
          have g5 := nu_ok k5
          have k3 := (sg_ok g5.1).1
          have g3 := nu_ok k3
          have k1 := (sg_ok g3.1).1
          exact hQ _ hJ20 (ps13.fr (by rw [g20 0 (by decide), g18 0 (by decide), g17 0 (by decide), g16 0 (by decide), g15 0 (by decide)]) (by rw [g20 5 (by decide), g18 5 (by decide), g17 5 (by decide), g16 5 (by decide), g15 5 (by decide)])) (fun _ => add_ext (by rw [e20]) (by rw [q20 ((3 + (5 * n)) + 3) (by omega), e18]; exact vn10 k5) (by rw [q20 ((3 + (5 * n)) + 2) (by omega), q18 ((3 + (5 * n)) + 2) (by omega), e17]; exact vn9 k3) (by rw [q20 ((3 + (5 * n)) + 1) (by omega), q18 ((3 + (5 * n)) + 1) (by omega), q17 ((3 + (5 * n)) + 1) (by omega), e16]; exact vn8 k1) (by rw [q20 (3 + (5 * n)) (by omega), q18 (3 + (5 * n)) (by omega), q17 (3 + (5 * n)) (by omega), q16 (3 + (5 * n)) (by omega), e15]) (fun b b1 b3 b2 bm bk => by rw [q20 b (by omega), q18 b (by omega), q17 b (by omega), q16 b (by omega), q15 b (by omega), fr13.2 7 (by decide), fr10.2 7 (by decide), fr9.2 7 (by decide), fr8.2 7 (by decide), fr4.2 7 (by decide)])) ⟨fun b hb => ((congrFun (g20 0 (by decide)) b).trans ((congrFun (g18 0 (by decide)) b).trans ((congrFun (g17 0 (by decide)) b).trans ((congrFun (g16 0 (by decide)) b).trans ((congrFun (g15 0 (by decide)) b).trans ((fr13.1 b hb).trans ((fr10.1 b hb).trans ((fr9.1 b hb).trans ((fr8.1 b hb).trans (fr4.1 b hb)))))))))), fun a ha => ((g20 a (by omega)).trans ((g18 a (by omega)).trans ((g17 a (by omega)).trans ((g16 a (by omega)).trans ((g15 a (by omega)).trans ((fr13.2 a (by omega)).trans ((fr10.2 a (by omega)).trans ((fr9.2 a (by omega)).trans ((fr8.2 a (by omega)).trans (fr4.2 a (by omega)))))))))))⟩
        · have hm14 := fun u => hw14 (ps13.well.mpr u)
          show Ev d 176 102 [some (vr 0), some (vi (kindF (T p))), some (vi (3 + (5 * n))), some (vi v8), some (vi v9), some (vi v10)] [vi 0] (SM J13) Q
          refine ev_z_eq (t := 151) k176_102 rfl (by omega) (by omega) (fun _ => ?_) (fun h => absurd h (by decide))
          refine ev_return k176_151 ?_
          exact hQ _ hJ13 ps13 (fun u => absurd u hm14) ⟨fun b hb => ((fr13.1 b hb).trans ((fr10.1 b hb).trans ((fr9.1 b hb).trans ((fr8.1 b hb).trans (fr4.1 b hb))))), fun a ha => ((fr13.2 a (by omega)).trans ((fr10.2 a (by omega)).trans ((fr9.2 a (by omega)).trans ((fr8.2 a (by omega)).trans (fr4.2 a (by omega))))))⟩
      · refine ev_s1 (L' := [some (vr 0), some (vi (kindF (T p))), some (vi (3 + (5 * n))), some (vi v8), some (vi v9), some (vi v10)]) (S' := [vi 1, vr 0]) k176_88 rfl rfl ?_
        refine ev_goto (t := 93) k176_89 rfl ?_
        refine ev_s1 (L' := [some (vr 0), some (vi (kindF (T p))), some (vi (3 + (5 * n))), some (vi v8), some (vi v9), some (vi v10)]) (S' := [vi 1, vi 1, vr 0]) k176_93 rfl rfl ?_
        refine ev_virt (a := [vi 1, vi 1]) (S' := []) k176_94 rfl (Nat.le_of_ble_eq_true rfl) (by decide) (rfl) (by omega) ?_
        refine m_takeS hJ10 ps10 (i := 1) (t := 4) (s := 59) (by decide) (by omega) (by omega) (fun J21 v21 hJ21 ps21 fr21 => ?_)
        show Ev d 176 97 [some (vr 0), some (vi (kindF (T p))), some (vi (3 + (5 * n))), some (vi v8), some (vi v9), some (vi v10)] [vi v21] (SM J21) Q
        refine ev_s1 (L' := [some (vr 0), some (vi (kindF (T p))), some (vi (3 + (5 * n))), some (vi v8), some (vi v9), some (vi v10)]) (S' := []) k176_97 rfl rfl ?_
        refine ev_s1 (L' := [some (vr 0), some (vi (kindF (T p))), some (vi (3 + (5 * n))), some (vi v8), some (vi v9), some (vi v10)]) (S' := [vr 0]) k176_98 rfl rfl ?_
        refine ev_virt (a := []) (S' := []) k176_99 rfl (Nat.le_of_ble_eq_true rfl) (by decide) (rfl) (by omega) ?_
        refine m_isWell hJ21 (fun hw22 => ?_) (fun hw22 => ?_)
        · have hm22 := ps21.well.mp hw22
          show Ev d 176 102 [some (vr 0), some (vi (kindF (T p))), some (vi (3 + (5 * n))), some (vi v8), some (vi v9), some (vi v10)] [vi 1] (SM J21) Q
          refine ev_z_eq (t := 151) k176_102 rfl (by omega) (by omega) (fun h => absurd h (by decide)) (fun _ => ?_)
          refine ev_s1 (L' := [some (vr 0), some (vi (kindF (T p))), some (vi (3 + (5 * n))), some (vi v8), some (vi v9), some (vi v10)]) (S' := [vr 0]) k176_105 rfl rfl ?_
          refine ev_getR k176_106 (by decide) (rfl) (y_0_14) ?_
          refine ev_s1 (L' := [some (vr 0), some (vi (kindF (T p))), some (vi (3 + (5 * n))), some (vi v8), some (vi v9), some (vi v10)]) (S' := [vi (3 + (5 * n)), vr 7]) k176_109 rfl rfl ?_
          refine ev_s1 (L' := [some (vr 0), some (vi (kindF (T p))), some (vi (3 + (5 * n))), some (vi v8), some (vi v9), some (vi v10)]) (S' := [vi (kindF (T p)), vi (3 + (5 * n)), vr 7]) k176_110 rfl rfl ?_
          refine ev_iast k176_111 (by decide) (rfl) (by omega) (by omega) ?_
          show Ev d 176 112 [some (vr 0), some (vi (kindF (T p))), some (vi (3 + (5 * n))), some (vi v8), some (vi v9), some (vi v10)] [] (SM (up J21 7 (3 + (5 * n)) (kindF (T p)))) Q
          have hJ23 := rz_up hJ21 (k := 7) (j := 3 + (5 * n)) (z := kindF (T p)) (by omega) (by omega) (by omega)
          have g23 : ∀ aa, aa ≠ 7 → up J21 7 (3 + (5 * n)) (kindF (T p)) aa = J21 aa := fun aa h => upf h
          have q23 : ∀ bb, bb ≠ 3 + (5 * n) → up J21 7 (3 + (5 * n)) (kindF (T p)) 7 bb = J21 7 bb := fun bb h => upN (Or.inr h)
          have e23 : up J21 7 (3 + (5 * n)) (kindF (T p)) 7 (3 + (5 * n)) = kindF (T p) := upE rfl rfl
          generalize up J21 7 (3 + (5 * n)) (kindF (T p)) = J23 at hJ23 g23 q23 e23 ⊢
          refine ev_s1 (L' := [some (vr 0), some (vi (kindF (T p))), some (vi (3 + (5 * n))), some (vi v8), some (vi v9), some (vi v10)]) (S' := [vr 0]) k176_112 rfl rfl ?_
          refine ev_getR k176_113 (by decide) (rfl) (y_0_14) ?_
          refine ev_s1 (L' := [some (vr 0), some (vi (kindF (T p))), some (vi (3 + (5 * n))), some (vi v8), some (vi v9), some (vi v10)]) (S' := [vi (3 + (5 * n)), vr 7]) k176_116 rfl rfl ?_
          refine ev_s1 (L' := [some (vr 0), some (vi (kindF (T p))), some (vi (3 + (5 * n))), some (vi v8), some (vi v9), some (vi v10)]) (S' := [vi 1, vi (3 + (5 * n)), vr 7]) k176_117 rfl rfl ?_
          refine ev_s1 (L' := [some (vr 0), some (vi (kindF (T p))), some (vi (3 + (5 * n))), some (vi v8), some (vi v9), some (vi v10)]) (S' := [vi ((3 + (5 * n)) + 1), vr 7]) k176_118 rfl rfl ?_
          refine ev_s1 (L' := [some (vr 0), some (vi (kindF (T p))), some (vi (3 + (5 * n))), some (vi v8), some (vi v9), some (vi v10)]) (S' := [vi v8, vi ((3 + (5 * n)) + 1), vr 7]) k176_119 rfl rfl ?_
          refine ev_iast k176_120 (by decide) (rfl) (by omega) (by omega) ?_
          show Ev d 176 121 [some (vr 0), some (vi (kindF (T p))), some (vi (3 + (5 * n))), some (vi v8), some (vi v9), some (vi v10)] [] (SM (up J23 7 ((3 + (5 * n)) + 1) v8)) Q
          have hJ24 := rz_up hJ23 (k := 7) (j := (3 + (5 * n)) + 1) (z := v8) (by omega) (by omega) (by omega)
          have g24 : ∀ aa, aa ≠ 7 → up J23 7 ((3 + (5 * n)) + 1) v8 aa = J23 aa := fun aa h => upf h
          have q24 : ∀ bb, bb ≠ (3 + (5 * n)) + 1 → up J23 7 ((3 + (5 * n)) + 1) v8 7 bb = J23 7 bb := fun bb h => upN (Or.inr h)
          have e24 : up J23 7 ((3 + (5 * n)) + 1) v8 7 ((3 + (5 * n)) + 1) = v8 := upE rfl rfl
          generalize up J23 7 ((3 + (5 * n)) + 1) v8 = J24 at hJ24 g24 q24 e24 ⊢
          refine ev_s1 (L' := [some (vr 0), some (vi (kindF (T p))), some (vi (3 + (5 * n))), some (vi v8), some (vi v9), some (vi v10)]) (S' := [vr 0]) k176_121 rfl rfl ?_
          refine ev_getR k176_122 (by decide) (rfl) (y_0_14) ?_
          refine ev_s1 (L' := [some (vr 0), some (vi (kindF (T p))), some (vi (3 + (5 * n))), some (vi v8), some (vi v9), some (vi v10)]) (S' := [vi (3 + (5 * n)), vr 7]) k176_125 rfl rfl ?_
          refine ev_s1 (L' := [some (vr 0), some (vi (kindF (T p))), some (vi (3 + (5 * n))), some (vi v8), some (vi v9), some (vi v10)]) (S' := [vi 2, vi (3 + (5 * n)), vr 7]) k176_126 rfl rfl ?_
          refine ev_s1 (L' := [some (vr 0), some (vi (kindF (T p))), some (vi (3 + (5 * n))), some (vi v8), some (vi v9), some (vi v10)]) (S' := [vi ((3 + (5 * n)) + 2), vr 7]) k176_127 rfl rfl ?_
          refine ev_s1 (L' := [some (vr 0), some (vi (kindF (T p))), some (vi (3 + (5 * n))), some (vi v8), some (vi v9), some (vi v10)]) (S' := [vi v9, vi ((3 + (5 * n)) + 2), vr 7]) k176_128 rfl rfl ?_
          refine ev_iast k176_130 (by decide) (rfl) (by omega) (by omega) ?_
          show Ev d 176 131 [some (vr 0), some (vi (kindF (T p))), some (vi (3 + (5 * n))), some (vi v8), some (vi v9), some (vi v10)] [] (SM (up J24 7 ((3 + (5 * n)) + 2) v9)) Q
          have hJ25 := rz_up hJ24 (k := 7) (j := (3 + (5 * n)) + 2) (z := v9) (by omega) (by omega) (by omega)
          have g25 : ∀ aa, aa ≠ 7 → up J24 7 ((3 + (5 * n)) + 2) v9 aa = J24 aa := fun aa h => upf h
          have q25 : ∀ bb, bb ≠ (3 + (5 * n)) + 2 → up J24 7 ((3 + (5 * n)) + 2) v9 7 bb = J24 7 bb := fun bb h => upN (Or.inr h)
          have e25 : up J24 7 ((3 + (5 * n)) + 2) v9 7 ((3 + (5 * n)) + 2) = v9 := upE rfl rfl
          generalize up J24 7 ((3 + (5 * n)) + 2) v9 = J25 at hJ25 g25 q25 e25 ⊢
          refine ev_s1 (L' := [some (vr 0), some (vi (kindF (T p))), some (vi (3 + (5 * n))), some (vi v8), some (vi v9), some (vi v10)]) (S' := [vr 0]) k176_131 rfl rfl ?_
          refine ev_getR k176_132 (by decide) (rfl) (y_0_14) ?_
          refine ev_s1 (L' := [some (vr 0), some (vi (kindF (T p))), some (vi (3 + (5 * n))), some (vi v8), some (vi v9), some (vi v10)]) (S' := [vi (3 + (5 * n)), vr 7]) k176_135 rfl rfl ?_
          refine ev_s1 (L' := [some (vr 0), some (vi (kindF (T p))), some (vi (3 + (5 * n))), some (vi v8), some (vi v9), some (vi v10)]) (S' := [vi 3, vi (3 + (5 * n)), vr 7]) k176_136 rfl rfl ?_
          refine ev_s1 (L' := [some (vr 0), some (vi (kindF (T p))), some (vi (3 + (5 * n))), some (vi v8), some (vi v9), some (vi v10)]) (S' := [vi ((3 + (5 * n)) + 3), vr 7]) k176_137 rfl rfl ?_
          refine ev_s1 (L' := [some (vr 0), some (vi (kindF (T p))), some (vi (3 + (5 * n))), some (vi v8), some (vi v9), some (vi v10)]) (S' := [vi v10, vi ((3 + (5 * n)) + 3), vr 7]) k176_138 rfl rfl ?_
          refine ev_iast k176_140 (by decide) (rfl) (by omega) (by omega) ?_
          show Ev d 176 141 [some (vr 0), some (vi (kindF (T p))), some (vi (3 + (5 * n))), some (vi v8), some (vi v9), some (vi v10)] [] (SM (up J25 7 ((3 + (5 * n)) + 3) v10)) Q
          have hJ26 := rz_up hJ25 (k := 7) (j := (3 + (5 * n)) + 3) (z := v10) (by omega) (by omega) (by omega)
          have g26 : ∀ aa, aa ≠ 7 → up J25 7 ((3 + (5 * n)) + 3) v10 aa = J25 aa := fun aa h => upf h
          have q26 : ∀ bb, bb ≠ (3 + (5 * n)) + 3 → up J25 7 ((3 + (5 * n)) + 3) v10 7 bb = J25 7 bb := fun bb h => upN (Or.inr h)
          have e26 : up J25 7 ((3 + (5 * n)) + 3) v10 7 ((3 + (5 * n)) + 3) = v10 := upE rfl rfl
          generalize up J25 7 ((3 + (5 * n)) + 3) v10 = J26 at hJ26 g26 q26 e26 ⊢
          refine ev_s1 (L' := [some (vr 0), some (vi (kindF (T p))), some (vi (3 + (5 * n))), some (vi v8), some (vi v9), some (vi v10)]) (S' := [vr 0]) k176_141 rfl rfl ?_
          refine ev_getR k176_142 (by decide) (rfl) (y_0_14) ?_
          refine ev_s1 (L' := [some (vr 0), some (vi (kindF (T p))), some (vi (3 + (5 * n))), some (vi v8), some (vi v9), some (vi v10)]) (S' := [vi 1, vr 7]) k176_145 rfl rfl ?_
          refine ev_s1 (L' := [some (vr 0), some (vi (kindF (T p))), some (vi (3 + (5 * n))), some (vi v8), some (vi v9), some (vi v10)]) (S' := [vi 1, vr 7, vi 1, vr 7]) k176_146 rfl rfl ?_
          refine ev_iald k176_147 (by decide) (rfl) (by omega) (by omega) ?_
          have rr27 := hJ26.1 7 1
          rw [q26 1 (by omega), q25 1 (by omega), q24 1 (by omega), q23 1 (by omega), fr21.2 7 (by decide), fr10.2 7 (by decide), fr9.2 7 (by decide), fr8.2 7 (by decide), fr4.2 7 (by decide), hn]
          rw [q26 1 (by omega), q25 1 (by omega), q24 1 (by omega), q23 1 (by omega), fr21.2 7 (by decide), fr10.2 7 (by decide), fr9.2 7 (by decide), fr8.2 7 (by decide), fr4.2 7 (by decide), hn] at rr27
          refine ev_s1 (L' := [some (vr 0), some (vi (kindF (T p))), some (vi (3 + (5 * n))), some (vi v8), some (vi v9), some (vi v10)]) (S' := [vi 1, vi n, vi 1, vr 7]) k176_148 rfl rfl ?_
          refine ev_s1 (L' := [some (vr 0), some (vi (kindF (T p))), some (vi (3 + (5 * n))), some (vi v8), some (vi v9), some (vi v10)]) (S' := [vi (n + 1), vi 1, vr 7]) k176_149 rfl rfl ?_
          refine ev_iast k176_150 (by decide) (rfl) (by omega) (by omega) ?_
          show Ev d 176 151 [some (vr 0), some (vi (kindF (T p))), some (vi (3 + (5 * n))), some (vi v8), some (vi v9), some (vi v10)] [] (SM (up J26 7 1 (n + 1))) Q
          have hJ28 := rz_up hJ26 (k := 7) (j := 1) (z := n + 1) (by omega) (by omega) (by omega)
          have g28 : ∀ aa, aa ≠ 7 → up J26 7 1 (n + 1) aa = J26 aa := fun aa h => upf h
          have q28 : ∀ bb, bb ≠ 1 → up J26 7 1 (n + 1) 7 bb = J26 7 bb := fun bb h => upN (Or.inr h)
          have e28 : up J26 7 1 (n + 1) 7 1 = n + 1 := upE rfl rfl
          generalize up J26 7 1 (n + 1) = J28 at hJ28 g28 q28 e28 ⊢
          refine ev_return k176_151 ?_
          have k5 := (sg_ok hm22).1
          have g5 := nu_ok k5
          have k3 := (sg_ok g5.1).1
          have g3 := nu_ok k3
          have k1 := (sg_ok g3.1).1
          exact hQ _ hJ28 (ps21.fr (by rw [g28 0 (by decide), g26 0 (by decide), g25 0 (by decide), g24 0 (by decide), g23 0 (by decide)]) (by rw [g28 5 (by decide), g26 5 (by decide), g25 5 (by decide), g24 5 (by decide), g23 5 (by decide)])) (fun _ => add_ext (by rw [e28]) (by rw [q28 ((3 + (5 * n)) + 3) (by omega), e26]; exact vn10 k5) (by rw [q28 ((3 + (5 * n)) + 2) (by omega), q26 ((3 + (5 * n)) + 2) (by omega), e25]; exact vn9 k3) (by rw [q28 ((3 + (5 * n)) + 1) (by omega), q26 ((3 + (5 * n)) + 1) (by omega), q25 ((3 + (5 * n)) + 1) (by omega), e24]; exact vn8 k1) (by rw [q28 (3 + (5 * n)) (by omega), q26 (3 + (5 * n)) (by omega), q25 (3 + (5 * n)) (by omega), q24 (3 + (5 * n)) (by omega), e23]) (fun b b1 b3 b2 bm bk => by rw [q28 b (by omega), q26 b (by omega), q25 b (by omega), q24 b (by omega), q23 b (by omega), fr21.2 7 (by decide), fr10.2 7 (by decide), fr9.2 7 (by decide), fr8.2 7 (by decide), fr4.2 7 (by decide)])) ⟨fun b hb => ((congrFun (g28 0 (by decide)) b).trans ((congrFun (g26 0 (by decide)) b).trans ((congrFun (g25 0 (by decide)) b).trans ((congrFun (g24 0 (by decide)) b).trans ((congrFun (g23 0 (by decide)) b).trans ((fr21.1 b hb).trans ((fr10.1 b hb).trans ((fr9.1 b hb).trans ((fr8.1 b hb).trans (fr4.1 b hb)))))))))), fun a ha => ((g28 a (by omega)).trans ((g26 a (by omega)).trans ((g25 a (by omega)).trans ((g24 a (by omega)).trans ((g23 a (by omega)).trans ((fr21.2 a (by omega)).trans ((fr10.2 a (by omega)).trans ((fr9.2 a (by omega)).trans ((fr8.2 a (by omega)).trans (fr4.2 a (by omega)))))))))))⟩
        · have hm22 := fun u => hw22 (ps21.well.mpr u)
          show Ev d 176 102 [some (vr 0), some (vi (kindF (T p))), some (vi (3 + (5 * n))), some (vi v8), some (vi v9), some (vi v10)] [vi 0] (SM J21) Q
          refine ev_z_eq (t := 151) k176_102 rfl (by omega) (by omega) (fun _ => ?_) (fun h => absurd h (by decide))
          refine ev_return k176_151 ?_
          exact hQ _ hJ21 ps21 (fun u => absurd u hm22) ⟨fun b hb => ((fr21.1 b hb).trans ((fr10.1 b hb).trans ((fr9.1 b hb).trans ((fr8.1 b hb).trans (fr4.1 b hb))))), fun a ha => ((fr21.2 a (by omega)).trans ((fr10.2 a (by omega)).trans ((fr9.2 a (by omega)).trans ((fr8.2 a (by omega)).trans (fr4.2 a (by omega))))))⟩

set_option maxHeartbeats 1000000 in
theorem m_rchN {d : Nat} {J : Nat → Int → Int} {Q : Option jV → jS → Prop} (hJ : RZ J) {T : Int → Int} {z p k0 n : Int} (h : PST J T z p 0 k0) (hd : 6 ≤ d) (a12 : J 0 12 = T p) (hk : kindF (T p) ≠ 0) (hn : J 7 1 = n) (n5 : n = 5) (hQ : ∀ J', RZ J' → PST J' T z p 3 k0 → FR7 J J' → Q none (SM J')) : Cl d 176 [vr 0] (SM J) Q := by
  have hkl := kind_l hk
  refine ⟨by rw [l176]; exact Nat.le_of_ble_eq_true rfl, ?_⟩
  rw [l176]
  show Ev d 176 0 [some (vr 0), none, none, none, none, none] [] (SM J) Q
  refine ev_s1 (L' := [some (vr 0), none, none, none, none, none]) (S' := [vr 0]) k176_0 rfl rfl ?_
  refine ev_getI k176_1 (by decide) (rfl) ?_
  show Ev d 176 4 [some (vr 0), none, none, none, none, none] [vi (J 0 12)] (SM J) Q
  have rr1 := hJ.1 0 12
  rw [a12]
  rw [a12] at rr1
  refine ev_static (a := [vi (T p)]) (S' := []) k176_4 rfl (Nat.le_of_ble_eq_true rfl) (by omega) ?_
  refine m_kindOf (b := T p) (by omega) (by omega) (?_)
  have kk4 := kind_rg2 (T p)
  show Ev d 176 7 [some (vr 0), none, none, none, none, none] [vi (kindF (T p))] (SM J) Q
  refine ev_s1 (L' := [some (vr 0), some (vi (kindF (T p))), none, none, none, none]) (S' := []) k176_7 rfl rfl ?_
  refine ev_s1 (L' := [some (vr 0), some (vi (kindF (T p))), none, none, none, none]) (S' := [vr 0]) k176_8 rfl rfl ?_
  refine ev_s1 (L' := [some (vr 0), some (vi (kindF (T p))), none, none, none, none]) (S' := [vr 0, vr 0]) k176_9 rfl rfl ?_
  refine ev_getR k176_10 (by decide) (rfl) (y_0_14) ?_
  refine ev_s1 (L' := [some (vr 0), some (vi (kindF (T p))), none, none, none, none]) (S' := [vi 1, vr 7, vr 0]) k176_13 rfl rfl ?_
  refine ev_iald k176_14 (by decide) (rfl) (by omega) (by omega) ?_
  have rr2 := hJ.1 7 1
  rw [hn]
  rw [hn] at rr2
  refine ev_s1 (L' := [some (vr 0), some (vi (kindF (T p))), none, none, none, none]) (S' := [vi 5, vi n, vr 0]) k176_15 rfl rfl ?_
  refine ev_c_ge (t := 23) k176_16 rfl (by omega) (by omega) (by omega) (by omega) (fun h3 => ?_) (fun h3 => ?_)
  · refine ev_s1 (L' := [some (vr 0), some (vi (kindF (T p))), none, none, none, none]) (S' := [vi 0, vr 0]) k176_23 rfl rfl ?_
    refine ev_s1 (L' := [some (vr 0), some (vi (kindF (T p))), none, none, none, none]) (S' := [vi 3, vi 0, vr 0]) k176_24 rfl rfl ?_
    refine ev_virt (a := [vi 0, vi 3]) (S' := []) k176_25 rfl (Nat.le_of_ble_eq_true rfl) (by decide) (rfl) (by omega) ?_
    refine m_takes hJ h (i := 0) (k := 3) (by decide) (by decide) (by decide) (by omega) (fun u => absurd rfl u) (fun _ _ J4 hJ4 ps4 fr4 => ?_) (fun _ u => absurd u (by decide))
    show Ev d 176 28 [some (vr 0), some (vi (kindF (T p))), none, none, none, none] [vi 0] (SM J4) Q
    refine ev_s1 (L' := [some (vr 0), some (vi (kindF (T p))), none, none, none, none]) (S' := []) k176_28 rfl rfl ?_
    refine ev_s1 (L' := [some (vr 0), some (vi (kindF (T p))), none, none, none, none]) (S' := [vi 3]) k176_29 rfl rfl ?_
    refine ev_s1 (L' := [some (vr 0), some (vi (kindF (T p))), none, none, none, none]) (S' := [vi 5, vi 3]) k176_30 rfl rfl ?_
    refine ev_s1 (L' := [some (vr 0), some (vi (kindF (T p))), none, none, none, none]) (S' := [vr 0, vi 5, vi 3]) k176_31 rfl rfl ?_
    refine ev_getR k176_32 (by decide) (rfl) (y_0_14) ?_
    refine ev_s1 (L' := [some (vr 0), some (vi (kindF (T p))), none, none, none, none]) (S' := [vi 1, vr 7, vi 5, vi 3]) k176_35 rfl rfl ?_
    refine ev_iald k176_36 (by decide) (rfl) (by omega) (by omega) ?_
    have rr5 := hJ4.1 7 1
    rw [fr4.2 7 (by decide), hn]
    rw [fr4.2 7 (by decide), hn] at rr5
    refine ev_s1 (L' := [some (vr 0), some (vi (kindF (T p))), none, none, none, none]) (S' := [vi 5, vi n, vi 5, vi 3]) k176_37 rfl rfl ?_
    refine ev_c_ge (t := 50) k176_38 rfl (by omega) (by omega) (by omega) (by omega) (fun h6 => ?_) (fun h6 => ?_)
    · refine ev_s1 (L' := [some (vr 0), some (vi (kindF (T p))), none, none, none, none]) (S' := [vi 0, vi 5, vi 3]) k176_50 rfl rfl ?_
      refine ev_s1 (L' := [some (vr 0), some (vi (kindF (T p))), none, none, none, none]) (S' := [vi (5 * 0), vi 3]) k176_51 rfl rfl ?_
      show Ev d 176 52 [some (vr 0), some (vi (kindF (T p))), none, none, none, none] [vi 0, vi 3] (SM J4) Q
      refine ev_s1 (L' := [some (vr 0), some (vi (kindF (T p))), none, none, none, none]) (S' := [vi (3 + 0)]) k176_52 rfl rfl ?_
      show Ev d 176 53 [some (vr 0), some (vi (kindF (T p))), none, none, none, none] [vi 3] (SM J4) Q
      refine ev_s1 (L' := [some (vr 0), some (vi (kindF (T p))), some (vi 3), none, none, none]) (S' := []) k176_53 rfl rfl ?_
      refine ev_s1 (L' := [some (vr 0), some (vi (kindF (T p))), some (vi 3), none, none, none]) (S' := [vr 0]) k176_54 rfl rfl ?_
      refine ev_s1 (L' := [some (vr 0), some (vi (kindF (T p))), some (vi 3), none, none, none]) (S' := [vi 0, vr 0]) k176_55 rfl rfl ?_
      refine ev_s1 (L' := [some (vr 0), some (vi (kindF (T p))), some (vi 3), none, none, none]) (S' := [vi 9, vi 0, vr 0]) k176_56 rfl rfl ?_
      refine ev_virt (a := [vi 0, vi 9]) (S' := []) k176_58 rfl (Nat.le_of_ble_eq_true rfl) (by decide) (rfl) (by omega) ?_
      refine m_figure hJ4 ps4 (by omega) (by omega) (by omega) (by omega) (by omega) (fun J7 v7 hJ7 ps7 vn7 fr7 vl7 vu7 => ?_)
      simp only [nuP3, nuM3, sgP3, sgM3] at ps7
      show Ev d 176 61 [some (vr 0), some (vi (kindF (T p))), some (vi 3), none, none, none] [vi v7] (SM J7) Q
      refine ev_s1 (L' := [some (vr 0), some (vi (kindF (T p))), some (vi 3), some (vi v7), none, none]) (S' := []) k176_61 rfl rfl ?_
      refine ev_s1 (L' := [some (vr 0), some (vi (kindF (T p))), some (vi 3), some (vi v7), none, none]) (S' := [vr 0]) k176_62 rfl rfl ?_
      refine ev_s1 (L' := [some (vr 0), some (vi (kindF (T p))), some (vi 3), some (vi v7), none, none]) (S' := [vi 0, vr 0]) k176_63 rfl rfl ?_
      refine ev_s1 (L' := [some (vr 0), some (vi (kindF (T p))), some (vi 3), some (vi v7), none, none]) (S' := [vi 16, vi 0, vr 0]) k176_64 rfl rfl ?_
      refine ev_virt (a := [vi 0, vi 16]) (S' := []) k176_66 rfl (Nat.le_of_ble_eq_true rfl) (by decide) (rfl) (by omega) ?_
      refine m_follows hJ7 ps7 (by omega) (by omega) (by omega) (by omega) (by omega) (fun J8 v8 hJ8 ps8 vn8 fr8 vl8 vu8 => ?_)
      simp only [nuP3, nuM3, sgP3, sgM3] at ps8
      show Ev d 176 69 [some (vr 0), some (vi (kindF (T p))), some (vi 3), some (vi v7), none, none] [vi v8] (SM J8) Q
      refine ev_s1 (L' := [some (vr 0), some (vi (kindF (T p))), some (vi 3), some (vi v7), some (vi v8), none]) (S' := []) k176_69 rfl rfl ?_
      refine ev_s1 (L' := [some (vr 0), some (vi (kindF (T p))), some (vi 3), some (vi v7), some (vi v8), none]) (S' := [vr 0]) k176_71 rfl rfl ?_
      refine ev_s1 (L' := [some (vr 0), some (vi (kindF (T p))), some (vi 3), some (vi v7), some (vi v8), none]) (S' := [vi 0, vr 0]) k176_72 rfl rfl ?_
      refine ev_s1 (L' := [some (vr 0), some (vi (kindF (T p))), some (vi 3), some (vi v7), some (vi v8), none]) (S' := [vi 3, vi 0, vr 0]) k176_73 rfl rfl ?_
      refine ev_virt (a := [vi 0, vi 3]) (S' := []) k176_74 rfl (Nat.le_of_ble_eq_true rfl) (by decide) (rfl) (by omega) ?_
      refine m_follows hJ8 ps8 (by omega) (by omega) (by omega) (by omega) (by omega) (fun J9 v9 hJ9 ps9 vn9 fr9 vl9 vu9 => ?_)
      simp only [nuP3, nuM3, sgP3, sgM3] at ps9
      show Ev d 176 77 [some (vr 0), some (vi (kindF (T p))), some (vi 3), some (vi v7), some (vi v8), none] [vi v9] (SM J9) Q
      refine ev_s1 (L' := [some (vr 0), some (vi (kindF (T p))), some (vi 3), some (vi v7), some (vi v8), some (vi v9)]) (S' := []) k176_77 rfl rfl ?_
      refine ev_s1 (L' := [some (vr 0), some (vi (kindF (T p))), some (vi 3), some (vi v7), some (vi v8), some (vi v9)]) (S' := [vr 0]) k176_79 rfl rfl ?_
      refine ev_s1 (L' := [some (vr 0), some (vi (kindF (T p))), some (vi 3), some (vi v7), some (vi v8), some (vi v9)]) (S' := [vr 0, vr 0]) k176_80 rfl rfl ?_
      refine ev_getI k176_81 (by decide) (rfl) ?_
      show Ev d 176 84 [some (vr 0), some (vi (kindF (T p))), some (vi 3), some (vi v7), some (vi v8), some (vi v9)] [vi (J9 0 11), vr 0] (SM J9) Q
      have rr10 := hJ9.1 0 11
      refine ev_s1 (L' := [some (vr 0), some (vi (kindF (T p))), some (vi 3), some (vi v7), some (vi v8), some (vi v9)]) (S' := [vi 4, vi (J9 0 11), vr 0]) k176_84 rfl rfl ?_
      refine ev_c_ne (t := 92) k176_85 rfl (by omega) (by omega) (by omega) (by omega) (fun h11 => ?_) (fun h11 => ?_)
      · refine ev_s1 (L' := [some (vr 0), some (vi (kindF (T p))), some (vi 3), some (vi v7), some (vi v8), some (vi v9)]) (S' := [vi 0, vr 0]) k176_92 rfl rfl ?_
        refine ev_s1 (L' := [some (vr 0), some (vi (kindF (T p))), some (vi 3), some (vi v7), some (vi v8), some (vi v9)]) (S' := [vi 1, vi 0, vr 0]) k176_93 rfl rfl ?_
        refine ev_virt (a := [vi 0, vi 1]) (S' := []) k176_94 rfl (Nat.le_of_ble_eq_true rfl) (by decide) (rfl) (by omega) ?_
        refine m_takeS hJ9 ps9 (i := 0) (t := 4) (s := 59) (by decide) (by omega) (by omega) (fun J12 v12 hJ12 ps12 fr12 => ?_)
        simp only [nuP3, nuM3, sgP3, sgM3] at ps12
        show Ev d 176 97 [some (vr 0), some (vi (kindF (T p))), some (vi 3), some (vi v7), some (vi v8), some (vi v9)] [vi v12] (SM J12) Q
        refine ev_s1 (L' := [some (vr 0), some (vi (kindF (T p))), some (vi 3), some (vi v7), some (vi v8), some (vi v9)]) (S' := []) k176_97 rfl rfl ?_
        refine ev_s1 (L' := [some (vr 0), some (vi (kindF (T p))), some (vi 3), some (vi v7), some (vi v8), some (vi v9)]) (S' := [vr 0]) k176_98 rfl rfl ?_
        refine ev_virt (a := []) (S' := []) k176_99 rfl (Nat.le_of_ble_eq_true rfl) (by decide) (rfl) (by omega) ?_
        refine m_isWell hJ12 (fun hw => absurd (ps12.well.mp hw) (by decide)) (fun _ => ?_)
        show Ev d 176 102 [some (vr 0), some (vi (kindF (T p))), some (vi 3), some (vi v7), some (vi v8), some (vi v9)] [vi 0] (SM J12) Q
        refine ev_z_eq (t := 151) k176_102 rfl (by omega) (by omega) (fun _ => ?_) (fun h => absurd h (by decide))
        refine ev_return k176_151 ?_
        exact hQ _ hJ12 ps12 ⟨fun b hb => ((fr12.1 b hb).trans ((fr9.1 b hb).trans ((fr8.1 b hb).trans ((fr7.1 b hb).trans (fr4.1 b hb))))), fun a ha => ((fr12.2 a (by omega)).trans ((fr9.2 a (by omega)).trans ((fr8.2 a (by omega)).trans ((fr7.2 a (by omega)).trans (fr4.2 a (by omega))))))⟩
      · refine ev_s1 (L' := [some (vr 0), some (vi (kindF (T p))), some (vi 3), some (vi v7), some (vi v8), some (vi v9)]) (S' := [vi 1, vr 0]) k176_88 rfl rfl ?_
        refine ev_goto (t := 93) k176_89 rfl ?_
        refine ev_s1 (L' := [some (vr 0), some (vi (kindF (T p))), some (vi 3), some (vi v7), some (vi v8), some (vi v9)]) (S' := [vi 1, vi 1, vr 0]) k176_93 rfl rfl ?_
        refine ev_virt (a := [vi 1, vi 1]) (S' := []) k176_94 rfl (Nat.le_of_ble_eq_true rfl) (by decide) (rfl) (by omega) ?_
        refine m_takeS hJ9 ps9 (i := 1) (t := 4) (s := 59) (by decide) (by omega) (by omega) (fun J13 v13 hJ13 ps13 fr13 => ?_)
        simp only [nuP3, nuM3, sgP3, sgM3] at ps13
        show Ev d 176 97 [some (vr 0), some (vi (kindF (T p))), some (vi 3), some (vi v7), some (vi v8), some (vi v9)] [vi v13] (SM J13) Q
        refine ev_s1 (L' := [some (vr 0), some (vi (kindF (T p))), some (vi 3), some (vi v7), some (vi v8), some (vi v9)]) (S' := []) k176_97 rfl rfl ?_
        refine ev_s1 (L' := [some (vr 0), some (vi (kindF (T p))), some (vi 3), some (vi v7), some (vi v8), some (vi v9)]) (S' := [vr 0]) k176_98 rfl rfl ?_
        refine ev_virt (a := []) (S' := []) k176_99 rfl (Nat.le_of_ble_eq_true rfl) (by decide) (rfl) (by omega) ?_
        refine m_isWell hJ13 (fun hw => absurd (ps13.well.mp hw) (by decide)) (fun _ => ?_)
        show Ev d 176 102 [some (vr 0), some (vi (kindF (T p))), some (vi 3), some (vi v7), some (vi v8), some (vi v9)] [vi 0] (SM J13) Q
        refine ev_z_eq (t := 151) k176_102 rfl (by omega) (by omega) (fun _ => ?_) (fun h => absurd h (by decide))
        refine ev_return k176_151 ?_
        exact hQ _ hJ13 ps13 ⟨fun b hb => ((fr13.1 b hb).trans ((fr9.1 b hb).trans ((fr8.1 b hb).trans ((fr7.1 b hb).trans (fr4.1 b hb))))), fun a ha => ((fr13.2 a (by omega)).trans ((fr9.2 a (by omega)).trans ((fr8.2 a (by omega)).trans ((fr7.2 a (by omega)).trans (fr4.2 a (by omega))))))⟩
    · exfalso; omega
  · exfalso; omega

theorem m_readsChair {d : Nat} {J : Nat → Int → Int} {Q : Option jV → jS → Prop} (hJ : RZ J) {T : Int → Int} {z p k0 n : Int} (h : PST J T z p 0 k0) (hk : kindF (T p) ≠ 0) (hn : J 7 1 = n) (n0 : 0 ≤ n) (n5 : n ≤ 5) (hd : 6 ≤ d) (hQ : ∀ J', RZ J' → PST J' T z (chP T n p) (chM T n p) k0 → (chM T n p = 0 → n < 5 ∧ cM6 T p = 0 ∧ J' 7 = addC (J 7) n (kindF (T p)) (cV1 T p) (cV2 T p) (cV3 T p)) → FR7 J J' → Q none (SM J')) : Cl d 176 [vr 0] (SM J) Q := by
  have tl := tok_l (p := p) (kind_l hk)
  have a12 : J 0 12 = T p := h.w0.2.2.2.1.trans tl.2.1
  unfold chP chM at hQ
  by_cases q : 5 ≤ n
  · rw [if_pos q, if_pos q] at hQ
    exact m_rchN hJ h hd a12 hk hn (by omega) (fun J' hJ' ps fr => hQ J' hJ' ps (fun u => absurd u (by decide)) fr)
  · rw [if_neg q, if_neg q] at hQ
    exact m_rchY hJ h hd a12 hk hn n0 (by omega) (fun J' hJ' ps hD fr => hQ J' hJ' ps (fun u => ⟨by omega, u, hD u⟩) fr)

set_option maxHeartbeats 1000000 in
theorem m_rguY {d : Nat} {J : Nat → Int → Int} {Q : Option jV → jS → Prop} (hJ : RZ J) {T : Int → Int} {z p k0 n : Int} (h : PST J T z p 0 k0) (hd : 6 ≤ d) (hk : T p = 122) (hn : J 7 2 = n) (n0 : 0 ≤ n) (n5 : n < 5) (hQ : ∀ J', RZ J' → PST J' T z (gP4 T p) (gM4 T p) k0 → (gM4 T p = 0 → J' 7 = addG (J 7) n (gV1 T p) (gV2 T p)) → FR7 J J' → Q none (SM J')) : Cl d 177 [vr 0] (SM J) Q := by
  have tl := tok_l (T := T) (p := p) (by omega)
  refine ⟨by rw [l177]; exact Nat.le_of_ble_eq_true rfl, ?_⟩
  rw [l177]
  show Ev d 177 0 [some (vr 0), none, none, none] [] (SM J) Q
  refine ev_s1 (L' := [some (vr 0), none, none, none]) (S' := [vr 0]) k177_0 rfl rfl ?_
  refine ev_s1 (L' := [some (vr 0), none, none, none]) (S' := [vr 0, vr 0]) k177_1 rfl rfl ?_
  refine ev_getR k177_2 (by decide) (rfl) (y_0_14) ?_
  refine ev_s1 (L' := [some (vr 0), none, none, none]) (S' := [vi 2, vr 7, vr 0]) k177_5 rfl rfl ?_
  refine ev_iald k177_6 (by decide) (rfl) (by omega) (by omega) ?_
  have rr1 := hJ.1 7 2
  rw [hn]
  rw [hn] at rr1
  refine ev_s1 (L' := [some (vr 0), none, none, none]) (S' := [vi 5, vi n, vr 0]) k177_7 rfl rfl ?_
  refine ev_c_ge (t := 15) k177_8 rfl (by omega) (by omega) (by omega) (by omega) (fun h2 => ?_) (fun h2 => ?_)
  · exfalso; omega
  · refine ev_s1 (L' := [some (vr 0), none, none, none]) (S' := [vi 1, vr 0]) k177_11 rfl rfl ?_
    refine ev_goto (t := 16) k177_12 rfl ?_
    refine ev_s1 (L' := [some (vr 0), none, none, none]) (S' := [vi 3, vi 1, vr 0]) k177_16 rfl rfl ?_
    refine ev_virt (a := [vi 1, vi 3]) (S' := []) k177_17 rfl (Nat.le_of_ble_eq_true rfl) (by decide) (rfl) (by omega) ?_
    refine m_takes hJ h (i := 1) (k := 3) (by decide) (by decide) (by decide) (by omega) (fun u => absurd rfl u) (fun _ u => absurd u (by decide)) (fun _ _ J3 hJ3 ps3 fr3 => ?_)
    show Ev d 177 20 [some (vr 0), none, none, none] [vi (tokV T p)] (SM J3) Q
    rw [tl.2.2] at ps3
    refine ev_s1 (L' := [some (vr 0), none, none, none]) (S' := []) k177_20 rfl rfl ?_
    refine ev_s1 (L' := [some (vr 0), none, none, none]) (S' := [vi 28]) k177_21 rfl rfl ?_
    refine ev_s1 (L' := [some (vr 0), none, none, none]) (S' := [vi 4, vi 28]) k177_23 rfl rfl ?_
    refine ev_s1 (L' := [some (vr 0), none, none, none]) (S' := [vr 0, vi 4, vi 28]) k177_24 rfl rfl ?_
    refine ev_getR k177_25 (by decide) (rfl) (y_0_14) ?_
    refine ev_s1 (L' := [some (vr 0), none, none, none]) (S' := [vi 2, vr 7, vi 4, vi 28]) k177_28 rfl rfl ?_
    refine ev_iald k177_29 (by decide) (rfl) (by omega) (by omega) ?_
    have rr4 := hJ3.1 7 2
    rw [fr3.2 7 (by decide), hn]
    rw [fr3.2 7 (by decide), hn] at rr4
    refine ev_s1 (L' := [some (vr 0), none, none, none]) (S' := [vi 5, vi n, vi 4, vi 28]) k177_30 rfl rfl ?_
    refine ev_c_ge (t := 43) k177_31 rfl (by omega) (by omega) (by omega) (by omega) (fun h5 => ?_) (fun h5 => ?_)
    · exfalso; omega
    · refine ev_s1 (L' := [some (vr 0), none, none, none]) (S' := [vr 0, vi 4, vi 28]) k177_34 rfl rfl ?_
      refine ev_getR k177_35 (by decide) (rfl) (y_0_14) ?_
      refine ev_s1 (L' := [some (vr 0), none, none, none]) (S' := [vi 2, vr 7, vi 4, vi 28]) k177_38 rfl rfl ?_
      refine ev_iald k177_39 (by decide) (rfl) (by omega) (by omega) ?_
      have rr6 := hJ3.1 7 2
      rw [fr3.2 7 (by decide), hn]
      rw [fr3.2 7 (by decide), hn] at rr6
      refine ev_goto (t := 44) k177_40 rfl ?_
      refine ev_s1 (L' := [some (vr 0), none, none, none]) (S' := [vi (4 * n), vi 28]) k177_44 rfl rfl ?_
      refine ev_s1 (L' := [some (vr 0), none, none, none]) (S' := [vi (28 + (4 * n))]) k177_45 rfl rfl ?_
      refine ev_s1 (L' := [some (vr 0), some (vi (28 + (4 * n))), none, none]) (S' := []) k177_46 rfl rfl ?_
      refine ev_s1 (L' := [some (vr 0), some (vi (28 + (4 * n))), none, none]) (S' := [vr 0]) k177_47 rfl rfl ?_
      refine ev_s1 (L' := [some (vr 0), some (vi (28 + (4 * n))), none, none]) (S' := [vi 0, vr 0]) k177_48 rfl rfl ?_
      refine ev_s1 (L' := [some (vr 0), some (vi (28 + (4 * n))), none, none]) (S' := [vi 9, vi 0, vr 0]) k177_49 rfl rfl ?_
      refine ev_virt (a := [vi 0, vi 9]) (S' := []) k177_51 rfl (Nat.le_of_ble_eq_true rfl) (by decide) (rfl) (by omega) ?_
      refine m_figure hJ3 ps3 (by omega) (by omega) (by omega) (by omega) (by omega) (fun J7 v7 hJ7 ps7 vn7 fr7 vl7 vu7 => ?_)
      show Ev d 177 54 [some (vr 0), some (vi (28 + (4 * n))), none, none] [vi v7] (SM J7) Q
      refine ev_s1 (L' := [some (vr 0), some (vi (28 + (4 * n))), some (vi v7), none]) (S' := []) k177_54 rfl rfl ?_
      refine ev_s1 (L' := [some (vr 0), some (vi (28 + (4 * n))), some (vi v7), none]) (S' := [vr 0]) k177_55 rfl rfl ?_
      refine ev_s1 (L' := [some (vr 0), some (vi (28 + (4 * n))), some (vi v7), none]) (S' := [vi 1, vr 0]) k177_56 rfl rfl ?_
      refine ev_s1 (L' := [some (vr 0), some (vi (28 + (4 * n))), some (vi v7), none]) (S' := [vi 9, vi 1, vr 0]) k177_57 rfl rfl ?_
      refine ev_virt (a := [vi 1, vi 9]) (S' := []) k177_59 rfl (Nat.le_of_ble_eq_true rfl) (by decide) (rfl) (by omega) ?_
      refine m_follows hJ7 ps7 (by omega) (by omega) (by omega) (by omega) (by omega) (fun J8 v8 hJ8 ps8 vn8 fr8 vl8 vu8 => ?_)
      show Ev d 177 62 [some (vr 0), some (vi (28 + (4 * n))), some (vi v7), none] [vi v8] (SM J8) Q
      refine ev_s1 (L' := [some (vr 0), some (vi (28 + (4 * n))), some (vi v7), some (vi v8)]) (S' := []) k177_62 rfl rfl ?_
      refine ev_s1 (L' := [some (vr 0), some (vi (28 + (4 * n))), some (vi v7), some (vi v8)]) (S' := [vr 0]) k177_63 rfl rfl ?_
      refine ev_s1 (L' := [some (vr 0), some (vi (28 + (4 * n))), some (vi v7), some (vi v8)]) (S' := [vr 0, vr 0]) k177_64 rfl rfl ?_
      refine ev_getI k177_65 (by decide) (rfl) ?_
      show Ev d 177 68 [some (vr 0), some (vi (28 + (4 * n))), some (vi v7), some (vi v8)] [vi (J8 0 11), vr 0] (SM J8) Q
      have rr9 := hJ8.1 0 11
      refine ev_s1 (L' := [some (vr 0), some (vi (28 + (4 * n))), some (vi v7), some (vi v8)]) (S' := [vi 4, vi (J8 0 11), vr 0]) k177_68 rfl rfl ?_
      refine ev_c_ne (t := 76) k177_69 rfl (by omega) (by omega) (by omega) (by omega) (fun h10 => ?_) (fun h10 => ?_)
      · refine ev_s1 (L' := [some (vr 0), some (vi (28 + (4 * n))), some (vi v7), some (vi v8)]) (S' := [vi 0, vr 0]) k177_76 rfl rfl ?_
        refine ev_s1 (L' := [some (vr 0), some (vi (28 + (4 * n))), some (vi v7), some (vi v8)]) (S' := [vi 1, vi 0, vr 0]) k177_77 rfl rfl ?_
        refine ev_virt (a := [vi 0, vi 1]) (S' := []) k177_78 rfl (Nat.le_of_ble_eq_true rfl) (by decide) (rfl) (by omega) ?_
        refine m_takeS hJ8 ps8 (i := 0) (t := 4) (s := 59) (by decide) (by omega) (by omega) (fun J11 v11 hJ11 ps11 fr11 => ?_)
        show Ev d 177 81 [some (vr 0), some (vi (28 + (4 * n))), some (vi v7), some (vi v8)] [vi v11] (SM J11) Q
        refine ev_s1 (L' := [some (vr 0), some (vi (28 + (4 * n))), some (vi v7), some (vi v8)]) (S' := []) k177_81 rfl rfl ?_
        refine ev_s1 (L' := [some (vr 0), some (vi (28 + (4 * n))), some (vi v7), some (vi v8)]) (S' := [vr 0]) k177_82 rfl rfl ?_
        refine ev_virt (a := []) (S' := []) k177_83 rfl (Nat.le_of_ble_eq_true rfl) (by decide) (rfl) (by omega) ?_
        refine m_isWell hJ11 (fun hw12 => ?_) (fun hw12 => ?_)
        · have hm12 := ps11.well.mp hw12
          show Ev d 177 86 [some (vr 0), some (vi (28 + (4 * n))), some (vi v7), some (vi v8)] [vi 1] (SM J11) Q
          refine ev_z_eq (t := 115) k177_86 rfl (by omega) (by omega) (fun h => absurd h (by decide)) (fun _ => ?_)
          refine ev_s1 (L' := [some (vr 0), some (vi (28 + (4 * n))), some (vi v7), some (vi v8)]) (S' := [vr 0]) k177_89 rfl rfl ?_
          refine ev_getR k177_90 (by decide) (rfl) (y_0_14) ?_
          refine ev_s1 (L' := [some (vr 0), some (vi (28 + (4 * n))), some (vi v7), some (vi v8)]) (S' := [vi (28 + (4 * n)), vr 7]) k177_93 rfl rfl ?_
          refine ev_s1 (L' := [some (vr 0), some (vi (28 + (4 * n))), some (vi v7), some (vi v8)]) (S' := [vi v7, vi (28 + (4 * n)), vr 7]) k177_94 rfl rfl ?_
          refine ev_iast k177_95 (by decide) (rfl) (by omega) (by omega) ?_
          show Ev d 177 96 [some (vr 0), some (vi (28 + (4 * n))), some (vi v7), some (vi v8)] [] (SM (up J11 7 (28 + (4 * n)) v7)) Q
          have hJ13 := rz_up hJ11 (k := 7) (j := 28 + (4 * n)) (z := v7) (by omega) (by omega) (by omega)
          have g13 : ∀ aa, aa ≠ 7 → up J11 7 (28 + (4 * n)) v7 aa = J11 aa := fun aa h => upf h
          have q13 : ∀ bb, bb ≠ 28 + (4 * n) → up J11 7 (28 + (4 * n)) v7 7 bb = J11 7 bb := fun bb h => upN (Or.inr h)
          have e13 : up J11 7 (28 + (4 * n)) v7 7 (28 + (4 * n)) = v7 := upE rfl rfl
          generalize up J11 7 (28 + (4 * n)) v7 = J13 at hJ13 g13 q13 e13 ⊢
          refine ev_s1 (L' := [some (vr 0), some (vi (28 + (4 * n))), some (vi v7), some (vi v8)]) (S' := [vr 0]) k177_96 rfl rfl ?_
          refine ev_getR k177_97 (by decide) (rfl) (y_0_14) ?_
          refine ev_s1 (L' := [some (vr 0), some (vi (28 + (4 * n))), some (vi v7), some (vi v8)]) (S' := [vi (28 + (4 * n)), vr 7]) k177_100 rfl rfl ?_
          refine ev_s1 (L' := [some (vr 0), some (vi (28 + (4 * n))), some (vi v7), some (vi v8)]) (S' := [vi 1, vi (28 + (4 * n)), vr 7]) k177_101 rfl rfl ?_
          refine ev_s1 (L' := [some (vr 0), some (vi (28 + (4 * n))), some (vi v7), some (vi v8)]) (S' := [vi ((28 + (4 * n)) + 1), vr 7]) k177_102 rfl rfl ?_
          refine ev_s1 (L' := [some (vr 0), some (vi (28 + (4 * n))), some (vi v7), some (vi v8)]) (S' := [vi v8, vi ((28 + (4 * n)) + 1), vr 7]) k177_103 rfl rfl ?_
          refine ev_iast k177_104 (by decide) (rfl) (by omega) (by omega) ?_
          show Ev d 177 105 [some (vr 0), some (vi (28 + (4 * n))), some (vi v7), some (vi v8)] [] (SM (up J13 7 ((28 + (4 * n)) + 1) v8)) Q
          have hJ14 := rz_up hJ13 (k := 7) (j := (28 + (4 * n)) + 1) (z := v8) (by omega) (by omega) (by omega)
          have g14 : ∀ aa, aa ≠ 7 → up J13 7 ((28 + (4 * n)) + 1) v8 aa = J13 aa := fun aa h => upf h
          have q14 : ∀ bb, bb ≠ (28 + (4 * n)) + 1 → up J13 7 ((28 + (4 * n)) + 1) v8 7 bb = J13 7 bb := fun bb h => upN (Or.inr h)
          have e14 : up J13 7 ((28 + (4 * n)) + 1) v8 7 ((28 + (4 * n)) + 1) = v8 := upE rfl rfl
          generalize up J13 7 ((28 + (4 * n)) + 1) v8 = J14 at hJ14 g14 q14 e14 ⊢
          refine ev_s1 (L' := [some (vr 0), some (vi (28 + (4 * n))), some (vi v7), some (vi v8)]) (S' := [vr 0]) k177_105 rfl rfl ?_
          refine ev_getR k177_106 (by decide) (rfl) (y_0_14) ?_
          refine ev_s1 (L' := [some (vr 0), some (vi (28 + (4 * n))), some (vi v7), some (vi v8)]) (S' := [vi 2, vr 7]) k177_109 rfl rfl ?_
          refine ev_s1 (L' := [some (vr 0), some (vi (28 + (4 * n))), some (vi v7), some (vi v8)]) (S' := [vi 2, vr 7, vi 2, vr 7]) k177_110 rfl rfl ?_
          refine ev_iald k177_111 (by decide) (rfl) (by omega) (by omega) ?_
          have rr15 := hJ14.1 7 2
          rw [q14 2 (by omega), q13 2 (by omega), fr11.2 7 (by decide), fr8.2 7 (by decide), fr7.2 7 (by decide), fr3.2 7 (by decide), hn]
          rw [q14 2 (by omega), q13 2 (by omega), fr11.2 7 (by decide), fr8.2 7 (by decide), fr7.2 7 (by decide), fr3.2 7 (by decide), hn] at rr15
          refine ev_s1 (L' := [some (vr 0), some (vi (28 + (4 * n))), some (vi v7), some (vi v8)]) (S' := [vi 1, vi n, vi 2, vr 7]) k177_112 rfl rfl ?_
          refine ev_s1 (L' := [some (vr 0), some (vi (28 + (4 * n))), some (vi v7), some (vi v8)]) (S' := [vi (n + 1), vi 2, vr 7]) k177_113 rfl rfl ?_
          refine ev_iast k177_114 (by decide) (rfl) (by omega) (by omega) ?_
          show Ev d 177 115 [some (vr 0), some (vi (28 + (4 * n))), some (vi v7), some (vi v8)] [] (SM (up J14 7 2 (n + 1))) Q
          have hJ16 := rz_up hJ14 (k := 7) (j := 2) (z := n + 1) (by omega) (by omega) (by omega)
          have g16 : ∀ aa, aa ≠ 7 → up J14 7 2 (n + 1) aa = J14 aa := fun aa h => upf h
          have q16 : ∀ bb, bb ≠ 2 → up J14 7 2 (n + 1) 7 bb = J14 7 bb := fun bb h => upN (Or.inr h)
          have e16 : up J14 7 2 (n + 1) 7 2 = n + 1 := upE rfl rfl
          generalize up J14 7 2 (n + 1) = J16 at hJ16 g16 q16 e16 ⊢
          refine ev_return k177_115 ?_
          have k3 := (sg_ok hm12).1
          have g3 := nu_ok k3
          have k1 := (sg_ok g3.1).1
          exact hQ _ hJ16 (ps11.fr (by rw [g16 0 (by decide), g14 0 (by decide), g13 0 (by decide)]) (by rw [g16 5 (by decide), g14 5 (by decide), g13 5 (by decide)])) (fun _ => adg_ext (by rw [e16]) (by rw [q16 ((28 + (4 * n)) + 1) (by omega), e14]; exact vn8 k3) (by rw [q16 (28 + (4 * n)) (by omega), q14 (28 + (4 * n)) (by omega), e13]; exact vn7 k1) (fun b b2 bm bk => by rw [q16 b (by omega), q14 b (by omega), q13 b (by omega), fr11.2 7 (by decide), fr8.2 7 (by decide), fr7.2 7 (by decide), fr3.2 7 (by decide)])) ⟨fun b hb => ((congrFun (g16 0 (by decide)) b).trans ((congrFun (g14 0 (by decide)) b).trans ((congrFun (g13 0 (by decide)) b).trans ((fr11.1 b hb).trans ((fr8.1 b hb).trans ((fr7.1 b hb).trans (fr3.1 b hb))))))), fun a ha => ((g16 a (by omega)).trans ((g14 a (by omega)).trans ((g13 a (by omega)).trans ((fr11.2 a (by omega)).trans ((fr8.2 a (by omega)).trans ((fr7.2 a (by omega)).trans (fr3.2 a (by omega))))))))⟩
        · have hm12 := fun u => hw12 (ps11.well.mpr u)
          show Ev d 177 86 [some (vr 0), some (vi (28 + (4 * n))), some (vi v7), some (vi v8)] [vi 0] (SM J11) Q
          refine ev_z_eq (t := 115) k177_86 rfl (by omega) (by omega) (fun _ => ?_) (fun h => absurd h (by decide))
          refine ev_return k177_115 ?_
          exact hQ _ hJ11 ps11 (fun u => absurd u hm12) ⟨fun b hb => ((fr11.1 b hb).trans ((fr8.1 b hb).trans ((fr7.1 b hb).trans (fr3.1 b hb)))), fun a ha => ((fr11.2 a (by omega)).trans ((fr8.2 a (by omega)).trans ((fr7.2 a (by omega)).trans (fr3.2 a (by omega)))))⟩
      · refine ev_s1 (L' := [some (vr 0), some (vi (28 + (4 * n))), some (vi v7), some (vi v8)]) (S' := [vi 1, vr 0]) k177_72 rfl rfl ?_
        refine ev_goto (t := 77) k177_73 rfl ?_
        refine ev_s1 (L' := [some (vr 0), some (vi (28 + (4 * n))), some (vi v7), some (vi v8)]) (S' := [vi 1, vi 1, vr 0]) k177_77 rfl rfl ?_
        refine ev_virt (a := [vi 1, vi 1]) (S' := []) k177_78 rfl (Nat.le_of_ble_eq_true rfl) (by decide) (rfl) (by omega) ?_
        refine m_takeS hJ8 ps8 (i := 1) (t := 4) (s := 59) (by decide) (by omega) (by omega) (fun J17 v17 hJ17 ps17 fr17 => ?_)
        show Ev d 177 81 [some (vr 0), some (vi (28 + (4 * n))), some (vi v7), some (vi v8)] [vi v17] (SM J17) Q
        refine ev_s1 (L' := [some (vr 0), some (vi (28 + (4 * n))), some (vi v7), some (vi v8)]) (S' := []) k177_81 rfl rfl ?_
        refine ev_s1 (L' := [some (vr 0), some (vi (28 + (4 * n))), some (vi v7), some (vi v8)]) (S' := [vr 0]) k177_82 rfl rfl ?_
        refine ev_virt (a := []) (S' := []) k177_83 rfl (Nat.le_of_ble_eq_true rfl) (by decide) (rfl) (by omega) ?_
        refine m_isWell hJ17 (fun hw18 => ?_) (fun hw18 => ?_)
        · have hm18 := ps17.well.mp hw18
          show Ev d 177 86 [some (vr 0), some (vi (28 + (4 * n))), some (vi v7), some (vi v8)] [vi 1] (SM J17) Q
          refine ev_z_eq (t := 115) k177_86 rfl (by omega) (by omega) (fun h => absurd h (by decide)) (fun _ => ?_)
          refine ev_s1 (L' := [some (vr 0), some (vi (28 + (4 * n))), some (vi v7), some (vi v8)]) (S' := [vr 0]) k177_89 rfl rfl ?_
          refine ev_getR k177_90 (by decide) (rfl) (y_0_14) ?_
          refine ev_s1 (L' := [some (vr 0), some (vi (28 + (4 * n))), some (vi v7), some (vi v8)]) (S' := [vi (28 + (4 * n)), vr 7]) k177_93 rfl rfl ?_
          refine ev_s1 (L' := [some (vr 0), some (vi (28 + (4 * n))), some (vi v7), some (vi v8)]) (S' := [vi v7, vi (28 + (4 * n)), vr 7]) k177_94 rfl rfl ?_
          refine ev_iast k177_95 (by decide) (rfl) (by omega) (by omega) ?_
          show Ev d 177 96 [some (vr 0), some (vi (28 + (4 * n))), some (vi v7), some (vi v8)] [] (SM (up J17 7 (28 + (4 * n)) v7)) Q
          have hJ19 := rz_up hJ17 (k := 7) (j := 28 + (4 * n)) (z := v7) (by omega) (by omega) (by omega)
          have g19 : ∀ aa, aa ≠ 7 → up J17 7 (28 + (4 * n)) v7 aa = J17 aa := fun aa h => upf h
          have q19 : ∀ bb, bb ≠ 28 + (4 * n) → up J17 7 (28 + (4 * n)) v7 7 bb = J17 7 bb := fun bb h => upN (Or.inr h)
          have e19 : up J17 7 (28 + (4 * n)) v7 7 (28 + (4 * n)) = v7 := upE rfl rfl
          generalize up J17 7 (28 + (4 * n)) v7 = J19 at hJ19 g19 q19 e19 ⊢
          refine ev_s1 (L' := [some (vr 0), some (vi (28 + (4 * n))), some (vi v7), some (vi v8)]) (S' := [vr 0]) k177_96 rfl rfl ?_
          refine ev_getR k177_97 (by decide) (rfl) (y_0_14) ?_
          refine ev_s1 (L' := [some (vr 0), some (vi (28 + (4 * n))), some (vi v7), some (vi v8)]) (S' := [vi (28 + (4 * n)), vr 7]) k177_100 rfl rfl ?_
          refine ev_s1 (L' := [some (vr 0), some (vi (28 + (4 * n))), some (vi v7), some (vi v8)]) (S' := [vi 1, vi (28 + (4 * n)), vr 7]) k177_101 rfl rfl ?_
          refine ev_s1 (L' := [some (vr 0), some (vi (28 + (4 * n))), some (vi v7), some (vi v8)]) (S' := [vi ((28 + (4 * n)) + 1), vr 7]) k177_102 rfl rfl ?_
          refine ev_s1 (L' := [some (vr 0), some (vi (28 + (4 * n))), some (vi v7), some (vi v8)]) (S' := [vi v8, vi ((28 + (4 * n)) + 1), vr 7]) k177_103 rfl rfl ?_
          refine ev_iast k177_104 (by decide) (rfl) (by omega) (by omega) ?_
          show Ev d 177 105 [some (vr 0), some (vi (28 + (4 * n))), some (vi v7), some (vi v8)] [] (SM (up J19 7 ((28 + (4 * n)) + 1) v8)) Q
          have hJ20 := rz_up hJ19 (k := 7) (j := (28 + (4 * n)) + 1) (z := v8) (by omega) (by omega) (by omega)
          have g20 : ∀ aa, aa ≠ 7 → up J19 7 ((28 + (4 * n)) + 1) v8 aa = J19 aa := fun aa h => upf h
          have q20 : ∀ bb, bb ≠ (28 + (4 * n)) + 1 → up J19 7 ((28 + (4 * n)) + 1) v8 7 bb = J19 7 bb := fun bb h => upN (Or.inr h)
          have e20 : up J19 7 ((28 + (4 * n)) + 1) v8 7 ((28 + (4 * n)) + 1) = v8 := upE rfl rfl
          generalize up J19 7 ((28 + (4 * n)) + 1) v8 = J20 at hJ20 g20 q20 e20 ⊢
          refine ev_s1 (L' := [some (vr 0), some (vi (28 + (4 * n))), some (vi v7), some (vi v8)]) (S' := [vr 0]) k177_105 rfl rfl ?_
          refine ev_getR k177_106 (by decide) (rfl) (y_0_14) ?_
          refine ev_s1 (L' := [some (vr 0), some (vi (28 + (4 * n))), some (vi v7), some (vi v8)]) (S' := [vi 2, vr 7]) k177_109 rfl rfl ?_
          refine ev_s1 (L' := [some (vr 0), some (vi (28 + (4 * n))), some (vi v7), some (vi v8)]) (S' := [vi 2, vr 7, vi 2, vr 7]) k177_110 rfl rfl ?_
          refine ev_iald k177_111 (by decide) (rfl) (by omega) (by omega) ?_
          have rr21 := hJ20.1 7 2
          rw [q20 2 (by omega), q19 2 (by omega), fr17.2 7 (by decide), fr8.2 7 (by decide), fr7.2 7 (by decide), fr3.2 7 (by decide), hn]
          rw [q20 2 (by omega), q19 2 (by omega), fr17.2 7 (by decide), fr8.2 7 (by decide), fr7.2 7 (by decide), fr3.2 7 (by decide), hn] at rr21
          refine ev_s1 (L' := [some (vr 0), some (vi (28 + (4 * n))), some (vi v7), some (vi v8)]) (S' := [vi 1, vi n, vi 2, vr 7]) k177_112 rfl rfl ?_
          refine ev_s1 (L' := [some (vr 0), some (vi (28 + (4 * n))), some (vi v7), some (vi v8)]) (S' := [vi (n + 1), vi 2, vr 7]) k177_113 rfl rfl ?_
          refine ev_iast k177_114 (by decide) (rfl) (by omega) (by omega) ?_
          show Ev d 177 115 [some (vr 0), some (vi (28 + (4 * n))), some (vi v7), some (vi v8)] [] (SM (up J20 7 2 (n + 1))) Q
          have hJ22 := rz_up hJ20 (k := 7) (j := 2) (z := n + 1) (by omega) (by omega) (by omega)
          have g22 : ∀ aa, aa ≠ 7 → up J20 7 2 (n + 1) aa = J20 aa := fun aa h => upf h
          have q22 : ∀ bb, bb ≠ 2 → up J20 7 2 (n + 1) 7 bb = J20 7 bb := fun bb h => upN (Or.inr h)
          have e22 : up J20 7 2 (n + 1) 7 2 = n + 1 := upE rfl rfl
          generalize up J20 7 2 (n + 1) = J22 at hJ22 g22 q22 e22 ⊢
          refine ev_return k177_115 ?_
          have k3 := (sg_ok hm18).1
          have g3 := nu_ok k3
          have k1 := (sg_ok g3.1).1
          exact hQ _ hJ22 (ps17.fr (by rw [g22 0 (by decide), g20 0 (by decide), g19 0 (by decide)]) (by rw [g22 5 (by decide), g20 5 (by decide), g19 5 (by decide)])) (fun _ => adg_ext (by rw [e22]) (by rw [q22 ((28 + (4 * n)) + 1) (by omega), e20]; exact vn8 k3) (by rw [q22 (28 + (4 * n)) (by omega), q20 (28 + (4 * n)) (by omega), e19]; exact vn7 k1) (fun b b2 bm bk => by rw [q22 b (by omega), q20 b (by omega), q19 b (by omega), fr17.2 7 (by decide), fr8.2 7 (by decide), fr7.2 7 (by decide), fr3.2 7 (by decide)])) ⟨fun b hb => ((congrFun (g22 0 (by decide)) b).trans ((congrFun (g20 0 (by decide)) b).trans ((congrFun (g19 0 (by decide)) b).trans ((fr17.1 b hb).trans ((fr8.1 b hb).trans ((fr7.1 b hb).trans (fr3.1 b hb))))))), fun a ha => ((g22 a (by omega)).trans ((g20 a (by omega)).trans ((g19 a (by omega)).trans ((fr17.2 a (by omega)).trans ((fr8.2 a (by omega)).trans ((fr7.2 a (by omega)).trans (fr3.2 a (by omega))))))))⟩
        · have hm18 := fun u => hw18 (ps17.well.mpr u)
          show Ev d 177 86 [some (vr 0), some (vi (28 + (4 * n))), some (vi v7), some (vi v8)] [vi 0] (SM J17) Q
          refine ev_z_eq (t := 115) k177_86 rfl (by omega) (by omega) (fun _ => ?_) (fun h => absurd h (by decide))
          refine ev_return k177_115 ?_
          exact hQ _ hJ17 ps17 (fun u => absurd u hm18) ⟨fun b hb => ((fr17.1 b hb).trans ((fr8.1 b hb).trans ((fr7.1 b hb).trans (fr3.1 b hb)))), fun a ha => ((fr17.2 a (by omega)).trans ((fr8.2 a (by omega)).trans ((fr7.2 a (by omega)).trans (fr3.2 a (by omega)))))⟩

set_option maxHeartbeats 1000000 in
theorem m_rguN {d : Nat} {J : Nat → Int → Int} {Q : Option jV → jS → Prop} (hJ : RZ J) {T : Int → Int} {z p k0 n : Int} (h : PST J T z p 0 k0) (hd : 6 ≤ d) (hn : J 7 2 = n) (n5 : n = 5) (hQ : ∀ J', RZ J' → PST J' T z p 3 k0 → FR7 J J' → Q none (SM J')) : Cl d 177 [vr 0] (SM J) Q := by
  refine ⟨by rw [l177]; exact Nat.le_of_ble_eq_true rfl, ?_⟩
  rw [l177]
  show Ev d 177 0 [some (vr 0), none, none, none] [] (SM J) Q
  refine ev_s1 (L' := [some (vr 0), none, none, none]) (S' := [vr 0]) k177_0 rfl rfl ?_
  refine ev_s1 (L' := [some (vr 0), none, none, none]) (S' := [vr 0, vr 0]) k177_1 rfl rfl ?_
  refine ev_getR k177_2 (by decide) (rfl) (y_0_14) ?_
  refine ev_s1 (L' := [some (vr 0), none, none, none]) (S' := [vi 2, vr 7, vr 0]) k177_5 rfl rfl ?_
  refine ev_iald k177_6 (by decide) (rfl) (by omega) (by omega) ?_
  have rr1 := hJ.1 7 2
  rw [hn]
  rw [hn] at rr1
  refine ev_s1 (L' := [some (vr 0), none, none, none]) (S' := [vi 5, vi n, vr 0]) k177_7 rfl rfl ?_
  refine ev_c_ge (t := 15) k177_8 rfl (by omega) (by omega) (by omega) (by omega) (fun h2 => ?_) (fun h2 => ?_)
  · refine ev_s1 (L' := [some (vr 0), none, none, none]) (S' := [vi 0, vr 0]) k177_15 rfl rfl ?_
    refine ev_s1 (L' := [some (vr 0), none, none, none]) (S' := [vi 3, vi 0, vr 0]) k177_16 rfl rfl ?_
    refine ev_virt (a := [vi 0, vi 3]) (S' := []) k177_17 rfl (Nat.le_of_ble_eq_true rfl) (by decide) (rfl) (by omega) ?_
    refine m_takes hJ h (i := 0) (k := 3) (by decide) (by decide) (by decide) (by omega) (fun u => absurd rfl u) (fun _ _ J3 hJ3 ps3 fr3 => ?_) (fun _ u => absurd u (by decide))
    show Ev d 177 20 [some (vr 0), none, none, none] [vi 0] (SM J3) Q
    refine ev_s1 (L' := [some (vr 0), none, none, none]) (S' := []) k177_20 rfl rfl ?_
    refine ev_s1 (L' := [some (vr 0), none, none, none]) (S' := [vi 28]) k177_21 rfl rfl ?_
    refine ev_s1 (L' := [some (vr 0), none, none, none]) (S' := [vi 4, vi 28]) k177_23 rfl rfl ?_
    refine ev_s1 (L' := [some (vr 0), none, none, none]) (S' := [vr 0, vi 4, vi 28]) k177_24 rfl rfl ?_
    refine ev_getR k177_25 (by decide) (rfl) (y_0_14) ?_
    refine ev_s1 (L' := [some (vr 0), none, none, none]) (S' := [vi 2, vr 7, vi 4, vi 28]) k177_28 rfl rfl ?_
    refine ev_iald k177_29 (by decide) (rfl) (by omega) (by omega) ?_
    have rr4 := hJ3.1 7 2
    rw [fr3.2 7 (by decide), hn]
    rw [fr3.2 7 (by decide), hn] at rr4
    refine ev_s1 (L' := [some (vr 0), none, none, none]) (S' := [vi 5, vi n, vi 4, vi 28]) k177_30 rfl rfl ?_
    refine ev_c_ge (t := 43) k177_31 rfl (by omega) (by omega) (by omega) (by omega) (fun h5 => ?_) (fun h5 => ?_)
    · refine ev_s1 (L' := [some (vr 0), none, none, none]) (S' := [vi 0, vi 4, vi 28]) k177_43 rfl rfl ?_
      refine ev_s1 (L' := [some (vr 0), none, none, none]) (S' := [vi (4 * 0), vi 28]) k177_44 rfl rfl ?_
      show Ev d 177 45 [some (vr 0), none, none, none] [vi 0, vi 28] (SM J3) Q
      refine ev_s1 (L' := [some (vr 0), none, none, none]) (S' := [vi (28 + 0)]) k177_45 rfl rfl ?_
      show Ev d 177 46 [some (vr 0), none, none, none] [vi 28] (SM J3) Q
      refine ev_s1 (L' := [some (vr 0), some (vi 28), none, none]) (S' := []) k177_46 rfl rfl ?_
      refine ev_s1 (L' := [some (vr 0), some (vi 28), none, none]) (S' := [vr 0]) k177_47 rfl rfl ?_
      refine ev_s1 (L' := [some (vr 0), some (vi 28), none, none]) (S' := [vi 0, vr 0]) k177_48 rfl rfl ?_
      refine ev_s1 (L' := [some (vr 0), some (vi 28), none, none]) (S' := [vi 9, vi 0, vr 0]) k177_49 rfl rfl ?_
      refine ev_virt (a := [vi 0, vi 9]) (S' := []) k177_51 rfl (Nat.le_of_ble_eq_true rfl) (by decide) (rfl) (by omega) ?_
      refine m_figure hJ3 ps3 (by omega) (by omega) (by omega) (by omega) (by omega) (fun J6 v6 hJ6 ps6 vn6 fr6 vl6 vu6 => ?_)
      simp only [nuP3, nuM3, sgP3, sgM3] at ps6
      show Ev d 177 54 [some (vr 0), some (vi 28), none, none] [vi v6] (SM J6) Q
      refine ev_s1 (L' := [some (vr 0), some (vi 28), some (vi v6), none]) (S' := []) k177_54 rfl rfl ?_
      refine ev_s1 (L' := [some (vr 0), some (vi 28), some (vi v6), none]) (S' := [vr 0]) k177_55 rfl rfl ?_
      refine ev_s1 (L' := [some (vr 0), some (vi 28), some (vi v6), none]) (S' := [vi 1, vr 0]) k177_56 rfl rfl ?_
      refine ev_s1 (L' := [some (vr 0), some (vi 28), some (vi v6), none]) (S' := [vi 9, vi 1, vr 0]) k177_57 rfl rfl ?_
      refine ev_virt (a := [vi 1, vi 9]) (S' := []) k177_59 rfl (Nat.le_of_ble_eq_true rfl) (by decide) (rfl) (by omega) ?_
      refine m_follows hJ6 ps6 (by omega) (by omega) (by omega) (by omega) (by omega) (fun J7 v7 hJ7 ps7 vn7 fr7 vl7 vu7 => ?_)
      simp only [nuP3, nuM3, sgP3, sgM3] at ps7
      show Ev d 177 62 [some (vr 0), some (vi 28), some (vi v6), none] [vi v7] (SM J7) Q
      refine ev_s1 (L' := [some (vr 0), some (vi 28), some (vi v6), some (vi v7)]) (S' := []) k177_62 rfl rfl ?_
      refine ev_s1 (L' := [some (vr 0), some (vi 28), some (vi v6), some (vi v7)]) (S' := [vr 0]) k177_63 rfl rfl ?_
      refine ev_s1 (L' := [some (vr 0), some (vi 28), some (vi v6), some (vi v7)]) (S' := [vr 0, vr 0]) k177_64 rfl rfl ?_
      refine ev_getI k177_65 (by decide) (rfl) ?_
      show Ev d 177 68 [some (vr 0), some (vi 28), some (vi v6), some (vi v7)] [vi (J7 0 11), vr 0] (SM J7) Q
      have rr8 := hJ7.1 0 11
      refine ev_s1 (L' := [some (vr 0), some (vi 28), some (vi v6), some (vi v7)]) (S' := [vi 4, vi (J7 0 11), vr 0]) k177_68 rfl rfl ?_
      refine ev_c_ne (t := 76) k177_69 rfl (by omega) (by omega) (by omega) (by omega) (fun h9 => ?_) (fun h9 => ?_)
      · refine ev_s1 (L' := [some (vr 0), some (vi 28), some (vi v6), some (vi v7)]) (S' := [vi 0, vr 0]) k177_76 rfl rfl ?_
        refine ev_s1 (L' := [some (vr 0), some (vi 28), some (vi v6), some (vi v7)]) (S' := [vi 1, vi 0, vr 0]) k177_77 rfl rfl ?_
        refine ev_virt (a := [vi 0, vi 1]) (S' := []) k177_78 rfl (Nat.le_of_ble_eq_true rfl) (by decide) (rfl) (by omega) ?_
        refine m_takeS hJ7 ps7 (i := 0) (t := 4) (s := 59) (by decide) (by omega) (by omega) (fun J10 v10 hJ10 ps10 fr10 => ?_)
        simp only [nuP3, nuM3, sgP3, sgM3] at ps10
        show Ev d 177 81 [some (vr 0), some (vi 28), some (vi v6), some (vi v7)] [vi v10] (SM J10) Q
        refine ev_s1 (L' := [some (vr 0), some (vi 28), some (vi v6), some (vi v7)]) (S' := []) k177_81 rfl rfl ?_
        refine ev_s1 (L' := [some (vr 0), some (vi 28), some (vi v6), some (vi v7)]) (S' := [vr 0]) k177_82 rfl rfl ?_
        refine ev_virt (a := []) (S' := []) k177_83 rfl (Nat.le_of_ble_eq_true rfl) (by decide) (rfl) (by omega) ?_
        refine m_isWell hJ10 (fun hw => absurd (ps10.well.mp hw) (by decide)) (fun _ => ?_)
        show Ev d 177 86 [some (vr 0), some (vi 28), some (vi v6), some (vi v7)] [vi 0] (SM J10) Q
        refine ev_z_eq (t := 115) k177_86 rfl (by omega) (by omega) (fun _ => ?_) (fun h => absurd h (by decide))
        refine ev_return k177_115 ?_
        exact hQ _ hJ10 ps10 ⟨fun b hb => ((fr10.1 b hb).trans ((fr7.1 b hb).trans ((fr6.1 b hb).trans (fr3.1 b hb)))), fun a ha => ((fr10.2 a (by omega)).trans ((fr7.2 a (by omega)).trans ((fr6.2 a (by omega)).trans (fr3.2 a (by omega)))))⟩
      · refine ev_s1 (L' := [some (vr 0), some (vi 28), some (vi v6), some (vi v7)]) (S' := [vi 1, vr 0]) k177_72 rfl rfl ?_
        refine ev_goto (t := 77) k177_73 rfl ?_
        refine ev_s1 (L' := [some (vr 0), some (vi 28), some (vi v6), some (vi v7)]) (S' := [vi 1, vi 1, vr 0]) k177_77 rfl rfl ?_
        refine ev_virt (a := [vi 1, vi 1]) (S' := []) k177_78 rfl (Nat.le_of_ble_eq_true rfl) (by decide) (rfl) (by omega) ?_
        refine m_takeS hJ7 ps7 (i := 1) (t := 4) (s := 59) (by decide) (by omega) (by omega) (fun J11 v11 hJ11 ps11 fr11 => ?_)
        simp only [nuP3, nuM3, sgP3, sgM3] at ps11
        show Ev d 177 81 [some (vr 0), some (vi 28), some (vi v6), some (vi v7)] [vi v11] (SM J11) Q
        refine ev_s1 (L' := [some (vr 0), some (vi 28), some (vi v6), some (vi v7)]) (S' := []) k177_81 rfl rfl ?_
        refine ev_s1 (L' := [some (vr 0), some (vi 28), some (vi v6), some (vi v7)]) (S' := [vr 0]) k177_82 rfl rfl ?_
        refine ev_virt (a := []) (S' := []) k177_83 rfl (Nat.le_of_ble_eq_true rfl) (by decide) (rfl) (by omega) ?_
        refine m_isWell hJ11 (fun hw => absurd (ps11.well.mp hw) (by decide)) (fun _ => ?_)
        show Ev d 177 86 [some (vr 0), some (vi 28), some (vi v6), some (vi v7)] [vi 0] (SM J11) Q
        refine ev_z_eq (t := 115) k177_86 rfl (by omega) (by omega) (fun _ => ?_) (fun h => absurd h (by decide))
        refine ev_return k177_115 ?_
        exact hQ _ hJ11 ps11 ⟨fun b hb => ((fr11.1 b hb).trans ((fr7.1 b hb).trans ((fr6.1 b hb).trans (fr3.1 b hb)))), fun a ha => ((fr11.2 a (by omega)).trans ((fr7.2 a (by omega)).trans ((fr6.2 a (by omega)).trans (fr3.2 a (by omega)))))⟩
    · exfalso; omega
  · exfalso; omega

theorem m_readsGuest {d : Nat} {J : Nat → Int → Int} {Q : Option jV → jS → Prop} (hJ : RZ J) {T : Int → Int} {z p k0 n : Int} (h : PST J T z p 0 k0) (hk : T p = 122) (hn : J 7 2 = n) (n0 : 0 ≤ n) (n5 : n ≤ 5) (hd : 6 ≤ d) (hQ : ∀ J', RZ J' → PST J' T z (guP T n p) (guM T n p) k0 → (guM T n p = 0 → n < 5 ∧ gM4 T p = 0 ∧ J' 7 = addG (J 7) n (gV1 T p) (gV2 T p)) → FR7 J J' → Q none (SM J')) : Cl d 177 [vr 0] (SM J) Q := by
  unfold guP guM at hQ
  by_cases q : 5 ≤ n
  · rw [if_pos q, if_pos q] at hQ
    exact m_rguN hJ h hd hn (by omega) (fun J' hJ' ps fr => hQ J' hJ' ps (fun u => absurd u (by decide)) fr)
  · rw [if_neg q, if_neg q] at hQ
    exact m_rguY hJ h hd hk hn n0 (by omega) (fun J' hJ' ps hD fr => hQ J' hJ' ps (fun u => ⟨by omega, u, hD u⟩) fr)
