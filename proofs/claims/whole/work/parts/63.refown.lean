theorem b01 {b : Bool} {s : Int} (h : s = if b = true then 1 else 0) : (s = 0 → b = false) ∧ (s ≠ 0 → b = true) := by
  cases b
  · exact ⟨fun _ => rfl, fun q => absurd h q⟩
  · exact ⟨fun q => absurd (h.symm.trans q) (by decide), fun _ => rfl⟩
/-- a finding, or none; beside it only what is tried has changed -/
def SM4 (J J' : Nat → Int → Int) (v : Int) : Prop := RZ J' ∧ J' 0 4 = v ∧ (∀ b, b ≠ 4 → J' 0 b = J 0 b) ∧ ∀ a, a ≠ 0 → a ≠ 4 → a ≠ 7 → a ≠ 8 → a ≠ 12 → a ≠ 13 → J' a = J a
def itM (J : Nat → Int → Int) (r : Int) : Int → Int := fun x => J 3 (40 * r + x)

set_option maxHeartbeats 1000000 in
theorem m_owni {d : Nat} {J : Nat → Int → Int} {Q : Option jV → jS → Prop} (hJ : RZ J) (hw : OKW (J 6)) {g r i : Int} (r0 : 0 ≤ r) (r7 : r ≤ 7) (i0 : 0 ≤ i) (i40 : i + J 6 1 ≤ 40) (hd : 3 ≤ d) {t v : Int} (v0 : 0 ≤ v) (v9 : v ≤ 9) (hE : ∀ (s y : Int), (s = if ownB (J 6) (itM J r) i v = true then 1 else 0) → Ev d 209 129 [some (vr 0), some (vi g), some (vi r), some (vi i), some (vi t), some (vi v), some (vi s), some (vi y)] [] (SM J) Q) : ∀ (n : Nat) (k : Nat) (s : Int), J 6 1 - k < n → (k : Int) ≤ J 6 1 → (s = if allF (fun c => decide (bearW (J 6) c v = itM J r (i + c))) k = true then 1 else 0) → Ev d 209 72 [some (vr 0), some (vi g), some (vi r), some (vi i), some (vi t), some (vi v), some (vi s), some (vi (k : Int))] [] (SM J) Q := by
  intro n
  induction n with
  | zero =>
    intro k s hk hk2 hs
    exfalso; omega
  | succ n ih =>
    intro k s hk hk2 hs
    have w1 := hw.2.1
    have w2 := hw.2.2.1
    have ei : 40 * r + (i + (k : Int)) = 40 * r + i + (k : Int) := by omega
    have sr : s = 0 ∨ s = 1 := by rw [hs]; split <;> omega
    refine ev_s1 (L' := [some (vr 0), some (vi g), some (vi r), some (vi i), some (vi t), some (vi v), some (vi s), some (vi (k : Int))]) (S' := [vi (k : Int)]) k209_72 rfl rfl ?_
    refine ev_s1 (L' := [some (vr 0), some (vi g), some (vi r), some (vi i), some (vi t), some (vi v), some (vi s), some (vi (k : Int))]) (S' := [vr 0, vi (k : Int)]) k209_74 rfl rfl ?_
    refine ev_getR k209_75 (by decide) (rfl) (y_0_13) ?_
    refine ev_s1 (L' := [some (vr 0), some (vi g), some (vi r), some (vi i), some (vi t), some (vi v), some (vi s), some (vi (k : Int))]) (S' := [vi 1, vr 6, vi (k : Int)]) k209_78 rfl rfl ?_
    refine ev_iald k209_79 (by decide) (rfl) (by omega) (by omega) ?_
    have rr1 := hJ.1 6 1
    refine ev_c_ge (t := 129) k209_80 rfl (by omega) (by omega) (by omega) (by omega) (fun h2 => ?_) (fun h2 => ?_)
    · rw [show k = (J 6 1).toNat by omega] at hs
      exact hE _ _ hs
    · refine ev_s1 (L' := [some (vr 0), some (vi g), some (vi r), some (vi i), some (vi t), some (vi v), some (vi s), some (vi (k : Int))]) (S' := [vi s]) k209_83 rfl rfl ?_
      refine ev_z_eq (t := 120) k209_85 rfl (by omega) (by omega) (fun h3 => ?_) (fun h3 => ?_)
      · refine ev_s1 (L' := [some (vr 0), some (vi g), some (vi r), some (vi i), some (vi t), some (vi v), some (vi s), some (vi (k : Int))]) (S' := [vi 0]) k209_120 rfl rfl ?_
        refine ev_s1 (L' := [some (vr 0), some (vi g), some (vi r), some (vi i), some (vi t), some (vi v), some (vi 0), some (vi (k : Int))]) (S' := []) k209_121 rfl rfl ?_
        refine ev_s1 (L' := [some (vr 0), some (vi g), some (vi r), some (vi i), some (vi t), some (vi v), some (vi 0), some (vi ((k : Int) + 1))]) (S' := []) k209_123 rfl rfl ?_
        refine ev_goto (t := 72) k209_126 rfl ?_
        exact ih (k + 1) _ (by omega) (by omega) (by rw [allF, (b01 hs).1 (by omega)]; rfl)
      · refine ev_s1 (L' := [some (vr 0), some (vi g), some (vi r), some (vi i), some (vi t), some (vi v), some (vi s), some (vi (k : Int))]) (S' := [vr 0]) k209_88 rfl rfl ?_
        refine ev_getR k209_89 (by decide) (rfl) (y_0_13) ?_
        refine ev_s1 (L' := [some (vr 0), some (vi g), some (vi r), some (vi i), some (vi t), some (vi v), some (vi s), some (vi (k : Int))]) (S' := [vi (k : Int), vr 6]) k209_92 rfl rfl ?_
        refine ev_s1 (L' := [some (vr 0), some (vi g), some (vi r), some (vi i), some (vi t), some (vi v), some (vi s), some (vi (k : Int))]) (S' := [vi v, vi (k : Int), vr 6]) k209_94 rfl rfl ?_
        refine ev_static (a := [vr 6, vi (k : Int), vi v]) (S' := []) k209_96 rfl (Nat.le_of_ble_eq_true rfl) (by omega) ?_
        refine m_bearing hJ (k := 6) (by decide) (c := (k : Int)) (o := v) (by omega) (by omega) (by exact (hw.2.2.2.1 (k : Int) (by omega) (by omega))) (by omega) (by omega) (by omega) (?_)
        have bo96 := bear_okc (o := v) (hw.2.2.2.1 (k : Int) (by omega) (by omega)) (by omega) (by omega)
        show Ev d 209 99 [some (vr 0), some (vi g), some (vi r), some (vi i), some (vi t), some (vi v), some (vi s), some (vi (k : Int))] [vi (bearW (J 6) (k : Int) v)] (SM J) Q
        refine ev_s1 (L' := [some (vr 0), some (vi g), some (vi r), some (vi i), some (vi t), some (vi v), some (vi s), some (vi (k : Int))]) (S' := [vr 0, vi (bearW (J 6) (k : Int) v)]) k209_99 rfl rfl ?_
        refine ev_getR k209_100 (by decide) (rfl) (y_0_2) ?_
        refine ev_s1 (L' := [some (vr 0), some (vi g), some (vi r), some (vi i), some (vi t), some (vi v), some (vi s), some (vi (k : Int))]) (S' := [vi 40, vr 3, vi (bearW (J 6) (k : Int) v)]) k209_103 rfl rfl ?_
        refine ev_s1 (L' := [some (vr 0), some (vi g), some (vi r), some (vi i), some (vi t), some (vi v), some (vi s), some (vi (k : Int))]) (S' := [vi r, vi 40, vr 3, vi (bearW (J 6) (k : Int) v)]) k209_105 rfl rfl ?_
        refine ev_s1 (L' := [some (vr 0), some (vi g), some (vi r), some (vi i), some (vi t), some (vi v), some (vi s), some (vi (k : Int))]) (S' := [vi (40 * r), vr 3, vi (bearW (J 6) (k : Int) v)]) k209_106 rfl rfl ?_
        refine ev_s1 (L' := [some (vr 0), some (vi g), some (vi r), some (vi i), some (vi t), some (vi v), some (vi s), some (vi (k : Int))]) (S' := [vi i, vi (40 * r), vr 3, vi (bearW (J 6) (k : Int) v)]) k209_107 rfl rfl ?_
        refine ev_s1 (L' := [some (vr 0), some (vi g), some (vi r), some (vi i), some (vi t), some (vi v), some (vi s), some (vi (k : Int))]) (S' := [vi ((40 * r) + i), vr 3, vi (bearW (J 6) (k : Int) v)]) k209_108 rfl rfl ?_
        refine ev_s1 (L' := [some (vr 0), some (vi g), some (vi r), some (vi i), some (vi t), some (vi v), some (vi s), some (vi (k : Int))]) (S' := [vi (k : Int), vi ((40 * r) + i), vr 3, vi (bearW (J 6) (k : Int) v)]) k209_109 rfl rfl ?_
        refine ev_s1 (L' := [some (vr 0), some (vi g), some (vi r), some (vi i), some (vi t), some (vi v), some (vi s), some (vi (k : Int))]) (S' := [vi (((40 * r) + i) + (k : Int)), vr 3, vi (bearW (J 6) (k : Int) v)]) k209_111 rfl rfl ?_
        refine ev_iald k209_112 (by decide) (rfl) (by omega) (by omega) ?_
        have rr4 := hJ.1 3 (((40 * r) + i) + (k : Int))
        refine ev_c_ne (t := 120) k209_113 rfl (by omega) (by omega) (by omega) (by omega) (fun h5 => ?_) (fun h5 => ?_)
        · refine ev_s1 (L' := [some (vr 0), some (vi g), some (vi r), some (vi i), some (vi t), some (vi v), some (vi s), some (vi (k : Int))]) (S' := [vi 0]) k209_120 rfl rfl ?_
          refine ev_s1 (L' := [some (vr 0), some (vi g), some (vi r), some (vi i), some (vi t), some (vi v), some (vi 0), some (vi (k : Int))]) (S' := []) k209_121 rfl rfl ?_
          refine ev_s1 (L' := [some (vr 0), some (vi g), some (vi r), some (vi i), some (vi t), some (vi v), some (vi 0), some (vi ((k : Int) + 1))]) (S' := []) k209_123 rfl rfl ?_
          refine ev_goto (t := 72) k209_126 rfl ?_
          exact ih (k + 1) _ (by omega) (by omega) (by rw [allF, (b01 hs).2 (by omega), Bool.true_and, if_neg (Bool.eq_false_iff.mp (decide_eq_false (by show bearW (J 6) (k : Int) v ≠ J 3 (40 * r + (i + (k : Int))); rw [ei]; omega)))])
        · refine ev_s1 (L' := [some (vr 0), some (vi g), some (vi r), some (vi i), some (vi t), some (vi v), some (vi s), some (vi (k : Int))]) (S' := [vi 1]) k209_116 rfl rfl ?_
          refine ev_goto (t := 121) k209_117 rfl ?_
          refine ev_s1 (L' := [some (vr 0), some (vi g), some (vi r), some (vi i), some (vi t), some (vi v), some (vi 1), some (vi (k : Int))]) (S' := []) k209_121 rfl rfl ?_
          refine ev_s1 (L' := [some (vr 0), some (vi g), some (vi r), some (vi i), some (vi t), some (vi v), some (vi 1), some (vi ((k : Int) + 1))]) (S' := []) k209_123 rfl rfl ?_
          refine ev_goto (t := 72) k209_126 rfl ?_
          exact ih (k + 1) _ (by omega) (by omega) (by rw [allF, (b01 hs).2 (by omega), Bool.true_and, if_pos (decide_eq_true (by show bearW (J 6) (k : Int) v = J 3 (40 * r + (i + (k : Int))); rw [ei]; omega))])

set_option maxHeartbeats 1000000 in
theorem m_ownl {d : Nat} {J : Nat → Int → Int} {Q : Option jV → jS → Prop} (hJ : RZ J) (hw : OKW (J 6)) {g r i : Int} (r0 : 0 ≤ r) (r7 : r ≤ 7) (i0 : 0 ≤ i) (i40 : i + J 6 1 ≤ 40) (hd : 3 ≤ d) (hQ : ∀ J', SM4 J J' 0 → Q (some (vi (bitsF (fun v => ownB (J 6) (itM J r) i v) 10))) (SM J')) : ∀ (n : Nat) (j : Nat) (t : Int) (x y : Option jV), 10 - (j : Int) < n → (j : Int) ≤ 10 → t = bitsF (fun v => ownB (J 6) (itM J r) i v) j → Ev d 209 59 [some (vr 0), some (vi g), some (vi r), some (vi i), some (vi t), some (vi (j : Int)), x, y] [] (SM J) Q := by
  intro n
  induction n with
  | zero =>
    intro j t x y hj hj2 ht
    exfalso; omega
  | succ n ih =>
    intro j t x y hj hj2 ht
    have w1 := hw.2.1
    have w2 := hw.2.2.1
    refine ev_s1 (L' := [some (vr 0), some (vi g), some (vi r), some (vi i), some (vi t), some (vi (j : Int)), x, y]) (S' := [vi (j : Int)]) k209_59 rfl rfl ?_
    refine ev_s1 (L' := [some (vr 0), some (vi g), some (vi r), some (vi i), some (vi t), some (vi (j : Int)), x, y]) (S' := [vi 10, vi (j : Int)]) k209_61 rfl rfl ?_
    refine ev_c_ge (t := 153) k209_63 rfl (by omega) (by omega) (by omega) (by omega) (fun h1 => ?_) (fun h1 => ?_)
    · refine ev_s1 (L' := [some (vr 0), some (vi g), some (vi r), some (vi i), some (vi t), some (vi (j : Int)), x, y]) (S' := [vr 0]) k209_153 rfl rfl ?_
      refine ev_s1 (L' := [some (vr 0), some (vi g), some (vi r), some (vi i), some (vi t), some (vi (j : Int)), x, y]) (S' := [vi t, vr 0]) k209_154 rfl rfl ?_
      refine ev_virt (a := [vi t]) (S' := []) k209_156 rfl (Nat.le_of_ble_eq_true rfl) (by decide) (rfl) (by omega) ?_
      refine m_well hJ (v := t) (fun J2 hJ2 e2 q2 g2 => ?_)
      show Ev d 209 159 [some (vr 0), some (vi g), some (vi r), some (vi i), some (vi t), some (vi (j : Int)), x, y] [vi t] (SM J2) Q
      refine ev_ireturn k209_159 ?_
      rw [show j = 10 by omega] at ht
      rw [← ht] at hQ
      exact hQ _ ⟨hJ2, e2, fun b hb => (q2 b hb).trans (rfl), fun a a0 a4 a7 a8 a12 a13 => (g2 a (by assumption))⟩
    · refine ev_s1 (L' := [some (vr 0), some (vi g), some (vi r), some (vi i), some (vi t), some (vi (j : Int)), x, y]) (S' := [vi 1]) k209_66 rfl rfl ?_
      refine ev_s1 (L' := [some (vr 0), some (vi g), some (vi r), some (vi i), some (vi t), some (vi (j : Int)), some (vi 1), y]) (S' := []) k209_67 rfl rfl ?_
      refine ev_s1 (L' := [some (vr 0), some (vi g), some (vi r), some (vi i), some (vi t), some (vi (j : Int)), some (vi 1), y]) (S' := [vi 0]) k209_69 rfl rfl ?_
      refine ev_s1 (L' := [some (vr 0), some (vi g), some (vi r), some (vi i), some (vi t), some (vi (j : Int)), some (vi 1), some (vi 0)]) (S' := []) k209_70 rfl rfl ?_
      refine m_owni hJ hw r0 r7 i0 i40 hd (by omega) (by omega) (fun s0 y0 hs0 => ?_) 6 0 1 (by omega) (by omega) rfl
      have sr : s0 = 0 ∨ s0 = 1 := by rw [hs0]; split <;> omega
      refine ev_s1 (L' := [some (vr 0), some (vi g), some (vi r), some (vi i), some (vi t), some (vi (j : Int)), some (vi s0), some (vi y0)]) (S' := [vi t]) k209_129 rfl rfl ?_
      refine ev_s1 (L' := [some (vr 0), some (vi g), some (vi r), some (vi i), some (vi t), some (vi (j : Int)), some (vi s0), some (vi y0)]) (S' := [vi s0, vi t]) k209_131 rfl rfl ?_
      refine ev_z_eq (t := 143) k209_133 rfl (by omega) (by omega) (fun h3 => ?_) (fun h3 => ?_)
      · refine ev_s1 (L' := [some (vr 0), some (vi g), some (vi r), some (vi i), some (vi t), some (vi (j : Int)), some (vi s0), some (vi y0)]) (S' := [vi 0, vi t]) k209_143 rfl rfl ?_
        refine ev_ior k209_144 (by have := bits_lt (fun v => ownB (J 6) (itM J r) i v) (n := j) (by omega); omega) (by have := bits_lt (fun v => ownB (J 6) (itM J r) i v) (n := j) (by omega); omega) (by first | decide | exact (p2_rng j (by omega)).1) (by first | decide | exact (p2_rng j (by omega)).2) ?_
        refine ev_s1 (L' := [some (vr 0), some (vi g), some (vi r), some (vi i), some (vi ((Int.toNat t ||| Int.toNat 0 : Nat) : Int)), some (vi (j : Int)), some (vi s0), some (vi y0)]) (S' := []) k209_145 rfl rfl ?_
        refine ev_s1 (L' := [some (vr 0), some (vi g), some (vi r), some (vi i), some (vi ((Int.toNat t ||| Int.toNat 0 : Nat) : Int)), some (vi ((j : Int) + 1)), some (vi s0), some (vi y0)]) (S' := []) k209_147 rfl rfl ?_
        refine ev_goto (t := 59) k209_150 rfl ?_
        exact ih (j + 1) _ _ _ (by omega) (by omega) (by rw [bits_f (p := (fun v => ownB (J 6) (itM J r) i v)) ((b01 hs0).1 (by omega)), ← ht]; exact or0 (by have := bits_lt (fun v => ownB (J 6) (itM J r) i v) (n := j) (by omega); omega))
      · refine ev_s1 (L' := [some (vr 0), some (vi g), some (vi r), some (vi i), some (vi t), some (vi (j : Int)), some (vi s0), some (vi y0)]) (S' := [vi 1, vi t]) k209_136 rfl rfl ?_
        refine ev_s1 (L' := [some (vr 0), some (vi g), some (vi r), some (vi i), some (vi t), some (vi (j : Int)), some (vi s0), some (vi y0)]) (S' := [vi (j : Int), vi 1, vi t]) k209_137 rfl rfl ?_
        refine ev_ishl k209_139 (by omega) (by omega) ?_
        refine ev_goto (t := 144) k209_140 rfl ?_
        refine ev_ior k209_144 (by have := bits_lt (fun v => ownB (J 6) (itM J r) i v) (n := j) (by omega); omega) (by have := bits_lt (fun v => ownB (J 6) (itM J r) i v) (n := j) (by omega); omega) (by first | decide | exact (p2_rng j (by omega)).1) (by first | decide | exact (p2_rng j (by omega)).2) ?_
        refine ev_s1 (L' := [some (vr 0), some (vi g), some (vi r), some (vi i), some (vi ((Int.toNat t ||| Int.toNat (1 * 2 ^ Int.toNat (j : Int)) : Nat) : Int)), some (vi (j : Int)), some (vi s0), some (vi y0)]) (S' := []) k209_145 rfl rfl ?_
        refine ev_s1 (L' := [some (vr 0), some (vi g), some (vi r), some (vi i), some (vi ((Int.toNat t ||| Int.toNat (1 * 2 ^ Int.toNat (j : Int)) : Nat) : Int)), some (vi ((j : Int) + 1)), some (vi s0), some (vi y0)]) (S' := []) k209_147 rfl rfl ?_
        refine ev_goto (t := 59) k209_150 rfl ?_
        exact ih (j + 1) _ _ _ (by omega) (by omega) (by rw [bits_t (p := (fun v => ownB (J 6) (itM J r) i v)) ((b01 hs0).2 (by omega)), ← ht]; rfl)
      

set_option maxHeartbeats 1000000 in
theorem m_owns {d : Nat} {J : Nat → Int → Int} {Q : Option jV → jS → Prop} (hJ : RZ J) (hw : OKW (J 6)) {g r i : Int} (g0 : -2147483648 ≤ g) (g1 : g < 2147483648) (ra0 : -2147483648 ≤ r) (r1 : r < 2147483648) (ia0 : -2147483648 ≤ i) (i1 : i < 2147483648) (hm : 0 ≤ r → r ≤ 7 → J 1 r ≠ -1000000 → J 2 r ≤ 40) (hd : 5 ≤ d) (hB : ¬ ((0 ≤ g ∧ g < J 6 2) ∧ (0 ≤ r ∧ r ≤ 7)) → Q (some (vi (-1000001))) (SM J)) (hx1 : ((0 ≤ g ∧ g < J 6 2) ∧ (0 ≤ r ∧ r ≤ 7)) → J 1 r = -1000000 → ∀ J', SM4 J J' 1 → Q (some (vi (-1000010 - 1))) (SM J')) (hx2 : ((0 ≤ g ∧ g < J 6 2) ∧ (0 ≤ r ∧ r ≤ 7)) → ¬ J 1 r = -1000000 → ¬ (0 ≤ i ∧ 0 ≤ J 6 1 ∧ i + J 6 1 ≤ J 2 r) → ∀ J', SM4 J J' 2 → Q (some (vi (-1000010 - 2))) (SM J')) (hQ : ((0 ≤ g ∧ g < J 6 2) ∧ (0 ≤ r ∧ r ≤ 7)) → ¬ J 1 r = -1000000 → (0 ≤ i ∧ i + J 6 1 ≤ J 2 r) → ∀ J', SM4 J J' 0 → Q (some (vi (bitsF (fun v => ownB (J 6) (itM J r) i v) 10))) (SM J')) : Cl d 209 [vr 0, vi g, vi r, vi i] (SM J) Q := by
  have w0 := hw.1
  have w1 := hw.2.1
  have w2 := hw.2.2.1
  refine ⟨by rw [l209]; exact Nat.le_of_ble_eq_true rfl, ?_⟩
  rw [l209]
  show Ev d 209 0 [some (vr 0), some (vi g), some (vi r), some (vi i), none, none, none, none] [] (SM J) Q
  refine ev_s1 (L' := [some (vr 0), some (vi g), some (vi r), some (vi i), none, none, none, none]) (S' := [vr 0]) k209_0 rfl rfl ?_
  refine ev_s1 (L' := [some (vr 0), some (vi g), some (vi r), some (vi i), none, none, none, none]) (S' := [vi g, vr 0]) k209_1 rfl rfl ?_
  refine ev_virt (a := [vi g]) (S' := []) k209_2 rfl (Nat.le_of_ble_eq_true rfl) (by decide) (rfl) (by omega) ?_
  refine m_isGuest hJ (g := g) (by omega) (by omega) (by omega) (by omega) (fun h1 => ?_) (fun h1 => ?_)
  · show Ev d 209 5 [some (vr 0), some (vi g), some (vi r), some (vi i), none, none, none, none] [vi 1] (SM J) Q
    refine ev_z_eq (t := 15) k209_5 rfl (by omega) (by omega) (fun h => absurd h (by decide)) (fun _ => ?_)
    refine ev_s1 (L' := [some (vr 0), some (vi g), some (vi r), some (vi i), none, none, none, none]) (S' := [vi r]) k209_8 rfl rfl ?_
    refine ev_static (a := [vi r]) (S' := []) k209_9 rfl (Nat.le_of_ble_eq_true rfl) (by omega) ?_
    refine m_isRow (r := r) (by omega) (by omega) (by omega) (fun h2 => ?_) (fun h2 => ?_)
    · show Ev d 209 12 [some (vr 0), some (vi g), some (vi r), some (vi i), none, none, none, none] [vi 1] (SM J) Q
      refine ev_z_ne (t := 18) k209_12 rfl (by omega) (by omega) (fun _ => ?_) (fun h => absurd h (by decide))
      refine ev_s1 (L' := [some (vr 0), some (vi g), some (vi r), some (vi i), none, none, none, none]) (S' := [vr 0]) k209_18 rfl rfl ?_
      refine ev_s1 (L' := [some (vr 0), some (vi g), some (vi r), some (vi i), none, none, none, none]) (S' := [vi r, vr 0]) k209_19 rfl rfl ?_
      refine ev_virt (a := [vi r]) (S' := []) k209_20 rfl (Nat.le_of_ble_eq_true rfl) (by decide) (rfl) (by omega) ?_
      refine m_isMissing hJ (r := r) (by omega) (by omega) (fun h3 => ?_) (fun h3 => ?_)
      · show Ev d 209 23 [some (vr 0), some (vi g), some (vi r), some (vi i), none, none, none, none] [vi 1] (SM J) Q
        refine ev_z_eq (t := 32) k209_23 rfl (by omega) (by omega) (fun h => absurd h (by decide)) (fun _ => ?_)
        refine ev_s1 (L' := [some (vr 0), some (vi g), some (vi r), some (vi i), none, none, none, none]) (S' := [vr 0]) k209_26 rfl rfl ?_
        refine ev_s1 (L' := [some (vr 0), some (vi g), some (vi r), some (vi i), none, none, none, none]) (S' := [vi 1, vr 0]) k209_27 rfl rfl ?_
        refine ev_virt (a := [vi 1]) (S' := []) k209_28 rfl (Nat.le_of_ble_eq_true rfl) (by decide) (rfl) (by omega) ?_
        refine m_found hJ (v := 1) (by omega) (by omega) (fun J4 hJ4 e4 q4 g4 => ?_)
        show Ev d 209 31 [some (vr 0), some (vi g), some (vi r), some (vi i), none, none, none, none] [vi (-1000010 - 1)] (SM J4) Q
        refine ev_ireturn k209_31 ?_
        exact hx1 (by omega) (by omega) _ ⟨hJ4, e4, fun b hb => (q4 b hb).trans (rfl), fun a a0 a4 a7 a8 a12 a13 => (g4 a (by assumption))⟩
      · show Ev d 209 23 [some (vr 0), some (vi g), some (vi r), some (vi i), none, none, none, none] [vi 0] (SM J) Q
        refine ev_z_eq (t := 32) k209_23 rfl (by omega) (by omega) (fun _ => ?_) (fun h => absurd h (by decide))
        refine ev_s1 (L' := [some (vr 0), some (vi g), some (vi r), some (vi i), none, none, none, none]) (S' := [vr 0]) k209_32 rfl rfl ?_
        refine ev_s1 (L' := [some (vr 0), some (vi g), some (vi r), some (vi i), none, none, none, none]) (S' := [vi r, vr 0]) k209_33 rfl rfl ?_
        refine ev_s1 (L' := [some (vr 0), some (vi g), some (vi r), some (vi i), none, none, none, none]) (S' := [vi i, vi r, vr 0]) k209_34 rfl rfl ?_
        refine ev_s1 (L' := [some (vr 0), some (vi g), some (vi r), some (vi i), none, none, none, none]) (S' := [vr 0, vi i, vi r, vr 0]) k209_35 rfl rfl ?_
        refine ev_getR k209_36 (by decide) (rfl) (y_0_13) ?_
        refine ev_s1 (L' := [some (vr 0), some (vi g), some (vi r), some (vi i), none, none, none, none]) (S' := [vi 1, vr 6, vi i, vi r, vr 0]) k209_39 rfl rfl ?_
        refine ev_iald k209_40 (by decide) (rfl) (by omega) (by omega) ?_
        have rr5 := hJ.1 6 1
        refine ev_virt (a := [vi r, vi i, vi (J 6 1)]) (S' := []) k209_41 rfl (Nat.le_of_ble_eq_true rfl) (by decide) (rfl) (by omega) ?_
        refine m_isPart hJ (r := r) (i := i) (n := J 6 1) (by omega) (by omega) (by omega) (by omega) (by omega) (by omega) (fun h6 => ?_) (fun h6 => ?_)
        · show Ev d 209 44 [some (vr 0), some (vi g), some (vi r), some (vi i), none, none, none, none] [vi 1] (SM J) Q
          refine ev_z_ne (t := 53) k209_44 rfl (by omega) (by omega) (fun _ => ?_) (fun h => absurd h (by decide))
          refine ev_s1 (L' := [some (vr 0), some (vi g), some (vi r), some (vi i), none, none, none, none]) (S' := [vi 0]) k209_53 rfl rfl ?_
          refine ev_s1 (L' := [some (vr 0), some (vi g), some (vi r), some (vi i), some (vi 0), none, none, none]) (S' := []) k209_54 rfl rfl ?_
          refine ev_s1 (L' := [some (vr 0), some (vi g), some (vi r), some (vi i), some (vi 0), none, none, none]) (S' := [vi 0]) k209_56 rfl rfl ?_
          refine ev_s1 (L' := [some (vr 0), some (vi g), some (vi r), some (vi i), some (vi 0), some (vi 0), none, none]) (S' := []) k209_57 rfl rfl ?_
          have hm1 := hm (by omega) (by omega) (by omega)
          exact m_ownl hJ hw (by omega) (by omega) (by omega) (by omega) (by omega) (hQ (by omega) (by omega) (by omega)) 11 0 0 none none (by omega) (by omega) rfl
        · show Ev d 209 44 [some (vr 0), some (vi g), some (vi r), some (vi i), none, none, none, none] [vi 0] (SM J) Q
          refine ev_z_ne (t := 53) k209_44 rfl (by omega) (by omega) (fun h => absurd h (by decide)) (fun _ => ?_)
          refine ev_s1 (L' := [some (vr 0), some (vi g), some (vi r), some (vi i), none, none, none, none]) (S' := [vr 0]) k209_47 rfl rfl ?_
          refine ev_s1 (L' := [some (vr 0), some (vi g), some (vi r), some (vi i), none, none, none, none]) (S' := [vi 2, vr 0]) k209_48 rfl rfl ?_
          refine ev_virt (a := [vi 2]) (S' := []) k209_49 rfl (Nat.le_of_ble_eq_true rfl) (by decide) (rfl) (by omega) ?_
          refine m_found hJ (v := 2) (by omega) (by omega) (fun J7 hJ7 e7 q7 g7 => ?_)
          show Ev d 209 52 [some (vr 0), some (vi g), some (vi r), some (vi i), none, none, none, none] [vi (-1000010 - 2)] (SM J7) Q
          refine ev_ireturn k209_52 ?_
          exact hx2 (by omega) (by omega) (by omega) _ ⟨hJ7, e7, fun b hb => (q7 b hb).trans (rfl), fun a a0 a4 a7 a8 a12 a13 => (g7 a (by assumption))⟩
    · show Ev d 209 12 [some (vr 0), some (vi g), some (vi r), some (vi i), none, none, none, none] [vi 0] (SM J) Q
      refine ev_z_ne (t := 18) k209_12 rfl (by omega) (by omega) (fun h => absurd h (by decide)) (fun _ => ?_)
      refine ev_ldc k209_15 ?_
      refine ev_ireturn k209_17 ?_
      exact hB (by omega)
  · show Ev d 209 5 [some (vr 0), some (vi g), some (vi r), some (vi i), none, none, none, none] [vi 0] (SM J) Q
    refine ev_z_eq (t := 15) k209_5 rfl (by omega) (by omega) (fun _ => ?_) (fun h => absurd h (by decide))
    refine ev_ldc k209_15 ?_
    refine ev_ireturn k209_17 ?_
    exact hB (by omega)

set_option maxHeartbeats 1000000 in
theorem m_drw2 {d : Nat} {K : Nat → Int → Int} {Q : Option jV → jS → Prop} {w : Int → Int} {nn : Nat} {seed x : Int} (hw : OKW w) (hw6 : K 6 = w) (hc1 : 0 < w 1) (n60 : nn ≤ 60) (s0 : 0 ≤ seed) (s1 : seed < 2147483647) (x0 : 0 ≤ x) (x1 : x ≤ 1) (hd : 3 ≤ d) (hQ : ∀ J', RZ J' → (∀ a, a ≠ 8 → J' a = K a) → Q (some (vi (evW w nn seed x))) (SM J')) {z : Int} (hz : z = eS w seed nn) : ∀ (n : Nat) (J : Nat → Int → Int) (i : Nat) (t y : Int), RZ J → w 1 - i < n → (i : Int) ≤ w 1 → t = sumF (fun c => eV w seed nn (3 + 5 * c + 1)) i → J 8 = eV w seed nn → (∀ a, a ≠ 8 → J a = K a) → Ev d 213 138 [some (vr 0), some (vi (nn : Int)), some (vi seed), some (vi x), some (vl y), none, some (vi z), some (vi t), some (vi (i : Int))] [] (SM J) Q := by
  intro n
  induction n with
  | zero =>
    intro J i t y hJ hi hi2 ht hv8 hF0
    exfalso; omega
  | succ n ih =>
    intro J i t y hJ hi hi2 ht hv8 hF0
    have w1 := hw.2.1
    refine ev_s1 (L' := [some (vr 0), some (vi (nn : Int)), some (vi seed), some (vi x), some (vl y), none, some (vi z), some (vi t), some (vi (i : Int))]) (S' := [vi (i : Int)]) k213_138 rfl rfl ?_
    refine ev_s1 (L' := [some (vr 0), some (vi (nn : Int)), some (vi seed), some (vi x), some (vl y), none, some (vi z), some (vi t), some (vi (i : Int))]) (S' := [vr 0, vi (i : Int)]) k213_140 rfl rfl ?_
    refine ev_getR k213_141 (by decide) (rfl) (y_0_13) ?_
    refine ev_s1 (L' := [some (vr 0), some (vi (nn : Int)), some (vi seed), some (vi x), some (vl y), none, some (vi z), some (vi t), some (vi (i : Int))]) (S' := [vi 1, vr 6, vi (i : Int)]) k213_144 rfl rfl ?_
    refine ev_iald k213_145 (by decide) (rfl) (by omega) (by omega) ?_
    have rr1 := hJ.1 6 1
    rw [hF0 6 (by decide), hw6]
    rw [hF0 6 (by decide), hw6] at rr1
    refine ev_c_ge (t := 173) k213_146 rfl (by omega) (by omega) (by omega) (by omega) (fun h2 => ?_) (fun h2 => ?_)
    · refine ev_s1 (L' := [some (vr 0), some (vi (nn : Int)), some (vi seed), some (vi x), some (vl y), none, some (vi z), some (vi t), some (vi (i : Int))]) (S' := [vi x]) k213_173 rfl rfl ?_
      refine ev_z_ne (t := 182) k213_174 rfl (by omega) (by omega) (fun h3 => ?_) (fun h3 => ?_)
      · refine ev_s1 (L' := [some (vr 0), some (vi (nn : Int)), some (vi seed), some (vi x), some (vl y), none, some (vi z), some (vi t), some (vi (i : Int))]) (S' := [vi t]) k213_182 rfl rfl ?_
        refine ev_ireturn k213_184 ?_
        have ew : (w 1).toNat = i := by omega
        unfold evW manW2 at hQ
        rw [if_neg (by omega), ew, ← ht] at hQ
        exact hQ _ hJ hF0
      · refine ev_s1 (L' := [some (vr 0), some (vi (nn : Int)), some (vi seed), some (vi x), some (vl y), none, some (vi z), some (vi t), some (vi (i : Int))]) (S' := [vi z]) k213_177 rfl rfl ?_
        refine ev_goto (t := 184) k213_179 rfl ?_
        refine ev_ireturn k213_184 ?_
        have ew : (w 1).toNat = i := by omega
        unfold evW manW2 at hQ
        rw [if_pos (by omega), ← hz] at hQ
        exact hQ _ hJ hF0
    · refine ev_s1 (L' := [some (vr 0), some (vi (nn : Int)), some (vi seed), some (vi x), some (vl y), none, some (vi z), some (vi t), some (vi (i : Int))]) (S' := [vi t]) k213_149 rfl rfl ?_
      refine ev_s1 (L' := [some (vr 0), some (vi (nn : Int)), some (vi seed), some (vi x), some (vl y), none, some (vi z), some (vi t), some (vi (i : Int))]) (S' := [vr 0, vi t]) k213_151 rfl rfl ?_
      refine ev_getR k213_152 (by decide) (rfl) (y_0_15) ?_
      refine ev_s1 (L' := [some (vr 0), some (vi (nn : Int)), some (vi seed), some (vi x), some (vl y), none, some (vi z), some (vi t), some (vi (i : Int))]) (S' := [vi 3, vr 8, vi t]) k213_155 rfl rfl ?_
      refine ev_s1 (L' := [some (vr 0), some (vi (nn : Int)), some (vi seed), some (vi x), some (vl y), none, some (vi z), some (vi t), some (vi (i : Int))]) (S' := [vi 5, vi 3, vr 8, vi t]) k213_156 rfl rfl ?_
      refine ev_s1 (L' := [some (vr 0), some (vi (nn : Int)), some (vi seed), some (vi x), some (vl y), none, some (vi z), some (vi t), some (vi (i : Int))]) (S' := [vi (i : Int), vi 5, vi 3, vr 8, vi t]) k213_157 rfl rfl ?_
      refine ev_s1 (L' := [some (vr 0), some (vi (nn : Int)), some (vi seed), some (vi x), some (vl y), none, some (vi z), some (vi t), some (vi (i : Int))]) (S' := [vi (5 * (i : Int)), vi 3, vr 8, vi t]) k213_159 rfl rfl ?_
      refine ev_s1 (L' := [some (vr 0), some (vi (nn : Int)), some (vi seed), some (vi x), some (vl y), none, some (vi z), some (vi t), some (vi (i : Int))]) (S' := [vi (3 + (5 * (i : Int))), vr 8, vi t]) k213_160 rfl rfl ?_
      refine ev_s1 (L' := [some (vr 0), some (vi (nn : Int)), some (vi seed), some (vi x), some (vl y), none, some (vi z), some (vi t), some (vi (i : Int))]) (S' := [vi 1, vi (3 + (5 * (i : Int))), vr 8, vi t]) k213_161 rfl rfl ?_
      refine ev_s1 (L' := [some (vr 0), some (vi (nn : Int)), some (vi seed), some (vi x), some (vl y), none, some (vi z), some (vi t), some (vi (i : Int))]) (S' := [vi ((3 + (5 * (i : Int))) + 1), vr 8, vi t]) k213_162 rfl rfl ?_
      refine ev_iald k213_163 (by decide) (rfl) (by omega) (by omega) ?_
      have rr4 := hJ.1 8 ((3 + (5 * (i : Int))) + 1)
      rw [hv8]
      rw [hv8] at rr4
      refine ev_s1 (L' := [some (vr 0), some (vi (nn : Int)), some (vi seed), some (vi x), some (vl y), none, some (vi z), some (vi t), some (vi (i : Int))]) (S' := [vi (t + ((eV w seed nn) ((3 + (5 * (i : Int))) + 1)))]) k213_164 rfl rfl ?_
      refine ev_s1 (L' := [some (vr 0), some (vi (nn : Int)), some (vi seed), some (vi x), some (vl y), none, some (vi z), some (vi (t + ((eV w seed nn) ((3 + (5 * (i : Int))) + 1)))), some (vi (i : Int))]) (S' := []) k213_165 rfl rfl ?_
      refine ev_s1 (L' := [some (vr 0), some (vi (nn : Int)), some (vi seed), some (vi x), some (vl y), none, some (vi z), some (vi (t + ((eV w seed nn) ((3 + (5 * (i : Int))) + 1)))), some (vi ((i : Int) + 1))]) (S' := []) k213_167 rfl rfl ?_
      refine ev_goto (t := 138) k213_170 rfl ?_
      exact ih J (i + 1) _ y hJ (by omega) (by omega) (by rw [sumF, ← ht]) hv8 hF0

set_option maxHeartbeats 1000000 in
theorem m_drw1 {d : Nat} {K : Nat → Int → Int} {Q : Option jV → jS → Prop} {w : Int → Int} {nn : Nat} {seed x : Int} (hw : OKW w) (hw6 : K 6 = w) (hc1 : 0 < w 1) (n60 : nn ≤ 60) (s0 : 0 ≤ seed) (s1 : seed < 2147483647) (x0 : 0 ≤ x) (x1 : x ≤ 1) (hd : 3 ≤ d) (hQ : ∀ J', RZ J' → (∀ a, a ≠ 8 → J' a = K a) → Q (some (vi (evW w nn seed x))) (SM J')) : ∀ (n : Nat) (J : Nat → Int → Int) (i : Nat) (z y : Int), RZ J → (nn : Int) - i < n → i ≤ nn → y = drwX seed i → z = eS w seed i → J 8 = eV w seed i → (∀ a, a ≠ 8 → J a = K a) → Ev d 213 65 [some (vr 0), some (vi (nn : Int)), some (vi seed), some (vi x), some (vl y), none, some (vi z), some (vi (i : Int)), none] [] (SM J) Q := by
  intro n
  induction n with
  | zero =>
    intro J i z y hJ hi hi2 hy hz hv8 hF0
    exfalso; omega
  | succ n ih =>
    intro J i z y hJ hi hi2 hy hz hv8 hF0
    have w1 := hw.2.1
    have w2 := hw.2.2.1
    have ev := eV_lo (seed := seed) hw hc1 i
    have e1 := ev.2.1
    have e2 := ev.2.2.1
    have yr := drw_rng s0 s1 i
    rw [← hy] at yr
    have zr := eS_rng (seed := seed) hw hc1 i
    refine ev_s1 (L' := [some (vr 0), some (vi (nn : Int)), some (vi seed), some (vi x), some (vl y), none, some (vi z), some (vi (i : Int)), none]) (S' := [vi (i : Int)]) k213_65 rfl rfl ?_
    refine ev_s1 (L' := [some (vr 0), some (vi (nn : Int)), some (vi seed), some (vi x), some (vl y), none, some (vi z), some (vi (i : Int)), none]) (S' := [vi (nn : Int), vi (i : Int)]) k213_67 rfl rfl ?_
    refine ev_c_ge (t := 132) k213_68 rfl (by omega) (by omega) (by omega) (by omega) (fun h1 => ?_) (fun h1 => ?_)
    · refine ev_s1 (L' := [some (vr 0), some (vi (nn : Int)), some (vi seed), some (vi x), some (vl y), none, some (vi z), some (vi (i : Int)), none]) (S' := [vi 0]) k213_132 rfl rfl ?_
      refine ev_s1 (L' := [some (vr 0), some (vi (nn : Int)), some (vi seed), some (vi x), some (vl y), none, some (vi z), some (vi 0), none]) (S' := []) k213_133 rfl rfl ?_
      refine ev_s1 (L' := [some (vr 0), some (vi (nn : Int)), some (vi seed), some (vi x), some (vl y), none, some (vi z), some (vi 0), none]) (S' := [vi 0]) k213_135 rfl rfl ?_
      refine ev_s1 (L' := [some (vr 0), some (vi (nn : Int)), some (vi seed), some (vi x), some (vl y), none, some (vi z), some (vi 0), some (vi 0)]) (S' := []) k213_136 rfl rfl ?_
      have e1 : eS w seed nn = eS w seed i ∧ eV w seed nn = eV w seed i := by
        by_cases q : w 2 = 0
        · unfold eS eV; rw [if_pos q, if_pos q, if_pos q, if_pos q]; exact ⟨rfl, rfl⟩
        · rw [show nn = i by omega]; exact ⟨rfl, rfl⟩
      exact m_drw2 (K := K) hw hw6 hc1 n60 s0 s1 x0 x1 hd hQ (hz.trans e1.1.symm) 6 J 0 0 _ hJ (by omega) (by omega) rfl (hv8.trans e1.2.symm) hF0
    · refine ev_s1 (L' := [some (vr 0), some (vi (nn : Int)), some (vi seed), some (vi x), some (vl y), none, some (vi z), some (vi (i : Int)), none]) (S' := [vr 0]) k213_71 rfl rfl ?_
      refine ev_getR k213_72 (by decide) (rfl) (y_0_13) ?_
      refine ev_s1 (L' := [some (vr 0), some (vi (nn : Int)), some (vi seed), some (vi x), some (vl y), none, some (vi z), some (vi (i : Int)), none]) (S' := [vi 2, vr 6]) k213_75 rfl rfl ?_
      refine ev_iald k213_76 (by decide) (rfl) (by omega) (by omega) ?_
      have rr2 := hJ.1 6 2
      rw [hF0 6 (by decide), hw6]
      rw [hF0 6 (by decide), hw6] at rr2
      refine ev_z_le (t := 132) k213_77 rfl (by omega) (by omega) (fun h3 => ?_) (fun h3 => ?_)
      · refine ev_s1 (L' := [some (vr 0), some (vi (nn : Int)), some (vi seed), some (vi x), some (vl y), none, some (vi z), some (vi (i : Int)), none]) (S' := [vi 0]) k213_132 rfl rfl ?_
        refine ev_s1 (L' := [some (vr 0), some (vi (nn : Int)), some (vi seed), some (vi x), some (vl y), none, some (vi z), some (vi 0), none]) (S' := []) k213_133 rfl rfl ?_
        refine ev_s1 (L' := [some (vr 0), some (vi (nn : Int)), some (vi seed), some (vi x), some (vl y), none, some (vi z), some (vi 0), none]) (S' := [vi 0]) k213_135 rfl rfl ?_
        refine ev_s1 (L' := [some (vr 0), some (vi (nn : Int)), some (vi seed), some (vi x), some (vl y), none, some (vi z), some (vi 0), some (vi 0)]) (S' := []) k213_136 rfl rfl ?_
        have e1 : eS w seed nn = eS w seed i ∧ eV w seed nn = eV w seed i := by
          by_cases q : w 2 = 0
          · unfold eS eV; rw [if_pos q, if_pos q, if_pos q, if_pos q]; exact ⟨rfl, rfl⟩
          · rw [show nn = i by omega]; exact ⟨rfl, rfl⟩
        exact m_drw2 (K := K) hw hw6 hc1 n60 s0 s1 x0 x1 hd hQ (hz.trans e1.1.symm) 6 J 0 0 _ hJ (by omega) (by omega) rfl (hv8.trans e1.2.symm) hF0
      · refine ev_s1 (L' := [some (vr 0), some (vi (nn : Int)), some (vi seed), some (vi x), some (vl y), none, some (vi z), some (vi (i : Int)), none]) (S' := [vl y]) k213_80 rfl rfl ?_
        refine ev_ldc2 k213_82 ?_
        refine ev_s1 (L' := [some (vr 0), some (vi (nn : Int)), some (vi seed), some (vi x), some (vl y), none, some (vi z), some (vi (i : Int)), none]) (S' := [vl (y * 16807)]) k213_85 rfl rfl ?_
        refine ev_ldc2 k213_86 ?_
        refine ev_lrem k213_89 (by omega) (by omega) (by omega) (by omega) ?_
        rw [show y * 16807 % 2147483647 = drwX seed (i + 1) by rw [hy]; rfl]
        have xr := drw_rng s0 s1 (i + 1)
        refine ev_s1 (L' := [some (vr 0), some (vi (nn : Int)), some (vi seed), some (vi x), some (vl (drwX seed (i + 1))), none, some (vi z), some (vi (i : Int)), none]) (S' := []) k213_90 rfl rfl ?_
        refine ev_s1 (L' := [some (vr 0), some (vi (nn : Int)), some (vi seed), some (vi x), some (vl (drwX seed (i + 1))), none, some (vi z), some (vi (i : Int)), none]) (S' := [vi z]) k213_92 rfl rfl ?_
        refine ev_s1 (L' := [some (vr 0), some (vi (nn : Int)), some (vi seed), some (vi x), some (vl (drwX seed (i + 1))), none, some (vi z), some (vi (i : Int)), none]) (S' := [vr 0, vi z]) k213_94 rfl rfl ?_
        refine ev_getR k213_95 (by decide) (rfl) (y_0_15) ?_
        refine ev_s1 (L' := [some (vr 0), some (vi (nn : Int)), some (vi seed), some (vi x), some (vl (drwX seed (i + 1))), none, some (vi z), some (vi (i : Int)), none]) (S' := [vl (drwX seed (i + 1)), vr 8, vi z]) k213_98 rfl rfl ?_
        refine ev_s1 (L' := [some (vr 0), some (vi (nn : Int)), some (vi seed), some (vi x), some (vl (drwX seed (i + 1))), none, some (vi z), some (vi (i : Int)), none]) (S' := [vr 0, vl (drwX seed (i + 1)), vr 8, vi z]) k213_100 rfl rfl ?_
        refine ev_getR k213_101 (by decide) (rfl) (y_0_13) ?_
        refine ev_s1 (L' := [some (vr 0), some (vi (nn : Int)), some (vi seed), some (vi x), some (vl (drwX seed (i + 1))), none, some (vi z), some (vi (i : Int)), none]) (S' := [vi 2, vr 6, vl (drwX seed (i + 1)), vr 8, vi z]) k213_104 rfl rfl ?_
        refine ev_iald k213_105 (by decide) (rfl) (by omega) (by omega) ?_
        have rr4 := hJ.1 6 2
        rw [hF0 6 (by decide), hw6]
        rw [hF0 6 (by decide), hw6] at rr4
        refine ev_i2l k213_106 (by omega) (by omega) ?_
        refine ev_lrem k213_107 (by omega) (by omega) (by omega) (by omega) ?_
        refine ev_s1 (L' := [some (vr 0), some (vi (nn : Int)), some (vi seed), some (vi x), some (vl (drwX seed (i + 1))), none, some (vi z), some (vi (i : Int)), none]) (S' := [vi ((drwX seed (i + 1)) % (w 2)), vr 8, vi z]) k213_108 rfl rfl ?_
        refine ev_s1 (L' := [some (vr 0), some (vi (nn : Int)), some (vi seed), some (vi x), some (vl (drwX seed (i + 1))), none, some (vi z), some (vi (i : Int)), none]) (S' := [vl (drwX seed (i + 1)), vi ((drwX seed (i + 1)) % (w 2)), vr 8, vi z]) k213_109 rfl rfl ?_
        refine ev_s1 (L' := [some (vr 0), some (vi (nn : Int)), some (vi seed), some (vi x), some (vl (drwX seed (i + 1))), none, some (vi z), some (vi (i : Int)), none]) (S' := [vr 0, vl (drwX seed (i + 1)), vi ((drwX seed (i + 1)) % (w 2)), vr 8, vi z]) k213_111 rfl rfl ?_
        refine ev_getR k213_112 (by decide) (rfl) (y_0_13) ?_
        refine ev_s1 (L' := [some (vr 0), some (vi (nn : Int)), some (vi seed), some (vi x), some (vl (drwX seed (i + 1))), none, some (vi z), some (vi (i : Int)), none]) (S' := [vi 1, vr 6, vl (drwX seed (i + 1)), vi ((drwX seed (i + 1)) % (w 2)), vr 8, vi z]) k213_115 rfl rfl ?_
        refine ev_iald k213_116 (by decide) (rfl) (by omega) (by omega) ?_
        have rr5 := hJ.1 6 1
        rw [hF0 6 (by decide), hw6]
        rw [hF0 6 (by decide), hw6] at rr5
        refine ev_i2l k213_117 (by omega) (by omega) ?_
        refine ev_lrem k213_118 (by omega) (by omega) (by omega) (by omega) ?_
        refine ev_s1 (L' := [some (vr 0), some (vi (nn : Int)), some (vi seed), some (vi x), some (vl (drwX seed (i + 1))), none, some (vi z), some (vi (i : Int)), none]) (S' := [vi ((drwX seed (i + 1)) % (w 1)), vi ((drwX seed (i + 1)) % (w 2)), vr 8, vi z]) k213_119 rfl rfl ?_
        have g0 := Int.emod_nonneg (drwX seed (i + 1)) (show w 2 ≠ 0 by omega)
        have g1 := Int.emod_lt_of_pos (drwX seed (i + 1)) (show 0 < w 2 by omega)
        have c0 := Int.emod_nonneg (drwX seed (i + 1)) (show w 1 ≠ 0 by omega)
        have c1 := Int.emod_lt_of_pos (drwX seed (i + 1)) (show 0 < w 1 by omega)
        refine ev_static (a := [vr 8, vi ((drwX seed (i + 1)) % (w 2)), vi ((drwX seed (i + 1)) % (w 1))]) (S' := [vi z]) k213_120 rfl (Nat.le_of_ble_eq_true rfl) (by omega) ?_
        refine m_sits hJ (k := 8) (by decide) (g := (drwX seed (i + 1)) % (w 2)) (c := (drwX seed (i + 1)) % (w 1)) (by omega) (by omega) (by omega) (by omega) (by rw [hv8]; exact (ev.1.2.2.2.1 ((drwX seed (i + 1)) % (w 1)) (by omega) (by omega))) (by rw [hv8]; exact (ev.1.2.2.2.2.1 ((drwX seed (i + 1)) % (w 2)) (by omega) (by omega)).1) (by rw [hv8]; exact (ev.1.2.2.2.2.1 ((drwX seed (i + 1)) % (w 2)) (by omega) (by omega)).2.1) (by omega) (fun J6 hJ6 w6 f6 => ?_)
        rw [hv8]
        rw [hv8] at w6
        have bo120 := bear_okc (o := (eV w seed i) (28 + 4 * ((drwX seed (i + 1)) % (w 2)))) (ev.1.2.2.2.1 ((drwX seed (i + 1)) % (w 1)) (by omega) (by omega)) (ev.1.2.2.2.2.1 ((drwX seed (i + 1)) % (w 2)) (by omega) (by omega)).1.1 (ev.1.2.2.2.2.1 ((drwX seed (i + 1)) % (w 2)) (by omega) (by omega)).1.2
        show Ev d 213 123 [some (vr 0), some (vi (nn : Int)), some (vi seed), some (vi x), some (vl (drwX seed (i + 1))), none, some (vi z), some (vi (i : Int)), none] [vi (bearW (eV w seed i) ((drwX seed (i + 1)) % (w 1)) ((eV w seed i) (28 + 4 * ((drwX seed (i + 1)) % (w 2))))), vi z] (SM J6) Q
        refine ev_s1 (L' := [some (vr 0), some (vi (nn : Int)), some (vi seed), some (vi x), some (vl (drwX seed (i + 1))), none, some (vi z), some (vi (i : Int)), none]) (S' := [vi (z + (bearW (eV w seed i) ((drwX seed (i + 1)) % (w 1)) ((eV w seed i) (28 + 4 * ((drwX seed (i + 1)) % (w 2))))))]) k213_123 rfl rfl ?_
        refine ev_s1 (L' := [some (vr 0), some (vi (nn : Int)), some (vi seed), some (vi x), some (vl (drwX seed (i + 1))), none, some (vi (z + (bearW (eV w seed i) ((drwX seed (i + 1)) % (w 1)) ((eV w seed i) (28 + 4 * ((drwX seed (i + 1)) % (w 2))))))), some (vi (i : Int)), none]) (S' := []) k213_124 rfl rfl ?_
        refine ev_s1 (L' := [some (vr 0), some (vi (nn : Int)), some (vi seed), some (vi x), some (vl (drwX seed (i + 1))), none, some (vi (z + (bearW (eV w seed i) ((drwX seed (i + 1)) % (w 1)) ((eV w seed i) (28 + 4 * ((drwX seed (i + 1)) % (w 2))))))), some (vi ((i : Int) + 1)), none]) (S' := []) k213_126 rfl rfl ?_
        refine ev_goto (t := 65) k213_129 rfl ?_
        exact ih J6 (i + 1) _ _ hJ6 (by omega) (by omega) rfl (by rw [hz, (ev.2.2.2 _ g0 g1).1]; unfold eS eV; rw [if_neg (by omega), if_neg (by omega), if_neg (by omega)]; rfl) (by rw [w6]; unfold eV; rw [if_neg (by omega), if_neg (by omega)]; rfl) (fun a a8 => ((f6 a (by assumption)).trans (hF0 a a8)))

set_option maxHeartbeats 1000000 in
theorem m_drawn {d : Nat} {J : Nat → Int → Int} {Q : Option jV → jS → Prop} (hJ : RZ J) (hw : OKW (J 6)) {n seed x : Int} (n0 : -2147483648 ≤ n) (n1 : n < 2147483648) (seed0 : -2147483648 ≤ seed) (seed1 : seed < 2147483648) (x0 : -2147483648 ≤ x) (x1 : x < 2147483648) (hd : 4 ≤ d) (hS : ¬ 0 < J 6 1 → Q (some (vi (-1000002))) (SM J)) (hB : 0 < J 6 1 → ¬ ((0 ≤ n ∧ n ≤ 60) ∧ (1 ≤ seed ∧ seed ≤ 999999) ∧ (0 ≤ x ∧ x ≤ 1)) → Q (some (vi (-1000001))) (SM J)) (hQ : 0 < J 6 1 → ((0 ≤ n ∧ n ≤ 60) ∧ (1 ≤ seed ∧ seed ≤ 999999) ∧ (0 ≤ x ∧ x ≤ 1)) → ∀ J', FM J J' → Q (some (vi (evW (J 6) n.toNat seed x))) (SM J')) : Cl d 213 [vr 0, vi n, vi seed, vi x] (SM J) Q := by
  have w0 := hw.1
  have w1 := hw.2.1
  have w2 := hw.2.2.1
  refine ⟨by rw [l213]; exact Nat.le_of_ble_eq_true rfl, ?_⟩
  rw [l213]
  show Ev d 213 0 [some (vr 0), some (vi n), some (vi seed), some (vi x), none, none, none, none, none] [] (SM J) Q
  refine ev_s1 (L' := [some (vr 0), some (vi n), some (vi seed), some (vi x), none, none, none, none, none]) (S' := [vr 0]) k213_0 rfl rfl ?_
  refine ev_virt (a := []) (S' := []) k213_1 rfl (Nat.le_of_ble_eq_true rfl) (by decide) (rfl) (by omega) ?_
  refine m_isRoom hJ (fun h1 => ?_) (fun h1 => ?_)
  · show Ev d 213 4 [some (vr 0), some (vi n), some (vi seed), some (vi x), none, none, none, none, none] [vi 1] (SM J) Q
    refine ev_z_ne (t := 10) k213_4 rfl (by omega) (by omega) (fun _ => ?_) (fun h => absurd h (by decide))
    refine ev_s1 (L' := [some (vr 0), some (vi n), some (vi seed), some (vi x), none, none, none, none, none]) (S' := [vi n]) k213_10 rfl rfl ?_
    refine ev_s1 (L' := [some (vr 0), some (vi n), some (vi seed), some (vi x), none, none, none, none, none]) (S' := [vi 0, vi n]) k213_11 rfl rfl ?_
    refine ev_s1 (L' := [some (vr 0), some (vi n), some (vi seed), some (vi x), none, none, none, none, none]) (S' := [vi 60, vi 0, vi n]) k213_12 rfl rfl ?_
    refine ev_static (a := [vi n, vi 0, vi 60]) (S' := []) k213_14 rfl (Nat.le_of_ble_eq_true rfl) (by omega) ?_
    refine m_in (v := n) (lo := 0) (hi := 60) (by omega) (by omega) (by omega) (by omega) (by omega) (by omega) (fun h2 => ?_) (fun h2 => ?_)
    · show Ev d 213 17 [some (vr 0), some (vi n), some (vi seed), some (vi x), none, none, none, none, none] [vi 1] (SM J) Q
      refine ev_z_eq (t := 39) k213_17 rfl (by omega) (by omega) (fun h => absurd h (by decide)) (fun _ => ?_)
      refine ev_s1 (L' := [some (vr 0), some (vi n), some (vi seed), some (vi x), none, none, none, none, none]) (S' := [vi seed]) k213_20 rfl rfl ?_
      refine ev_s1 (L' := [some (vr 0), some (vi n), some (vi seed), some (vi x), none, none, none, none, none]) (S' := [vi 1, vi seed]) k213_21 rfl rfl ?_
      refine ev_ldc k213_22 ?_
      refine ev_static (a := [vi seed, vi 1, vi 999999]) (S' := []) k213_24 rfl (Nat.le_of_ble_eq_true rfl) (by omega) ?_
      refine m_in (v := seed) (lo := 1) (hi := 999999) (by omega) (by omega) (by omega) (by omega) (by omega) (by omega) (fun h3 => ?_) (fun h3 => ?_)
      · show Ev d 213 27 [some (vr 0), some (vi n), some (vi seed), some (vi x), none, none, none, none, none] [vi 1] (SM J) Q
        refine ev_z_eq (t := 39) k213_27 rfl (by omega) (by omega) (fun h => absurd h (by decide)) (fun _ => ?_)
        refine ev_s1 (L' := [some (vr 0), some (vi n), some (vi seed), some (vi x), none, none, none, none, none]) (S' := [vi x]) k213_30 rfl rfl ?_
        refine ev_s1 (L' := [some (vr 0), some (vi n), some (vi seed), some (vi x), none, none, none, none, none]) (S' := [vi 0, vi x]) k213_31 rfl rfl ?_
        refine ev_s1 (L' := [some (vr 0), some (vi n), some (vi seed), some (vi x), none, none, none, none, none]) (S' := [vi 1, vi 0, vi x]) k213_32 rfl rfl ?_
        refine ev_static (a := [vi x, vi 0, vi 1]) (S' := []) k213_33 rfl (Nat.le_of_ble_eq_true rfl) (by omega) ?_
        refine m_in (v := x) (lo := 0) (hi := 1) (by omega) (by omega) (by omega) (by omega) (by omega) (by omega) (fun h4 => ?_) (fun h4 => ?_)
        · show Ev d 213 36 [some (vr 0), some (vi n), some (vi seed), some (vi x), none, none, none, none, none] [vi 1] (SM J) Q
          refine ev_z_ne (t := 42) k213_36 rfl (by omega) (by omega) (fun _ => ?_) (fun h => absurd h (by decide))
          refine ev_s1 (L' := [some (vr 0), some (vi n), some (vi seed), some (vi x), none, none, none, none, none]) (S' := [vr 0]) k213_42 rfl rfl ?_
          refine ev_getR k213_43 (by decide) (rfl) (y_0_13) ?_
          refine ev_s1 (L' := [some (vr 0), some (vi n), some (vi seed), some (vi x), none, none, none, none, none]) (S' := [vi 0, vr 6]) k213_46 rfl rfl ?_
          refine ev_s1 (L' := [some (vr 0), some (vi n), some (vi seed), some (vi x), none, none, none, none, none]) (S' := [vr 0, vi 0, vr 6]) k213_47 rfl rfl ?_
          refine ev_getR k213_48 (by decide) (rfl) (y_0_15) ?_
          refine ev_s1 (L' := [some (vr 0), some (vi n), some (vi seed), some (vi x), none, none, none, none, none]) (S' := [vi 0, vr 8, vi 0, vr 6]) k213_51 rfl rfl ?_
          refine ev_static (a := [vr 6, vi 0, vr 8, vi 0]) (S' := []) k213_52 rfl (Nat.le_of_ble_eq_true rfl) (by omega) ?_
          refine m_copies hJ (f := 6) (t := 8) (lf := 48) (lt := 48) (a := 0) (b := 0) (by decide) ⟨by decide, rfl⟩ ⟨by decide, rfl⟩ (by omega) (by omega) (by omega) (by omega) (by omega) (by decide) (by decide) (fun J5 hJ5 w5 f5 => ?_)
          rw [cp_full hJ.2 (by decide) (by decide)] at w5
          show Ev d 213 55 [some (vr 0), some (vi n), some (vi seed), some (vi x), none, none, none, none, none] [] (SM J5) Q
          refine ev_s1 (L' := [some (vr 0), some (vi n), some (vi seed), some (vi x), none, none, none, none, none]) (S' := [vi seed]) k213_55 rfl rfl ?_
          refine ev_i2l k213_56 (by omega) (by omega) ?_
          refine ev_s1 (L' := [some (vr 0), some (vi n), some (vi seed), some (vi x), some (vl seed), none, none, none, none]) (S' := []) k213_57 rfl rfl ?_
          refine ev_s1 (L' := [some (vr 0), some (vi n), some (vi seed), some (vi x), some (vl seed), none, none, none, none]) (S' := [vi 0]) k213_59 rfl rfl ?_
          refine ev_s1 (L' := [some (vr 0), some (vi n), some (vi seed), some (vi x), some (vl seed), none, some (vi 0), none, none]) (S' := []) k213_60 rfl rfl ?_
          refine ev_s1 (L' := [some (vr 0), some (vi n), some (vi seed), some (vi x), some (vl seed), none, some (vi 0), none, none]) (S' := [vi 0]) k213_62 rfl rfl ?_
          refine ev_s1 (L' := [some (vr 0), some (vi n), some (vi seed), some (vi x), some (vl seed), none, some (vi 0), some (vi 0), none]) (S' := []) k213_63 rfl rfl ?_
          rw [show n = ((n.toNat : Nat) : Int) by omega]
          exact m_drw1 (K := J) (w := J 6) (nn := n.toNat) hw rfl (by omega) (by omega) (by omega) (by omega) (by omega) (by omega) (by omega) (fun J' hJ' hf => hQ (by omega) (by omega) J' ⟨hJ', fun a a4 a7 a8 a12 a13 => hf a a8⟩) (n.toNat + 1) J5 0 0 _ hJ5 (by omega) (by omega) rfl (by unfold eS; split <;> rfl) (by rw [w5]; unfold eV; split <;> rfl) (fun a a8 => (f5 a (by assumption)))
        · show Ev d 213 36 [some (vr 0), some (vi n), some (vi seed), some (vi x), none, none, none, none, none] [vi 0] (SM J) Q
          refine ev_z_ne (t := 42) k213_36 rfl (by omega) (by omega) (fun h => absurd h (by decide)) (fun _ => ?_)
          refine ev_ldc k213_39 ?_
          refine ev_ireturn k213_41 ?_
          exact hB (by omega) (by omega)
      · show Ev d 213 27 [some (vr 0), some (vi n), some (vi seed), some (vi x), none, none, none, none, none] [vi 0] (SM J) Q
        refine ev_z_eq (t := 39) k213_27 rfl (by omega) (by omega) (fun _ => ?_) (fun h => absurd h (by decide))
        refine ev_ldc k213_39 ?_
        refine ev_ireturn k213_41 ?_
        exact hB (by omega) (by omega)
    · show Ev d 213 17 [some (vr 0), some (vi n), some (vi seed), some (vi x), none, none, none, none, none] [vi 0] (SM J) Q
      refine ev_z_eq (t := 39) k213_17 rfl (by omega) (by omega) (fun _ => ?_) (fun h => absurd h (by decide))
      refine ev_ldc k213_39 ?_
      refine ev_ireturn k213_41 ?_
      exact hB (by omega) (by omega)
  · show Ev d 213 4 [some (vr 0), some (vi n), some (vi seed), some (vi x), none, none, none, none, none] [vi 0] (SM J) Q
    refine ev_z_ne (t := 10) k213_4 rfl (by omega) (by omega) (fun h => absurd h (by decide)) (fun _ => ?_)
    refine ev_ldc k213_7 ?_
    refine ev_ireturn k213_9 ?_
    exact hS (by omega)
