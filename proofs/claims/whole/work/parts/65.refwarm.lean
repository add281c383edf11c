theorem rec_hi {w : Int → Int} {s : Int} {b : Int} : ∀ i : Nat, 3 + 5 * (i : Int) ≤ b → recV w s i b = w b := by
  intro i
  induction i with
  | zero => intro _; rfl
  | succ i ih =>
    intro h
    rw [recV]
    split
    · rw [can_o (by omega)]; exact ih (by omega)
    · exact ih (by omega)
def warA (w : Int → Int) (g c b k : Int) : Int := if k = -1 ∨ (warR w g c b 4 0).1 = -1000000 then (warR w g c b 4 0).1 else if k < (warR w g c b 4 0).1 then dgW (w 2) (warR w g c b 4 0).1.toNat (warR w g c b 4 0).2 k.toNat else -1000000

set_option maxHeartbeats 1000000 in
theorem m_canc {d : Nat} {K : Nat → Int → Int} {Q : Option jV → jS → Prop} {w : Int → Int} {q t x : Int} (hw : OKW w) (hw6 : K 6 = w) (qa : 0 ≤ q) (qb : q ≤ 40) (t0 : 0 ≤ t) (t1 : t ≤ 10) (x0 : 0 ≤ x) (x1 : x ≤ 1) (hd : 5 ≤ d) {s b z0 : Int} (s0 : 0 ≤ s) (s1 : s < 100) (hE : ∀ (J' : Nat → Int → Int) (y : Int), RZ J' → J' 8 = recV w s (w 1).toNat → (∀ a, a ≠ 8 → J' a = K a) → Ev d 212 190 [some (vr 0), some (vi q), some (vi t), some (vi x), some (vi z0), some (vi b), some (vi s), some (vi (wtW s t (w 1).toNat)), some (vi y)] [] (SM J') Q) : ∀ (n : Nat) (J : Nat → Int → Int) (i : Nat) (z : Int), RZ J → w 1 - i < n → (i : Int) ≤ w 1 → z = wtW s t i → J 8 = recV w s i → (∀ a, a ≠ 8 → J a = K a) → Ev d 212 110 [some (vr 0), some (vi q), some (vi t), some (vi x), some (vi z0), some (vi b), some (vi s), some (vi z), some (vi (i : Int))] [] (SM J) Q := by
  intro n
  induction n with
  | zero =>
    intro J i z hJ hi hi2 hz hv8 hF0
    exfalso; omega
  | succ n ih =>
    intro J i z hJ hi hi2 hz hv8 hF0
    have w1 := hw.2.1
    have w2 := hw.2.2.1
    have wcc := fun h : (i : Int) < w 1 => (hw.2.2.2.1 (i : Int) (by omega) h).2.2.1
    refine ev_s1 (L' := [some (vr 0), some (vi q), some (vi t), some (vi x), some (vi z0), some (vi b), some (vi s), some (vi z), some (vi (i : Int))]) (S' := [vi (i : Int)]) k212_110 rfl rfl ?_
    refine ev_s1 (L' := [some (vr 0), some (vi q), some (vi t), some (vi x), some (vi z0), some (vi b), some (vi s), some (vi z), some (vi (i : Int))]) (S' := [vr 0, vi (i : Int)]) k212_112 rfl rfl ?_
    refine ev_getR k212_113 (by decide) (rfl) (y_0_13) ?_
    refine ev_s1 (L' := [some (vr 0), some (vi q), some (vi t), some (vi x), some (vi z0), some (vi b), some (vi s), some (vi z), some (vi (i : Int))]) (S' := [vi 1, vr 6, vi (i : Int)]) k212_116 rfl rfl ?_
    refine ev_iald k212_117 (by decide) (rfl) (by omega) (by omega) ?_
    have rr1 := hJ.1 6 1
    rw [hF0 6 (by decide), hw6]
    rw [hF0 6 (by decide), hw6] at rr1
    refine ev_c_ge (t := 190) k212_118 rfl (by omega) (by omega) (by omega) (by omega) (fun h2 => ?_) (fun h2 => ?_)
    · rw [hz, show i = (w 1).toNat by omega]
      exact hE _ _ hJ (by rw [hv8, show i = (w 1).toNat by omega]) hF0
    · have wc2 := wcc (by omega)
      refine ev_s1 (L' := [some (vr 0), some (vi q), some (vi t), some (vi x), some (vi z0), some (vi b), some (vi s), some (vi z), some (vi (i : Int))]) (S' := [vi z]) k212_121 rfl rfl ?_
      refine ev_s1 (L' := [some (vr 0), some (vi q), some (vi t), some (vi x), some (vi z0), some (vi b), some (vi s), some (vi z), some (vi (i : Int))]) (S' := [vi s, vi z]) k212_123 rfl rfl ?_
      refine ev_s1 (L' := [some (vr 0), some (vi q), some (vi t), some (vi x), some (vi z0), some (vi b), some (vi s), some (vi z), some (vi (i : Int))]) (S' := [vi (i : Int), vi s, vi z]) k212_125 rfl rfl ?_
      refine ev_static (a := [vi s, vi (i : Int)]) (S' := [vi z]) k212_127 rfl (Nat.le_of_ble_eq_true rfl) (by omega) ?_
      refine m_has (s := s) (i := (i : Int)) (by omega) (by omega) (fun hb3 => ?_) (fun hb3 => ?_)
      · show Ev d 212 130 [some (vr 0), some (vi q), some (vi t), some (vi x), some (vi z0), some (vi b), some (vi s), some (vi z), some (vi (i : Int))] [vi 1, vi z] (SM J) Q
        refine ev_z_eq (t := 137) k212_130 rfl (by omega) (by omega) (fun h => absurd h (by decide)) (fun _ => ?_)
        refine ev_s1 (L' := [some (vr 0), some (vi q), some (vi t), some (vi x), some (vi z0), some (vi b), some (vi s), some (vi z), some (vi (i : Int))]) (S' := [vi t, vi z]) k212_133 rfl rfl ?_
        refine ev_goto (t := 141) k212_134 rfl ?_
        refine ev_s1 (L' := [some (vr 0), some (vi q), some (vi t), some (vi x), some (vi z0), some (vi b), some (vi s), some (vi z), some (vi (i : Int))]) (S' := [vi (z * t)]) k212_141 rfl rfl ?_
        refine ev_s1 (L' := [some (vr 0), some (vi q), some (vi t), some (vi x), some (vi z0), some (vi b), some (vi s), some (vi (z * t)), some (vi (i : Int))]) (S' := []) k212_142 rfl rfl ?_
        refine ev_s1 (L' := [some (vr 0), some (vi q), some (vi t), some (vi x), some (vi z0), some (vi b), some (vi s), some (vi (z * t)), some (vi (i : Int))]) (S' := [vr 0]) k212_144 rfl rfl ?_
        refine ev_getR k212_145 (by decide) (rfl) (y_0_15) ?_
        refine ev_s1 (L' := [some (vr 0), some (vi q), some (vi t), some (vi x), some (vi z0), some (vi b), some (vi s), some (vi (z * t)), some (vi (i : Int))]) (S' := [vi 3, vr 8]) k212_148 rfl rfl ?_
        refine ev_s1 (L' := [some (vr 0), some (vi q), some (vi t), some (vi x), some (vi z0), some (vi b), some (vi s), some (vi (z * t)), some (vi (i : Int))]) (S' := [vi 5, vi 3, vr 8]) k212_149 rfl rfl ?_
        refine ev_s1 (L' := [some (vr 0), some (vi q), some (vi t), some (vi x), some (vi z0), some (vi b), some (vi s), some (vi (z * t)), some (vi (i : Int))]) (S' := [vi (i : Int), vi 5, vi 3, vr 8]) k212_150 rfl rfl ?_
        refine ev_s1 (L' := [some (vr 0), some (vi q), some (vi t), some (vi x), some (vi z0), some (vi b), some (vi s), some (vi (z * t)), some (vi (i : Int))]) (S' := [vi (5 * (i : Int)), vi 3, vr 8]) k212_152 rfl rfl ?_
        refine ev_s1 (L' := [some (vr 0), some (vi q), some (vi t), some (vi x), some (vi z0), some (vi b), some (vi s), some (vi (z * t)), some (vi (i : Int))]) (S' := [vi (3 + (5 * (i : Int))), vr 8]) k212_153 rfl rfl ?_
        refine ev_s1 (L' := [some (vr 0), some (vi q), some (vi t), some (vi x), some (vi z0), some (vi b), some (vi s), some (vi (z * t)), some (vi (i : Int))]) (S' := [vi 2, vi (3 + (5 * (i : Int))), vr 8]) k212_154 rfl rfl ?_
        refine ev_s1 (L' := [some (vr 0), some (vi q), some (vi t), some (vi x), some (vi z0), some (vi b), some (vi s), some (vi (z * t)), some (vi (i : Int))]) (S' := [vi ((3 + (5 * (i : Int))) + 2), vr 8]) k212_155 rfl rfl ?_
        refine ev_s1 (L' := [some (vr 0), some (vi q), some (vi t), some (vi x), some (vi z0), some (vi b), some (vi s), some (vi (z * t)), some (vi (i : Int))]) (S' := [vi s, vi ((3 + (5 * (i : Int))) + 2), vr 8]) k212_156 rfl rfl ?_
        refine ev_s1 (L' := [some (vr 0), some (vi q), some (vi t), some (vi x), some (vi z0), some (vi b), some (vi s), some (vi (z * t)), some (vi (i : Int))]) (S' := [vi (i : Int), vi s, vi ((3 + (5 * (i : Int))) + 2), vr 8]) k212_158 rfl rfl ?_
        refine ev_static (a := [vi s, vi (i : Int)]) (S' := [vi ((3 + (5 * (i : Int))) + 2), vr 8]) k212_160 rfl (Nat.le_of_ble_eq_true rfl) (by omega) ?_
        refine m_has (s := s) (i := (i : Int)) (by omega) (by omega) (fun _ => ?_) (fun q => absurd (q.symm.trans hb3) (by decide))
        show Ev d 212 163 [some (vr 0), some (vi q), some (vi t), some (vi x), some (vi z0), some (vi b), some (vi s), some (vi (z * t)), some (vi (i : Int))] [vi 1, vi ((3 + (5 * (i : Int))) + 2), vr 8] (SM J) Q
        refine ev_z_eq (t := 170) k212_163 rfl (by omega) (by omega) (fun h => absurd h (by decide)) (fun _ => ?_)
        refine ev_s1 (L' := [some (vr 0), some (vi q), some (vi t), some (vi x), some (vi z0), some (vi b), some (vi s), some (vi (z * t)), some (vi (i : Int))]) (S' := [vi 0, vi ((3 + (5 * (i : Int))) + 2), vr 8]) k212_166 rfl rfl ?_
        refine ev_goto (t := 183) k212_167 rfl ?_
        refine ev_iast k212_183 (by decide) (rfl) (by omega) (by omega) ?_
        show Ev d 212 184 [some (vr 0), some (vi q), some (vi t), some (vi x), some (vi z0), some (vi b), some (vi s), some (vi (z * t)), some (vi (i : Int))] [] (SM (up J 8 ((3 + (5 * (i : Int))) + 2) 0)) Q
        have hJ4 := rz_up hJ (k := 8) (j := (3 + (5 * (i : Int))) + 2) (z := 0) (by omega) (by omega) (by omega)
        have g4 : ∀ aa, aa ≠ 8 → up J 8 ((3 + (5 * (i : Int))) + 2) 0 aa = J aa := fun aa h => upf h
        have q4 : ∀ bb, bb ≠ (3 + (5 * (i : Int))) + 2 → up J 8 ((3 + (5 * (i : Int))) + 2) 0 8 bb = J 8 bb := fun bb h => upN (Or.inr h)
        have e4 : up J 8 ((3 + (5 * (i : Int))) + 2) 0 8 ((3 + (5 * (i : Int))) + 2) = 0 := upE rfl rfl
        generalize up J 8 ((3 + (5 * (i : Int))) + 2) 0 = J4 at hJ4 g4 q4 e4 ⊢
        have wq : J4 8 = recV w s (i + 1) := by
          rw [recV, if_pos hb3]
          funext b
          by_cases q : b = 3 + 5 * (i : Int) + 2
          · rw [q, e4, can_e]
          · rw [q4 b q, can_o q, hv8]
        refine ev_s1 (L' := [some (vr 0), some (vi q), some (vi t), some (vi x), some (vi z0), some (vi b), some (vi s), some (vi (z * t)), some (vi ((i : Int) + 1))]) (S' := []) k212_184 rfl rfl ?_
        refine ev_goto (t := 110) k212_187 rfl ?_
        exact ih J4 (i + 1) _ hJ4 (by omega) (by omega) (by rw [wtW, if_pos hb3, ← hz]) wq (fun a a8 => ((g4 a (by assumption)).trans (hF0 a a8)))
      · show Ev d 212 130 [some (vr 0), some (vi q), some (vi t), some (vi x), some (vi z0), some (vi b), some (vi s), some (vi z), some (vi (i : Int))] [vi 0, vi z] (SM J) Q
        refine ev_z_eq (t := 137) k212_130 rfl (by omega) (by omega) (fun _ => ?_) (fun h => absurd h (by decide))
        refine ev_s1 (L' := [some (vr 0), some (vi q), some (vi t), some (vi x), some (vi z0), some (vi b), some (vi s), some (vi z), some (vi (i : Int))]) (S' := [vi 10, vi z]) k212_137 rfl rfl ?_
        refine ev_s1 (L' := [some (vr 0), some (vi q), some (vi t), some (vi x), some (vi z0), some (vi b), some (vi s), some (vi z), some (vi (i : Int))]) (S' := [vi t, vi 10, vi z]) k212_139 rfl rfl ?_
        refine ev_s1 (L' := [some (vr 0), some (vi q), some (vi t), some (vi x), some (vi z0), some (vi b), some (vi s), some (vi z), some (vi (i : Int))]) (S' := [vi (10 - t), vi z]) k212_140 rfl rfl ?_
        refine ev_s1 (L' := [some (vr 0), some (vi q), some (vi t), some (vi x), some (vi z0), some (vi b), some (vi s), some (vi z), some (vi (i : Int))]) (S' := [vi (z * (10 - t))]) k212_141 rfl rfl ?_
        refine ev_s1 (L' := [some (vr 0), some (vi q), some (vi t), some (vi x), some (vi z0), some (vi b), some (vi s), some (vi (z * (10 - t))), some (vi (i : Int))]) (S' := []) k212_142 rfl rfl ?_
        refine ev_s1 (L' := [some (vr 0), some (vi q), some (vi t), some (vi x), some (vi z0), some (vi b), some (vi s), some (vi (z * (10 - t))), some (vi (i : Int))]) (S' := [vr 0]) k212_144 rfl rfl ?_
        refine ev_getR k212_145 (by decide) (rfl) (y_0_15) ?_
        refine ev_s1 (L' := [some (vr 0), some (vi q), some (vi t), some (vi x), some (vi z0), some (vi b), some (vi s), some (vi (z * (10 - t))), some (vi (i : Int))]) (S' := [vi 3, vr 8]) k212_148 rfl rfl ?_
        refine ev_s1 (L' := [some (vr 0), some (vi q), some (vi t), some (vi x), some (vi z0), some (vi b), some (vi s), some (vi (z * (10 - t))), some (vi (i : Int))]) (S' := [vi 5, vi 3, vr 8]) k212_149 rfl rfl ?_
        refine ev_s1 (L' := [some (vr 0), some (vi q), some (vi t), some (vi x), some (vi z0), some (vi b), some (vi s), some (vi (z * (10 - t))), some (vi (i : Int))]) (S' := [vi (i : Int), vi 5, vi 3, vr 8]) k212_150 rfl rfl ?_
        refine ev_s1 (L' := [some (vr 0), some (vi q), some (vi t), some (vi x), some (vi z0), some (vi b), some (vi s), some (vi (z * (10 - t))), some (vi (i : Int))]) (S' := [vi (5 * (i : Int)), vi 3, vr 8]) k212_152 rfl rfl ?_
        refine ev_s1 (L' := [some (vr 0), some (vi q), some (vi t), some (vi x), some (vi z0), some (vi b), some (vi s), some (vi (z * (10 - t))), some (vi (i : Int))]) (S' := [vi (3 + (5 * (i : Int))), vr 8]) k212_153 rfl rfl ?_
        refine ev_s1 (L' := [some (vr 0), some (vi q), some (vi t), some (vi x), some (vi z0), some (vi b), some (vi s), some (vi (z * (10 - t))), some (vi (i : Int))]) (S' := [vi 2, vi (3 + (5 * (i : Int))), vr 8]) k212_154 rfl rfl ?_
        refine ev_s1 (L' := [some (vr 0), some (vi q), some (vi t), some (vi x), some (vi z0), some (vi b), some (vi s), some (vi (z * (10 - t))), some (vi (i : Int))]) (S' := [vi ((3 + (5 * (i : Int))) + 2), vr 8]) k212_155 rfl rfl ?_
        refine ev_s1 (L' := [some (vr 0), some (vi q), some (vi t), some (vi x), some (vi z0), some (vi b), some (vi s), some (vi (z * (10 - t))), some (vi (i : Int))]) (S' := [vi s, vi ((3 + (5 * (i : Int))) + 2), vr 8]) k212_156 rfl rfl ?_
        refine ev_s1 (L' := [some (vr 0), some (vi q), some (vi t), some (vi x), some (vi z0), some (vi b), some (vi s), some (vi (z * (10 - t))), some (vi (i : Int))]) (S' := [vi (i : Int), vi s, vi ((3 + (5 * (i : Int))) + 2), vr 8]) k212_158 rfl rfl ?_
        refine ev_static (a := [vi s, vi (i : Int)]) (S' := [vi ((3 + (5 * (i : Int))) + 2), vr 8]) k212_160 rfl (Nat.le_of_ble_eq_true rfl) (by omega) ?_
        refine m_has (s := s) (i := (i : Int)) (by omega) (by omega) (fun q => absurd (q.symm.trans hb3) (by decide)) (fun _ => ?_)
        show Ev d 212 163 [some (vr 0), some (vi q), some (vi t), some (vi x), some (vi z0), some (vi b), some (vi s), some (vi (z * (10 - t))), some (vi (i : Int))] [vi 0, vi ((3 + (5 * (i : Int))) + 2), vr 8] (SM J) Q
        refine ev_z_eq (t := 170) k212_163 rfl (by omega) (by omega) (fun _ => ?_) (fun h => absurd h (by decide))
        refine ev_s1 (L' := [some (vr 0), some (vi q), some (vi t), some (vi x), some (vi z0), some (vi b), some (vi s), some (vi (z * (10 - t))), some (vi (i : Int))]) (S' := [vr 0, vi ((3 + (5 * (i : Int))) + 2), vr 8]) k212_170 rfl rfl ?_
        refine ev_getR k212_171 (by decide) (rfl) (y_0_13) ?_
        refine ev_s1 (L' := [some (vr 0), some (vi q), some (vi t), some (vi x), some (vi z0), some (vi b), some (vi s), some (vi (z * (10 - t))), some (vi (i : Int))]) (S' := [vi 3, vr 6, vi ((3 + (5 * (i : Int))) + 2), vr 8]) k212_174 rfl rfl ?_
        refine ev_s1 (L' := [some (vr 0), some (vi q), some (vi t), some (vi x), some (vi z0), some (vi b), some (vi s), some (vi (z * (10 - t))), some (vi (i : Int))]) (S' := [vi 5, vi 3, vr 6, vi ((3 + (5 * (i : Int))) + 2), vr 8]) k212_175 rfl rfl ?_
        refine ev_s1 (L' := [some (vr 0), some (vi q), some (vi t), some (vi x), some (vi z0), some (vi b), some (vi s), some (vi (z * (10 - t))), some (vi (i : Int))]) (S' := [vi (i : Int), vi 5, vi 3, vr 6, vi ((3 + (5 * (i : Int))) + 2), vr 8]) k212_176 rfl rfl ?_
        refine ev_s1 (L' := [some (vr 0), some (vi q), some (vi t), some (vi x), some (vi z0), some (vi b), some (vi s), some (vi (z * (10 - t))), some (vi (i : Int))]) (S' := [vi (5 * (i : Int)), vi 3, vr 6, vi ((3 + (5 * (i : Int))) + 2), vr 8]) k212_178 rfl rfl ?_
        refine ev_s1 (L' := [some (vr 0), some (vi q), some (vi t), some (vi x), some (vi z0), some (vi b), some (vi s), some (vi (z * (10 - t))), some (vi (i : Int))]) (S' := [vi (3 + (5 * (i : Int))), vr 6, vi ((3 + (5 * (i : Int))) + 2), vr 8]) k212_179 rfl rfl ?_
        refine ev_s1 (L' := [some (vr 0), some (vi q), some (vi t), some (vi x), some (vi z0), some (vi b), some (vi s), some (vi (z * (10 - t))), some (vi (i : Int))]) (S' := [vi 2, vi (3 + (5 * (i : Int))), vr 6, vi ((3 + (5 * (i : Int))) + 2), vr 8]) k212_180 rfl rfl ?_
        refine ev_s1 (L' := [some (vr 0), some (vi q), some (vi t), some (vi x), some (vi z0), some (vi b), some (vi s), some (vi (z * (10 - t))), some (vi (i : Int))]) (S' := [vi ((3 + (5 * (i : Int))) + 2), vr 6, vi ((3 + (5 * (i : Int))) + 2), vr 8]) k212_181 rfl rfl ?_
        refine ev_iald k212_182 (by decide) (rfl) (by omega) (by omega) ?_
        have rr5 := hJ.1 6 ((3 + (5 * (i : Int))) + 2)
        rw [hF0 6 (by decide), hw6]
        rw [hF0 6 (by decide), hw6] at rr5
        refine ev_iast k212_183 (by decide) (rfl) (by omega) (by omega) ?_
        show Ev d 212 184 [some (vr 0), some (vi q), some (vi t), some (vi x), some (vi z0), some (vi b), some (vi s), some (vi (z * (10 - t))), some (vi (i : Int))] [] (SM (up J 8 ((3 + (5 * (i : Int))) + 2) (w ((3 + (5 * (i : Int))) + 2)))) Q
        have hJ6 := rz_up hJ (k := 8) (j := (3 + (5 * (i : Int))) + 2) (z := w ((3 + (5 * (i : Int))) + 2)) (by omega) (by omega) (by omega)
        have g6 : ∀ aa, aa ≠ 8 → up J 8 ((3 + (5 * (i : Int))) + 2) (w ((3 + (5 * (i : Int))) + 2)) aa = J aa := fun aa h => upf h
        have q6 : ∀ bb, bb ≠ (3 + (5 * (i : Int))) + 2 → up J 8 ((3 + (5 * (i : Int))) + 2) (w ((3 + (5 * (i : Int))) + 2)) 8 bb = J 8 bb := fun bb h => upN (Or.inr h)
        have e6 : up J 8 ((3 + (5 * (i : Int))) + 2) (w ((3 + (5 * (i : Int))) + 2)) 8 ((3 + (5 * (i : Int))) + 2) = w ((3 + (5 * (i : Int))) + 2) := upE rfl rfl
        generalize up J 8 ((3 + (5 * (i : Int))) + 2) (w ((3 + (5 * (i : Int))) + 2)) = J6 at hJ6 g6 q6 e6 ⊢
        have wq : J6 8 = recV w s (i + 1) := by
          rw [recV, if_neg (Bool.eq_false_iff.mp hb3)]
          funext b
          by_cases q : b = 3 + 5 * (i : Int) + 2
          · rw [q, e6, rec_hi i (by omega)]
          · rw [q6 b q, hv8]
        refine ev_s1 (L' := [some (vr 0), some (vi q), some (vi t), some (vi x), some (vi z0), some (vi b), some (vi s), some (vi (z * (10 - t))), some (vi ((i : Int) + 1))]) (S' := []) k212_184 rfl rfl ?_
        refine ev_goto (t := 110) k212_187 rfl ?_
        exact ih J6 (i + 1) _ hJ6 (by omega) (by omega) (by rw [wtW, if_neg (Bool.eq_false_iff.mp hb3), ← hz]) wq (fun a a8 => ((g6 a (by assumption)).trans (hF0 a a8)))

set_option maxHeartbeats 1000000 in
theorem m_cand {d : Nat} {J : Nat → Int → Int} {Q : Option jV → jS → Prop} (hJ : RZ J) {q t x A B : Int} {gg : Nat} (x0 : 0 ≤ x) (x1 : x ≤ 1) (a0 : 0 ≤ A) (a1 : A < 2147483648) (b0 : 0 ≤ B) (b1 : B < 2147483648) (hQ : Q (some (vi ((if x = 0 then A else B) / (gg : Int)))) (SM J)) : ∀ (n : Nat) (o r : Nat) (y : Option jV), 1 ≤ o → o < 2147483648 → gst n o r → Nat.gcd o r = gg → r < 2147483648 → Ev d 212 230 [some (vr 0), some (vi q), some (vi t), some (vi x), some (vi A), some (vi B), some (vi (o : Int)), some (vi (r : Int)), y] [] (SM J) Q := by
  intro n
  induction n with
  | zero =>
    intro o r y ho ho31 hg hz hr31
    have r0 := gst_z ho hg
    refine ev_s1 (L' := [some (vr 0), some (vi q), some (vi t), some (vi x), some (vi A), some (vi B), some (vi (o : Int)), some (vi (r : Int)), y]) (S' := [vi (r : Int)]) k212_230 rfl rfl ?_
    refine ev_z_eq (t := 253) k212_232 rfl (by omega) (by omega) (fun h1 => ?_) (fun h1 => ?_)
    · refine ev_s1 (L' := [some (vr 0), some (vi q), some (vi t), some (vi x), some (vi A), some (vi B), some (vi (o : Int)), some (vi (r : Int)), y]) (S' := [vi x]) k212_253 rfl rfl ?_
      refine ev_z_ne (t := 262) k212_254 rfl (by omega) (by omega) (fun h2 => ?_) (fun h2 => ?_)
      · refine ev_s1 (L' := [some (vr 0), some (vi q), some (vi t), some (vi x), some (vi A), some (vi B), some (vi (o : Int)), some (vi (r : Int)), y]) (S' := [vi B]) k212_262 rfl rfl ?_
        refine ev_s1 (L' := [some (vr 0), some (vi q), some (vi t), some (vi x), some (vi A), some (vi B), some (vi (o : Int)), some (vi (r : Int)), y]) (S' := [vi (o : Int), vi B]) k212_264 rfl rfl ?_
        refine ev_idiv k212_266 (by omega) (by omega) (by omega) (by omega) ?_
        refine ev_ireturn k212_267 ?_
        rw [← hz, r0, Nat.gcd_zero_right, if_neg (by omega)] at hQ
        exact hQ
      · refine ev_s1 (L' := [some (vr 0), some (vi q), some (vi t), some (vi x), some (vi A), some (vi B), some (vi (o : Int)), some (vi (r : Int)), y]) (S' := [vi A]) k212_257 rfl rfl ?_
        refine ev_goto (t := 264) k212_259 rfl ?_
        refine ev_s1 (L' := [some (vr 0), some (vi q), some (vi t), some (vi x), some (vi A), some (vi B), some (vi (o : Int)), some (vi (r : Int)), y]) (S' := [vi (o : Int), vi A]) k212_264 rfl rfl ?_
        refine ev_idiv k212_266 (by omega) (by omega) (by omega) (by omega) ?_
        refine ev_ireturn k212_267 ?_
        rw [← hz, r0, Nat.gcd_zero_right, if_pos (by omega)] at hQ
        exact hQ
    · exfalso; omega
  | succ n ih =>
    intro o r y ho ho31 hg hz hr31
    refine ev_s1 (L' := [some (vr 0), some (vi q), some (vi t), some (vi x), some (vi A), some (vi B), some (vi (o : Int)), some (vi (r : Int)), y]) (S' := [vi (r : Int)]) k212_230 rfl rfl ?_
    refine ev_z_eq (t := 253) k212_232 rfl (by omega) (by omega) (fun h1 => ?_) (fun h1 => ?_)
    · refine ev_s1 (L' := [some (vr 0), some (vi q), some (vi t), some (vi x), some (vi A), some (vi B), some (vi (o : Int)), some (vi (r : Int)), y]) (S' := [vi x]) k212_253 rfl rfl ?_
      refine ev_z_ne (t := 262) k212_254 rfl (by omega) (by omega) (fun h2 => ?_) (fun h2 => ?_)
      · refine ev_s1 (L' := [some (vr 0), some (vi q), some (vi t), some (vi x), some (vi A), some (vi B), some (vi (o : Int)), some (vi (r : Int)), y]) (S' := [vi B]) k212_262 rfl rfl ?_
        refine ev_s1 (L' := [some (vr 0), some (vi q), some (vi t), some (vi x), some (vi A), some (vi B), some (vi (o : Int)), some (vi (r : Int)), y]) (S' := [vi (o : Int), vi B]) k212_264 rfl rfl ?_
        refine ev_idiv k212_266 (by omega) (by omega) (by omega) (by omega) ?_
        refine ev_ireturn k212_267 ?_
        have r0 : r = 0 := by omega
        rw [← hz, r0, Nat.gcd_zero_right, if_neg (by omega)] at hQ
        exact hQ
      · refine ev_s1 (L' := [some (vr 0), some (vi q), some (vi t), some (vi x), some (vi A), some (vi B), some (vi (o : Int)), some (vi (r : Int)), y]) (S' := [vi A]) k212_257 rfl rfl ?_
        refine ev_goto (t := 264) k212_259 rfl ?_
        refine ev_s1 (L' := [some (vr 0), some (vi q), some (vi t), some (vi x), some (vi A), some (vi B), some (vi (o : Int)), some (vi (r : Int)), y]) (S' := [vi (o : Int), vi A]) k212_264 rfl rfl ?_
        refine ev_idiv k212_266 (by omega) (by omega) (by omega) (by omega) ?_
        refine ev_ireturn k212_267 ?_
        have r0 : r = 0 := by omega
        rw [← hz, r0, Nat.gcd_zero_right, if_pos (by omega)] at hQ
        exact hQ
    · refine ev_s1 (L' := [some (vr 0), some (vi q), some (vi t), some (vi x), some (vi A), some (vi B), some (vi (o : Int)), some (vi (r : Int)), y]) (S' := [vi (o : Int)]) k212_235 rfl rfl ?_
      refine ev_s1 (L' := [some (vr 0), some (vi q), some (vi t), some (vi x), some (vi A), some (vi B), some (vi (o : Int)), some (vi (r : Int)), y]) (S' := [vi (r : Int), vi (o : Int)]) k212_237 rfl rfl ?_
      refine ev_irem k212_239 (by omega) (by omega) (by omega) (by omega) ?_
      refine ev_s1 (L' := [some (vr 0), some (vi q), some (vi t), some (vi x), some (vi A), some (vi B), some (vi (o : Int)), some (vi (r : Int)), some (vi ((o : Int) % (r : Int)))]) (S' := []) k212_240 rfl rfl ?_
      refine ev_s1 (L' := [some (vr 0), some (vi q), some (vi t), some (vi x), some (vi A), some (vi B), some (vi (o : Int)), some (vi (r : Int)), some (vi ((o : Int) % (r : Int)))]) (S' := [vi (r : Int)]) k212_242 rfl rfl ?_
      refine ev_s1 (L' := [some (vr 0), some (vi q), some (vi t), some (vi x), some (vi A), some (vi B), some (vi (r : Int)), some (vi (r : Int)), some (vi ((o : Int) % (r : Int)))]) (S' := []) k212_244 rfl rfl ?_
      refine ev_s1 (L' := [some (vr 0), some (vi q), some (vi t), some (vi x), some (vi A), some (vi B), some (vi (r : Int)), some (vi (r : Int)), some (vi ((o : Int) % (r : Int)))]) (S' := [vi ((o : Int) % (r : Int))]) k212_246 rfl rfl ?_
      refine ev_s1 (L' := [some (vr 0), some (vi q), some (vi t), some (vi x), some (vi A), some (vi B), some (vi (r : Int)), some (vi ((o : Int) % (r : Int))), some (vi ((o : Int) % (r : Int)))]) (S' := []) k212_248 rfl rfl ?_
      refine ev_goto (t := 230) k212_250 rfl ?_
      rw [show (o : Int) % (r : Int) = ((o % r : Nat) : Int) from rfl]
      have ml := Nat.mod_lt o (show 0 < r by omega)
      exact ih r (o % r) _ (by omega) (by omega) (gst_s (by omega) hg) (by rw [← hz]; exact gcd_step.symm) (by omega)

set_option maxHeartbeats 1000000 in
theorem m_canb {d : Nat} {K : Nat → Int → Int} {Q : Option jV → jS → Prop} {w : Int → Int} {q t x : Int} (hw : OKW w) (hw6 : K 6 = w) (qa : 0 ≤ q) (qb : q ≤ 40) (t0 : 0 ≤ t) (t1 : t ≤ 10) (x0 : 0 ≤ x) (x1 : x ≤ 1) (hd : 5 ≤ d) {b : Int} (hb : b = pwW 10 (w 1).toNat) (b0 : 1 ≤ b) (b1 : b ≤ 100000) (hQ : ∀ J', RZ J' → (∀ a, a ≠ 8 → J' a = K a) → Q (some (vi (chaW w q t x))) (SM J')) : ∀ (n : Nat) (J : Nat → Int → Int) (i : Nat) (z : Int) (y1 y2 : Option jV), RZ J → (setN w : Int) - i < n → i ≤ setN w → z = sumF (fun s => if q ≤ rpW w s then wtW s t (w 1).toNat else 0) i → (∀ a, a ≠ 8 → J a = K a) → Ev d 212 78 [some (vr 0), some (vi q), some (vi t), some (vi x), some (vi z), some (vi b), some (vi (i : Int)), y1, y2] [] (SM J) Q := by
  intro n
  induction n with
  | zero =>
    intro J i z y1 y2 hJ hi hi2 hz hF0
    exfalso; omega
  | succ n ih =>
    intro J i z y1 y2 hJ hi hi2 hz hF0
    have w1 := hw.2.1
    have w2 := hw.2.2.1
    have sn := setN_le w1.2
    have zr := abo_rng (w := w) (q := q) w1.2 t0 t1 i
    rw [← hz] at zr
    refine ev_s1 (L' := [some (vr 0), some (vi q), some (vi t), some (vi x), some (vi z), some (vi b), some (vi (i : Int)), y1, y2]) (S' := [vi (i : Int)]) k212_78 rfl rfl ?_
    refine ev_s1 (L' := [some (vr 0), some (vi q), some (vi t), some (vi x), some (vi z), some (vi b), some (vi (i : Int)), y1, y2]) (S' := [vi 1, vi (i : Int)]) k212_80 rfl rfl ?_
    refine ev_s1 (L' := [some (vr 0), some (vi q), some (vi t), some (vi x), some (vi z), some (vi b), some (vi (i : Int)), y1, y2]) (S' := [vr 0, vi 1, vi (i : Int)]) k212_81 rfl rfl ?_
    refine ev_getR k212_82 (by decide) (rfl) (y_0_13) ?_
    refine ev_s1 (L' := [some (vr 0), some (vi q), some (vi t), some (vi x), some (vi z), some (vi b), some (vi (i : Int)), y1, y2]) (S' := [vi 1, vr 6, vi 1, vi (i : Int)]) k212_85 rfl rfl ?_
    refine ev_iald k212_86 (by decide) (rfl) (by omega) (by omega) ?_
    have rr1 := hJ.1 6 1
    rw [hF0 6 (by decide), hw6]
    rw [hF0 6 (by decide), hw6] at rr1
    refine ev_ishl k212_87 (by omega) (by omega) ?_
    rw [shl_setN]
    refine ev_c_ge (t := 222) k212_88 rfl (by omega) (by omega) (by omega) (by omega) (fun h2 => ?_) (fun h2 => ?_)
    · have zn : ((z.toNat : Nat) : Int) = z := by omega
      have bn : ((b.toNat : Nat) : Int) = b := by omega
      have ml := Nat.mod_lt z.toNat (show 0 < b.toNat by omega)
      have hm : b.toNat * (z.toNat % b.toNat) ≤ 100000 * 100000 := Nat.mul_le_mul (by omega) (by omega)
      have p40 : 2 ^ 40 = 1099511627776 := by decide
      have em : z % b = ((z.toNat % b.toNat : Nat) : Int) := by rw [Int.natCast_emod, zn, bn]
      have hgg : Nat.gcd b.toNat (z.toNat % b.toNat) = Nat.gcd b.toNat (aboW w q t).toNat := by
        rw [← gcd_step, Nat.gcd_comm]
        unfold aboW
        rw [show setN w = i by omega, ← hz]
      have key := m_cand (d := d) (Q := Q) hJ (q := q) (t := t) (x := x) (A := z) (B := b) (gg := Nat.gcd b.toNat (aboW w q t).toNat) x0 x1 (by omega) (by omega) (by omega) (by omega) (by
        have := hQ J hJ hF0
        unfold chaW gcdW at this
        rw [← hb] at this
        unfold aboW at this ⊢
        rw [show setN w = i by omega, ← hz] at this ⊢
        exact this) 40 b.toNat (z.toNat % b.toNat) (some (vi (z % b))) (by omega) (by omega) ⟨fun _ => by omega, fun h => absurd h (by omega)⟩ hgg (by omega)
      rw [bn, ← em] at key
      refine ev_s1 (L' := [some (vr 0), some (vi q), some (vi t), some (vi x), some (vi z), some (vi b), some (vi (i : Int)), y1, y2]) (S' := [vi z]) k212_222 rfl rfl ?_
      refine ev_s1 (L' := [some (vr 0), some (vi q), some (vi t), some (vi x), some (vi z), some (vi b), some (vi z), y1, y2]) (S' := []) k212_224 rfl rfl ?_
      refine ev_s1 (L' := [some (vr 0), some (vi q), some (vi t), some (vi x), some (vi z), some (vi b), some (vi z), y1, y2]) (S' := [vi b]) k212_226 rfl rfl ?_
      refine ev_s1 (L' := [some (vr 0), some (vi q), some (vi t), some (vi x), some (vi z), some (vi b), some (vi z), some (vi b), y2]) (S' := []) k212_228 rfl rfl ?_
      refine ev_s1 (L' := [some (vr 0), some (vi q), some (vi t), some (vi x), some (vi z), some (vi b), some (vi z), some (vi b), y2]) (S' := [vi b]) k212_230 rfl rfl ?_
      refine ev_z_eq (t := 253) k212_232 rfl (by omega) (by omega) (fun h3 => ?_) (fun h3 => ?_)
      · exfalso; omega
      · refine ev_s1 (L' := [some (vr 0), some (vi q), some (vi t), some (vi x), some (vi z), some (vi b), some (vi z), some (vi b), y2]) (S' := [vi z]) k212_235 rfl rfl ?_
        refine ev_s1 (L' := [some (vr 0), some (vi q), some (vi t), some (vi x), some (vi z), some (vi b), some (vi z), some (vi b), y2]) (S' := [vi b, vi z]) k212_237 rfl rfl ?_
        refine ev_irem k212_239 (by omega) (by omega) (by omega) (by omega) ?_
        refine ev_s1 (L' := [some (vr 0), some (vi q), some (vi t), some (vi x), some (vi z), some (vi b), some (vi z), some (vi b), some (vi (z % b))]) (S' := []) k212_240 rfl rfl ?_
        refine ev_s1 (L' := [some (vr 0), some (vi q), some (vi t), some (vi x), some (vi z), some (vi b), some (vi z), some (vi b), some (vi (z % b))]) (S' := [vi b]) k212_242 rfl rfl ?_
        refine ev_s1 (L' := [some (vr 0), some (vi q), some (vi t), some (vi x), some (vi z), some (vi b), some (vi b), some (vi b), some (vi (z % b))]) (S' := []) k212_244 rfl rfl ?_
        refine ev_s1 (L' := [some (vr 0), some (vi q), some (vi t), some (vi x), some (vi z), some (vi b), some (vi b), some (vi b), some (vi (z % b))]) (S' := [vi (z % b)]) k212_246 rfl rfl ?_
        refine ev_s1 (L' := [some (vr 0), some (vi q), some (vi t), some (vi x), some (vi z), some (vi b), some (vi b), some (vi (z % b)), some (vi (z % b))]) (S' := []) k212_248 rfl rfl ?_
        refine ev_goto (t := 230) k212_250 rfl ?_
        exact key
    · refine ev_s1 (L' := [some (vr 0), some (vi q), some (vi t), some (vi x), some (vi z), some (vi b), some (vi (i : Int)), y1, y2]) (S' := [vi 1]) k212_91 rfl rfl ?_
      refine ev_s1 (L' := [some (vr 0), some (vi q), some (vi t), some (vi x), some (vi z), some (vi b), some (vi (i : Int)), some (vi 1), y2]) (S' := []) k212_92 rfl rfl ?_
      refine ev_s1 (L' := [some (vr 0), some (vi q), some (vi t), some (vi x), some (vi z), some (vi b), some (vi (i : Int)), some (vi 1), y2]) (S' := [vr 0]) k212_94 rfl rfl ?_
      refine ev_getR k212_95 (by decide) (rfl) (y_0_13) ?_
      refine ev_s1 (L' := [some (vr 0), some (vi q), some (vi t), some (vi x), some (vi z), some (vi b), some (vi (i : Int)), some (vi 1), y2]) (S' := [vi 0, vr 6]) k212_98 rfl rfl ?_
      refine ev_s1 (L' := [some (vr 0), some (vi q), some (vi t), some (vi x), some (vi z), some (vi b), some (vi (i : Int)), some (vi 1), y2]) (S' := [vr 0, vi 0, vr 6]) k212_99 rfl rfl ?_
      refine ev_getR k212_100 (by decide) (rfl) (y_0_15) ?_
      refine ev_s1 (L' := [some (vr 0), some (vi q), some (vi t), some (vi x), some (vi z), some (vi b), some (vi (i : Int)), some (vi 1), y2]) (S' := [vi 0, vr 8, vi 0, vr 6]) k212_103 rfl rfl ?_
      refine ev_static (a := [vr 6, vi 0, vr 8, vi 0]) (S' := []) k212_104 rfl (Nat.le_of_ble_eq_true rfl) (by omega) ?_
      refine m_copies hJ (f := 6) (t := 8) (lf := 48) (lt := 48) (a := 0) (b := 0) (by decide) ⟨by decide, rfl⟩ ⟨by decide, rfl⟩ (by omega) (by omega) (by omega) (by omega) (by omega) (by decide) (by decide) (fun J4 hJ4 w4 f4 => ?_)
      rw [cp_full hJ.2 (by decide) (by decide)] at w4
      rw [hF0 6 (by decide), hw6] at w4
      show Ev d 212 107 [some (vr 0), some (vi q), some (vi t), some (vi x), some (vi z), some (vi b), some (vi (i : Int)), some (vi 1), y2] [] (SM J4) Q
      refine ev_s1 (L' := [some (vr 0), some (vi q), some (vi t), some (vi x), some (vi z), some (vi b), some (vi (i : Int)), some (vi 1), y2]) (S' := [vi 0]) k212_107 rfl rfl ?_
      refine ev_s1 (L' := [some (vr 0), some (vi q), some (vi t), some (vi x), some (vi z), some (vi b), some (vi (i : Int)), some (vi 1), some (vi 0)]) (S' := []) k212_108 rfl rfl ?_
      refine m_canc (K := J4) (w := w) hw (by rw [f4 6 (by decide), hF0 6 (by decide), hw6]) qa qb t0 t1 x0 x1 hd (s := (i : Int)) (b := b) (z0 := z) (by omega) (by omega) (fun J0 y0 hJ0 r80 f0 => ?_) 6 J4 0 1 hJ4 (by omega) (by omega) rfl w4 (fun _ _ => rfl)
      refine ev_s1 (L' := [some (vr 0), some (vi q), some (vi t), some (vi x), some (vi z), some (vi b), some (vi (i : Int)), some (vi (wtW (i : Int) t (w 1).toNat)), some (vi y0)]) (S' := [vr 0]) k212_190 rfl rfl ?_
      refine ev_virt (a := []) (S' := []) k212_191 rfl (Nat.le_of_ble_eq_true rfl) (by decide) (rfl) (by omega) ?_
      refine m_sitDown hJ0 (u := recV w (i : Int) (w 1).toNat) (G := w 2) (by rw [r80]) (rec_ok hw _ (by omega)) (rec_lo (by decide) _) (by omega) (fun J5 hJ5 w5 f5 => ?_)
      show Ev d 212 194 [some (vr 0), some (vi q), some (vi t), some (vi x), some (vi z), some (vi b), some (vi (i : Int)), some (vi (wtW (i : Int) t (w 1).toNat)), some (vi y0)] [] (SM J5) Q
      refine ev_s1 (L' := [some (vr 0), some (vi q), some (vi t), some (vi x), some (vi z), some (vi b), some (vi (i : Int)), some (vi (wtW (i : Int) t (w 1).toNat)), some (vi y0)]) (S' := [vi z]) k212_194 rfl rfl ?_
      refine ev_s1 (L' := [some (vr 0), some (vi q), some (vi t), some (vi x), some (vi z), some (vi b), some (vi (i : Int)), some (vi (wtW (i : Int) t (w 1).toNat)), some (vi y0)]) (S' := [vr 0, vi z]) k212_196 rfl rfl ?_
      refine ev_getR k212_197 (by decide) (rfl) (y_0_15) ?_
      refine ev_static (a := [vr 8]) (S' := [vi z]) k212_200 rfl (Nat.le_of_ble_eq_true rfl) (by omega) ?_
      refine m_peace hJ5 (k := 8) (by decide) (by rw [w5]; exact (sd_ok (rec_ok (s := (i : Int)) hw (w 1).toNat (by omega)) (w 2).toNat (by rw [rec_lo (by decide)]; omega))) (by omega) (?_)
      rw [w5]
      have pr200 := pe_rng (sd_ok (rec_ok (s := (i : Int)) hw (w 1).toNat (by omega)) (w 2).toNat (by rw [rec_lo (by decide)]; omega))
      show Ev d 212 203 [some (vr 0), some (vi q), some (vi t), some (vi x), some (vi z), some (vi b), some (vi (i : Int)), some (vi (wtW (i : Int) t (w 1).toNat)), some (vi y0)] [vi (peW (sdV (recV w (i : Int) (w 1).toNat) (w 2).toNat)), vi z] (SM J5) Q
      have pe : peW (sdV (recV w (i : Int) (w 1).toNat) (w 2).toNat) = rpW w (i : Int) := rfl
      rw [pe] at pr200 ⊢
      refine ev_s1 (L' := [some (vr 0), some (vi q), some (vi t), some (vi x), some (vi z), some (vi b), some (vi (i : Int)), some (vi (wtW (i : Int) t (w 1).toNat)), some (vi y0)]) (S' := [vi q, vi (rpW w (i : Int)), vi z]) k212_203 rfl rfl ?_
      refine ev_c_lt (t := 212) k212_204 rfl (by omega) (by omega) (by omega) (by omega) (fun h6 => ?_) (fun h6 => ?_)
      · refine ev_s1 (L' := [some (vr 0), some (vi q), some (vi t), some (vi x), some (vi z), some (vi b), some (vi (i : Int)), some (vi (wtW (i : Int) t (w 1).toNat)), some (vi y0)]) (S' := [vi 0, vi z]) k212_212 rfl rfl ?_
        refine ev_s1 (L' := [some (vr 0), some (vi q), some (vi t), some (vi x), some (vi z), some (vi b), some (vi (i : Int)), some (vi (wtW (i : Int) t (w 1).toNat)), some (vi y0)]) (S' := [vi (z + 0)]) k212_213 rfl rfl ?_
        refine ev_s1 (L' := [some (vr 0), some (vi q), some (vi t), some (vi x), some (vi (z + 0)), some (vi b), some (vi (i : Int)), some (vi (wtW (i : Int) t (w 1).toNat)), some (vi y0)]) (S' := []) k212_214 rfl rfl ?_
        refine ev_s1 (L' := [some (vr 0), some (vi q), some (vi t), some (vi x), some (vi (z + 0)), some (vi b), some (vi ((i : Int) + 1)), some (vi (wtW (i : Int) t (w 1).toNat)), some (vi y0)]) (S' := []) k212_216 rfl rfl ?_
        refine ev_goto (t := 78) k212_219 rfl ?_
        exact ih J5 (i + 1) _ _ _ hJ5 (by omega) (by omega) (by rw [sumF, if_neg (show ¬ q ≤ rpW w (i : Int) by omega), ← hz]) (fun a a8 => ((f5 a (by assumption)).trans ((f0 a (by assumption)).trans ((f4 a (by assumption)).trans (hF0 a a8)))))
      · refine ev_s1 (L' := [some (vr 0), some (vi q), some (vi t), some (vi x), some (vi z), some (vi b), some (vi (i : Int)), some (vi (wtW (i : Int) t (w 1).toNat)), some (vi y0)]) (S' := [vi (wtW (i : Int) t (w 1).toNat), vi z]) k212_207 rfl rfl ?_
        refine ev_goto (t := 213) k212_209 rfl ?_
        refine ev_s1 (L' := [some (vr 0), some (vi q), some (vi t), some (vi x), some (vi z), some (vi b), some (vi (i : Int)), some (vi (wtW (i : Int) t (w 1).toNat)), some (vi y0)]) (S' := [vi (z + (wtW (i : Int) t (w 1).toNat))]) k212_213 rfl rfl ?_
        refine ev_s1 (L' := [some (vr 0), some (vi q), some (vi t), some (vi x), some (vi (z + (wtW (i : Int) t (w 1).toNat))), some (vi b), some (vi (i : Int)), some (vi (wtW (i : Int) t (w 1).toNat)), some (vi y0)]) (S' := []) k212_214 rfl rfl ?_
        refine ev_s1 (L' := [some (vr 0), some (vi q), some (vi t), some (vi x), some (vi (z + (wtW (i : Int) t (w 1).toNat))), some (vi b), some (vi ((i : Int) + 1)), some (vi (wtW (i : Int) t (w 1).toNat)), some (vi y0)]) (S' := []) k212_216 rfl rfl ?_
        refine ev_goto (t := 78) k212_219 rfl ?_
        exact ih J5 (i + 1) _ _ _ hJ5 (by omega) (by omega) (by rw [sumF, if_pos (show q ≤ rpW w (i : Int) by omega), ← hz]) (fun a a8 => ((f5 a (by assumption)).trans ((f0 a (by assumption)).trans ((f4 a (by assumption)).trans (hF0 a a8)))))
      

set_option maxHeartbeats 1000000 in
theorem m_cana {d : Nat} {J : Nat → Int → Int} {Q : Option jV → jS → Prop} (hJ : RZ J) {w : Int → Int} {q t x : Int} (hw : OKW w) (hw6 : J 6 = w) (qa : 0 ≤ q) (qb : q ≤ 40) (t0 : 0 ≤ t) (t1 : t ≤ 10) (x0 : 0 ≤ x) (x1 : x ≤ 1) (hd : 5 ≤ d) (hQ : ∀ J', RZ J' → (∀ a, a ≠ 8 → J' a = J a) → Q (some (vi (chaW w q t x))) (SM J')) : ∀ (n : Nat) (i : Nat) (b : Int), w 1 - i < n → (i : Int) ≤ w 1 → b = pwW 10 i → Ev d 212 51 [some (vr 0), some (vi q), some (vi t), some (vi x), some (vi 0), some (vi b), some (vi (i : Int)), none, none] [] (SM J) Q := by
  intro n
  induction n with
  | zero =>
    intro i b hi hi2 hb
    have w1 := hw.2.1
    exfalso; omega
  | succ n ih =>
    intro i b hi hi2 hb
    have w1 := hw.2.1
    have w2 := hw.2.2.1
    have sn := setN_le w1.2
    refine ev_s1 (L' := [some (vr 0), some (vi q), some (vi t), some (vi x), some (vi 0), some (vi b), some (vi (i : Int)), none, none]) (S' := [vi (i : Int)]) k212_51 rfl rfl ?_
    refine ev_s1 (L' := [some (vr 0), some (vi q), some (vi t), some (vi x), some (vi 0), some (vi b), some (vi (i : Int)), none, none]) (S' := [vr 0, vi (i : Int)]) k212_53 rfl rfl ?_
    refine ev_getR k212_54 (by decide) (rfl) (y_0_13) ?_
    refine ev_s1 (L' := [some (vr 0), some (vi q), some (vi t), some (vi x), some (vi 0), some (vi b), some (vi (i : Int)), none, none]) (S' := [vi 1, vr 6, vi (i : Int)]) k212_57 rfl rfl ?_
    refine ev_iald k212_58 (by decide) (rfl) (by omega) (by omega) ?_
    have rr1 := hJ.1 6 1
    rw [hw6]
    rw [hw6] at rr1
    refine ev_c_ge (t := 75) k212_59 rfl (by omega) (by omega) (by omega) (by omega) (fun h2 => ?_) (fun h2 => ?_)
    · refine ev_s1 (L' := [some (vr 0), some (vi q), some (vi t), some (vi x), some (vi 0), some (vi b), some (vi (i : Int)), none, none]) (S' := [vi 0]) k212_75 rfl rfl ?_
      refine ev_s1 (L' := [some (vr 0), some (vi q), some (vi t), some (vi x), some (vi 0), some (vi b), some (vi 0), none, none]) (S' := []) k212_76 rfl rfl ?_
      have br := pw10_rng (w 1).toNat (by omega)
      have hb2 : b = pwW 10 (w 1).toNat := by rw [hb, show i = (w 1).toNat by omega]
      exact m_canb (K := J) hw hw6 qa qb t0 t1 x0 x1 hd hb2 (by omega) (by omega) hQ 33 J 0 0 none none hJ (by omega) (by omega) rfl (fun _ _ => rfl)
    · refine ev_s1 (L' := [some (vr 0), some (vi q), some (vi t), some (vi x), some (vi 0), some (vi b), some (vi (i : Int)), none, none]) (S' := [vi b]) k212_62 rfl rfl ?_
      refine ev_s1 (L' := [some (vr 0), some (vi q), some (vi t), some (vi x), some (vi 0), some (vi b), some (vi (i : Int)), none, none]) (S' := [vi 10, vi b]) k212_64 rfl rfl ?_
      refine ev_s1 (L' := [some (vr 0), some (vi q), some (vi t), some (vi x), some (vi 0), some (vi b), some (vi (i : Int)), none, none]) (S' := [vi (b * 10)]) k212_66 rfl rfl ?_
      refine ev_s1 (L' := [some (vr 0), some (vi q), some (vi t), some (vi x), some (vi 0), some (vi (b * 10)), some (vi (i : Int)), none, none]) (S' := []) k212_67 rfl rfl ?_
      refine ev_s1 (L' := [some (vr 0), some (vi q), some (vi t), some (vi x), some (vi 0), some (vi (b * 10)), some (vi ((i : Int) + 1)), none, none]) (S' := []) k212_69 rfl rfl ?_
      refine ev_goto (t := 51) k212_72 rfl ?_
      exact ih (i + 1) _ (by omega) (by omega) (by rw [hb]; rfl)

set_option maxHeartbeats 1000000 in
theorem m_caned {d : Nat} {J : Nat → Int → Int} {Q : Option jV → jS → Prop} (hJ : RZ J) (hw : OKW (J 6)) {q t x : Int} (q0 : -2147483648 ≤ q) (q1 : q < 2147483648) (t0 : -2147483648 ≤ t) (t1 : t < 2147483648) (x0 : -2147483648 ≤ x) (x1 : x < 2147483648) (hd : 6 ≤ d) (hS : ¬ 0 < J 6 1 → Q (some (vi (-1000002))) (SM J)) (hB : 0 < J 6 1 → ¬ ((0 ≤ q ∧ q ≤ 40) ∧ (0 ≤ t ∧ t ≤ 10) ∧ (0 ≤ x ∧ x ≤ 1)) → Q (some (vi (-1000001))) (SM J)) (hQ : 0 < J 6 1 → ((0 ≤ q ∧ q ≤ 40) ∧ (0 ≤ t ∧ t ≤ 10) ∧ (0 ≤ x ∧ x ≤ 1)) → ∀ J', FM J J' → Q (some (vi (chaW (J 6) q t x))) (SM J')) : Cl d 212 [vr 0, vi q, vi t, vi x] (SM J) Q := by
  have w0 := hw.1
  have w1 := hw.2.1
  have w2 := hw.2.2.1
  refine ⟨by rw [l212]; exact Nat.le_of_ble_eq_true rfl, ?_⟩
  rw [l212]
  show Ev d 212 0 [some (vr 0), some (vi q), some (vi t), some (vi x), none, none, none, none, none] [] (SM J) Q
  refine ev_s1 (L' := [some (vr 0), some (vi q), some (vi t), some (vi x), none, none, none, none, none]) (S' := [vr 0]) k212_0 rfl rfl ?_
  refine ev_virt (a := []) (S' := []) k212_1 rfl (Nat.le_of_ble_eq_true rfl) (by decide) (rfl) (by omega) ?_
  refine m_isRoom hJ (fun h1 => ?_) (fun h1 => ?_)
  · show Ev d 212 4 [some (vr 0), some (vi q), some (vi t), some (vi x), none, none, none, none, none] [vi 1] (SM J) Q
    refine ev_z_ne (t := 10) k212_4 rfl (by omega) (by omega) (fun _ => ?_) (fun h => absurd h (by decide))
    refine ev_s1 (L' := [some (vr 0), some (vi q), some (vi t), some (vi x), none, none, none, none, none]) (S' := [vi q]) k212_10 rfl rfl ?_
    refine ev_s1 (L' := [some (vr 0), some (vi q), some (vi t), some (vi x), none, none, none, none, none]) (S' := [vi 0, vi q]) k212_11 rfl rfl ?_
    refine ev_s1 (L' := [some (vr 0), some (vi q), some (vi t), some (vi x), none, none, none, none, none]) (S' := [vi 40, vi 0, vi q]) k212_12 rfl rfl ?_
    refine ev_static (a := [vi q, vi 0, vi 40]) (S' := []) k212_14 rfl (Nat.le_of_ble_eq_true rfl) (by omega) ?_
    refine m_in (v := q) (lo := 0) (hi := 40) (by omega) (by omega) (by omega) (by omega) (by omega) (by omega) (fun h2 => ?_) (fun h2 => ?_)
    · show Ev d 212 17 [some (vr 0), some (vi q), some (vi t), some (vi x), none, none, none, none, none] [vi 1] (SM J) Q
      refine ev_z_eq (t := 39) k212_17 rfl (by omega) (by omega) (fun h => absurd h (by decide)) (fun _ => ?_)
      refine ev_s1 (L' := [some (vr 0), some (vi q), some (vi t), some (vi x), none, none, none, none, none]) (S' := [vi t]) k212_20 rfl rfl ?_
      refine ev_s1 (L' := [some (vr 0), some (vi q), some (vi t), some (vi x), none, none, none, none, none]) (S' := [vi 0, vi t]) k212_21 rfl rfl ?_
      refine ev_s1 (L' := [some (vr 0), some (vi q), some (vi t), some (vi x), none, none, none, none, none]) (S' := [vi 10, vi 0, vi t]) k212_22 rfl rfl ?_
      refine ev_static (a := [vi t, vi 0, vi 10]) (S' := []) k212_24 rfl (Nat.le_of_ble_eq_true rfl) (by omega) ?_
      refine m_in (v := t) (lo := 0) (hi := 10) (by omega) (by omega) (by omega) (by omega) (by omega) (by omega) (fun h3 => ?_) (fun h3 => ?_)
      · show Ev d 212 27 [some (vr 0), some (vi q), some (vi t), some (vi x), none, none, none, none, none] [vi 1] (SM J) Q
        refine ev_z_eq (t := 39) k212_27 rfl (by omega) (by omega) (fun h => absurd h (by decide)) (fun _ => ?_)
        refine ev_s1 (L' := [some (vr 0), some (vi q), some (vi t), some (vi x), none, none, none, none, none]) (S' := [vi x]) k212_30 rfl rfl ?_
        refine ev_s1 (L' := [some (vr 0), some (vi q), some (vi t), some (vi x), none, none, none, none, none]) (S' := [vi 0, vi x]) k212_31 rfl rfl ?_
        refine ev_s1 (L' := [some (vr 0), some (vi q), some (vi t), some (vi x), none, none, none, none, none]) (S' := [vi 1, vi 0, vi x]) k212_32 rfl rfl ?_
        refine ev_static (a := [vi x, vi 0, vi 1]) (S' := []) k212_33 rfl (Nat.le_of_ble_eq_true rfl) (by omega) ?_
        refine m_in (v := x) (lo := 0) (hi := 1) (by omega) (by omega) (by omega) (by omega) (by omega) (by omega) (fun h4 => ?_) (fun h4 => ?_)
        · show Ev d 212 36 [some (vr 0), some (vi q), some (vi t), some (vi x), none, none, none, none, none] [vi 1] (SM J) Q
          refine ev_z_ne (t := 42) k212_36 rfl (by omega) (by omega) (fun _ => ?_) (fun h => absurd h (by decide))
          refine ev_s1 (L' := [some (vr 0), some (vi q), some (vi t), some (vi x), none, none, none, none, none]) (S' := [vi 0]) k212_42 rfl rfl ?_
          refine ev_s1 (L' := [some (vr 0), some (vi q), some (vi t), some (vi x), some (vi 0), none, none, none, none]) (S' := []) k212_43 rfl rfl ?_
          refine ev_s1 (L' := [some (vr 0), some (vi q), some (vi t), some (vi x), some (vi 0), none, none, none, none]) (S' := [vi 1]) k212_45 rfl rfl ?_
          refine ev_s1 (L' := [some (vr 0), some (vi q), some (vi t), some (vi x), some (vi 0), some (vi 1), none, none, none]) (S' := []) k212_46 rfl rfl ?_
          refine ev_s1 (L' := [some (vr 0), some (vi q), some (vi t), some (vi x), some (vi 0), some (vi 1), none, none, none]) (S' := [vi 0]) k212_48 rfl rfl ?_
          refine ev_s1 (L' := [some (vr 0), some (vi q), some (vi t), some (vi x), some (vi 0), some (vi 1), some (vi 0), none, none]) (S' := []) k212_49 rfl rfl ?_
          exact m_cana hJ (w := J 6) hw rfl (by omega) (by omega) (by omega) (by omega) (by omega) (by omega) (by omega) (fun J' hJ' hf => hQ (by omega) (by omega) J' ⟨hJ', fun a a4 a7 a8 a12 a13 => hf a a8⟩) 6 0 1 (by omega) (by omega) rfl
        · show Ev d 212 36 [some (vr 0), some (vi q), some (vi t), some (vi x), none, none, none, none, none] [vi 0] (SM J) Q
          refine ev_z_ne (t := 42) k212_36 rfl (by omega) (by omega) (fun h => absurd h (by decide)) (fun _ => ?_)
          refine ev_ldc k212_39 ?_
          refine ev_ireturn k212_41 ?_
          exact hB (by omega) (by omega)
      · show Ev d 212 27 [some (vr 0), some (vi q), some (vi t), some (vi x), none, none, none, none, none] [vi 0] (SM J) Q
        refine ev_z_eq (t := 39) k212_27 rfl (by omega) (by omega) (fun _ => ?_) (fun h => absurd h (by decide))
        refine ev_ldc k212_39 ?_
        refine ev_ireturn k212_41 ?_
        exact hB (by omega) (by omega)
    · show Ev d 212 17 [some (vr 0), some (vi q), some (vi t), some (vi x), none, none, none, none, none] [vi 0] (SM J) Q
      refine ev_z_eq (t := 39) k212_17 rfl (by omega) (by omega) (fun _ => ?_) (fun h => absurd h (by decide))
      refine ev_ldc k212_39 ?_
      refine ev_ireturn k212_41 ?_
      exact hB (by omega) (by omega)
  · show Ev d 212 4 [some (vr 0), some (vi q), some (vi t), some (vi x), none, none, none, none, none] [vi 0] (SM J) Q
    refine ev_z_ne (t := 10) k212_4 rfl (by omega) (by omega) (fun h => absurd h (by decide)) (fun _ => ?_)
    refine ev_ldc k212_7 ?_
    refine ev_ireturn k212_9 ?_
    exact hS (by omega)

set_option maxHeartbeats 1000000 in
theorem m_war3 {d : Nat} {K : Nat → Int → Int} {Q : Option jV → jS → Prop} {w : Int → Int} {g c b k : Int} (hw : OKW w) (hw6 : K 6 = w) (g0 : 0 ≤ g) (g1 : g < w 2) (c0 : 0 ≤ c) (c1 : c < w 1) (b0 : 0 ≤ b) (b1 : b ≤ 9) (k0 : -1 ≤ k) (k1 : k ≤ 2) (hd : 4 ≤ d) {s : Nat} {dg : Nat → Int} (s3 : s ≤ 3) (dr : ∀ j, 0 ≤ dg j ∧ dg j < w 2) (hl : ∀ j : Nat, j < s → K 12 j = dg j) (hE : ∀ (J' : Nat → Int → Int) (y : Int), RZ J' → J' 8 = vD w c dg s → (∀ a, a ≠ 8 → J' a = K a) → Ev d 204 124 [some (vr 0), some (vi g), some (vi c), some (vi b), some (vi k), some (vi (s : Int)), some (vi 1), some (vi y)] [] (SM J') Q) : ∀ (n : Nat) (J : Nat → Int → Int) (j : Nat), RZ J → (s : Int) - j < n → j ≤ s → J 8 = vD w c dg j → (∀ a, a ≠ 8 → J a = K a) → Ev d 204 95 [some (vr 0), some (vi g), some (vi c), some (vi b), some (vi k), some (vi (s : Int)), some (vi 1), some (vi (j : Int))] [] (SM J) Q := by
  intro n
  induction n with
  | zero =>
    intro J j hJ hj hj2 hv8 hF0
    exfalso; omega
  | succ n ih =>
    intro J j hJ hj hj2 hv8 hF0
    have w1 := hw.2.1
    have w2 := hw.2.2.1
    have go := (hw.2.2.2.2.1 g g0 g1).1
    have hg := vd_gs (w := w) (dg := dg) c0 (show c < 5 by omega) j
    have hv := vd_ok hw c0 c1 dr j
    have drj := dr j
    refine ev_s1 (L' := [some (vr 0), some (vi g), some (vi c), some (vi b), some (vi k), some (vi (s : Int)), some (vi 1), some (vi (j : Int))]) (S' := [vi (j : Int)]) k204_95 rfl rfl ?_
    refine ev_s1 (L' := [some (vr 0), some (vi g), some (vi c), some (vi b), some (vi k), some (vi (s : Int)), some (vi 1), some (vi (j : Int))]) (S' := [vi (s : Int), vi (j : Int)]) k204_97 rfl rfl ?_
    refine ev_c_ge (t := 124) k204_99 rfl (by omega) (by omega) (by omega) (by omega) (fun h1 => ?_) (fun h1 => ?_)
    · exact hE _ _ hJ (by rw [hv8, show j = s by omega]) hF0
    · refine ev_s1 (L' := [some (vr 0), some (vi g), some (vi c), some (vi b), some (vi k), some (vi (s : Int)), some (vi 1), some (vi (j : Int))]) (S' := [vr 0]) k204_102 rfl rfl ?_
      refine ev_getR k204_103 (by decide) (rfl) (y_0_15) ?_
      refine ev_s1 (L' := [some (vr 0), some (vi g), some (vi c), some (vi b), some (vi k), some (vi (s : Int)), some (vi 1), some (vi (j : Int))]) (S' := [vr 0, vr 8]) k204_106 rfl rfl ?_
      refine ev_getR k204_107 (by decide) (rfl) (y_0_20) ?_
      refine ev_s1 (L' := [some (vr 0), some (vi g), some (vi c), some (vi b), some (vi k), some (vi (s : Int)), some (vi 1), some (vi (j : Int))]) (S' := [vi (j : Int), vr 12, vr 8]) k204_110 rfl rfl ?_
      refine ev_iald k204_112 (by decide) (rfl) (by omega) (by omega) ?_
      have rr2 := hJ.1 12 (j : Int)
      rw [hF0 12 (by decide), hl j (by omega)]
      rw [hF0 12 (by decide), hl j (by omega)] at rr2
      refine ev_s1 (L' := [some (vr 0), some (vi g), some (vi c), some (vi b), some (vi k), some (vi (s : Int)), some (vi 1), some (vi (j : Int))]) (S' := [vi c, vi (dg j), vr 8]) k204_113 rfl rfl ?_
      refine ev_static (a := [vr 8, vi (dg j), vi c]) (S' := []) k204_114 rfl (Nat.le_of_ble_eq_true rfl) (by omega) ?_
      refine m_sits hJ (k := 8) (by decide) (g := dg j) (c := c) (by omega) (by omega) (by omega) (by omega) (by rw [hv8]; exact hv) (by rw [hv8]; exact (show 0 ≤ vD w c dg j (28 + 4 * dg j) ∧ vD w c dg j (28 + 4 * dg j) ≤ 9 by rw [(hg (dg j) (dr j).1 (dr j).2).1]; exact (hw.2.2.2.2.1 (dg j) (dr j).1 (dr j).2).1)) (by rw [hv8]; exact (show 1 ≤ vD w c dg j (28 + 4 * dg j + 1) ∧ vD w c dg j (28 + 4 * dg j + 1) ≤ 9 by rw [(hg (dg j) (dr j).1 (dr j).2).2]; exact (hw.2.2.2.2.1 (dg j) (dr j).1 (dr j).2).2.1)) (by omega) (fun J3 hJ3 w3 f3 => ?_)
      rw [hv8]
      rw [hv8] at w3
      have bo114 := bear_okc (o := (vD w c dg j) (28 + 4 * (dg j))) hv (show 0 ≤ vD w c dg j (28 + 4 * dg j) ∧ vD w c dg j (28 + 4 * dg j) ≤ 9 by rw [(hg (dg j) (dr j).1 (dr j).2).1]; exact (hw.2.2.2.2.1 (dg j) (dr j).1 (dr j).2).1).1 (show 0 ≤ vD w c dg j (28 + 4 * dg j) ∧ vD w c dg j (28 + 4 * dg j) ≤ 9 by rw [(hg (dg j) (dr j).1 (dr j).2).1]; exact (hw.2.2.2.2.1 (dg j) (dr j).1 (dr j).2).1).2
      show Ev d 204 117 [some (vr 0), some (vi g), some (vi c), some (vi b), some (vi k), some (vi (s : Int)), some (vi 1), some (vi (j : Int))] [vi (bearW (vD w c dg j) c ((vD w c dg j) (28 + 4 * (dg j))))] (SM J3) Q
      refine ev_s1 (L' := [some (vr 0), some (vi g), some (vi c), some (vi b), some (vi k), some (vi (s : Int)), some (vi 1), some (vi (j : Int))]) (S' := []) k204_117 rfl rfl ?_
      refine ev_s1 (L' := [some (vr 0), some (vi g), some (vi c), some (vi b), some (vi k), some (vi (s : Int)), some (vi 1), some (vi ((j : Int) + 1))]) (S' := []) k204_118 rfl rfl ?_
      refine ev_goto (t := 95) k204_121 rfl ?_
      exact ih J3 (j + 1) hJ3 (by omega) (by omega) w3 (fun a a8 => ((f3 a (by assumption)).trans (hF0 a a8)))

set_option maxHeartbeats 1000000 in
theorem m_war2 {d : Nat} {K : Nat → Int → Int} {Q : Option jV → jS → Prop} {w : Int → Int} {g c b k : Int} (hw : OKW w) (hw6 : K 6 = w) (g0 : 0 ≤ g) (g1 : g < w 2) (c0 : 0 ≤ c) (c1 : c < w 1) (b0 : 0 ≤ b) (b1 : b ≤ 9) (k0 : -1 ≤ k) (k1 : k ≤ 2) (hd : 4 ≤ d) (hQ : ∀ J', RZ J' → (∀ a, a ≠ 8 → a ≠ 12 → J' a = K a) → Q (some (vi (warA w g c b k))) (SM J')) {s : Nat} (s3 : s ≤ 3) (hR : warR w g c b 4 0 = warR w g c b (4 - s) s) (hE : ∀ (J' : Nat → Int → Int) (m1 : Int) (x : Option jV), RZ J' → (∀ j : Nat, (j : Int) < pwW (w 2) s → hitB w g c b s (j : Int) = false) → (∀ a, a ≠ 8 → a ≠ 12 → J' a = K a) → Ev d 204 195 [some (vr 0), some (vi g), some (vi c), some (vi b), some (vi k), some (vi (s : Int)), some (vi m1), x] [] (SM J') Q) : ∀ (n : Nat) (J : Nat → Int → Int) (y : Nat) (x : Option jV), RZ J → pwW (w 2) s - (y : Int) < n → restW (w 2) (y : Int) s = 0 → (∀ j : Nat, j < s → J 12 j = dgW (w 2) s (y : Int) j) → (∀ j : Nat, j < y → hitB w g c b s (j : Int) = false) → (∀ a, a ≠ 8 → a ≠ 12 → J a = K a) → Ev d 204 74 [some (vr 0), some (vi g), some (vi c), some (vi b), some (vi k), some (vi (s : Int)), some (vi 1), x] [] (SM J) Q := by
  intro n
  induction n with
  | zero =>
    intro J y x hJ hy hz hl ha hF0
    have := (rest_zero (show 1 ≤ w 2 by omega) (show (0 : Int) ≤ (y : Int) by omega) s).mp hz
    exfalso; omega
  | succ n ih =>
    intro J y x hJ hy hz hl ha hF0
    have w1 := hw.2.1
    have w2 := hw.2.2.1
    have go := (hw.2.2.2.2.1 g g0 g1).1
    refine ev_s1 (L' := [some (vr 0), some (vi g), some (vi c), some (vi b), some (vi k), some (vi (s : Int)), some (vi 1), x]) (S' := [vi 1]) k204_74 rfl rfl ?_
    refine ev_z_eq (t := 195) k204_76 rfl (by omega) (by omega) (fun h => absurd h (by decide)) (fun _ => ?_)
    refine ev_s1 (L' := [some (vr 0), some (vi g), some (vi c), some (vi b), some (vi k), some (vi (s : Int)), some (vi 1), x]) (S' := [vr 0]) k204_79 rfl rfl ?_
    refine ev_getR k204_80 (by decide) (rfl) (y_0_13) ?_
    refine ev_s1 (L' := [some (vr 0), some (vi g), some (vi c), some (vi b), some (vi k), some (vi (s : Int)), some (vi 1), x]) (S' := [vi 0, vr 6]) k204_83 rfl rfl ?_
    refine ev_s1 (L' := [some (vr 0), some (vi g), some (vi c), some (vi b), some (vi k), some (vi (s : Int)), some (vi 1), x]) (S' := [vr 0, vi 0, vr 6]) k204_84 rfl rfl ?_
    refine ev_getR k204_85 (by decide) (rfl) (y_0_15) ?_
    refine ev_s1 (L' := [some (vr 0), some (vi g), some (vi c), some (vi b), some (vi k), some (vi (s : Int)), some (vi 1), x]) (S' := [vi 0, vr 8, vi 0, vr 6]) k204_88 rfl rfl ?_
    refine ev_static (a := [vr 6, vi 0, vr 8, vi 0]) (S' := []) k204_89 rfl (Nat.le_of_ble_eq_true rfl) (by omega) ?_
    refine m_copies hJ (f := 6) (t := 8) (lf := 48) (lt := 48) (a := 0) (b := 0) (by decide) ⟨by decide, rfl⟩ ⟨by decide, rfl⟩ (by omega) (by omega) (by omega) (by omega) (by omega) (by decide) (by decide) (fun J1 hJ1 w1 f1 => ?_)
    rw [cp_full hJ.2 (by decide) (by decide)] at w1
    rw [hF0 6 (by decide) (by decide), hw6] at w1
    show Ev d 204 92 [some (vr 0), some (vi g), some (vi c), some (vi b), some (vi k), some (vi (s : Int)), some (vi 1), x] [] (SM J1) Q
    refine ev_s1 (L' := [some (vr 0), some (vi g), some (vi c), some (vi b), some (vi k), some (vi (s : Int)), some (vi 1), x]) (S' := [vi 0]) k204_92 rfl rfl ?_
    refine ev_s1 (L' := [some (vr 0), some (vi g), some (vi c), some (vi b), some (vi k), some (vi (s : Int)), some (vi 1), some (vi 0)]) (S' := []) k204_93 rfl rfl ?_
    refine m_war3 (K := J1) (w := w) hw (by rw [f1 6 (by decide), hF0 6 (by decide) (by decide), hw6]) g0 g1 c0 c1 b0 b1 k0 k1 hd (s := s) (dg := dgW (w 2) s (y : Int)) s3 (fun j => dg_rng (by omega)) (fun j hj => by rw [f1 12 (by decide)]; exact hl j hj) (fun J0 y0 hJ0 v80 f0 => ?_) 5 J1 0 hJ1 (by omega) (by omega) w1 (fun _ _ => rfl)
    refine ev_s1 (L' := [some (vr 0), some (vi g), some (vi c), some (vi b), some (vi k), some (vi (s : Int)), some (vi 1), some (vi y0)]) (S' := [vr 0]) k204_124 rfl rfl ?_
    refine ev_getR k204_125 (by decide) (rfl) (y_0_15) ?_
    refine ev_s1 (L' := [some (vr 0), some (vi g), some (vi c), some (vi b), some (vi k), some (vi (s : Int)), some (vi 1), some (vi y0)]) (S' := [vi c, vr 8]) k204_128 rfl rfl ?_
    refine ev_s1 (L' := [some (vr 0), some (vi g), some (vi c), some (vi b), some (vi k), some (vi (s : Int)), some (vi 1), some (vi y0)]) (S' := [vr 0, vi c, vr 8]) k204_129 rfl rfl ?_
    refine ev_getR k204_130 (by decide) (rfl) (y_0_13) ?_
    refine ev_s1 (L' := [some (vr 0), some (vi g), some (vi c), some (vi b), some (vi k), some (vi (s : Int)), some (vi 1), some (vi y0)]) (S' := [vi 28, vr 6, vi c, vr 8]) k204_133 rfl rfl ?_
    refine ev_s1 (L' := [some (vr 0), some (vi g), some (vi c), some (vi b), some (vi k), some (vi (s : Int)), some (vi 1), some (vi y0)]) (S' := [vi 4, vi 28, vr 6, vi c, vr 8]) k204_135 rfl rfl ?_
    refine ev_s1 (L' := [some (vr 0), some (vi g), some (vi c), some (vi b), some (vi k), some (vi (s : Int)), some (vi 1), some (vi y0)]) (S' := [vi g, vi 4, vi 28, vr 6, vi c, vr 8]) k204_136 rfl rfl ?_
    refine ev_s1 (L' := [some (vr 0), some (vi g), some (vi c), some (vi b), some (vi k), some (vi (s : Int)), some (vi 1), some (vi y0)]) (S' := [vi (4 * g), vi 28, vr 6, vi c, vr 8]) k204_137 rfl rfl ?_
    refine ev_s1 (L' := [some (vr 0), some (vi g), some (vi c), some (vi b), some (vi k), some (vi (s : Int)), some (vi 1), some (vi y0)]) (S' := [vi (28 + (4 * g)), vr 6, vi c, vr 8]) k204_138 rfl rfl ?_
    refine ev_iald k204_139 (by decide) (rfl) (by omega) (by omega) ?_
    have rr2 := hJ0.1 6 (28 + (4 * g))
    rw [f0 6 (by decide), f1 6 (by decide), hF0 6 (by decide) (by decide), hw6]
    rw [f0 6 (by decide), f1 6 (by decide), hF0 6 (by decide) (by decide), hw6] at rr2
    refine ev_static (a := [vr 8, vi c, vi (w (28 + (4 * g)))]) (S' := []) k204_140 rfl (Nat.le_of_ble_eq_true rfl) (by omega) ?_
    refine m_bearing hJ0 (k := 8) (by decide) (c := c) (o := w (28 + (4 * g))) (by omega) (by omega) (by rw [v80]; exact (vd_ok (dg := dgW (w 2) s (y : Int)) hw c0 c1 (fun j => dg_rng (by omega)) s)) (by omega) (by omega) (by omega) (?_)
    rw [v80]
    have bo140 := bear_okc (o := w (28 + (4 * g))) (vd_ok (dg := dgW (w 2) s (y : Int)) hw c0 c1 (fun j => dg_rng (by omega)) s) (by omega) (by omega)
    show Ev d 204 143 [some (vr 0), some (vi g), some (vi c), some (vi b), some (vi k), some (vi (s : Int)), some (vi 1), some (vi y0)] [vi (bearW (vD w c (dgW (w 2) s (y : Int)) s) c (w (28 + (4 * g))))] (SM J0) Q
    refine ev_s1 (L' := [some (vr 0), some (vi g), some (vi c), some (vi b), some (vi k), some (vi (s : Int)), some (vi 1), some (vi y0)]) (S' := [vi b, vi (bearW (vD w c (dgW (w 2) s (y : Int)) s) c (w (28 + (4 * g))))]) k204_143 rfl rfl ?_
    refine ev_c_ne (t := 178) k204_144 rfl (by omega) (by omega) (by omega) (by omega) (fun h3 => ?_) (fun h3 => ?_)
    · refine ev_s1 (L' := [some (vr 0), some (vi g), some (vi c), some (vi b), some (vi k), some (vi (s : Int)), some (vi 1), some (vi y0)]) (S' := [vr 0]) k204_178 rfl rfl ?_
      refine ev_s1 (L' := [some (vr 0), some (vi g), some (vi c), some (vi b), some (vi k), some (vi (s : Int)), some (vi 1), some (vi y0)]) (S' := [vi (s : Int), vr 0]) k204_179 rfl rfl ?_
      refine ev_s1 (L' := [some (vr 0), some (vi g), some (vi c), some (vi b), some (vi k), some (vi (s : Int)), some (vi 1), some (vi y0)]) (S' := [vr 0, vi (s : Int), vr 0]) k204_181 rfl rfl ?_
      refine ev_getR k204_182 (by decide) (rfl) (y_0_13) ?_
      refine ev_s1 (L' := [some (vr 0), some (vi g), some (vi c), some (vi b), some (vi k), some (vi (s : Int)), some (vi 1), some (vi y0)]) (S' := [vi 2, vr 6, vi (s : Int), vr 0]) k204_185 rfl rfl ?_
      refine ev_iald k204_186 (by decide) (rfl) (by omega) (by omega) ?_
      have rr4 := hJ0.1 6 2
      rw [f0 6 (by decide), f1 6 (by decide), hF0 6 (by decide) (by decide), hw6]
      rw [f0 6 (by decide), f1 6 (by decide), hF0 6 (by decide) (by decide), hw6] at rr4
      refine ev_virt (a := [vi (s : Int), vi (w 2)]) (S' := []) k204_187 rfl (Nat.le_of_ble_eq_true rfl) (by decide) (rfl) (by omega) ?_
      refine m_counts hJ0 (G := w 2) (t := (y : Int)) (m := s) (by omega) (by omega) (by omega) (by omega) hz (fun j hj => by rw [f0 12 (by decide), f1 12 (by decide)]; exact hl j hj) (fun z5 J5 hJ5 l5 f5 => ?_) (fun z5 J5 hJ5 f5 => ?_)
      · show Ev d 204 190 [some (vr 0), some (vi g), some (vi c), some (vi b), some (vi k), some (vi (s : Int)), some (vi 1), some (vi y0)] [vi 1] (SM J5) Q
        refine ev_s1 (L' := [some (vr 0), some (vi g), some (vi c), some (vi b), some (vi k), some (vi (s : Int)), some (vi 1), some (vi y0)]) (S' := []) k204_190 rfl rfl ?_
        refine ev_goto (t := 74) k204_192 rfl ?_
        exact ih J5 (y + 1) _ hJ5 (by have := (rest_zero (show 1 ≤ w 2 by omega) (by omega) s).mp z5; omega) z5 l5 (fun j hj => by rcases Nat.lt_or_ge j y with q | q; (exact ha j q); (rw [show j = y by omega]; unfold hitB; exact decide_eq_false (by omega))) (fun a a8 a12 => ((f5 a (by assumption)).trans ((f0 a (by assumption)).trans ((f1 a (by assumption)).trans (hF0 a a8 a12)))))
      · show Ev d 204 190 [some (vr 0), some (vi g), some (vi c), some (vi b), some (vi k), some (vi (s : Int)), some (vi 1), some (vi y0)] [vi 0] (SM J5) Q
        refine ev_s1 (L' := [some (vr 0), some (vi g), some (vi c), some (vi b), some (vi k), some (vi (s : Int)), some (vi 0), some (vi y0)]) (S' := []) k204_190 rfl rfl ?_
        refine ev_goto (t := 74) k204_192 rfl ?_
        refine ev_s1 (L' := [some (vr 0), some (vi g), some (vi c), some (vi b), some (vi k), some (vi (s : Int)), some (vi 0), some (vi y0)]) (S' := [vi 0]) k204_74 rfl rfl ?_
        refine ev_z_eq (t := 195) k204_76 rfl (by omega) (by omega) (fun _ => ?_) (fun h => absurd h (by decide))
        refine hE _ _ _ hJ5 (fun j hj => ?_) (fun a a8 a12 => ((f5 a (by assumption)).trans ((f0 a (by assumption)).trans ((f1 a (by assumption)).trans (hF0 a a8 a12)))))
        have y1 : ¬ ((y : Int) + 1 < pwW (w 2) s) := fun q => z5 ((rest_zero (show 1 ≤ w 2 by omega) (by omega) s).mpr q)
        rcases Nat.lt_or_ge j y with q | q
        · exact ha j q
        · rw [show j = y by omega]; unfold hitB; exact decide_eq_false (by omega)
    · refine ev_s1 (L' := [some (vr 0), some (vi g), some (vi c), some (vi b), some (vi k), some (vi (s : Int)), some (vi 1), some (vi y0)]) (S' := [vi k]) k204_147 rfl rfl ?_
      refine ev_s1 (L' := [some (vr 0), some (vi g), some (vi c), some (vi b), some (vi k), some (vi (s : Int)), some (vi 1), some (vi y0)]) (S' := [vi (-1), vi k]) k204_149 rfl rfl ?_
      refine ev_c_ne (t := 158) k204_150 rfl (by omega) (by omega) (by omega) (by omega) (fun h6 => ?_) (fun h6 => ?_)
      · refine ev_s1 (L' := [some (vr 0), some (vi g), some (vi c), some (vi b), some (vi k), some (vi (s : Int)), some (vi 1), some (vi y0)]) (S' := [vi k]) k204_158 rfl rfl ?_
        refine ev_s1 (L' := [some (vr 0), some (vi g), some (vi c), some (vi b), some (vi k), some (vi (s : Int)), some (vi 1), some (vi y0)]) (S' := [vi (s : Int), vi k]) k204_160 rfl rfl ?_
        refine ev_c_ge (t := 175) k204_162 rfl (by omega) (by omega) (by omega) (by omega) (fun h7 => ?_) (fun h7 => ?_)
        · refine ev_ldc k204_175 ?_
          refine ev_ireturn k204_177 ?_
          have hh : hitB w g c b s (y : Int) = true := by unfold hitB; exact decide_eq_true (by omega)
          have hf := first_at hh ha (n := (pwW (w 2) s).toNat) (by have := (rest_zero (show 1 ≤ w 2 by omega) (by omega) s).mp hz; omega)
          have hr : warR w g c b 4 0 = ((s : Int), (y : Int)) := by
            rw [hR, show 4 - s = (3 - s) + 1 by omega, warR, if_neg (by omega), hf]
          have ea : warA w g c b k = -1000000 := by unfold warA; rw [hr, if_neg (by show ¬ (k = -1 ∨ (s : Int) = -1000000); omega), if_neg (by show ¬ k < (s : Int); omega)]
          rw [ea] at hQ
          exact hQ _ hJ0 (fun a a8 a12 => ((f0 a (by assumption)).trans ((f1 a (by assumption)).trans (hF0 a a8 a12))))
        · refine ev_s1 (L' := [some (vr 0), some (vi g), some (vi c), some (vi b), some (vi k), some (vi (s : Int)), some (vi 1), some (vi y0)]) (S' := [vr 0]) k204_165 rfl rfl ?_
          refine ev_getR k204_166 (by decide) (rfl) (y_0_20) ?_
          refine ev_s1 (L' := [some (vr 0), some (vi g), some (vi c), some (vi b), some (vi k), some (vi (s : Int)), some (vi 1), some (vi y0)]) (S' := [vi k, vr 12]) k204_169 rfl rfl ?_
          refine ev_iald k204_171 (by decide) (rfl) (by omega) (by omega) ?_
          have rr8 := hJ0.1 12 k
          rw [f0 12 (by decide), f1 12 (by decide)]
          rw [f0 12 (by decide), f1 12 (by decide)] at rr8
          refine ev_goto (t := 177) k204_172 rfl ?_
          refine ev_ireturn k204_177 ?_
          have hh : hitB w g c b s (y : Int) = true := by unfold hitB; exact decide_eq_true (by omega)
          have hf := first_at hh ha (n := (pwW (w 2) s).toNat) (by have := (rest_zero (show 1 ≤ w 2 by omega) (by omega) s).mp hz; omega)
          have hr : warR w g c b 4 0 = ((s : Int), (y : Int)) := by
            rw [hR, show 4 - s = (3 - s) + 1 by omega, warR, if_neg (by omega), hf]
          have hk := hl k.toNat (by omega)
          rw [show ((k.toNat : Nat) : Int) = k by omega] at hk
          have ea : warA w g c b k = J 12 k := by
            unfold warA
            rw [hr, if_neg (by show ¬ (k = -1 ∨ (s : Int) = -1000000); omega), if_pos (by show k < (s : Int); omega), hk]
            rfl
          rw [ea] at hQ
          exact hQ _ hJ0 (fun a a8 a12 => ((f0 a (by assumption)).trans ((f1 a (by assumption)).trans (hF0 a a8 a12))))
      · refine ev_s1 (L' := [some (vr 0), some (vi g), some (vi c), some (vi b), some (vi k), some (vi (s : Int)), some (vi 1), some (vi y0)]) (S' := [vi (s : Int)]) k204_153 rfl rfl ?_
        refine ev_goto (t := 177) k204_155 rfl ?_
        refine ev_ireturn k204_177 ?_
        have hh : hitB w g c b s (y : Int) = true := by unfold hitB; exact decide_eq_true (by omega)
        have hf := first_at hh ha (n := (pwW (w 2) s).toNat) (by have := (rest_zero (show 1 ≤ w 2 by omega) (by omega) s).mp hz; omega)
        have hr : warR w g c b 4 0 = ((s : Int), (y : Int)) := by
          rw [hR, show 4 - s = (3 - s) + 1 by omega, warR, if_neg (by omega), hf]
        have ea : warA w g c b k = (s : Int) := by unfold warA; rw [hr, if_pos (Or.inl (by omega))]
        rw [ea] at hQ
        exact hQ _ hJ0 (fun a a8 a12 => ((f0 a (by assumption)).trans ((f1 a (by assumption)).trans (hF0 a a8 a12))))
    

set_option maxHeartbeats 1000000 in
theorem m_warz {d : Nat} {K : Nat → Int → Int} {Q : Option jV → jS → Prop} {g c b k : Int} {s : Nat} (hE : ∀ (J' : Nat → Int → Int) (m1 : Int) (x : Option jV), RZ J' → (∀ j : Nat, j < 5 → J' 12 j = 0) → (∀ a, a ≠ 12 → J' a = K a) → Ev d 204 71 [some (vr 0), some (vi g), some (vi c), some (vi b), some (vi k), some (vi (s : Int)), some (vi m1), x] [] (SM J') Q) : ∀ (n : Nat) (J : Nat → Int → Int) (i : Nat) (x : Option jV), RZ J → 5 - (i : Int) < n → i ≤ 5 → (∀ j : Nat, j < i → J 12 j = 0) → (∀ a, a ≠ 12 → J a = K a) → Ev d 204 51 [some (vr 0), some (vi g), some (vi c), some (vi b), some (vi k), some (vi (s : Int)), some (vi (i : Int)), x] [] (SM J) Q := by
  intro n
  induction n with
  | zero =>
    intro J i x hJ hi hi2 hz0 hF0
    exfalso; omega
  | succ n ih =>
    intro J i x hJ hi hi2 hz0 hF0
    refine ev_s1 (L' := [some (vr 0), some (vi g), some (vi c), some (vi b), some (vi k), some (vi (s : Int)), some (vi (i : Int)), x]) (S' := [vi (i : Int)]) k204_51 rfl rfl ?_
    refine ev_s1 (L' := [some (vr 0), some (vi g), some (vi c), some (vi b), some (vi k), some (vi (s : Int)), some (vi (i : Int)), x]) (S' := [vi 5, vi (i : Int)]) k204_53 rfl rfl ?_
    refine ev_c_ge (t := 71) k204_54 rfl (by omega) (by omega) (by omega) (by omega) (fun h1 => ?_) (fun h1 => ?_)
    · exact hE _ _ _ hJ (fun j hj => hz0 j (by omega)) hF0
    · refine ev_s1 (L' := [some (vr 0), some (vi g), some (vi c), some (vi b), some (vi k), some (vi (s : Int)), some (vi (i : Int)), x]) (S' := [vr 0]) k204_57 rfl rfl ?_
      refine ev_getR k204_58 (by decide) (rfl) (y_0_20) ?_
      refine ev_s1 (L' := [some (vr 0), some (vi g), some (vi c), some (vi b), some (vi k), some (vi (s : Int)), some (vi (i : Int)), x]) (S' := [vi (i : Int), vr 12]) k204_61 rfl rfl ?_
      refine ev_s1 (L' := [some (vr 0), some (vi g), some (vi c), some (vi b), some (vi k), some (vi (s : Int)), some (vi (i : Int)), x]) (S' := [vi 0, vi (i : Int), vr 12]) k204_63 rfl rfl ?_
      refine ev_iast k204_64 (by decide) (rfl) (by omega) (by omega) ?_
      show Ev d 204 65 [some (vr 0), some (vi g), some (vi c), some (vi b), some (vi k), some (vi (s : Int)), some (vi (i : Int)), x] [] (SM (up J 12 (i : Int) 0)) Q
      have hJ2 := rz_up hJ (k := 12) (j := (i : Int)) (z := 0) (by omega) (by omega) (by omega)
      have g2 : ∀ aa, aa ≠ 12 → up J 12 (i : Int) 0 aa = J aa := fun aa h => upf h
      have q2 : ∀ bb, bb ≠ (i : Int) → up J 12 (i : Int) 0 12 bb = J 12 bb := fun bb h => upN (Or.inr h)
      have e2 : up J 12 (i : Int) 0 12 (i : Int) = 0 := upE rfl rfl
      generalize up J 12 (i : Int) 0 = J2 at hJ2 g2 q2 e2 ⊢
      refine ev_s1 (L' := [some (vr 0), some (vi g), some (vi c), some (vi b), some (vi k), some (vi (s : Int)), some (vi ((i : Int) + 1)), x]) (S' := []) k204_65 rfl rfl ?_
      refine ev_goto (t := 51) k204_68 rfl ?_
      refine ih J2 (i + 1) x hJ2 (by omega) (by omega) (fun j hj => ?_) (fun a ha => (g2 a ha).trans (hF0 a ha))
      by_cases q : (j : Int) = (i : Int)
      · rw [q, e2]
      · rw [q2 _ q]; exact hz0 j (by omega)

set_option maxHeartbeats 1000000 in
theorem m_war1 {d : Nat} {K : Nat → Int → Int} {Q : Option jV → jS → Prop} {w : Int → Int} {g c b k : Int} (hw : OKW w) (hw6 : K 6 = w) (g0 : 0 ≤ g) (g1 : g < w 2) (c0 : 0 ≤ c) (c1 : c < w 1) (b0 : 0 ≤ b) (b1 : b ≤ 9) (k0 : -1 ≤ k) (k1 : k ≤ 2) (hd : 4 ≤ d) (hQ : ∀ J', RZ J' → (∀ a, a ≠ 8 → a ≠ 12 → J' a = K a) → Q (some (vi (warA w g c b k))) (SM J')) : ∀ (n : Nat) (J : Nat → Int → Int) (s : Nat) (x y : Option jV), RZ J → 4 - (s : Int) < n → s ≤ 4 → warR w g c b 4 0 = warR w g c b (4 - s) s → (∀ a, a ≠ 8 → a ≠ 12 → J a = K a) → Ev d 204 42 [some (vr 0), some (vi g), some (vi c), some (vi b), some (vi k), some (vi (s : Int)), x, y] [] (SM J) Q := by
  intro n
  induction n with
  | zero =>
    intro J s x y hJ hs hs4 hR hF0
    exfalso; omega
  | succ n ih =>
    intro J s x y hJ hs hs4 hR hF0
    have w1 := hw.2.1
    have w2 := hw.2.2.1
    have go := (hw.2.2.2.2.1 g g0 g1).1
    refine ev_s1 (L' := [some (vr 0), some (vi g), some (vi c), some (vi b), some (vi k), some (vi (s : Int)), x, y]) (S' := [vi (s : Int)]) k204_42 rfl rfl ?_
    refine ev_s1 (L' := [some (vr 0), some (vi g), some (vi c), some (vi b), some (vi k), some (vi (s : Int)), x, y]) (S' := [vi 4, vi (s : Int)]) k204_44 rfl rfl ?_
    refine ev_c_ge (t := 201) k204_45 rfl (by omega) (by omega) (by omega) (by omega) (fun h1 => ?_) (fun h1 => ?_)
    · refine ev_ldc k204_201 ?_
      refine ev_ireturn k204_203 ?_
      rw [show s = 4 by omega] at hR
      have hr : warR w g c b 4 0 = (-1000000, 0) := hR
      have ea : warA w g c b k = -1000000 := by unfold warA; rw [hr]; exact if_pos (Or.inr rfl)
      rw [ea] at hQ
      exact hQ _ hJ hF0
    · refine ev_s1 (L' := [some (vr 0), some (vi g), some (vi c), some (vi b), some (vi k), some (vi (s : Int)), x, y]) (S' := [vi 0]) k204_48 rfl rfl ?_
      refine ev_s1 (L' := [some (vr 0), some (vi g), some (vi c), some (vi b), some (vi k), some (vi (s : Int)), some (vi 0), y]) (S' := []) k204_49 rfl rfl ?_
      refine m_warz (K := J) (fun J0 m0 x0 hJ0 z0 f0 => ?_) 6 J 0 _ hJ (by omega) (by omega) (fun j hj => absurd hj (Nat.not_lt_zero j)) (fun _ _ => rfl)
      refine ev_s1 (L' := [some (vr 0), some (vi g), some (vi c), some (vi b), some (vi k), some (vi (s : Int)), some (vi m0), x0]) (S' := [vi 1]) k204_71 rfl rfl ?_
      refine ev_s1 (L' := [some (vr 0), some (vi g), some (vi c), some (vi b), some (vi k), some (vi (s : Int)), some (vi 1), x0]) (S' := []) k204_72 rfl rfl ?_
      have wg2 : 1 ≤ w 2 := by omega
      have hpw := pw_pos wg2 s
      have hz5 : ∀ k, restW (w 2) 0 k = 0 := by
        intro k
        induction k with
        | zero => rfl
        | succ k ih => rw [restW, ih, Int.zero_ediv]
      refine m_war2 (K := J0) (w := w) hw (by rw [f0 6 (by decide), hF0 6 (by decide) (by decide), hw6]) g0 g1 c0 c1 b0 b1 k0 k1 hd (fun J' hJ' hf => hQ J' hJ' (fun a a8 a12 => (hf a a8 a12).trans (((f0 a (by assumption)).trans (hF0 a a8 a12))))) (s := s) (by omega) hR (fun J1 m1 x1 hJ1 hno f1 => ?_) ((pwW (w 2) s).toNat + 1) J0 0 _ hJ0 (by omega) (hz5 s) (fun j hj => ?_) (fun j hj => absurd hj (Nat.not_lt_zero j)) (fun _ _ _ => rfl)
      rotate_left
      · rw [z0 j (by omega)]
        show 0 = dgW (w 2) s 0 j
        unfold dgW
        rw [hz5, Int.zero_emod]
      refine ev_s1 (L' := [some (vr 0), some (vi g), some (vi c), some (vi b), some (vi k), some (vi ((s : Int) + 1)), some (vi m1), x1]) (S' := []) k204_195 rfl rfl ?_
      refine ev_goto (t := 42) k204_198 rfl ?_
      have hf := first_no (p := hitB w g c b s) (n := (pwW (w 2) s).toNat) (fun j hj => hno j (by omega))
      have hr : warR w g c b 4 0 = warR w g c b (4 - (s + 1)) (s + 1) := by
        rw [hR, show 4 - s = (4 - (s + 1)) + 1 by omega, warR, if_pos hf]
      exact ih J1 (s + 1) _ _ hJ1 (by omega) (by omega) hr (fun a a8 a12 => ((f1 a a8 a12).trans ((f0 a (by assumption)).trans (hF0 a a8 a12))))
      
      

set_option maxHeartbeats 1000000 in
theorem m_warm {d : Nat} {J : Nat → Int → Int} {Q : Option jV → jS → Prop} (hJ : RZ J) (hw : OKW (J 6)) {g c b k : Int} (g0 : -2147483648 ≤ g) (g1 : g < 2147483648) (c0 : -2147483648 ≤ c) (c1 : c < 2147483648) (b0 : -2147483648 ≤ b) (b1 : b < 2147483648) (k0 : -2147483648 ≤ k) (k1 : k < 2147483648) (hd : 5 ≤ d) (hB : ¬ ((0 ≤ g ∧ g < J 6 2) ∧ (0 ≤ c ∧ c < J 6 1) ∧ (0 ≤ b ∧ b ≤ 9) ∧ (-1 ≤ k ∧ k ≤ 2)) → Q (some (vi (-1000001))) (SM J)) (hQ : ((0 ≤ g ∧ g < J 6 2) ∧ (0 ≤ c ∧ c < J 6 1) ∧ (0 ≤ b ∧ b ≤ 9) ∧ (-1 ≤ k ∧ k ≤ 2)) → ∀ J', FM J J' → Q (some (vi (warA (J 6) g c b k))) (SM J')) : Cl d 204 [vr 0, vi g, vi c, vi b, vi k] (SM J) Q := by
  have w0 := hw.1
  have w1 := hw.2.1
  have w2 := hw.2.2.1
  refine ⟨by rw [l204]; exact Nat.le_of_ble_eq_true rfl, ?_⟩
  rw [l204]
  show Ev d 204 0 [some (vr 0), some (vi g), some (vi c), some (vi b), some (vi k), none, none, none] [] (SM J) Q
  refine ev_s1 (L' := [some (vr 0), some (vi g), some (vi c), some (vi b), some (vi k), none, none, none]) (S' := [vr 0]) k204_0 rfl rfl ?_
  refine ev_s1 (L' := [some (vr 0), some (vi g), some (vi c), some (vi b), some (vi k), none, none, none]) (S' := [vi g, vr 0]) k204_1 rfl rfl ?_
  refine ev_virt (a := [vi g]) (S' := []) k204_2 rfl (Nat.le_of_ble_eq_true rfl) (by decide) (rfl) (by omega) ?_
  refine m_isGuest hJ (g := g) (by omega) (by omega) (by omega) (by omega) (fun h1 => ?_) (fun h1 => ?_)
  · show Ev d 204 5 [some (vr 0), some (vi g), some (vi c), some (vi b), some (vi k), none, none, none] [vi 1] (SM J) Q
    refine ev_z_eq (t := 36) k204_5 rfl (by omega) (by omega) (fun h => absurd h (by decide)) (fun _ => ?_)
    refine ev_s1 (L' := [some (vr 0), some (vi g), some (vi c), some (vi b), some (vi k), none, none, none]) (S' := [vr 0]) k204_8 rfl rfl ?_
    refine ev_s1 (L' := [some (vr 0), some (vi g), some (vi c), some (vi b), some (vi k), none, none, none]) (S' := [vi c, vr 0]) k204_9 rfl rfl ?_
    refine ev_virt (a := [vi c]) (S' := []) k204_10 rfl (Nat.le_of_ble_eq_true rfl) (by decide) (rfl) (by omega) ?_
    refine m_isChair hJ (c := c) (by omega) (by omega) (by omega) (by omega) (fun h2 => ?_) (fun h2 => ?_)
    · show Ev d 204 13 [some (vr 0), some (vi g), some (vi c), some (vi b), some (vi k), none, none, none] [vi 1] (SM J) Q
      refine ev_z_eq (t := 36) k204_13 rfl (by omega) (by omega) (fun h => absurd h (by decide)) (fun _ => ?_)
      refine ev_s1 (L' := [some (vr 0), some (vi g), some (vi c), some (vi b), some (vi k), none, none, none]) (S' := [vi b]) k204_16 rfl rfl ?_
      refine ev_s1 (L' := [some (vr 0), some (vi g), some (vi c), some (vi b), some (vi k), none, none, none]) (S' := [vi 0, vi b]) k204_17 rfl rfl ?_
      refine ev_s1 (L' := [some (vr 0), some (vi g), some (vi c), some (vi b), some (vi k), none, none, none]) (S' := [vi 9, vi 0, vi b]) k204_18 rfl rfl ?_
      refine ev_static (a := [vi b, vi 0, vi 9]) (S' := []) k204_20 rfl (Nat.le_of_ble_eq_true rfl) (by omega) ?_
      refine m_in (v := b) (lo := 0) (hi := 9) (by omega) (by omega) (by omega) (by omega) (by omega) (by omega) (fun h3 => ?_) (fun h3 => ?_)
      · show Ev d 204 23 [some (vr 0), some (vi g), some (vi c), some (vi b), some (vi k), none, none, none] [vi 1] (SM J) Q
        refine ev_z_eq (t := 36) k204_23 rfl (by omega) (by omega) (fun h => absurd h (by decide)) (fun _ => ?_)
        refine ev_s1 (L' := [some (vr 0), some (vi g), some (vi c), some (vi b), some (vi k), none, none, none]) (S' := [vi k]) k204_26 rfl rfl ?_
        refine ev_s1 (L' := [some (vr 0), some (vi g), some (vi c), some (vi b), some (vi k), none, none, none]) (S' := [vi (-1), vi k]) k204_28 rfl rfl ?_
        refine ev_s1 (L' := [some (vr 0), some (vi g), some (vi c), some (vi b), some (vi k), none, none, none]) (S' := [vi 2, vi (-1), vi k]) k204_29 rfl rfl ?_
        refine ev_static (a := [vi k, vi (-1), vi 2]) (S' := []) k204_30 rfl (Nat.le_of_ble_eq_true rfl) (by omega) ?_
        refine m_in (v := k) (lo := (-1)) (hi := 2) (by omega) (by omega) (by omega) (by omega) (by omega) (by omega) (fun h4 => ?_) (fun h4 => ?_)
        · show Ev d 204 33 [some (vr 0), some (vi g), some (vi c), some (vi b), some (vi k), none, none, none] [vi 1] (SM J) Q
          refine ev_z_ne (t := 39) k204_33 rfl (by omega) (by omega) (fun _ => ?_) (fun h => absurd h (by decide))
          refine ev_s1 (L' := [some (vr 0), some (vi g), some (vi c), some (vi b), some (vi k), none, none, none]) (S' := [vi 0]) k204_39 rfl rfl ?_
          refine ev_s1 (L' := [some (vr 0), some (vi g), some (vi c), some (vi b), some (vi k), some (vi 0), none, none]) (S' := []) k204_40 rfl rfl ?_
          exact m_war1 (K := J) (w := J 6) hw rfl (by omega) (by omega) (by omega) (by omega) (by omega) (by omega) (by omega) (by omega) (by omega) (fun J' hJ' hf => hQ (by omega) J' ⟨hJ', fun a a4 a7 a8 a12 a13 => hf a a8 a12⟩) 5 J 0 none none hJ (by omega) (by omega) rfl (fun _ _ _ => rfl)
        · show Ev d 204 33 [some (vr 0), some (vi g), some (vi c), some (vi b), some (vi k), none, none, none] [vi 0] (SM J) Q
          refine ev_z_ne (t := 39) k204_33 rfl (by omega) (by omega) (fun h => absurd h (by decide)) (fun _ => ?_)
          refine ev_ldc k204_36 ?_
          refine ev_ireturn k204_38 ?_
          exact hB (by omega)
      · show Ev d 204 23 [some (vr 0), some (vi g), some (vi c), some (vi b), some (vi k), none, none, none] [vi 0] (SM J) Q
        refine ev_z_eq (t := 36) k204_23 rfl (by omega) (by omega) (fun _ => ?_) (fun h => absurd h (by decide))
        refine ev_ldc k204_36 ?_
        refine ev_ireturn k204_38 ?_
        exact hB (by omega)
    · show Ev d 204 13 [some (vr 0), some (vi g), some (vi c), some (vi b), some (vi k), none, none, none] [vi 0] (SM J) Q
      refine ev_z_eq (t := 36) k204_13 rfl (by omega) (by omega) (fun _ => ?_) (fun h => absurd h (by decide))
      refine ev_ldc k204_36 ?_
      refine ev_ireturn k204_38 ?_
      exact hB (by omega)
  · show Ev d 204 5 [some (vr 0), some (vi g), some (vi c), some (vi b), some (vi k), none, none, none] [vi 0] (SM J) Q
    refine ev_z_eq (t := 36) k204_5 rfl (by omega) (by omega) (fun _ => ?_) (fun h => absurd h (by decide))
    refine ev_ldc k204_36 ?_
    refine ev_ireturn k204_38 ?_
    exact hB (by omega)
