theorem sits_ext {u v : Int → Int} {g c : Int} (h1 : v (3 + 5 * c + 1) = manA (kW u c) (u (3 + 5 * c + 1)) (u (3 + 5 * c + 2)) (u (28 + 4 * g)) (u (28 + 4 * g + 1))) (h2 : v (3 + 5 * c + 2) = strA (kW u c) (u (3 + 5 * c + 2)) (u (28 + 4 * g + 1))) (h4 : v (3 + 5 * c + 4) = satA (u (3 + 5 * c + 4))) (ho : ∀ b, b ≠ 3 + 5 * c + 1 → b ≠ 3 + 5 * c + 2 → b ≠ 3 + 5 * c + 4 → v b = u b) : v = sitsW u g c := by
  funext b
  by_cases q1 : b = 3 + 5 * c + 1
  · rw [q1, sits_1]; exact h1
  · by_cases q2 : b = 3 + 5 * c + 2
    · rw [q2, sits_2]; exact h2
    · by_cases q4 : b = 3 + 5 * c + 4
      · rw [q4, sits_4]; exact h4
      · rw [sits_o q1 q2 q4]; exact ho b q1 q2 q4
theorem puts_ext {u v : Int → Int} {g c : Int} (h3 : v (28 + 4 * g + 3) = bearW u c (u (28 + 4 * g))) (h2 : v (28 + 4 * g + 2) = c + 1) (ho : ∀ b, b ≠ 28 + 4 * g + 3 → b ≠ 28 + 4 * g + 2 → v b = sitsW u g c b) : v = putsW u g c := by
  funext b
  unfold putsW
  by_cases q3 : b = 28 + 4 * g + 3
  · rw [if_pos q3, q3]; exact h3
  · rw [if_neg q3]
    by_cases q2 : b = 28 + 4 * g + 2
    · rw [if_pos q2, q2]; exact h2
    · rw [if_neg q2]; exact ho b q3 q2

set_option maxHeartbeats 1000000 in
theorem m_sits {d : Nat} {J : Nat → Int → Int} {Q : Option jV → jS → Prop} (hJ : RZ J) {k : Nat} (hk : 6 ≤ k ∧ k ≤ 8) {g c : Int} (g0 : 0 ≤ g) (g5 : g < 5) (c0 : 0 ≤ c) (c5 : c < 5) (hC : OKC (J k) c) (go : 0 ≤ J k (28 + 4 * g) ∧ J k (28 + 4 * g) ≤ 9) (gw : 1 ≤ J k (28 + 4 * g + 1) ∧ J k (28 + 4 * g + 1) ≤ 9) (hd : 2 ≤ d) (hQ : ∀ J', RZ J' → J' k = sitsW (J k) g c → (∀ a, a ≠ k → J' a = J a) → Q (some (vi (bearW (J k) c (J k (28 + 4 * g))))) (SM J')) : Cl d 186 [vr k, vi g, vi c] (SM J) Q := by
  obtain ⟨⟨qk1, qk2⟩, ⟨qm1, qm2⟩, ⟨qs1, qs2⟩, ⟨qe1, qe2⟩, ⟨qt1, qt2⟩⟩ := id hC
  refine ⟨by rw [l186]; exact Nat.le_of_ble_eq_true rfl, ?_⟩
  rw [l186]
  show Ev d 186 0 [some (vr k), some (vi g), some (vi c), none, none, none] [] (SM J) Q
  refine ev_s1 (L' := [some (vr k), some (vi g), some (vi c), none, none, none]) (S' := [vi 3]) k186_0 rfl rfl ?_
  refine ev_s1 (L' := [some (vr k), some (vi g), some (vi c), none, none, none]) (S' := [vi 5, vi 3]) k186_1 rfl rfl ?_
  refine ev_s1 (L' := [some (vr k), some (vi g), some (vi c), none, none, none]) (S' := [vi c, vi 5, vi 3]) k186_2 rfl rfl ?_
  refine ev_s1 (L' := [some (vr k), some (vi g), some (vi c), none, none, none]) (S' := [vi (5 * c), vi 3]) k186_3 rfl rfl ?_
  refine ev_s1 (L' := [some (vr k), some (vi g), some (vi c), none, none, none]) (S' := [vi (3 + (5 * c))]) k186_4 rfl rfl ?_
  refine ev_s1 (L' := [some (vr k), some (vi g), some (vi c), some (vi (3 + (5 * c))), none, none]) (S' := []) k186_5 rfl rfl ?_
  refine ev_s1 (L' := [some (vr k), some (vi g), some (vi c), some (vi (3 + (5 * c))), none, none]) (S' := [vr k]) k186_6 rfl rfl ?_
  refine ev_s1 (L' := [some (vr k), some (vi g), some (vi c), some (vi (3 + (5 * c))), none, none]) (S' := [vi 28, vr k]) k186_7 rfl rfl ?_
  refine ev_s1 (L' := [some (vr k), some (vi g), some (vi c), some (vi (3 + (5 * c))), none, none]) (S' := [vi 4, vi 28, vr k]) k186_9 rfl rfl ?_
  refine ev_s1 (L' := [some (vr k), some (vi g), some (vi c), some (vi (3 + (5 * c))), none, none]) (S' := [vi g, vi 4, vi 28, vr k]) k186_10 rfl rfl ?_
  refine ev_s1 (L' := [some (vr k), some (vi g), some (vi c), some (vi (3 + (5 * c))), none, none]) (S' := [vi (4 * g), vi 28, vr k]) k186_11 rfl rfl ?_
  refine ev_s1 (L' := [some (vr k), some (vi g), some (vi c), some (vi (3 + (5 * c))), none, none]) (S' := [vi (28 + (4 * g)), vr k]) k186_12 rfl rfl ?_
  refine ev_iald k186_13 (by omega) (shM8 hk) (by omega) (by omega) ?_
  have rr1 := hJ.1 k (28 + (4 * g))
  refine ev_s1 (L' := [some (vr k), some (vi g), some (vi c), some (vi (3 + (5 * c))), some (vi (J k (28 + (4 * g)))), none]) (S' := []) k186_14 rfl rfl ?_
  refine ev_s1 (L' := [some (vr k), some (vi g), some (vi c), some (vi (3 + (5 * c))), some (vi (J k (28 + (4 * g)))), none]) (S' := [vr k]) k186_16 rfl rfl ?_
  refine ev_s1 (L' := [some (vr k), some (vi g), some (vi c), some (vi (3 + (5 * c))), some (vi (J k (28 + (4 * g)))), none]) (S' := [vi c, vr k]) k186_17 rfl rfl ?_
  refine ev_s1 (L' := [some (vr k), some (vi g), some (vi c), some (vi (3 + (5 * c))), some (vi (J k (28 + (4 * g)))), none]) (S' := [vi (J k (28 + (4 * g))), vi c, vr k]) k186_18 rfl rfl ?_
  refine ev_static (a := [vr k, vi c, vi (J k (28 + (4 * g)))]) (S' := []) k186_20 rfl (Nat.le_of_ble_eq_true rfl) (by omega) ?_
  refine m_bearing hJ (k := k) (by omega) (c := c) (o := J k (28 + (4 * g))) (by omega) (by omega) (by exact hC) (by omega) (by omega) (by omega) (?_)
  have bo20 := bear_okc (o := J k (28 + (4 * g))) hC (by omega) (by omega)
  show Ev d 186 23 [some (vr k), some (vi g), some (vi c), some (vi (3 + (5 * c))), some (vi (J k (28 + (4 * g)))), none] [vi (bearW (J k) c (J k (28 + (4 * g))))] (SM J) Q
  refine ev_s1 (L' := [some (vr k), some (vi g), some (vi c), some (vi (3 + (5 * c))), some (vi (J k (28 + (4 * g)))), some (vi (bearW (J k) c (J k (28 + (4 * g)))))]) (S' := []) k186_23 rfl rfl ?_
  refine ev_s1 (L' := [some (vr k), some (vi g), some (vi c), some (vi (3 + (5 * c))), some (vi (J k (28 + (4 * g)))), some (vi (bearW (J k) c (J k (28 + (4 * g)))))]) (S' := [vr k]) k186_25 rfl rfl ?_
  refine ev_s1 (L' := [some (vr k), some (vi g), some (vi c), some (vi (3 + (5 * c))), some (vi (J k (28 + (4 * g)))), some (vi (bearW (J k) c (J k (28 + (4 * g)))))]) (S' := [vi (3 + (5 * c)), vr k]) k186_26 rfl rfl ?_
  refine ev_s1 (L' := [some (vr k), some (vi g), some (vi c), some (vi (3 + (5 * c))), some (vi (J k (28 + (4 * g)))), some (vi (bearW (J k) c (J k (28 + (4 * g)))))]) (S' := [vi 4, vi (3 + (5 * c)), vr k]) k186_27 rfl rfl ?_
  refine ev_s1 (L' := [some (vr k), some (vi g), some (vi c), some (vi (3 + (5 * c))), some (vi (J k (28 + (4 * g)))), some (vi (bearW (J k) c (J k (28 + (4 * g)))))]) (S' := [vi ((3 + (5 * c)) + 4), vr k]) k186_28 rfl rfl ?_
  refine ev_s1 (L' := [some (vr k), some (vi g), some (vi c), some (vi (3 + (5 * c))), some (vi (J k (28 + (4 * g)))), some (vi (bearW (J k) c (J k (28 + (4 * g)))))]) (S' := [vi ((3 + (5 * c)) + 4), vr k, vi ((3 + (5 * c)) + 4), vr k]) k186_29 rfl rfl ?_
  refine ev_iald k186_30 (by omega) (shM8 hk) (by omega) (by omega) ?_
  have rr2 := hJ.1 k ((3 + (5 * c)) + 4)
  refine ev_s1 (L' := [some (vr k), some (vi g), some (vi c), some (vi (3 + (5 * c))), some (vi (J k (28 + (4 * g)))), some (vi (bearW (J k) c (J k (28 + (4 * g)))))]) (S' := [vr k, vi (J k ((3 + (5 * c)) + 4)), vi ((3 + (5 * c)) + 4), vr k]) k186_31 rfl rfl ?_
  refine ev_s1 (L' := [some (vr k), some (vi g), some (vi c), some (vi (3 + (5 * c))), some (vi (J k (28 + (4 * g)))), some (vi (bearW (J k) c (J k (28 + (4 * g)))))]) (S' := [vi (3 + (5 * c)), vr k, vi (J k ((3 + (5 * c)) + 4)), vi ((3 + (5 * c)) + 4), vr k]) k186_32 rfl rfl ?_
  refine ev_s1 (L' := [some (vr k), some (vi g), some (vi c), some (vi (3 + (5 * c))), some (vi (J k (28 + (4 * g)))), some (vi (bearW (J k) c (J k (28 + (4 * g)))))]) (S' := [vi 4, vi (3 + (5 * c)), vr k, vi (J k ((3 + (5 * c)) + 4)), vi ((3 + (5 * c)) + 4), vr k]) k186_33 rfl rfl ?_
  refine ev_s1 (L' := [some (vr k), some (vi g), some (vi c), some (vi (3 + (5 * c))), some (vi (J k (28 + (4 * g)))), some (vi (bearW (J k) c (J k (28 + (4 * g)))))]) (S' := [vi ((3 + (5 * c)) + 4), vr k, vi (J k ((3 + (5 * c)) + 4)), vi ((3 + (5 * c)) + 4), vr k]) k186_34 rfl rfl ?_
  refine ev_iald k186_35 (by omega) (shM8 hk) (by omega) (by omega) ?_
  have rr3 := hJ.1 k ((3 + (5 * c)) + 4)
  refine ev_s1 (L' := [some (vr k), some (vi g), some (vi c), some (vi (3 + (5 * c))), some (vi (J k (28 + (4 * g)))), some (vi (bearW (J k) c (J k (28 + (4 * g)))))]) (S' := [vi 999, vi (J k ((3 + (5 * c)) + 4)), vi (J k ((3 + (5 * c)) + 4)), vi ((3 + (5 * c)) + 4), vr k]) k186_36 rfl rfl ?_
  have kj39 : ∀ x1 : Int, x1 = (if J k (3 + 5 * c + 4) < 999 then 1 else 0) → Ev d 186 47 [some (vr k), some (vi g), some (vi c), some (vi (3 + (5 * c))), some (vi (J k (28 + (4 * g)))), some (vi (bearW (J k) c (J k (28 + (4 * g)))))] [vi x1, vi (J k ((3 + (5 * c)) + 4)), vi ((3 + (5 * c)) + 4), vr k] (SM J) Q := by
    intro x1 hx1
    have xr1 : 0 ≤ x1 ∧ x1 ≤ 1 := by rw [hx1]; split <;> omega
    have sa : satA (J k (3 + 5 * c + 4)) = J k (3 + 5 * c + 4) + x1 := by rw [hx1]; unfold satA; split <;> split <;> omega
    refine ev_s1 (L' := [some (vr k), some (vi g), some (vi c), some (vi (3 + (5 * c))), some (vi (J k (28 + (4 * g)))), some (vi (bearW (J k) c (J k (28 + (4 * g)))))]) (S' := [vi ((J k ((3 + (5 * c)) + 4)) + x1), vi ((3 + (5 * c)) + 4), vr k]) k186_47 rfl rfl ?_
    refine ev_iast k186_48 (by omega) (shM8 hk) (by omega) (by omega) ?_
    show Ev d 186 49 [some (vr k), some (vi g), some (vi c), some (vi (3 + (5 * c))), some (vi (J k (28 + (4 * g)))), some (vi (bearW (J k) c (J k (28 + (4 * g)))))] [] (SM (up J k ((3 + (5 * c)) + 4) ((J k ((3 + (5 * c)) + 4)) + x1))) Q
    have hJ4 := rz_up hJ (k := k) (j := (3 + (5 * c)) + 4) (z := (J k ((3 + (5 * c)) + 4)) + x1) (by omega) (by omega) (by omega)
    have g4 : ∀ aa, aa ≠ k → up J k ((3 + (5 * c)) + 4) ((J k ((3 + (5 * c)) + 4)) + x1) aa = J aa := fun aa h => upf h
    have q4 : ∀ bb, bb ≠ (3 + (5 * c)) + 4 → up J k ((3 + (5 * c)) + 4) ((J k ((3 + (5 * c)) + 4)) + x1) k bb = J k bb := fun bb h => upN (Or.inr h)
    have e4 : up J k ((3 + (5 * c)) + 4) ((J k ((3 + (5 * c)) + 4)) + x1) k ((3 + (5 * c)) + 4) = (J k ((3 + (5 * c)) + 4)) + x1 := upE rfl rfl
    generalize up J k ((3 + (5 * c)) + 4) ((J k ((3 + (5 * c)) + 4)) + x1) = J4 at hJ4 g4 q4 e4 ⊢
    refine ev_s1 (L' := [some (vr k), some (vi g), some (vi c), some (vi (3 + (5 * c))), some (vi (J k (28 + (4 * g)))), some (vi (bearW (J k) c (J k (28 + (4 * g)))))]) (S' := [vr k]) k186_49 rfl rfl ?_
    refine ev_s1 (L' := [some (vr k), some (vi g), some (vi c), some (vi (3 + (5 * c))), some (vi (J k (28 + (4 * g)))), some (vi (bearW (J k) c (J k (28 + (4 * g)))))]) (S' := [vi (3 + (5 * c)), vr k]) k186_50 rfl rfl ?_
    refine ev_s1 (L' := [some (vr k), some (vi g), some (vi c), some (vi (3 + (5 * c))), some (vi (J k (28 + (4 * g)))), some (vi (bearW (J k) c (J k (28 + (4 * g)))))]) (S' := [vi 2, vi (3 + (5 * c)), vr k]) k186_51 rfl rfl ?_
    refine ev_s1 (L' := [some (vr k), some (vi g), some (vi c), some (vi (3 + (5 * c))), some (vi (J k (28 + (4 * g)))), some (vi (bearW (J k) c (J k (28 + (4 * g)))))]) (S' := [vi ((3 + (5 * c)) + 2), vr k]) k186_52 rfl rfl ?_
    refine ev_s1 (L' := [some (vr k), some (vi g), some (vi c), some (vi (3 + (5 * c))), some (vi (J k (28 + (4 * g)))), some (vi (bearW (J k) c (J k (28 + (4 * g)))))]) (S' := [vi ((3 + (5 * c)) + 2), vr k, vi ((3 + (5 * c)) + 2), vr k]) k186_53 rfl rfl ?_
    refine ev_iald k186_54 (by omega) (shM8 hk) (by omega) (by omega) ?_
    have rr5 := hJ4.1 k ((3 + (5 * c)) + 2)
    rw [q4 ((3 + (5 * c)) + 2) (by omega)]
    rw [q4 ((3 + (5 * c)) + 2) (by omega)] at rr5
    refine ev_s1 (L' := [some (vr k), some (vi g), some (vi c), some (vi (3 + (5 * c))), some (vi (J k (28 + (4 * g)))), some (vi (bearW (J k) c (J k (28 + (4 * g)))))]) (S' := [vr k, vi (J k ((3 + (5 * c)) + 2)), vi ((3 + (5 * c)) + 2), vr k]) k186_55 rfl rfl ?_
    refine ev_s1 (L' := [some (vr k), some (vi g), some (vi c), some (vi (3 + (5 * c))), some (vi (J k (28 + (4 * g)))), some (vi (bearW (J k) c (J k (28 + (4 * g)))))]) (S' := [vi (3 + (5 * c)), vr k, vi (J k ((3 + (5 * c)) + 2)), vi ((3 + (5 * c)) + 2), vr k]) k186_56 rfl rfl ?_
    refine ev_iald k186_57 (by omega) (shM8 hk) (by omega) (by omega) ?_
    have rr6 := hJ4.1 k (3 + (5 * c))
    rw [q4 (3 + (5 * c)) (by omega)]
    rw [q4 (3 + (5 * c)) (by omega)] at rr6
    refine ev_s1 (L' := [some (vr k), some (vi g), some (vi c), some (vi (3 + (5 * c))), some (vi (J k (28 + (4 * g)))), some (vi (bearW (J k) c (J k (28 + (4 * g)))))]) (S' := [vi 4, vi (J k (3 + (5 * c))), vi (J k ((3 + (5 * c)) + 2)), vi ((3 + (5 * c)) + 2), vr k]) k186_58 rfl rfl ?_
    have kj59 : ∀ x2 : Int, x2 = (if J k (3 + 5 * c) < 4 then (J k (3 + 5 * c + 2) + 3) / 4 else 0) → Ev d 186 75 [some (vr k), some (vi g), some (vi c), some (vi (3 + (5 * c))), some (vi (J k (28 + (4 * g)))), some (vi (bearW (J k) c (J k (28 + (4 * g)))))] [vi x2, vi (J k ((3 + (5 * c)) + 2)), vi ((3 + (5 * c)) + 2), vr k] (SM J4) Q := by
      intro x2 hx2
      have xr2 : 0 ≤ x2 ∧ x2 ≤ J k (3 + 5 * c + 2) := by rw [hx2]; split <;> omega
      have sw : strW (kW (J k) c) (J k (3 + 5 * c + 2)) = J k (3 + 5 * c + 2) - x2 := by rw [hx2]; unfold strW kW; split <;> split <;> omega
      refine ev_s1 (L' := [some (vr k), some (vi g), some (vi c), some (vi (3 + (5 * c))), some (vi (J k (28 + (4 * g)))), some (vi (bearW (J k) c (J k (28 + (4 * g)))))]) (S' := [vi ((J k ((3 + (5 * c)) + 2)) - x2), vi ((3 + (5 * c)) + 2), vr k]) k186_75 rfl rfl ?_
      refine ev_iast k186_76 (by omega) (shM8 hk) (by omega) (by omega) ?_
      show Ev d 186 77 [some (vr k), some (vi g), some (vi c), some (vi (3 + (5 * c))), some (vi (J k (28 + (4 * g)))), some (vi (bearW (J k) c (J k (28 + (4 * g)))))] [] (SM (up J4 k ((3 + (5 * c)) + 2) ((J k ((3 + (5 * c)) + 2)) - x2))) Q
      have hJ7 := rz_up hJ4 (k := k) (j := (3 + (5 * c)) + 2) (z := (J k ((3 + (5 * c)) + 2)) - x2) (by omega) (by omega) (by omega)
      have g7 : ∀ aa, aa ≠ k → up J4 k ((3 + (5 * c)) + 2) ((J k ((3 + (5 * c)) + 2)) - x2) aa = J4 aa := fun aa h => upf h
      have q7 : ∀ bb, bb ≠ (3 + (5 * c)) + 2 → up J4 k ((3 + (5 * c)) + 2) ((J k ((3 + (5 * c)) + 2)) - x2) k bb = J4 k bb := fun bb h => upN (Or.inr h)
      have e7 : up J4 k ((3 + (5 * c)) + 2) ((J k ((3 + (5 * c)) + 2)) - x2) k ((3 + (5 * c)) + 2) = (J k ((3 + (5 * c)) + 2)) - x2 := upE rfl rfl
      generalize up J4 k ((3 + (5 * c)) + 2) ((J k ((3 + (5 * c)) + 2)) - x2) = J7 at hJ7 g7 q7 e7 ⊢
      refine ev_s1 (L' := [some (vr k), some (vi g), some (vi c), some (vi (3 + (5 * c))), some (vi (J k (28 + (4 * g)))), some (vi (bearW (J k) c (J k (28 + (4 * g)))))]) (S' := [vr k]) k186_77 rfl rfl ?_
      refine ev_s1 (L' := [some (vr k), some (vi g), some (vi c), some (vi (3 + (5 * c))), some (vi (J k (28 + (4 * g)))), some (vi (bearW (J k) c (J k (28 + (4 * g)))))]) (S' := [vi (3 + (5 * c)), vr k]) k186_78 rfl rfl ?_
      refine ev_s1 (L' := [some (vr k), some (vi g), some (vi c), some (vi (3 + (5 * c))), some (vi (J k (28 + (4 * g)))), some (vi (bearW (J k) c (J k (28 + (4 * g)))))]) (S' := [vi 1, vi (3 + (5 * c)), vr k]) k186_79 rfl rfl ?_
      refine ev_s1 (L' := [some (vr k), some (vi g), some (vi c), some (vi (3 + (5 * c))), some (vi (J k (28 + (4 * g)))), some (vi (bearW (J k) c (J k (28 + (4 * g)))))]) (S' := [vi ((3 + (5 * c)) + 1), vr k]) k186_80 rfl rfl ?_
      refine ev_s1 (L' := [some (vr k), some (vi g), some (vi c), some (vi (3 + (5 * c))), some (vi (J k (28 + (4 * g)))), some (vi (bearW (J k) c (J k (28 + (4 * g)))))]) (S' := [vr k, vi ((3 + (5 * c)) + 1), vr k]) k186_81 rfl rfl ?_
      refine ev_s1 (L' := [some (vr k), some (vi g), some (vi c), some (vi (3 + (5 * c))), some (vi (J k (28 + (4 * g)))), some (vi (bearW (J k) c (J k (28 + (4 * g)))))]) (S' := [vi (3 + (5 * c)), vr k, vi ((3 + (5 * c)) + 1), vr k]) k186_82 rfl rfl ?_
      refine ev_iald k186_83 (by omega) (shM8 hk) (by omega) (by omega) ?_
      have rr8 := hJ7.1 k (3 + (5 * c))
      rw [q7 (3 + (5 * c)) (by omega), q4 (3 + (5 * c)) (by omega)]
      rw [q7 (3 + (5 * c)) (by omega), q4 (3 + (5 * c)) (by omega)] at rr8
      refine ev_s1 (L' := [some (vr k), some (vi g), some (vi c), some (vi (3 + (5 * c))), some (vi (J k (28 + (4 * g)))), some (vi (bearW (J k) c (J k (28 + (4 * g)))))]) (S' := [vi 3, vi (J k (3 + (5 * c))), vi ((3 + (5 * c)) + 1), vr k]) k186_84 rfl rfl ?_
      have kj85 : ∀ x3 : Int, x3 = (if J k (3 + 5 * c) = 3 then (J k (3 + 5 * c + 1) + 1) % 10 else J k (3 + 5 * c + 1)) → Ev d 186 106 [some (vr k), some (vi g), some (vi c), some (vi (3 + (5 * c))), some (vi (J k (28 + (4 * g)))), some (vi (bearW (J k) c (J k (28 + (4 * g)))))] [vi x3, vi ((3 + (5 * c)) + 1), vr k] (SM J7) Q := by
        intro x3 hx3
        have xr3 : 0 ≤ x3 ∧ x3 ≤ 9 := by rw [hx3]; split <;> omega
        have mw : manW (kW (J k) c) (J k (3 + 5 * c + 1)) = x3 := by rw [hx3]; unfold manW kW; split <;> split <;> omega
        refine ev_iast k186_106 (by omega) (shM8 hk) (by omega) (by omega) ?_
        show Ev d 186 107 [some (vr k), some (vi g), some (vi c), some (vi (3 + (5 * c))), some (vi (J k (28 + (4 * g)))), some (vi (bearW (J k) c (J k (28 + (4 * g)))))] [] (SM (up J7 k ((3 + (5 * c)) + 1) x3)) Q
        have hJ9 := rz_up hJ7 (k := k) (j := (3 + (5 * c)) + 1) (z := x3) (by omega) (by omega) (by omega)
        have g9 : ∀ aa, aa ≠ k → up J7 k ((3 + (5 * c)) + 1) x3 aa = J7 aa := fun aa h => upf h
        have q9 : ∀ bb, bb ≠ (3 + (5 * c)) + 1 → up J7 k ((3 + (5 * c)) + 1) x3 k bb = J7 k bb := fun bb h => upN (Or.inr h)
        have e9 : up J7 k ((3 + (5 * c)) + 1) x3 k ((3 + (5 * c)) + 1) = x3 := upE rfl rfl
        generalize up J7 k ((3 + (5 * c)) + 1) x3 = J9 at hJ9 g9 q9 e9 ⊢
        refine ev_s1 (L' := [some (vr k), some (vi g), some (vi c), some (vi (3 + (5 * c))), some (vi (J k (28 + (4 * g)))), some (vi (bearW (J k) c (J k (28 + (4 * g)))))]) (S' := [vr k]) k186_107 rfl rfl ?_
        refine ev_s1 (L' := [some (vr k), some (vi g), some (vi c), some (vi (3 + (5 * c))), some (vi (J k (28 + (4 * g)))), some (vi (bearW (J k) c (J k (28 + (4 * g)))))]) (S' := [vi (3 + (5 * c)), vr k]) k186_108 rfl rfl ?_
        refine ev_s1 (L' := [some (vr k), some (vi g), some (vi c), some (vi (3 + (5 * c))), some (vi (J k (28 + (4 * g)))), some (vi (bearW (J k) c (J k (28 + (4 * g)))))]) (S' := [vi 2, vi (3 + (5 * c)), vr k]) k186_109 rfl rfl ?_
        refine ev_s1 (L' := [some (vr k), some (vi g), some (vi c), some (vi (3 + (5 * c))), some (vi (J k (28 + (4 * g)))), some (vi (bearW (J k) c (J k (28 + (4 * g)))))]) (S' := [vi ((3 + (5 * c)) + 2), vr k]) k186_110 rfl rfl ?_
        refine ev_iald k186_111 (by omega) (shM8 hk) (by omega) (by omega) ?_
        have rr10 := hJ9.1 k ((3 + (5 * c)) + 2)
        rw [q9 ((3 + (5 * c)) + 2) (by omega), e7]
        rw [q9 ((3 + (5 * c)) + 2) (by omega), e7] at rr10
        refine ev_s1 (L' := [some (vr k), some (vi g), some (vi c), some (vi (3 + (5 * c))), some (vi (J k (28 + (4 * g)))), some (vi (bearW (J k) c (J k (28 + (4 * g)))))]) (S' := [vr k, vi ((J k ((3 + (5 * c)) + 2)) - x2)]) k186_112 rfl rfl ?_
        refine ev_s1 (L' := [some (vr k), some (vi g), some (vi c), some (vi (3 + (5 * c))), some (vi (J k (28 + (4 * g)))), some (vi (bearW (J k) c (J k (28 + (4 * g)))))]) (S' := [vi 28, vr k, vi ((J k ((3 + (5 * c)) + 2)) - x2)]) k186_113 rfl rfl ?_
        refine ev_s1 (L' := [some (vr k), some (vi g), some (vi c), some (vi (3 + (5 * c))), some (vi (J k (28 + (4 * g)))), some (vi (bearW (J k) c (J k (28 + (4 * g)))))]) (S' := [vi 4, vi 28, vr k, vi ((J k ((3 + (5 * c)) + 2)) - x2)]) k186_115 rfl rfl ?_
        refine ev_s1 (L' := [some (vr k), some (vi g), some (vi c), some (vi (3 + (5 * c))), some (vi (J k (28 + (4 * g)))), some (vi (bearW (J k) c (J k (28 + (4 * g)))))]) (S' := [vi g, vi 4, vi 28, vr k, vi ((J k ((3 + (5 * c)) + 2)) - x2)]) k186_116 rfl rfl ?_
        refine ev_s1 (L' := [some (vr k), some (vi g), some (vi c), some (vi (3 + (5 * c))), some (vi (J k (28 + (4 * g)))), some (vi (bearW (J k) c (J k (28 + (4 * g)))))]) (S' := [vi (4 * g), vi 28, vr k, vi ((J k ((3 + (5 * c)) + 2)) - x2)]) k186_117 rfl rfl ?_
        refine ev_s1 (L' := [some (vr k), some (vi g), some (vi c), some (vi (3 + (5 * c))), some (vi (J k (28 + (4 * g)))), some (vi (bearW (J k) c (J k (28 + (4 * g)))))]) (S' := [vi (28 + (4 * g)), vr k, vi ((J k ((3 + (5 * c)) + 2)) - x2)]) k186_118 rfl rfl ?_
        refine ev_s1 (L' := [some (vr k), some (vi g), some (vi c), some (vi (3 + (5 * c))), some (vi (J k (28 + (4 * g)))), some (vi (bearW (J k) c (J k (28 + (4 * g)))))]) (S' := [vi 1, vi (28 + (4 * g)), vr k, vi ((J k ((3 + (5 * c)) + 2)) - x2)]) k186_119 rfl rfl ?_
        refine ev_s1 (L' := [some (vr k), some (vi g), some (vi c), some (vi (3 + (5 * c))), some (vi (J k (28 + (4 * g)))), some (vi (bearW (J k) c (J k (28 + (4 * g)))))]) (S' := [vi ((28 + (4 * g)) + 1), vr k, vi ((J k ((3 + (5 * c)) + 2)) - x2)]) k186_120 rfl rfl ?_
        refine ev_iald k186_121 (by omega) (shM8 hk) (by omega) (by omega) ?_
        have rr11 := hJ9.1 k ((28 + (4 * g)) + 1)
        rw [q9 ((28 + (4 * g)) + 1) (by omega), q7 ((28 + (4 * g)) + 1) (by omega), q4 ((28 + (4 * g)) + 1) (by omega)]
        rw [q9 ((28 + (4 * g)) + 1) (by omega), q7 ((28 + (4 * g)) + 1) (by omega), q4 ((28 + (4 * g)) + 1) (by omega)] at rr11
        refine ev_c_ge (t := 139) k186_122 rfl (by omega) (by omega) (by omega) (by omega) (fun h12 => ?_) (fun h12 => ?_)
        · refine ev_s1 (L' := [some (vr k), some (vi g), some (vi c), some (vi (3 + (5 * c))), some (vi (J k (28 + (4 * g)))), some (vi (bearW (J k) c (J k (28 + (4 * g)))))]) (S' := [vi (bearW (J k) c (J k (28 + (4 * g))))]) k186_139 rfl rfl ?_
          refine ev_ireturn k186_141 ?_
          refine hQ _ hJ9 (sits_ext ?_ ?_ ?_ (fun b b1 b2 b4 => by rw [q9 b (by omega), q7 b (by omega), q4 b (by omega)])) (fun a ha => ((g9 a (ha)).trans ((g7 a (ha)).trans (g4 a (ha)))))
          · rw [show J9 k (3 + 5 * c + 1) = x3 from (by rw [e9])]
            unfold manA
            rw [sw, if_neg (by omega), mw]
          · rw [show J9 k (3 + 5 * c + 2) = J k (3 + 5 * c + 2) - x2 from (by rw [q9 ((3 + (5 * c)) + 2) (by omega), e7])]
            unfold strA
            rw [sw, if_neg (by omega)]
          · rw [show J9 k (3 + 5 * c + 4) = J k (3 + 5 * c + 4) + x1 from (by rw [q9 ((3 + (5 * c)) + 4) (by omega), q7 ((3 + (5 * c)) + 4) (by omega), e4])]
            exact sa.symm
        · refine ev_s1 (L' := [some (vr k), some (vi g), some (vi c), some (vi (3 + (5 * c))), some (vi (J k (28 + (4 * g)))), some (vi (bearW (J k) c (J k (28 + (4 * g)))))]) (S' := [vr k]) k186_125 rfl rfl ?_
          refine ev_s1 (L' := [some (vr k), some (vi g), some (vi c), some (vi (3 + (5 * c))), some (vi (J k (28 + (4 * g)))), some (vi (bearW (J k) c (J k (28 + (4 * g)))))]) (S' := [vi (3 + (5 * c)), vr k]) k186_126 rfl rfl ?_
          refine ev_s1 (L' := [some (vr k), some (vi g), some (vi c), some (vi (3 + (5 * c))), some (vi (J k (28 + (4 * g)))), some (vi (bearW (J k) c (J k (28 + (4 * g)))))]) (S' := [vi 1, vi (3 + (5 * c)), vr k]) k186_127 rfl rfl ?_
          refine ev_s1 (L' := [some (vr k), some (vi g), some (vi c), some (vi (3 + (5 * c))), some (vi (J k (28 + (4 * g)))), some (vi (bearW (J k) c (J k (28 + (4 * g)))))]) (S' := [vi ((3 + (5 * c)) + 1), vr k]) k186_128 rfl rfl ?_
          refine ev_s1 (L' := [some (vr k), some (vi g), some (vi c), some (vi (3 + (5 * c))), some (vi (J k (28 + (4 * g)))), some (vi (bearW (J k) c (J k (28 + (4 * g)))))]) (S' := [vi (J k (28 + (4 * g))), vi ((3 + (5 * c)) + 1), vr k]) k186_129 rfl rfl ?_
          refine ev_iast k186_131 (by omega) (shM8 hk) (by omega) (by omega) ?_
          show Ev d 186 132 [some (vr k), some (vi g), some (vi c), some (vi (3 + (5 * c))), some (vi (J k (28 + (4 * g)))), some (vi (bearW (J k) c (J k (28 + (4 * g)))))] [] (SM (up J9 k ((3 + (5 * c)) + 1) (J k (28 + (4 * g))))) Q
          have hJ13 := rz_up hJ9 (k := k) (j := (3 + (5 * c)) + 1) (z := J k (28 + (4 * g))) (by omega) (by omega) (by omega)
          have g13 : ∀ aa, aa ≠ k → up J9 k ((3 + (5 * c)) + 1) (J k (28 + (4 * g))) aa = J9 aa := fun aa h => upf h
          have q13 : ∀ bb, bb ≠ (3 + (5 * c)) + 1 → up J9 k ((3 + (5 * c)) + 1) (J k (28 + (4 * g))) k bb = J9 k bb := fun bb h => upN (Or.inr h)
          have e13 : up J9 k ((3 + (5 * c)) + 1) (J k (28 + (4 * g))) k ((3 + (5 * c)) + 1) = J k (28 + (4 * g)) := upE rfl rfl
          generalize up J9 k ((3 + (5 * c)) + 1) (J k (28 + (4 * g))) = J13 at hJ13 g13 q13 e13 ⊢
          refine ev_s1 (L' := [some (vr k), some (vi g), some (vi c), some (vi (3 + (5 * c))), some (vi (J k (28 + (4 * g)))), some (vi (bearW (J k) c (J k (28 + (4 * g)))))]) (S' := [vr k]) k186_132 rfl rfl ?_
          refine ev_s1 (L' := [some (vr k), some (vi g), some (vi c), some (vi (3 + (5 * c))), some (vi (J k (28 + (4 * g)))), some (vi (bearW (J k) c (J k (28 + (4 * g)))))]) (S' := [vi (3 + (5 * c)), vr k]) k186_133 rfl rfl ?_
          refine ev_s1 (L' := [some (vr k), some (vi g), some (vi c), some (vi (3 + (5 * c))), some (vi (J k (28 + (4 * g)))), some (vi (bearW (J k) c (J k (28 + (4 * g)))))]) (S' := [vi 2, vi (3 + (5 * c)), vr k]) k186_134 rfl rfl ?_
          refine ev_s1 (L' := [some (vr k), some (vi g), some (vi c), some (vi (3 + (5 * c))), some (vi (J k (28 + (4 * g)))), some (vi (bearW (J k) c (J k (28 + (4 * g)))))]) (S' := [vi ((3 + (5 * c)) + 2), vr k]) k186_135 rfl rfl ?_
          refine ev_s1 (L' := [some (vr k), some (vi g), some (vi c), some (vi (3 + (5 * c))), some (vi (J k (28 + (4 * g)))), some (vi (bearW (J k) c (J k (28 + (4 * g)))))]) (S' := [vi 16, vi ((3 + (5 * c)) + 2), vr k]) k186_136 rfl rfl ?_
          refine ev_iast k186_138 (by omega) (shM8 hk) (by omega) (by omega) ?_
          show Ev d 186 139 [some (vr k), some (vi g), some (vi c), some (vi (3 + (5 * c))), some (vi (J k (28 + (4 * g)))), some (vi (bearW (J k) c (J k (28 + (4 * g)))))] [] (SM (up J13 k ((3 + (5 * c)) + 2) 16)) Q
          have hJ14 := rz_up hJ13 (k := k) (j := (3 + (5 * c)) + 2) (z := 16) (by omega) (by omega) (by omega)
          have g14 : ∀ aa, aa ≠ k → up J13 k ((3 + (5 * c)) + 2) 16 aa = J13 aa := fun aa h => upf h
          have q14 : ∀ bb, bb ≠ (3 + (5 * c)) + 2 → up J13 k ((3 + (5 * c)) + 2) 16 k bb = J13 k bb := fun bb h => upN (Or.inr h)
          have e14 : up J13 k ((3 + (5 * c)) + 2) 16 k ((3 + (5 * c)) + 2) = 16 := upE rfl rfl
          generalize up J13 k ((3 + (5 * c)) + 2) 16 = J14 at hJ14 g14 q14 e14 ⊢
          refine ev_s1 (L' := [some (vr k), some (vi g), some (vi c), some (vi (3 + (5 * c))), some (vi (J k (28 + (4 * g)))), some (vi (bearW (J k) c (J k (28 + (4 * g)))))]) (S' := [vi (bearW (J k) c (J k (28 + (4 * g))))]) k186_139 rfl rfl ?_
          refine ev_ireturn k186_141 ?_
          refine hQ _ hJ14 (sits_ext ?_ ?_ ?_ (fun b b1 b2 b4 => by rw [q14 b (by omega), q13 b (by omega), q9 b (by omega), q7 b (by omega), q4 b (by omega)])) (fun a ha => ((g14 a (ha)).trans ((g13 a (ha)).trans ((g9 a (ha)).trans ((g7 a (ha)).trans (g4 a (ha)))))))
          · rw [show J14 k (3 + 5 * c + 1) = J k (28 + (4 * g)) from (by rw [q14 ((3 + (5 * c)) + 1) (by omega), e13])]
            unfold manA
            rw [sw, if_pos (by omega)]
          · rw [show J14 k (3 + 5 * c + 2) = 16 from (by rw [e14])]
            unfold strA
            rw [sw, if_pos (by omega)]
          · rw [show J14 k (3 + 5 * c + 4) = J k (3 + 5 * c + 4) + x1 from (by rw [q14 ((3 + (5 * c)) + 4) (by omega), q13 ((3 + (5 * c)) + 4) (by omega), q9 ((3 + (5 * c)) + 4) (by omega), q7 ((3 + (5 * c)) + 4) (by omega), e4])]
            exact sa.symm
      refine ev_c_ne (t := 101) k186_85 rfl (by omega) (by omega) (by omega) (by omega) (fun h15 => ?_) (fun h15 => ?_)
      · refine ev_s1 (L' := [some (vr k), some (vi g), some (vi c), some (vi (3 + (5 * c))), some (vi (J k (28 + (4 * g)))), some (vi (bearW (J k) c (J k (28 + (4 * g)))))]) (S' := [vr k, vi ((3 + (5 * c)) + 1), vr k]) k186_101 rfl rfl ?_
        refine ev_s1 (L' := [some (vr k), some (vi g), some (vi c), some (vi (3 + (5 * c))), some (vi (J k (28 + (4 * g)))), some (vi (bearW (J k) c (J k (28 + (4 * g)))))]) (S' := [vi (3 + (5 * c)), vr k, vi ((3 + (5 * c)) + 1), vr k]) k186_102 rfl rfl ?_
        refine ev_s1 (L' := [some (vr k), some (vi g), some (vi c), some (vi (3 + (5 * c))), some (vi (J k (28 + (4 * g)))), some (vi (bearW (J k) c (J k (28 + (4 * g)))))]) (S' := [vi 1, vi (3 + (5 * c)), vr k, vi ((3 + (5 * c)) + 1), vr k]) k186_103 rfl rfl ?_
        refine ev_s1 (L' := [some (vr k), some (vi g), some (vi c), some (vi (3 + (5 * c))), some (vi (J k (28 + (4 * g)))), some (vi (bearW (J k) c (J k (28 + (4 * g)))))]) (S' := [vi ((3 + (5 * c)) + 1), vr k, vi ((3 + (5 * c)) + 1), vr k]) k186_104 rfl rfl ?_
        refine ev_iald k186_105 (by omega) (shM8 hk) (by omega) (by omega) ?_
        have rr16 := hJ7.1 k ((3 + (5 * c)) + 1)
        rw [q7 ((3 + (5 * c)) + 1) (by omega), q4 ((3 + (5 * c)) + 1) (by omega)]
        rw [q7 ((3 + (5 * c)) + 1) (by omega), q4 ((3 + (5 * c)) + 1) (by omega)] at rr16
        exact kj85 _ (by first | rw [if_pos (by omega)] | rw [if_neg (by omega)])
      · refine ev_s1 (L' := [some (vr k), some (vi g), some (vi c), some (vi (3 + (5 * c))), some (vi (J k (28 + (4 * g)))), some (vi (bearW (J k) c (J k (28 + (4 * g)))))]) (S' := [vr k, vi ((3 + (5 * c)) + 1), vr k]) k186_88 rfl rfl ?_
        refine ev_s1 (L' := [some (vr k), some (vi g), some (vi c), some (vi (3 + (5 * c))), some (vi (J k (28 + (4 * g)))), some (vi (bearW (J k) c (J k (28 + (4 * g)))))]) (S' := [vi (3 + (5 * c)), vr k, vi ((3 + (5 * c)) + 1), vr k]) k186_89 rfl rfl ?_
        refine ev_s1 (L' := [some (vr k), some (vi g), some (vi c), some (vi (3 + (5 * c))), some (vi (J k (28 + (4 * g)))), some (vi (bearW (J k) c (J k (28 + (4 * g)))))]) (S' := [vi 1, vi (3 + (5 * c)), vr k, vi ((3 + (5 * c)) + 1), vr k]) k186_90 rfl rfl ?_
        refine ev_s1 (L' := [some (vr k), some (vi g), some (vi c), some (vi (3 + (5 * c))), some (vi (J k (28 + (4 * g)))), some (vi (bearW (J k) c (J k (28 + (4 * g)))))]) (S' := [vi ((3 + (5 * c)) + 1), vr k, vi ((3 + (5 * c)) + 1), vr k]) k186_91 rfl rfl ?_
        refine ev_iald k186_92 (by omega) (shM8 hk) (by omega) (by omega) ?_
        have rr17 := hJ7.1 k ((3 + (5 * c)) + 1)
        rw [q7 ((3 + (5 * c)) + 1) (by omega), q4 ((3 + (5 * c)) + 1) (by omega)]
        rw [q7 ((3 + (5 * c)) + 1) (by omega), q4 ((3 + (5 * c)) + 1) (by omega)] at rr17
        refine ev_s1 (L' := [some (vr k), some (vi g), some (vi c), some (vi (3 + (5 * c))), some (vi (J k (28 + (4 * g)))), some (vi (bearW (J k) c (J k (28 + (4 * g)))))]) (S' := [vi 1, vi (J k ((3 + (5 * c)) + 1)), vi ((3 + (5 * c)) + 1), vr k]) k186_93 rfl rfl ?_
        refine ev_s1 (L' := [some (vr k), some (vi g), some (vi c), some (vi (3 + (5 * c))), some (vi (J k (28 + (4 * g)))), some (vi (bearW (J k) c (J k (28 + (4 * g)))))]) (S' := [vi ((J k ((3 + (5 * c)) + 1)) + 1), vi ((3 + (5 * c)) + 1), vr k]) k186_94 rfl rfl ?_
        refine ev_s1 (L' := [some (vr k), some (vi g), some (vi c), some (vi (3 + (5 * c))), some (vi (J k (28 + (4 * g)))), some (vi (bearW (J k) c (J k (28 + (4 * g)))))]) (S' := [vi 10, vi ((J k ((3 + (5 * c)) + 1)) + 1), vi ((3 + (5 * c)) + 1), vr k]) k186_95 rfl rfl ?_
        refine ev_irem k186_97 (by omega) (by omega) (by omega) (by omega) ?_
        refine ev_goto (t := 106) k186_98 rfl ?_
        exact kj85 _ (by first | rw [if_pos (by omega)] | rw [if_neg (by omega)])
    refine ev_c_ge (t := 74) k186_59 rfl (by omega) (by omega) (by omega) (by omega) (fun h18 => ?_) (fun h18 => ?_)
    · refine ev_s1 (L' := [some (vr k), some (vi g), some (vi c), some (vi (3 + (5 * c))), some (vi (J k (28 + (4 * g)))), some (vi (bearW (J k) c (J k (28 + (4 * g)))))]) (S' := [vi 0, vi (J k ((3 + (5 * c)) + 2)), vi ((3 + (5 * c)) + 2), vr k]) k186_74 rfl rfl ?_
      exact kj59 _ (by first | rw [if_pos (by omega)] | rw [if_neg (by omega)])
    · refine ev_s1 (L' := [some (vr k), some (vi g), some (vi c), some (vi (3 + (5 * c))), some (vi (J k (28 + (4 * g)))), some (vi (bearW (J k) c (J k (28 + (4 * g)))))]) (S' := [vr k, vi (J k ((3 + (5 * c)) + 2)), vi ((3 + (5 * c)) + 2), vr k]) k186_62 rfl rfl ?_
      refine ev_s1 (L' := [some (vr k), some (vi g), some (vi c), some (vi (3 + (5 * c))), some (vi (J k (28 + (4 * g)))), some (vi (bearW (J k) c (J k (28 + (4 * g)))))]) (S' := [vi (3 + (5 * c)), vr k, vi (J k ((3 + (5 * c)) + 2)), vi ((3 + (5 * c)) + 2), vr k]) k186_63 rfl rfl ?_
      refine ev_s1 (L' := [some (vr k), some (vi g), some (vi c), some (vi (3 + (5 * c))), some (vi (J k (28 + (4 * g)))), some (vi (bearW (J k) c (J k (28 + (4 * g)))))]) (S' := [vi 2, vi (3 + (5 * c)), vr k, vi (J k ((3 + (5 * c)) + 2)), vi ((3 + (5 * c)) + 2), vr k]) k186_64 rfl rfl ?_
      refine ev_s1 (L' := [some (vr k), some (vi g), some (vi c), some (vi (3 + (5 * c))), some (vi (J k (28 + (4 * g)))), some (vi (bearW (J k) c (J k (28 + (4 * g)))))]) (S' := [vi ((3 + (5 * c)) + 2), vr k, vi (J k ((3 + (5 * c)) + 2)), vi ((3 + (5 * c)) + 2), vr k]) k186_65 rfl rfl ?_
      refine ev_iald k186_66 (by omega) (shM8 hk) (by omega) (by omega) ?_
      have rr19 := hJ4.1 k ((3 + (5 * c)) + 2)
      rw [q4 ((3 + (5 * c)) + 2) (by omega)]
      rw [q4 ((3 + (5 * c)) + 2) (by omega)] at rr19
      refine ev_s1 (L' := [some (vr k), some (vi g), some (vi c), some (vi (3 + (5 * c))), some (vi (J k (28 + (4 * g)))), some (vi (bearW (J k) c (J k (28 + (4 * g)))))]) (S' := [vi 3, vi (J k ((3 + (5 * c)) + 2)), vi (J k ((3 + (5 * c)) + 2)), vi ((3 + (5 * c)) + 2), vr k]) k186_67 rfl rfl ?_
      refine ev_s1 (L' := [some (vr k), some (vi g), some (vi c), some (vi (3 + (5 * c))), some (vi (J k (28 + (4 * g)))), some (vi (bearW (J k) c (J k (28 + (4 * g)))))]) (S' := [vi ((J k ((3 + (5 * c)) + 2)) + 3), vi (J k ((3 + (5 * c)) + 2)), vi ((3 + (5 * c)) + 2), vr k]) k186_68 rfl rfl ?_
      refine ev_s1 (L' := [some (vr k), some (vi g), some (vi c), some (vi (3 + (5 * c))), some (vi (J k (28 + (4 * g)))), some (vi (bearW (J k) c (J k (28 + (4 * g)))))]) (S' := [vi 4, vi ((J k ((3 + (5 * c)) + 2)) + 3), vi (J k ((3 + (5 * c)) + 2)), vi ((3 + (5 * c)) + 2), vr k]) k186_69 rfl rfl ?_
      refine ev_idiv k186_70 (by omega) (by omega) (by omega) (by omega) ?_
      refine ev_goto (t := 75) k186_71 rfl ?_
      exact kj59 _ (by first | rw [if_pos (by omega)] | rw [if_neg (by omega)])
  refine ev_c_ge (t := 46) k186_39 rfl (by omega) (by omega) (by omega) (by omega) (fun h20 => ?_) (fun h20 => ?_)
  · refine ev_s1 (L' := [some (vr k), some (vi g), some (vi c), some (vi (3 + (5 * c))), some (vi (J k (28 + (4 * g)))), some (vi (bearW (J k) c (J k (28 + (4 * g)))))]) (S' := [vi 0, vi (J k ((3 + (5 * c)) + 4)), vi ((3 + (5 * c)) + 4), vr k]) k186_46 rfl rfl ?_
    exact kj39 _ (by first | rw [if_pos (by omega)] | rw [if_neg (by omega)])
  · refine ev_s1 (L' := [some (vr k), some (vi g), some (vi c), some (vi (3 + (5 * c))), some (vi (J k (28 + (4 * g)))), some (vi (bearW (J k) c (J k (28 + (4 * g)))))]) (S' := [vi 1, vi (J k ((3 + (5 * c)) + 4)), vi ((3 + (5 * c)) + 4), vr k]) k186_42 rfl rfl ?_
    refine ev_goto (t := 47) k186_43 rfl ?_
    exact kj39 _ (by first | rw [if_pos (by omega)] | rw [if_neg (by omega)])

set_option maxHeartbeats 1000000 in
theorem m_sitl {d : Nat} {J : Nat → Int → Int} {Q : Option jV → jS → Prop} (hJ : RZ J) {k : Nat} (hk : 6 ≤ k ∧ k ≤ 8) {c : Int} (c0 : 0 ≤ c) (c1 : c < 1000) (z0 : 0 ≤ J k 2) (z5 : J k 2 ≤ 5) (hQ : Q (some (vi (sitW (J k) c))) (SM J)) : ∀ (n : Nat) (i : Nat), J k 2 - i < n → (i : Int) ≤ J k 2 → (∀ j : Nat, j < i → J k (28 + 4 * (j : Int) + 2) ≠ c + 1) → Ev d 187 2 [some (vr k), some (vi c), some (vi (i : Int))] [] (SM J) Q := by
  intro n
  induction n with
  | zero =>
    intro i hi hi2 hN
    exfalso; omega
  | succ n ih =>
    intro i hi hi2 hN
    refine ev_s1 (L' := [some (vr k), some (vi c), some (vi (i : Int))]) (S' := [vi (i : Int)]) k187_2 rfl rfl ?_
    refine ev_s1 (L' := [some (vr k), some (vi c), some (vi (i : Int))]) (S' := [vr k, vi (i : Int)]) k187_3 rfl rfl ?_
    refine ev_s1 (L' := [some (vr k), some (vi c), some (vi (i : Int))]) (S' := [vi 2, vr k, vi (i : Int)]) k187_4 rfl rfl ?_
    refine ev_iald k187_5 (by omega) (shM8 hk) (by omega) (by omega) ?_
    have rr1 := hJ.1 k 2
    refine ev_c_ge (t := 33) k187_6 rfl (by omega) (by omega) (by omega) (by omega) (fun h2 => ?_) (fun h2 => ?_)
    · refine ev_ldc k187_33 ?_
      refine ev_ireturn k187_35 ?_
      unfold sitW at hQ
      rw [first_no (fun j hj => decide_eq_false (hN j (by omega)))] at hQ
      exact hQ
    · refine ev_s1 (L' := [some (vr k), some (vi c), some (vi (i : Int))]) (S' := [vr k]) k187_9 rfl rfl ?_
      refine ev_s1 (L' := [some (vr k), some (vi c), some (vi (i : Int))]) (S' := [vi 28, vr k]) k187_10 rfl rfl ?_
      refine ev_s1 (L' := [some (vr k), some (vi c), some (vi (i : Int))]) (S' := [vi 4, vi 28, vr k]) k187_12 rfl rfl ?_
      refine ev_s1 (L' := [some (vr k), some (vi c), some (vi (i : Int))]) (S' := [vi (i : Int), vi 4, vi 28, vr k]) k187_13 rfl rfl ?_
      refine ev_s1 (L' := [some (vr k), some (vi c), some (vi (i : Int))]) (S' := [vi (4 * (i : Int)), vi 28, vr k]) k187_14 rfl rfl ?_
      refine ev_s1 (L' := [some (vr k), some (vi c), some (vi (i : Int))]) (S' := [vi (28 + (4 * (i : Int))), vr k]) k187_15 rfl rfl ?_
      refine ev_s1 (L' := [some (vr k), some (vi c), some (vi (i : Int))]) (S' := [vi 2, vi (28 + (4 * (i : Int))), vr k]) k187_16 rfl rfl ?_
      refine ev_s1 (L' := [some (vr k), some (vi c), some (vi (i : Int))]) (S' := [vi ((28 + (4 * (i : Int))) + 2), vr k]) k187_17 rfl rfl ?_
      refine ev_iald k187_18 (by omega) (shM8 hk) (by omega) (by omega) ?_
      have rr3 := hJ.1 k ((28 + (4 * (i : Int))) + 2)
      refine ev_s1 (L' := [some (vr k), some (vi c), some (vi (i : Int))]) (S' := [vi c, vi (J k ((28 + (4 * (i : Int))) + 2))]) k187_19 rfl rfl ?_
      refine ev_s1 (L' := [some (vr k), some (vi c), some (vi (i : Int))]) (S' := [vi 1, vi c, vi (J k ((28 + (4 * (i : Int))) + 2))]) k187_20 rfl rfl ?_
      refine ev_s1 (L' := [some (vr k), some (vi c), some (vi (i : Int))]) (S' := [vi (c + 1), vi (J k ((28 + (4 * (i : Int))) + 2))]) k187_21 rfl rfl ?_
      refine ev_c_ne (t := 27) k187_22 rfl (by omega) (by omega) (by omega) (by omega) (fun h4 => ?_) (fun h4 => ?_)
      · refine ev_s1 (L' := [some (vr k), some (vi c), some (vi ((i : Int) + 1))]) (S' := []) k187_27 rfl rfl ?_
        refine ev_goto (t := 2) k187_30 rfl ?_
        exact ih (i + 1) (by omega) (by omega) (fun j hj => by rcases Nat.lt_or_ge j i with q | q; (exact hN j q); (rw [show j = i by omega]; omega))
      · refine ev_s1 (L' := [some (vr k), some (vi c), some (vi (i : Int))]) (S' := [vi (i : Int)]) k187_25 rfl rfl ?_
        refine ev_ireturn k187_26 ?_
        unfold sitW at hQ
        rw [first_at (i := i) (decide_eq_true (by omega)) (fun j hj => decide_eq_false (hN j hj)) (by omega)] at hQ
        exact hQ

set_option maxHeartbeats 1000000 in
theorem m_sitter {d : Nat} {J : Nat → Int → Int} {Q : Option jV → jS → Prop} (hJ : RZ J) {k : Nat} (hk : 6 ≤ k ∧ k ≤ 8) {c : Int} (c0 : 0 ≤ c) (c1 : c < 1000) (z0 : 0 ≤ J k 2) (z5 : J k 2 ≤ 5) (hQ : Q (some (vi (sitW (J k) c))) (SM J)) : Cl d 187 [vr k, vi c] (SM J) Q := by
  refine ⟨by rw [l187]; exact Nat.le_of_ble_eq_true rfl, ?_⟩
  rw [l187]
  show Ev d 187 0 [some (vr k), some (vi c), none] [] (SM J) Q
  refine ev_s1 (L' := [some (vr k), some (vi c), none]) (S' := [vi 0]) k187_0 rfl rfl ?_
  refine ev_s1 (L' := [some (vr k), some (vi c), some (vi 0)]) (S' := []) k187_1 rfl rfl ?_
  exact m_sitl hJ hk c0 c1 z0 z5 hQ 6 0 (by omega) (by omega) (fun j hj => absurd hj (Nat.not_lt_zero j))

set_option maxHeartbeats 1000000 in
theorem m_puts {d : Nat} {J : Nat → Int → Int} {Q : Option jV → jS → Prop} (hJ : RZ J) {k : Nat} (hk : 6 ≤ k ∧ k ≤ 8) {g c : Int} (g0 : 0 ≤ g) (g5 : g < 5) (c0 : 0 ≤ c) (c5 : c < 5) (hC : OKC (J k) c) (go : 0 ≤ J k (28 + 4 * g) ∧ J k (28 + 4 * g) ≤ 9) (gw : 1 ≤ J k (28 + 4 * g + 1) ∧ J k (28 + 4 * g + 1) ≤ 9) (hd : 3 ≤ d) (hQ : ∀ J', RZ J' → J' k = putsW (J k) g c → (∀ a, a ≠ k → J' a = J a) → Q none (SM J')) : Cl d 188 [vr k, vi g, vi c] (SM J) Q := by
  refine ⟨by rw [l188]; exact Nat.le_of_ble_eq_true rfl, ?_⟩
  rw [l188]
  show Ev d 188 0 [some (vr k), some (vi g), some (vi c)] [] (SM J) Q
  refine ev_s1 (L' := [some (vr k), some (vi g), some (vi c)]) (S' := [vr k]) k188_0 rfl rfl ?_
  refine ev_s1 (L' := [some (vr k), some (vi g), some (vi c)]) (S' := [vi 28, vr k]) k188_1 rfl rfl ?_
  refine ev_s1 (L' := [some (vr k), some (vi g), some (vi c)]) (S' := [vi 4, vi 28, vr k]) k188_3 rfl rfl ?_
  refine ev_s1 (L' := [some (vr k), some (vi g), some (vi c)]) (S' := [vi g, vi 4, vi 28, vr k]) k188_4 rfl rfl ?_
  refine ev_s1 (L' := [some (vr k), some (vi g), some (vi c)]) (S' := [vi (4 * g), vi 28, vr k]) k188_5 rfl rfl ?_
  refine ev_s1 (L' := [some (vr k), some (vi g), some (vi c)]) (S' := [vi (28 + (4 * g)), vr k]) k188_6 rfl rfl ?_
  refine ev_s1 (L' := [some (vr k), some (vi g), some (vi c)]) (S' := [vi 3, vi (28 + (4 * g)), vr k]) k188_7 rfl rfl ?_
  refine ev_s1 (L' := [some (vr k), some (vi g), some (vi c)]) (S' := [vi ((28 + (4 * g)) + 3), vr k]) k188_8 rfl rfl ?_
  refine ev_s1 (L' := [some (vr k), some (vi g), some (vi c)]) (S' := [vr k, vi ((28 + (4 * g)) + 3), vr k]) k188_9 rfl rfl ?_
  refine ev_s1 (L' := [some (vr k), some (vi g), some (vi c)]) (S' := [vi g, vr k, vi ((28 + (4 * g)) + 3), vr k]) k188_10 rfl rfl ?_
  refine ev_s1 (L' := [some (vr k), some (vi g), some (vi c)]) (S' := [vi c, vi g, vr k, vi ((28 + (4 * g)) + 3), vr k]) k188_11 rfl rfl ?_
  refine ev_static (a := [vr k, vi g, vi c]) (S' := [vi ((28 + (4 * g)) + 3), vr k]) k188_12 rfl (Nat.le_of_ble_eq_true rfl) (by omega) ?_
  refine m_sits hJ (k := k) (by omega) (g := g) (c := c) (by omega) (by omega) (by omega) (by omega) (by exact hC) (by exact go) (by exact gw) (by omega) (fun J1 hJ1 w1 f1 => ?_)
  have bo12 := bear_okc (o := (J k) (28 + 4 * g)) hC go.1 go.2
  show Ev d 188 15 [some (vr k), some (vi g), some (vi c)] [vi (bearW (J k) c ((J k) (28 + 4 * g))), vi ((28 + (4 * g)) + 3), vr k] (SM J1) Q
  refine ev_iast k188_15 (by omega) (shM8 hk) (by omega) (by omega) ?_
  show Ev d 188 16 [some (vr k), some (vi g), some (vi c)] [] (SM (up J1 k ((28 + (4 * g)) + 3) (bearW (J k) c ((J k) (28 + 4 * g))))) Q
  have hJ2 := rz_up hJ1 (k := k) (j := (28 + (4 * g)) + 3) (z := bearW (J k) c ((J k) (28 + 4 * g))) (by omega) (by omega) (by omega)
  have g2 : ∀ aa, aa ≠ k → up J1 k ((28 + (4 * g)) + 3) (bearW (J k) c ((J k) (28 + 4 * g))) aa = J1 aa := fun aa h => upf h
  have q2 : ∀ bb, bb ≠ (28 + (4 * g)) + 3 → up J1 k ((28 + (4 * g)) + 3) (bearW (J k) c ((J k) (28 + 4 * g))) k bb = J1 k bb := fun bb h => upN (Or.inr h)
  have e2 : up J1 k ((28 + (4 * g)) + 3) (bearW (J k) c ((J k) (28 + 4 * g))) k ((28 + (4 * g)) + 3) = bearW (J k) c ((J k) (28 + 4 * g)) := upE rfl rfl
  generalize up J1 k ((28 + (4 * g)) + 3) (bearW (J k) c ((J k) (28 + 4 * g))) = J2 at hJ2 g2 q2 e2 ⊢
  refine ev_s1 (L' := [some (vr k), some (vi g), some (vi c)]) (S' := [vr k]) k188_16 rfl rfl ?_
  refine ev_s1 (L' := [some (vr k), some (vi g), some (vi c)]) (S' := [vi 28, vr k]) k188_17 rfl rfl ?_
  refine ev_s1 (L' := [some (vr k), some (vi g), some (vi c)]) (S' := [vi 4, vi 28, vr k]) k188_19 rfl rfl ?_
  refine ev_s1 (L' := [some (vr k), some (vi g), some (vi c)]) (S' := [vi g, vi 4, vi 28, vr k]) k188_20 rfl rfl ?_
  refine ev_s1 (L' := [some (vr k), some (vi g), some (vi c)]) (S' := [vi (4 * g), vi 28, vr k]) k188_21 rfl rfl ?_
  refine ev_s1 (L' := [some (vr k), some (vi g), some (vi c)]) (S' := [vi (28 + (4 * g)), vr k]) k188_22 rfl rfl ?_
  refine ev_s1 (L' := [some (vr k), some (vi g), some (vi c)]) (S' := [vi 2, vi (28 + (4 * g)), vr k]) k188_23 rfl rfl ?_
  refine ev_s1 (L' := [some (vr k), some (vi g), some (vi c)]) (S' := [vi ((28 + (4 * g)) + 2), vr k]) k188_24 rfl rfl ?_
  refine ev_s1 (L' := [some (vr k), some (vi g), some (vi c)]) (S' := [vi c, vi ((28 + (4 * g)) + 2), vr k]) k188_25 rfl rfl ?_
  refine ev_s1 (L' := [some (vr k), some (vi g), some (vi c)]) (S' := [vi 1, vi c, vi ((28 + (4 * g)) + 2), vr k]) k188_26 rfl rfl ?_
  refine ev_s1 (L' := [some (vr k), some (vi g), some (vi c)]) (S' := [vi (c + 1), vi ((28 + (4 * g)) + 2), vr k]) k188_27 rfl rfl ?_
  refine ev_iast k188_28 (by omega) (shM8 hk) (by omega) (by omega) ?_
  show Ev d 188 29 [some (vr k), some (vi g), some (vi c)] [] (SM (up J2 k ((28 + (4 * g)) + 2) (c + 1))) Q
  have hJ3 := rz_up hJ2 (k := k) (j := (28 + (4 * g)) + 2) (z := c + 1) (by omega) (by omega) (by omega)
  have g3 : ∀ aa, aa ≠ k → up J2 k ((28 + (4 * g)) + 2) (c + 1) aa = J2 aa := fun aa h => upf h
  have q3 : ∀ bb, bb ≠ (28 + (4 * g)) + 2 → up J2 k ((28 + (4 * g)) + 2) (c + 1) k bb = J2 k bb := fun bb h => upN (Or.inr h)
  have e3 : up J2 k ((28 + (4 * g)) + 2) (c + 1) k ((28 + (4 * g)) + 2) = c + 1 := upE rfl rfl
  generalize up J2 k ((28 + (4 * g)) + 2) (c + 1) = J3 at hJ3 g3 q3 e3 ⊢
  refine ev_return k188_29 ?_
  refine hQ _ hJ3 (puts_ext (by rw [q3 ((28 + (4 * g)) + 3) (by omega), e2]) (by rw [e3]) (fun b b3 b2 => by rw [q3 b (by omega), q2 b (by omega), w1])) (fun a ha => ((g3 a (ha)).trans ((g2 a (ha)).trans (f1 a (ha)))))

set_option maxHeartbeats 1000000 in
theorem m_isTrio {d : Nat} {J : Nat → Int → Int} {Q : Option jV → jS → Prop} (hJ : RZ J) {k : Nat} (hk : 6 ≤ k ∧ k ≤ 8) {c : Int} (c0 : 0 ≤ c) (c5 : c < 5) (z5 : J k 1 ≤ 5) (hT : triB (J k) c = true → Q (some (vi 1)) (SM J)) (hF : triB (J k) c = false → Q (some (vi 0)) (SM J)) : Cl d 190 [vr k, vi c] (SM J) Q := by
  refine ⟨by rw [l190]; exact Nat.le_of_ble_eq_true rfl, ?_⟩
  rw [l190]
  show Ev d 190 0 [some (vr k), some (vi c), none] [] (SM J) Q
  refine ev_s1 (L' := [some (vr k), some (vi c), none]) (S' := [vr k]) k190_0 rfl rfl ?_
  refine ev_s1 (L' := [some (vr k), some (vi c), none]) (S' := [vi 3, vr k]) k190_1 rfl rfl ?_
  refine ev_s1 (L' := [some (vr k), some (vi c), none]) (S' := [vi 5, vi 3, vr k]) k190_2 rfl rfl ?_
  refine ev_s1 (L' := [some (vr k), some (vi c), none]) (S' := [vi c, vi 5, vi 3, vr k]) k190_3 rfl rfl ?_
  refine ev_s1 (L' := [some (vr k), some (vi c), none]) (S' := [vi (5 * c), vi 3, vr k]) k190_4 rfl rfl ?_
  refine ev_s1 (L' := [some (vr k), some (vi c), none]) (S' := [vi (3 + (5 * c)), vr k]) k190_5 rfl rfl ?_
  refine ev_s1 (L' := [some (vr k), some (vi c), none]) (S' := [vi 3, vi (3 + (5 * c)), vr k]) k190_6 rfl rfl ?_
  refine ev_s1 (L' := [some (vr k), some (vi c), none]) (S' := [vi ((3 + (5 * c)) + 3), vr k]) k190_7 rfl rfl ?_
  refine ev_iald k190_8 (by omega) (shM8 hk) (by omega) (by omega) ?_
  have rr1 := hJ.1 k ((3 + (5 * c)) + 3)
  refine ev_s1 (L' := [some (vr k), some (vi c), some (vi (J k ((3 + (5 * c)) + 3)))]) (S' := []) k190_9 rfl rfl ?_
  refine ev_s1 (L' := [some (vr k), some (vi c), some (vi (J k ((3 + (5 * c)) + 3)))]) (S' := [vi c]) k190_10 rfl rfl ?_
  refine ev_s1 (L' := [some (vr k), some (vi c), some (vi (J k ((3 + (5 * c)) + 3)))]) (S' := [vi 2, vi c]) k190_11 rfl rfl ?_
  refine ev_s1 (L' := [some (vr k), some (vi c), some (vi (J k ((3 + (5 * c)) + 3)))]) (S' := [vi (c + 2)]) k190_12 rfl rfl ?_
  refine ev_s1 (L' := [some (vr k), some (vi c), some (vi (J k ((3 + (5 * c)) + 3)))]) (S' := [vr k, vi (c + 2)]) k190_13 rfl rfl ?_
  refine ev_s1 (L' := [some (vr k), some (vi c), some (vi (J k ((3 + (5 * c)) + 3)))]) (S' := [vi 1, vr k, vi (c + 2)]) k190_14 rfl rfl ?_
  refine ev_iald k190_15 (by omega) (shM8 hk) (by omega) (by omega) ?_
  have rr2 := hJ.1 k 1
  refine ev_c_ge (t := 54) k190_16 rfl (by omega) (by omega) (by omega) (by omega) (fun h3 => ?_) (fun h3 => ?_)
  · refine ev_s1 (L' := [some (vr k), some (vi c), some (vi (J k ((3 + (5 * c)) + 3)))]) (S' := [vi 0]) k190_54 rfl rfl ?_
    refine ev_zreturn k190_55 (by decide) ?_
    exact hF (by unfold triB; exact decide_eq_false (by omega))
  · refine ev_s1 (L' := [some (vr k), some (vi c), some (vi (J k ((3 + (5 * c)) + 3)))]) (S' := [vr k]) k190_19 rfl rfl ?_
    refine ev_s1 (L' := [some (vr k), some (vi c), some (vi (J k ((3 + (5 * c)) + 3)))]) (S' := [vi 3, vr k]) k190_20 rfl rfl ?_
    refine ev_s1 (L' := [some (vr k), some (vi c), some (vi (J k ((3 + (5 * c)) + 3)))]) (S' := [vi 5, vi 3, vr k]) k190_21 rfl rfl ?_
    refine ev_s1 (L' := [some (vr k), some (vi c), some (vi (J k ((3 + (5 * c)) + 3)))]) (S' := [vi c, vi 5, vi 3, vr k]) k190_22 rfl rfl ?_
    refine ev_s1 (L' := [some (vr k), some (vi c), some (vi (J k ((3 + (5 * c)) + 3)))]) (S' := [vi (5 * c), vi 3, vr k]) k190_23 rfl rfl ?_
    refine ev_s1 (L' := [some (vr k), some (vi c), some (vi (J k ((3 + (5 * c)) + 3)))]) (S' := [vi (3 + (5 * c)), vr k]) k190_24 rfl rfl ?_
    refine ev_s1 (L' := [some (vr k), some (vi c), some (vi (J k ((3 + (5 * c)) + 3)))]) (S' := [vi 5, vi (3 + (5 * c)), vr k]) k190_25 rfl rfl ?_
    refine ev_s1 (L' := [some (vr k), some (vi c), some (vi (J k ((3 + (5 * c)) + 3)))]) (S' := [vi ((3 + (5 * c)) + 5), vr k]) k190_26 rfl rfl ?_
    refine ev_s1 (L' := [some (vr k), some (vi c), some (vi (J k ((3 + (5 * c)) + 3)))]) (S' := [vi 3, vi ((3 + (5 * c)) + 5), vr k]) k190_27 rfl rfl ?_
    refine ev_s1 (L' := [some (vr k), some (vi c), some (vi (J k ((3 + (5 * c)) + 3)))]) (S' := [vi (((3 + (5 * c)) + 5) + 3), vr k]) k190_28 rfl rfl ?_
    refine ev_iald k190_29 (by omega) (shM8 hk) (by omega) (by omega) ?_
    have rr4 := hJ.1 k (((3 + (5 * c)) + 5) + 3)
    refine ev_s1 (L' := [some (vr k), some (vi c), some (vi (J k ((3 + (5 * c)) + 3)))]) (S' := [vi (J k ((3 + (5 * c)) + 3)), vi (J k (((3 + (5 * c)) + 5) + 3))]) k190_30 rfl rfl ?_
    refine ev_c_ne (t := 54) k190_31 rfl (by omega) (by omega) (by omega) (by omega) (fun h5 => ?_) (fun h5 => ?_)
    · refine ev_s1 (L' := [some (vr k), some (vi c), some (vi (J k ((3 + (5 * c)) + 3)))]) (S' := [vi 0]) k190_54 rfl rfl ?_
      refine ev_zreturn k190_55 (by decide) ?_
      exact hF (by unfold triB; exact decide_eq_false (by omega))
    · refine ev_s1 (L' := [some (vr k), some (vi c), some (vi (J k ((3 + (5 * c)) + 3)))]) (S' := [vr k]) k190_34 rfl rfl ?_
      refine ev_s1 (L' := [some (vr k), some (vi c), some (vi (J k ((3 + (5 * c)) + 3)))]) (S' := [vi 3, vr k]) k190_35 rfl rfl ?_
      refine ev_s1 (L' := [some (vr k), some (vi c), some (vi (J k ((3 + (5 * c)) + 3)))]) (S' := [vi 5, vi 3, vr k]) k190_36 rfl rfl ?_
      refine ev_s1 (L' := [some (vr k), some (vi c), some (vi (J k ((3 + (5 * c)) + 3)))]) (S' := [vi c, vi 5, vi 3, vr k]) k190_37 rfl rfl ?_
      refine ev_s1 (L' := [some (vr k), some (vi c), some (vi (J k ((3 + (5 * c)) + 3)))]) (S' := [vi (5 * c), vi 3, vr k]) k190_38 rfl rfl ?_
      refine ev_s1 (L' := [some (vr k), some (vi c), some (vi (J k ((3 + (5 * c)) + 3)))]) (S' := [vi (3 + (5 * c)), vr k]) k190_39 rfl rfl ?_
      refine ev_s1 (L' := [some (vr k), some (vi c), some (vi (J k ((3 + (5 * c)) + 3)))]) (S' := [vi 10, vi (3 + (5 * c)), vr k]) k190_40 rfl rfl ?_
      refine ev_s1 (L' := [some (vr k), some (vi c), some (vi (J k ((3 + (5 * c)) + 3)))]) (S' := [vi ((3 + (5 * c)) + 10), vr k]) k190_42 rfl rfl ?_
      refine ev_s1 (L' := [some (vr k), some (vi c), some (vi (J k ((3 + (5 * c)) + 3)))]) (S' := [vi 3, vi ((3 + (5 * c)) + 10), vr k]) k190_43 rfl rfl ?_
      refine ev_s1 (L' := [some (vr k), some (vi c), some (vi (J k ((3 + (5 * c)) + 3)))]) (S' := [vi (((3 + (5 * c)) + 10) + 3), vr k]) k190_44 rfl rfl ?_
      refine ev_iald k190_45 (by omega) (shM8 hk) (by omega) (by omega) ?_
      have rr6 := hJ.1 k (((3 + (5 * c)) + 10) + 3)
      refine ev_s1 (L' := [some (vr k), some (vi c), some (vi (J k ((3 + (5 * c)) + 3)))]) (S' := [vi (J k ((3 + (5 * c)) + 3)), vi (J k (((3 + (5 * c)) + 10) + 3))]) k190_46 rfl rfl ?_
      refine ev_c_ne (t := 54) k190_47 rfl (by omega) (by omega) (by omega) (by omega) (fun h7 => ?_) (fun h7 => ?_)
      · refine ev_s1 (L' := [some (vr k), some (vi c), some (vi (J k ((3 + (5 * c)) + 3)))]) (S' := [vi 0]) k190_54 rfl rfl ?_
        refine ev_zreturn k190_55 (by decide) ?_
        exact hF (by unfold triB; exact decide_eq_false (by omega))
      · refine ev_s1 (L' := [some (vr k), some (vi c), some (vi (J k ((3 + (5 * c)) + 3)))]) (S' := [vi 1]) k190_50 rfl rfl ?_
        refine ev_goto (t := 55) k190_51 rfl ?_
        refine ev_zreturn k190_55 (by decide) ?_
        exact hT (by unfold triB; exact decide_eq_true ⟨by omega, by omega, by omega⟩)

set_option maxHeartbeats 1000000 in
theorem m_pel {d : Nat} {J : Nat → Int → Int} {Q : Option jV → jS → Prop} (hJ : RZ J) {k : Nat} (hk : 6 ≤ k ∧ k ≤ 8) (hw : OKW (J k)) (hd : 1 ≤ d) (hQ : Q (some (vi (peW (J k)))) (SM J)) : ∀ (n : Nat) (i : Nat) (t : Int) (u1 u2 u3 : Option jV), J k 1 - i < n → ((i : Int) ≤ J k 1 - 1 ∨ i = 0) → t = sumF (paiW (J k)) i → Ev d 189 4 [some (vr k), some (vi t), some (vi (i : Int)), u1, u2, u3] [] (SM J) Q := by
  intro n
  induction n with
  | zero =>
    intro i t u1 u2 u3 hi hi2 ht
    have w1 := hw.2.1
    exfalso; omega
  | succ n ih =>
    intro i t u1 u2 u3 hi hi2 ht
    have w1 := hw.2.1
    have w2 := hw.2.2.1
    refine ev_s1 (L' := [some (vr k), some (vi t), some (vi (i : Int)), u1, u2, u3]) (S' := [vi (i : Int)]) k189_4 rfl rfl ?_
    refine ev_s1 (L' := [some (vr k), some (vi t), some (vi (i : Int)), u1, u2, u3]) (S' := [vi 1, vi (i : Int)]) k189_5 rfl rfl ?_
    refine ev_s1 (L' := [some (vr k), some (vi t), some (vi (i : Int)), u1, u2, u3]) (S' := [vi ((i : Int) + 1)]) k189_6 rfl rfl ?_
    refine ev_s1 (L' := [some (vr k), some (vi t), some (vi (i : Int)), u1, u2, u3]) (S' := [vr k, vi ((i : Int) + 1)]) k189_7 rfl rfl ?_
    refine ev_s1 (L' := [some (vr k), some (vi t), some (vi (i : Int)), u1, u2, u3]) (S' := [vi 1, vr k, vi ((i : Int) + 1)]) k189_8 rfl rfl ?_
    refine ev_iald k189_9 (by omega) (shM8 hk) (by omega) (by omega) ?_
    have rr1 := hJ.1 k 1
    refine ev_c_ge (t := 129) k189_10 rfl (by omega) (by omega) (by omega) (by omega) (fun h2 => ?_) (fun h2 => ?_)
    · refine ev_s1 (L' := [some (vr k), some (vi t), some (vi (i : Int)), u1, u2, u3]) (S' := [vi t]) k189_129 rfl rfl ?_
      refine ev_ireturn k189_130 ?_
      unfold peW at hQ
      rw [show (J k 1 - 1).toNat = i by omega, ← ht] at hQ
      exact hQ
    · refine ev_s1 (L' := [some (vr k), some (vi t), some (vi (i : Int)), u1, u2, u3]) (S' := [vr k]) k189_13 rfl rfl ?_
      refine ev_s1 (L' := [some (vr k), some (vi t), some (vi (i : Int)), u1, u2, u3]) (S' := [vi (i : Int), vr k]) k189_14 rfl rfl ?_
      refine ev_static (a := [vr k, vi (i : Int)]) (S' := []) k189_15 rfl (Nat.le_of_ble_eq_true rfl) (by omega) ?_
      refine m_sitter hJ (k := k) (by omega) (c := (i : Int)) (by omega) (by omega) (by omega) (by omega) (?_)
      have sr15 := sit_rng (J k) (i : Int) (by omega)
      show Ev d 189 18 [some (vr k), some (vi t), some (vi (i : Int)), u1, u2, u3] [vi (sitW (J k) (i : Int))] (SM J) Q
      refine ev_s1 (L' := [some (vr k), some (vi t), some (vi (i : Int)), some (vi (sitW (J k) (i : Int))), u2, u3]) (S' := []) k189_18 rfl rfl ?_
      refine ev_s1 (L' := [some (vr k), some (vi t), some (vi (i : Int)), some (vi (sitW (J k) (i : Int))), u2, u3]) (S' := [vr k]) k189_19 rfl rfl ?_
      refine ev_s1 (L' := [some (vr k), some (vi t), some (vi (i : Int)), some (vi (sitW (J k) (i : Int))), u2, u3]) (S' := [vi (i : Int), vr k]) k189_20 rfl rfl ?_
      refine ev_s1 (L' := [some (vr k), some (vi t), some (vi (i : Int)), some (vi (sitW (J k) (i : Int))), u2, u3]) (S' := [vi 1, vi (i : Int), vr k]) k189_21 rfl rfl ?_
      refine ev_s1 (L' := [some (vr k), some (vi t), some (vi (i : Int)), some (vi (sitW (J k) (i : Int))), u2, u3]) (S' := [vi ((i : Int) + 1), vr k]) k189_22 rfl rfl ?_
      refine ev_static (a := [vr k, vi ((i : Int) + 1)]) (S' := []) k189_23 rfl (Nat.le_of_ble_eq_true rfl) (by omega) ?_
      refine m_sitter hJ (k := k) (by omega) (c := (i : Int) + 1) (by omega) (by omega) (by omega) (by omega) (?_)
      have sr23 := sit_rng (J k) ((i : Int) + 1) (by omega)
      show Ev d 189 26 [some (vr k), some (vi t), some (vi (i : Int)), some (vi (sitW (J k) (i : Int))), u2, u3] [vi (sitW (J k) ((i : Int) + 1))] (SM J) Q
      refine ev_s1 (L' := [some (vr k), some (vi t), some (vi (i : Int)), some (vi (sitW (J k) (i : Int))), some (vi (sitW (J k) ((i : Int) + 1))), u3]) (S' := []) k189_26 rfl rfl ?_
      refine ev_s1 (L' := [some (vr k), some (vi t), some (vi (i : Int)), some (vi (sitW (J k) (i : Int))), some (vi (sitW (J k) ((i : Int) + 1))), u3]) (S' := [vi (sitW (J k) (i : Int))]) k189_28 rfl rfl ?_
      refine ev_ldc k189_29 ?_
      refine ev_c_eq (t := 123) k189_31 rfl (by omega) (by omega) (by omega) (by omega) (fun h3 => ?_) (fun h3 => ?_)
      · refine ev_s1 (L' := [some (vr k), some (vi t), some (vi ((i : Int) + 1)), some (vi (sitW (J k) (i : Int))), some (vi (sitW (J k) ((i : Int) + 1))), u3]) (S' := []) k189_123 rfl rfl ?_
        refine ev_goto (t := 4) k189_126 rfl ?_
        exact ih (i + 1) t _ _ _ (by omega) (by omega) (by rw [sumF, ht]; unfold paiW; rw [if_neg (by omega)]; omega)
      · refine ev_s1 (L' := [some (vr k), some (vi t), some (vi (i : Int)), some (vi (sitW (J k) (i : Int))), some (vi (sitW (J k) ((i : Int) + 1))), u3]) (S' := [vi (sitW (J k) ((i : Int) + 1))]) k189_34 rfl rfl ?_
        refine ev_ldc k189_36 ?_
        refine ev_c_eq (t := 123) k189_38 rfl (by omega) (by omega) (by omega) (by omega) (fun h4 => ?_) (fun h4 => ?_)
        · refine ev_s1 (L' := [some (vr k), some (vi t), some (vi ((i : Int) + 1)), some (vi (sitW (J k) (i : Int))), some (vi (sitW (J k) ((i : Int) + 1))), u3]) (S' := []) k189_123 rfl rfl ?_
          refine ev_goto (t := 4) k189_126 rfl ?_
          exact ih (i + 1) t _ _ _ (by omega) (by omega) (by rw [sumF, ht]; unfold paiW; rw [if_neg (by omega)]; omega)
        · rcases sit_cases (J k) (i : Int) with ⟨s1, -⟩ | ⟨s1, s2, s3⟩
          · exfalso; omega
          rcases sit_cases (J k) ((i : Int) + 1) with ⟨t1, -⟩ | ⟨t1, t2, t3⟩
          · exfalso; omega
          have ba := (hw.2.2.2.2.1 _ s1 s2).2.2.2 (by omega)
          have bb := (hw.2.2.2.2.1 _ t1 t2).2.2.2 (by omega)
          refine ev_s1 (L' := [some (vr k), some (vi t), some (vi (i : Int)), some (vi (sitW (J k) (i : Int))), some (vi (sitW (J k) ((i : Int) + 1))), u3]) (S' := [vr k]) k189_41 rfl rfl ?_
          refine ev_s1 (L' := [some (vr k), some (vi t), some (vi (i : Int)), some (vi (sitW (J k) (i : Int))), some (vi (sitW (J k) ((i : Int) + 1))), u3]) (S' := [vi 28, vr k]) k189_42 rfl rfl ?_
          refine ev_s1 (L' := [some (vr k), some (vi t), some (vi (i : Int)), some (vi (sitW (J k) (i : Int))), some (vi (sitW (J k) ((i : Int) + 1))), u3]) (S' := [vi 4, vi 28, vr k]) k189_44 rfl rfl ?_
          refine ev_s1 (L' := [some (vr k), some (vi t), some (vi (i : Int)), some (vi (sitW (J k) (i : Int))), some (vi (sitW (J k) ((i : Int) + 1))), u3]) (S' := [vi (sitW (J k) (i : Int)), vi 4, vi 28, vr k]) k189_45 rfl rfl ?_
          refine ev_s1 (L' := [some (vr k), some (vi t), some (vi (i : Int)), some (vi (sitW (J k) (i : Int))), some (vi (sitW (J k) ((i : Int) + 1))), u3]) (S' := [vi (4 * (sitW (J k) (i : Int))), vi 28, vr k]) k189_46 rfl rfl ?_
          refine ev_s1 (L' := [some (vr k), some (vi t), some (vi (i : Int)), some (vi (sitW (J k) (i : Int))), some (vi (sitW (J k) ((i : Int) + 1))), u3]) (S' := [vi (28 + (4 * (sitW (J k) (i : Int)))), vr k]) k189_47 rfl rfl ?_
          refine ev_s1 (L' := [some (vr k), some (vi t), some (vi (i : Int)), some (vi (sitW (J k) (i : Int))), some (vi (sitW (J k) ((i : Int) + 1))), u3]) (S' := [vi 3, vi (28 + (4 * (sitW (J k) (i : Int)))), vr k]) k189_48 rfl rfl ?_
          refine ev_s1 (L' := [some (vr k), some (vi t), some (vi (i : Int)), some (vi (sitW (J k) (i : Int))), some (vi (sitW (J k) ((i : Int) + 1))), u3]) (S' := [vi ((28 + (4 * (sitW (J k) (i : Int)))) + 3), vr k]) k189_49 rfl rfl ?_
          refine ev_iald k189_50 (by omega) (shM8 hk) (by omega) (by omega) ?_
          have rr5 := hJ.1 k ((28 + (4 * (sitW (J k) (i : Int)))) + 3)
          refine ev_s1 (L' := [some (vr k), some (vi t), some (vi (i : Int)), some (vi (sitW (J k) (i : Int))), some (vi (sitW (J k) ((i : Int) + 1))), u3]) (S' := [vr k, vi (J k ((28 + (4 * (sitW (J k) (i : Int)))) + 3))]) k189_51 rfl rfl ?_
          refine ev_s1 (L' := [some (vr k), some (vi t), some (vi (i : Int)), some (vi (sitW (J k) (i : Int))), some (vi (sitW (J k) ((i : Int) + 1))), u3]) (S' := [vi 28, vr k, vi (J k ((28 + (4 * (sitW (J k) (i : Int)))) + 3))]) k189_52 rfl rfl ?_
          refine ev_s1 (L' := [some (vr k), some (vi t), some (vi (i : Int)), some (vi (sitW (J k) (i : Int))), some (vi (sitW (J k) ((i : Int) + 1))), u3]) (S' := [vi 4, vi 28, vr k, vi (J k ((28 + (4 * (sitW (J k) (i : Int)))) + 3))]) k189_54 rfl rfl ?_
          refine ev_s1 (L' := [some (vr k), some (vi t), some (vi (i : Int)), some (vi (sitW (J k) (i : Int))), some (vi (sitW (J k) ((i : Int) + 1))), u3]) (S' := [vi (sitW (J k) ((i : Int) + 1)), vi 4, vi 28, vr k, vi (J k ((28 + (4 * (sitW (J k) (i : Int)))) + 3))]) k189_55 rfl rfl ?_
          refine ev_s1 (L' := [some (vr k), some (vi t), some (vi (i : Int)), some (vi (sitW (J k) (i : Int))), some (vi (sitW (J k) ((i : Int) + 1))), u3]) (S' := [vi (4 * (sitW (J k) ((i : Int) + 1))), vi 28, vr k, vi (J k ((28 + (4 * (sitW (J k) (i : Int)))) + 3))]) k189_57 rfl rfl ?_
          refine ev_s1 (L' := [some (vr k), some (vi t), some (vi (i : Int)), some (vi (sitW (J k) (i : Int))), some (vi (sitW (J k) ((i : Int) + 1))), u3]) (S' := [vi (28 + (4 * (sitW (J k) ((i : Int) + 1)))), vr k, vi (J k ((28 + (4 * (sitW (J k) (i : Int)))) + 3))]) k189_58 rfl rfl ?_
          refine ev_s1 (L' := [some (vr k), some (vi t), some (vi (i : Int)), some (vi (sitW (J k) (i : Int))), some (vi (sitW (J k) ((i : Int) + 1))), u3]) (S' := [vi 3, vi (28 + (4 * (sitW (J k) ((i : Int) + 1)))), vr k, vi (J k ((28 + (4 * (sitW (J k) (i : Int)))) + 3))]) k189_59 rfl rfl ?_
          refine ev_s1 (L' := [some (vr k), some (vi t), some (vi (i : Int)), some (vi (sitW (J k) (i : Int))), some (vi (sitW (J k) ((i : Int) + 1))), u3]) (S' := [vi ((28 + (4 * (sitW (J k) ((i : Int) + 1)))) + 3), vr k, vi (J k ((28 + (4 * (sitW (J k) (i : Int)))) + 3))]) k189_60 rfl rfl ?_
          refine ev_iald k189_61 (by omega) (shM8 hk) (by omega) (by omega) ?_
          have rr6 := hJ.1 k ((28 + (4 * (sitW (J k) ((i : Int) + 1)))) + 3)
          refine ev_s1 (L' := [some (vr k), some (vi t), some (vi (i : Int)), some (vi (sitW (J k) (i : Int))), some (vi (sitW (J k) ((i : Int) + 1))), u3]) (S' := [vi ((J k ((28 + (4 * (sitW (J k) (i : Int)))) + 3)) - (J k ((28 + (4 * (sitW (J k) ((i : Int) + 1)))) + 3)))]) k189_62 rfl rfl ?_
          refine ev_s1 (L' := [some (vr k), some (vi t), some (vi (i : Int)), some (vi (sitW (J k) (i : Int))), some (vi (sitW (J k) ((i : Int) + 1))), some (vi ((J k ((28 + (4 * (sitW (J k) (i : Int)))) + 3)) - (J k ((28 + (4 * (sitW (J k) ((i : Int) + 1)))) + 3))))]) (S' := []) k189_63 rfl rfl ?_
          refine ev_s1 (L' := [some (vr k), some (vi t), some (vi (i : Int)), some (vi (sitW (J k) (i : Int))), some (vi (sitW (J k) ((i : Int) + 1))), some (vi ((J k ((28 + (4 * (sitW (J k) (i : Int)))) + 3)) - (J k ((28 + (4 * (sitW (J k) ((i : Int) + 1)))) + 3))))]) (S' := [vi t]) k189_65 rfl rfl ?_
          refine ev_s1 (L' := [some (vr k), some (vi t), some (vi (i : Int)), some (vi (sitW (J k) (i : Int))), some (vi (sitW (J k) ((i : Int) + 1))), some (vi ((J k ((28 + (4 * (sitW (J k) (i : Int)))) + 3)) - (J k ((28 + (4 * (sitW (J k) ((i : Int) + 1)))) + 3))))]) (S' := [vi 10, vi t]) k189_66 rfl rfl ?_
          refine ev_s1 (L' := [some (vr k), some (vi t), some (vi (i : Int)), some (vi (sitW (J k) (i : Int))), some (vi (sitW (J k) ((i : Int) + 1))), some (vi ((J k ((28 + (4 * (sitW (J k) (i : Int)))) + 3)) - (J k ((28 + (4 * (sitW (J k) ((i : Int) + 1)))) + 3))))]) (S' := [vi ((J k ((28 + (4 * (sitW (J k) (i : Int)))) + 3)) - (J k ((28 + (4 * (sitW (J k) ((i : Int) + 1)))) + 3))), vi 10, vi t]) k189_68 rfl rfl ?_
          have kj70 : ∀ x : Int, x = (absI ((J k ((28 + (4 * (sitW (J k) (i : Int)))) + 3)) - (J k ((28 + (4 * (sitW (J k) ((i : Int) + 1)))) + 3)))) → Ev d 189 81 [some (vr k), some (vi t), some (vi (i : Int)), some (vi (sitW (J k) (i : Int))), some (vi (sitW (J k) ((i : Int) + 1))), some (vi ((J k ((28 + (4 * (sitW (J k) (i : Int)))) + 3)) - (J k ((28 + (4 * (sitW (J k) ((i : Int) + 1)))) + 3))))] [vi x, vi 10, vi t] (SM J) Q := by
            intro x hx
            refine ev_s1 (L' := [some (vr k), some (vi t), some (vi (i : Int)), some (vi (sitW (J k) (i : Int))), some (vi (sitW (J k) ((i : Int) + 1))), some (vi ((J k ((28 + (4 * (sitW (J k) (i : Int)))) + 3)) - (J k ((28 + (4 * (sitW (J k) ((i : Int) + 1)))) + 3))))]) (S' := [vi (10 - x), vi t]) k189_81 rfl rfl ?_
            refine ev_s1 (L' := [some (vr k), some (vi t), some (vi (i : Int)), some (vi (sitW (J k) (i : Int))), some (vi (sitW (J k) ((i : Int) + 1))), some (vi ((J k ((28 + (4 * (sitW (J k) (i : Int)))) + 3)) - (J k ((28 + (4 * (sitW (J k) ((i : Int) + 1)))) + 3))))]) (S' := [vi (t + (10 - x))]) k189_82 rfl rfl ?_
            refine ev_s1 (L' := [some (vr k), some (vi (t + (10 - x))), some (vi (i : Int)), some (vi (sitW (J k) (i : Int))), some (vi (sitW (J k) ((i : Int) + 1))), some (vi ((J k ((28 + (4 * (sitW (J k) (i : Int)))) + 3)) - (J k ((28 + (4 * (sitW (J k) ((i : Int) + 1)))) + 3))))]) (S' := []) k189_83 rfl rfl ?_
            refine ev_s1 (L' := [some (vr k), some (vi (t + (10 - x))), some (vi (i : Int)), some (vi (sitW (J k) (i : Int))), some (vi (sitW (J k) ((i : Int) + 1))), some (vi ((J k ((28 + (4 * (sitW (J k) (i : Int)))) + 3)) - (J k ((28 + (4 * (sitW (J k) ((i : Int) + 1)))) + 3))))]) (S' := [vi (t + (10 - x))]) k189_84 rfl rfl ?_
            refine ev_s1 (L' := [some (vr k), some (vi (t + (10 - x))), some (vi (i : Int)), some (vi (sitW (J k) (i : Int))), some (vi (sitW (J k) ((i : Int) + 1))), some (vi ((J k ((28 + (4 * (sitW (J k) (i : Int)))) + 3)) - (J k ((28 + (4 * (sitW (J k) ((i : Int) + 1)))) + 3))))]) (S' := [vi (i : Int), vi (t + (10 - x))]) k189_85 rfl rfl ?_
            refine ev_s1 (L' := [some (vr k), some (vi (t + (10 - x))), some (vi (i : Int)), some (vi (sitW (J k) (i : Int))), some (vi (sitW (J k) ((i : Int) + 1))), some (vi ((J k ((28 + (4 * (sitW (J k) (i : Int)))) + 3)) - (J k ((28 + (4 * (sitW (J k) ((i : Int) + 1)))) + 3))))]) (S' := [vi 2, vi (i : Int), vi (t + (10 - x))]) k189_86 rfl rfl ?_
            refine ev_s1 (L' := [some (vr k), some (vi (t + (10 - x))), some (vi (i : Int)), some (vi (sitW (J k) (i : Int))), some (vi (sitW (J k) ((i : Int) + 1))), some (vi ((J k ((28 + (4 * (sitW (J k) (i : Int)))) + 3)) - (J k ((28 + (4 * (sitW (J k) ((i : Int) + 1)))) + 3))))]) (S' := [vi ((i : Int) + 2), vi (t + (10 - x))]) k189_87 rfl rfl ?_
            refine ev_s1 (L' := [some (vr k), some (vi (t + (10 - x))), some (vi (i : Int)), some (vi (sitW (J k) (i : Int))), some (vi (sitW (J k) ((i : Int) + 1))), some (vi ((J k ((28 + (4 * (sitW (J k) (i : Int)))) + 3)) - (J k ((28 + (4 * (sitW (J k) ((i : Int) + 1)))) + 3))))]) (S' := [vr k, vi ((i : Int) + 2), vi (t + (10 - x))]) k189_88 rfl rfl ?_
            refine ev_s1 (L' := [some (vr k), some (vi (t + (10 - x))), some (vi (i : Int)), some (vi (sitW (J k) (i : Int))), some (vi (sitW (J k) ((i : Int) + 1))), some (vi ((J k ((28 + (4 * (sitW (J k) (i : Int)))) + 3)) - (J k ((28 + (4 * (sitW (J k) ((i : Int) + 1)))) + 3))))]) (S' := [vi 1, vr k, vi ((i : Int) + 2), vi (t + (10 - x))]) k189_89 rfl rfl ?_
            refine ev_iald k189_90 (by omega) (shM8 hk) (by omega) (by omega) ?_
            have rr7 := hJ.1 k 1
            have kj91 : ∀ y : Int, y = (if (i : Int) + 2 < J k 1 ∧ sitW (J k) ((i : Int) + 2) ≠ -1000000 ∧ triB (J k) (i : Int) = true then J k 0 else 0) → Ev d 189 121 [some (vr k), some (vi (t + (10 - x))), some (vi (i : Int)), some (vi (sitW (J k) (i : Int))), some (vi (sitW (J k) ((i : Int) + 1))), some (vi ((J k ((28 + (4 * (sitW (J k) (i : Int)))) + 3)) - (J k ((28 + (4 * (sitW (J k) ((i : Int) + 1)))) + 3))))] [vi y, vi (t + (10 - x))] (SM J) Q := by
              intro y hy
              refine ev_s1 (L' := [some (vr k), some (vi (t + (10 - x))), some (vi (i : Int)), some (vi (sitW (J k) (i : Int))), some (vi (sitW (J k) ((i : Int) + 1))), some (vi ((J k ((28 + (4 * (sitW (J k) (i : Int)))) + 3)) - (J k ((28 + (4 * (sitW (J k) ((i : Int) + 1)))) + 3))))]) (S' := [vi ((t + (10 - x)) - y)]) k189_121 rfl rfl ?_
              refine ev_s1 (L' := [some (vr k), some (vi ((t + (10 - x)) - y)), some (vi (i : Int)), some (vi (sitW (J k) (i : Int))), some (vi (sitW (J k) ((i : Int) + 1))), some (vi ((J k ((28 + (4 * (sitW (J k) (i : Int)))) + 3)) - (J k ((28 + (4 * (sitW (J k) ((i : Int) + 1)))) + 3))))]) (S' := []) k189_122 rfl rfl ?_
              refine ev_s1 (L' := [some (vr k), some (vi ((t + (10 - x)) - y)), some (vi ((i : Int) + 1)), some (vi (sitW (J k) (i : Int))), some (vi (sitW (J k) ((i : Int) + 1))), some (vi ((J k ((28 + (4 * (sitW (J k) (i : Int)))) + 3)) - (J k ((28 + (4 * (sitW (J k) ((i : Int) + 1)))) + 3))))]) (S' := []) k189_123 rfl rfl ?_
              refine ev_goto (t := 4) k189_126 rfl ?_
              exact ih (i + 1) _ _ _ _ (by omega) (by omega) (by rw [sumF, ← ht]; unfold paiW; rw [if_pos ⟨by omega, by omega⟩, ← hx, ← hy]; omega)
            refine ev_c_ge (t := 120) k189_91 rfl (by omega) (by omega) (by omega) (by omega) (fun h8 => ?_) (fun h8 => ?_)
            · refine ev_s1 (L' := [some (vr k), some (vi (t + (10 - x))), some (vi (i : Int)), some (vi (sitW (J k) (i : Int))), some (vi (sitW (J k) ((i : Int) + 1))), some (vi ((J k ((28 + (4 * (sitW (J k) (i : Int)))) + 3)) - (J k ((28 + (4 * (sitW (J k) ((i : Int) + 1)))) + 3))))]) (S' := [vi 0, vi (t + (10 - x))]) k189_120 rfl rfl ?_
              exact kj91 _ (by first | rw [if_pos ⟨by omega, by omega, by assumption⟩] | rw [if_neg (fun hh => absurd hh.1 (by omega))] | rw [if_neg (fun hh => absurd hh.2.1 (by omega))] | rw [if_neg (fun hh => absurd hh.2.2 (Bool.eq_false_iff.mp (by assumption)))])
            · refine ev_s1 (L' := [some (vr k), some (vi (t + (10 - x))), some (vi (i : Int)), some (vi (sitW (J k) (i : Int))), some (vi (sitW (J k) ((i : Int) + 1))), some (vi ((J k ((28 + (4 * (sitW (J k) (i : Int)))) + 3)) - (J k ((28 + (4 * (sitW (J k) ((i : Int) + 1)))) + 3))))]) (S' := [vr k, vi (t + (10 - x))]) k189_94 rfl rfl ?_
              refine ev_s1 (L' := [some (vr k), some (vi (t + (10 - x))), some (vi (i : Int)), some (vi (sitW (J k) (i : Int))), some (vi (sitW (J k) ((i : Int) + 1))), some (vi ((J k ((28 + (4 * (sitW (J k) (i : Int)))) + 3)) - (J k ((28 + (4 * (sitW (J k) ((i : Int) + 1)))) + 3))))]) (S' := [vi (i : Int), vr k, vi (t + (10 - x))]) k189_95 rfl rfl ?_
              refine ev_s1 (L' := [some (vr k), some (vi (t + (10 - x))), some (vi (i : Int)), some (vi (sitW (J k) (i : Int))), some (vi (sitW (J k) ((i : Int) + 1))), some (vi ((J k ((28 + (4 * (sitW (J k) (i : Int)))) + 3)) - (J k ((28 + (4 * (sitW (J k) ((i : Int) + 1)))) + 3))))]) (S' := [vi 2, vi (i : Int), vr k, vi (t + (10 - x))]) k189_96 rfl rfl ?_
              refine ev_s1 (L' := [some (vr k), some (vi (t + (10 - x))), some (vi (i : Int)), some (vi (sitW (J k) (i : Int))), some (vi (sitW (J k) ((i : Int) + 1))), some (vi ((J k ((28 + (4 * (sitW (J k) (i : Int)))) + 3)) - (J k ((28 + (4 * (sitW (J k) ((i : Int) + 1)))) + 3))))]) (S' := [vi ((i : Int) + 2), vr k, vi (t + (10 - x))]) k189_97 rfl rfl ?_
              refine ev_static (a := [vr k, vi ((i : Int) + 2)]) (S' := [vi (t + (10 - x))]) k189_98 rfl (Nat.le_of_ble_eq_true rfl) (by omega) ?_
              refine m_sitter hJ (k := k) (by omega) (c := (i : Int) + 2) (by omega) (by omega) (by omega) (by omega) (?_)
              have sr98 := sit_rng (J k) ((i : Int) + 2) (by omega)
              show Ev d 189 101 [some (vr k), some (vi (t + (10 - x))), some (vi (i : Int)), some (vi (sitW (J k) (i : Int))), some (vi (sitW (J k) ((i : Int) + 1))), some (vi ((J k ((28 + (4 * (sitW (J k) (i : Int)))) + 3)) - (J k ((28 + (4 * (sitW (J k) ((i : Int) + 1)))) + 3))))] [vi (sitW (J k) ((i : Int) + 2)), vi (t + (10 - x))] (SM J) Q
              refine ev_ldc k189_101 ?_
              refine ev_c_eq (t := 120) k189_103 rfl (by omega) (by omega) (by omega) (by omega) (fun h9 => ?_) (fun h9 => ?_)
              · refine ev_s1 (L' := [some (vr k), some (vi (t + (10 - x))), some (vi (i : Int)), some (vi (sitW (J k) (i : Int))), some (vi (sitW (J k) ((i : Int) + 1))), some (vi ((J k ((28 + (4 * (sitW (J k) (i : Int)))) + 3)) - (J k ((28 + (4 * (sitW (J k) ((i : Int) + 1)))) + 3))))]) (S' := [vi 0, vi (t + (10 - x))]) k189_120 rfl rfl ?_
                exact kj91 _ (by first | rw [if_pos ⟨by omega, by omega, by assumption⟩] | rw [if_neg (fun hh => absurd hh.1 (by omega))] | rw [if_neg (fun hh => absurd hh.2.1 (by omega))] | rw [if_neg (fun hh => absurd hh.2.2 (Bool.eq_false_iff.mp (by assumption)))])
              · refine ev_s1 (L' := [some (vr k), some (vi (t + (10 - x))), some (vi (i : Int)), some (vi (sitW (J k) (i : Int))), some (vi (sitW (J k) ((i : Int) + 1))), some (vi ((J k ((28 + (4 * (sitW (J k) (i : Int)))) + 3)) - (J k ((28 + (4 * (sitW (J k) ((i : Int) + 1)))) + 3))))]) (S' := [vr k, vi (t + (10 - x))]) k189_106 rfl rfl ?_
                refine ev_s1 (L' := [some (vr k), some (vi (t + (10 - x))), some (vi (i : Int)), some (vi (sitW (J k) (i : Int))), some (vi (sitW (J k) ((i : Int) + 1))), some (vi ((J k ((28 + (4 * (sitW (J k) (i : Int)))) + 3)) - (J k ((28 + (4 * (sitW (J k) ((i : Int) + 1)))) + 3))))]) (S' := [vi (i : Int), vr k, vi (t + (10 - x))]) k189_107 rfl rfl ?_
                refine ev_static (a := [vr k, vi (i : Int)]) (S' := [vi (t + (10 - x))]) k189_108 rfl (Nat.le_of_ble_eq_true rfl) (by omega) ?_
                refine m_isTrio hJ (k := k) (by omega) (c := (i : Int)) (by omega) (by omega) (by omega) (fun h10 => ?_) (fun h10 => ?_)
                · show Ev d 189 111 [some (vr k), some (vi (t + (10 - x))), some (vi (i : Int)), some (vi (sitW (J k) (i : Int))), some (vi (sitW (J k) ((i : Int) + 1))), some (vi ((J k ((28 + (4 * (sitW (J k) (i : Int)))) + 3)) - (J k ((28 + (4 * (sitW (J k) ((i : Int) + 1)))) + 3))))] [vi 1, vi (t + (10 - x))] (SM J) Q
                  refine ev_z_eq (t := 120) k189_111 rfl (by omega) (by omega) (fun h => absurd h (by decide)) (fun _ => ?_)
                  refine ev_s1 (L' := [some (vr k), some (vi (t + (10 - x))), some (vi (i : Int)), some (vi (sitW (J k) (i : Int))), some (vi (sitW (J k) ((i : Int) + 1))), some (vi ((J k ((28 + (4 * (sitW (J k) (i : Int)))) + 3)) - (J k ((28 + (4 * (sitW (J k) ((i : Int) + 1)))) + 3))))]) (S' := [vr k, vi (t + (10 - x))]) k189_114 rfl rfl ?_
                  refine ev_s1 (L' := [some (vr k), some (vi (t + (10 - x))), some (vi (i : Int)), some (vi (sitW (J k) (i : Int))), some (vi (sitW (J k) ((i : Int) + 1))), some (vi ((J k ((28 + (4 * (sitW (J k) (i : Int)))) + 3)) - (J k ((28 + (4 * (sitW (J k) ((i : Int) + 1)))) + 3))))]) (S' := [vi 0, vr k, vi (t + (10 - x))]) k189_115 rfl rfl ?_
                  refine ev_iald k189_116 (by omega) (shM8 hk) (by omega) (by omega) ?_
                  have rr11 := hJ.1 k 0
                  refine ev_goto (t := 121) k189_117 rfl ?_
                  exact kj91 _ (by first | rw [if_pos ⟨by omega, by omega, by assumption⟩] | rw [if_neg (fun hh => absurd hh.1 (by omega))] | rw [if_neg (fun hh => absurd hh.2.1 (by omega))] | rw [if_neg (fun hh => absurd hh.2.2 (Bool.eq_false_iff.mp (by assumption)))])
                · show Ev d 189 111 [some (vr k), some (vi (t + (10 - x))), some (vi (i : Int)), some (vi (sitW (J k) (i : Int))), some (vi (sitW (J k) ((i : Int) + 1))), some (vi ((J k ((28 + (4 * (sitW (J k) (i : Int)))) + 3)) - (J k ((28 + (4 * (sitW (J k) ((i : Int) + 1)))) + 3))))] [vi 0, vi (t + (10 - x))] (SM J) Q
                  refine ev_z_eq (t := 120) k189_111 rfl (by omega) (by omega) (fun _ => ?_) (fun h => absurd h (by decide))
                  refine ev_s1 (L' := [some (vr k), some (vi (t + (10 - x))), some (vi (i : Int)), some (vi (sitW (J k) (i : Int))), some (vi (sitW (J k) ((i : Int) + 1))), some (vi ((J k ((28 + (4 * (sitW (J k) (i : Int)))) + 3)) - (J k ((28 + (4 * (sitW (J k) ((i : Int) + 1)))) + 3))))]) (S' := [vi 0, vi (t + (10 - x))]) k189_120 rfl rfl ?_
                  exact kj91 _ (by first | rw [if_pos ⟨by omega, by omega, by assumption⟩] | rw [if_neg (fun hh => absurd hh.1 (by omega))] | rw [if_neg (fun hh => absurd hh.2.1 (by omega))] | rw [if_neg (fun hh => absurd hh.2.2 (Bool.eq_false_iff.mp (by assumption)))])
          refine ev_z_ge (t := 79) k189_70 rfl (by omega) (by omega) (fun h12 => ?_) (fun h12 => ?_)
          · refine ev_s1 (L' := [some (vr k), some (vi t), some (vi (i : Int)), some (vi (sitW (J k) (i : Int))), some (vi (sitW (J k) ((i : Int) + 1))), some (vi ((J k ((28 + (4 * (sitW (J k) (i : Int)))) + 3)) - (J k ((28 + (4 * (sitW (J k) ((i : Int) + 1)))) + 3))))]) (S' := [vi ((J k ((28 + (4 * (sitW (J k) (i : Int)))) + 3)) - (J k ((28 + (4 * (sitW (J k) ((i : Int) + 1)))) + 3))), vi 10, vi t]) k189_79 rfl rfl ?_
            exact kj70 _ (by unfold absI; first | rw [if_pos (by omega)] | rw [if_neg (by omega)])
          · refine ev_s1 (L' := [some (vr k), some (vi t), some (vi (i : Int)), some (vi (sitW (J k) (i : Int))), some (vi (sitW (J k) ((i : Int) + 1))), some (vi ((J k ((28 + (4 * (sitW (J k) (i : Int)))) + 3)) - (J k ((28 + (4 * (sitW (J k) ((i : Int) + 1)))) + 3))))]) (S' := [vi ((J k ((28 + (4 * (sitW (J k) (i : Int)))) + 3)) - (J k ((28 + (4 * (sitW (J k) ((i : Int) + 1)))) + 3))), vi 10, vi t]) k189_73 rfl rfl ?_
            refine ev_s1 (L' := [some (vr k), some (vi t), some (vi (i : Int)), some (vi (sitW (J k) (i : Int))), some (vi (sitW (J k) ((i : Int) + 1))), some (vi ((J k ((28 + (4 * (sitW (J k) (i : Int)))) + 3)) - (J k ((28 + (4 * (sitW (J k) ((i : Int) + 1)))) + 3))))]) (S' := [vi (-((J k ((28 + (4 * (sitW (J k) (i : Int)))) + 3)) - (J k ((28 + (4 * (sitW (J k) ((i : Int) + 1)))) + 3)))), vi 10, vi t]) k189_75 rfl rfl ?_
            refine ev_goto (t := 81) k189_76 rfl ?_
            exact kj70 _ (by unfold absI; first | rw [if_pos (by omega)] | rw [if_neg (by omega)])

set_option maxHeartbeats 1000000 in
theorem m_peace {d : Nat} {J : Nat → Int → Int} {Q : Option jV → jS → Prop} (hJ : RZ J) {k : Nat} (hk : 6 ≤ k ∧ k ≤ 8) (hw : OKW (J k)) (hd : 1 ≤ d) (hQ : Q (some (vi (peW (J k)))) (SM J)) : Cl d 189 [vr k] (SM J) Q := by
  refine ⟨by rw [l189]; exact Nat.le_of_ble_eq_true rfl, ?_⟩
  rw [l189]
  show Ev d 189 0 [some (vr k), none, none, none, none, none] [] (SM J) Q
  refine ev_s1 (L' := [some (vr k), none, none, none, none, none]) (S' := [vi 0]) k189_0 rfl rfl ?_
  refine ev_s1 (L' := [some (vr k), some (vi 0), none, none, none, none]) (S' := []) k189_1 rfl rfl ?_
  refine ev_s1 (L' := [some (vr k), some (vi 0), none, none, none, none]) (S' := [vi 0]) k189_2 rfl rfl ?_
  refine ev_s1 (L' := [some (vr k), some (vi 0), some (vi 0), none, none, none]) (S' := []) k189_3 rfl rfl ?_
  exact m_pel hJ hk hw hd hQ 6 0 0 none none none (by have := hw.2.1; omega) (by omega) rfl
