/-- only what is tried has changed -/
def FM (J J' : Nat → Int → Int) : Prop := RZ J' ∧ ∀ a, a ≠ 4 → a ≠ 7 → a ≠ 8 → a ≠ 12 → a ≠ 13 → J' a = J a

set_option maxHeartbeats 1000000 in
theorem m_seating {d : Nat} {J : Nat → Int → Int} {Q : Option jV → jS → Prop} (hJ : RZ J) (hw : OKW (J 6)) {k : Int} (kr0 : -2147483648 ≤ k) (kr1 : k < 2147483648) (hd : 7 ≤ d) (hS : ¬ 0 < J 6 1 → Q (some (vi (-1000002))) (SM J)) (hB : 0 < J 6 1 → ¬ (-1 ≤ k ∧ k ≤ 4) → Q (some (vi (-1000001))) (SM J)) (hQ : 0 < J 6 1 → (-1 ≤ k ∧ k ≤ 4) → ∀ J', FM J J' → Q (some (vi (seaA (J 6) k))) (SM J')) : Cl d 203 [vr 0, vi k] (SM J) Q := by
  have w0 := hw.1
  have w1 := hw.2.1
  have w2 := hw.2.2.1
  refine ⟨by rw [l203]; exact Nat.le_of_ble_eq_true rfl, ?_⟩
  rw [l203]
  show Ev d 203 0 [some (vr 0), some (vi k), none, none, none] [] (SM J) Q
  refine ev_s1 (L' := [some (vr 0), some (vi k), none, none, none]) (S' := [vr 0]) k203_0 rfl rfl ?_
  refine ev_virt (a := []) (S' := []) k203_1 rfl (Nat.le_of_ble_eq_true rfl) (by decide) (rfl) (by omega) ?_
  refine m_isRoom hJ (fun h1 => ?_) (fun h1 => ?_)
  · show Ev d 203 4 [some (vr 0), some (vi k), none, none, none] [vi 1] (SM J) Q
    refine ev_z_ne (t := 10) k203_4 rfl (by omega) (by omega) (fun _ => ?_) (fun h => absurd h (by decide))
    refine ev_s1 (L' := [some (vr 0), some (vi k), none, none, none]) (S' := [vi k]) k203_10 rfl rfl ?_
    refine ev_s1 (L' := [some (vr 0), some (vi k), none, none, none]) (S' := [vi (-1), vi k]) k203_11 rfl rfl ?_
    refine ev_s1 (L' := [some (vr 0), some (vi k), none, none, none]) (S' := [vi 4, vi (-1), vi k]) k203_12 rfl rfl ?_
    refine ev_static (a := [vi k, vi (-1), vi 4]) (S' := []) k203_13 rfl (Nat.le_of_ble_eq_true rfl) (by omega) ?_
    refine m_in (v := k) (lo := (-1)) (hi := 4) (by omega) (by omega) (by omega) (by omega) (by omega) (by omega) (fun h2 => ?_) (fun h2 => ?_)
    · show Ev d 203 16 [some (vr 0), some (vi k), none, none, none] [vi 1] (SM J) Q
      refine ev_z_ne (t := 22) k203_16 rfl (by omega) (by omega) (fun _ => ?_) (fun h => absurd h (by decide))
      refine ev_s1 (L' := [some (vr 0), some (vi k), none, none, none]) (S' := [vi 0]) k203_22 rfl rfl ?_
      refine ev_s1 (L' := [some (vr 0), some (vi k), some (vi 0), none, none]) (S' := []) k203_23 rfl rfl ?_
      refine m_seaz (K := J) (fun J0 x0 hJ0 z0 f0 => ?_) 6 J 0 none hJ (by omega) (by omega) (fun j hj => absurd hj (Nat.not_lt_zero j)) (fun _ _ => rfl)
      refine ev_ldc k203_42 ?_
      refine ev_s1 (L' := [some (vr 0), some (vi k), some (vi (-1000000)), none, none]) (S' := []) k203_44 rfl rfl ?_
      refine ev_s1 (L' := [some (vr 0), some (vi k), some (vi (-1000000)), none, none]) (S' := [vi 1]) k203_45 rfl rfl ?_
      refine ev_s1 (L' := [some (vr 0), some (vi k), some (vi (-1000000)), some (vi 1), none]) (S' := []) k203_46 rfl rfl ?_
      refine m_seam (K := J) (w := J 6) hw rfl (by omega) (by omega) (by omega) (by omega) (fun J' hJ' hf => hQ (by omega) (by omega) J' ⟨hJ', fun a a4 a7 a8 a12 a13 => hf a a8 a12 a13⟩) ((pwW (J 6 1) (J 6 2).toNat).toNat + 1) J0 0 (-1000000, fun _ => 0) _ _ hJ0 (by have := pw_pos (G := J 6 1) (by omega) (J 6 2).toNat; omega) ((rest_zero (by omega) (by omega) _).mpr (by have := pw_pos (G := J 6 1) (by omega) (J 6 2).toNat; omega)) (fun j hj => ?_) rfl (fun q => absurd rfl q) (fun a a8 a12 a13 => (f0 a (by assumption))) rfl (by omega)
      rw [z0 j (by omega)]
      have hz : ∀ k, restW (J 6 1) 0 k = 0 := by
        intro k
        induction k with
        | zero => rfl
        | succ k ih => rw [restW, ih, Int.zero_ediv]
      show 0 = dgW (J 6 1) (J 6 2).toNat 0 j
      unfold dgW
      rw [hz, Int.zero_emod]
      
    · show Ev d 203 16 [some (vr 0), some (vi k), none, none, none] [vi 0] (SM J) Q
      refine ev_z_ne (t := 22) k203_16 rfl (by omega) (by omega) (fun h => absurd h (by decide)) (fun _ => ?_)
      refine ev_ldc k203_19 ?_
      refine ev_ireturn k203_21 ?_
      exact hB (by omega) (by omega)
  · show Ev d 203 4 [some (vr 0), some (vi k), none, none, none] [vi 0] (SM J) Q
    refine ev_z_ne (t := 10) k203_4 rfl (by omega) (by omega) (fun h => absurd h (by decide)) (fun _ => ?_)
    refine ev_ldc k203_7 ?_
    refine ev_ireturn k203_9 ?_
    exact hS (by omega)

set_option maxHeartbeats 1000000 in
theorem m_would {d : Nat} {J : Nat → Int → Int} {Q : Option jV → jS → Prop} (hJ : RZ J) (hw : OKW (J 6)) {g c x : Int} (g0 : -2147483648 ≤ g) (g1 : g < 2147483648) (c0 : -2147483648 ≤ c) (c1 : c < 2147483648) (x0 : -2147483648 ≤ x) (x1 : x < 2147483648) (hd : 4 ≤ d) (hB : ¬ ((0 ≤ g ∧ g < J 6 2) ∧ (0 ≤ c ∧ c < J 6 1) ∧ (0 ≤ x ∧ x ≤ 2)) → Q (some (vi (-1000001))) (SM J)) (hQ : ((0 ≤ g ∧ g < J 6 2) ∧ (0 ≤ c ∧ c < J 6 1) ∧ (0 ≤ x ∧ x ≤ 2)) → ∀ J', FM J J' → Q (some (vi (wouW (J 6) g c x))) (SM J')) : Cl d 200 [vr 0, vi g, vi c, vi x] (SM J) Q := by
  have w0 := hw.1
  have w1 := hw.2.1
  have w2 := hw.2.2.1
  refine ⟨by rw [l200]; exact Nat.le_of_ble_eq_true rfl, ?_⟩
  rw [l200]
  show Ev d 200 0 [some (vr 0), some (vi g), some (vi c), some (vi x), none] [] (SM J) Q
  refine ev_s1 (L' := [some (vr 0), some (vi g), some (vi c), some (vi x), none]) (S' := [vr 0]) k200_0 rfl rfl ?_
  refine ev_s1 (L' := [some (vr 0), some (vi g), some (vi c), some (vi x), none]) (S' := [vi g, vr 0]) k200_1 rfl rfl ?_
  refine ev_virt (a := [vi g]) (S' := []) k200_2 rfl (Nat.le_of_ble_eq_true rfl) (by decide) (rfl) (by omega) ?_
  refine m_isGuest hJ (g := g) (by omega) (by omega) (by omega) (by omega) (fun h1 => ?_) (fun h1 => ?_)
  · show Ev d 200 5 [some (vr 0), some (vi g), some (vi c), some (vi x), none] [vi 1] (SM J) Q
    refine ev_z_eq (t := 25) k200_5 rfl (by omega) (by omega) (fun h => absurd h (by decide)) (fun _ => ?_)
    refine ev_s1 (L' := [some (vr 0), some (vi g), some (vi c), some (vi x), none]) (S' := [vr 0]) k200_8 rfl rfl ?_
    refine ev_s1 (L' := [some (vr 0), some (vi g), some (vi c), some (vi x), none]) (S' := [vi c, vr 0]) k200_9 rfl rfl ?_
    refine ev_virt (a := [vi c]) (S' := []) k200_10 rfl (Nat.le_of_ble_eq_true rfl) (by decide) (rfl) (by omega) ?_
    refine m_isChair hJ (c := c) (by omega) (by omega) (by omega) (by omega) (fun h2 => ?_) (fun h2 => ?_)
    · show Ev d 200 13 [some (vr 0), some (vi g), some (vi c), some (vi x), none] [vi 1] (SM J) Q
      refine ev_z_eq (t := 25) k200_13 rfl (by omega) (by omega) (fun h => absurd h (by decide)) (fun _ => ?_)
      refine ev_s1 (L' := [some (vr 0), some (vi g), some (vi c), some (vi x), none]) (S' := [vi x]) k200_16 rfl rfl ?_
      refine ev_s1 (L' := [some (vr 0), some (vi g), some (vi c), some (vi x), none]) (S' := [vi 0, vi x]) k200_17 rfl rfl ?_
      refine ev_s1 (L' := [some (vr 0), some (vi g), some (vi c), some (vi x), none]) (S' := [vi 2, vi 0, vi x]) k200_18 rfl rfl ?_
      refine ev_static (a := [vi x, vi 0, vi 2]) (S' := []) k200_19 rfl (Nat.le_of_ble_eq_true rfl) (by omega) ?_
      refine m_in (v := x) (lo := 0) (hi := 2) (by omega) (by omega) (by omega) (by omega) (by omega) (by omega) (fun h3 => ?_) (fun h3 => ?_)
      · show Ev d 200 22 [some (vr 0), some (vi g), some (vi c), some (vi x), none] [vi 1] (SM J) Q
        refine ev_z_ne (t := 28) k200_22 rfl (by omega) (by omega) (fun _ => ?_) (fun h => absurd h (by decide))
        refine ev_s1 (L' := [some (vr 0), some (vi g), some (vi c), some (vi x), none]) (S' := [vr 0]) k200_28 rfl rfl ?_
        refine ev_getR k200_29 (by decide) (rfl) (y_0_13) ?_
        refine ev_s1 (L' := [some (vr 0), some (vi g), some (vi c), some (vi x), none]) (S' := [vi 0, vr 6]) k200_32 rfl rfl ?_
        refine ev_s1 (L' := [some (vr 0), some (vi g), some (vi c), some (vi x), none]) (S' := [vr 0, vi 0, vr 6]) k200_33 rfl rfl ?_
        refine ev_getR k200_34 (by decide) (rfl) (y_0_15) ?_
        refine ev_s1 (L' := [some (vr 0), some (vi g), some (vi c), some (vi x), none]) (S' := [vi 0, vr 8, vi 0, vr 6]) k200_37 rfl rfl ?_
        refine ev_static (a := [vr 6, vi 0, vr 8, vi 0]) (S' := []) k200_38 rfl (Nat.le_of_ble_eq_true rfl) (by omega) ?_
        refine m_copies hJ (f := 6) (t := 8) (lf := 48) (lt := 48) (a := 0) (b := 0) (by decide) ⟨by decide, rfl⟩ ⟨by decide, rfl⟩ (by omega) (by omega) (by omega) (by omega) (by omega) (by decide) (by decide) (fun J4 hJ4 w4 f4 => ?_)
        rw [cp_full hJ.2 (by decide) (by decide)] at w4
        show Ev d 200 41 [some (vr 0), some (vi g), some (vi c), some (vi x), none] [] (SM J4) Q
        refine ev_s1 (L' := [some (vr 0), some (vi g), some (vi c), some (vi x), none]) (S' := [vr 0]) k200_41 rfl rfl ?_
        refine ev_getR k200_42 (by decide) (rfl) (y_0_15) ?_
        refine ev_s1 (L' := [some (vr 0), some (vi g), some (vi c), some (vi x), none]) (S' := [vi g, vr 8]) k200_45 rfl rfl ?_
        refine ev_s1 (L' := [some (vr 0), some (vi g), some (vi c), some (vi x), none]) (S' := [vi c, vi g, vr 8]) k200_46 rfl rfl ?_
        refine ev_static (a := [vr 8, vi g, vi c]) (S' := []) k200_47 rfl (Nat.le_of_ble_eq_true rfl) (by omega) ?_
        refine m_sits hJ4 (k := 8) (by decide) (g := g) (c := c) (by omega) (by omega) (by omega) (by omega) (by rw [w4]; exact (hw.2.2.2.1 c (by omega) (by omega))) (by rw [w4]; exact (hw.2.2.2.2.1 g (by omega) (by omega)).1) (by rw [w4]; exact (hw.2.2.2.2.1 g (by omega) (by omega)).2.1) (by omega) (fun J5 hJ5 w5 f5 => ?_)
        rw [w4]
        rw [w4] at w5
        have bo47 := bear_okc (o := (J 6) (28 + 4 * g)) (hw.2.2.2.1 c (by omega) (by omega)) (hw.2.2.2.2.1 g (by omega) (by omega)).1.1 (hw.2.2.2.2.1 g (by omega) (by omega)).1.2
        show Ev d 200 50 [some (vr 0), some (vi g), some (vi c), some (vi x), none] [vi (bearW (J 6) c ((J 6) (28 + 4 * g)))] (SM J5) Q
        refine ev_s1 (L' := [some (vr 0), some (vi g), some (vi c), some (vi x), some (vi (bearW (J 6) c ((J 6) (28 + 4 * g))))]) (S' := []) k200_50 rfl rfl ?_
        refine ev_s1 (L' := [some (vr 0), some (vi g), some (vi c), some (vi x), some (vi (bearW (J 6) c ((J 6) (28 + 4 * g))))]) (S' := [vi x]) k200_52 rfl rfl ?_
        refine ev_z_ne (t := 61) k200_53 rfl (by omega) (by omega) (fun h6 => ?_) (fun h6 => ?_)
        · refine ev_s1 (L' := [some (vr 0), some (vi g), some (vi c), some (vi x), some (vi (bearW (J 6) c ((J 6) (28 + 4 * g))))]) (S' := [vr 0]) k200_61 rfl rfl ?_
          refine ev_getR k200_62 (by decide) (rfl) (y_0_15) ?_
          refine ev_s1 (L' := [some (vr 0), some (vi g), some (vi c), some (vi x), some (vi (bearW (J 6) c ((J 6) (28 + 4 * g))))]) (S' := [vi 3, vr 8]) k200_65 rfl rfl ?_
          refine ev_s1 (L' := [some (vr 0), some (vi g), some (vi c), some (vi x), some (vi (bearW (J 6) c ((J 6) (28 + 4 * g))))]) (S' := [vi 5, vi 3, vr 8]) k200_66 rfl rfl ?_
          refine ev_s1 (L' := [some (vr 0), some (vi g), some (vi c), some (vi x), some (vi (bearW (J 6) c ((J 6) (28 + 4 * g))))]) (S' := [vi c, vi 5, vi 3, vr 8]) k200_67 rfl rfl ?_
          refine ev_s1 (L' := [some (vr 0), some (vi g), some (vi c), some (vi x), some (vi (bearW (J 6) c ((J 6) (28 + 4 * g))))]) (S' := [vi (5 * c), vi 3, vr 8]) k200_68 rfl rfl ?_
          refine ev_s1 (L' := [some (vr 0), some (vi g), some (vi c), some (vi x), some (vi (bearW (J 6) c ((J 6) (28 + 4 * g))))]) (S' := [vi (3 + (5 * c)), vr 8]) k200_69 rfl rfl ?_
          refine ev_s1 (L' := [some (vr 0), some (vi g), some (vi c), some (vi x), some (vi (bearW (J 6) c ((J 6) (28 + 4 * g))))]) (S' := [vi x, vi (3 + (5 * c)), vr 8]) k200_70 rfl rfl ?_
          refine ev_s1 (L' := [some (vr 0), some (vi g), some (vi c), some (vi x), some (vi (bearW (J 6) c ((J 6) (28 + 4 * g))))]) (S' := [vi ((3 + (5 * c)) + x), vr 8]) k200_71 rfl rfl ?_
          refine ev_iald k200_72 (by decide) (rfl) (by omega) (by omega) ?_
          have rr7 := hJ5.1 8 ((3 + (5 * c)) + x)
          rw [w5]
          rw [w5] at rr7
          refine ev_ireturn k200_73 ?_
          unfold wouW at hQ
          rcases (show x = 1 ∨ x = 2 by omega) with rfl | rfl
          · rw [if_neg (by decide), if_pos rfl] at hQ; exact hQ (by omega) _ ⟨hJ5, fun a a4 a7 a8 a12 a13 => ((f5 a (by assumption)).trans (f4 a (by assumption)))⟩
          · rw [if_neg (by decide), if_neg (by decide)] at hQ; exact hQ (by omega) _ ⟨hJ5, fun a a4 a7 a8 a12 a13 => ((f5 a (by assumption)).trans (f4 a (by assumption)))⟩
        · refine ev_s1 (L' := [some (vr 0), some (vi g), some (vi c), some (vi x), some (vi (bearW (J 6) c ((J 6) (28 + 4 * g))))]) (S' := [vi (bearW (J 6) c ((J 6) (28 + 4 * g)))]) k200_56 rfl rfl ?_
          refine ev_goto (t := 73) k200_58 rfl ?_
          refine ev_ireturn k200_73 ?_
          unfold wouW at hQ
          rw [if_pos (by omega)] at hQ
          exact hQ (by omega) _ ⟨hJ5, fun a a4 a7 a8 a12 a13 => ((f5 a (by assumption)).trans (f4 a (by assumption)))⟩
      · show Ev d 200 22 [some (vr 0), some (vi g), some (vi c), some (vi x), none] [vi 0] (SM J) Q
        refine ev_z_ne (t := 28) k200_22 rfl (by omega) (by omega) (fun h => absurd h (by decide)) (fun _ => ?_)
        refine ev_ldc k200_25 ?_
        refine ev_ireturn k200_27 ?_
        exact hB (by omega)
    · show Ev d 200 13 [some (vr 0), some (vi g), some (vi c), some (vi x), none] [vi 0] (SM J) Q
      refine ev_z_eq (t := 25) k200_13 rfl (by omega) (by omega) (fun _ => ?_) (fun h => absurd h (by decide))
      refine ev_ldc k200_25 ?_
      refine ev_ireturn k200_27 ?_
      exact hB (by omega)
  · show Ev d 200 5 [some (vr 0), some (vi g), some (vi c), some (vi x), none] [vi 0] (SM J) Q
    refine ev_z_eq (t := 25) k200_5 rfl (by omega) (by omega) (fun _ => ?_) (fun h => absurd h (by decide))
    refine ev_ldc k200_25 ?_
    refine ev_ireturn k200_27 ?_
    exact hB (by omega)

set_option maxHeartbeats 1000000 in
theorem m_purl {d : Nat} {K : Nat → Int → Int} {Q : Option jV → jS → Prop} {w : Int → Int} {g c : Int} (hw : OKW w) (hw6 : K 6 = w) (g0 : 0 ≤ g) (g1 : g < w 2) (c0 : 0 ≤ c) (c1 : c < w 1) (hd : 3 ≤ d) (hQ : ∀ J', RZ J' → (∀ a, a ≠ 8 → J' a = K a) → Q (some (vi (purW g c (w (28 + 4 * g)) 21 0 w))) (SM J')) : ∀ (n : Nat) (J : Nat → Int → Int) (i : Nat) (v : Int → Int), RZ J → i + n = 21 → J 8 = v → OKC v c → GSm w v → purW g c (w (28 + 4 * g)) 21 0 w = purW g c (w (28 + 4 * g)) n i v → (∀ a, a ≠ 8 → J a = K a) → Ev d 205 47 [some (vr 0), some (vi g), some (vi c), some (vi (w (28 + 4 * g))), some (vi (i : Int))] [] (SM J) Q := by
  intro n
  induction n with
  | zero =>
    intro J i v hJ hi hv8 hv hg hp hF0
    have w1 := hw.2.1
    have w2 := hw.2.2.1
    have go := hw.2.2.2.2.1 g g0 g1
    have go1 := go.1
    have vo : 0 ≤ v (28 + 4 * g) ∧ v (28 + 4 * g) ≤ 9 := by rw [(hg g g0 g1).1]; exact go.1
    have vw : 1 ≤ v (28 + 4 * g + 1) ∧ v (28 + 4 * g + 1) ≤ 9 := by rw [(hg g g0 g1).2]; exact go.2.1
    refine ev_s1 (L' := [some (vr 0), some (vi g), some (vi c), some (vi (w (28 + 4 * g))), some (vi (i : Int))]) (S' := [vi (i : Int)]) k205_47 rfl rfl ?_
    refine ev_s1 (L' := [some (vr 0), some (vi g), some (vi c), some (vi (w (28 + 4 * g))), some (vi (i : Int))]) (S' := [vi 21, vi (i : Int)]) k205_49 rfl rfl ?_
    refine ev_c_ge (t := 86) k205_51 rfl (by omega) (by omega) (by omega) (by omega) (fun h1 => ?_) (fun h1 => ?_)
    · refine ev_ldc k205_86 ?_
      refine ev_ireturn k205_88 ?_
      rw [hp] at hQ
      exact hQ _ hJ hF0
    · exfalso; omega
  | succ n ih =>
    intro J i v hJ hi hv8 hv hg hp hF0
    have w1 := hw.2.1
    have w2 := hw.2.2.1
    have go := hw.2.2.2.2.1 g g0 g1
    have go1 := go.1
    have vo : 0 ≤ v (28 + 4 * g) ∧ v (28 + 4 * g) ≤ 9 := by rw [(hg g g0 g1).1]; exact go.1
    have vw : 1 ≤ v (28 + 4 * g + 1) ∧ v (28 + 4 * g + 1) ≤ 9 := by rw [(hg g g0 g1).2]; exact go.2.1
    refine ev_s1 (L' := [some (vr 0), some (vi g), some (vi c), some (vi (w (28 + 4 * g))), some (vi (i : Int))]) (S' := [vi (i : Int)]) k205_47 rfl rfl ?_
    refine ev_s1 (L' := [some (vr 0), some (vi g), some (vi c), some (vi (w (28 + 4 * g))), some (vi (i : Int))]) (S' := [vi 21, vi (i : Int)]) k205_49 rfl rfl ?_
    refine ev_c_ge (t := 86) k205_51 rfl (by omega) (by omega) (by omega) (by omega) (fun h1 => ?_) (fun h1 => ?_)
    · exfalso; omega
    · refine ev_s1 (L' := [some (vr 0), some (vi g), some (vi c), some (vi (w (28 + 4 * g))), some (vi (i : Int))]) (S' := [vr 0]) k205_54 rfl rfl ?_
      refine ev_getR k205_55 (by decide) (rfl) (y_0_15) ?_
      refine ev_s1 (L' := [some (vr 0), some (vi g), some (vi c), some (vi (w (28 + 4 * g))), some (vi (i : Int))]) (S' := [vi c, vr 8]) k205_58 rfl rfl ?_
      refine ev_s1 (L' := [some (vr 0), some (vi g), some (vi c), some (vi (w (28 + 4 * g))), some (vi (i : Int))]) (S' := [vi (w (28 + 4 * g)), vi c, vr 8]) k205_59 rfl rfl ?_
      refine ev_static (a := [vr 8, vi c, vi (w (28 + 4 * g))]) (S' := []) k205_60 rfl (Nat.le_of_ble_eq_true rfl) (by omega) ?_
      refine m_bearing hJ (k := 8) (by decide) (c := c) (o := w (28 + 4 * g)) (by omega) (by omega) (by rw [hv8]; exact hv) (by omega) (by omega) (by omega) (?_)
      rw [hv8]
      have bo60 := bear_okc (o := w (28 + 4 * g)) hv (by omega) (by omega)
      show Ev d 205 63 [some (vr 0), some (vi g), some (vi c), some (vi (w (28 + 4 * g))), some (vi (i : Int))] [vi (bearW v c (w (28 + 4 * g)))] (SM J) Q
      refine ev_s1 (L' := [some (vr 0), some (vi g), some (vi c), some (vi (w (28 + 4 * g))), some (vi (i : Int))]) (S' := [vi (w (28 + 4 * g)), vi (bearW v c (w (28 + 4 * g)))]) k205_63 rfl rfl ?_
      refine ev_c_ne (t := 70) k205_64 rfl (by omega) (by omega) (by omega) (by omega) (fun h2 => ?_) (fun h2 => ?_)
      · refine ev_s1 (L' := [some (vr 0), some (vi g), some (vi c), some (vi (w (28 + 4 * g))), some (vi (i : Int))]) (S' := [vr 0]) k205_70 rfl rfl ?_
        refine ev_getR k205_71 (by decide) (rfl) (y_0_15) ?_
        refine ev_s1 (L' := [some (vr 0), some (vi g), some (vi c), some (vi (w (28 + 4 * g))), some (vi (i : Int))]) (S' := [vi g, vr 8]) k205_74 rfl rfl ?_
        refine ev_s1 (L' := [some (vr 0), some (vi g), some (vi c), some (vi (w (28 + 4 * g))), some (vi (i : Int))]) (S' := [vi c, vi g, vr 8]) k205_75 rfl rfl ?_
        refine ev_static (a := [vr 8, vi g, vi c]) (S' := []) k205_76 rfl (Nat.le_of_ble_eq_true rfl) (by omega) ?_
        refine m_sits hJ (k := 8) (by decide) (g := g) (c := c) (by omega) (by omega) (by omega) (by omega) (by rw [hv8]; exact hv) (by rw [hv8]; exact vo) (by rw [hv8]; exact vw) (by omega) (fun J3 hJ3 w3 f3 => ?_)
        rw [hv8]
        rw [hv8] at w3
        have bo76 := bear_okc (o := v (28 + 4 * g)) hv vo.1 vo.2
        show Ev d 205 79 [some (vr 0), some (vi g), some (vi c), some (vi (w (28 + 4 * g))), some (vi (i : Int))] [vi (bearW v c (v (28 + 4 * g)))] (SM J3) Q
        refine ev_s1 (L' := [some (vr 0), some (vi g), some (vi c), some (vi (w (28 + 4 * g))), some (vi (i : Int))]) (S' := []) k205_79 rfl rfl ?_
        refine ev_s1 (L' := [some (vr 0), some (vi g), some (vi c), some (vi (w (28 + 4 * g))), some (vi ((i : Int) + 1))]) (S' := []) k205_80 rfl rfl ?_
        refine ev_goto (t := 47) k205_83 rfl ?_
        exact ih J3 (i + 1) (sitsW v g c) hJ3 (by omega) w3 (sit_okc hv vo) (hg.sits c0 (by omega)) (by rw [hp, purW, if_neg (by omega)]; rfl) (fun a a8 => ((f3 a (by assumption)).trans (hF0 a a8)))
      · refine ev_s1 (L' := [some (vr 0), some (vi g), some (vi c), some (vi (w (28 + 4 * g))), some (vi (i : Int))]) (S' := [vi (i : Int)]) k205_67 rfl rfl ?_
        refine ev_ireturn k205_69 ?_
        rw [hp, purW, if_pos (by omega)] at hQ
        exact hQ _ hJ hF0

set_option maxHeartbeats 1000000 in
theorem m_pure {d : Nat} {J : Nat → Int → Int} {Q : Option jV → jS → Prop} (hJ : RZ J) (hw : OKW (J 6)) {g c : Int} (g0 : -2147483648 ≤ g) (g1 : g < 2147483648) (c0 : -2147483648 ≤ c) (c1 : c < 2147483648) (hd : 4 ≤ d) (hB : ¬ ((0 ≤ g ∧ g < J 6 2) ∧ (0 ≤ c ∧ c < J 6 1)) → Q (some (vi (-1000001))) (SM J)) (hQ : ((0 ≤ g ∧ g < J 6 2) ∧ (0 ≤ c ∧ c < J 6 1)) → ∀ J', FM J J' → Q (some (vi (purW g c (J 6 (28 + 4 * g)) 21 0 (J 6)))) (SM J')) : Cl d 205 [vr 0, vi g, vi c] (SM J) Q := by
  have w0 := hw.1
  have w1 := hw.2.1
  have w2 := hw.2.2.1
  refine ⟨by rw [l205]; exact Nat.le_of_ble_eq_true rfl, ?_⟩
  rw [l205]
  show Ev d 205 0 [some (vr 0), some (vi g), some (vi c), none, none] [] (SM J) Q
  refine ev_s1 (L' := [some (vr 0), some (vi g), some (vi c), none, none]) (S' := [vr 0]) k205_0 rfl rfl ?_
  refine ev_s1 (L' := [some (vr 0), some (vi g), some (vi c), none, none]) (S' := [vi g, vr 0]) k205_1 rfl rfl ?_
  refine ev_virt (a := [vi g]) (S' := []) k205_2 rfl (Nat.le_of_ble_eq_true rfl) (by decide) (rfl) (by omega) ?_
  refine m_isGuest hJ (g := g) (by omega) (by omega) (by omega) (by omega) (fun h1 => ?_) (fun h1 => ?_)
  · show Ev d 205 5 [some (vr 0), some (vi g), some (vi c), none, none] [vi 1] (SM J) Q
    refine ev_z_eq (t := 16) k205_5 rfl (by omega) (by omega) (fun h => absurd h (by decide)) (fun _ => ?_)
    refine ev_s1 (L' := [some (vr 0), some (vi g), some (vi c), none, none]) (S' := [vr 0]) k205_8 rfl rfl ?_
    refine ev_s1 (L' := [some (vr 0), some (vi g), some (vi c), none, none]) (S' := [vi c, vr 0]) k205_9 rfl rfl ?_
    refine ev_virt (a := [vi c]) (S' := []) k205_10 rfl (Nat.le_of_ble_eq_true rfl) (by decide) (rfl) (by omega) ?_
    refine m_isChair hJ (c := c) (by omega) (by omega) (by omega) (by omega) (fun h2 => ?_) (fun h2 => ?_)
    · show Ev d 205 13 [some (vr 0), some (vi g), some (vi c), none, none] [vi 1] (SM J) Q
      refine ev_z_ne (t := 19) k205_13 rfl (by omega) (by omega) (fun _ => ?_) (fun h => absurd h (by decide))
      refine ev_s1 (L' := [some (vr 0), some (vi g), some (vi c), none, none]) (S' := [vr 0]) k205_19 rfl rfl ?_
      refine ev_getR k205_20 (by decide) (rfl) (y_0_13) ?_
      refine ev_s1 (L' := [some (vr 0), some (vi g), some (vi c), none, none]) (S' := [vi 0, vr 6]) k205_23 rfl rfl ?_
      refine ev_s1 (L' := [some (vr 0), some (vi g), some (vi c), none, none]) (S' := [vr 0, vi 0, vr 6]) k205_24 rfl rfl ?_
      refine ev_getR k205_25 (by decide) (rfl) (y_0_15) ?_
      refine ev_s1 (L' := [some (vr 0), some (vi g), some (vi c), none, none]) (S' := [vi 0, vr 8, vi 0, vr 6]) k205_28 rfl rfl ?_
      refine ev_static (a := [vr 6, vi 0, vr 8, vi 0]) (S' := []) k205_29 rfl (Nat.le_of_ble_eq_true rfl) (by omega) ?_
      refine m_copies hJ (f := 6) (t := 8) (lf := 48) (lt := 48) (a := 0) (b := 0) (by decide) ⟨by decide, rfl⟩ ⟨by decide, rfl⟩ (by omega) (by omega) (by omega) (by omega) (by omega) (by decide) (by decide) (fun J3 hJ3 w3 f3 => ?_)
      rw [cp_full hJ.2 (by decide) (by decide)] at w3
      show Ev d 205 32 [some (vr 0), some (vi g), some (vi c), none, none] [] (SM J3) Q
      refine ev_s1 (L' := [some (vr 0), some (vi g), some (vi c), none, none]) (S' := [vr 0]) k205_32 rfl rfl ?_
      refine ev_getR k205_33 (by decide) (rfl) (y_0_13) ?_
      refine ev_s1 (L' := [some (vr 0), some (vi g), some (vi c), none, none]) (S' := [vi 28, vr 6]) k205_36 rfl rfl ?_
      refine ev_s1 (L' := [some (vr 0), some (vi g), some (vi c), none, none]) (S' := [vi 4, vi 28, vr 6]) k205_38 rfl rfl ?_
      refine ev_s1 (L' := [some (vr 0), some (vi g), some (vi c), none, none]) (S' := [vi g, vi 4, vi 28, vr 6]) k205_39 rfl rfl ?_
      refine ev_s1 (L' := [some (vr 0), some (vi g), some (vi c), none, none]) (S' := [vi (4 * g), vi 28, vr 6]) k205_40 rfl rfl ?_
      refine ev_s1 (L' := [some (vr 0), some (vi g), some (vi c), none, none]) (S' := [vi (28 + (4 * g)), vr 6]) k205_41 rfl rfl ?_
      refine ev_iald k205_42 (by decide) (rfl) (by omega) (by omega) ?_
      have rr4 := hJ3.1 6 (28 + (4 * g))
      rw [f3 6 (by decide)]
      rw [f3 6 (by decide)] at rr4
      refine ev_s1 (L' := [some (vr 0), some (vi g), some (vi c), some (vi (J 6 (28 + (4 * g)))), none]) (S' := []) k205_43 rfl rfl ?_
      refine ev_s1 (L' := [some (vr 0), some (vi g), some (vi c), some (vi (J 6 (28 + (4 * g)))), none]) (S' := [vi 0]) k205_44 rfl rfl ?_
      refine ev_s1 (L' := [some (vr 0), some (vi g), some (vi c), some (vi (J 6 (28 + (4 * g)))), some (vi 0)]) (S' := []) k205_45 rfl rfl ?_
      exact m_purl (K := J) (w := J 6) hw rfl (by omega) (by omega) (by omega) (by omega) (by omega) (fun J' hJ' hf => hQ (by omega) J' ⟨hJ', fun a a4 a7 a8 a12 a13 => hf a a8⟩) 21 J3 0 (J 6) hJ3 (by decide) (by rw [w3]) (hw.2.2.2.1 c (by omega) (by omega)) (GSm.refl _) rfl (fun a a8 => (f3 a (by assumption)))
    · show Ev d 205 13 [some (vr 0), some (vi g), some (vi c), none, none] [vi 0] (SM J) Q
      refine ev_z_ne (t := 19) k205_13 rfl (by omega) (by omega) (fun h => absurd h (by decide)) (fun _ => ?_)
      refine ev_ldc k205_16 ?_
      refine ev_ireturn k205_18 ?_
      exact hB (by omega)
  · show Ev d 205 5 [some (vr 0), some (vi g), some (vi c), none, none] [vi 0] (SM J) Q
    refine ev_z_eq (t := 16) k205_5 rfl (by omega) (by omega) (fun _ => ?_) (fun h => absurd h (by decide))
    refine ev_ldc k205_16 ?_
    refine ev_ireturn k205_18 ?_
    exact hB (by omega)

set_option maxHeartbeats 1000000 in
theorem m_isLeft {d : Nat} {J : Nat → Int → Int} {Q : Option jV → jS → Prop} (hJ : RZ J) {c x y : Int} (c0 : 0 ≤ c) (c5 : c < 5) (x0 : -2147483648 ≤ x) (x1 : x < 2147483648) (y0 : -2147483648 ≤ y) (y1 : y < 2147483648) (hT : lefB (J 8) c x y = true → Q (some (vi 1)) (SM J)) (hF : lefB (J 8) c x y = false → Q (some (vi 0)) (SM J)) : Cl d 206 [vr 0, vi c, vi x, vi y] (SM J) Q := by
  refine ⟨by rw [l206]; exact Nat.le_of_ble_eq_true rfl, ?_⟩
  rw [l206]
  show Ev d 206 0 [some (vr 0), some (vi c), some (vi x), some (vi y)] [] (SM J) Q
  refine ev_s1 (L' := [some (vr 0), some (vi c), some (vi x), some (vi y)]) (S' := [vr 0]) k206_0 rfl rfl ?_
  refine ev_getR k206_1 (by decide) (rfl) (y_0_15) ?_
  refine ev_s1 (L' := [some (vr 0), some (vi c), some (vi x), some (vi y)]) (S' := [vi 3, vr 8]) k206_4 rfl rfl ?_
  refine ev_s1 (L' := [some (vr 0), some (vi c), some (vi x), some (vi y)]) (S' := [vi 5, vi 3, vr 8]) k206_5 rfl rfl ?_
  refine ev_s1 (L' := [some (vr 0), some (vi c), some (vi x), some (vi y)]) (S' := [vi c, vi 5, vi 3, vr 8]) k206_6 rfl rfl ?_
  refine ev_s1 (L' := [some (vr 0), some (vi c), some (vi x), some (vi y)]) (S' := [vi (5 * c), vi 3, vr 8]) k206_7 rfl rfl ?_
  refine ev_s1 (L' := [some (vr 0), some (vi c), some (vi x), some (vi y)]) (S' := [vi (3 + (5 * c)), vr 8]) k206_8 rfl rfl ?_
  refine ev_s1 (L' := [some (vr 0), some (vi c), some (vi x), some (vi y)]) (S' := [vi 1, vi (3 + (5 * c)), vr 8]) k206_9 rfl rfl ?_
  refine ev_s1 (L' := [some (vr 0), some (vi c), some (vi x), some (vi y)]) (S' := [vi ((3 + (5 * c)) + 1), vr 8]) k206_10 rfl rfl ?_
  refine ev_iald k206_11 (by decide) (rfl) (by omega) (by omega) ?_
  have rr1 := hJ.1 8 ((3 + (5 * c)) + 1)
  refine ev_s1 (L' := [some (vr 0), some (vi c), some (vi x), some (vi y)]) (S' := [vi x, vi (J 8 ((3 + (5 * c)) + 1))]) k206_12 rfl rfl ?_
  refine ev_c_ne (t := 36) k206_13 rfl (by omega) (by omega) (by omega) (by omega) (fun h2 => ?_) (fun h2 => ?_)
  · refine ev_s1 (L' := [some (vr 0), some (vi c), some (vi x), some (vi y)]) (S' := [vi 0]) k206_36 rfl rfl ?_
    refine ev_zreturn k206_37 (by decide) ?_
    exact hF (by unfold lefB; exact decide_eq_false (by omega))
  · refine ev_s1 (L' := [some (vr 0), some (vi c), some (vi x), some (vi y)]) (S' := [vr 0]) k206_16 rfl rfl ?_
    refine ev_getR k206_17 (by decide) (rfl) (y_0_15) ?_
    refine ev_s1 (L' := [some (vr 0), some (vi c), some (vi x), some (vi y)]) (S' := [vi 3, vr 8]) k206_20 rfl rfl ?_
    refine ev_s1 (L' := [some (vr 0), some (vi c), some (vi x), some (vi y)]) (S' := [vi 5, vi 3, vr 8]) k206_21 rfl rfl ?_
    refine ev_s1 (L' := [some (vr 0), some (vi c), some (vi x), some (vi y)]) (S' := [vi c, vi 5, vi 3, vr 8]) k206_22 rfl rfl ?_
    refine ev_s1 (L' := [some (vr 0), some (vi c), some (vi x), some (vi y)]) (S' := [vi (5 * c), vi 3, vr 8]) k206_23 rfl rfl ?_
    refine ev_s1 (L' := [some (vr 0), some (vi c), some (vi x), some (vi y)]) (S' := [vi (3 + (5 * c)), vr 8]) k206_24 rfl rfl ?_
    refine ev_s1 (L' := [some (vr 0), some (vi c), some (vi x), some (vi y)]) (S' := [vi 2, vi (3 + (5 * c)), vr 8]) k206_25 rfl rfl ?_
    refine ev_s1 (L' := [some (vr 0), some (vi c), some (vi x), some (vi y)]) (S' := [vi ((3 + (5 * c)) + 2), vr 8]) k206_26 rfl rfl ?_
    refine ev_iald k206_27 (by decide) (rfl) (by omega) (by omega) ?_
    have rr3 := hJ.1 8 ((3 + (5 * c)) + 2)
    refine ev_s1 (L' := [some (vr 0), some (vi c), some (vi x), some (vi y)]) (S' := [vi y, vi (J 8 ((3 + (5 * c)) + 2))]) k206_28 rfl rfl ?_
    refine ev_c_ne (t := 36) k206_29 rfl (by omega) (by omega) (by omega) (by omega) (fun h4 => ?_) (fun h4 => ?_)
    · refine ev_s1 (L' := [some (vr 0), some (vi c), some (vi x), some (vi y)]) (S' := [vi 0]) k206_36 rfl rfl ?_
      refine ev_zreturn k206_37 (by decide) ?_
      exact hF (by unfold lefB; exact decide_eq_false (by omega))
    · refine ev_s1 (L' := [some (vr 0), some (vi c), some (vi x), some (vi y)]) (S' := [vi 1]) k206_32 rfl rfl ?_
      refine ev_goto (t := 37) k206_33 rfl ?_
      refine ev_zreturn k206_37 (by decide) ?_
      exact hT (by unfold lefB; exact decide_eq_true ⟨by omega, by omega⟩)

set_option maxHeartbeats 1000000 in
theorem m_beti {d : Nat} {K : Nat → Int → Int} {Q : Option jV → jS → Prop} {w : Int → Int} {c mn st x : Int} (hw : OKW w) (hw6 : K 6 = w) (c0 : 0 ≤ c) (c1 : c < w 1) (mn0 : 0 ≤ mn) (mn9 : mn ≤ 9) (st0 : 0 ≤ st) (st9 : st ≤ 16) (hd : 3 ≤ d) {s p : Int} {i : Nat} (i1 : (i : Int) < w 2) (hE : ∀ (J' : Nat → Int → Int) (y : Int), RZ J' → (∀ a, a ≠ 8 → J' a = K a) → Ev d 207 183 [some (vr 0), some (vi c), some (vi mn), some (vi st), some (vi x), some (vi s), some (vi (p + cntF (fun b => lefB (sitsW (sitsW w (i : Int) c) b c) c mn st) (w 2).toNat)), some (vi (i : Int)), some (vi y)] [] (SM J') Q) : ∀ (n : Nat) (J : Nat → Int → Int) (j : Nat) (t : Int), RZ J → w 2 - j < n → (j : Int) ≤ w 2 → t = p + cntF (fun b => lefB (sitsW (sitsW w (i : Int) c) b c) c mn st) j → (∀ a, a ≠ 8 → J a = K a) → Ev d 207 111 [some (vr 0), some (vi c), some (vi mn), some (vi st), some (vi x), some (vi s), some (vi t), some (vi (i : Int)), some (vi (j : Int))] [] (SM J) Q := by
  intro n
  induction n with
  | zero =>
    intro J j t hJ hj hj2 ht hF0
    exfalso; omega
  | succ n ih =>
    intro J j t hJ hj hj2 ht hF0
    have w1 := hw.2.1
    have w2 := hw.2.2.1
    refine ev_s1 (L' := [some (vr 0), some (vi c), some (vi mn), some (vi st), some (vi x), some (vi s), some (vi t), some (vi (i : Int)), some (vi (j : Int))]) (S' := [vi (j : Int)]) k207_111 rfl rfl ?_
    refine ev_s1 (L' := [some (vr 0), some (vi c), some (vi mn), some (vi st), some (vi x), some (vi s), some (vi t), some (vi (i : Int)), some (vi (j : Int))]) (S' := [vr 0, vi (j : Int)]) k207_113 rfl rfl ?_
    refine ev_getR k207_114 (by decide) (rfl) (y_0_13) ?_
    refine ev_s1 (L' := [some (vr 0), some (vi c), some (vi mn), some (vi st), some (vi x), some (vi s), some (vi t), some (vi (i : Int)), some (vi (j : Int))]) (S' := [vi 2, vr 6, vi (j : Int)]) k207_117 rfl rfl ?_
    refine ev_iald k207_118 (by decide) (rfl) (by omega) (by omega) ?_
    have rr1 := hJ.1 6 2
    rw [hF0 6 (by decide), hw6]
    rw [hF0 6 (by decide), hw6] at rr1
    refine ev_c_ge (t := 183) k207_119 rfl (by omega) (by omega) (by omega) (by omega) (fun h2 => ?_) (fun h2 => ?_)
    · rw [ht, show j = (w 2).toNat by omega]
      exact hE _ _ hJ hF0
    · refine ev_s1 (L' := [some (vr 0), some (vi c), some (vi mn), some (vi st), some (vi x), some (vi s), some (vi t), some (vi (i : Int)), some (vi (j : Int))]) (S' := [vr 0]) k207_122 rfl rfl ?_
      refine ev_getR k207_123 (by decide) (rfl) (y_0_13) ?_
      refine ev_s1 (L' := [some (vr 0), some (vi c), some (vi mn), some (vi st), some (vi x), some (vi s), some (vi t), some (vi (i : Int)), some (vi (j : Int))]) (S' := [vi 0, vr 6]) k207_126 rfl rfl ?_
      refine ev_s1 (L' := [some (vr 0), some (vi c), some (vi mn), some (vi st), some (vi x), some (vi s), some (vi t), some (vi (i : Int)), some (vi (j : Int))]) (S' := [vr 0, vi 0, vr 6]) k207_127 rfl rfl ?_
      refine ev_getR k207_128 (by decide) (rfl) (y_0_15) ?_
      refine ev_s1 (L' := [some (vr 0), some (vi c), some (vi mn), some (vi st), some (vi x), some (vi s), some (vi t), some (vi (i : Int)), some (vi (j : Int))]) (S' := [vi 0, vr 8, vi 0, vr 6]) k207_131 rfl rfl ?_
      refine ev_static (a := [vr 6, vi 0, vr 8, vi 0]) (S' := []) k207_132 rfl (Nat.le_of_ble_eq_true rfl) (by omega) ?_
      refine m_copies hJ (f := 6) (t := 8) (lf := 48) (lt := 48) (a := 0) (b := 0) (by decide) ⟨by decide, rfl⟩ ⟨by decide, rfl⟩ (by omega) (by omega) (by omega) (by omega) (by omega) (by decide) (by decide) (fun J3 hJ3 w3 f3 => ?_)
      rw [cp_full hJ.2 (by decide) (by decide)] at w3
      rw [hF0 6 (by decide), hw6] at w3
      show Ev d 207 135 [some (vr 0), some (vi c), some (vi mn), some (vi st), some (vi x), some (vi s), some (vi t), some (vi (i : Int)), some (vi (j : Int))] [] (SM J3) Q
      refine ev_s1 (L' := [some (vr 0), some (vi c), some (vi mn), some (vi st), some (vi x), some (vi s), some (vi t), some (vi (i : Int)), some (vi (j : Int))]) (S' := [vr 0]) k207_135 rfl rfl ?_
      refine ev_getR k207_136 (by decide) (rfl) (y_0_15) ?_
      refine ev_s1 (L' := [some (vr 0), some (vi c), some (vi mn), some (vi st), some (vi x), some (vi s), some (vi t), some (vi (i : Int)), some (vi (j : Int))]) (S' := [vi (i : Int), vr 8]) k207_139 rfl rfl ?_
      refine ev_s1 (L' := [some (vr 0), some (vi c), some (vi mn), some (vi st), some (vi x), some (vi s), some (vi t), some (vi (i : Int)), some (vi (j : Int))]) (S' := [vi c, vi (i : Int), vr 8]) k207_141 rfl rfl ?_
      refine ev_static (a := [vr 8, vi (i : Int), vi c]) (S' := []) k207_142 rfl (Nat.le_of_ble_eq_true rfl) (by omega) ?_
      refine m_sits hJ3 (k := 8) (by decide) (g := (i : Int)) (c := c) (by omega) (by omega) (by omega) (by omega) (by rw [w3]; exact (hw.2.2.2.1 c (by omega) (by omega))) (by rw [w3]; exact (hw.2.2.2.2.1 (i : Int) (by omega) (by omega)).1) (by rw [w3]; exact (hw.2.2.2.2.1 (i : Int) (by omega) (by omega)).2.1) (by omega) (fun J4 hJ4 w4 f4 => ?_)
      rw [w3]
      rw [w3] at w4
      have bo142 := bear_okc (o := w (28 + 4 * (i : Int))) (hw.2.2.2.1 c (by omega) (by omega)) (hw.2.2.2.2.1 (i : Int) (by omega) (by omega)).1.1 (hw.2.2.2.2.1 (i : Int) (by omega) (by omega)).1.2
      show Ev d 207 145 [some (vr 0), some (vi c), some (vi mn), some (vi st), some (vi x), some (vi s), some (vi t), some (vi (i : Int)), some (vi (j : Int))] [vi (bearW w c (w (28 + 4 * (i : Int))))] (SM J4) Q
      refine ev_s1 (L' := [some (vr 0), some (vi c), some (vi mn), some (vi st), some (vi x), some (vi s), some (vi t), some (vi (i : Int)), some (vi (j : Int))]) (S' := []) k207_145 rfl rfl ?_
      refine ev_s1 (L' := [some (vr 0), some (vi c), some (vi mn), some (vi st), some (vi x), some (vi s), some (vi t), some (vi (i : Int)), some (vi (j : Int))]) (S' := [vr 0]) k207_146 rfl rfl ?_
      refine ev_getR k207_147 (by decide) (rfl) (y_0_15) ?_
      refine ev_s1 (L' := [some (vr 0), some (vi c), some (vi mn), some (vi st), some (vi x), some (vi s), some (vi t), some (vi (i : Int)), some (vi (j : Int))]) (S' := [vi (j : Int), vr 8]) k207_150 rfl rfl ?_
      refine ev_s1 (L' := [some (vr 0), some (vi c), some (vi mn), some (vi st), some (vi x), some (vi s), some (vi t), some (vi (i : Int)), some (vi (j : Int))]) (S' := [vi c, vi (j : Int), vr 8]) k207_152 rfl rfl ?_
      refine ev_static (a := [vr 8, vi (j : Int), vi c]) (S' := []) k207_153 rfl (Nat.le_of_ble_eq_true rfl) (by omega) ?_
      refine m_sits hJ4 (k := 8) (by decide) (g := (j : Int)) (c := c) (by omega) (by omega) (by omega) (by omega) (by rw [w4]; exact (sit_okc (hw.2.2.2.1 c (by omega) (by omega)) (hw.2.2.2.2.1 (i : Int) (by omega) (by omega)).1)) (by rw [w4]; exact (show 0 ≤ sitsW w (i : Int) c (28 + 4 * (j : Int)) ∧ sitsW w (i : Int) c (28 + 4 * (j : Int)) ≤ 9 by rw [sits_o (by omega) (by omega) (by omega)]; exact (hw.2.2.2.2.1 (j : Int) (by omega) (by omega)).1)) (by rw [w4]; exact (show 1 ≤ sitsW w (i : Int) c (28 + 4 * (j : Int) + 1) ∧ sitsW w (i : Int) c (28 + 4 * (j : Int) + 1) ≤ 9 by rw [sits_o (by omega) (by omega) (by omega)]; exact (hw.2.2.2.2.1 (j : Int) (by omega) (by omega)).2.1)) (by omega) (fun J5 hJ5 w5 f5 => ?_)
      rw [w4]
      rw [w4] at w5
      have bo153 := bear_okc (o := (sitsW w (i : Int) c) (28 + 4 * (j : Int))) (sit_okc (hw.2.2.2.1 c (by omega) (by omega)) (hw.2.2.2.2.1 (i : Int) (by omega) (by omega)).1) (show 0 ≤ sitsW w (i : Int) c (28 + 4 * (j : Int)) ∧ sitsW w (i : Int) c (28 + 4 * (j : Int)) ≤ 9 by rw [sits_o (by omega) (by omega) (by omega)]; exact (hw.2.2.2.2.1 (j : Int) (by omega) (by omega)).1).1 (show 0 ≤ sitsW w (i : Int) c (28 + 4 * (j : Int)) ∧ sitsW w (i : Int) c (28 + 4 * (j : Int)) ≤ 9 by rw [sits_o (by omega) (by omega) (by omega)]; exact (hw.2.2.2.2.1 (j : Int) (by omega) (by omega)).1).2
      show Ev d 207 156 [some (vr 0), some (vi c), some (vi mn), some (vi st), some (vi x), some (vi s), some (vi t), some (vi (i : Int)), some (vi (j : Int))] [vi (bearW (sitsW w (i : Int) c) c ((sitsW w (i : Int) c) (28 + 4 * (j : Int))))] (SM J5) Q
      refine ev_s1 (L' := [some (vr 0), some (vi c), some (vi mn), some (vi st), some (vi x), some (vi s), some (vi t), some (vi (i : Int)), some (vi (j : Int))]) (S' := []) k207_156 rfl rfl ?_
      refine ev_s1 (L' := [some (vr 0), some (vi c), some (vi mn), some (vi st), some (vi x), some (vi s), some (vi t), some (vi (i : Int)), some (vi (j : Int))]) (S' := [vi t]) k207_157 rfl rfl ?_
      refine ev_s1 (L' := [some (vr 0), some (vi c), some (vi mn), some (vi st), some (vi x), some (vi s), some (vi t), some (vi (i : Int)), some (vi (j : Int))]) (S' := [vr 0, vi t]) k207_159 rfl rfl ?_
      refine ev_s1 (L' := [some (vr 0), some (vi c), some (vi mn), some (vi st), some (vi x), some (vi s), some (vi t), some (vi (i : Int)), some (vi (j : Int))]) (S' := [vi c, vr 0, vi t]) k207_160 rfl rfl ?_
      refine ev_s1 (L' := [some (vr 0), some (vi c), some (vi mn), some (vi st), some (vi x), some (vi s), some (vi t), some (vi (i : Int)), some (vi (j : Int))]) (S' := [vi mn, vi c, vr 0, vi t]) k207_161 rfl rfl ?_
      refine ev_s1 (L' := [some (vr 0), some (vi c), some (vi mn), some (vi st), some (vi x), some (vi s), some (vi t), some (vi (i : Int)), some (vi (j : Int))]) (S' := [vi st, vi mn, vi c, vr 0, vi t]) k207_162 rfl rfl ?_
      refine ev_virt (a := [vi c, vi mn, vi st]) (S' := [vi t]) k207_163 rfl (Nat.le_of_ble_eq_true rfl) (by decide) (rfl) (by omega) ?_
      refine m_isLeft hJ5 (c := c) (x := mn) (y := st) (by omega) (by omega) (by omega) (by omega) (by omega) (by omega) (fun hl6 => ?_) (fun hl6 => ?_)
      · rw [w5] at hl6
        show Ev d 207 166 [some (vr 0), some (vi c), some (vi mn), some (vi st), some (vi x), some (vi s), some (vi t), some (vi (i : Int)), some (vi (j : Int))] [vi 1, vi t] (SM J5) Q
        refine ev_z_eq (t := 173) k207_166 rfl (by omega) (by omega) (fun h => absurd h (by decide)) (fun _ => ?_)
        refine ev_s1 (L' := [some (vr 0), some (vi c), some (vi mn), some (vi st), some (vi x), some (vi s), some (vi t), some (vi (i : Int)), some (vi (j : Int))]) (S' := [vi 1, vi t]) k207_169 rfl rfl ?_
        refine ev_goto (t := 174) k207_170 rfl ?_
        refine ev_s1 (L' := [some (vr 0), some (vi c), some (vi mn), some (vi st), some (vi x), some (vi s), some (vi t), some (vi (i : Int)), some (vi (j : Int))]) (S' := [vi (t + 1)]) k207_174 rfl rfl ?_
        refine ev_s1 (L' := [some (vr 0), some (vi c), some (vi mn), some (vi st), some (vi x), some (vi s), some (vi (t + 1)), some (vi (i : Int)), some (vi (j : Int))]) (S' := []) k207_175 rfl rfl ?_
        refine ev_s1 (L' := [some (vr 0), some (vi c), some (vi mn), some (vi st), some (vi x), some (vi s), some (vi (t + 1)), some (vi (i : Int)), some (vi ((j : Int) + 1))]) (S' := []) k207_177 rfl rfl ?_
        refine ev_goto (t := 111) k207_180 rfl ?_
        exact ih J5 (j + 1) _ hJ5 (by omega) (by omega) (by rw [cnt_t (p := (fun b => lefB (sitsW (sitsW w (i : Int) c) b c) c mn st)) hl6, ht]; omega) (fun a a8 => ((f5 a (by assumption)).trans ((f4 a (by assumption)).trans ((f3 a (by assumption)).trans (hF0 a a8)))))
      · rw [w5] at hl6
        show Ev d 207 166 [some (vr 0), some (vi c), some (vi mn), some (vi st), some (vi x), some (vi s), some (vi t), some (vi (i : Int)), some (vi (j : Int))] [vi 0, vi t] (SM J5) Q
        refine ev_z_eq (t := 173) k207_166 rfl (by omega) (by omega) (fun _ => ?_) (fun h => absurd h (by decide))
        refine ev_s1 (L' := [some (vr 0), some (vi c), some (vi mn), some (vi st), some (vi x), some (vi s), some (vi t), some (vi (i : Int)), some (vi (j : Int))]) (S' := [vi 0, vi t]) k207_173 rfl rfl ?_
        refine ev_s1 (L' := [some (vr 0), some (vi c), some (vi mn), some (vi st), some (vi x), some (vi s), some (vi t), some (vi (i : Int)), some (vi (j : Int))]) (S' := [vi (t + 0)]) k207_174 rfl rfl ?_
        refine ev_s1 (L' := [some (vr 0), some (vi c), some (vi mn), some (vi st), some (vi x), some (vi s), some (vi (t + 0)), some (vi (i : Int)), some (vi (j : Int))]) (S' := []) k207_175 rfl rfl ?_
        refine ev_s1 (L' := [some (vr 0), some (vi c), some (vi mn), some (vi st), some (vi x), some (vi s), some (vi (t + 0)), some (vi (i : Int)), some (vi ((j : Int) + 1))]) (S' := []) k207_177 rfl rfl ?_
        refine ev_goto (t := 111) k207_180 rfl ?_
        exact ih J5 (j + 1) _ hJ5 (by omega) (by omega) (by rw [cnt_f (p := (fun b => lefB (sitsW (sitsW w (i : Int) c) b c) c mn st)) hl6, ht]; omega) (fun a a8 => ((f5 a (by assumption)).trans ((f4 a (by assumption)).trans ((f3 a (by assumption)).trans (hF0 a a8)))))

set_option maxHeartbeats 1000000 in
theorem m_beto {d : Nat} {K : Nat → Int → Int} {Q : Option jV → jS → Prop} {w : Int → Int} {c mn st x : Int} (hw : OKW w) (hw6 : K 6 = w) (c0 : 0 ≤ c) (c1 : c < w 1) (mn0 : 0 ≤ mn) (mn9 : mn ≤ 9) (st0 : 0 ≤ st) (st9 : st ≤ 16) (hd : 3 ≤ d) (x0 : 0 ≤ x) (x1 : x ≤ 1) (hQ : ∀ J', RZ J' → (∀ a, a ≠ 8 → J' a = K a) → Q (some (vi (if x = 0 then bitsF (fun a => lefB (sitsW w a c) c mn st) (w 2).toNat else sumF (fun a => cntF (fun b => lefB (sitsW (sitsW w a c) b c) c mn st) (w 2).toNat) (w 2).toNat))) (SM J')) : ∀ (n : Nat) (J : Nat → Int → Int) (i : Nat) (s p : Int) (y : Option jV), RZ J → w 2 - i < n → (i : Int) ≤ w 2 → s = bitsF (fun a => lefB (sitsW w a c) c mn st) i → p = sumF (fun a => cntF (fun b => lefB (sitsW (sitsW w a c) b c) c mn st) (w 2).toNat) i → (∀ a, a ≠ 8 → J a = K a) → Ev d 207 50 [some (vr 0), some (vi c), some (vi mn), some (vi st), some (vi x), some (vi s), some (vi p), some (vi (i : Int)), y] [] (SM J) Q := by
  intro n
  induction n with
  | zero =>
    intro J i s p y hJ hi hi2 hs hp hF0
    exfalso; omega
  | succ n ih =>
    intro J i s p y hJ hi hi2 hs hp hF0
    have w1 := hw.2.1
    have w2 := hw.2.2.1
    refine ev_s1 (L' := [some (vr 0), some (vi c), some (vi mn), some (vi st), some (vi x), some (vi s), some (vi p), some (vi (i : Int)), y]) (S' := [vi (i : Int)]) k207_50 rfl rfl ?_
    refine ev_s1 (L' := [some (vr 0), some (vi c), some (vi mn), some (vi st), some (vi x), some (vi s), some (vi p), some (vi (i : Int)), y]) (S' := [vr 0, vi (i : Int)]) k207_52 rfl rfl ?_
    refine ev_getR k207_53 (by decide) (rfl) (y_0_13) ?_
    refine ev_s1 (L' := [some (vr 0), some (vi c), some (vi mn), some (vi st), some (vi x), some (vi s), some (vi p), some (vi (i : Int)), y]) (S' := [vi 2, vr 6, vi (i : Int)]) k207_56 rfl rfl ?_
    refine ev_iald k207_57 (by decide) (rfl) (by omega) (by omega) ?_
    have rr1 := hJ.1 6 2
    rw [hF0 6 (by decide), hw6]
    rw [hF0 6 (by decide), hw6] at rr1
    refine ev_c_ge (t := 189) k207_58 rfl (by omega) (by omega) (by omega) (by omega) (fun h2 => ?_) (fun h2 => ?_)
    · refine ev_s1 (L' := [some (vr 0), some (vi c), some (vi mn), some (vi st), some (vi x), some (vi s), some (vi p), some (vi (i : Int)), y]) (S' := [vi x]) k207_189 rfl rfl ?_
      refine ev_z_ne (t := 199) k207_191 rfl (by omega) (by omega) (fun h3 => ?_) (fun h3 => ?_)
      · refine ev_s1 (L' := [some (vr 0), some (vi c), some (vi mn), some (vi st), some (vi x), some (vi s), some (vi p), some (vi (i : Int)), y]) (S' := [vi p]) k207_199 rfl rfl ?_
        refine ev_ireturn k207_201 ?_
        have ew : (w 2).toNat = i := by omega
        have e1 : s = bitsF (fun a => lefB (sitsW w a c) c mn st) (w 2).toNat := by rw [ew]; exact hs
        have e2 : p = sumF (fun a => cntF (fun b => lefB (sitsW (sitsW w a c) b c) c mn st) (w 2).toNat) (w 2).toNat := by rw [hp, ← ew]
        rw [← e1, ← e2, if_neg (by omega)] at hQ
        exact hQ _ hJ hF0
      · refine ev_s1 (L' := [some (vr 0), some (vi c), some (vi mn), some (vi st), some (vi x), some (vi s), some (vi p), some (vi (i : Int)), y]) (S' := [vi s]) k207_194 rfl rfl ?_
        refine ev_goto (t := 201) k207_196 rfl ?_
        refine ev_ireturn k207_201 ?_
        have ew : (w 2).toNat = i := by omega
        have e1 : s = bitsF (fun a => lefB (sitsW w a c) c mn st) (w 2).toNat := by rw [ew]; exact hs
        have e2 : p = sumF (fun a => cntF (fun b => lefB (sitsW (sitsW w a c) b c) c mn st) (w 2).toNat) (w 2).toNat := by rw [hp, ← ew]
        rw [← e1, ← e2, if_pos (by omega)] at hQ
        exact hQ _ hJ hF0
    · refine ev_s1 (L' := [some (vr 0), some (vi c), some (vi mn), some (vi st), some (vi x), some (vi s), some (vi p), some (vi (i : Int)), y]) (S' := [vr 0]) k207_61 rfl rfl ?_
      refine ev_getR k207_62 (by decide) (rfl) (y_0_13) ?_
      refine ev_s1 (L' := [some (vr 0), some (vi c), some (vi mn), some (vi st), some (vi x), some (vi s), some (vi p), some (vi (i : Int)), y]) (S' := [vi 0, vr 6]) k207_65 rfl rfl ?_
      refine ev_s1 (L' := [some (vr 0), some (vi c), some (vi mn), some (vi st), some (vi x), some (vi s), some (vi p), some (vi (i : Int)), y]) (S' := [vr 0, vi 0, vr 6]) k207_66 rfl rfl ?_
      refine ev_getR k207_67 (by decide) (rfl) (y_0_15) ?_
      refine ev_s1 (L' := [some (vr 0), some (vi c), some (vi mn), some (vi st), some (vi x), some (vi s), some (vi p), some (vi (i : Int)), y]) (S' := [vi 0, vr 8, vi 0, vr 6]) k207_70 rfl rfl ?_
      refine ev_static (a := [vr 6, vi 0, vr 8, vi 0]) (S' := []) k207_71 rfl (Nat.le_of_ble_eq_true rfl) (by omega) ?_
      refine m_copies hJ (f := 6) (t := 8) (lf := 48) (lt := 48) (a := 0) (b := 0) (by decide) ⟨by decide, rfl⟩ ⟨by decide, rfl⟩ (by omega) (by omega) (by omega) (by omega) (by omega) (by decide) (by decide) (fun J4 hJ4 w4 f4 => ?_)
      rw [cp_full hJ.2 (by decide) (by decide)] at w4
      rw [hF0 6 (by decide), hw6] at w4
      show Ev d 207 74 [some (vr 0), some (vi c), some (vi mn), some (vi st), some (vi x), some (vi s), some (vi p), some (vi (i : Int)), y] [] (SM J4) Q
      refine ev_s1 (L' := [some (vr 0), some (vi c), some (vi mn), some (vi st), some (vi x), some (vi s), some (vi p), some (vi (i : Int)), y]) (S' := [vr 0]) k207_74 rfl rfl ?_
      refine ev_getR k207_75 (by decide) (rfl) (y_0_15) ?_
      refine ev_s1 (L' := [some (vr 0), some (vi c), some (vi mn), some (vi st), some (vi x), some (vi s), some (vi p), some (vi (i : Int)), y]) (S' := [vi (i : Int), vr 8]) k207_78 rfl rfl ?_
      refine ev_s1 (L' := [some (vr 0), some (vi c), some (vi mn), some (vi st), some (vi x), some (vi s), some (vi p), some (vi (i : Int)), y]) (S' := [vi c, vi (i : Int), vr 8]) k207_80 rfl rfl ?_
      refine ev_static (a := [vr 8, vi (i : Int), vi c]) (S' := []) k207_81 rfl (Nat.le_of_ble_eq_true rfl) (by omega) ?_
      refine m_sits hJ4 (k := 8) (by decide) (g := (i : Int)) (c := c) (by omega) (by omega) (by omega) (by omega) (by rw [w4]; exact (hw.2.2.2.1 c (by omega) (by omega))) (by rw [w4]; exact (hw.2.2.2.2.1 (i : Int) (by omega) (by omega)).1) (by rw [w4]; exact (hw.2.2.2.2.1 (i : Int) (by omega) (by omega)).2.1) (by omega) (fun J5 hJ5 w5 f5 => ?_)
      rw [w4]
      rw [w4] at w5
      have bo81 := bear_okc (o := w (28 + 4 * (i : Int))) (hw.2.2.2.1 c (by omega) (by omega)) (hw.2.2.2.2.1 (i : Int) (by omega) (by omega)).1.1 (hw.2.2.2.2.1 (i : Int) (by omega) (by omega)).1.2
      show Ev d 207 84 [some (vr 0), some (vi c), some (vi mn), some (vi st), some (vi x), some (vi s), some (vi p), some (vi (i : Int)), y] [vi (bearW w c (w (28 + 4 * (i : Int))))] (SM J5) Q
      refine ev_s1 (L' := [some (vr 0), some (vi c), some (vi mn), some (vi st), some (vi x), some (vi s), some (vi p), some (vi (i : Int)), y]) (S' := []) k207_84 rfl rfl ?_
      refine ev_s1 (L' := [some (vr 0), some (vi c), some (vi mn), some (vi st), some (vi x), some (vi s), some (vi p), some (vi (i : Int)), y]) (S' := [vi s]) k207_85 rfl rfl ?_
      refine ev_s1 (L' := [some (vr 0), some (vi c), some (vi mn), some (vi st), some (vi x), some (vi s), some (vi p), some (vi (i : Int)), y]) (S' := [vr 0, vi s]) k207_87 rfl rfl ?_
      refine ev_s1 (L' := [some (vr 0), some (vi c), some (vi mn), some (vi st), some (vi x), some (vi s), some (vi p), some (vi (i : Int)), y]) (S' := [vi c, vr 0, vi s]) k207_88 rfl rfl ?_
      refine ev_s1 (L' := [some (vr 0), some (vi c), some (vi mn), some (vi st), some (vi x), some (vi s), some (vi p), some (vi (i : Int)), y]) (S' := [vi mn, vi c, vr 0, vi s]) k207_89 rfl rfl ?_
      refine ev_s1 (L' := [some (vr 0), some (vi c), some (vi mn), some (vi st), some (vi x), some (vi s), some (vi p), some (vi (i : Int)), y]) (S' := [vi st, vi mn, vi c, vr 0, vi s]) k207_90 rfl rfl ?_
      refine ev_virt (a := [vi c, vi mn, vi st]) (S' := [vi s]) k207_91 rfl (Nat.le_of_ble_eq_true rfl) (by decide) (rfl) (by omega) ?_
      refine m_isLeft hJ5 (c := c) (x := mn) (y := st) (by omega) (by omega) (by omega) (by omega) (by omega) (by omega) (fun hl6 => ?_) (fun hl6 => ?_)
      · rw [w5] at hl6
        show Ev d 207 94 [some (vr 0), some (vi c), some (vi mn), some (vi st), some (vi x), some (vi s), some (vi p), some (vi (i : Int)), y] [vi 1, vi s] (SM J5) Q
        refine ev_z_eq (t := 104) k207_94 rfl (by omega) (by omega) (fun h => absurd h (by decide)) (fun _ => ?_)
        refine ev_s1 (L' := [some (vr 0), some (vi c), some (vi mn), some (vi st), some (vi x), some (vi s), some (vi p), some (vi (i : Int)), y]) (S' := [vi 1, vi s]) k207_97 rfl rfl ?_
        refine ev_s1 (L' := [some (vr 0), some (vi c), some (vi mn), some (vi st), some (vi x), some (vi s), some (vi p), some (vi (i : Int)), y]) (S' := [vi (i : Int), vi 1, vi s]) k207_98 rfl rfl ?_
        refine ev_ishl k207_100 (by omega) (by omega) ?_
        refine ev_goto (t := 105) k207_101 rfl ?_
        refine ev_ior k207_105 (by have := bits_lt (fun a => lefB (sitsW w a c) c mn st) (n := i) (by omega); omega) (by have := bits_lt (fun a => lefB (sitsW w a c) c mn st) (n := i) (by omega); omega) (by first | decide | exact (p2_rng i (by omega)).1) (by first | decide | exact (p2_rng i (by omega)).2) ?_
        refine ev_s1 (L' := [some (vr 0), some (vi c), some (vi mn), some (vi st), some (vi x), some (vi ((Int.toNat s ||| Int.toNat (1 * 2 ^ Int.toNat (i : Int)) : Nat) : Int)), some (vi p), some (vi (i : Int)), y]) (S' := []) k207_106 rfl rfl ?_
        refine ev_s1 (L' := [some (vr 0), some (vi c), some (vi mn), some (vi st), some (vi x), some (vi ((Int.toNat s ||| Int.toNat (1 * 2 ^ Int.toNat (i : Int)) : Nat) : Int)), some (vi p), some (vi (i : Int)), y]) (S' := [vi 0]) k207_108 rfl rfl ?_
        refine ev_s1 (L' := [some (vr 0), some (vi c), some (vi mn), some (vi st), some (vi x), some (vi ((Int.toNat s ||| Int.toNat (1 * 2 ^ Int.toNat (i : Int)) : Nat) : Int)), some (vi p), some (vi (i : Int)), some (vi 0)]) (S' := []) k207_109 rfl rfl ?_
        refine m_beti (K := J5) (w := w) hw (by rw [f5 6 (by decide), f4 6 (by decide), hF0 6 (by decide), hw6]) c0 c1 mn0 mn9 st0 st9 hd (s := ((Int.toNat s ||| Int.toNat (1 * 2 ^ Int.toNat (i : Int)) : Nat) : Int)) (p := p) (i := i) (by omega) (fun J0 y0 hJ0 f0 => ?_) 6 J5 0 p hJ5 (by omega) (by omega) (by show p = p + 0; omega) (fun _ _ => rfl)
        refine ev_s1 (L' := [some (vr 0), some (vi c), some (vi mn), some (vi st), some (vi x), some (vi ((Int.toNat s ||| Int.toNat (1 * 2 ^ Int.toNat (i : Int)) : Nat) : Int)), some (vi (p + cntF (fun b => lefB (sitsW (sitsW w (i : Int) c) b c) c mn st) (w 2).toNat)), some (vi ((i : Int) + 1)), some (vi y0)]) (S' := []) k207_183 rfl rfl ?_
        refine ev_goto (t := 50) k207_186 rfl ?_
        exact ih J0 (i + 1) _ _ _ hJ0 (by omega) (by omega) (by rw [bits_t (p := (fun a => lefB (sitsW w a c) c mn st)) hl6, ← hs]; rfl) (by rw [sumF, hp]) (fun a a8 => ((f0 a (by assumption)).trans ((f5 a (by assumption)).trans ((f4 a (by assumption)).trans (hF0 a a8)))))
        
      · rw [w5] at hl6
        show Ev d 207 94 [some (vr 0), some (vi c), some (vi mn), some (vi st), some (vi x), some (vi s), some (vi p), some (vi (i : Int)), y] [vi 0, vi s] (SM J5) Q
        refine ev_z_eq (t := 104) k207_94 rfl (by omega) (by omega) (fun _ => ?_) (fun h => absurd h (by decide))
        refine ev_s1 (L' := [some (vr 0), some (vi c), some (vi mn), some (vi st), some (vi x), some (vi s), some (vi p), some (vi (i : Int)), y]) (S' := [vi 0, vi s]) k207_104 rfl rfl ?_
        refine ev_ior k207_105 (by have := bits_lt (fun a => lefB (sitsW w a c) c mn st) (n := i) (by omega); omega) (by have := bits_lt (fun a => lefB (sitsW w a c) c mn st) (n := i) (by omega); omega) (by first | decide | exact (p2_rng i (by omega)).1) (by first | decide | exact (p2_rng i (by omega)).2) ?_
        refine ev_s1 (L' := [some (vr 0), some (vi c), some (vi mn), some (vi st), some (vi x), some (vi ((Int.toNat s ||| Int.toNat 0 : Nat) : Int)), some (vi p), some (vi (i : Int)), y]) (S' := []) k207_106 rfl rfl ?_
        refine ev_s1 (L' := [some (vr 0), some (vi c), some (vi mn), some (vi st), some (vi x), some (vi ((Int.toNat s ||| Int.toNat 0 : Nat) : Int)), some (vi p), some (vi (i : Int)), y]) (S' := [vi 0]) k207_108 rfl rfl ?_
        refine ev_s1 (L' := [some (vr 0), some (vi c), some (vi mn), some (vi st), some (vi x), some (vi ((Int.toNat s ||| Int.toNat 0 : Nat) : Int)), some (vi p), some (vi (i : Int)), some (vi 0)]) (S' := []) k207_109 rfl rfl ?_
        refine m_beti (K := J5) (w := w) hw (by rw [f5 6 (by decide), f4 6 (by decide), hF0 6 (by decide), hw6]) c0 c1 mn0 mn9 st0 st9 hd (s := ((Int.toNat s ||| Int.toNat 0 : Nat) : Int)) (p := p) (i := i) (by omega) (fun J0 y0 hJ0 f0 => ?_) 6 J5 0 p hJ5 (by omega) (by omega) (by show p = p + 0; omega) (fun _ _ => rfl)
        refine ev_s1 (L' := [some (vr 0), some (vi c), some (vi mn), some (vi st), some (vi x), some (vi ((Int.toNat s ||| Int.toNat 0 : Nat) : Int)), some (vi (p + cntF (fun b => lefB (sitsW (sitsW w (i : Int) c) b c) c mn st) (w 2).toNat)), some (vi ((i : Int) + 1)), some (vi y0)]) (S' := []) k207_183 rfl rfl ?_
        refine ev_goto (t := 50) k207_186 rfl ?_
        exact ih J0 (i + 1) _ _ _ hJ0 (by omega) (by omega) (by rw [bits_f (p := (fun a => lefB (sitsW w a c) c mn st)) hl6, ← hs]; exact or0 (by have := bits_lt (fun a => lefB (sitsW w a c) c mn st) (n := i) (by omega); omega)) (by rw [sumF, hp]) (fun a a8 => ((f0 a (by assumption)).trans ((f5 a (by assumption)).trans ((f4 a (by assumption)).trans (hF0 a a8)))))
        

set_option maxHeartbeats 1000000 in
theorem m_between {d : Nat} {J : Nat → Int → Int} {Q : Option jV → jS → Prop} (hJ : RZ J) (hw : OKW (J 6)) {c mn st x : Int} (c0 : -2147483648 ≤ c) (c1 : c < 2147483648) (mn0 : -2147483648 ≤ mn) (mn1 : mn < 2147483648) (st0 : -2147483648 ≤ st) (st1 : st < 2147483648) (x0 : -2147483648 ≤ x) (x1 : x < 2147483648) (hd : 4 ≤ d) (hB : ¬ ((0 ≤ c ∧ c < J 6 1) ∧ (0 ≤ mn ∧ mn ≤ 9) ∧ (0 ≤ st ∧ st ≤ 16) ∧ (0 ≤ x ∧ x ≤ 1)) → Q (some (vi (-1000001))) (SM J)) (hQ : ((0 ≤ c ∧ c < J 6 1) ∧ (0 ≤ mn ∧ mn ≤ 9) ∧ (0 ≤ st ∧ st ≤ 16) ∧ (0 ≤ x ∧ x ≤ 1)) → ∀ J', FM J J' → Q (some (vi (if x = 0 then bitsF (fun a => lefB (sitsW (J 6) a c) c mn st) (J 6 2).toNat else sumF (fun a => cntF (fun b => lefB (sitsW (sitsW (J 6) a c) b c) c mn st) (J 6 2).toNat) (J 6 2).toNat))) (SM J')) : Cl d 207 [vr 0, vi c, vi mn, vi st, vi x] (SM J) Q := by
  have w0 := hw.1
  have w1 := hw.2.1
  have w2 := hw.2.2.1
  refine ⟨by rw [l207]; exact Nat.le_of_ble_eq_true rfl, ?_⟩
  rw [l207]
  show Ev d 207 0 [some (vr 0), some (vi c), some (vi mn), some (vi st), some (vi x), none, none, none, none] [] (SM J) Q
  refine ev_s1 (L' := [some (vr 0), some (vi c), some (vi mn), some (vi st), some (vi x), none, none, none, none]) (S' := [vr 0]) k207_0 rfl rfl ?_
  refine ev_s1 (L' := [some (vr 0), some (vi c), some (vi mn), some (vi st), some (vi x), none, none, none, none]) (S' := [vi c, vr 0]) k207_1 rfl rfl ?_
  refine ev_virt (a := [vi c]) (S' := []) k207_2 rfl (Nat.le_of_ble_eq_true rfl) (by decide) (rfl) (by omega) ?_
  refine m_isChair hJ (c := c) (by omega) (by omega) (by omega) (by omega) (fun h1 => ?_) (fun h1 => ?_)
  · show Ev d 207 5 [some (vr 0), some (vi c), some (vi mn), some (vi st), some (vi x), none, none, none, none] [vi 1] (SM J) Q
    refine ev_z_eq (t := 38) k207_5 rfl (by omega) (by omega) (fun h => absurd h (by decide)) (fun _ => ?_)
    refine ev_s1 (L' := [some (vr 0), some (vi c), some (vi mn), some (vi st), some (vi x), none, none, none, none]) (S' := [vi mn]) k207_8 rfl rfl ?_
    refine ev_s1 (L' := [some (vr 0), some (vi c), some (vi mn), some (vi st), some (vi x), none, none, none, none]) (S' := [vi 0, vi mn]) k207_9 rfl rfl ?_
    refine ev_s1 (L' := [some (vr 0), some (vi c), some (vi mn), some (vi st), some (vi x), none, none, none, none]) (S' := [vi 9, vi 0, vi mn]) k207_10 rfl rfl ?_
    refine ev_static (a := [vi mn, vi 0, vi 9]) (S' := []) k207_12 rfl (Nat.le_of_ble_eq_true rfl) (by omega) ?_
    refine m_in (v := mn) (lo := 0) (hi := 9) (by omega) (by omega) (by omega) (by omega) (by omega) (by omega) (fun h2 => ?_) (fun h2 => ?_)
    · show Ev d 207 15 [some (vr 0), some (vi c), some (vi mn), some (vi st), some (vi x), none, none, none, none] [vi 1] (SM J) Q
      refine ev_z_eq (t := 38) k207_15 rfl (by omega) (by omega) (fun h => absurd h (by decide)) (fun _ => ?_)
      refine ev_s1 (L' := [some (vr 0), some (vi c), some (vi mn), some (vi st), some (vi x), none, none, none, none]) (S' := [vi st]) k207_18 rfl rfl ?_
      refine ev_s1 (L' := [some (vr 0), some (vi c), some (vi mn), some (vi st), some (vi x), none, none, none, none]) (S' := [vi 0, vi st]) k207_19 rfl rfl ?_
      refine ev_s1 (L' := [some (vr 0), some (vi c), some (vi mn), some (vi st), some (vi x), none, none, none, none]) (S' := [vi 16, vi 0, vi st]) k207_20 rfl rfl ?_
      refine ev_static (a := [vi st, vi 0, vi 16]) (S' := []) k207_22 rfl (Nat.le_of_ble_eq_true rfl) (by omega) ?_
      refine m_in (v := st) (lo := 0) (hi := 16) (by omega) (by omega) (by omega) (by omega) (by omega) (by omega) (fun h3 => ?_) (fun h3 => ?_)
      · show Ev d 207 25 [some (vr 0), some (vi c), some (vi mn), some (vi st), some (vi x), none, none, none, none] [vi 1] (SM J) Q
        refine ev_z_eq (t := 38) k207_25 rfl (by omega) (by omega) (fun h => absurd h (by decide)) (fun _ => ?_)
        refine ev_s1 (L' := [some (vr 0), some (vi c), some (vi mn), some (vi st), some (vi x), none, none, none, none]) (S' := [vi x]) k207_28 rfl rfl ?_
        refine ev_s1 (L' := [some (vr 0), some (vi c), some (vi mn), some (vi st), some (vi x), none, none, none, none]) (S' := [vi 0, vi x]) k207_30 rfl rfl ?_
        refine ev_s1 (L' := [some (vr 0), some (vi c), some (vi mn), some (vi st), some (vi x), none, none, none, none]) (S' := [vi 1, vi 0, vi x]) k207_31 rfl rfl ?_
        refine ev_static (a := [vi x, vi 0, vi 1]) (S' := []) k207_32 rfl (Nat.le_of_ble_eq_true rfl) (by omega) ?_
        refine m_in (v := x) (lo := 0) (hi := 1) (by omega) (by omega) (by omega) (by omega) (by omega) (by omega) (fun h4 => ?_) (fun h4 => ?_)
        · show Ev d 207 35 [some (vr 0), some (vi c), some (vi mn), some (vi st), some (vi x), none, none, none, none] [vi 1] (SM J) Q
          refine ev_z_ne (t := 41) k207_35 rfl (by omega) (by omega) (fun _ => ?_) (fun h => absurd h (by decide))
          refine ev_s1 (L' := [some (vr 0), some (vi c), some (vi mn), some (vi st), some (vi x), none, none, none, none]) (S' := [vi 0]) k207_41 rfl rfl ?_
          refine ev_s1 (L' := [some (vr 0), some (vi c), some (vi mn), some (vi st), some (vi x), some (vi 0), none, none, none]) (S' := []) k207_42 rfl rfl ?_
          refine ev_s1 (L' := [some (vr 0), some (vi c), some (vi mn), some (vi st), some (vi x), some (vi 0), none, none, none]) (S' := [vi 0]) k207_44 rfl rfl ?_
          refine ev_s1 (L' := [some (vr 0), some (vi c), some (vi mn), some (vi st), some (vi x), some (vi 0), some (vi 0), none, none]) (S' := []) k207_45 rfl rfl ?_
          refine ev_s1 (L' := [some (vr 0), some (vi c), some (vi mn), some (vi st), some (vi x), some (vi 0), some (vi 0), none, none]) (S' := [vi 0]) k207_47 rfl rfl ?_
          refine ev_s1 (L' := [some (vr 0), some (vi c), some (vi mn), some (vi st), some (vi x), some (vi 0), some (vi 0), some (vi 0), none]) (S' := []) k207_48 rfl rfl ?_
          exact m_beto (K := J) (w := J 6) hw rfl (by omega) (by omega) (by omega) (by omega) (by omega) (by omega) (by omega) (by omega) (by omega) (fun J' hJ' hf => hQ (by omega) J' ⟨hJ', fun a a4 a7 a8 a12 a13 => hf a a8⟩) 6 J 0 0 0 none hJ (by omega) (by omega) rfl rfl (fun _ _ => rfl)
        · show Ev d 207 35 [some (vr 0), some (vi c), some (vi mn), some (vi st), some (vi x), none, none, none, none] [vi 0] (SM J) Q
          refine ev_z_ne (t := 41) k207_35 rfl (by omega) (by omega) (fun h => absurd h (by decide)) (fun _ => ?_)
          refine ev_ldc k207_38 ?_
          refine ev_ireturn k207_40 ?_
          exact hB (by omega)
      · show Ev d 207 25 [some (vr 0), some (vi c), some (vi mn), some (vi st), some (vi x), none, none, none, none] [vi 0] (SM J) Q
        refine ev_z_eq (t := 38) k207_25 rfl (by omega) (by omega) (fun _ => ?_) (fun h => absurd h (by decide))
        refine ev_ldc k207_38 ?_
        refine ev_ireturn k207_40 ?_
        exact hB (by omega)
    · show Ev d 207 15 [some (vr 0), some (vi c), some (vi mn), some (vi st), some (vi x), none, none, none, none] [vi 0] (SM J) Q
      refine ev_z_eq (t := 38) k207_15 rfl (by omega) (by omega) (fun _ => ?_) (fun h => absurd h (by decide))
      refine ev_ldc k207_38 ?_
      refine ev_ireturn k207_40 ?_
      exact hB (by omega)
  · show Ev d 207 5 [some (vr 0), some (vi c), some (vi mn), some (vi st), some (vi x), none, none, none, none] [vi 0] (SM J) Q
    refine ev_z_eq (t := 38) k207_5 rfl (by omega) (by omega) (fun _ => ?_) (fun h => absurd h (by decide))
    refine ev_ldc k207_38 ?_
    refine ev_ireturn k207_40 ?_
    exact hB (by omega)

set_option maxHeartbeats 1000000 in
theorem m_tril {d : Nat} {J : Nat → Int → Int} {Q : Option jV → jS → Prop} (hJ : RZ J) (hw : OKW (J 6)) {x : Int} (x0 : 0 ≤ x) (x1 : x ≤ 1) (hd : 1 ≤ d) (hQ : Q (some (vi (if x = 0 then cntF (triB (J 6)) (J 6 1).toNat else firstF (triB (J 6)) (J 6 1).toNat))) (SM J)) : ∀ (n : Nat) (i : Nat) (t f : Int), J 6 1 - i < n → (i : Int) ≤ J 6 1 → t = cntF (triB (J 6)) i → f = firstF (triB (J 6)) i → ((t = 0 ∧ f = -1000000) ∨ (0 < t ∧ 0 ≤ f ∧ f ≤ 9)) → Ev d 208 30 [some (vr 0), some (vi x), some (vi t), some (vi f), some (vi (i : Int))] [] (SM J) Q := by
  intro n
  induction n with
  | zero =>
    intro i t f hi hi2 ht hf htf
    exfalso; omega
  | succ n ih =>
    intro i t f hi hi2 ht hf htf
    have w1 := hw.2.1
    have w2 := hw.2.2.1
    have tr := cnt_rng (triB (J 6)) i
    refine ev_s1 (L' := [some (vr 0), some (vi x), some (vi t), some (vi f), some (vi (i : Int))]) (S' := [vi (i : Int)]) k208_30 rfl rfl ?_
    refine ev_s1 (L' := [some (vr 0), some (vi x), some (vi t), some (vi f), some (vi (i : Int))]) (S' := [vr 0, vi (i : Int)]) k208_32 rfl rfl ?_
    refine ev_getR k208_33 (by decide) (rfl) (y_0_13) ?_
    refine ev_s1 (L' := [some (vr 0), some (vi x), some (vi t), some (vi f), some (vi (i : Int))]) (S' := [vi 1, vr 6, vi (i : Int)]) k208_36 rfl rfl ?_
    refine ev_iald k208_37 (by decide) (rfl) (by omega) (by omega) ?_
    have rr1 := hJ.1 6 1
    refine ev_c_ge (t := 73) k208_38 rfl (by omega) (by omega) (by omega) (by omega) (fun h2 => ?_) (fun h2 => ?_)
    · refine ev_s1 (L' := [some (vr 0), some (vi x), some (vi t), some (vi f), some (vi (i : Int))]) (S' := [vi x]) k208_73 rfl rfl ?_
      refine ev_z_ne (t := 81) k208_74 rfl (by omega) (by omega) (fun h3 => ?_) (fun h3 => ?_)
      · refine ev_s1 (L' := [some (vr 0), some (vi x), some (vi t), some (vi f), some (vi (i : Int))]) (S' := [vi f]) k208_81 rfl rfl ?_
        refine ev_ireturn k208_82 ?_
        rw [show (J 6 1).toNat = i by omega, ← ht, ← hf, if_neg (by omega)] at hQ
        exact hQ
      · refine ev_s1 (L' := [some (vr 0), some (vi x), some (vi t), some (vi f), some (vi (i : Int))]) (S' := [vi t]) k208_77 rfl rfl ?_
        refine ev_goto (t := 82) k208_78 rfl ?_
        refine ev_ireturn k208_82 ?_
        rw [show (J 6 1).toNat = i by omega, ← ht, ← hf, if_pos (by omega)] at hQ
        exact hQ
    · refine ev_s1 (L' := [some (vr 0), some (vi x), some (vi t), some (vi f), some (vi (i : Int))]) (S' := [vr 0]) k208_41 rfl rfl ?_
      refine ev_getR k208_42 (by decide) (rfl) (y_0_13) ?_
      refine ev_s1 (L' := [some (vr 0), some (vi x), some (vi t), some (vi f), some (vi (i : Int))]) (S' := [vi (i : Int), vr 6]) k208_45 rfl rfl ?_
      refine ev_static (a := [vr 6, vi (i : Int)]) (S' := []) k208_47 rfl (Nat.le_of_ble_eq_true rfl) (by omega) ?_
      refine m_isTrio hJ (k := 6) (by decide) (c := (i : Int)) (by omega) (by omega) (by omega) (fun h4 => ?_) (fun h4 => ?_)
      · show Ev d 208 50 [some (vr 0), some (vi x), some (vi t), some (vi f), some (vi (i : Int))] [vi 1] (SM J) Q
        refine ev_z_eq (t := 67) k208_50 rfl (by omega) (by omega) (fun h => absurd h (by decide)) (fun _ => ?_)
        refine ev_s1 (L' := [some (vr 0), some (vi x), some (vi t), some (vi f), some (vi (i : Int))]) (S' := [vi t]) k208_53 rfl rfl ?_
        refine ev_z_ne (t := 62) k208_54 rfl (by omega) (by omega) (fun h5 => ?_) (fun h5 => ?_)
        · refine ev_s1 (L' := [some (vr 0), some (vi x), some (vi t), some (vi f), some (vi (i : Int))]) (S' := [vi f]) k208_62 rfl rfl ?_
          refine ev_s1 (L' := [some (vr 0), some (vi x), some (vi t), some (vi f), some (vi (i : Int))]) (S' := []) k208_63 rfl rfl ?_
          refine ev_s1 (L' := [some (vr 0), some (vi x), some (vi (t + 1)), some (vi f), some (vi (i : Int))]) (S' := []) k208_64 rfl rfl ?_
          refine ev_s1 (L' := [some (vr 0), some (vi x), some (vi (t + 1)), some (vi f), some (vi ((i : Int) + 1))]) (S' := []) k208_67 rfl rfl ?_
          refine ev_goto (t := 30) k208_70 rfl ?_
          exact ih (i + 1) _ f (by omega) (by omega) (by rw [cnt_t (p := triB (J 6)) (by assumption), ht]) (by rw [firstF, if_neg (by omega)]; exact hf) (by omega)
        · refine ev_s1 (L' := [some (vr 0), some (vi x), some (vi t), some (vi f), some (vi (i : Int))]) (S' := [vi (i : Int)]) k208_57 rfl rfl ?_
          refine ev_goto (t := 63) k208_59 rfl ?_
          refine ev_s1 (L' := [some (vr 0), some (vi x), some (vi t), some (vi (i : Int)), some (vi (i : Int))]) (S' := []) k208_63 rfl rfl ?_
          refine ev_s1 (L' := [some (vr 0), some (vi x), some (vi (t + 1)), some (vi (i : Int)), some (vi (i : Int))]) (S' := []) k208_64 rfl rfl ?_
          refine ev_s1 (L' := [some (vr 0), some (vi x), some (vi (t + 1)), some (vi (i : Int)), some (vi ((i : Int) + 1))]) (S' := []) k208_67 rfl rfl ?_
          refine ev_goto (t := 30) k208_70 rfl ?_
          exact ih (i + 1) _ _ (by omega) (by omega) (by rw [cnt_t (p := triB (J 6)) (by assumption), ht]) (by rw [firstF, if_pos (by omega), if_pos (by assumption)]) (by omega)
      · show Ev d 208 50 [some (vr 0), some (vi x), some (vi t), some (vi f), some (vi (i : Int))] [vi 0] (SM J) Q
        refine ev_z_eq (t := 67) k208_50 rfl (by omega) (by omega) (fun _ => ?_) (fun h => absurd h (by decide))
        refine ev_s1 (L' := [some (vr 0), some (vi x), some (vi t), some (vi f), some (vi ((i : Int) + 1))]) (S' := []) k208_67 rfl rfl ?_
        refine ev_goto (t := 30) k208_70 rfl ?_
        exact ih (i + 1) t f (by omega) (by omega) (by rw [cnt_f (p := triB (J 6)) (by assumption)]; exact ht) (by rw [firstF]; split; (rw [if_neg (Bool.eq_false_iff.mp (by assumption))]; omega); (exact hf)) htf

set_option maxHeartbeats 1000000 in
theorem m_trios {d : Nat} {J : Nat → Int → Int} {Q : Option jV → jS → Prop} (hJ : RZ J) (hw : OKW (J 6)) {x : Int} (x0 : -2147483648 ≤ x) (x1 : x < 2147483648) (hd : 2 ≤ d) (hS : ¬ 0 < J 6 1 → Q (some (vi (-1000002))) (SM J)) (hB : 0 < J 6 1 → ¬ (0 ≤ x ∧ x ≤ 1) → Q (some (vi (-1000001))) (SM J)) (hQ : 0 < J 6 1 → (0 ≤ x ∧ x ≤ 1) → Q (some (vi (if x = 0 then cntF (triB (J 6)) (J 6 1).toNat else firstF (triB (J 6)) (J 6 1).toNat))) (SM J)) : Cl d 208 [vr 0, vi x] (SM J) Q := by
  have w0 := hw.1
  have w1 := hw.2.1
  have w2 := hw.2.2.1
  refine ⟨by rw [l208]; exact Nat.le_of_ble_eq_true rfl, ?_⟩
  rw [l208]
  show Ev d 208 0 [some (vr 0), some (vi x), none, none, none] [] (SM J) Q
  refine ev_s1 (L' := [some (vr 0), some (vi x), none, none, none]) (S' := [vr 0]) k208_0 rfl rfl ?_
  refine ev_virt (a := []) (S' := []) k208_1 rfl (Nat.le_of_ble_eq_true rfl) (by decide) (rfl) (by omega) ?_
  refine m_isRoom hJ (fun h1 => ?_) (fun h1 => ?_)
  · show Ev d 208 4 [some (vr 0), some (vi x), none, none, none] [vi 1] (SM J) Q
    refine ev_z_ne (t := 10) k208_4 rfl (by omega) (by omega) (fun _ => ?_) (fun h => absurd h (by decide))
    refine ev_s1 (L' := [some (vr 0), some (vi x), none, none, none]) (S' := [vi x]) k208_10 rfl rfl ?_
    refine ev_s1 (L' := [some (vr 0), some (vi x), none, none, none]) (S' := [vi 0, vi x]) k208_11 rfl rfl ?_
    refine ev_s1 (L' := [some (vr 0), some (vi x), none, none, none]) (S' := [vi 1, vi 0, vi x]) k208_12 rfl rfl ?_
    refine ev_static (a := [vi x, vi 0, vi 1]) (S' := []) k208_13 rfl (Nat.le_of_ble_eq_true rfl) (by omega) ?_
    refine m_in (v := x) (lo := 0) (hi := 1) (by omega) (by omega) (by omega) (by omega) (by omega) (by omega) (fun h2 => ?_) (fun h2 => ?_)
    · show Ev d 208 16 [some (vr 0), some (vi x), none, none, none] [vi 1] (SM J) Q
      refine ev_z_ne (t := 22) k208_16 rfl (by omega) (by omega) (fun _ => ?_) (fun h => absurd h (by decide))
      refine ev_s1 (L' := [some (vr 0), some (vi x), none, none, none]) (S' := [vi 0]) k208_22 rfl rfl ?_
      refine ev_s1 (L' := [some (vr 0), some (vi x), some (vi 0), none, none]) (S' := []) k208_23 rfl rfl ?_
      refine ev_ldc k208_24 ?_
      refine ev_s1 (L' := [some (vr 0), some (vi x), some (vi 0), some (vi (-1000000)), none]) (S' := []) k208_26 rfl rfl ?_
      refine ev_s1 (L' := [some (vr 0), some (vi x), some (vi 0), some (vi (-1000000)), none]) (S' := [vi 0]) k208_27 rfl rfl ?_
      refine ev_s1 (L' := [some (vr 0), some (vi x), some (vi 0), some (vi (-1000000)), some (vi 0)]) (S' := []) k208_28 rfl rfl ?_
      exact m_tril hJ hw (by omega) (by omega) (by omega) (hQ (by omega) (by omega)) 6 0 0 (-1000000) (by omega) (by omega) rfl rfl (by omega)
    · show Ev d 208 16 [some (vr 0), some (vi x), none, none, none] [vi 0] (SM J) Q
      refine ev_z_ne (t := 22) k208_16 rfl (by omega) (by omega) (fun h => absurd h (by decide)) (fun _ => ?_)
      refine ev_ldc k208_19 ?_
      refine ev_ireturn k208_21 ?_
      exact hB (by omega) (by omega)
  · show Ev d 208 4 [some (vr 0), some (vi x), none, none, none] [vi 0] (SM J) Q
    refine ev_z_ne (t := 10) k208_4 rfl (by omega) (by omega) (fun h => absurd h (by decide)) (fun _ => ?_)
    refine ev_ldc k208_7 ?_
    refine ev_ireturn k208_9 ?_
    exact hS (by omega)
