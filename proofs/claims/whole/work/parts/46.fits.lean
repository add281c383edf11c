def allF (p : Int → Bool) : Nat → Bool
  | 0 => true
  | n + 1 => allF p n && p (n : Int)
theorem all_t {p : Int → Bool} : ∀ {n : Nat}, (∀ j : Nat, j < n → p (j : Int) = true) → allF p n = true := by
  intro n
  induction n with
  | zero => intro _; rfl
  | succ n ih =>
    intro h
    rw [allF, ih (fun j hj => h j (by omega)), h n (by omega)]
    rfl
theorem all_f {p : Int → Bool} {i : Nat} (hp : p (i : Int) = false) : ∀ {n : Nat}, i < n → allF p n = false := by
  intro n
  induction n with
  | zero => intro h; omega
  | succ n ih =>
    intro h
    rw [allF]
    rcases Nat.lt_or_ge i n with q | q
    · rw [ih q]; rfl
    · rw [show n = i by omega, hp, Bool.and_false]
theorem g_bofN {d : Nat} {I : Nat → Int → Int} {ch : Int → Nat} {kd : Nat → Nat} {Q : Option jV → jS → Prop} {w : Int → Int} (hN : NOWX I ch kd w) (hI : Rg I) {c o : Int} (c0 : 0 ≤ c) (c1 : c < w 1) (o1 : 0 ≤ o) (o2 : o ≤ 9) (hd : 3 ≤ d) (hQ : Q (some (vi (bearW w c o))) (SX I ch kd)) : Cl d 7 [vr (ch c), vi o] (SX I ch kd) Q := by
  have c5 : c < 5 := by have := hN.2.2.1.2.1; omega
  obtain ⟨k0, k1, k2, k3, k4, k5⟩ := hN.2.1.2.2.2.1 c c0 c1
  obtain ⟨q0, q1, q2, q3, q4⟩ := hN.2.2.1.2.2.2.1 c c0 c1
  have hk : kd (ch c) = kW w c := by unfold kW; omega
  refine c_bearingOf hd (hN.1.2.1 c c0 c5).2 (hN.2.2.2 c c0 c5) ⟨by omega, by omega, by omega, by omega, by omega, by omega⟩ o1 o2 hI ?_
  rw [hk, k1, k2, k4]
  exact hQ
def ownB (w its : Int → Int) (i v : Int) : Bool := allF (fun c => decide (bearW w c v = its (i + c))) (w 1).toNat

set_option maxHeartbeats 1000000 in
theorem l_owng {d : Nat} {I : Nat → Int → Int} {ch : Int → Nat} {kd : Nat → Nat} {Q : Option jV → jS → Prop} {w : Int → Int} (hN : NOWX I ch kd w) (hI : Rg I) {it : Nat} {fr : Int} (hit : shX it = (50, 40)) (it1 : it < 125) (it2 : 56 < it) (fr0 : 0 ≤ fr) {v : Int} (v0 : 0 ≤ v) (v9 : v ≤ 9) (fr1 : fr + w 1 ≤ 40) (hd : 4 ≤ d) (hT : ownB w (I it) fr v = true → Q (some (vi 1)) (SX I ch kd)) (hF : ownB w (I it) fr v = false → Q (some (vi 0)) (SX I ch kd)) : ∀ (n i : Nat), w 1 - i < n → (i : Int) ≤ w 1 → (∀ j : Nat, j < i → decide (bearW w j v = I it (fr + j)) = true) → Ev d 32 3 [some (vr 40), some (vi v), some (vr it), some (vi fr), some (vi (i : Int))] [] (SX I ch kd) Q := by
  obtain ⟨⟨wa0, wa1⟩, ⟨wb0, wb1⟩, ⟨wc0, wc1⟩, wC, wG, wU⟩ := hN.2.2.1
  intro n
  induction n with
  | zero => intro i h1 h2; exfalso; omega
  | succ n ih =>
    intro i hn hi ha
    refine ev_s1 (L' := [some (vr 40), some (vi v), some (vr it), some (vi fr), some (vi (i : Int))]) (S' := [vi (i : Int)]) k32_3 rfl rfl ?_
    refine ev_s1 (L' := [some (vr 40), some (vi v), some (vr it), some (vi fr), some (vi (i : Int))]) (S' := [vr 40, vi (i : Int)]) k32_5 rfl rfl ?_
    refine ev_getR k32_6 (by decide) (rfl) (x_40_0 ch kd) ?_
    refine ev_getI k32_9 (by decide) (rfl) ?_
    show Ev d 32 12 [some (vr 40), some (vi v), some (vr it), some (vi fr), some (vi (i : Int))] [vi (I 13 6), vi (i : Int)] (SX I ch kd) Q
    have rr1 := hI 13 6
    rw [hN.2.1.1]
    rw [hN.2.1.1] at rr1
    refine ev_c_ge (t := 46) k32_12 rfl (by omega) (by omega) (by omega) (by omega) (fun h2 => ?_) (fun h2 => ?_)
    · refine ev_s1 (L' := [some (vr 40), some (vi v), some (vr it), some (vi fr), some (vi (i : Int))]) (S' := [vi 1]) k32_46 rfl rfl ?_
      refine ev_zreturn k32_47 (by decide) ?_
      exact hT (all_t (fun j hj => ha j (by omega)))
    · refine ev_s1 (L' := [some (vr 40), some (vi v), some (vr it), some (vi fr), some (vi (i : Int))]) (S' := [vr 40]) k32_15 rfl rfl ?_
      refine ev_getR k32_16 (by decide) (rfl) (x_40_0 ch kd) ?_
      refine ev_getR k32_19 (by decide) (rfl) (x_13_1 ch kd) ?_
      refine ev_s1 (L' := [some (vr 40), some (vi v), some (vr it), some (vi fr), some (vi (i : Int))]) (S' := [vi (i : Int), vr 14]) k32_22 rfl rfl ?_
      have hc3 := hN.1.2.1 (i : Int) (by omega) (by omega)
      have hl3 := (shp_c hc3.2).1
      have hb3 := hN.1.2.2.2 (i : Int) (by omega) (by omega)
      refine ev_aald (q := ch (i : Int)) k32_24 (by decide) (rfl) (by decide) (by decide) (by omega) (by omega) (rX14 (by omega) (by omega)) ?_
      refine ev_s1 (L' := [some (vr 40), some (vi v), some (vr it), some (vi fr), some (vi (i : Int))]) (S' := [vi v, vr (ch (i : Int))]) k32_25 rfl rfl ?_
      refine ev_virt (a := [vi v]) (S' := []) k32_26 rfl (Nat.le_of_ble_eq_true rfl) (by omega) ((shp_c hc3.2).2) (by omega) ?_
      refine g_bofN hN hI (by omega) (by omega) (by omega) (by omega) (by omega) (?_)
      have bg26 := bear_okc (o := v) (wC (i : Int) (by omega) (by omega)) (by omega) (by omega)
      show Ev d 32 29 [some (vr 40), some (vi v), some (vr it), some (vi fr), some (vi (i : Int))] [vi (bearW w (i : Int) v)] (SX I ch kd) Q
      refine ev_s1 (L' := [some (vr 40), some (vi v), some (vr it), some (vi fr), some (vi (i : Int))]) (S' := [vr it, vi (bearW w (i : Int) v)]) k32_29 rfl rfl ?_
      refine ev_s1 (L' := [some (vr 40), some (vi v), some (vr it), some (vi fr), some (vi (i : Int))]) (S' := [vi fr, vr it, vi (bearW w (i : Int) v)]) k32_30 rfl rfl ?_
      refine ev_s1 (L' := [some (vr 40), some (vi v), some (vr it), some (vi fr), some (vi (i : Int))]) (S' := [vi (i : Int), vi fr, vr it, vi (bearW w (i : Int) v)]) k32_31 rfl rfl ?_
      refine ev_s1 (L' := [some (vr 40), some (vi v), some (vr it), some (vi fr), some (vi (i : Int))]) (S' := [vi (fr + (i : Int)), vr it, vi (bearW w (i : Int) v)]) k32_33 rfl rfl ?_
      refine ev_iald k32_34 (by omega) (hit) (by omega) (by omega) ?_
      have rr4 := hI it (fr + (i : Int))
      refine ev_c_eq (t := 40) k32_35 rfl (by omega) (by omega) (by omega) (by omega) (fun h5 => ?_) (fun h5 => ?_)
      · refine ev_s1 (L' := [some (vr 40), some (vi v), some (vr it), some (vi fr), some (vi ((i : Int) + 1))]) (S' := []) k32_40 rfl rfl ?_
        refine ev_goto (t := 3) k32_43 rfl ?_
        exact ih (i + 1) (by omega) (by omega) (fun j hj => by rcases Nat.lt_or_ge j i with q | q; exact ha j q; rw [show j = i by omega]; exact decide_eq_true (by omega))
      · refine ev_s1 (L' := [some (vr 40), some (vi v), some (vr it), some (vi fr), some (vi (i : Int))]) (S' := [vi 0]) k32_38 rfl rfl ?_
        refine ev_zreturn k32_39 (by decide) ?_
        exact hF (all_f (i := i) (decide_eq_false (by omega)) (by omega))

set_option maxHeartbeats 1000000 in
theorem g_owng {d : Nat} {I : Nat → Int → Int} {ch : Int → Nat} {kd : Nat → Nat} {Q : Option jV → jS → Prop} {w : Int → Int} (hN : NOWX I ch kd w) (hI : Rg I) {it : Nat} {fr : Int} (hit : shX it = (50, 40)) (it1 : it < 125) (it2 : 56 < it) (fr0 : 0 ≤ fr) {v : Int} (v0 : 0 ≤ v) (v9 : v ≤ 9) (fr1 : fr + w 1 ≤ 40) (hd : 4 ≤ d) (hT : ownB w (I it) fr v = true → Q (some (vi 1)) (SX I ch kd)) (hF : ownB w (I it) fr v = false → Q (some (vi 0)) (SX I ch kd)) : Cl d 32 [vr 40, vi v, vr it, vi fr] (SX I ch kd) Q := by
  obtain ⟨⟨wa0, wa1⟩, ⟨wb0, wb1⟩, ⟨wc0, wc1⟩, wC, wG, wU⟩ := hN.2.2.1
  refine ⟨by rw [l32]; exact Nat.le_of_ble_eq_true rfl, ?_⟩
  rw [l32]
  show Ev d 32 0 [some (vr 40), some (vi v), some (vr it), some (vi fr), none] [] (SX I ch kd) Q
  refine ev_s1 (L' := [some (vr 40), some (vi v), some (vr it), some (vi fr), none]) (S' := [vi 0]) k32_0 rfl rfl ?_
  refine ev_s1 (L' := [some (vr 40), some (vi v), some (vr it), some (vi fr), some (vi 0)]) (S' := []) k32_1 rfl rfl ?_
  exact l_owng hN hI hit it1 it2 fr0 v0 v9 fr1 hd hT hF 6 0 (by omega) (by omega) (fun j hj => absurd hj (Nat.not_lt_zero j))

set_option maxHeartbeats 1000000 in
theorem l_owns {d : Nat} {I : Nat → Int → Int} {ch : Int → Nat} {kd : Nat → Nat} {Q : Option jV → jS → Prop} {w : Int → Int} (hN : NOWX I ch kd w) (hI : Rg I) {it : Nat} {fr : Int} (hit : shX it = (50, 40)) (it1 : it < 125) (it2 : 56 < it) (fr0 : 0 ≤ fr) (fr1 : fr + w 1 ≤ 40) (hd : 5 ≤ d) (hQ : Q (some (vi (bitsF (fun v => ownB w (I it) fr v) 10))) (SX I ch kd)) : ∀ (n i : Nat) (t : Int), 10 - (i : Int) < n → (i : Int) ≤ 10 → t = bitsF (fun v => ownB w (I it) fr v) i → Ev d 31 5 [some (vr 40), some (vr it), some (vi fr), some (vi t), some (vi (i : Int))] [] (SX I ch kd) Q := by
  obtain ⟨⟨wa0, wa1⟩, ⟨wb0, wb1⟩, ⟨wc0, wc1⟩, wC, wG, wU⟩ := hN.2.2.1
  intro n
  induction n with
  | zero => intro i t h1 h2; exfalso; omega
  | succ n ih =>
    intro i t hn hi ht
    refine ev_s1 (L' := [some (vr 40), some (vr it), some (vi fr), some (vi t), some (vi (i : Int))]) (S' := [vi (i : Int)]) k31_5 rfl rfl ?_
    refine ev_s1 (L' := [some (vr 40), some (vr it), some (vi fr), some (vi t), some (vi (i : Int))]) (S' := [vi 10, vi (i : Int)]) k31_7 rfl rfl ?_
    refine ev_c_ge (t := 36) k31_9 rfl (by omega) (by omega) (by omega) (by omega) (fun h1 => ?_) (fun h1 => ?_)
    · refine ev_s1 (L' := [some (vr 40), some (vr it), some (vi fr), some (vi t), some (vi (i : Int))]) (S' := [vi t]) k31_36 rfl rfl ?_
      refine ev_ireturn k31_37 ?_
      rw [show i = 10 by omega] at ht
      rw [← ht] at hQ
      exact hQ
    · refine ev_s1 (L' := [some (vr 40), some (vr it), some (vi fr), some (vi t), some (vi (i : Int))]) (S' := [vr 40]) k31_12 rfl rfl ?_
      refine ev_s1 (L' := [some (vr 40), some (vr it), some (vi fr), some (vi t), some (vi (i : Int))]) (S' := [vi (i : Int), vr 40]) k31_13 rfl rfl ?_
      refine ev_s1 (L' := [some (vr 40), some (vr it), some (vi fr), some (vi t), some (vi (i : Int))]) (S' := [vr it, vi (i : Int), vr 40]) k31_15 rfl rfl ?_
      refine ev_s1 (L' := [some (vr 40), some (vr it), some (vi fr), some (vi t), some (vi (i : Int))]) (S' := [vi fr, vr it, vi (i : Int), vr 40]) k31_16 rfl rfl ?_
      refine ev_virt (a := [vi (i : Int), vr it, vi fr]) (S' := []) k31_17 rfl (Nat.le_of_ble_eq_true rfl) (by decide) (rfl) (by omega) ?_
      refine g_owng hN hI hit it1 it2 fr0 (v := (i : Int)) (by omega) (by omega) (by omega) (by omega) (fun hh => ?_) (fun hh => ?_)
      · show Ev d 31 20 [some (vr 40), some (vr it), some (vi fr), some (vi t), some (vi (i : Int))] [vi 1] (SX I ch kd) Q
        refine ev_z_eq (t := 30) k31_20 rfl (by omega) (by omega) (fun h => absurd h (by decide)) (fun _ => ?_)
        refine ev_s1 (L' := [some (vr 40), some (vr it), some (vi fr), some (vi t), some (vi (i : Int))]) (S' := [vi t]) k31_23 rfl rfl ?_
        refine ev_s1 (L' := [some (vr 40), some (vr it), some (vi fr), some (vi t), some (vi (i : Int))]) (S' := [vi 1, vi t]) k31_24 rfl rfl ?_
        refine ev_s1 (L' := [some (vr 40), some (vr it), some (vi fr), some (vi t), some (vi (i : Int))]) (S' := [vi (i : Int), vi 1, vi t]) k31_25 rfl rfl ?_
        refine ev_ishl k31_27 (by omega) (by omega) ?_
        refine ev_ior k31_28 (by have := bits_lt (fun v => ownB w (I it) fr v) (n := i) (by omega); omega) (by have := bits_lt (fun v => ownB w (I it) fr v) (n := i) (by omega); omega) ((p2_rng i (by omega)).1) ((p2_rng i (by omega)).2) ?_
        refine ev_s1 (L' := [some (vr 40), some (vr it), some (vi fr), some (vi ((Int.toNat t ||| Int.toNat (1 * 2 ^ Int.toNat (i : Int)) : Nat) : Int)), some (vi (i : Int))]) (S' := []) k31_29 rfl rfl ?_
        refine ev_s1 (L' := [some (vr 40), some (vr it), some (vi fr), some (vi ((Int.toNat t ||| Int.toNat (1 * 2 ^ Int.toNat (i : Int)) : Nat) : Int)), some (vi ((i : Int) + 1))]) (S' := []) k31_30 rfl rfl ?_
        refine ev_goto (t := 5) k31_33 rfl ?_
        exact ih (i + 1) _ (by omega) (by omega) (by rw [bits_t (p := (fun v => ownB w (I it) fr v)) hh, ← ht]; rfl)
      · show Ev d 31 20 [some (vr 40), some (vr it), some (vi fr), some (vi t), some (vi (i : Int))] [vi 0] (SX I ch kd) Q
        refine ev_z_eq (t := 30) k31_20 rfl (by omega) (by omega) (fun _ => ?_) (fun h => absurd h (by decide))
        refine ev_s1 (L' := [some (vr 40), some (vr it), some (vi fr), some (vi t), some (vi ((i : Int) + 1))]) (S' := []) k31_30 rfl rfl ?_
        refine ev_goto (t := 5) k31_33 rfl ?_
        exact ih (i + 1) _ (by omega) (by omega) (by rw [bits_f (p := (fun v => ownB w (I it) fr v)) hh]; exact ht)

set_option maxHeartbeats 1000000 in
theorem g_owns {d : Nat} {I : Nat → Int → Int} {ch : Int → Nat} {kd : Nat → Nat} {Q : Option jV → jS → Prop} {w : Int → Int} (hN : NOWX I ch kd w) (hI : Rg I) {it : Nat} {fr : Int} (hit : shX it = (50, 40)) (it1 : it < 125) (it2 : 56 < it) (fr0 : 0 ≤ fr) (fr1 : fr + w 1 ≤ 40) (hd : 5 ≤ d) (hQ : Q (some (vi (bitsF (fun v => ownB w (I it) fr v) 10))) (SX I ch kd)) : Cl d 31 [vr 40, vr it, vi fr] (SX I ch kd) Q := by
  obtain ⟨⟨wa0, wa1⟩, ⟨wb0, wb1⟩, ⟨wc0, wc1⟩, wC, wG, wU⟩ := hN.2.2.1
  refine ⟨by rw [l31]; exact Nat.le_of_ble_eq_true rfl, ?_⟩
  rw [l31]
  show Ev d 31 0 [some (vr 40), some (vr it), some (vi fr), none, none] [] (SX I ch kd) Q
  refine ev_s1 (L' := [some (vr 40), some (vr it), some (vi fr), none, none]) (S' := [vi 0]) k31_0 rfl rfl ?_
  refine ev_s1 (L' := [some (vr 40), some (vr it), some (vi fr), some (vi 0), none]) (S' := []) k31_1 rfl rfl ?_
  refine ev_s1 (L' := [some (vr 40), some (vr it), some (vi fr), some (vi 0), none]) (S' := [vi 0]) k31_2 rfl rfl ?_
  refine ev_s1 (L' := [some (vr 40), some (vr it), some (vi fr), some (vi 0), some (vi 0)]) (S' := []) k31_3 rfl rfl ?_
  exact l_owns hN hI hit it1 it2 fr0 fr1 hd hQ 11 0 0 (by omega) (by omega) rfl

def altW (w : Int → Int) (c x v : Int) : Int → Int := fun b => if b = 3 + 5 * c + (if x = 2 then 0 else 1 + x) then v else w b
def fitV (v : Int → Int) (c : Int) : Nat → Int → Int
  | 0 => v
  | g + 1 => sitsW (fitV v c g) (g : Int) c
def givB (w its : Int → Int) (i c : Int) (v : Int → Int) : Bool := allF (fun g => decide (bearW (fitV v c g.toNat) c (w (28 + 4 * g)) = its (i + g))) (w 2).toNat
theorem alt_okc {w : Int → Int} {c x v : Int} (h : OKC w c) (h0 : x = 0 → 0 ≤ v ∧ v ≤ 9) (h1 : x = 1 → 0 ≤ v ∧ v ≤ 16) (h2 : x = 2 → 1 ≤ v ∧ v ≤ 5) (hx : x = 0 ∨ x = 1 ∨ x = 2) : OKC (altW w c x v) c := by
  obtain ⟨q0, q1, q2, q3, q4⟩ := h
  rcases hx with rfl | rfl | rfl
  · have := h0 rfl
    unfold OKC altW
    rw [if_neg (by omega), if_pos (by omega), if_neg (by omega), if_neg (by omega), if_neg (by omega)]
    exact ⟨q0, this, q2, q3, q4⟩
  · have := h1 rfl
    unfold OKC altW
    rw [if_neg (by omega), if_neg (by omega), if_pos (by omega), if_neg (by omega), if_neg (by omega)]
    exact ⟨q0, q1, this, q3, q4⟩
  · have := h2 rfl
    unfold OKC altW
    rw [if_pos (by omega), if_neg (by omega), if_neg (by omega), if_neg (by omega), if_neg (by omega)]
    exact ⟨this, q1, q2, q3, q4⟩
theorem alt_gs {w : Int → Int} {c x v : Int} (c5 : c < 5) (hx : x = 0 ∨ x = 1 ∨ x = 2) : GSm w (altW w c x v) := by
  intro g g0 g1
  unfold altW
  rw [if_neg (by split <;> omega), if_neg (by split <;> omega)]
  exact ⟨rfl, rfl⟩

set_option maxHeartbeats 1000000 in
theorem g_alter {d : Nat} {I : Nat → Int → Int} {ch : Int → Nat} {kd : Nat → Nat} {Q : Option jV → jS → Prop} {w : Int → Int} (hN : NOWX I ch kd w) (hI : Rg I) {c x v : Int} (c0 : 0 ≤ c) (c5 : c < 5) (hs : STL I kd w c) (v0 : x = 0 → 0 ≤ v ∧ v ≤ 9) (v1 : x = 1 → 0 ≤ v ∧ v ≤ 16) (v2 : x = 2 → 1 ≤ v ∧ v ≤ 5) (hx : x = 0 ∨ x = 1 ∨ x = 2) (hQ : ∀ I' kd', Rg I' → STL I' kd' (altW w c x v) c → (∀ (a : Nat) (b : Int), a ≠ 56 → I' a b = I a b) → (∀ a, a ≠ 56 → kd' a = kd a) → Q none (SX I' ch kd')) : Cl d 34 [vr 40, vi x, vi v] (SX I ch kd) Q := by
  obtain ⟨⟨wa0, wa1⟩, ⟨wb0, wb1⟩, ⟨wc0, wc1⟩, wC, wG, wU⟩ := hN.2.2.1
  refine ⟨by rw [l34]; exact Nat.le_of_ble_eq_true rfl, ?_⟩
  rw [l34]
  show Ev d 34 0 [some (vr 40), some (vi x), some (vi v)] [] (SX I ch kd) Q
  refine ev_s1 (L' := [some (vr 40), some (vi x), some (vi v)]) (S' := [vi x]) k34_0 rfl rfl ?_
  rcases (show x = 0 ∨ x = 1 ∨ (x ≠ 0 ∧ x ≠ 1) by omega) with hs1 | hs1 | hs1
  · refine ev_lsw (t := 28) k34_1 hs1 rfl ?_
    refine ev_s1 (L' := [some (vr 40), some (vi x), some (vi v)]) (S' := [vr 40]) k34_28 rfl rfl ?_
    refine ev_getR k34_29 (by decide) (rfl) (x_40_3 ch kd) ?_
    refine ev_s1 (L' := [some (vr 40), some (vi x), some (vi v)]) (S' := [vi v, vr 56]) k34_32 rfl rfl ?_
    refine ev_putI k34_33 (by decide) (rfl) ?_
    show Ev d 34 36 [some (vr 40), some (vi x), some (vi v)] [] (SX (up I 56 1 v) ch kd) Q
    have hI2 := rg_up hI (k := 56) (j := 1) (z := v) (by omega) (by omega)
    generalize hE2 : up I 56 1 v = I2 at hI2 ⊢
    have g2 : ∀ (a : Nat) (b : Int), (a ≠ 56 ∨ b ≠ 1) → I2 a b = I a b := fun a b h => by rw [← hE2]; exact upN h
    have e2 : I2 56 1 = v := by rw [← hE2]; exact upE rfl rfl
    clear hE2
    have fx2 : FSx I I2 kd kd := ⟨hI2, fun a b q => g2 a b (by omega), fun _ _ => rfl⟩
    have hN2 := hN.fs fx2
    have F2 := fx2
    refine ev_goto (t := 79) k34_36 rfl ?_
    refine ev_return k34_79 ?_
    obtain ⟨k0, k1, k2, k4, k5⟩ := hs
    refine hQ _ _ hI2 ⟨k0.trans (by unfold altW; rw [if_neg (by rw [if_neg (by omega)]; omega)]), e2.trans (by unfold altW; rw [if_pos (by rw [if_neg (by omega)]; omega)]), (g2 56 2 (Or.inr (by decide))).trans (k2.trans (by unfold altW; rw [if_neg (by rw [if_neg (by omega)]; omega)])), (g2 56 4 (Or.inr (by decide))).trans (k4.trans (by unfold altW; rw [if_neg (by rw [if_neg (by omega)]; omega)])), alt_okc k5 (by omega) (by omega) (by omega) (by omega)⟩ (fun a b q => g2 a b (Or.inl q)) (fun _ _ => rfl)
  · refine ev_lsw (t := 39) k34_1 hs1 rfl ?_
    refine ev_s1 (L' := [some (vr 40), some (vi x), some (vi v)]) (S' := [vr 40]) k34_39 rfl rfl ?_
    refine ev_getR k34_40 (by decide) (rfl) (x_40_3 ch kd) ?_
    refine ev_s1 (L' := [some (vr 40), some (vi x), some (vi v)]) (S' := [vi v, vr 56]) k34_43 rfl rfl ?_
    refine ev_putI k34_44 (by decide) (rfl) ?_
    show Ev d 34 47 [some (vr 40), some (vi x), some (vi v)] [] (SX (up I 56 2 v) ch kd) Q
    have hI3 := rg_up hI (k := 56) (j := 2) (z := v) (by omega) (by omega)
    generalize hE3 : up I 56 2 v = I3 at hI3 ⊢
    have g3 : ∀ (a : Nat) (b : Int), (a ≠ 56 ∨ b ≠ 2) → I3 a b = I a b := fun a b h => by rw [← hE3]; exact upN h
    have e3 : I3 56 2 = v := by rw [← hE3]; exact upE rfl rfl
    clear hE3
    have fx3 : FSx I I3 kd kd := ⟨hI3, fun a b q => g3 a b (by omega), fun _ _ => rfl⟩
    have hN3 := hN.fs fx3
    have F3 := fx3
    refine ev_goto (t := 79) k34_47 rfl ?_
    refine ev_return k34_79 ?_
    obtain ⟨k0, k1, k2, k4, k5⟩ := hs
    refine hQ _ _ hI3 ⟨k0.trans (by unfold altW; rw [if_neg (by rw [if_neg (by omega)]; omega)]), (g3 56 1 (Or.inr (by decide))).trans (k1.trans (by unfold altW; rw [if_neg (by rw [if_neg (by omega)]; omega)])), e3.trans (by unfold altW; rw [if_pos (by rw [if_neg (by omega)]; omega)]), (g3 56 4 (Or.inr (by decide))).trans (k4.trans (by unfold altW; rw [if_neg (by rw [if_neg (by omega)]; omega)])), alt_okc k5 (by omega) (by omega) (by omega) (by omega)⟩ (fun a b q => g3 a b (Or.inl q)) (fun _ _ => rfl)
  · refine ev_lsd (t := 50) k34_1 (by omega) (by omega) (by decide) (by simp only [Op.lookupswitch.offset_cons, Op.lookupswitch.offset_nil]; rw [if_neg (by omega), if_neg (by omega)]) rfl ?_
    refine ev_s1 (L' := [some (vr 40), some (vi x), some (vi v)]) (S' := [vi v]) k34_50 rfl rfl ?_
    refine ev_s1 (L' := [some (vr 40), some (vi x), some (vi v)]) (S' := [vi 1, vi v]) k34_51 rfl rfl ?_
    refine ev_c_lt (t := 79) k34_52 rfl (by omega) (by omega) (by omega) (by omega) (fun h4 => ?_) (fun h4 => ?_)
    · exfalso; omega
    · refine ev_s1 (L' := [some (vr 40), some (vi x), some (vi v)]) (S' := [vi v]) k34_55 rfl rfl ?_
      refine ev_s1 (L' := [some (vr 40), some (vi x), some (vi v)]) (S' := [vr 40, vi v]) k34_56 rfl rfl ?_
      refine ev_getR k34_57 (by decide) (rfl) (x_40_2 ch kd) ?_
      refine ev_len k34_60 (by decide) (rfl) (by decide) (by decide) ?_
      show Ev d 34 61 [some (vr 40), some (vi x), some (vi v)] [vi 5, vi v] (SX I ch kd) Q
      refine ev_c_gt (t := 79) k34_61 rfl (by omega) (by omega) (by omega) (by omega) (fun h5 => ?_) (fun h5 => ?_)
      · exfalso; omega
      · refine ev_s1 (L' := [some (vr 40), some (vi x), some (vi v)]) (S' := [vr 40]) k34_64 rfl rfl ?_
        refine ev_getR k34_65 (by decide) (rfl) (x_40_3 ch kd) ?_
        refine ev_s1 (L' := [some (vr 40), some (vi x), some (vi v)]) (S' := [vr 40, vr 56]) k34_68 rfl rfl ?_
        refine ev_getR k34_69 (by decide) (rfl) (x_40_2 ch kd) ?_
        refine ev_s1 (L' := [some (vr 40), some (vi x), some (vi v)]) (S' := [vi v, vr 7, vr 56]) k34_72 rfl rfl ?_
        refine ev_s1 (L' := [some (vr 40), some (vi x), some (vi v)]) (S' := [vi 1, vi v, vr 7, vr 56]) k34_73 rfl rfl ?_
        refine ev_s1 (L' := [some (vr 40), some (vi x), some (vi v)]) (S' := [vi (v - 1), vr 7, vr 56]) k34_74 rfl rfl ?_
        refine ev_aald (q := 8 + Int.toNat (v - 1)) k34_75 (by decide) (rfl) (by decide) (by decide) (by omega) (by omega) (rX7 (by omega) (by omega)) ?_
        refine ev_putR k34_76 (by decide) (rfl) ?_
        rw [show up (rX ch kd) 56 ((0 : Nat) : Int) (some (8 + Int.toNat (v - 1))) = rX ch (kdU kd 56 (8 + Int.toNat (v - 1))) from rX_kd rfl]
        show Ev d 34 79 [some (vr 40), some (vi x), some (vi v)] [] (SX I ch (kdU kd 56 (8 + Int.toNat (v - 1)))) Q
        refine ev_return k34_79 ?_
        obtain ⟨k0, k1, k2, k4, k5⟩ := hs
        refine hQ _ _ hI ⟨by unfold kdU altW; rw [if_pos rfl, if_pos (by rw [if_pos (by omega)]; omega)]; omega, k1.trans (by unfold altW; rw [if_neg (by rw [if_pos (by omega)]; omega)]), k2.trans (by unfold altW; rw [if_neg (by rw [if_pos (by omega)]; omega)]), k4.trans (by unfold altW; rw [if_neg (by rw [if_pos (by omega)]; omega)]), alt_okc k5 (by omega) (by omega) (by omega) (by omega)⟩ (fun _ _ _ => rfl) (fun a q => if_neg q)

set_option maxHeartbeats 1000000 in
theorem l_sgiv {d : Nat} {J : Nat → Int → Int} {ch : Int → Nat} {kdJ : Nat → Nat} {Q : Option jV → jS → Prop} {w : Int → Int} {it : Nat} {fr : Int} (hit : shX it = (50, 40)) (it1 : it < 125) (it2 : 56 < it) (fr0 : 0 ≤ fr) {v : Int → Int} {c : Int} (c0 : 0 ≤ c) (c5 : c < 5) (hg0 : GSm w v) (fr1 : fr + w 2 ≤ 40) (hd : 5 ≤ d) (hT : ∀ I' kd', givB w (J it) fr c v = true → FSx J I' kdJ kd' → Q (some (vi 1)) (SX I' ch kd')) (hF : ∀ I' kd', givB w (J it) fr c v = false → FSx J I' kdJ kd' → Q (some (vi 0)) (SX I' ch kd')) : ∀ (n : Nat) (I : Nat → Int → Int) (kd : Nat → Nat) (i : Nat), NOWX I ch kd w → Rg I → FSx J I kdJ kd → w 2 - i < n → (i : Int) ≤ w 2 → STL I kd (fitV v c i) c → GSm w (fitV v c i) → (∀ j : Nat, j < i → decide (bearW (fitV v c j) c (w (28 + 4 * (j : Int))) = J it (fr + j)) = true) → Ev d 35 2 [some (vr 40), some (vr it), some (vi fr), some (vi (i : Int))] [] (SX I ch kd) Q := by
  intro n
  induction n with
  | zero =>
    intro I kd i hN hI F hi hi2 hs hg ha
    exfalso; omega
  | succ n ih =>
    intro I kd i hN hI F hi hi2 hs hg ha
    obtain ⟨⟨wa0, wa1⟩, ⟨wb0, wb1⟩, ⟨wc0, wc1⟩, wC, wG, wU⟩ := hN.2.2.1
    refine ev_s1 (L' := [some (vr 40), some (vr it), some (vi fr), some (vi (i : Int))]) (S' := [vi (i : Int)]) k35_2 rfl rfl ?_
    refine ev_s1 (L' := [some (vr 40), some (vr it), some (vi fr), some (vi (i : Int))]) (S' := [vr 40, vi (i : Int)]) k35_3 rfl rfl ?_
    refine ev_getR k35_4 (by decide) (rfl) (x_40_0 ch kd) ?_
    refine ev_getI k35_7 (by decide) (rfl) ?_
    show Ev d 35 10 [some (vr 40), some (vr it), some (vi fr), some (vi (i : Int))] [vi (I 13 7), vi (i : Int)] (SX I ch kd) Q
    have rr1 := hI 13 7
    rw [hN.2.1.2.1]
    rw [hN.2.1.2.1] at rr1
    refine ev_c_ge (t := 34) k35_10 rfl (by omega) (by omega) (by omega) (by omega) (fun h2 => ?_) (fun h2 => ?_)
    · refine ev_s1 (L' := [some (vr 40), some (vr it), some (vi fr), some (vi (i : Int))]) (S' := [vi 1]) k35_34 rfl rfl ?_
      refine ev_zreturn k35_35 (by decide) ?_
      exact hT _ _ (all_t (fun j hj => ha j (by omega))) F
    · refine ev_s1 (L' := [some (vr 40), some (vr it), some (vi fr), some (vi (i : Int))]) (S' := [vr 40]) k35_13 rfl rfl ?_
      refine ev_s1 (L' := [some (vr 40), some (vr it), some (vi fr), some (vi (i : Int))]) (S' := [vi (i : Int), vr 40]) k35_14 rfl rfl ?_
      refine ev_virt (a := [vi (i : Int)]) (S' := []) k35_15 rfl (Nat.le_of_ble_eq_true rfl) (by decide) (rfl) (by omega) ?_
      refine g_bos hN hI (g := (i : Int)) (by omega) (by omega) hs hg (by omega) (fun I3 hI3 s3 f3 => ?_)
      have fx3 : FSx I I3 kd kd := ⟨hI3, fun a b q => f3 a b (by omega), fun _ _ => rfl⟩
      have hN3 := hN.fs fx3
      have F3 := F.trans fx3
      have bg3 := bear_okc (o := w (28 + 4 * (i : Int))) hs.2.2.2.2 (wG (i : Int) (by omega) (by omega)).1.1 (wG (i : Int) (by omega) (by omega)).1.2
      show Ev d 35 18 [some (vr 40), some (vr it), some (vi fr), some (vi (i : Int))] [vi (bearW (fitV v c i) c (w (28 + 4 * (i : Int))))] (SX I3 ch kd) Q
      refine ev_s1 (L' := [some (vr 40), some (vr it), some (vi fr), some (vi (i : Int))]) (S' := [vr it, vi (bearW (fitV v c i) c (w (28 + 4 * (i : Int))))]) k35_18 rfl rfl ?_
      refine ev_s1 (L' := [some (vr 40), some (vr it), some (vi fr), some (vi (i : Int))]) (S' := [vi fr, vr it, vi (bearW (fitV v c i) c (w (28 + 4 * (i : Int))))]) k35_19 rfl rfl ?_
      refine ev_s1 (L' := [some (vr 40), some (vr it), some (vi fr), some (vi (i : Int))]) (S' := [vi (i : Int), vi fr, vr it, vi (bearW (fitV v c i) c (w (28 + 4 * (i : Int))))]) k35_20 rfl rfl ?_
      refine ev_s1 (L' := [some (vr 40), some (vr it), some (vi fr), some (vi (i : Int))]) (S' := [vi (fr + (i : Int)), vr it, vi (bearW (fitV v c i) c (w (28 + 4 * (i : Int))))]) k35_21 rfl rfl ?_
      refine ev_iald k35_22 (by omega) (hit) (by omega) (by omega) ?_
      have rr4 := hI3 it (fr + (i : Int))
      rw [F3.2.1 it (fr + (i : Int)) (Or.inr (by omega))]
      rw [F3.2.1 it (fr + (i : Int)) (Or.inr (by omega))] at rr4
      refine ev_c_eq (t := 28) k35_23 rfl (by omega) (by omega) (by omega) (by omega) (fun h5 => ?_) (fun h5 => ?_)
      · refine ev_s1 (L' := [some (vr 40), some (vr it), some (vi fr), some (vi ((i : Int) + 1))]) (S' := []) k35_28 rfl rfl ?_
        refine ev_goto (t := 2) k35_31 rfl ?_
        exact ih I3 kd (i + 1) hN3 hI3 F3 (by omega) (by omega) s3 ((GSm.sits hg (by omega) (by omega))) (fun j hj => by rcases Nat.lt_or_ge j i with q | q; exact ha j q; rw [show j = i by omega]; exact decide_eq_true (by omega))
      · refine ev_s1 (L' := [some (vr 40), some (vr it), some (vi fr), some (vi (i : Int))]) (S' := [vi 0]) k35_26 rfl rfl ?_
        refine ev_zreturn k35_27 (by decide) ?_
        exact hF _ _ (all_f (i := i) (decide_eq_false (by show bearW (fitV v c i) c (w (28 + 4 * (i : Int))) ≠ J it (fr + i); omega)) (by omega)) F3

set_option maxHeartbeats 1000000 in
theorem g_sgiv {d : Nat} {I : Nat → Int → Int} {ch : Int → Nat} {kd : Nat → Nat} {Q : Option jV → jS → Prop} {w : Int → Int} (hN : NOWX I ch kd w) (hI : Rg I) {it : Nat} {fr : Int} (hit : shX it = (50, 40)) (it1 : it < 125) (it2 : 56 < it) (fr0 : 0 ≤ fr) {v : Int → Int} {c : Int} (c0 : 0 ≤ c) (c5 : c < 5) (hg0 : GSm w v) (fr1 : fr + w 2 ≤ 40) (hd : 5 ≤ d) (hT : ∀ I' kd', givB w (I it) fr c v = true → FSx I I' kd kd' → Q (some (vi 1)) (SX I' ch kd')) (hF : ∀ I' kd', givB w (I it) fr c v = false → FSx I I' kd kd' → Q (some (vi 0)) (SX I' ch kd')) (hs : STL I kd v c) : Cl d 35 [vr 40, vr it, vi fr] (SX I ch kd) Q := by
  obtain ⟨⟨wa0, wa1⟩, ⟨wb0, wb1⟩, ⟨wc0, wc1⟩, wC, wG, wU⟩ := hN.2.2.1
  refine ⟨by rw [l35]; exact Nat.le_of_ble_eq_true rfl, ?_⟩
  rw [l35]
  show Ev d 35 0 [some (vr 40), some (vr it), some (vi fr), none] [] (SX I ch kd) Q
  refine ev_s1 (L' := [some (vr 40), some (vr it), some (vi fr), none]) (S' := [vi 0]) k35_0 rfl rfl ?_
  refine ev_s1 (L' := [some (vr 40), some (vr it), some (vi fr), some (vi 0)]) (S' := []) k35_1 rfl rfl ?_
  exact l_sgiv (J := I) (kdJ := kd) hit it1 it2 fr0 c0 c5 hg0 fr1 hd hT hF 6 I kd 0 hN hI (FSx.refl hI) (by omega) (by omega) hs hg0 (fun j hj => absurd hj (Nat.not_lt_zero j))
