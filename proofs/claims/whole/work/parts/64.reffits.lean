def itF (f : Int → Int) (r : Int) : Int → Int := fun x => f (40 * r + x)
theorem fit_gs {w u : Int → Int} {c : Int} (c0 : 0 ≤ c) (c5 : c < 5) (hu : GSm w u) : ∀ n, GSm w (fitV u c n) := by
  intro n
  induction n with
  | zero => exact hu
  | succ n ih => exact ih.sits c0 c5
theorem fit_okc {w u : Int → Int} {c : Int} (hw : OKW w) (c0 : 0 ≤ c) (c5 : c < 5) (hu : GSm w u) (hc : OKC u c) : ∀ n : Nat, (n : Int) ≤ w 2 → OKC (fitV u c n) c := by
  intro n
  induction n with
  | zero => intro _; exact hc
  | succ n ih =>
    intro hn
    refine sit_okc (ih (by omega)) ?_
    rw [(fit_gs c0 c5 hu n _ (show 0 ≤ (n : Int) by omega) (by omega)).1]
    exact (hw.2.2.2.2.1 _ (by omega) (by omega)).1
theorem fith_rng (x : Int) : 5 ≤ fitH x ∧ fitH x ≤ 16 := by
  unfold fitH
  repeat' split
  all_goals omega
theorem fitl_rng (x : Int) : 0 ≤ fitL x ∧ fitL x ≤ 1 := by
  unfold fitL
  split <;> omega
theorem fit_b {x v : Int} (hx : 0 ≤ x ∧ x ≤ 2) (h0 : fitL x ≤ v) (h1 : v ≤ fitH x) : (x = 0 → 0 ≤ v ∧ v ≤ 9) ∧ (x = 1 → 0 ≤ v ∧ v ≤ 16) ∧ (x = 2 → 1 ≤ v ∧ v ≤ 5) := by
  rcases (show x = 0 ∨ x = 1 ∨ x = 2 by omega) with rfl | rfl | rfl
  · have e1 : fitL 0 = 0 := rfl
    have e2 : fitH 0 = 9 := rfl
    omega
  · have e1 : fitL 1 = 0 := rfl
    have e2 : fitH 1 = 16 := rfl
    omega
  · have e1 : fitL 2 = 1 := rfl
    have e2 : fitH 2 = 5 := rfl
    omega
theorem fit_start {w its : Int → Int} {i c x : Int} {v : Nat} (hx : 0 ≤ x ∧ x ≤ 2) (h : (v : Int) = fitL x) : 0 = bitsF (fitP w its i c x) v := by
  have fl := fitl_rng x
  rcases (show v = 0 ∨ v = 1 by omega) with rfl | rfl
  · rfl
  · rw [bits_f (p := fitP w its i c x) (n := 0) (by unfold fitP; rw [← h]; rfl)]
    rfl

set_option maxHeartbeats 1000000 in
theorem m_fiti {d : Nat} {K : Nat → Int → Int} {Q : Option jV → jS → Prop} {w fi3 : Int → Int} {r i c x p : Int} (hw : OKW w) (hw6 : K 6 = w) (h3 : K 3 = fi3) (r0 : 0 ≤ r) (r7 : r ≤ 7) (i0 : 0 ≤ i) (i40 : i + w 2 ≤ 40) (c0 : 0 ≤ c) (c1 : c < w 1) (hd : 3 ≤ d) {u : Int → Int} {t v : Int} (hu : GSm w u) (huc : OKC u c) (hE : ∀ (J' : Nat → Int → Int) (s y : Int) (z : Option jV), RZ J' → (s = if givB w (itF fi3 r) i c u = true then 1 else 0) → (∀ a, a ≠ 8 → J' a = K a) → Ev d 210 216 [some (vr 0), some (vi c), some (vi r), some (vi i), some (vi x), some (vi p), some (vi t), some (vi v), some (vi s), some (vi y), z] [] (SM J') Q) : ∀ (n : Nat) (J : Nat → Int → Int) (k : Nat) (s : Int) (z : Option jV), RZ J → w 2 - k < n → (k : Int) ≤ w 2 → (s = if allF (fun g => decide (bearW (fitV u c g.toNat) c (w (28 + 4 * g)) = itF fi3 r (i + g))) k = true then 1 else 0) → J 8 = fitV u c k → (∀ a, a ≠ 8 → J a = K a) → Ev d 210 156 [some (vr 0), some (vi c), some (vi r), some (vi i), some (vi x), some (vi p), some (vi t), some (vi v), some (vi s), some (vi (k : Int)), z] [] (SM J) Q := by
  intro n
  induction n with
  | zero =>
    intro J k s z hJ hk hk2 hs hv8 hF0
    have w2 := hw.2.2.1
    exfalso; omega
  | succ n ih =>
    intro J k s z hJ hk hk2 hs hv8 hF0
    have w1 := hw.2.1
    have w2 := hw.2.2.1
    have hg := fit_gs (c := c) c0 (by omega) hu k
    have hv := fit_okc hw c0 (by omega) hu huc k hk2
    have ei : 40 * r + (i + (k : Int)) = 40 * r + i + (k : Int) := by omega
    have sr : s = 0 ∨ s = 1 := by rw [hs]; split <;> omega
    refine ev_s1 (L' := [some (vr 0), some (vi c), some (vi r), some (vi i), some (vi x), some (vi p), some (vi t), some (vi v), some (vi s), some (vi (k : Int)), z]) (S' := [vi (k : Int)]) k210_156 rfl rfl ?_
    refine ev_s1 (L' := [some (vr 0), some (vi c), some (vi r), some (vi i), some (vi x), some (vi p), some (vi t), some (vi v), some (vi s), some (vi (k : Int)), z]) (S' := [vr 0, vi (k : Int)]) k210_158 rfl rfl ?_
    refine ev_getR k210_159 (by decide) (rfl) (y_0_13) ?_
    refine ev_s1 (L' := [some (vr 0), some (vi c), some (vi r), some (vi i), some (vi x), some (vi p), some (vi t), some (vi v), some (vi s), some (vi (k : Int)), z]) (S' := [vi 2, vr 6, vi (k : Int)]) k210_162 rfl rfl ?_
    refine ev_iald k210_163 (by decide) (rfl) (by omega) (by omega) ?_
    have rr1 := hJ.1 6 2
    rw [hF0 6 (by decide), hw6]
    rw [hF0 6 (by decide), hw6] at rr1
    refine ev_c_ge (t := 216) k210_164 rfl (by omega) (by omega) (by omega) (by omega) (fun h2 => ?_) (fun h2 => ?_)
    · rw [show k = (w 2).toNat by omega] at hs
      exact hE _ _ _ _ hJ hs hF0
    · refine ev_s1 (L' := [some (vr 0), some (vi c), some (vi r), some (vi i), some (vi x), some (vi p), some (vi t), some (vi v), some (vi s), some (vi (k : Int)), z]) (S' := [vr 0]) k210_167 rfl rfl ?_
      refine ev_getR k210_168 (by decide) (rfl) (y_0_15) ?_
      refine ev_s1 (L' := [some (vr 0), some (vi c), some (vi r), some (vi i), some (vi x), some (vi p), some (vi t), some (vi v), some (vi s), some (vi (k : Int)), z]) (S' := [vi (k : Int), vr 8]) k210_171 rfl rfl ?_
      refine ev_s1 (L' := [some (vr 0), some (vi c), some (vi r), some (vi i), some (vi x), some (vi p), some (vi t), some (vi v), some (vi s), some (vi (k : Int)), z]) (S' := [vi c, vi (k : Int), vr 8]) k210_173 rfl rfl ?_
      refine ev_static (a := [vr 8, vi (k : Int), vi c]) (S' := []) k210_174 rfl (Nat.le_of_ble_eq_true rfl) (by omega) ?_
      refine m_sits hJ (k := 8) (by decide) (g := (k : Int)) (c := c) (by omega) (by omega) (by omega) (by omega) (by rw [hv8]; exact hv) (by rw [hv8]; exact (show 0 ≤ fitV u c k (28 + 4 * (k : Int)) ∧ fitV u c k (28 + 4 * (k : Int)) ≤ 9 by rw [(hg (k : Int) (by omega) (by omega)).1]; exact (hw.2.2.2.2.1 (k : Int) (by omega) (by omega)).1)) (by rw [hv8]; exact (show 1 ≤ fitV u c k (28 + 4 * (k : Int) + 1) ∧ fitV u c k (28 + 4 * (k : Int) + 1) ≤ 9 by rw [(hg (k : Int) (by omega) (by omega)).2]; exact (hw.2.2.2.2.1 (k : Int) (by omega) (by omega)).2.1)) (by omega) (fun J3 hJ3 w3 f3 => ?_)
      rw [hv8]
      rw [hv8] at w3
      have bo174 := bear_okc (o := (fitV u c k) (28 + 4 * (k : Int))) hv (show 0 ≤ fitV u c k (28 + 4 * (k : Int)) ∧ fitV u c k (28 + 4 * (k : Int)) ≤ 9 by rw [(hg (k : Int) (by omega) (by omega)).1]; exact (hw.2.2.2.2.1 (k : Int) (by omega) (by omega)).1).1 (show 0 ≤ fitV u c k (28 + 4 * (k : Int)) ∧ fitV u c k (28 + 4 * (k : Int)) ≤ 9 by rw [(hg (k : Int) (by omega) (by omega)).1]; exact (hw.2.2.2.2.1 (k : Int) (by omega) (by omega)).1).2
      show Ev d 210 177 [some (vr 0), some (vi c), some (vi r), some (vi i), some (vi x), some (vi p), some (vi t), some (vi v), some (vi s), some (vi (k : Int)), z] [vi (bearW (fitV u c k) c ((fitV u c k) (28 + 4 * (k : Int))))] (SM J3) Q
      rw [(hg (k : Int) (by omega) (by omega)).1] at bo174 ⊢
      refine ev_s1 (L' := [some (vr 0), some (vi c), some (vi r), some (vi i), some (vi x), some (vi p), some (vi t), some (vi v), some (vi s), some (vi (k : Int)), some (vi (bearW (fitV u c k) c (w (28 + (4 * (k : Int))))))]) (S' := []) k210_177 rfl rfl ?_
      refine ev_s1 (L' := [some (vr 0), some (vi c), some (vi r), some (vi i), some (vi x), some (vi p), some (vi t), some (vi v), some (vi s), some (vi (k : Int)), some (vi (bearW (fitV u c k) c (w (28 + (4 * (k : Int))))))]) (S' := [vi s]) k210_179 rfl rfl ?_
      refine ev_z_eq (t := 207) k210_181 rfl (by omega) (by omega) (fun h4 => ?_) (fun h4 => ?_)
      · refine ev_s1 (L' := [some (vr 0), some (vi c), some (vi r), some (vi i), some (vi x), some (vi p), some (vi t), some (vi v), some (vi s), some (vi (k : Int)), some (vi (bearW (fitV u c k) c (w (28 + (4 * (k : Int))))))]) (S' := [vi 0]) k210_207 rfl rfl ?_
        refine ev_s1 (L' := [some (vr 0), some (vi c), some (vi r), some (vi i), some (vi x), some (vi p), some (vi t), some (vi v), some (vi 0), some (vi (k : Int)), some (vi (bearW (fitV u c k) c (w (28 + (4 * (k : Int))))))]) (S' := []) k210_208 rfl rfl ?_
        refine ev_s1 (L' := [some (vr 0), some (vi c), some (vi r), some (vi i), some (vi x), some (vi p), some (vi t), some (vi v), some (vi 0), some (vi ((k : Int) + 1)), some (vi (bearW (fitV u c k) c (w (28 + (4 * (k : Int))))))]) (S' := []) k210_210 rfl rfl ?_
        refine ev_goto (t := 156) k210_213 rfl ?_
        exact ih J3 (k + 1) _ _ hJ3 (by omega) (by omega) (by rw [allF, (b01 hs).1 (by omega)]; rfl) w3 (fun a a8 => ((f3 a (by assumption)).trans (hF0 a a8)))
      · refine ev_s1 (L' := [some (vr 0), some (vi c), some (vi r), some (vi i), some (vi x), some (vi p), some (vi t), some (vi v), some (vi s), some (vi (k : Int)), some (vi (bearW (fitV u c k) c (w (28 + (4 * (k : Int))))))]) (S' := [vi (bearW (fitV u c k) c (w (28 + (4 * (k : Int)))))]) k210_184 rfl rfl ?_
        refine ev_s1 (L' := [some (vr 0), some (vi c), some (vi r), some (vi i), some (vi x), some (vi p), some (vi t), some (vi v), some (vi s), some (vi (k : Int)), some (vi (bearW (fitV u c k) c (w (28 + (4 * (k : Int))))))]) (S' := [vr 0, vi (bearW (fitV u c k) c (w (28 + (4 * (k : Int)))))]) k210_186 rfl rfl ?_
        refine ev_getR k210_187 (by decide) (rfl) (y_0_2) ?_
        refine ev_s1 (L' := [some (vr 0), some (vi c), some (vi r), some (vi i), some (vi x), some (vi p), some (vi t), some (vi v), some (vi s), some (vi (k : Int)), some (vi (bearW (fitV u c k) c (w (28 + (4 * (k : Int))))))]) (S' := [vi 40, vr 3, vi (bearW (fitV u c k) c (w (28 + (4 * (k : Int)))))]) k210_190 rfl rfl ?_
        refine ev_s1 (L' := [some (vr 0), some (vi c), some (vi r), some (vi i), some (vi x), some (vi p), some (vi t), some (vi v), some (vi s), some (vi (k : Int)), some (vi (bearW (fitV u c k) c (w (28 + (4 * (k : Int))))))]) (S' := [vi r, vi 40, vr 3, vi (bearW (fitV u c k) c (w (28 + (4 * (k : Int)))))]) k210_192 rfl rfl ?_
        refine ev_s1 (L' := [some (vr 0), some (vi c), some (vi r), some (vi i), some (vi x), some (vi p), some (vi t), some (vi v), some (vi s), some (vi (k : Int)), some (vi (bearW (fitV u c k) c (w (28 + (4 * (k : Int))))))]) (S' := [vi (40 * r), vr 3, vi (bearW (fitV u c k) c (w (28 + (4 * (k : Int)))))]) k210_193 rfl rfl ?_
        refine ev_s1 (L' := [some (vr 0), some (vi c), some (vi r), some (vi i), some (vi x), some (vi p), some (vi t), some (vi v), some (vi s), some (vi (k : Int)), some (vi (bearW (fitV u c k) c (w (28 + (4 * (k : Int))))))]) (S' := [vi i, vi (40 * r), vr 3, vi (bearW (fitV u c k) c (w (28 + (4 * (k : Int)))))]) k210_194 rfl rfl ?_
        refine ev_s1 (L' := [some (vr 0), some (vi c), some (vi r), some (vi i), some (vi x), some (vi p), some (vi t), some (vi v), some (vi s), some (vi (k : Int)), some (vi (bearW (fitV u c k) c (w (28 + (4 * (k : Int))))))]) (S' := [vi ((40 * r) + i), vr 3, vi (bearW (fitV u c k) c (w (28 + (4 * (k : Int)))))]) k210_195 rfl rfl ?_
        refine ev_s1 (L' := [some (vr 0), some (vi c), some (vi r), some (vi i), some (vi x), some (vi p), some (vi t), some (vi v), some (vi s), some (vi (k : Int)), some (vi (bearW (fitV u c k) c (w (28 + (4 * (k : Int))))))]) (S' := [vi (k : Int), vi ((40 * r) + i), vr 3, vi (bearW (fitV u c k) c (w (28 + (4 * (k : Int)))))]) k210_196 rfl rfl ?_
        refine ev_s1 (L' := [some (vr 0), some (vi c), some (vi r), some (vi i), some (vi x), some (vi p), some (vi t), some (vi v), some (vi s), some (vi (k : Int)), some (vi (bearW (fitV u c k) c (w (28 + (4 * (k : Int))))))]) (S' := [vi (((40 * r) + i) + (k : Int)), vr 3, vi (bearW (fitV u c k) c (w (28 + (4 * (k : Int)))))]) k210_198 rfl rfl ?_
        refine ev_iald k210_199 (by decide) (rfl) (by omega) (by omega) ?_
        have rr5 := hJ3.1 3 (((40 * r) + i) + (k : Int))
        rw [f3 3 (by decide), hF0 3 (by decide), h3]
        rw [f3 3 (by decide), hF0 3 (by decide), h3] at rr5
        refine ev_c_ne (t := 207) k210_200 rfl (by omega) (by omega) (by omega) (by omega) (fun h6 => ?_) (fun h6 => ?_)
        · refine ev_s1 (L' := [some (vr 0), some (vi c), some (vi r), some (vi i), some (vi x), some (vi p), some (vi t), some (vi v), some (vi s), some (vi (k : Int)), some (vi (bearW (fitV u c k) c (w (28 + (4 * (k : Int))))))]) (S' := [vi 0]) k210_207 rfl rfl ?_
          refine ev_s1 (L' := [some (vr 0), some (vi c), some (vi r), some (vi i), some (vi x), some (vi p), some (vi t), some (vi v), some (vi 0), some (vi (k : Int)), some (vi (bearW (fitV u c k) c (w (28 + (4 * (k : Int))))))]) (S' := []) k210_208 rfl rfl ?_
          refine ev_s1 (L' := [some (vr 0), some (vi c), some (vi r), some (vi i), some (vi x), some (vi p), some (vi t), some (vi v), some (vi 0), some (vi ((k : Int) + 1)), some (vi (bearW (fitV u c k) c (w (28 + (4 * (k : Int))))))]) (S' := []) k210_210 rfl rfl ?_
          refine ev_goto (t := 156) k210_213 rfl ?_
          exact ih J3 (k + 1) _ _ hJ3 (by omega) (by omega) (by rw [allF, (b01 hs).2 (by omega), Bool.true_and, if_neg (Bool.eq_false_iff.mp (decide_eq_false (by show bearW (fitV u c k) c (w (28 + 4 * (k : Int))) ≠ fi3 (40 * r + (i + (k : Int))); rw [ei]; omega)))]) w3 (fun a a8 => ((f3 a (by assumption)).trans (hF0 a a8)))
        · refine ev_s1 (L' := [some (vr 0), some (vi c), some (vi r), some (vi i), some (vi x), some (vi p), some (vi t), some (vi v), some (vi s), some (vi (k : Int)), some (vi (bearW (fitV u c k) c (w (28 + (4 * (k : Int))))))]) (S' := [vi 1]) k210_203 rfl rfl ?_
          refine ev_goto (t := 208) k210_204 rfl ?_
          refine ev_s1 (L' := [some (vr 0), some (vi c), some (vi r), some (vi i), some (vi x), some (vi p), some (vi t), some (vi v), some (vi 1), some (vi (k : Int)), some (vi (bearW (fitV u c k) c (w (28 + (4 * (k : Int))))))]) (S' := []) k210_208 rfl rfl ?_
          refine ev_s1 (L' := [some (vr 0), some (vi c), some (vi r), some (vi i), some (vi x), some (vi p), some (vi t), some (vi v), some (vi 1), some (vi ((k : Int) + 1)), some (vi (bearW (fitV u c k) c (w (28 + (4 * (k : Int))))))]) (S' := []) k210_210 rfl rfl ?_
          refine ev_goto (t := 156) k210_213 rfl ?_
          exact ih J3 (k + 1) _ _ hJ3 (by omega) (by omega) (by rw [allF, (b01 hs).2 (by omega), Bool.true_and, if_pos (decide_eq_true (by show bearW (fitV u c k) c (w (28 + 4 * (k : Int))) = fi3 (40 * r + (i + (k : Int))); rw [ei]; omega))]) w3 (fun a a8 => ((f3 a (by assumption)).trans (hF0 a a8)))

set_option maxHeartbeats 1000000 in
theorem m_fito {d : Nat} {K : Nat → Int → Int} {Q : Option jV → jS → Prop} {w fi3 : Int → Int} {r i c x p : Int} (hw : OKW w) (hw6 : K 6 = w) (h3 : K 3 = fi3) (r0 : 0 ≤ r) (r7 : r ≤ 7) (i0 : 0 ≤ i) (i40 : i + w 2 ≤ 40) (c0 : 0 ≤ c) (c1 : c < w 1) (hd : 3 ≤ d) (hx : 0 ≤ x ∧ x ≤ 2) (hp : p = 3 + 5 * c + (if x = 2 then 0 else 1 + x)) (hp2 : 3 ≤ p ∧ p < 48) (hQ : ∀ J', SM4 K J' 0 → Q (some (vi (bitsF (fitP w (itF fi3 r) i c x) (fitH x + 1).toNat))) (SM J')) : ∀ (n : Nat) (J : Nat → Int → Int) (v : Nat) (t : Int) (y1 y2 y3 : Option jV), RZ J → fitH x + 1 - (v : Int) < n → (v : Int) ≤ fitH x + 1 → fitL x ≤ (v : Int) → t = bitsF (fitP w (itF fi3 r) i c x) v → (∀ a, a ≠ 8 → J a = K a) → Ev d 210 101 [some (vr 0), some (vi c), some (vi r), some (vi i), some (vi x), some (vi p), some (vi t), some (vi (v : Int)), y1, y2, y3] [] (SM J) Q := by
  intro n
  induction n with
  | zero =>
    intro J v t y1 y2 y3 hJ hv hv2 hv3 ht hF0
    exfalso; omega
  | succ n ih =>
    intro J v t y1 y2 y3 hJ hv hv2 hv3 ht hF0
    have w1 := hw.2.1
    have w2 := hw.2.2.1
    have fh := fith_rng x
    have fl := fitl_rng x
    refine ev_s1 (L' := [some (vr 0), some (vi c), some (vi r), some (vi i), some (vi x), some (vi p), some (vi t), some (vi (v : Int)), y1, y2, y3]) (S' := [vi (v : Int)]) k210_101 rfl rfl ?_
    refine ev_s1 (L' := [some (vr 0), some (vi c), some (vi r), some (vi i), some (vi x), some (vi p), some (vi t), some (vi (v : Int)), y1, y2, y3]) (S' := [vi x, vi (v : Int)]) k210_103 rfl rfl ?_
    have kj105 : ∀ ub : Int, ub = (fitH x) → Ev d 210 125 [some (vr 0), some (vi c), some (vi r), some (vi i), some (vi x), some (vi p), some (vi t), some (vi (v : Int)), y1, y2, y3] [vi ub, vi (v : Int)] (SM J) Q := by
      intro ub hub
      refine ev_c_gt (t := 240) k210_125 rfl (by omega) (by omega) (by omega) (by omega) (fun h1 => ?_) (fun h1 => ?_)
      · refine ev_s1 (L' := [some (vr 0), some (vi c), some (vi r), some (vi i), some (vi x), some (vi p), some (vi t), some (vi (v : Int)), y1, y2, y3]) (S' := [vr 0]) k210_240 rfl rfl ?_
        refine ev_s1 (L' := [some (vr 0), some (vi c), some (vi r), some (vi i), some (vi x), some (vi p), some (vi t), some (vi (v : Int)), y1, y2, y3]) (S' := [vi t, vr 0]) k210_241 rfl rfl ?_
        refine ev_virt (a := [vi t]) (S' := []) k210_243 rfl (Nat.le_of_ble_eq_true rfl) (by decide) (rfl) (by omega) ?_
        refine m_well hJ (v := t) (fun J2 hJ2 e2 q2 g2 => ?_)
        show Ev d 210 246 [some (vr 0), some (vi c), some (vi r), some (vi i), some (vi x), some (vi p), some (vi t), some (vi (v : Int)), y1, y2, y3] [vi t] (SM J2) Q
        refine ev_ireturn k210_246 ?_
        rw [show v = (fitH x + 1).toNat by omega] at ht
        rw [← ht] at hQ
        exact hQ _ ⟨hJ2, e2, fun b hb => (q2 b hb).trans (congrFun ((hF0 0 (by decide))) b), fun a a0 a4 a7 a8 a12 a13 => (g2 a (by assumption)).trans (hF0 a (by assumption))⟩
      · refine ev_s1 (L' := [some (vr 0), some (vi c), some (vi r), some (vi i), some (vi x), some (vi p), some (vi t), some (vi (v : Int)), y1, y2, y3]) (S' := [vr 0]) k210_128 rfl rfl ?_
        refine ev_getR k210_129 (by decide) (rfl) (y_0_13) ?_
        refine ev_s1 (L' := [some (vr 0), some (vi c), some (vi r), some (vi i), some (vi x), some (vi p), some (vi t), some (vi (v : Int)), y1, y2, y3]) (S' := [vi 0, vr 6]) k210_132 rfl rfl ?_
        refine ev_s1 (L' := [some (vr 0), some (vi c), some (vi r), some (vi i), some (vi x), some (vi p), some (vi t), some (vi (v : Int)), y1, y2, y3]) (S' := [vr 0, vi 0, vr 6]) k210_133 rfl rfl ?_
        refine ev_getR k210_134 (by decide) (rfl) (y_0_15) ?_
        refine ev_s1 (L' := [some (vr 0), some (vi c), some (vi r), some (vi i), some (vi x), some (vi p), some (vi t), some (vi (v : Int)), y1, y2, y3]) (S' := [vi 0, vr 8, vi 0, vr 6]) k210_137 rfl rfl ?_
        refine ev_static (a := [vr 6, vi 0, vr 8, vi 0]) (S' := []) k210_138 rfl (Nat.le_of_ble_eq_true rfl) (by omega) ?_
        refine m_copies hJ (f := 6) (t := 8) (lf := 48) (lt := 48) (a := 0) (b := 0) (by decide) ⟨by decide, rfl⟩ ⟨by decide, rfl⟩ (by omega) (by omega) (by omega) (by omega) (by omega) (by decide) (by decide) (fun J3 hJ3 w3 f3 => ?_)
        rw [cp_full hJ.2 (by decide) (by decide)] at w3
        rw [hF0 6 (by decide), hw6] at w3
        show Ev d 210 141 [some (vr 0), some (vi c), some (vi r), some (vi i), some (vi x), some (vi p), some (vi t), some (vi (v : Int)), y1, y2, y3] [] (SM J3) Q
        refine ev_s1 (L' := [some (vr 0), some (vi c), some (vi r), some (vi i), some (vi x), some (vi p), some (vi t), some (vi (v : Int)), y1, y2, y3]) (S' := [vr 0]) k210_141 rfl rfl ?_
        refine ev_getR k210_142 (by decide) (rfl) (y_0_15) ?_
        refine ev_s1 (L' := [some (vr 0), some (vi c), some (vi r), some (vi i), some (vi x), some (vi p), some (vi t), some (vi (v : Int)), y1, y2, y3]) (S' := [vi p, vr 8]) k210_145 rfl rfl ?_
        refine ev_s1 (L' := [some (vr 0), some (vi c), some (vi r), some (vi i), some (vi x), some (vi p), some (vi t), some (vi (v : Int)), y1, y2, y3]) (S' := [vi (v : Int), vi p, vr 8]) k210_147 rfl rfl ?_
        refine ev_iast k210_149 (by decide) (rfl) (by omega) (by omega) ?_
        show Ev d 210 150 [some (vr 0), some (vi c), some (vi r), some (vi i), some (vi x), some (vi p), some (vi t), some (vi (v : Int)), y1, y2, y3] [] (SM (up J3 8 p (v : Int))) Q
        have hJ4 := rz_up hJ3 (k := 8) (j := p) (z := (v : Int)) (by omega) (by omega) (by omega)
        have g4 : ∀ aa, aa ≠ 8 → up J3 8 p (v : Int) aa = J3 aa := fun aa h => upf h
        have q4 : ∀ bb, bb ≠ p → up J3 8 p (v : Int) 8 bb = J3 8 bb := fun bb h => upN (Or.inr h)
        have e4 : up J3 8 p (v : Int) 8 p = (v : Int) := upE rfl rfl
        generalize up J3 8 p (v : Int) = J4 at hJ4 g4 q4 e4 ⊢
        have wq : J4 8 = altW w c x (v : Int) := by
          funext b
          unfold altW
          by_cases q : b = p
          · rw [q, e4, if_pos hp]
          · rw [q4 b q, if_neg (by rw [← hp]; exact q), w3]
        have fb := fit_b hx (show fitL x ≤ (v : Int) by omega) (show (v : Int) ≤ fitH x by omega)
        refine ev_s1 (L' := [some (vr 0), some (vi c), some (vi r), some (vi i), some (vi x), some (vi p), some (vi t), some (vi (v : Int)), y1, y2, y3]) (S' := [vi 1]) k210_150 rfl rfl ?_
        refine ev_s1 (L' := [some (vr 0), some (vi c), some (vi r), some (vi i), some (vi x), some (vi p), some (vi t), some (vi (v : Int)), some (vi 1), y2, y3]) (S' := []) k210_151 rfl rfl ?_
        refine ev_s1 (L' := [some (vr 0), some (vi c), some (vi r), some (vi i), some (vi x), some (vi p), some (vi t), some (vi (v : Int)), some (vi 1), y2, y3]) (S' := [vi 0]) k210_153 rfl rfl ?_
        refine ev_s1 (L' := [some (vr 0), some (vi c), some (vi r), some (vi i), some (vi x), some (vi p), some (vi t), some (vi (v : Int)), some (vi 1), some (vi 0), y3]) (S' := []) k210_154 rfl rfl ?_
        refine m_fiti (K := J4) (w := w) (fi3 := fi3) (x := x) (p := p) hw (by rw [g4 6 (by decide), f3 6 (by decide), hF0 6 (by decide), hw6]) (by rw [g4 3 (by decide), f3 3 (by decide), hF0 3 (by decide), h3]) r0 r7 i0 i40 c0 c1 hd (u := altW w c x (v : Int)) (t := t) (v := (v : Int)) (alt_gs (by omega) (by omega)) (alt_okc (hw.2.2.2.1 c c0 c1) fb.1 fb.2.1 fb.2.2 (by omega)) (fun J0 s0 y0 z0 hJ0 hs0 f0 => ?_) 6 J4 0 1 _ hJ4 (by omega) (by omega) rfl wq (fun _ _ => rfl)
        have sr0 : s0 = 0 ∨ s0 = 1 := by rw [hs0]; split <;> omega
        refine ev_s1 (L' := [some (vr 0), some (vi c), some (vi r), some (vi i), some (vi x), some (vi p), some (vi t), some (vi (v : Int)), some (vi s0), some (vi y0), z0]) (S' := [vi t]) k210_216 rfl rfl ?_
        refine ev_s1 (L' := [some (vr 0), some (vi c), some (vi r), some (vi i), some (vi x), some (vi p), some (vi t), some (vi (v : Int)), some (vi s0), some (vi y0), z0]) (S' := [vi s0, vi t]) k210_218 rfl rfl ?_
        refine ev_z_eq (t := 230) k210_220 rfl (by omega) (by omega) (fun h5 => ?_) (fun h5 => ?_)
        · refine ev_s1 (L' := [some (vr 0), some (vi c), some (vi r), some (vi i), some (vi x), some (vi p), some (vi t), some (vi (v : Int)), some (vi s0), some (vi y0), z0]) (S' := [vi 0, vi t]) k210_230 rfl rfl ?_
          refine ev_ior k210_231 (by have := bits_lt (fitP w (itF fi3 r) i c x) (n := v) (by omega); omega) (by have := bits_lt (fitP w (itF fi3 r) i c x) (n := v) (by omega); omega) (by first | decide | exact (p2_rng v (by omega)).1) (by first | decide | exact (p2_rng v (by omega)).2) ?_
          refine ev_s1 (L' := [some (vr 0), some (vi c), some (vi r), some (vi i), some (vi x), some (vi p), some (vi ((Int.toNat t ||| Int.toNat 0 : Nat) : Int)), some (vi (v : Int)), some (vi s0), some (vi y0), z0]) (S' := []) k210_232 rfl rfl ?_
          refine ev_s1 (L' := [some (vr 0), some (vi c), some (vi r), some (vi i), some (vi x), some (vi p), some (vi ((Int.toNat t ||| Int.toNat 0 : Nat) : Int)), some (vi ((v : Int) + 1)), some (vi s0), some (vi y0), z0]) (S' := []) k210_234 rfl rfl ?_
          refine ev_goto (t := 101) k210_237 rfl ?_
          have q : fitP w (itF fi3 r) i c x (v : Int) = false := by unfold fitP; rw [decide_eq_true (by omega), (b01 hs0).1 (by omega)]; rfl
          exact ih J0 (v + 1) _ _ _ _ hJ0 (by omega) (by omega) (by omega) (by rw [bits_f (p := (fitP w (itF fi3 r) i c x)) q, ← ht]; exact or0 (by have := bits_lt (fitP w (itF fi3 r) i c x) (n := v) (by omega); omega)) (fun a a8 => ((f0 a (by assumption)).trans ((g4 a (by assumption)).trans ((f3 a (by assumption)).trans (hF0 a a8)))))
        · refine ev_s1 (L' := [some (vr 0), some (vi c), some (vi r), some (vi i), some (vi x), some (vi p), some (vi t), some (vi (v : Int)), some (vi s0), some (vi y0), z0]) (S' := [vi 1, vi t]) k210_223 rfl rfl ?_
          refine ev_s1 (L' := [some (vr 0), some (vi c), some (vi r), some (vi i), some (vi x), some (vi p), some (vi t), some (vi (v : Int)), some (vi s0), some (vi y0), z0]) (S' := [vi (v : Int), vi 1, vi t]) k210_224 rfl rfl ?_
          refine ev_ishl k210_226 (by omega) (by omega) ?_
          refine ev_goto (t := 231) k210_227 rfl ?_
          refine ev_ior k210_231 (by have := bits_lt (fitP w (itF fi3 r) i c x) (n := v) (by omega); omega) (by have := bits_lt (fitP w (itF fi3 r) i c x) (n := v) (by omega); omega) (by first | decide | exact (p2_rng v (by omega)).1) (by first | decide | exact (p2_rng v (by omega)).2) ?_
          refine ev_s1 (L' := [some (vr 0), some (vi c), some (vi r), some (vi i), some (vi x), some (vi p), some (vi ((Int.toNat t ||| Int.toNat (1 * 2 ^ Int.toNat (v : Int)) : Nat) : Int)), some (vi (v : Int)), some (vi s0), some (vi y0), z0]) (S' := []) k210_232 rfl rfl ?_
          refine ev_s1 (L' := [some (vr 0), some (vi c), some (vi r), some (vi i), some (vi x), some (vi p), some (vi ((Int.toNat t ||| Int.toNat (1 * 2 ^ Int.toNat (v : Int)) : Nat) : Int)), some (vi ((v : Int) + 1)), some (vi s0), some (vi y0), z0]) (S' := []) k210_234 rfl rfl ?_
          refine ev_goto (t := 101) k210_237 rfl ?_
          have q : fitP w (itF fi3 r) i c x (v : Int) = true := by unfold fitP; rw [decide_eq_true (by omega), (b01 hs0).2 (by omega)]; rfl
          exact ih J0 (v + 1) _ _ _ _ hJ0 (by omega) (by omega) (by omega) (by rw [bits_t (p := (fitP w (itF fi3 r) i c x)) q, ← ht]; rfl) (fun a a8 => ((f0 a (by assumption)).trans ((g4 a (by assumption)).trans ((f3 a (by assumption)).trans (hF0 a a8)))))
        
    refine ev_z_ne (t := 113) k210_105 rfl (by omega) (by omega) (fun h6 => ?_) (fun h6 => ?_)
    · refine ev_s1 (L' := [some (vr 0), some (vi c), some (vi r), some (vi i), some (vi x), some (vi p), some (vi t), some (vi (v : Int)), y1, y2, y3]) (S' := [vi x, vi (v : Int)]) k210_113 rfl rfl ?_
      refine ev_s1 (L' := [some (vr 0), some (vi c), some (vi r), some (vi i), some (vi x), some (vi p), some (vi t), some (vi (v : Int)), y1, y2, y3]) (S' := [vi 1, vi x, vi (v : Int)]) k210_115 rfl rfl ?_
      refine ev_c_ne (t := 124) k210_116 rfl (by omega) (by omega) (by omega) (by omega) (fun h7 => ?_) (fun h7 => ?_)
      · refine ev_s1 (L' := [some (vr 0), some (vi c), some (vi r), some (vi i), some (vi x), some (vi p), some (vi t), some (vi (v : Int)), y1, y2, y3]) (S' := [vi 5, vi (v : Int)]) k210_124 rfl rfl ?_
        exact kj105 _ (by unfold fitH; first | rw [if_pos (by omega)] | rw [if_neg (by omega), if_pos (by omega)] | rw [if_neg (by omega), if_neg (by omega)])
      · refine ev_s1 (L' := [some (vr 0), some (vi c), some (vi r), some (vi i), some (vi x), some (vi p), some (vi t), some (vi (v : Int)), y1, y2, y3]) (S' := [vi 16, vi (v : Int)]) k210_119 rfl rfl ?_
        refine ev_goto (t := 125) k210_121 rfl ?_
        exact kj105 _ (by unfold fitH; first | rw [if_pos (by omega)] | rw [if_neg (by omega), if_pos (by omega)] | rw [if_neg (by omega), if_neg (by omega)])
    · refine ev_s1 (L' := [some (vr 0), some (vi c), some (vi r), some (vi i), some (vi x), some (vi p), some (vi t), some (vi (v : Int)), y1, y2, y3]) (S' := [vi 9, vi (v : Int)]) k210_108 rfl rfl ?_
      refine ev_goto (t := 125) k210_110 rfl ?_
      exact kj105 _ (by unfold fitH; first | rw [if_pos (by omega)] | rw [if_neg (by omega), if_pos (by omega)] | rw [if_neg (by omega), if_neg (by omega)])

set_option maxHeartbeats 1000000 in
theorem m_fits {d : Nat} {J : Nat → Int → Int} {Q : Option jV → jS → Prop} (hJ : RZ J) (hw : OKW (J 6)) {c r i x : Int} (c0 : -2147483648 ≤ c) (c1 : c < 2147483648) (ra0 : -2147483648 ≤ r) (r1 : r < 2147483648) (ia0 : -2147483648 ≤ i) (i1 : i < 2147483648) (x0 : -2147483648 ≤ x) (x1 : x < 2147483648) (hm : 0 ≤ r → r ≤ 7 → J 1 r ≠ -1000000 → J 2 r ≤ 40) (hd : 5 ≤ d) (hB : ¬ ((0 ≤ c ∧ c < J 6 1) ∧ (0 ≤ r ∧ r ≤ 7) ∧ (0 ≤ x ∧ x ≤ 2)) → Q (some (vi (-1000001))) (SM J)) (hx1 : ((0 ≤ c ∧ c < J 6 1) ∧ (0 ≤ r ∧ r ≤ 7) ∧ (0 ≤ x ∧ x ≤ 2)) → J 1 r = -1000000 → ∀ J', SM4 J J' 1 → Q (some (vi (-1000010 - 1))) (SM J')) (hx2 : ((0 ≤ c ∧ c < J 6 1) ∧ (0 ≤ r ∧ r ≤ 7) ∧ (0 ≤ x ∧ x ≤ 2)) → ¬ J 1 r = -1000000 → ¬ (0 ≤ i ∧ 0 ≤ J 6 2 ∧ i + J 6 2 ≤ J 2 r) → ∀ J', SM4 J J' 2 → Q (some (vi (-1000010 - 2))) (SM J')) (hQ : ((0 ≤ c ∧ c < J 6 1) ∧ (0 ≤ r ∧ r ≤ 7) ∧ (0 ≤ x ∧ x ≤ 2)) → ¬ J 1 r = -1000000 → (0 ≤ i ∧ i + J 6 2 ≤ J 2 r) → ∀ J', SM4 J J' 0 → Q (some (vi (bitsF (fitP (J 6) (itF (J 3) r) i c x) (fitH x + 1).toNat))) (SM J')) : Cl d 210 [vr 0, vi c, vi r, vi i, vi x] (SM J) Q := by
  have w0 := hw.1
  have w1 := hw.2.1
  have w2 := hw.2.2.1
  refine ⟨by rw [l210]; exact Nat.le_of_ble_eq_true rfl, ?_⟩
  rw [l210]
  show Ev d 210 0 [some (vr 0), some (vi c), some (vi r), some (vi i), some (vi x), none, none, none, none, none, none] [] (SM J) Q
  refine ev_s1 (L' := [some (vr 0), some (vi c), some (vi r), some (vi i), some (vi x), none, none, none, none, none, none]) (S' := [vr 0]) k210_0 rfl rfl ?_
  refine ev_s1 (L' := [some (vr 0), some (vi c), some (vi r), some (vi i), some (vi x), none, none, none, none, none, none]) (S' := [vi c, vr 0]) k210_1 rfl rfl ?_
  refine ev_virt (a := [vi c]) (S' := []) k210_2 rfl (Nat.le_of_ble_eq_true rfl) (by decide) (rfl) (by omega) ?_
  refine m_isChair hJ (c := c) (by omega) (by omega) (by omega) (by omega) (fun h1 => ?_) (fun h1 => ?_)
  · show Ev d 210 5 [some (vr 0), some (vi c), some (vi r), some (vi i), some (vi x), none, none, none, none, none, none] [vi 1] (SM J) Q
    refine ev_z_eq (t := 25) k210_5 rfl (by omega) (by omega) (fun h => absurd h (by decide)) (fun _ => ?_)
    refine ev_s1 (L' := [some (vr 0), some (vi c), some (vi r), some (vi i), some (vi x), none, none, none, none, none, none]) (S' := [vi r]) k210_8 rfl rfl ?_
    refine ev_static (a := [vi r]) (S' := []) k210_9 rfl (Nat.le_of_ble_eq_true rfl) (by omega) ?_
    refine m_isRow (r := r) (by omega) (by omega) (by omega) (fun h2 => ?_) (fun h2 => ?_)
    · show Ev d 210 12 [some (vr 0), some (vi c), some (vi r), some (vi i), some (vi x), none, none, none, none, none, none] [vi 1] (SM J) Q
      refine ev_z_eq (t := 25) k210_12 rfl (by omega) (by omega) (fun h => absurd h (by decide)) (fun _ => ?_)
      refine ev_s1 (L' := [some (vr 0), some (vi c), some (vi r), some (vi i), some (vi x), none, none, none, none, none, none]) (S' := [vi x]) k210_15 rfl rfl ?_
      refine ev_s1 (L' := [some (vr 0), some (vi c), some (vi r), some (vi i), some (vi x), none, none, none, none, none, none]) (S' := [vi 0, vi x]) k210_17 rfl rfl ?_
      refine ev_s1 (L' := [some (vr 0), some (vi c), some (vi r), some (vi i), some (vi x), none, none, none, none, none, none]) (S' := [vi 2, vi 0, vi x]) k210_18 rfl rfl ?_
      refine ev_static (a := [vi x, vi 0, vi 2]) (S' := []) k210_19 rfl (Nat.le_of_ble_eq_true rfl) (by omega) ?_
      refine m_in (v := x) (lo := 0) (hi := 2) (by omega) (by omega) (by omega) (by omega) (by omega) (by omega) (fun h3 => ?_) (fun h3 => ?_)
      · show Ev d 210 22 [some (vr 0), some (vi c), some (vi r), some (vi i), some (vi x), none, none, none, none, none, none] [vi 1] (SM J) Q
        refine ev_z_ne (t := 28) k210_22 rfl (by omega) (by omega) (fun _ => ?_) (fun h => absurd h (by decide))
        refine ev_s1 (L' := [some (vr 0), some (vi c), some (vi r), some (vi i), some (vi x), none, none, none, none, none, none]) (S' := [vr 0]) k210_28 rfl rfl ?_
        refine ev_s1 (L' := [some (vr 0), some (vi c), some (vi r), some (vi i), some (vi x), none, none, none, none, none, none]) (S' := [vi r, vr 0]) k210_29 rfl rfl ?_
        refine ev_virt (a := [vi r]) (S' := []) k210_30 rfl (Nat.le_of_ble_eq_true rfl) (by decide) (rfl) (by omega) ?_
        refine m_isMissing hJ (r := r) (by omega) (by omega) (fun h4 => ?_) (fun h4 => ?_)
        · show Ev d 210 33 [some (vr 0), some (vi c), some (vi r), some (vi i), some (vi x), none, none, none, none, none, none] [vi 1] (SM J) Q
          refine ev_z_eq (t := 42) k210_33 rfl (by omega) (by omega) (fun h => absurd h (by decide)) (fun _ => ?_)
          refine ev_s1 (L' := [some (vr 0), some (vi c), some (vi r), some (vi i), some (vi x), none, none, none, none, none, none]) (S' := [vr 0]) k210_36 rfl rfl ?_
          refine ev_s1 (L' := [some (vr 0), some (vi c), some (vi r), some (vi i), some (vi x), none, none, none, none, none, none]) (S' := [vi 1, vr 0]) k210_37 rfl rfl ?_
          refine ev_virt (a := [vi 1]) (S' := []) k210_38 rfl (Nat.le_of_ble_eq_true rfl) (by decide) (rfl) (by omega) ?_
          refine m_found hJ (v := 1) (by omega) (by omega) (fun J5 hJ5 e5 q5 g5 => ?_)
          show Ev d 210 41 [some (vr 0), some (vi c), some (vi r), some (vi i), some (vi x), none, none, none, none, none, none] [vi (-1000010 - 1)] (SM J5) Q
          refine ev_ireturn k210_41 ?_
          exact hx1 (by omega) (by omega) _ ⟨hJ5, e5, fun b hb => (q5 b hb).trans (rfl), fun a a0 a4 a7 a8 a12 a13 => (g5 a (by assumption))⟩
        · show Ev d 210 33 [some (vr 0), some (vi c), some (vi r), some (vi i), some (vi x), none, none, none, none, none, none] [vi 0] (SM J) Q
          refine ev_z_eq (t := 42) k210_33 rfl (by omega) (by omega) (fun _ => ?_) (fun h => absurd h (by decide))
          refine ev_s1 (L' := [some (vr 0), some (vi c), some (vi r), some (vi i), some (vi x), none, none, none, none, none, none]) (S' := [vr 0]) k210_42 rfl rfl ?_
          refine ev_s1 (L' := [some (vr 0), some (vi c), some (vi r), some (vi i), some (vi x), none, none, none, none, none, none]) (S' := [vi r, vr 0]) k210_43 rfl rfl ?_
          refine ev_s1 (L' := [some (vr 0), some (vi c), some (vi r), some (vi i), some (vi x), none, none, none, none, none, none]) (S' := [vi i, vi r, vr 0]) k210_44 rfl rfl ?_
          refine ev_s1 (L' := [some (vr 0), some (vi c), some (vi r), some (vi i), some (vi x), none, none, none, none, none, none]) (S' := [vr 0, vi i, vi r, vr 0]) k210_45 rfl rfl ?_
          refine ev_getR k210_46 (by decide) (rfl) (y_0_13) ?_
          refine ev_s1 (L' := [some (vr 0), some (vi c), some (vi r), some (vi i), some (vi x), none, none, none, none, none, none]) (S' := [vi 2, vr 6, vi i, vi r, vr 0]) k210_49 rfl rfl ?_
          refine ev_iald k210_50 (by decide) (rfl) (by omega) (by omega) ?_
          have rr6 := hJ.1 6 2
          refine ev_virt (a := [vi r, vi i, vi (J 6 2)]) (S' := []) k210_51 rfl (Nat.le_of_ble_eq_true rfl) (by decide) (rfl) (by omega) ?_
          refine m_isPart hJ (r := r) (i := i) (n := J 6 2) (by omega) (by omega) (by omega) (by omega) (by omega) (by omega) (fun h7 => ?_) (fun h7 => ?_)
          · show Ev d 210 54 [some (vr 0), some (vi c), some (vi r), some (vi i), some (vi x), none, none, none, none, none, none] [vi 1] (SM J) Q
            refine ev_z_ne (t := 63) k210_54 rfl (by omega) (by omega) (fun _ => ?_) (fun h => absurd h (by decide))
            refine ev_s1 (L' := [some (vr 0), some (vi c), some (vi r), some (vi i), some (vi x), none, none, none, none, none, none]) (S' := [vi 3]) k210_63 rfl rfl ?_
            refine ev_s1 (L' := [some (vr 0), some (vi c), some (vi r), some (vi i), some (vi x), none, none, none, none, none, none]) (S' := [vi 5, vi 3]) k210_64 rfl rfl ?_
            refine ev_s1 (L' := [some (vr 0), some (vi c), some (vi r), some (vi i), some (vi x), none, none, none, none, none, none]) (S' := [vi c, vi 5, vi 3]) k210_65 rfl rfl ?_
            refine ev_s1 (L' := [some (vr 0), some (vi c), some (vi r), some (vi i), some (vi x), none, none, none, none, none, none]) (S' := [vi (5 * c), vi 3]) k210_66 rfl rfl ?_
            refine ev_s1 (L' := [some (vr 0), some (vi c), some (vi r), some (vi i), some (vi x), none, none, none, none, none, none]) (S' := [vi (3 + (5 * c))]) k210_67 rfl rfl ?_
            refine ev_s1 (L' := [some (vr 0), some (vi c), some (vi r), some (vi i), some (vi x), none, none, none, none, none, none]) (S' := [vi x, vi (3 + (5 * c))]) k210_68 rfl rfl ?_
            refine ev_s1 (L' := [some (vr 0), some (vi c), some (vi r), some (vi i), some (vi x), none, none, none, none, none, none]) (S' := [vi 2, vi x, vi (3 + (5 * c))]) k210_70 rfl rfl ?_
            have kj71 : ∀ pp : Int, pp = (if x = 2 then 0 else 1 + x) → Ev d 210 82 [some (vr 0), some (vi c), some (vi r), some (vi i), some (vi x), none, none, none, none, none, none] [vi pp, vi (3 + (5 * c))] (SM J) Q := by
              intro pp hpp
              have pr : 0 ≤ pp ∧ pp ≤ 2 := by rw [hpp]; split <;> omega
              refine ev_s1 (L' := [some (vr 0), some (vi c), some (vi r), some (vi i), some (vi x), none, none, none, none, none, none]) (S' := [vi ((3 + (5 * c)) + pp)]) k210_82 rfl rfl ?_
              refine ev_s1 (L' := [some (vr 0), some (vi c), some (vi r), some (vi i), some (vi x), some (vi ((3 + (5 * c)) + pp)), none, none, none, none, none]) (S' := []) k210_83 rfl rfl ?_
              refine ev_s1 (L' := [some (vr 0), some (vi c), some (vi r), some (vi i), some (vi x), some (vi ((3 + (5 * c)) + pp)), none, none, none, none, none]) (S' := [vi 0]) k210_85 rfl rfl ?_
              refine ev_s1 (L' := [some (vr 0), some (vi c), some (vi r), some (vi i), some (vi x), some (vi ((3 + (5 * c)) + pp)), some (vi 0), none, none, none, none]) (S' := []) k210_86 rfl rfl ?_
              refine ev_s1 (L' := [some (vr 0), some (vi c), some (vi r), some (vi i), some (vi x), some (vi ((3 + (5 * c)) + pp)), some (vi 0), none, none, none, none]) (S' := [vi x]) k210_88 rfl rfl ?_
              refine ev_s1 (L' := [some (vr 0), some (vi c), some (vi r), some (vi i), some (vi x), some (vi ((3 + (5 * c)) + pp)), some (vi 0), none, none, none, none]) (S' := [vi 2, vi x]) k210_90 rfl rfl ?_
              have kj91 : ∀ lo : Int, lo = (fitL x) → Ev d 210 99 [some (vr 0), some (vi c), some (vi r), some (vi i), some (vi x), some (vi ((3 + (5 * c)) + pp)), some (vi 0), none, none, none, none] [vi lo] (SM J) Q := by
                intro lo hlo
                refine ev_s1 (L' := [some (vr 0), some (vi c), some (vi r), some (vi i), some (vi x), some (vi ((3 + (5 * c)) + pp)), some (vi 0), some (vi lo), none, none, none]) (S' := []) k210_99 rfl rfl ?_
                have hm1 := hm (by omega) (by omega) (by omega)
                have fl := fitl_rng x
                have fh := fith_rng x
                obtain ⟨v, rfl⟩ : ∃ v : Nat, lo = (v : Int) := ⟨lo.toNat, by omega⟩
                exact m_fito (K := J) (w := J 6) (fi3 := J 3) hw rfl rfl (by omega) (by omega) (by omega) (by omega) (by omega) (by omega) (by omega) (by omega) (by rw [hpp]) (by omega) (hQ (by omega) (by omega) (by omega)) 20 J v 0 none none none hJ (by omega) (by omega) (by omega) (fit_start (by omega) hlo) (fun _ _ => rfl)
              refine ev_c_ne (t := 98) k210_91 rfl (by omega) (by omega) (by omega) (by omega) (fun h8 => ?_) (fun h8 => ?_)
              · refine ev_s1 (L' := [some (vr 0), some (vi c), some (vi r), some (vi i), some (vi x), some (vi ((3 + (5 * c)) + pp)), some (vi 0), none, none, none, none]) (S' := [vi 0]) k210_98 rfl rfl ?_
                exact kj91 _ (by unfold fitL; first | rw [if_pos (by omega)] | rw [if_neg (by omega)])
              · refine ev_s1 (L' := [some (vr 0), some (vi c), some (vi r), some (vi i), some (vi x), some (vi ((3 + (5 * c)) + pp)), some (vi 0), none, none, none, none]) (S' := [vi 1]) k210_94 rfl rfl ?_
                refine ev_goto (t := 99) k210_95 rfl ?_
                exact kj91 _ (by unfold fitL; first | rw [if_pos (by omega)] | rw [if_neg (by omega)])
            refine ev_c_ne (t := 78) k210_71 rfl (by omega) (by omega) (by omega) (by omega) (fun h9 => ?_) (fun h9 => ?_)
            · refine ev_s1 (L' := [some (vr 0), some (vi c), some (vi r), some (vi i), some (vi x), none, none, none, none, none, none]) (S' := [vi 1, vi (3 + (5 * c))]) k210_78 rfl rfl ?_
              refine ev_s1 (L' := [some (vr 0), some (vi c), some (vi r), some (vi i), some (vi x), none, none, none, none, none, none]) (S' := [vi x, vi 1, vi (3 + (5 * c))]) k210_79 rfl rfl ?_
              refine ev_s1 (L' := [some (vr 0), some (vi c), some (vi r), some (vi i), some (vi x), none, none, none, none, none, none]) (S' := [vi (1 + x), vi (3 + (5 * c))]) k210_81 rfl rfl ?_
              exact kj71 _ (by first | rw [if_pos (by omega)] | rw [if_neg (by omega)])
            · refine ev_s1 (L' := [some (vr 0), some (vi c), some (vi r), some (vi i), some (vi x), none, none, none, none, none, none]) (S' := [vi 0, vi (3 + (5 * c))]) k210_74 rfl rfl ?_
              refine ev_goto (t := 82) k210_75 rfl ?_
              exact kj71 _ (by first | rw [if_pos (by omega)] | rw [if_neg (by omega)])
          · show Ev d 210 54 [some (vr 0), some (vi c), some (vi r), some (vi i), some (vi x), none, none, none, none, none, none] [vi 0] (SM J) Q
            refine ev_z_ne (t := 63) k210_54 rfl (by omega) (by omega) (fun h => absurd h (by decide)) (fun _ => ?_)
            refine ev_s1 (L' := [some (vr 0), some (vi c), some (vi r), some (vi i), some (vi x), none, none, none, none, none, none]) (S' := [vr 0]) k210_57 rfl rfl ?_
            refine ev_s1 (L' := [some (vr 0), some (vi c), some (vi r), some (vi i), some (vi x), none, none, none, none, none, none]) (S' := [vi 2, vr 0]) k210_58 rfl rfl ?_
            refine ev_virt (a := [vi 2]) (S' := []) k210_59 rfl (Nat.le_of_ble_eq_true rfl) (by decide) (rfl) (by omega) ?_
            refine m_found hJ (v := 2) (by omega) (by omega) (fun J10 hJ10 e10 q10 g10 => ?_)
            show Ev d 210 62 [some (vr 0), some (vi c), some (vi r), some (vi i), some (vi x), none, none, none, none, none, none] [vi (-1000010 - 2)] (SM J10) Q
            refine ev_ireturn k210_62 ?_
            exact hx2 (by omega) (by omega) (by omega) _ ⟨hJ10, e10, fun b hb => (q10 b hb).trans (rfl), fun a a0 a4 a7 a8 a12 a13 => (g10 a (by assumption))⟩
      · show Ev d 210 22 [some (vr 0), some (vi c), some (vi r), some (vi i), some (vi x), none, none, none, none, none, none] [vi 0] (SM J) Q
        refine ev_z_ne (t := 28) k210_22 rfl (by omega) (by omega) (fun h => absurd h (by decide)) (fun _ => ?_)
        refine ev_ldc k210_25 ?_
        refine ev_ireturn k210_27 ?_
        exact hB (by omega)
    · show Ev d 210 12 [some (vr 0), some (vi c), some (vi r), some (vi i), some (vi x), none, none, none, none, none, none] [vi 0] (SM J) Q
      refine ev_z_eq (t := 25) k210_12 rfl (by omega) (by omega) (fun _ => ?_) (fun h => absurd h (by decide))
      refine ev_ldc k210_25 ?_
      refine ev_ireturn k210_27 ?_
      exact hB (by omega)
  · show Ev d 210 5 [some (vr 0), some (vi c), some (vi r), some (vi i), some (vi x), none, none, none, none, none, none] [vi 0] (SM J) Q
    refine ev_z_eq (t := 25) k210_5 rfl (by omega) (by omega) (fun _ => ?_) (fun h => absurd h (by decide))
    refine ev_ldc k210_25 ?_
    refine ev_ireturn k210_27 ?_
    exact hB (by omega)

set_option maxHeartbeats 1000000 in
theorem m_sdi {d : Nat} {J : Nat → Int → Int} {Q : Option jV → jS → Prop} (hJ : RZ J) {v : Int → Int} {g : Int} (hv8 : J 8 = v) (hv : OKW v) (hd : 1 ≤ d) (hE : ∀ i : Int, (freW v = -1000000 ∧ i = v 1) ∨ (freW v = i ∧ 0 ≤ i ∧ i < v 1) → Ev d 211 43 [some (vr 0), some (vi g), some (vi i)] [] (SM J) Q) : ∀ (n : Nat) (i : Nat), v 1 - i < n → (i : Int) ≤ v 1 → (∀ j : Nat, j < i → sitW v (j : Int) ≠ -1000000) → Ev d 211 14 [some (vr 0), some (vi g), some (vi (i : Int))] [] (SM J) Q := by
  intro n
  induction n with
  | zero =>
    intro i hi hi2 ha
    have w1 := hv.2.1
    exfalso; omega
  | succ n ih =>
    intro i hi hi2 ha
    have w1 := hv.2.1
    have w2 := hv.2.2.1
    refine ev_s1 (L' := [some (vr 0), some (vi g), some (vi (i : Int))]) (S' := [vi (i : Int)]) k211_14 rfl rfl ?_
    refine ev_s1 (L' := [some (vr 0), some (vi g), some (vi (i : Int))]) (S' := [vr 0, vi (i : Int)]) k211_15 rfl rfl ?_
    refine ev_getR k211_16 (by decide) (rfl) (y_0_15) ?_
    refine ev_s1 (L' := [some (vr 0), some (vi g), some (vi (i : Int))]) (S' := [vi 1, vr 8, vi (i : Int)]) k211_19 rfl rfl ?_
    refine ev_iald k211_20 (by decide) (rfl) (by omega) (by omega) ?_
    have rr1 := hJ.1 8 1
    rw [hv8]
    rw [hv8] at rr1
    refine ev_c_ge (t := 43) k211_21 rfl (by omega) (by omega) (by omega) (by omega) (fun h2 => ?_) (fun h2 => ?_)
    · by_cases q : (i : Int) < v 1
      · exact hE _ (Or.inr ⟨first_at (i := i) (decide_eq_true (by omega)) (fun j hj => decide_eq_false (ha j hj)) (by omega), by omega, q⟩)
      · exact hE _ (Or.inl ⟨first_no (fun j hj => decide_eq_false (ha j (by omega))), by omega⟩)
    · refine ev_s1 (L' := [some (vr 0), some (vi g), some (vi (i : Int))]) (S' := [vr 0]) k211_24 rfl rfl ?_
      refine ev_getR k211_25 (by decide) (rfl) (y_0_15) ?_
      refine ev_s1 (L' := [some (vr 0), some (vi g), some (vi (i : Int))]) (S' := [vi (i : Int), vr 8]) k211_28 rfl rfl ?_
      refine ev_static (a := [vr 8, vi (i : Int)]) (S' := []) k211_29 rfl (Nat.le_of_ble_eq_true rfl) (by omega) ?_
      refine m_sitter hJ (k := 8) (by decide) (c := (i : Int)) (by omega) (by omega) (by rw [hv8]; omega) (by rw [hv8]; omega) (?_)
      rw [hv8]
      have sr29 := sit_rng v (i : Int) (by omega)
      show Ev d 211 32 [some (vr 0), some (vi g), some (vi (i : Int))] [vi (sitW v (i : Int))] (SM J) Q
      refine ev_ldc k211_32 ?_
      refine ev_c_eq (t := 43) k211_34 rfl (by omega) (by omega) (by omega) (by omega) (fun h3 => ?_) (fun h3 => ?_)
      · by_cases q : (i : Int) < v 1
        · exact hE _ (Or.inr ⟨first_at (i := i) (decide_eq_true (by omega)) (fun j hj => decide_eq_false (ha j hj)) (by omega), by omega, q⟩)
        · exact hE _ (Or.inl ⟨first_no (fun j hj => decide_eq_false (ha j (by omega))), by omega⟩)
      · refine ev_s1 (L' := [some (vr 0), some (vi g), some (vi ((i : Int) + 1))]) (S' := []) k211_37 rfl rfl ?_
        refine ev_goto (t := 14) k211_40 rfl ?_
        exact ih (i + 1) (by omega) (by omega) (fun j hj => by rcases Nat.lt_or_ge j i with q | q; (exact ha j q); (rw [show j = i by omega]; omega))

set_option maxHeartbeats 1000000 in
theorem m_sdl {d : Nat} {K : Nat → Int → Int} {Q : Option jV → jS → Prop} {u : Int → Int} {G : Int} (hu : OKW u) (hG : u 2 = G) (hd : 4 ≤ d) (hQ : ∀ J', RZ J' → J' 8 = sdV u G.toNat → (∀ a, a ≠ 8 → J' a = K a) → Q none (SM J')) : ∀ (n : Nat) (J : Nat → Int → Int) (g : Nat) (x : Option jV), RZ J → u 2 - g < n → (g : Int) ≤ u 2 → J 8 = sdV u g → (∀ a, a ≠ 8 → J a = K a) → Ev d 211 2 [some (vr 0), some (vi (g : Int)), x] [] (SM J) Q := by
  intro n
  induction n with
  | zero =>
    intro J g x hJ hi hi2 hv8 hF0
    have w2 := hu.2.2.1
    exfalso; omega
  | succ n ih =>
    intro J g x hJ hi hi2 hv8 hF0
    have hv := sd_ok hu g hi2
    have l1 : sdV u g 1 = u 1 := sd_lo (by decide) g
    have l2 : sdV u g 2 = u 2 := sd_lo (by decide) g
    have w1 := hu.2.1
    have w2 := hu.2.2.1
    refine ev_s1 (L' := [some (vr 0), some (vi (g : Int)), x]) (S' := [vi (g : Int)]) k211_2 rfl rfl ?_
    refine ev_s1 (L' := [some (vr 0), some (vi (g : Int)), x]) (S' := [vr 0, vi (g : Int)]) k211_3 rfl rfl ?_
    refine ev_getR k211_4 (by decide) (rfl) (y_0_15) ?_
    refine ev_s1 (L' := [some (vr 0), some (vi (g : Int)), x]) (S' := [vi 2, vr 8, vi (g : Int)]) k211_7 rfl rfl ?_
    refine ev_iald k211_8 (by decide) (rfl) (by omega) (by omega) ?_
    have rr1 := hJ.1 8 2
    rw [hv8]
    rw [hv8] at rr1
    refine ev_c_ge (t := 84) k211_9 rfl (by omega) (by omega) (by omega) (by omega) (fun h2 => ?_) (fun h2 => ?_)
    · refine ev_return k211_84 ?_
      rw [show g = G.toNat by omega] at hv8
      exact hQ _ hJ hv8 hF0
    · refine ev_s1 (L' := [some (vr 0), some (vi (g : Int)), x]) (S' := [vi 0]) k211_12 rfl rfl ?_
      refine ev_s1 (L' := [some (vr 0), some (vi (g : Int)), some (vi 0)]) (S' := []) k211_13 rfl rfl ?_
      refine m_sdi hJ (v := sdV u g) (g := (g : Int)) hv8 hv (by omega) (fun i0 fr0 => ?_) 6 0 (by omega) (by omega) (fun j hj => absurd hj (Nat.not_lt_zero j))
      refine ev_s1 (L' := [some (vr 0), some (vi (g : Int)), some (vi i0)]) (S' := [vr 0]) k211_43 rfl rfl ?_
      refine ev_getR k211_44 (by decide) (rfl) (y_0_15) ?_
      refine ev_s1 (L' := [some (vr 0), some (vi (g : Int)), some (vi i0)]) (S' := [vi 28, vr 8]) k211_47 rfl rfl ?_
      refine ev_s1 (L' := [some (vr 0), some (vi (g : Int)), some (vi i0)]) (S' := [vi 4, vi 28, vr 8]) k211_49 rfl rfl ?_
      refine ev_s1 (L' := [some (vr 0), some (vi (g : Int)), some (vi i0)]) (S' := [vi (g : Int), vi 4, vi 28, vr 8]) k211_50 rfl rfl ?_
      refine ev_s1 (L' := [some (vr 0), some (vi (g : Int)), some (vi i0)]) (S' := [vi (4 * (g : Int)), vi 28, vr 8]) k211_51 rfl rfl ?_
      refine ev_s1 (L' := [some (vr 0), some (vi (g : Int)), some (vi i0)]) (S' := [vi (28 + (4 * (g : Int))), vr 8]) k211_52 rfl rfl ?_
      refine ev_s1 (L' := [some (vr 0), some (vi (g : Int)), some (vi i0)]) (S' := [vi 2, vi (28 + (4 * (g : Int))), vr 8]) k211_53 rfl rfl ?_
      refine ev_s1 (L' := [some (vr 0), some (vi (g : Int)), some (vi i0)]) (S' := [vi ((28 + (4 * (g : Int))) + 2), vr 8]) k211_54 rfl rfl ?_
      refine ev_iald k211_55 (by decide) (rfl) (by omega) (by omega) ?_
      have rr3 := hJ.1 8 ((28 + (4 * (g : Int))) + 2)
      rw [hv8]
      rw [hv8] at rr3
      refine ev_z_ne (t := 78) k211_56 rfl (by omega) (by omega) (fun h4 => ?_) (fun h4 => ?_)
      · refine ev_s1 (L' := [some (vr 0), some (vi ((g : Int) + 1)), some (vi i0)]) (S' := []) k211_78 rfl rfl ?_
        refine ev_goto (t := 2) k211_81 rfl ?_
        exact ih J (g + 1) _ hJ (by omega) (by omega) (by rw [sdV, if_neg (by omega)]; exact hv8) hF0
      · refine ev_s1 (L' := [some (vr 0), some (vi (g : Int)), some (vi i0)]) (S' := [vi i0]) k211_59 rfl rfl ?_
        refine ev_s1 (L' := [some (vr 0), some (vi (g : Int)), some (vi i0)]) (S' := [vr 0, vi i0]) k211_60 rfl rfl ?_
        refine ev_getR k211_61 (by decide) (rfl) (y_0_15) ?_
        refine ev_s1 (L' := [some (vr 0), some (vi (g : Int)), some (vi i0)]) (S' := [vi 1, vr 8, vi i0]) k211_64 rfl rfl ?_
        refine ev_iald k211_65 (by decide) (rfl) (by omega) (by omega) ?_
        have rr5 := hJ.1 8 1
        rw [hv8]
        rw [hv8] at rr5
        refine ev_c_ge (t := 78) k211_66 rfl (by omega) (by omega) (by omega) (by omega) (fun h6 => ?_) (fun h6 => ?_)
        · refine ev_s1 (L' := [some (vr 0), some (vi ((g : Int) + 1)), some (vi i0)]) (S' := []) k211_78 rfl rfl ?_
          refine ev_goto (t := 2) k211_81 rfl ?_
          exact ih J (g + 1) _ hJ (by omega) (by omega) (by rw [sdV, if_neg (by omega)]; exact hv8) hF0
        · refine ev_s1 (L' := [some (vr 0), some (vi (g : Int)), some (vi i0)]) (S' := [vr 0]) k211_69 rfl rfl ?_
          refine ev_getR k211_70 (by decide) (rfl) (y_0_15) ?_
          refine ev_s1 (L' := [some (vr 0), some (vi (g : Int)), some (vi i0)]) (S' := [vi (g : Int), vr 8]) k211_73 rfl rfl ?_
          refine ev_s1 (L' := [some (vr 0), some (vi (g : Int)), some (vi i0)]) (S' := [vi i0, vi (g : Int), vr 8]) k211_74 rfl rfl ?_
          refine ev_static (a := [vr 8, vi (g : Int), vi i0]) (S' := []) k211_75 rfl (Nat.le_of_ble_eq_true rfl) (by omega) ?_
          refine m_puts hJ (k := 8) (by decide) (g := (g : Int)) (c := i0) (by omega) (by omega) (by omega) (by omega) (by rw [hv8]; exact (hv.2.2.2.1 i0 (by omega) (by omega))) (by rw [hv8]; exact (hv.2.2.2.2.1 (g : Int) (by omega) (by omega)).1) (by rw [hv8]; exact (hv.2.2.2.2.1 (g : Int) (by omega) (by omega)).2.1) (by omega) (fun J7 hJ7 w7 f7 => ?_)
          rw [hv8] at w7
          show Ev d 211 78 [some (vr 0), some (vi (g : Int)), some (vi i0)] [] (SM J7) Q
          refine ev_s1 (L' := [some (vr 0), some (vi ((g : Int) + 1)), some (vi i0)]) (S' := []) k211_78 rfl rfl ?_
          refine ev_goto (t := 2) k211_81 rfl ?_
          have fe : freW (sdV u g) = i0 := by omega
          exact ih J7 (g + 1) _ hJ7 (by omega) (by omega) (by rw [w7, sdV, if_pos ⟨by omega, by omega⟩, fe]) (fun a a8 => ((f7 a (by assumption)).trans (hF0 a a8)))
      

set_option maxHeartbeats 1000000 in
theorem m_sitDown {d : Nat} {J : Nat → Int → Int} {Q : Option jV → jS → Prop} (hJ : RZ J) {u : Int → Int} {G : Int} (hu8 : J 8 = u) (hu : OKW u) (hG : u 2 = G) (hd : 4 ≤ d) (hQ : ∀ J', RZ J' → J' 8 = sdV u G.toNat → (∀ a, a ≠ 8 → J' a = J a) → Q none (SM J')) : Cl d 211 [vr 0] (SM J) Q := by
  refine ⟨by rw [l211]; exact Nat.le_of_ble_eq_true rfl, ?_⟩
  rw [l211]
  show Ev d 211 0 [some (vr 0), none, none] [] (SM J) Q
  refine ev_s1 (L' := [some (vr 0), none, none]) (S' := [vi 0]) k211_0 rfl rfl ?_
  refine ev_s1 (L' := [some (vr 0), some (vi 0), none]) (S' := []) k211_1 rfl rfl ?_
  exact m_sdl (K := J) hu hG hd hQ 6 J 0 none hJ (by have := hu.2.2.1; omega) (by have := hu.2.2.1; omega) hu8 (fun _ _ => rfl)
