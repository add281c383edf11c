/-- the reader's state: the tape says T (z letters), the place, the mistake -/
def RS (I : Nat → Int → Int) (T : Int → Int) (z p μ : Int) : Prop := Rg I ∧ tapF I = T ∧ I 25 1 = z ∧ I 24 3 = p ∧ I 24 4 = μ
theorem RS.fr {I J : Nat → Int → Int} {T : Int → Int} {z p μ p2 μ2 : Int} (h : RS I T z p μ) (hJ : Rg J) (h3 : J 24 3 = p2) (h4 : J 24 4 = μ2) (hf : ∀ (a : Nat) (b : Int), a = 25 ∨ a = 26 → J a b = I a b) : RS J T z p2 μ2 := by
  refine ⟨hJ, ?_, (hf 25 1 (Or.inl rfl)).trans h.2.2.1, h3, h4⟩
  rw [← h.2.1]
  funext i
  unfold tapF
  rw [hf 25 1 (Or.inl rfl), hf 26 i (Or.inr rfl)]
theorem RS.t_rg {I : Nat → Int → Int} {T : Int → Int} {z p μ : Int} (h : RS I T z p μ) (q : Int) : -2147483648 ≤ T q ∧ T q < 2147483648 := by
  rw [← h.2.1]
  exact tap_rg h.1 q
theorem RS.end {I : Nat → Int → Int} {T : Int → Int} {z p μ q : Int} (h : RS I T z p μ) (hq : T q ≠ -1) : q < z := by
  rw [← h.2.2.1]
  rw [← h.2.1] at hq
  exact tap_end hq
theorem RS.sg {I : Nat → Int → Int} {T : Int → Int} {z p μ s : Int} (h : RS I T z p μ) (hs : s ≠ -1) {q ν : Int} (p0 : 0 ≤ q) (p1 : q ≤ z) (m0 : 0 ≤ ν) (m1 : ν ≤ 3) : (0 ≤ sgP T q ν s ∧ sgP T q ν s ≤ z) ∧ 0 ≤ sgM T q ν s ∧ sgM T q ν s ≤ 3 := by
  have e := h.2.2.1
  have e2 := h.2.1
  subst e2
  subst e
  exact sg_rng hs p0 p1 m0 m1
theorem RS.nu {I : Nat → Int → Int} {T : Int → Int} {z p μ lo hi : Int} (h : RS I T z p μ) {q ν : Int} (p0 : 0 ≤ q) (p1 : q ≤ z) (m0 : 0 ≤ ν) (m1 : ν ≤ 3) : (0 ≤ nuP T q ν lo hi ∧ nuP T q ν lo hi ≤ z) ∧ 0 ≤ nuM T q ν lo hi ∧ nuM T q ν lo hi ≤ 3 := by
  have e := h.2.2.1
  have e2 := h.2.1
  subst e2
  subst e
  exact nu_rng p0 p1 m0 m1
theorem g_sign {d : Nat} {I : Nat → Int → Int} {ch : Int → Nat} {kd : Nat → Nat} {Q : Option jV → jS → Prop} {T : Int → Int} {z p μ : Int} (h : RS I T z p μ) (z0 : 0 ≤ z) (z1 : z ≤ 100) (p0 : 0 ≤ p) (p1 : p ≤ z) (m0 : 0 ≤ μ) (m1 : μ ≤ 3) (hd : 3 ≤ d) {s : Int} (hs : s ≠ -1) (s0 : -2147483648 ≤ s) (s1 : s < 2147483648) (hQ : ∀ I', RS I' T z (sgP T p μ s) (sgM T p μ s) → (∀ (a : Nat) (b : Int), a ≠ 24 → I' a b = I a b) → Q none (SX I' ch kd)) : Cl d 67 [vr 24, vi s] (SX I ch kd) Q := by
  have e := rdst_id h.2.2.2.1 h.2.2.2.2
  have r := h.sg hs p0 p1 m0 m1
  have key : Cl d 67 [vr 24, vi s] (SX (rdst I p μ) ch kd) Q := by
    refine c_sign h.1 (by rw [h.2.2.1]; exact z0) (by rw [h.2.2.1]; exact z1) p0 (by omega) m0 m1 hd s0 s1 ?_
    rw [h.2.1]
    exact hQ _ (h.fr (rdst_rg h.1 (by omega) (by omega) (by omega) (by omega)) rdst_p rdst_m (fun a b q => rdst_o (by omega))) (fun a b q => rdst_o q)
  rw [e] at key
  exact key
theorem g_number {d : Nat} {I : Nat → Int → Int} {ch : Int → Nat} {kd : Nat → Nat} {Q : Option jV → jS → Prop} {T : Int → Int} {z p μ : Int} (h : RS I T z p μ) (z0 : 0 ≤ z) (z1 : z ≤ 100) (p0 : 0 ≤ p) (p1 : p ≤ z) (m0 : 0 ≤ μ) (m1 : μ ≤ 3) (hd : 3 ≤ d) {lo hi : Int} (l0 : 0 ≤ lo) (l1 : lo ≤ 99) (u0 : 0 ≤ hi) (u1 : hi ≤ 99) (hQ : ∀ I', RS I' T z (nuP T p μ lo hi) (nuM T p μ lo hi) → (∀ (a : Nat) (b : Int), a ≠ 24 → I' a b = I a b) → Q (some (vi (nuV T p μ lo))) (SX I' ch kd)) : Cl d 68 [vr 24, vi lo, vi hi] (SX I ch kd) Q := by
  have e := rdst_id h.2.2.2.1 h.2.2.2.2
  have r := h.nu (lo := lo) (hi := hi) p0 p1 m0 m1
  have key : Cl d 68 [vr 24, vi lo, vi hi] (SX (rdst I p μ) ch kd) Q := by
    refine c_number h.1 (by rw [h.2.2.1]; exact z0) (by rw [h.2.2.1]; exact z1) p0 (by omega) m0 m1 hd l0 l1 u0 u1 ?_
    rw [h.2.1]
    exact hQ _ (h.fr (rdst_rg h.1 (by omega) (by omega) (by omega) (by omega)) rdst_p rdst_m (fun a b q => rdst_o (by omega))) (fun a b q => rdst_o q)
  rw [e] at key
  exact key
theorem g_ahead {d : Nat} {I : Nat → Int → Int} {ch : Int → Nat} {kd : Nat → Nat} {Q : Option jV → jS → Prop} {T : Int → Int} {z p μ : Int} (h : RS I T z p μ) (z0 : 0 ≤ z) (z1 : z ≤ 100) (p0 : 0 ≤ p) (p1 : p ≤ z) (hd : 2 ≤ d) (hQ : Q (some (vi (T p))) (SX I ch kd)) : Cl d 69 [vr 24] (SX I ch kd) Q := by
  have e3 := h.2.2.2.1
  have ez := h.2.2.1
  refine c_ahead h.1 (by omega) (by omega) hd (by omega) (by omega) ?_
  rw [e3, h.2.1]
  exact hQ
theorem g_fail {d : Nat} {I : Nat → Int → Int} {ch : Int → Nat} {kd : Nat → Nat} {Q : Option jV → jS → Prop} {T : Int → Int} {z p μ : Int} (h : RS I T z p μ) {b : Int} (b0 : 1 ≤ b) (b1 : b ≤ 3) (hT : μ = 0 → ∀ I', RS I' T z p b → (∀ (a : Nat) (b : Int), a ≠ 24 → I' a b = I a b) → Q none (SX I' ch kd)) (hF : μ ≠ 0 → Q none (SX I ch kd)) : Cl d 73 [vr 24, vi b] (SX I ch kd) Q := by
  refine c_fail h.1 b0 b1 (fun q => ?_) (fun q => ?_)
  · rw [h.2.2.2.2] at q
    exact hT q _ (h.fr (rg_up h.1 (by omega) (by omega)) ((upN (Or.inr (by decide))).trans h.2.2.2.1) (upE rfl rfl) (fun a c q => upN (Or.inl (by omega)))) (fun a c q => upN (Or.inl q))
  · rw [h.2.2.2.2] at q
    exact hF q
theorem g_chair {d : Nat} {I : Nat → Int → Int} {ch : Int → Nat} {kd : Nat → Nat} {Q : Option jV → jS → Prop} {T : Int → Int} {z p : Int} (h : RS I T z p 0) (z0 : 0 ≤ z) (z1 : z ≤ 100) {n : Int} (p0 : 0 ≤ p) (hk : kindF (T p) ≠ 0) (en : I 29 6 = n) (n0 : 0 ≤ n) (hd : 4 ≤ d)
    (hB : chM T n p ≠ 0 → ∀ I', RS I' T z (chP T n p) (chM T n p) → (∀ (a : Nat) (b : Int), a ≠ 24 → I' a b = I a b) → Q none (SX I' ch kd))
    (hG : chM T n p = 0 → n < 5 → ∀ I' kd', RS I' T z (chP T n p) 0 → I' 29 6 = n + 1 → tolC I' kd' T p n → (∀ (a : Nat) (b : Int), a ≠ 24 → a ≠ dcc n → (a ≠ 29 ∨ b ≠ 6) → I' a b = I a b) → (∀ a, a ≠ dcc n → kd' a = kd a) → Q none (SX I' ch kd')) : Cl d 64 [vr 24] (SX I ch kd) Q := by
  have ez := h.2.2.1
  have et := h.2.1
  subst et
  refine g_readChair h.1 (by omega) (by omega) h.2.2.2.1 h.2.2.2.2 p0 hk en n0 hd (fun q I' r3 r4 r5 r6 => ?_) (fun q q2 I' kd' r3 r4 r5 r6 r7 r8 r9 => ?_)
  · exact hB q I' (h.fr r3 r4 r5 (fun a b s => r6 a b (by omega))) r6
  · exact hG q q2 I' kd' (h.fr r3 r4 r5 (fun a b s => r8 a b (by omega) (by unfold dcc; omega) (by omega))) r6 r7 r8 r9
theorem g_guest {d : Nat} {I : Nat → Int → Int} {ch : Int → Nat} {kd : Nat → Nat} {Q : Option jV → jS → Prop} {T : Int → Int} {z p : Int} (h : RS I T z p 0) (z0 : 0 ≤ z) (z1 : z ≤ 100) {n : Int} (p0 : 0 ≤ p) (pz : p < z) (en : I 29 7 = n) (n0 : 0 ≤ n) (hd : 4 ≤ d)
    (hB : guM T n p ≠ 0 → ∀ I', RS I' T z (guP T n p) (guM T n p) → (∀ (a : Nat) (b : Int), a ≠ 24 → I' a b = I a b) → Q none (SX I' ch kd))
    (hG : guM T n p = 0 → n < 5 → ∀ I', RS I' T z (guP T n p) 0 → I' 29 7 = n + 1 → tolG I' T p n → (∀ (a : Nat) (b : Int), a ≠ 24 → ((a < 31 ∨ 34 < a) ∨ b ≠ n) → (a ≠ 29 ∨ b ≠ 7) → I' a b = I a b) → Q none (SX I' ch kd)) : Cl d 66 [vr 24] (SX I ch kd) Q := by
  have ez := h.2.2.1
  have et := h.2.1
  subst et
  refine g_readGuest h.1 (by omega) (by omega) h.2.2.2.1 h.2.2.2.2 p0 (by omega) en n0 hd (fun q I' r3 r4 r5 r6 => ?_) (fun q q2 I' r3 r4 r5 r6 r7 r8 => ?_)
  · exact hB q I' (h.fr r3 r4 r5 (fun a b s => r6 a b (by omega))) r6
  · exact hG q q2 I' (h.fr r3 r4 r5 (fun a b s => r8 a b (by omega) (by omega) (by omega))) r6 r7 r8
theorem RS.ch {I : Nat → Int → Int} {T : Int → Int} {z p μ n q : Int} (h : RS I T z p μ) (p0 : 0 ≤ q) (p1 : q < z) : 0 ≤ chP T n q ∧ chP T n q ≤ z ∧ 0 ≤ chM T n q ∧ chM T n q ≤ 3 := by
  have e := h.2.2.1
  have e2 := h.2.1
  subst e2
  subst e
  exact ch_rng p0 p1
theorem RS.gu {I : Nat → Int → Int} {T : Int → Int} {z p μ n q : Int} (h : RS I T z p μ) (p0 : 0 ≤ q) (p1 : q < z) : 0 ≤ guP T n q ∧ guP T n q ≤ z ∧ 0 ≤ guM T n q ∧ guM T n q ≤ 3 := by
  have e := h.2.2.1
  have e2 := h.2.1
  subst e2
  subst e
  exact gu_rng p0 p1
/-- the chairs, the guests that follow from a place on: where it ends, what is wrong, how many were told -/
def chR (T : Int → Int) : Nat → Int → Int → Int × Int × Int
  | 0, p, n => (p, 0, n)
  | f + 1, p, n => if kindF (T p) = 0 then (p, 0, n) else if chM T n p = 0 then chR T f (chP T n p) (n + 1) else (chP T n p, chM T n p, n)
def guR (T : Int → Int) : Nat → Int → Int → Int × Int × Int
  | 0, p, n => (p, 0, n)
  | f + 1, p, n => if T p ≠ 122 then (p, 0, n) else if guM T n p = 0 then guR T f (guP T n p) (n + 1) else (guP T n p, guM T n p, n)
/-- kinds but the draft's are kept, and the draft's are kinds still -/
def KF (kd kd' : Nat → Nat) : Prop := (∀ a, (a < 35 ∨ 39 < a) → kd' a = kd a) ∧ ((∀ a, 35 ≤ a → a ≤ 39 → 8 ≤ kd a ∧ kd a ≤ 12) → ∀ a, 35 ≤ a → a ≤ 39 → 8 ≤ kd' a ∧ kd' a ≤ 12)
theorem KF.refl (kd : Nat → Nat) : KF kd kd := ⟨fun _ _ => rfl, fun h => h⟩
def pcs (T : Int → Int) (p : Int) : Nat → Int
  | 0 => p
  | i + 1 => chP T i (pcs T p i)
def pgs (T : Int → Int) (p : Int) : Nat → Int
  | 0 => p
  | i + 1 => guP T i (pgs T p i)

theorem nu_vrg {I : Nat → Int → Int} {T : Int → Int} {z p μ q ν lo : Int} (h : RS I T z p μ) (l0 : 0 ≤ lo) (l1 : lo ≤ 99) : -100000 ≤ nuV T q ν lo ∧ nuV T q ν lo ≤ 100000 := by
  have k : ∀ q, ¬ figB (T q) = false → 48 ≤ T q ∧ T q ≤ 57 := by
    intro q hq
    simp only [figB, Bool.not_eq_false, Bool.and_eq_true, decide_eq_true_eq] at hq
    exact hq
  have k0 := k q
  have k1 := k (q + 1)
  have k2 := k (q + 2)
  unfold nuV nmV
  repeat' split
  all_goals (try have k0 := k0 (by assumption))
  all_goals (try have k1 := k1 (by assumption))
  all_goals (try have k2 := k2 (by assumption))
  all_goals omega
def lP1 (T : Int → Int) : Int := sgP T 0 0 97
def lM1 (T : Int → Int) : Int := sgM T 0 0 97
def lP2 (T : Int → Int) : Int := nuP T (lP1 T) (lM1 T) 0 9
def lM2 (T : Int → Int) : Int := nuM T (lP1 T) (lM1 T) 0 9
def lV (T : Int → Int) : Int := nuV T (lP1 T) (lM1 T) 0
def lP3 (T : Int → Int) : Int := sgP T (lP2 T) (lM2 T) 59
def lM3 (T : Int → Int) : Int := sgM T (lP2 T) (lM2 T) 59

set_option maxHeartbeats 1000000 in
theorem g_readLaw {d : Nat} {I : Nat → Int → Int} {ch : Int → Nat} {kd : Nat → Nat} {Q : Option jV → jS → Prop} {T : Int → Int} {z : Int} (h : RS I T z 0 0) (z0 : 0 ≤ z) (z1 : z ≤ 100) (hd : 4 ≤ d) (hQ : ∀ I', RS I' T z (lP3 T) (lM3 T) → I' 29 8 = lV T → (∀ (a : Nat) (b : Int), (a ≠ 24 ∧ (a ≠ 29 ∨ b ≠ 8)) → I' a b = I a b) → Q none (SX I' ch kd)) : Cl d 62 [vr 24] (SX I ch kd) Q := by
  refine ⟨by rw [l62]; exact Nat.le_of_ble_eq_true rfl, ?_⟩
  rw [l62]
  show Ev d 62 0 [some (vr 24)] [] (SX I ch kd) Q
  refine ev_s1 (L' := [some (vr 24)]) (S' := [vr 24]) k62_0 rfl rfl ?_
  refine ev_s1 (L' := [some (vr 24)]) (S' := [vi 97, vr 24]) k62_1 rfl rfl ?_
  refine ev_virt (a := [vi 97]) (S' := []) k62_3 rfl (Nat.le_of_ble_eq_true rfl) (by decide) (rfl) (by omega) ?_
  refine g_sign h z0 z1 (by omega) (by omega) (by omega) (by omega) (by omega) (s := 97) (by decide) (by decide) (by decide) (fun I1 h1 f1 => ?_)
  have r1 := h.sg (s := 97) (by decide) (q := 0) (ν := 0) (by omega) (by omega) (by omega) (by omega)
  show Ev d 62 6 [some (vr 24)] [] (SX I1 ch kd) Q
  refine ev_s1 (L' := [some (vr 24)]) (S' := [vr 24]) k62_6 rfl rfl ?_
  refine ev_getR k62_7 (by decide) (rfl) (x_24_2 ch kd) ?_
  refine ev_s1 (L' := [some (vr 24)]) (S' := [vr 24, vr 29]) k62_10 rfl rfl ?_
  refine ev_s1 (L' := [some (vr 24)]) (S' := [vi 0, vr 24, vr 29]) k62_11 rfl rfl ?_
  refine ev_s1 (L' := [some (vr 24)]) (S' := [vi 9, vi 0, vr 24, vr 29]) k62_12 rfl rfl ?_
  refine ev_virt (a := [vi 0, vi 9]) (S' := [vr 29]) k62_14 rfl (Nat.le_of_ble_eq_true rfl) (by decide) (rfl) (by omega) ?_
  refine g_number h1 z0 z1 (by omega) (by omega) (by omega) (by omega) (by omega) (lo := 0) (hi := 9) (by decide) (by decide) (by decide) (by decide) (fun I2 h2 f2 => ?_)
  have r2 := h1.nu (lo := 0) (hi := 9) (q := sgP T 0 0 97) (ν := sgM T 0 0 97) (by omega) (by omega) (by omega) (by omega)
  show Ev d 62 17 [some (vr 24)] [vi (nuV T (sgP T 0 0 97) (sgM T 0 0 97) 0), vr 29] (SX I2 ch kd) Q
  have vrn := nu_vrg (q := sgP T 0 0 97) (ν := sgM T 0 0 97) (lo := 0) h (by decide) (by decide)
  refine ev_putI k62_17 (by decide) (rfl) ?_
  show Ev d 62 20 [some (vr 24)] [] (SX (up I2 29 8 (nuV T (sgP T 0 0 97) (sgM T 0 0 97) 0)) ch kd) Q
  have hI3 := rg_up h2.1 (k := 29) (j := 8) (z := nuV T (sgP T 0 0 97) (sgM T 0 0 97) 0) (by omega) (by omega)
  generalize hE3 : up I2 29 8 (nuV T (sgP T 0 0 97) (sgM T 0 0 97) 0) = I3 at hI3 ⊢
  have g3 : ∀ (a : Nat) (b : Int), (a ≠ 29 ∨ b ≠ 8) → I3 a b = I2 a b := fun a b h => by rw [← hE3]; exact upN h
  have e3 : I3 29 8 = nuV T (sgP T 0 0 97) (sgM T 0 0 97) 0 := by rw [← hE3]; exact upE rfl rfl
  clear hE3
  have h_ := h2.fr hI3 ((g3 24 3 (Or.inl (by decide))).trans h2.2.2.2.1) ((g3 24 4 (Or.inl (by decide))).trans h2.2.2.2.2) (fun a b q => g3 a b (Or.inl (by omega)))
  refine ev_s1 (L' := [some (vr 24)]) (S' := [vr 24]) k62_20 rfl rfl ?_
  refine ev_s1 (L' := [some (vr 24)]) (S' := [vi 59, vr 24]) k62_21 rfl rfl ?_
  refine ev_virt (a := [vi 59]) (S' := []) k62_23 rfl (Nat.le_of_ble_eq_true rfl) (by decide) (rfl) (by omega) ?_
  refine g_sign h_ z0 z1 (by omega) (by omega) (by omega) (by omega) (by omega) (s := 59) (by decide) (by decide) (by decide) (fun I4 h4 f4 => ?_)
  have r4 := h_.sg (s := 59) (by decide) (q := nuP T (sgP T 0 0 97) (sgM T 0 0 97) 0 9) (ν := nuM T (sgP T 0 0 97) (sgM T 0 0 97) 0 9) (by omega) (by omega) (by omega) (by omega)
  show Ev d 62 26 [some (vr 24)] [] (SX I4 ch kd) Q
  refine ev_return k62_26 ?_
  exact hQ _ h4 ((f4 29 8 (by decide)).trans (e3)) (fun a b hf => ((f4 a b (by omega)).trans ((g3 a b (by omega)).trans ((f2 a b (by omega)).trans (f1 a b (by omega))))))

set_option maxHeartbeats 1000000 in
theorem x_chairs {d : Nat} {I : Nat → Int → Int} {ch : Int → Nat} {kd : Nat → Nat} {Q : Option jV → jS → Prop} {T : Int → Int} {z p μ i : Int} (h : RS I T z p μ) (hμ : μ ≠ 0) (m0 : 0 ≤ μ) (m1 : μ ≤ 3) (i0 : 0 ≤ i) (i1 : i ≤ 10) (hE : Ev d 63 34 [some (vr 24), some (vi i)] [] (SX I ch kd) Q) : Ev d 63 2 [some (vr 24), some (vi i)] [] (SX I ch kd) Q := by
  refine ev_s1 (L' := [some (vr 24), some (vi i)]) (S' := [vi i]) k63_2 rfl rfl ?_
  refine ev_s1 (L' := [some (vr 24), some (vi i)]) (S' := [vi 5, vi i]) k63_3 rfl rfl ?_
  refine ev_c_gt (t := 34) k63_4 rfl (by omega) (by omega) (by omega) (by omega) (fun h1 => ?_) (fun h1 => ?_)
  · exact hE
  · refine ev_s1 (L' := [some (vr 24), some (vi i)]) (S' := [vr 24]) k63_7 rfl rfl ?_
    refine ev_getI k63_8 (by decide) (rfl) ?_
    show Ev d 63 11 [some (vr 24), some (vi i)] [vi (I 24 4)] (SX I ch kd) Q
    have rr2 := h.1 24 4
    rw [h.2.2.2.2]
    rw [h.2.2.2.2] at rr2
    refine ev_z_ne (t := 34) k63_11 rfl (by omega) (by omega) (fun h3 => ?_) (fun h3 => ?_)
    · exact hE
    · exfalso; omega

set_option maxHeartbeats 1000000 in
theorem l_chairs {d : Nat} {J : Nat → Int → Int} {ch : Int → Nat} {kdJ : Nat → Nat} {Q : Option jV → jS → Prop} {T : Int → Int} {z q : Int} (z0 : 0 ≤ z) (z1 : z ≤ 100) (hd : 5 ≤ d) (hE : ∀ (I' : Nat → Int → Int) (kd' : Nat → Nat) (p' μ' n' i' : Int), chR T 6 q 0 = (p', μ', n') → RS I' T z p' μ' → 0 ≤ p' → p' ≤ z → 0 ≤ μ' → μ' ≤ 3 → 0 ≤ n' → n' ≤ 5 → I' 29 6 = n' → (∀ j : Nat, (j : Int) < n' → tolC I' kd' T (pcs T q j) j) → (∀ (a : Nat) (b : Int), (a ≠ 24 ∧ (a < 35 ∨ 39 < a) ∧ (a ≠ 29 ∨ b ≠ 6)) → I' a b = J a b) → KF kdJ kd' → Ev d 63 34 [some (vr 24), some (vi i')] [] (SX I' ch kd') Q) : ∀ (n i : Nat) (p : Int) (I : Nat → Int → Int) (kd : Nat → Nat), i + n = 6 → i ≤ 5 → RS I T z p 0 → 0 ≤ p → p ≤ z → I 29 6 = (i : Int) → p = pcs T q i → (∀ j : Nat, j < i → tolC I kd T (pcs T q j) j) → (∀ (a : Nat) (b : Int), (a ≠ 24 ∧ (a < 35 ∨ 39 < a) ∧ (a ≠ 29 ∨ b ≠ 6)) → I a b = J a b) → KF kdJ kd → chR T 6 q 0 = chR T n p i → Ev d 63 2 [some (vr 24), some (vi (i : Int))] [] (SX I ch kd) Q := by
  intro n
  induction n with
  | zero => intro i p I kd h1 h2; exfalso; omega
  | succ n ih =>
    intro i p I kd hi hi5 h p0 p1 hn6 hp hC hF hK hR
    refine ev_s1 (L' := [some (vr 24), some (vi (i : Int))]) (S' := [vi (i : Int)]) k63_2 rfl rfl ?_
    refine ev_s1 (L' := [some (vr 24), some (vi (i : Int))]) (S' := [vi 5, vi (i : Int)]) k63_3 rfl rfl ?_
    refine ev_c_gt (t := 34) k63_4 rfl (by omega) (by omega) (by omega) (by omega) (fun h1 => ?_) (fun h1 => ?_)
    · exfalso; omega
    · refine ev_s1 (L' := [some (vr 24), some (vi (i : Int))]) (S' := [vr 24]) k63_7 rfl rfl ?_
      refine ev_getI k63_8 (by decide) (rfl) ?_
      show Ev d 63 11 [some (vr 24), some (vi (i : Int))] [vi (I 24 4)] (SX I ch kd) Q
      have rr2 := h.1 24 4
      rw [h.2.2.2.2]
      rw [h.2.2.2.2] at rr2
      refine ev_z_ne (t := 34) k63_11 rfl (by omega) (by omega) (fun h => absurd h (by decide)) (fun _ => ?_)
      refine ev_s1 (L' := [some (vr 24), some (vi (i : Int))]) (S' := [vr 24]) k63_14 rfl rfl ?_
      refine ev_virt (a := []) (S' := []) k63_15 rfl (Nat.le_of_ble_eq_true rfl) (by decide) (rfl) (by omega) ?_
      refine g_ahead h z0 z1 (by omega) (by omega) (by omega) (?_)
      have tr15 := h.t_rg p
      show Ev d 63 18 [some (vr 24), some (vi (i : Int))] [vi (T p)] (SX I ch kd) Q
      refine ev_static (a := [vi (T p)]) (S' := []) k63_18 rfl (Nat.le_of_ble_eq_true rfl) (by omega) ?_
      refine c_kindBy h.1 (b := T p) (by omega) (by omega) (?_)
      have kr18 := kind_rng (T p)
      show Ev d 63 21 [some (vr 24), some (vi (i : Int))] [vi (kindF (T p))] (SX I ch kd) Q
      refine ev_z_eq (t := 34) k63_21 rfl (by omega) (by omega) (fun h3 => ?_) (fun h3 => ?_)
      · exact hE I kd p 0 i _ (by rw [hR, chR, if_pos (by omega)]) h p0 p1 (by decide) (by decide) (by omega) (by omega) hn6 (fun j hj => hC j (by omega)) hF hK
      · refine ev_s1 (L' := [some (vr 24), some (vi (i : Int))]) (S' := [vr 24]) k63_24 rfl rfl ?_
        refine ev_virt (a := []) (S' := []) k63_25 rfl (Nat.le_of_ble_eq_true rfl) (by decide) (rfl) (by omega) ?_
        refine g_chair h z0 z1 (n := (i : Int)) (by omega) (by omega) hn6 (by omega) (by omega) (fun q1 I4 h4 f4 => ?_) (fun q1 q2 I4 kd4 h4 n4 t4 f4 k4 => ?_)
        · show Ev d 63 28 [some (vr 24), some (vi (i : Int))] [] (SX I4 ch kd) Q
          refine ev_s1 (L' := [some (vr 24), some (vi ((i : Int) + 1))]) (S' := []) k63_28 rfl rfl ?_
          refine ev_goto (t := 2) k63_31 rfl ?_
          have pz := h.end (kind_tap (show kindF (T p) ≠ 0 by omega))
          have rr := h.ch (n := i) p0 pz
          refine x_chairs h4 q1 (by omega) (by omega) (by omega) (by omega) ?_
          refine hE I4 kd (chP T i p) (chM T i p) i _ ?_ h4 (by omega) (by omega) (by omega) (by omega) (by omega) (by omega) ((f4 29 6 (by decide)).trans hn6) (fun j hj => ?_) (fun a b hf => (f4 a b (by omega)).trans (hF a b hf)) hK
          · rw [hR, chR, if_neg (by omega), if_neg q1]
          · obtain ⟨t1, t2, t3, t4, t5, t6⟩ := hC j (by omega)
            have hd5 : dcc (j : Int) ≠ 24 := by unfold dcc; omega
            exact ⟨t1, (f4 _ _ hd5).trans t2, (f4 _ _ hd5).trans t3, (f4 _ _ hd5).trans t4, (f4 _ _ hd5).trans t5, (f4 _ _ hd5).trans t6⟩
        · show Ev d 63 28 [some (vr 24), some (vi (i : Int))] [] (SX I4 ch kd4) Q
          refine ev_s1 (L' := [some (vr 24), some (vi ((i : Int) + 1))]) (S' := []) k63_28 rfl rfl ?_
          refine ev_goto (t := 2) k63_31 rfl ?_
          have pz := h.end (kind_tap (show kindF (T p) ≠ 0 by omega))
          have rr := h.ch (n := i) p0 pz
          have hdi : dcc (i : Int) = 35 + i := by unfold dcc; omega
          refine ih (i + 1) (chP T i p) I4 kd4 (by omega) (by omega) h4 (by omega) (by omega) (by rw [n4]; omega) ?_ (fun j hj => ?_) (fun a b hf => (f4 a b (by omega) (by omega) (by omega)).trans (hF a b hf)) ⟨fun a ha => (k4 a (by omega)).trans (hK.1 a ha), fun hq a a0 a1 => by by_cases e : a = dcc (i : Int); (rw [e, t4.1]; have := kind_rng (T p); omega); (rw [k4 a e]; exact hK.2 hq a a0 a1)⟩ ?_
          · rw [pcs, ← hp]
          · rcases Nat.lt_or_ge j i with q | q
            · obtain ⟨t1, t2, t3, t4, t5, t6⟩ := hC j q
              have hd5 : dcc (j : Int) = 35 + j := by unfold dcc; omega
              exact ⟨(k4 _ (by omega)).trans t1, (f4 _ _ (by omega) (by omega) (by omega)).trans t2, (f4 _ _ (by omega) (by omega) (by omega)).trans t3, (f4 _ _ (by omega) (by omega) (by omega)).trans t4, (f4 _ _ (by omega) (by omega) (by omega)).trans t5, (f4 _ _ (by omega) (by omega) (by omega)).trans t6⟩
            · rw [show j = i by omega, ← hp]; exact t4
          · rw [hR, chR, if_neg (by omega), if_pos q1]; rfl

/-- the chairs with what is wrong if there is none -/
def paC2 (T : Int → Int) (p : Int) : Int × Int × Int := match chR T 6 p 0 with
  | (p', μ', n') => (p', if μ' = 0 ∧ n' = 0 then 1 else μ', n')

set_option maxHeartbeats 1000000 in
theorem g_readChairs {d : Nat} {I : Nat → Int → Int} {ch : Int → Nat} {kd : Nat → Nat} {Q : Option jV → jS → Prop} {T : Int → Int} {z p μ : Int} (h : RS I T z p μ) (z0 : 0 ≤ z) (z1 : z ≤ 100) (p0 : 0 ≤ p) (p1 : p ≤ z) (m0 : 0 ≤ μ) (m1 : μ ≤ 3) (hn6 : I 29 6 = ((0 : Nat) : Int)) (hd : 5 ≤ d) (hN : μ ≠ 0 → Q none (SX I ch kd)) (hY : μ = 0 → ∀ (I' : Nat → Int → Int) (kd' : Nat → Nat), RS I' T z (paC2 T p).1 (paC2 T p).2.1 → 0 ≤ (paC2 T p).1 → (paC2 T p).1 ≤ z → 0 ≤ (paC2 T p).2.1 → (paC2 T p).2.1 ≤ 3 → 0 ≤ (paC2 T p).2.2 → (paC2 T p).2.2 ≤ 5 → I' 29 6 = (paC2 T p).2.2 → (∀ j : Nat, (j : Int) < (paC2 T p).2.2 → tolC I' kd' T (pcs T p j) j) → (∀ (a : Nat) (b : Int), (a ≠ 24 ∧ (a < 35 ∨ 39 < a) ∧ (a ≠ 29 ∨ b ≠ 6)) → I' a b = I a b) → KF kd kd' → Q none (SX I' ch kd')) : Cl d 63 [vr 24] (SX I ch kd) Q := by
  have hE0 : μ = 0 → ∀ (I' : Nat → Int → Int) (kd' : Nat → Nat) (p' μ' n' i' : Int), chR T 6 p 0 = (p', μ', n') → RS I' T z p' μ' → 0 ≤ p' → p' ≤ z → 0 ≤ μ' → μ' ≤ 3 → 0 ≤ n' → n' ≤ 5 → I' 29 6 = n' → (∀ j : Nat, (j : Int) < n' → tolC I' kd' T (pcs T p j) j) → (∀ (a : Nat) (b : Int), (a ≠ 24 ∧ (a < 35 ∨ 39 < a) ∧ (a ≠ 29 ∨ b ≠ 6)) → I' a b = I a b) → KF kd kd' → Ev d 63 34 [some (vr 24), some (vi i')] [] (SX I' ch kd') Q := by
    intro hμ I' kd' p' μ' n' i' e7 h7 s1 s2 s3 s4 s5 s6 hn hC hF hK
    subst hμ
    refine ev_s1 (L' := [some (vr 24), some (vi i')]) (S' := [vr 24]) k63_34 rfl rfl ?_
    refine ev_getR k63_35 (by decide) (rfl) (x_24_2 ch kd') ?_
    refine ev_getI k63_38 (by decide) (rfl) ?_
    show Ev d 63 41 [some (vr 24), some (vi i')] [vi (I' 29 6)] (SX I' ch kd') Q
    have rr1 := h7.1 29 6
    rw [hn]
    rw [hn] at rr1
    refine ev_z_ne (t := 49) k63_41 rfl (by omega) (by omega) (fun h2 => ?_) (fun h2 => ?_)
    · refine ev_return k63_49 ?_
      have g2 : (paC2 T p).2.1 = μ' := by unfold paC2; rw [e7]; exact if_neg (by omega)
      exact hY rfl I' kd' (by rw [show (paC2 T p).1 = p' by unfold paC2; rw [e7], g2]; exact h7) (by rw [show (paC2 T p).1 = p' by unfold paC2; rw [e7]]; omega) (by rw [show (paC2 T p).1 = p' by unfold paC2; rw [e7]]; omega) (by rw [g2]; omega) (by rw [g2]; omega) (by rw [show (paC2 T p).2.2 = n' by unfold paC2; rw [e7]]; omega) (by rw [show (paC2 T p).2.2 = n' by unfold paC2; rw [e7]]; omega) (by rw [show (paC2 T p).2.2 = n' by unfold paC2; rw [e7]]; exact hn) (by rw [show (paC2 T p).2.2 = n' by unfold paC2; rw [e7]]; exact hC) hF hK
    · refine ev_s1 (L' := [some (vr 24), some (vi i')]) (S' := [vr 24]) k63_44 rfl rfl ?_
      refine ev_s1 (L' := [some (vr 24), some (vi i')]) (S' := [vi 1, vr 24]) k63_45 rfl rfl ?_
      refine ev_virt (a := [vi 1]) (S' := []) k63_46 rfl (Nat.le_of_ble_eq_true rfl) (by decide) (rfl) (by omega) ?_
      refine g_fail h7 (b := 1) (by decide) (by decide) (fun q1 I3 h3 f3 => ?_) (fun q1 => ?_)
      · show Ev d 63 49 [some (vr 24), some (vi i')] [] (SX I3 ch kd') Q
        refine ev_return k63_49 ?_
        have g2 : (paC2 T p).2.1 = 1 := by unfold paC2; rw [e7]; exact if_pos (by omega)
        exact hY rfl I3 kd' (by rw [show (paC2 T p).1 = p' by unfold paC2; rw [e7], g2]; exact h3) (by rw [show (paC2 T p).1 = p' by unfold paC2; rw [e7]]; omega) (by rw [show (paC2 T p).1 = p' by unfold paC2; rw [e7]]; omega) (by rw [g2]; omega) (by rw [g2]; omega) (by rw [show (paC2 T p).2.2 = n' by unfold paC2; rw [e7]]; omega) (by rw [show (paC2 T p).2.2 = n' by unfold paC2; rw [e7]]; omega) (by rw [show (paC2 T p).2.2 = n' by unfold paC2; rw [e7]]; exact (f3 29 6 (by decide)).trans hn) (by rw [show (paC2 T p).2.2 = n' by unfold paC2; rw [e7]]; exact fun j hj => absurd hj (by omega)) (fun a b hf => (f3 a b (by omega)).trans (hF a b hf)) hK
      · show Ev d 63 49 [some (vr 24), some (vi i')] [] (SX I' ch kd') Q
        refine ev_return k63_49 ?_
        have g2 : (paC2 T p).2.1 = μ' := by unfold paC2; rw [e7]; exact if_neg (by omega)
        exact hY rfl I' kd' (by rw [show (paC2 T p).1 = p' by unfold paC2; rw [e7], g2]; exact h7) (by rw [show (paC2 T p).1 = p' by unfold paC2; rw [e7]]; omega) (by rw [show (paC2 T p).1 = p' by unfold paC2; rw [e7]]; omega) (by rw [g2]; omega) (by rw [g2]; omega) (by rw [show (paC2 T p).2.2 = n' by unfold paC2; rw [e7]]; omega) (by rw [show (paC2 T p).2.2 = n' by unfold paC2; rw [e7]]; omega) (by rw [show (paC2 T p).2.2 = n' by unfold paC2; rw [e7]]; exact hn) (by rw [show (paC2 T p).2.2 = n' by unfold paC2; rw [e7]]; exact hC) hF hK
  refine ⟨by rw [l63]; exact Nat.le_of_ble_eq_true rfl, ?_⟩
  rw [l63]
  show Ev d 63 0 [some (vr 24), none] [] (SX I ch kd) Q
  refine ev_s1 (L' := [some (vr 24), none]) (S' := [vi 0]) k63_0 rfl rfl ?_
  refine ev_s1 (L' := [some (vr 24), some (vi 0)]) (S' := []) k63_1 rfl rfl ?_
  by_cases hμ : μ = 0
  · subst hμ
    refine l_chairs (J := I) (kdJ := kd) (q := p) z0 z1 (by omega) (hE0 rfl) 6 0 p I kd (by decide) (by decide) h p0 p1 hn6 rfl (fun j hj => absurd hj (Nat.not_lt_zero j)) (fun _ _ _ => rfl) (KF.refl _) rfl
  · refine x_chairs h hμ m0 m1 (by decide) (by decide) ?_
    have hn : μ ≠ 0 := hμ
    refine ev_s1 (L' := [some (vr 24), some (vi 0)]) (S' := [vr 24]) k63_34 rfl rfl ?_
    refine ev_getR k63_35 (by decide) (rfl) (x_24_2 ch kd) ?_
    refine ev_getI k63_38 (by decide) (rfl) ?_
    show Ev d 63 41 [some (vr 24), some (vi 0)] [vi (I 29 6)] (SX I ch kd) Q
    have rr1 := h.1 29 6
    rw [hn6]
    rw [hn6] at rr1
    refine ev_z_ne (t := 49) k63_41 rfl (by omega) (by omega) (fun h2 => ?_) (fun h2 => ?_)
    · refine ev_return k63_49 ?_
      exact hN hn
    · refine ev_s1 (L' := [some (vr 24), some (vi 0)]) (S' := [vr 24]) k63_44 rfl rfl ?_
      refine ev_s1 (L' := [some (vr 24), some (vi 0)]) (S' := [vi 1, vr 24]) k63_45 rfl rfl ?_
      refine ev_virt (a := [vi 1]) (S' := []) k63_46 rfl (Nat.le_of_ble_eq_true rfl) (by decide) (rfl) (by omega) ?_
      refine g_fail h (b := 1) (by decide) (by decide) (fun q1 I3 h3 f3 => ?_) (fun q1 => ?_)
      · show Ev d 63 49 [some (vr 24), some (vi 0)] [] (SX I3 ch kd) Q
        refine ev_return k63_49 ?_
        exact absurd q1 hn
      · show Ev d 63 49 [some (vr 24), some (vi 0)] [] (SX I ch kd) Q
        refine ev_return k63_49 ?_
        exact hN hn
