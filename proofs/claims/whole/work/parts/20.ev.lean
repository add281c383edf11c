/-! WALKING THE SMALL MACHINE: Ev: from here the method comes to its end with Q; Cl: a call of it does -/
def Ev (d m pc : Nat) (L : jL) (S : List jV) (σ : jS) (Q : Option jV → jS → Prop) : Prop := ∃ (f : Nat) (r : Option jV) (σ' : jS), run f d m pc L S σ = some (r, σ') ∧ Q r σ'
def Cl (d m : Nat) (a : List jV) (σ : jS) (Q : Option jV → jS → Prop) : Prop := szS a ≤ mL m ∧ Ev d m 0 (iniL (mL m) a) [] σ Q
/-- a store in which nothing more is made -/
abbrev ST (n sl : Nat) (sh : Nat → Nat × Nat) (I : Nat → Int → Int) (R : Nat → Int → Option Nat) : jS := (false, n, sl, sh, I, R)
section EV
variable {d m pc : Nat} {L L' : jL} {S S' : List jV} {σ σ' : jS} {Q : Option jV → jS → Prop} {i : Instr} {len : Nat}
theorem ev_s1 (hd : decode (mB m) pc = .ok (i, len)) (hl : lenOk i len = true) (h : s1 (mO m) i L S = some (L', S')) (k : Ev d m (pc + len) L' S' σ Q) : Ev d m pc L S σ Q := by
  obtain ⟨f, r, σ', h1, h2⟩ := k
  refine ⟨f + 1, r, σ', ?_, h2⟩
  unfold run
  simp only [hd, hl, if_true, h]
  exact h1
theorem ev_s2 (hd : decode (mB m) pc = .ok (i, len)) (hl : lenOk i len = true) (h0 : s1 (mO m) i L S = none) (h : s2 (mO m) (isInit m) i S σ = some (S', σ')) (k : Ev d m (pc + len) L S' σ' Q) : Ev d m pc L S σ Q := by
  obtain ⟨f, r, σ1, h1, h2⟩ := k
  refine ⟨f + 1, r, σ1, ?_, h2⟩
  unfold run
  simp only [hd, hl, if_true, h0, h]
  exact h1
theorem ev_s3 {pc' : Nat} (hd : decode (mB m) pc = .ok (i, len)) (hl : lenOk i len = true) (h0 : s1 (mO m) i L S = none) (h1 : s2 (mO m) (isInit m) i S σ = none) (h : s3 i pc len S = some (pc', S')) (k : Ev d m pc' L S' σ Q) : Ev d m pc L S σ Q := by
  obtain ⟨f, r, σ1, g1, h2⟩ := k
  refine ⟨f + 1, r, σ1, ?_, h2⟩
  unfold run
  simp only [hd, hl, if_true, h0, h1, h]
  exact g1
theorem ev_s4 {r : Option jV} (hd : decode (mB m) pc = .ok (i, len)) (hl : lenOk i len = true) (h0 : s1 (mO m) i L S = none) (h1 : s2 (mO m) (isInit m) i S σ = none) (h2 : s3 i pc len S = none) (h : s4 (mR m) i S = some r) (k : Q r σ) : Ev d m pc L S σ Q := by
  refine ⟨1, r, σ, ?_, k⟩
  unfold run
  simp only [hd, hl, if_true, h0, h1, h2, h]
theorem ev_s5 {m' : Nat} {a : List jV} (hd : decode (mB m) pc = .ok (i, len)) (hl : lenOk i len = true) (h0 : s1 (mO m) i L S = none) (h1 : s2 (mO m) (isInit m) i S σ = none) (h2 : s3 i pc len S = none) (h3 : s4 (mR m) i S = none) (h : s5 (mO m) i S σ = some (m', a, S')) (hdp : 0 < d) (k : Cl (d - 1) m' a σ (fun r σ' => Ev d m (pc + 3) L (r.toList ++ S') σ' Q)) : Ev d m pc L S σ Q := by
  obtain ⟨hz, f, r, σ1, g1, f2, r2, σ2, g2, g3⟩ := k
  refine ⟨f + f2 + 1, r2, σ2, ?_, g3⟩
  have e1 := run_le (g := f + f2) (by omega) g1
  have e2 := run_le (g := f + f2) (by omega) g2
  obtain ⟨d, rfl⟩ : ∃ d', d = d' + 1 := ⟨d - 1, by omega⟩
  unfold run
  simp only [hd, hl, if_true, h0, h1, h2, h3, h, hz]
  rw [show d + 1 - 1 = d from rfl] at e1
  rw [e1]
  exact e2
theorem Ev.mono {Q' : Option jV → jS → Prop} (h : Ev d m pc L S σ Q) (hq : ∀ r σ, Q r σ → Q' r σ) : Ev d m pc L S σ Q' := by
  obtain ⟨f, r, σ', h1, h2⟩ := h
  exact ⟨f, r, σ', h1, hq _ _ h2⟩
theorem Cl.mono {a : List jV} {Q' : Option jV → jS → Prop} (h : Cl d m a σ Q) (hq : ∀ r σ, Q r σ → Q' r σ) : Cl d m a σ Q' := ⟨h.1, h.2.mono hq⟩
end EV
section EVS
variable {d m pc n sl : Nat} {sh : Nat → Nat × Nat} {I : Nat → Int → Int} {R : Nat → Int → Option Nat} {L : jL} {S : List jV} {Q : Option jV → jS → Prop}
theorem ev_ldc {ix : Nat} {z : Int} (hd : decode (mB m) pc = .ok (.ldc ix, 2) ∧ tK (mO m) ix = some z) (k : Ev d m (pc + 2) L (vi z :: S) (ST n sl sh I R) Q) : Ev d m pc L S (ST n sl sh I R) Q :=
  ev_s1 hd.1 rfl (by show (tK (mO m) ix).map _ = _; rw [hd.2]; rfl) k
theorem ev_ldcw {ix : Nat} {z : Int} (hd : decode (mB m) pc = .ok (.ldc_w ix, 3) ∧ tK (mO m) ix = some z) (k : Ev d m (pc + 3) L (vi z :: S) (ST n sl sh I R) Q) : Ev d m pc L S (ST n sl sh I R) Q :=
  ev_s1 hd.1 rfl (by show (tK (mO m) ix).map _ = _; rw [hd.2]; rfl) k
theorem ev_ldc2 {ix : Nat} {z : Int} (hd : decode (mB m) pc = .ok (.ldc2_w ix, 3) ∧ tKK (mO m) ix = some z) (k : Ev d m (pc + 3) L (vl z :: S) (ST n sl sh I R) Q) : Ev d m pc L S (ST n sl sh I R) Q :=
  ev_s1 hd.1 rfl (by show (tKK (mO m) ix).map _ = _; rw [hd.2]; rfl) k
theorem ev_idiv {x y : Int} (hd : decode (mB m) pc = .ok (.idiv, 1)) (h0 : 0 ≤ x) (h1 : x < 2147483648) (h2 : 0 < y) (h3 : y < 2147483648) (k : Ev d m (pc + 1) L (vi (x / y) :: S) (ST n sl sh I R) Q) : Ev d m pc L (vi y :: vi x :: S) (ST n sl sh I R) Q :=
  ev_s1 hd rfl (by simp [s1, h0, h1, h2, h3]) k
theorem ev_irem {x y : Int} (hd : decode (mB m) pc = .ok (.irem, 1)) (h0 : 0 ≤ x) (h1 : x < 2147483648) (h2 : 0 < y) (h3 : y < 2147483648) (k : Ev d m (pc + 1) L (vi (x % y) :: S) (ST n sl sh I R) Q) : Ev d m pc L (vi y :: vi x :: S) (ST n sl sh I R) Q :=
  ev_s1 hd rfl (by simp [s1, h0, h1, h2, h3]) k
theorem ev_lrem {x y : Int} (hd : decode (mB m) pc = .ok (.lrem, 1)) (h0 : 0 ≤ x) (h1 : x < 9223372036854775808) (h2 : 0 < y) (h3 : y < 9223372036854775808) (k : Ev d m (pc + 1) L (vl (x % y) :: S) (ST n sl sh I R) Q) : Ev d m pc L (vl y :: vl x :: S) (ST n sl sh I R) Q :=
  ev_s1 hd rfl (by simp [s1, h0, h1, h2, h3]) k
theorem ev_ishl {x y : Int} (hd : decode (mB m) pc = .ok (.ishl, 1)) (h0 : 0 ≤ y) (h1 : y < 32) (k : Ev d m (pc + 1) L (vi (x * 2 ^ y.toNat) :: S) (ST n sl sh I R) Q) : Ev d m pc L (vi y :: vi x :: S) (ST n sl sh I R) Q :=
  ev_s1 hd rfl (by simp [s1, h0, h1]) k
theorem ev_ishr {x y : Int} (hd : decode (mB m) pc = .ok (.ishr, 1)) (h0 : 0 ≤ y) (h1 : y < 32) (k : Ev d m (pc + 1) L (vi (wr x / 2 ^ y.toNat) :: S) (ST n sl sh I R) Q) : Ev d m pc L (vi y :: vi x :: S) (ST n sl sh I R) Q :=
  ev_s1 hd rfl (by simp [s1, h0, h1]) k
theorem ev_iand1 {x : Int} (hd : decode (mB m) pc = .ok (.iand, 1)) (k : Ev d m (pc + 1) L (vi (x % 2) :: S) (ST n sl sh I R) Q) : Ev d m pc L (vi 1 :: vi x :: S) (ST n sl sh I R) Q :=
  ev_s1 hd rfl (by simp [s1]) k
theorem ev_ior {x y : Int} (hd : decode (mB m) pc = .ok (.ior, 1)) (h0 : 0 ≤ x) (h1 : x < 2147483648) (h2 : 0 ≤ y) (h3 : y < 2147483648) (k : Ev d m (pc + 1) L (vi ((x.toNat ||| y.toNat : Nat) : Int) :: S) (ST n sl sh I R) Q) : Ev d m pc L (vi y :: vi x :: S) (ST n sl sh I R) Q :=
  ev_s1 hd rfl (by simp [s1, h0, h1, h2, h3]) k
theorem ev_i2l {x : Int} (hd : decode (mB m) pc = .ok (.i2l, 1)) (h0 : -2147483648 ≤ x) (h1 : x < 2147483648) (k : Ev d m (pc + 1) L (vl x :: S) (ST n sl sh I R) Q) : Ev d m pc L (vi x :: S) (ST n sl sh I R) Q :=
  ev_s1 hd rfl (by simp [s1, inB, h0, h1]) k
theorem ev_getI {ix k c j fin : Nat} (hd : decode (mB m) pc = .ok (.getfield ix, 3) ∧ tF (mO m) ix = some (c, j, 0, fin)) (hk : k < n) (hs : sh k = (c, 0)) (kk : Ev d m (pc + 3) L (vi (I k j) :: S) (ST n sl sh I R) Q) : Ev d m pc L (vr k :: S) (ST n sl sh I R) Q :=
  ev_s2 hd.1 rfl rfl (by simp [s2, hd.2, hk, hs]) kk
theorem ev_getR {ix k c j fin q : Nat} (hd : decode (mB m) pc = .ok (.getfield ix, 3) ∧ tF (mO m) ix = some (c, j, 1, fin)) (hk : k < n) (hs : sh k = (c, 0)) (hr : R k j = some q) (kk : Ev d m (pc + 3) L (vr q :: S) (ST n sl sh I R) Q) : Ev d m pc L (vr k :: S) (ST n sl sh I R) Q :=
  ev_s2 hd.1 rfl rfl (by simp [s2, hd.2, hk, hs, hr]) kk
theorem ev_putI {ix k c j : Nat} {z : Int} (hd : decode (mB m) pc = .ok (.putfield ix, 3) ∧ tF (mO m) ix = some (c, j, 0, 0)) (hk : k < n) (hs : sh k = (c, 0)) (kk : Ev d m (pc + 3) L S (ST n sl sh (up I k j z) R) Q) : Ev d m pc L (vi z :: vr k :: S) (ST n sl sh I R) Q :=
  ev_s2 hd.1 rfl rfl (by simp [s2, hd.2, hk, hs]) kk
theorem ev_putR {ix k c j q : Nat} (hd : decode (mB m) pc = .ok (.putfield ix, 3) ∧ tF (mO m) ix = some (c, j, 1, 0)) (hk : k < n) (hs : sh k = (c, 0)) (kk : Ev d m (pc + 3) L S (ST n sl sh I (up R k j (some q))) Q) : Ev d m pc L (vr q :: vr k :: S) (ST n sl sh I R) Q :=
  ev_s2 hd.1 rfl rfl (by simp [s2, hd.2, hk, hs]) kk
theorem ev_iald {k len : Nat} {x : Int} (hd : decode (mB m) pc = .ok (.iaload, 1)) (hk : k < n) (hs : sh k = (50, len)) (h0 : 0 ≤ x) (h1 : x < len) (kk : Ev d m (pc + 1) L (vi (I k x) :: S) (ST n sl sh I R) Q) : Ev d m pc L (vi x :: vr k :: S) (ST n sl sh I R) Q :=
  ev_s2 hd rfl rfl (by simp [s2, hk, hs, h0, h1]) kk
theorem ev_iast {k len : Nat} {x z : Int} (hd : decode (mB m) pc = .ok (.iastore, 1)) (hk : k < n) (hs : sh k = (50, len)) (h0 : 0 ≤ x) (h1 : x < len) (kk : Ev d m (pc + 1) L S (ST n sl sh (up I k x z) R) Q) : Ev d m pc L (vi z :: vi x :: vr k :: S) (ST n sl sh I R) Q :=
  ev_s2 hd rfl rfl (by simp [s2, hk, hs, h0, h1]) kk
theorem ev_zald {k len : Nat} {x : Int} (hd : decode (mB m) pc = .ok (.baload, 1)) (hk : k < n) (hs : sh k = (51, len)) (h0 : 0 ≤ x) (h1 : x < len) (kk : Ev d m (pc + 1) L (vi (I k x) :: S) (ST n sl sh I R) Q) : Ev d m pc L (vi x :: vr k :: S) (ST n sl sh I R) Q :=
  ev_s2 hd rfl rfl (by simp [s2, hk, hs, h0, h1]) kk
theorem ev_zast {k len : Nat} {x z : Int} (hd : decode (mB m) pc = .ok (.bastore, 1)) (hk : k < n) (hs : sh k = (51, len)) (h0 : 0 ≤ x) (h1 : x < len) (hz : z = 0 ∨ z = 1) (kk : Ev d m (pc + 1) L S (ST n sl sh (up I k x z) R) Q) : Ev d m pc L (vi z :: vi x :: vr k :: S) (ST n sl sh I R) Q :=
  ev_s2 hd rfl rfl (by simp [s2, hk, hs, h0, h1, hz]) kk
theorem ev_aald {k t len q : Nat} {x : Int} (hd : decode (mB m) pc = .ok (.aaload, 1)) (hk : k < n) (hs : sh k = (t, len)) (ht : 52 ≤ t) (ht2 : t ≤ 54) (h0 : 0 ≤ x) (h1 : x < len) (hr : R k x = some q) (kk : Ev d m (pc + 1) L (vr q :: S) (ST n sl sh I R) Q) : Ev d m pc L (vi x :: vr k :: S) (ST n sl sh I R) Q :=
  ev_s2 hd rfl rfl (by simp [s2, hk, hs, h0, h1, hr, ht, ht2]) kk
theorem ev_aast {k t len q ci : Nat} {x : Int} (hd : decode (mB m) pc = .ok (.aastore, 1)) (hk : k < n) (hs : sh k = (t, len)) (hq : q < n) (hs2 : sh q = (ci, 0)) (hci : ci < 12) (ht : 52 ≤ t) (ht2 : t ≤ 54) (hi : tIt ci t = true) (h0 : 0 ≤ x) (h1 : x < len) (kk : Ev d m (pc + 1) L S (ST n sl sh I (up R k x (some q))) Q) : Ev d m pc L (vr q :: vi x :: vr k :: S) (ST n sl sh I R) Q :=
  ev_s2 hd rfl rfl (by simp [s2, hk, hs, hq, hs2, hci, hi, h0, h1, ht, ht2]) kk
theorem ev_len {k t len : Nat} (hd : decode (mB m) pc = .ok (.arraylength, 1)) (hk : k < n) (hs : sh k = (t, len)) (ht : 50 ≤ t) (ht2 : t ≤ 54) (kk : Ev d m (pc + 1) L (vi (len : Nat) :: S) (ST n sl sh I R) Q) : Ev d m pc L (vr k :: S) (ST n sl sh I R) Q :=
  ev_s2 hd rfl rfl (by simp [s2, hk, hs, ht, ht2]) kk
theorem ev_inst {ix k w ci : Nat} {r : Bool} (hd : decode (mB m) pc = .ok (.instanceof ix, 3) ∧ tO (mO m) ix = some w) (hk : k < n) (hs : sh k = (ci, 0)) (hci : ci < 12) (hr : tIn ci w = some r) (kk : Ev d m (pc + 3) L (vi (if r then 1 else 0) :: S) (ST n sl sh I R) Q) : Ev d m pc L (vr k :: S) (ST n sl sh I R) Q :=
  ev_s2 hd.1 rfl rfl (by simp [s2, hd.2, hk, hs, hci, hr]) kk
theorem ev_max {ix : Nat} {x y : Int} (hd : decode (mB m) pc = .ok (.invokestatic ix, 3) ∧ tM (mO m) ix = some 3) (hx : inB x = true) (hy : inB y = true) (hz : szS S ≤ 8) (kk : Ev d m (pc + 3) L (vi (if x < y then y else x) :: S) (ST n sl sh I R) Q) : Ev d m pc L (vi y :: vi x :: S) (ST n sl sh I R) Q :=
  ev_s2 hd.1 rfl rfl (by simp [s2, hd.2, hx, hy, hz]) kk
theorem ev_min {ix : Nat} {x y : Int} (hd : decode (mB m) pc = .ok (.invokestatic ix, 3) ∧ tM (mO m) ix = some 4) (hx : inB x = true) (hy : inB y = true) (hz : szS S ≤ 8) (kk : Ev d m (pc + 3) L (vi (if x < y then x else y) :: S) (ST n sl sh I R) Q) : Ev d m pc L (vi y :: vi x :: S) (ST n sl sh I R) Q :=
  ev_s2 hd.1 rfl rfl (by simp [s2, hd.2, hx, hy, hz]) kk
theorem ev_abs {ix : Nat} {x : Int} (hd : decode (mB m) pc = .ok (.invokestatic ix, 3) ∧ tM (mO m) ix = some 2) (hx : -2147483648 < x) (hy : x < 2147483648) (hz : szS S ≤ 8) (kk : Ev d m (pc + 3) L (vi (if 0 ≤ x then x else -x) :: S) (ST n sl sh I R) Q) : Ev d m pc L (vi x :: S) (ST n sl sh I R) Q :=
  ev_s2 hd.1 rfl rfl (by simp [s2, hd.2, hx, hy, hz]) kk
theorem ev_bit {ix : Nat} {x : Int} (hd : decode (mB m) pc = .ok (.invokestatic ix, 3) ∧ tM (mO m) ix = some 1) (hx : 0 ≤ x) (hy : x < 32) (hz : szS S ≤ 8) (kk : Ev d m (pc + 3) L (vi (bitC x) :: S) (ST n sl sh I R) Q) : Ev d m pc L (vi x :: S) (ST n sl sh I R) Q :=
  ev_s2 hd.1 rfl rfl (by simp [s2, hd.2, hx, hy, hz]) kk
theorem ev_cpy {ix k0 k1 l0 l1 : Nat} {x sp dp : Int} (hd : decode (mB m) pc = .ok (.invokestatic ix, 3) ∧ tM (mO m) ix = some 0) (g0 : k0 < n) (g1 : k1 < n) (t0 : sh k0 = (50, l0)) (t1 : sh k1 = (50, l1)) (h0 : 0 ≤ sp) (h1 : 0 ≤ dp) (h2 : 0 ≤ x) (h3 : sp + x ≤ l0) (h4 : dp + x ≤ l1) (hz : szS S ≤ 8) (kk : Ev d m (pc + 3) L S (ST n sl sh (cpI I k0 k1 sp dp x) R) Q) : Ev d m pc L (vi x :: vi dp :: vr k1 :: vi sp :: vr k0 :: S) (ST n sl sh I R) Q :=
  ev_s2 hd.1 rfl rfl (by simp [s2, hd.2, g0, g1, t0, t1, h0, h1, h2, h3, h4, hz]) kk
theorem ev_goto {off : Int} {t : Nat} (hd : decode (mB m) pc = .ok (.goto off, 3)) (ht : toPc pc off = some t) (kk : Ev d m t L S (ST n sl sh I R) Q) : Ev d m pc L S (ST n sl sh I R) Q :=
  ev_s3 hd rfl rfl rfl (by simp [s3, ht]) kk
theorem ev_if {cd : Jvm.ClassFile.Cond} {off : Int} {t : Nat} {x : Int} (hd : decode (mB m) pc = .ok (.ifCond cd off, 3)) (ht : toPc pc off = some t) (h0 : -2147483648 ≤ x) (h1 : x < 2147483648) (kt : cmpB cd x 0 = true → Ev d m t L S (ST n sl sh I R) Q) (kf : cmpB cd x 0 = false → Ev d m (pc + 3) L S (ST n sl sh I R) Q) : Ev d m pc L (vi x :: S) (ST n sl sh I R) Q := by
  cases hc : cmpB cd x 0
  · exact ev_s3 hd rfl rfl rfl (by simp [s3, ht, inB, h0, h1, hc]) (kf hc)
  · exact ev_s3 hd rfl rfl rfl (by simp [s3, ht, inB, h0, h1, hc]) (kt hc)
theorem ev_icmp {cd : Jvm.ClassFile.Cond} {off : Int} {t : Nat} {x y : Int} (hd : decode (mB m) pc = .ok (.if_icmp cd off, 3)) (ht : toPc pc off = some t) (h0 : -2147483648 ≤ x) (h1 : x < 2147483648) (h2 : -2147483648 ≤ y) (h3 : y < 2147483648) (kt : cmpB cd x y = true → Ev d m t L S (ST n sl sh I R) Q) (kf : cmpB cd x y = false → Ev d m (pc + 3) L S (ST n sl sh I R) Q) : Ev d m pc L (vi y :: vi x :: S) (ST n sl sh I R) Q := by
  cases hc : cmpB cd x y
  · exact ev_s3 hd rfl rfl rfl (by simp [s3, ht, inB, h0, h1, h2, h3, hc]) (kf hc)
  · exact ev_s3 hd rfl rfl rfl (by simp [s3, ht, inB, h0, h1, h2, h3, hc]) (kt hc)
theorem ev_ireturn {x : Int} (hd : decode (mB m) pc = .ok (.ireturn, 1) ∧ mR m = some .int) (kk : Q (some (vi x)) (ST n sl sh I R)) : Ev d m pc L [vi x] (ST n sl sh I R) Q :=
  ev_s4 hd.1 rfl rfl rfl rfl (by rw [hd.2]; rfl) kk
theorem ev_zreturn {x : Int} (hd : decode (mB m) pc = .ok (.ireturn, 1) ∧ mR m = some .boolean) (hx : x = 0 ∨ x = 1) (kk : Q (some (vi x)) (ST n sl sh I R)) : Ev d m pc L [vi x] (ST n sl sh I R) Q :=
  ev_s4 hd.1 rfl rfl rfl rfl (by rw [hd.2]; simp [s4, hx]) kk
theorem ev_return (hd : decode (mB m) pc = .ok (.return_, 1) ∧ mR m = none) (kk : Q none (ST n sl sh I R)) : Ev d m pc L [] (ST n sl sh I R) Q :=
  ev_s4 hd.1 rfl rfl rfl rfl (by rw [hd.2]; rfl) kk
theorem ev_static {ix m' : Nat} {a : List jV} {S' : List jV} (hd : decode (mB m) pc = .ok (.invokestatic ix, 3) ∧ tM (mO m) ix = none ∧ tS (mO m) ix = some m') (hp : popN (mP m') S = some (a, S')) (hz : szS S' ≤ 8) (hdp : 0 < d) (kk : Cl (d - 1) m' a (ST n sl sh I R) (fun r σ' => Ev d m (pc + 3) L (r.toList ++ S') σ' Q)) : Ev d m pc L S (ST n sl sh I R) Q :=
  ev_s5 hd.1 rfl rfl (by simp [s2, hd.2.1]) rfl rfl (by simp [s5, hd.2.2, hp, hz]) hdp kk
theorem ev_virt {ix m' np k ci : Nat} {a : List jV} {S' : List jV} (hd : decode (mB m) pc = .ok (.invokevirtual ix, 3) ∧ tVn (mO m) ix = some np ∧ tV (mO m) ix ci = some m') (hp : popN np S = some (a, vr k :: S')) (hz : szS S' ≤ 8) (hk : k < n) (hs : sh k = (ci, 0)) (hdp : 0 < d) (kk : Cl (d - 1) m' (vr k :: a) (ST n sl sh I R) (fun r σ' => Ev d m (pc + 3) L (r.toList ++ S') σ' Q)) : Ev d m pc L S (ST n sl sh I R) Q :=
  ev_s5 hd.1 rfl rfl rfl rfl rfl (by simp [s5, hd.2.1, hd.2.2, hp, hz, hk, hs]) hdp kk
theorem ev_spec {ix m' k ci : Nat} {a : List jV} {S' : List jV} (hd : decode (mB m) pc = .ok (.invokespecial ix, 3) ∧ tB (mO m) ix = false ∧ tI (mO m) ix = none ∧ tJ (mO m) ix = none ∧ tP (mO m) ix = some m') (hp : popN (mP m') S = some (a, vr k :: S')) (hz : szS S' ≤ 8) (hk : k < n) (hs : sh k = (ci, 0)) (hci : ci < 12) (hdp : 0 < d) (kk : Cl (d - 1) m' (vr k :: a) (ST n sl sh I R) (fun r σ' => Ev d m (pc + 3) L (r.toList ++ S') σ' Q)) : Ev d m pc L S (ST n sl sh I R) Q := by
  have h2 : s2 (mO m) (isInit m) (.invokespecial ix) S (ST n sl sh I R) = none := by
    unfold s2
    dsimp only
    split
    · simp [hd.2.1]
    · rfl
  exact ev_s5 hd.1 rfl rfl h2 rfl rfl (by simp [s5, hd.2.2.1, hd.2.2.2.1, hd.2.2.2.2, hp, hz, hk, hs, hci]) hdp kk
end EVS
