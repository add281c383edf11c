/-! numbers: an Int as the real machine holds it -/
theorem inB_iff {z : Int} : inB z = true ↔ -2147483648 ≤ z ∧ z < 2147483648 := by simp [inB]
theorem oI_t {z : Int} (h : inB z = true) : (Int32.ofInt z).toInt = z := by
  have h := inB_iff.mp h
  exact Int32.toInt_ofInt_of_le (by omega) (by omega)
theorem oI_nat {z : Int} (h : 0 ≤ z) : Int32.ofInt z = nI z.toNat := by
  obtain ⟨n, rfl⟩ := Int.eq_ofNat_of_zero_le h
  exact Int32.ofInt_eq_ofNat
theorem oL_nat {z : Int} (h : 0 ≤ z) : Int64.ofInt z = lN z.toNat := by
  obtain ⟨n, rfl⟩ := Int.eq_ofNat_of_zero_le h
  exact Int64.ofInt_eq_ofNat
theorem oI_lt {x y : Int} (hx : inB x = true) (hy : inB y = true) : Int32.ofInt x < Int32.ofInt y ↔ x < y := by rw [Int32.lt_iff_toInt_lt, oI_t hx, oI_t hy]
theorem oI_le {x y : Int} (hx : inB x = true) (hy : inB y = true) : Int32.ofInt x ≤ Int32.ofInt y ↔ x ≤ y := by rw [Int32.le_iff_toInt_le, oI_t hx, oI_t hy]
theorem oI_eq {x y : Int} (hx : inB x = true) (hy : inB y = true) : Int32.ofInt x = Int32.ofInt y ↔ x = y := by rw [← Int32.toInt_inj, oI_t hx, oI_t hy]
theorem oI_in {x : Int} {n : Nat} (h0 : 0 ≤ x) (h1 : x < n) (hn : n < 100001) : vp_in (Int32.ofInt x) n ∧ (Int32.ofInt x).toNatClampNeg = x.toNat := by
  rw [oI_nat h0]
  exact ⟨vp_in_nI (by omega) (by omega), nI_clamp (by omega)⟩
theorem oI_div {x y : Int} (h0 : 0 ≤ x) (h1 : x < 2147483648) (h2 : 0 < y) (h3 : y < 2147483648) : Int32.ofInt x / Int32.ofInt y = Int32.ofInt (x / y) := by
  rw [oI_nat h0, oI_nat (Int.le_of_lt h2), pk_div (by omega) (by omega) (by omega), oI_nat (Int.ediv_nonneg h0 (Int.le_of_lt h2))]
  congr 1
  obtain ⟨a, rfl⟩ := Int.eq_ofNat_of_zero_le h0
  obtain ⟨b, rfl⟩ := Int.eq_ofNat_of_zero_le (Int.le_of_lt h2)
  rfl
theorem oI_rem {x y : Int} (h0 : 0 ≤ x) (h1 : x < 2147483648) (h2 : 0 < y) (h3 : y < 2147483648) : Int32.ofInt x - Int32.ofInt x / Int32.ofInt y * Int32.ofInt y = Int32.ofInt (x % y) := by
  rw [oI_nat h0, oI_nat (Int.le_of_lt h2), pk_rem (by omega) (by omega) (by omega), oI_nat (Int.emod_nonneg x (by omega))]
  congr 1
  obtain ⟨a, rfl⟩ := Int.eq_ofNat_of_zero_le h0
  obtain ⟨b, rfl⟩ := Int.eq_ofNat_of_zero_le (Int.le_of_lt h2)
  rfl
theorem oL_rem {x y : Int} (h0 : 0 ≤ x) (h1 : x < 9223372036854775808) (h2 : 0 < y) (h3 : y < 9223372036854775808) : Int64.ofInt x - Int64.ofInt x / Int64.ofInt y * Int64.ofInt y = Int64.ofInt (x % y) := by
  rw [oL_nat h0, oL_nat (Int.le_of_lt h2), pk_lRem (by omega) (by omega) (by omega), oL_nat (Int.emod_nonneg x (by omega))]
  congr 1
  obtain ⟨a, rfl⟩ := Int.eq_ofNat_of_zero_le h0
  obtain ⟨b, rfl⟩ := Int.eq_ofNat_of_zero_le (Int.le_of_lt h2)
  rfl
theorem oI_ne0 {y : Int} (h2 : 0 < y) (h3 : y < 2147483648) : ¬ Int32.ofInt y = 0 := by
  intro h
  have h : Int32.ofInt y = Int32.ofInt 0 := h
  rw [oI_eq (inB_iff.mpr (by omega)) (by decide)] at h
  omega
theorem oL_ne0 {y : Int} (h2 : 0 < y) (h3 : y < 9223372036854775808) : ¬ Int64.ofInt y = 0 := by
  intro h
  have h : Int64.ofInt y = Int64.ofInt 0 := h
  rw [← Int64.toInt_inj, Int64.toInt_ofInt_of_le (by omega) (by omega)] at h
  have h4 : (Int64.ofInt 0).toInt = 0 := by decide
  omega
theorem oI_bv (z : Int) : (Int32.ofInt z).toBitVec.toNat = (z % 4294967296).toNat := by
  rw [Int32.toBitVec_ofInt, BitVec.toNat_ofInt]
  rfl
theorem sh_c : ∀ n, n < 32 → ((nI n &&& 31).toBitVec.smod 32).toNat = n := by decide +kernel
theorem oI_shl {x y : Int} (h0 : 0 ≤ y) (h1 : y < 32) : Int32.ofInt x <<< (Int32.ofInt y &&& 31) = Int32.ofInt (x * 2 ^ y.toNat) := by
  apply Int32.toBitVec.inj
  apply BitVec.eq_of_toNat_eq
  rw [oI_nat h0, pk_shl _ _ y.toNat (sh_c _ (by omega)), oI_bv, oI_bv]
  generalize y.toNat = k
  have h2 : (0 : Int) ≤ x % 4294967296 := Int.emod_nonneg x (by omega)
  obtain ⟨a, ha⟩ := Int.eq_ofNat_of_zero_le h2
  have h3 : x * 2 ^ k % 4294967296 = ((a * 2 ^ k % 4294967296 : Nat) : Int) := by
    rw [Int.natCast_emod, Int.natCast_mul, Int.natCast_pow, ← ha]
    show _ = x % 4294967296 * 2 ^ k % 4294967296
    have e1 := Int.mul_emod x (2 ^ k) 4294967296
    have e2 := Int.mul_emod (x % 4294967296) (2 ^ k) 4294967296
    rw [Int.emod_emod] at e2
    exact e1.trans e2.symm
  rw [h3, ha]
  rfl
theorem wr_rng (x : Int) : -2147483648 ≤ wr x ∧ wr x < 2147483648 := by
  have h1 := Int.le_bmod (x := x) (m := 4294967296) (by omega)
  have h2 := Int.bmod_lt (x := x) (m := 4294967296) (by omega)
  unfold wr
  omega
theorem wr_id {x : Int} (h : -2147483648 ≤ x) (h2 : x < 2147483648) : wr x = x := by
  unfold wr
  exact Int.bmod_eq_of_le (by omega) (by omega)
theorem oI_wr (x : Int) : (Int32.ofInt x).toInt = wr x := Int32.toInt_ofInt
theorem oI_shr {x y : Int} (h0 : 0 ≤ y) (h1 : y < 32) : Int32.ofInt x >>> (Int32.ofInt y &&& 31) = Int32.ofInt (wr x / 2 ^ y.toNat) := by
  apply Int32.toInt_inj.mp
  rw [oI_nat h0, pk_shr _ _ y.toNat (sh_c _ (by omega)), oI_wr, Int.shiftRight_eq_div_pow]
  generalize y.toNat = k
  have h2 := wr_rng x
  have h3 : (0 : Int) < ((2 ^ k : Nat) : Int) := by
    have := Nat.two_pow_pos k
    omega
  have h4 : wr x / ((2 ^ k : Nat) : Int) < 2147483648 := by
    rcases Int.lt_or_le (wr x) 0 with h | h
    · have := Int.ediv_neg_of_neg_of_pos h h3
      omega
    · have := Int.ediv_le_self ((2 ^ k : Nat) : Int) h
      omega
  have h5 : -2147483648 ≤ wr x / ((2 ^ k : Nat) : Int) := by
    apply (Int.le_ediv_iff_mul_le h3).mpr
    have : (1 : Int) ≤ ((2 ^ k : Nat) : Int) := h3
    have h6 : (-2147483648 : Int) * ((2 ^ k : Nat) : Int) ≤ -2147483648 * 1 := Int.mul_le_mul_of_nonpos_left (by omega) this
    omega
  have h7 : ((2 ^ k : Nat) : Int) = (2 : Int) ^ k := by push_cast; rfl
  rw [← h7, oI_wr, wr_id h5 h4]
theorem oI_and63 (x : Int) : Int32.ofInt x &&& Int32.ofInt 63 = Int32.ofInt (x % 64) := by
  rw [pk_and _ 6 (by decide), oI_bv, oI_nat (Int.emod_nonneg x (by omega))]
  congr 1
  omega
theorem oI_and1 (x : Int) : Int32.ofInt x &&& Int32.ofInt 1 = Int32.ofInt (x % 2) := by
  rw [pk_and _ 1 (by decide), oI_bv, oI_nat (Int.emod_nonneg x (by omega))]
  congr 1
  omega
theorem nI_or (a b : Nat) : nI a ||| nI b = nI (a ||| b) := by
  apply Int32.toBitVec.inj
  apply BitVec.eq_of_toNat_eq
  show (BitVec.ofNat 32 a ||| BitVec.ofNat 32 b).toNat = (BitVec.ofNat 32 (a ||| b)).toNat
  rw [BitVec.toNat_or, BitVec.toNat_ofNat, BitVec.toNat_ofNat, BitVec.toNat_ofNat, Nat.or_mod_two_pow]
theorem oI_or {x y : Int} (h0 : 0 ≤ x) (h1 : 0 ≤ y) : Int32.ofInt x ||| Int32.ofInt y = Int32.ofInt ((x.toNat ||| y.toNat : Nat) : Int) := by
  rw [oI_nat h0, oI_nat h1, nI_or, Int32.ofInt_eq_ofNat]
  rfl
theorem oI_b (x : Int) : (Int32.ofInt x).toInt8.toInt32 = Int32.ofInt (x.bmod 256) := by
  apply Int32.toInt_inj.mp
  rw [Int8.toInt_toInt32, Int32.toInt8_ofInt, Int8.toInt_ofInt, oI_wr]
  show x.bmod 256 = _
  have h1 := Int.le_bmod (x := x) (m := 256) (by omega)
  have h2 := Int.bmod_lt (x := x) (m := 256) (by omega)
  exact (wr_id (by omega) (by omega)).symm
theorem oI_s (x : Int) : (Int32.ofInt x).toInt16.toInt32 = Int32.ofInt (x.bmod 65536) := by
  apply Int32.toInt_inj.mp
  rw [Int16.toInt_toInt32, Int32.toInt16_ofInt, Int16.toInt_ofInt, oI_wr]
  show x.bmod 65536 = _
  have h1 := Int.le_bmod (x := x) (m := 65536) (by omega)
  have h2 := Int.bmod_lt (x := x) (m := 65536) (by omega)
  exact (wr_id (by omega) (by omega)).symm
theorem oI_i2l {x : Int} (h : inB x = true) : (Int32.ofInt x).toInt64 = Int64.ofInt x := by
  apply Int64.toInt_inj.mp
  have h2 := inB_iff.mp h
  rw [Int32.toInt_toInt64, oI_t h, Int64.toInt_ofInt_of_le (by omega) (by omega)]
theorem oI_bi {z : Int} (h : -128 ≤ z) (h2 : z ≤ 127) : (Int8.ofInt z).toInt32 = Int32.ofInt z := by
  apply Int32.toInt_inj.mp
  rw [Int8.toInt_toInt32, Int8.toInt_ofInt, oI_wr, wr_id (by omega) (by omega)]
  show z.bmod 256 = _
  exact Int.bmod_eq_of_le (by omega) (by omega)
theorem oI_si {z : Int} (h : -32768 ≤ z) (h2 : z ≤ 32767) : (Int16.ofInt z).toInt32 = Int32.ofInt z := by
  apply Int32.toInt_inj.mp
  rw [Int16.toInt_toInt32, Int16.toInt_ofInt, oI_wr, wr_id (by omega) (by omega)]
  show z.bmod 65536 = _
  exact Int.bmod_eq_of_le (by omega) (by omega)
