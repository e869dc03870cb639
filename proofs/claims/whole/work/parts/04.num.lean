/-! bridges between the machine's numbers and the abstract ones -/
theorem nb_in {x : Int} (h : in32 x) : (Int32.ofInt x).toInt = x := Int32.toInt_ofInt_of_le h.1 h.2
theorem nb_bm (z : Int) : z.bmod 4294967296 = w32 z := by
  unfold w32
  rw [Int.bmod_def]
  split <;> omega
theorem nb_toInt (z : Int) : (Int32.ofInt z).toInt = w32 z := by rw [Int32.toInt_ofInt]; exact nb_bm z
theorem nb_w (z : Int) : Int32.ofInt (w32 z) = Int32.ofInt z := by
  apply Int32.toInt.inj
  rw [nb_toInt, nb_toInt]
  exact w32_id (w32_in z).1 (w32_in z).2
theorem nb_add (x y : Int) : Int32.ofInt x + Int32.ofInt y = Int32.ofInt (w32 (x + y)) := by
  rw [nb_w, Int32.ofInt_add]
theorem nb_sub (x y : Int) : Int32.ofInt x - Int32.ofInt y = Int32.ofInt (w32 (x - y)) := by
  rw [nb_w, Int32.ofInt_sub]
theorem nb_mul (x y : Int) : Int32.ofInt x * Int32.ofInt y = Int32.ofInt (w32 (x * y)) := by
  rw [nb_w, Int32.ofInt_mul]
theorem nb_neg (x : Int) : -Int32.ofInt x = Int32.ofInt (w32 (-x)) := by
  rw [nb_w, Int32.ofInt_neg]
theorem nb_bits (b : BitVec 32) : Int32.ofInt b.toInt = Int32.ofBitVec b := by
  apply Int32.toBitVec.inj
  simp
theorem nb_and (x y : Int) : Int32.ofInt x &&& Int32.ofInt y = Int32.ofInt (bi32 (· &&& ·) x y) := by
  unfold bi32; rw [nb_bits]; apply Int32.toBitVec.inj; simp
theorem nb_or (x y : Int) : Int32.ofInt x ||| Int32.ofInt y = Int32.ofInt (bi32 (· ||| ·) x y) := by
  unfold bi32; rw [nb_bits]; apply Int32.toBitVec.inj; simp
theorem nb_xor (x y : Int) : Int32.ofInt x ^^^ Int32.ofInt y = Int32.ofInt (bi32 (· ^^^ ·) x y) := by
  unfold bi32; rw [nb_bits]; apply Int32.toBitVec.inj; simp
theorem nb_bin (b : BitVec 32) : in32 b.toInt := by
  have h1 := BitVec.le_toInt b
  have h2 := BitVec.toInt_lt (x := b)
  unfold in32
  simp at h1 h2
  omega
theorem nb_bi (f : BitVec 32 → BitVec 32 → BitVec 32) (x y : Int) : in32 (bi32 f x y) := nb_bin _
theorem nb_div {x y : Int} (hx : in32 x) (hy : in32 y) (h0 : 0 ≤ x) (h1 : 0 < y) : Int32.ofInt x / Int32.ofInt y = Int32.ofInt (x / y) := by
  apply Int32.toInt.inj
  have hd : 0 ≤ x / y := Int.ediv_nonneg h0 (by omega)
  have hd2 : x / y ≤ x := Int.ediv_le_self _ h0
  have h2 : in32 (x / y) := ⟨by omega, by have := hx.2; omega⟩
  rw [Int32.toInt_div, nb_in hx, nb_in hy, nb_in h2, Int.tdiv_eq_ediv_of_nonneg h0]
  show (x / y).bmod 4294967296 = x / y
  rw [nb_bm]
  exact w32_id h2.1 h2.2
theorem nb_rem {x y : Int} (hx : in32 x) (hy : in32 y) (h0 : 0 ≤ x) (h1 : 0 < y) : Int32.ofInt x - Int32.ofInt x / Int32.ofInt y * Int32.ofInt y = Int32.ofInt (x % y) := by
  apply Int32.toInt.inj
  have hd : 0 ≤ x % y := Int.emod_nonneg _ (by omega)
  have hd2 : x % y < y := Int.emod_lt_of_pos _ h1
  have h2 : in32 (x % y) := ⟨by omega, by have := hy.2; omega⟩
  rw [rem_toInt, nb_in hx, nb_in hy, nb_in h2, Int.tmod_eq_emod_of_nonneg h0]
theorem nb_a32 : ∀ n : Nat, n < 32 → ((Int32.ofInt (n : Int) &&& 31).toBitVec.smod 32).toNat = n := by decide +kernel
theorem nb_u32 : ∀ n : Nat, n < 32 → (((Int32.ofInt (n : Int)).toUInt32 &&& Int32.toUInt32 31).toBitVec % 32).toNat = n := by decide +kernel
theorem nb_a64 : ∀ n : Nat, n < 64 → (((Int32.ofInt (n : Int)).toInt64 &&& 63).toBitVec.smod 64).toNat = n := by decide +kernel
theorem nb_u64 : ∀ n : Nat, n < 64 → (((Int32.ofInt (n : Int)).toInt64.toUInt64 &&& Int64.toUInt64 63).toBitVec % 64).toNat = n := by decide +kernel
theorem nb_shl (x y : Int) (h0 : 0 ≤ y) (h1 : y < 32) : Int32.ofInt x <<< (Int32.ofInt y &&& 31) = Int32.ofInt (w32 (x * 2 ^ y.toNat)) := by
  obtain ⟨n, rfl⟩ := Int.eq_ofNat_of_zero_le h0
  have hn : n < 32 := by omega
  rw [nb_w, Int32.ofInt_mul]
  apply Int32.toBitVec.inj
  apply BitVec.eq_of_toNat_eq
  rw [pk_shl _ _ n (nb_a32 n hn)]
  simp only [Int32.toBitVec_mul, Int32.toBitVec_ofInt, BitVec.toNat_mul, Int.toNat_natCast]
  have e : (BitVec.ofInt 32 (2 ^ n)).toNat = 2 ^ n := by
    have : ((2 : Int) ^ n) = ((2 ^ n : Nat) : Int) := by simp
    rw [this, BitVec.ofInt_natCast, BitVec.toNat_ofNat]
    exact Nat.mod_eq_of_lt (Nat.pow_lt_pow_right (by decide) hn)
  rw [e]
theorem nb_b32 : ∀ n : Nat, n < 64 → ((Int32.ofInt (n : Int) &&& 31).toBitVec.smod 32).toNat = n % 32 := by decide +kernel
theorem nb_shr {x y : Int} (hx : in32 x) (h0 : 0 ≤ y) (h1 : y < 64) : Int32.ofInt x >>> (Int32.ofInt y &&& 31) = Int32.ofInt (x / 2 ^ (y % 32).toNat) ∧ in32 (x / 2 ^ (y % 32).toNat) := by
  obtain ⟨n, rfl⟩ := Int.eq_ofNat_of_zero_le h0
  have hn : n < 64 := by omega
  have e0 : (((n : Int)) % 32).toNat = n % 32 := by omega
  have e : (Int32.ofInt x >>> (Int32.ofInt (n : Int) &&& 31)).toInt = x / 2 ^ (n % 32) := by
    rw [pk_shr _ _ (n % 32) (nb_b32 n hn), nb_in hx, Int.shiftRight_eq_div_pow]
    simp
  have h2 : in32 (x / 2 ^ (n % 32)) := by
    rw [← e]
    exact ⟨by have := Int32.le_toInt (Int32.ofInt x >>> (Int32.ofInt (n : Int) &&& 31)); simpa using this, by have := Int32.toInt_lt (Int32.ofInt x >>> (Int32.ofInt (n : Int) &&& 31)); simpa using this⟩
  rw [e0]
  refine ⟨Int32.toInt.inj ?_, h2⟩
  rw [e, nb_in h2]
theorem nb_ushr (x y : Int) (h0 : 0 ≤ y) (h1 : y < 32) : ((Int32.ofInt x).toUInt32 >>> ((Int32.ofInt y).toUInt32 &&& Int32.toUInt32 31)).toInt32 = Int32.ofInt (w32 (x % 4294967296 / 2 ^ y.toNat)) := by
  obtain ⟨n, rfl⟩ := Int.eq_ofNat_of_zero_le h0
  have hn : n < 32 := by omega
  rw [nb_w]
  apply Int32.toBitVec.inj
  apply BitVec.eq_of_toNat_eq
  rw [pk_ushr _ _ n (nb_u32 n hn)]
  simp only [Int32.toBitVec_ofInt, BitVec.toNat_ofInt, Int.toNat_natCast]
  have hm : 0 ≤ x % 4294967296 := Int.emod_nonneg _ (by decide)
  obtain ⟨k, hk⟩ := Int.eq_ofNat_of_zero_le hm
  have hk2 : k < 4294967296 := by omega
  have e2 : ((2 : Int) ^ n) = ((2 ^ n : Nat) : Int) := by simp
  have h3 : k / 2 ^ n ≤ k := Nat.div_le_self _ _
  have e3 : (x % ((2 ^ 32 : Nat) : Int)).toNat = k := by
    have : ((2 ^ 32 : Nat) : Int) = 4294967296 := by decide
    rw [this, hk]; simp
  rw [e3, hk, e2, ← Int.natCast_ediv]
  have : ((2 ^ 32 : Nat) : Int) = 4294967296 := by decide
  rw [this]
  generalize k / 2 ^ n = q at h3 ⊢
  omega
theorem nb_ladd (x y : BitVec 64) : Int64.ofBitVec x + Int64.ofBitVec y = Int64.ofBitVec (x + y) := rfl
theorem nb_lsub (x y : BitVec 64) : Int64.ofBitVec x - Int64.ofBitVec y = Int64.ofBitVec (x - y) := rfl
theorem nb_lmul (x y : BitVec 64) : Int64.ofBitVec x * Int64.ofBitVec y = Int64.ofBitVec (x * y) := rfl
theorem nb_land (x y : BitVec 64) : Int64.ofBitVec x &&& Int64.ofBitVec y = Int64.ofBitVec (x &&& y) := rfl
theorem nb_lor (x y : BitVec 64) : Int64.ofBitVec x ||| Int64.ofBitVec y = Int64.ofBitVec (x ||| y) := rfl
theorem nb_lxor (x y : BitVec 64) : Int64.ofBitVec x ^^^ Int64.ofBitVec y = Int64.ofBitVec (x ^^^ y) := rfl
theorem nb_msb {x : BitVec 64} (h : x.toNat < 2 ^ 63) : x.msb = false := by
  rw [BitVec.msb_eq_decide]
  simp at h ⊢
  omega
theorem nb_ldiv {x y : BitVec 64} (hx : x.toNat < 2 ^ 63) (hy : y.toNat < 2 ^ 63) : Int64.ofBitVec x / Int64.ofBitVec y = Int64.ofBitVec (x / y) := by
  apply Int64.toBitVec.inj
  rw [Int64.toBitVec_div]
  simp only [Int64.toBitVec_ofBitVec]
  rw [BitVec.sdiv_eq, nb_msb hx, nb_msb hy]
  rfl
theorem nb_lrem {x y : BitVec 64} (hx : x.toNat < 2 ^ 63) (hy : y.toNat < 2 ^ 63) : Int64.ofBitVec x - Int64.ofBitVec x / Int64.ofBitVec y * Int64.ofBitVec y = Int64.ofBitVec (x % y) := by
  rw [nb_ldiv hx hy, nb_lmul, nb_lsub]
  congr 1
  apply BitVec.eq_of_toNat_eq
  have h1 : x.toNat / y.toNat * y.toNat ≤ x.toNat := Nat.div_mul_le_self _ _
  have h2 := Nat.mod_add_div x.toNat y.toNat
  have h3 : x.toNat / y.toNat * y.toNat = y.toNat * (x.toNat / y.toNat) := Nat.mul_comm _ _
  rw [BitVec.toNat_sub, BitVec.toNat_mul, BitVec.toNat_udiv, BitVec.toNat_umod]
  rw [Nat.mod_eq_of_lt (show x.toNat / y.toNat * y.toNat < 2 ^ 64 by omega)]
  omega
theorem nb_lshl (x : BitVec 64) {y : Int} (h0 : 0 ≤ y) (h1 : y < 64) : Int64.ofBitVec x <<< ((Int32.ofInt y).toInt64 &&& 63) = Int64.ofBitVec (x <<< y.toNat) := by
  obtain ⟨n, rfl⟩ := Int.eq_ofNat_of_zero_le h0
  have hn : n < 64 := by omega
  apply Int64.toBitVec.inj
  rw [Int64.toBitVec_shiftLeft, BitVec.shiftLeft_eq', nb_a64 n hn]
  rfl
theorem nb_lshr (x : BitVec 64) {y : Int} (h0 : 0 ≤ y) (h1 : y < 64) : Int64.ofBitVec x >>> ((Int32.ofInt y).toInt64 &&& 63) = Int64.ofBitVec (x.sshiftRight y.toNat) := by
  obtain ⟨n, rfl⟩ := Int.eq_ofNat_of_zero_le h0
  have hn : n < 64 := by omega
  apply Int64.toBitVec.inj
  rw [Int64.toBitVec_shiftRight, BitVec.sshiftRight_eq', nb_a64 n hn]
  rfl
theorem nb_lushr (x : BitVec 64) {y : Int} (h0 : 0 ≤ y) (h1 : y < 64) : ((Int64.ofBitVec x).toUInt64 >>> ((Int32.ofInt y).toInt64.toUInt64 &&& Int64.toUInt64 63)).toInt64 = Int64.ofBitVec (x >>> y.toNat) := by
  obtain ⟨n, rfl⟩ := Int.eq_ofNat_of_zero_le h0
  have hn : n < 64 := by omega
  apply Int64.toBitVec.inj
  rw [UInt64.toBitVec_toInt64, UInt64.toBitVec_shiftRight, BitVec.ushiftRight_eq', nb_u64 n hn]
  rfl
theorem nb_lcmp (x y : BitVec 64) : lg_cmp (Int64.ofBitVec x) (Int64.ofBitVec y) = Int32.ofInt (lcm x y) ∧ in32 (lcm x y) := by
  have e1 : (Int64.ofBitVec x > Int64.ofBitVec y) ↔ y.toInt < x.toInt := by
    rw [gt_iff_lt, Int64.lt_iff_toInt_lt]; rfl
  have e2 : (Int64.ofBitVec x = Int64.ofBitVec y) ↔ x = y := ⟨fun h => by have := congrArg Int64.toBitVec h; simpa using this, fun h => by rw [h]⟩
  unfold lg_cmp lcm
  simp only [e1, e2]
  constructor
  · split
    · rfl
    · split <;> rfl
  · unfold in32
    split
    · omega
    · split <;> omega
theorem nb_i2l {x : Int} (hx : in32 x) : (Int32.ofInt x).toInt64 = Int64.ofBitVec (BitVec.ofInt 64 x) := by
  apply Int64.toBitVec.inj
  rw [Int32.toBitVec_toInt64, Int32.toBitVec_ofInt, Int64.toBitVec_ofBitVec, BitVec.signExtend]
  have e : (BitVec.ofInt 32 x).toInt = x := by
    have := nb_in hx
    simpa using this
  rw [e]
theorem nb_l2i (x : BitVec 64) : (Int64.ofBitVec x).toInt32 = Int32.ofInt (x.setWidth 32).toInt := by
  apply Int32.toBitVec.inj
  rw [Int64.toBitVec_toInt32, nb_bits]
  simp only [Int64.toBitVec_ofBitVec, Int32.toBitVec_ofBitVec]
  exact BitVec.signExtend_eq_setWidth_of_le _ (by decide)
theorem nb_i2b {x : Int} (hx : in32 x) : (Int32.ofInt x).toInt8.toInt32 = Int32.ofInt ((x + 128) % 256 - 128) := by
  have h2 : in32 ((x + 128) % 256 - 128) := by unfold in32; omega
  apply Int32.toInt.inj
  rw [Int8.toInt_toInt32, Int32.toInt_toInt8, nb_in hx, nb_in h2, Int.bmod_def]
  simp only [show (2 ^ 8 : Nat) = 256 by decide]
  split <;> omega
theorem nb_i2s {x : Int} (hx : in32 x) : (Int32.ofInt x).toInt16.toInt32 = Int32.ofInt ((x + 32768) % 65536 - 32768) := by
  have h2 : in32 ((x + 32768) % 65536 - 32768) := by unfold in32; omega
  apply Int32.toInt.inj
  rw [Int16.toInt_toInt32, Int32.toInt_toInt16, nb_in hx, nb_in h2, Int.bmod_def]
  simp only [show (2 ^ 16 : Nat) = 65536 by decide]
  split <;> omega
theorem nb_i8 {n : Int} (h1 : -128 ≤ n) (h2 : n < 128) : (Int8.ofInt n).toInt32 = Int32.ofInt n := by
  apply Int32.toInt.inj
  rw [Int8.toInt_toInt32, Int8.toInt_ofInt_of_le (by simpa using h1) (by simpa using h2), nb_in ⟨by omega, by omega⟩]
theorem nb_i16 {n : Int} (h1 : -32768 ≤ n) (h2 : n < 32768) : (Int16.ofInt n).toInt32 = Int32.ofInt n := by
  apply Int32.toInt.inj
  rw [Int16.toInt_toInt32, Int16.toInt_ofInt_of_le (by simpa using h1) (by simpa using h2), nb_in ⟨by omega, by omega⟩]
theorem nb_vp {j : Int} {n : Nat} (h0 : 0 ≤ j) (h1 : j < n) (hn : n < 2 ^ 31) : vp_in (Int32.ofInt j) n ∧ (Int32.ofInt j).toNatClampNeg = j.toNat ∧ ¬ Int32.ofInt j < 0 := by
  have hi : in32 j := ⟨by omega, by omega⟩
  refine ⟨vp_in_iff.mpr (by rw [nb_in hi]; exact ⟨h0, h1⟩), ?_, ?_⟩
  · show (Int32.ofInt j).toInt.toNat = _
    rw [nb_in hi]
  · rw [Int32.lt_iff_toInt_lt, nb_in hi, Int32.toInt_zero]; omega
theorem nb_eq {x y : Int} (hx : in32 x) (hy : in32 y) : Int32.ofInt x = Int32.ofInt y ↔ x = y := by
  constructor
  · intro h
    have := congrArg Int32.toInt h
    rwa [nb_in hx, nb_in hy] at this
  · intro h; rw [h]
theorem nb_lt {x y : Int} (hx : in32 x) (hy : in32 y) : Int32.ofInt x < Int32.ofInt y ↔ x < y := by
  rw [Int32.lt_iff_toInt_lt, nb_in hx, nb_in hy]
theorem nb_le {x y : Int} (hx : in32 x) (hy : in32 y) : Int32.ofInt x ≤ Int32.ofInt y ↔ x ≤ y := by
  rw [Int32.le_iff_toInt_le, nb_in hx, nb_in hy]
theorem nb_0 : (0 : Int32) = Int32.ofInt 0 := by decide
theorem nb_i0 : in32 0 := by unfold in32; omega
