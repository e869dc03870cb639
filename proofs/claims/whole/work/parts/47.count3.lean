/-! how many bits a long has: byte by byte -/
def mk8 (c : Nat) : Nat → Nat
  | 0 => 0
  | n + 1 => c + 256 * mk8 c n
def fb1 (n x : Nat) : Nat := x - ((x / 2) &&& mk8 85 n)
def fb2 (n x : Nat) : Nat := (x &&& mk8 51 n) + ((x / 4) &&& mk8 51 n)
def fb3 (n x : Nat) : Nat := (x + x / 16) &&& mk8 15 n
def gb1 (b : Nat) : Nat := b - ((b / 2) &&& 85)
def gb2 (b : Nat) : Nat := (b &&& 51) + ((b / 4) &&& 51)
def pc8 (b : Nat) : Nat := b % 2 + b / 2 % 2 + b / 4 % 2 + b / 8 % 2 + b / 16 % 2 + b / 32 % 2 + b / 64 % 2 + b / 128 % 2
def ps8 : Nat → Nat → Nat
  | 0, _ => 0
  | n + 1, x => pc8 (x % 256) + 256 * ps8 n (x / 256)
def pcN : Nat → Nat → Nat
  | 0, _ => 0
  | n + 1, x => pc8 (x % 256) + pcN n (x / 256)
theorem land_s {a c q r : Nat} (ha : a < 256) (hc : c < 256) : (a + 256 * q) &&& (c + 256 * r) = (a &&& c) + 256 * (q &&& r) := by
  have h1 := Nat.and_mod_two_pow (a := a + 256 * q) (b := c + 256 * r) (n := 8)
  have h2 := Nat.and_div_two_pow (a := a + 256 * q) (b := c + 256 * r) (n := 8)
  have e : (2 : Nat) ^ 8 = 256 := rfl
  rw [e] at h1 h2
  rw [show (a + 256 * q) % 256 = a by omega, show (c + 256 * r) % 256 = c by omega] at h1
  rw [show (a + 256 * q) / 256 = q by omega, show (c + 256 * r) / 256 = r by omega] at h2
  omega
theorem kb1 : ∀ b : Fin 256, ∀ t : Fin 2, (b.val / 2 + 128 * t.val) &&& 85 = (b.val / 2) &&& 85 := by decide +kernel
theorem kb2 : ∀ b : Fin 256, ∀ t : Fin 4, (b.val / 4 + 64 * t.val) &&& 51 = (b.val / 4) &&& 51 := by decide +kernel
theorem kb3 : ∀ b : Fin 256, ∀ t : Fin 5, gb2 (gb1 b.val) + (gb2 (gb1 b.val) / 16 + 16 * t.val) < 256 ∧ (gb2 (gb1 b.val) + (gb2 (gb1 b.val) / 16 + 16 * t.val)) &&& 15 = pc8 b.val := by decide +kernel
theorem kb4 : ∀ b : Fin 256, gb2 (gb1 b.val) % 16 ≤ 4 ∧ gb2 (gb1 b.val) < 256 ∧ pc8 b.val ≤ 8 := by decide +kernel
theorem kn1 {b t : Nat} (hb : b < 256) (ht : t < 2) : (b / 2 + 128 * t) &&& 85 = (b / 2) &&& 85 := kb1 ⟨b, hb⟩ ⟨t, ht⟩
theorem kn2 {b t : Nat} (hb : b < 256) (ht : t < 4) : (b / 4 + 64 * t) &&& 51 = (b / 4) &&& 51 := kb2 ⟨b, hb⟩ ⟨t, ht⟩
theorem kn3 {b t : Nat} (hb : b < 256) (ht : t < 5) : gb2 (gb1 b) + (gb2 (gb1 b) / 16 + 16 * t) < 256 ∧ (gb2 (gb1 b) + (gb2 (gb1 b) / 16 + 16 * t)) &&& 15 = pc8 b := kb3 ⟨b, hb⟩ ⟨t, ht⟩
theorem kn4 {b : Nat} (hb : b < 256) : gb2 (gb1 b) % 16 ≤ 4 ∧ gb2 (gb1 b) < 256 ∧ pc8 b ≤ 8 := kb4 ⟨b, hb⟩
theorem dv9 {a b q : Nat} (h : a < b) : (a + b * q) / b = q := by rw [Nat.add_mul_div_left _ _ (by omega), Nat.div_eq_of_lt h, Nat.zero_add]
theorem fin8 {p0 p1 p2 p3 p4 p5 p6 p7 Y : Nat} (hY : Y = p0 + 256 * (p1 + 256 * (p2 + 256 * (p3 + 256 * (p4 + 256 * (p5 + 256 * (p6 + 256 * p7))))))) (k0 : p0 ≤ 8) (k1 : p1 ≤ 8) (k2 : p2 ≤ 8) (k3 : p3 ≤ 8) (k4 : p4 ≤ 8) (k5 : p5 ≤ 8) (k6 : p6 ≤ 8) (k7 : p7 ≤ 8) : (((Y + Y / 256) + (Y + Y / 256) / 65536) + ((Y + Y / 256) + (Y + Y / 256) / 65536) / 4294967296) % 128 = p0 + (p1 + (p2 + (p3 + (p4 + (p5 + (p6 + p7)))))) ∧ Y < 2 ^ 60 := by
  have a1 : Y / 256 = p1 + 256 * (p2 + 256 * (p3 + 256 * (p4 + 256 * (p5 + 256 * (p6 + 256 * p7))))) := by rw [hY]; exact dv9 (by omega)
  have a2 : Y + Y / 256 = ((p0 + p1) + 256 * (p1 + p2)) + 65536 * ((p2 + p3) + 256 * (p3 + p4) + 65536 * (p4 + p5) + 16777216 * (p5 + p6) + 4294967296 * (p6 + p7) + 1099511627776 * p7) := by rw [a1, hY]; clear a1 hY k0 k1 k2 k3 k4 k5 k6 k7; omega
  have a3 : (Y + Y / 256) / 65536 = (p2 + p3) + 256 * (p3 + p4) + 65536 * (p4 + p5) + 16777216 * (p5 + p6) + 4294967296 * (p6 + p7) + 1099511627776 * p7 := by rw [a2]; exact dv9 (by clear a1 a2 hY; omega)
  have a4 : (Y + Y / 256) + (Y + Y / 256) / 65536 = ((p0 + p1 + p2 + p3) + 256 * (p1 + p2 + p3 + p4) + 65536 * (p2 + p3 + p4 + p5) + 16777216 * (p3 + p4 + p5 + p6)) + 4294967296 * ((p4 + p5 + p6 + p7) + 256 * (p5 + p6 + p7) + 65536 * (p6 + p7) + 16777216 * p7) := by rw [a3, a2]; clear a1 a2 a3 hY k0 k1 k2 k3 k4 k5 k6 k7; omega
  have a5 : ((Y + Y / 256) + (Y + Y / 256) / 65536) / 4294967296 = (p4 + p5 + p6 + p7) + 256 * (p5 + p6 + p7) + 65536 * (p6 + p7) + 16777216 * p7 := by rw [a4]; exact dv9 (by clear a1 a2 a3 a4 hY; omega)
  have a6 : ((p0 + p1 + p2 + p3) + 256 * (p1 + p2 + p3 + p4) + 65536 * (p2 + p3 + p4 + p5) + 16777216 * (p3 + p4 + p5 + p6)) + 4294967296 * ((p4 + p5 + p6 + p7) + 256 * (p5 + p6 + p7) + 65536 * (p6 + p7) + 16777216 * p7) + ((p4 + p5 + p6 + p7) + 256 * (p5 + p6 + p7) + 65536 * (p6 + p7) + 16777216 * p7) = (p0 + (p1 + (p2 + (p3 + (p4 + (p5 + (p6 + p7))))))) + 128 * (2 * (p1 + p2 + p3 + p4) + 512 * (p2 + p3 + p4 + p5) + 131072 * (p3 + p4 + p5 + p6) + 33554432 * ((p4 + p5 + p6 + p7) + 256 * (p5 + p6 + p7) + 65536 * (p6 + p7) + 16777216 * p7) + 2 * (p5 + p6 + p7) + 512 * (p6 + p7) + 131072 * p7) := by clear a1 a2 a3 a4 a5 hY k0 k1 k2 k3 k4 k5 k6 k7; omega
  refine ⟨?_, ?_⟩
  · rw [a5, a4, a6, Nat.add_mul_mod_self_left]
    exact Nat.mod_eq_of_lt (by clear a1 a2 a3 a4 a5 a6 hY; omega)
  · rw [hY]; clear a1 a2 a3 a4 a5 a6 hY; omega
theorem pb1 {n b q : Nat} (hb : b < 256) : fb1 (n + 1) (b + 256 * q) = gb1 b + 256 * fb1 n q := by
  unfold fb1 gb1
  have e : mk8 85 (n + 1) = 85 + 256 * mk8 85 n := rfl
  rw [e, show (b + 256 * q) / 2 = (b / 2 + 128 * (q % 2)) + 256 * (q / 2) by omega, land_s (by omega) (by omega), kn1 hb (by omega)]
  have h1 : (b / 2) &&& 85 ≤ b / 2 := Nat.and_le_left
  have h2 : (q / 2) &&& mk8 85 n ≤ q / 2 := Nat.and_le_left
  generalize (b / 2) &&& 85 = u at h1 ⊢
  generalize (q / 2) &&& mk8 85 n = v at h2 ⊢
  omega
theorem gb1_lt {b : Nat} (hb : b < 256) : gb1 b < 256 := by unfold gb1; omega
theorem pb2 {n b q : Nat} (hb : b < 256) : fb2 (n + 1) (b + 256 * q) = gb2 b + 256 * fb2 n q := by
  unfold fb2 gb2
  have e : mk8 51 (n + 1) = 51 + 256 * mk8 51 n := rfl
  rw [e, show (b + 256 * q) / 4 = (b / 4 + 64 * (q % 4)) + 256 * (q / 4) by omega, land_s hb (by omega), land_s (by omega) (by omega), kn2 hb (by omega)]
  omega
theorem lo16 : ∀ (n x : Nat), fb2 n (fb1 n x) % 16 ≤ 4 := by
  intro n x
  cases n with
  | zero =>
    have e : fb2 0 (fb1 0 x) = (fb1 0 x &&& 0) + ((fb1 0 x / 4) &&& 0) := rfl
    rw [e, Nat.and_zero, Nat.and_zero]; omega
  | succ n =>
    have e : x = x % 256 + 256 * (x / 256) := by omega
    have hb : x % 256 < 256 := by omega
    rw [e, pb1 hb, pb2 (gb1_lt hb)]
    have := kn4 hb
    omega
theorem fb_ps : ∀ (n x : Nat), fb3 n (fb2 n (fb1 n x)) = ps8 n x := by
  intro n
  induction n with
  | zero =>
    intro x
    have e : fb3 0 (fb2 0 (fb1 0 x)) = (fb2 0 (fb1 0 x) + fb2 0 (fb1 0 x) / 16) &&& 0 := rfl
    rw [e, Nat.and_zero]; rfl
  | succ n ih =>
    intro x
    have e : x = x % 256 + 256 * (x / 256) := by omega
    have hb : x % 256 < 256 := by omega
    have h1 : fb2 (n + 1) (fb1 (n + 1) x) = gb2 (gb1 (x % 256)) + 256 * fb2 n (fb1 n (x / 256)) := by
      conv => lhs; rw [e, pb1 hb, pb2 (gb1_lt hb)]
    have h2 := lo16 n (x / 256)
    have k3 := kn3 (t := fb2 n (fb1 n (x / 256)) % 16) hb (by omega)
    have k4 := kn4 hb
    have i := ih (x / 256)
    rw [h1]
    show (gb2 (gb1 (x % 256)) + 256 * fb2 n (fb1 n (x / 256)) + (gb2 (gb1 (x % 256)) + 256 * fb2 n (fb1 n (x / 256))) / 16) &&& (15 + 256 * mk8 15 n) = pc8 (x % 256) + 256 * ps8 n (x / 256)
    unfold fb3 at i
    generalize fb2 n (fb1 n (x / 256)) = q at h2 k3 i ⊢
    generalize gb2 (gb1 (x % 256)) = b at k3 k4 ⊢
    rw [show b + 256 * q + (b + 256 * q) / 16 = (b + (b / 16 + 16 * (q % 16))) + 256 * (q + q / 16) by omega, land_s k3.1 (by omega), k3.2, i]
theorem ps_fin (x : Nat) : (((ps8 8 x + ps8 8 x / 256) + (ps8 8 x + ps8 8 x / 256) / 65536) + ((ps8 8 x + ps8 8 x / 256) + (ps8 8 x + ps8 8 x / 256) / 65536) / 4294967296) % 128 = pcN 8 x ∧ ps8 8 x < 2 ^ 60 := by
  have K : ∀ y : Nat, pc8 (y % 256) ≤ 8 := fun y => (kn4 (b := y % 256) (by omega)).2.2
  have k0 := K x
  have k1 := K (x / 256)
  have k2 := K (x / 256 / 256)
  have k3 := K (x / 256 / 256 / 256)
  have k4 := K (x / 256 / 256 / 256 / 256)
  have k5 := K (x / 256 / 256 / 256 / 256 / 256)
  have k6 := K (x / 256 / 256 / 256 / 256 / 256 / 256)
  have k7 := K (x / 256 / 256 / 256 / 256 / 256 / 256 / 256)
  have e1 : ps8 8 x = pc8 (x % 256) + 256 * (pc8 (x / 256 % 256) + 256 * (pc8 (x / 256 / 256 % 256) + 256 * (pc8 (x / 256 / 256 / 256 % 256) + 256 * (pc8 (x / 256 / 256 / 256 / 256 % 256) + 256 * (pc8 (x / 256 / 256 / 256 / 256 / 256 % 256) + 256 * (pc8 (x / 256 / 256 / 256 / 256 / 256 / 256 % 256) + 256 * pc8 (x / 256 / 256 / 256 / 256 / 256 / 256 / 256 % 256))))))) := by
    simp only [ps8, Nat.mul_zero, Nat.add_zero]
  have e2 : pcN 8 x = pc8 (x % 256) + (pc8 (x / 256 % 256) + (pc8 (x / 256 / 256 % 256) + (pc8 (x / 256 / 256 / 256 % 256) + (pc8 (x / 256 / 256 / 256 / 256 % 256) + (pc8 (x / 256 / 256 / 256 / 256 / 256 % 256) + (pc8 (x / 256 / 256 / 256 / 256 / 256 / 256 % 256) + pc8 (x / 256 / 256 / 256 / 256 / 256 / 256 / 256 % 256))))))) := by
    simp only [pcN, Nat.add_zero]
  rw [e2]
  exact fin8 e1 k0 k1 k2 k3 k4 k5 k6 k7
theorem cnt_ad {p : Nat → Prop} {m : Nat} : ∀ n, cnt p (m + n) = cnt p m + cnt (fun i => p (m + i)) n := by
  intro n
  induction n with
  | zero => show cnt p m = cnt p m + 0; omega
  | succ n ih =>
    show cnt p (m + n) + bi (p (m + n)) = cnt p m + (cnt (fun i => p (m + i)) n + bi (p (m + n)))
    omega
theorem bi_bit (x i : Nat) : bi (x.testBit i = true) = ((x / 2 ^ i % 2 : Nat) : Int) := by
  rw [Nat.testBit_eq_decide_div_mod_eq, decide_eq_true_eq]
  by_cases h : x / 2 ^ i % 2 = 1
  · rw [bi_t h, h]; rfl
  · rw [bi_f h]; omega
theorem cnt_pc : ∀ (n x : Nat), cnt (fun i => x.testBit i = true) (8 * n) = (pcN n x : Int) := by
  intro n
  induction n with
  | zero => intro x; rfl
  | succ n ih =>
    intro x
    rw [show 8 * (n + 1) = 8 + 8 * n by omega, cnt_ad]
    have h2 : cnt (fun i => x.testBit (8 + i) = true) (8 * n) = (pcN n (x / 256) : Int) := by
      rw [← ih (x / 256)]
      refine cnt_c _ (fun i _ => ?_)
      rw [show (256 : Nat) = 2 ^ 8 from rfl, Nat.testBit_div_two_pow, Nat.add_comm]
    have h1 : cnt (fun i => x.testBit i = true) 8 = (pc8 (x % 256) : Int) := by
      show 0 + bi (x.testBit 0 = true) + bi (x.testBit 1 = true) + bi (x.testBit 2 = true) + bi (x.testBit 3 = true) + bi (x.testBit 4 = true) + bi (x.testBit 5 = true) + bi (x.testBit 6 = true) + bi (x.testBit 7 = true) = _
      rw [bi_bit, bi_bit, bi_bit, bi_bit, bi_bit, bi_bit, bi_bit, bi_bit]
      unfold pc8
      simp only [show (2 : Nat) ^ 0 = 1 from rfl, show (2 : Nat) ^ 1 = 2 from rfl, show (2 : Nat) ^ 2 = 4 from rfl, show (2 : Nat) ^ 3 = 8 from rfl, show (2 : Nat) ^ 4 = 16 from rfl, show (2 : Nat) ^ 5 = 32 from rfl, show (2 : Nat) ^ 6 = 64 from rfl, show (2 : Nat) ^ 7 = 128 from rfl]
      omega
    rw [h1, h2]
    show _ = ((pc8 (x % 256) + pcN n (x / 256) : Nat) : Int)
    omega
def bcA (x : BitVec 64) : BitVec 64 := x - ((x >>> 1) &&& 6148914691236517205#64)
def bcB (x : BitVec 64) : BitVec 64 := (x &&& 3689348814741910323#64) + ((x >>> 2) &&& 3689348814741910323#64)
def bcC (x : BitVec 64) : BitVec 64 := (x + (x >>> 4)) &&& 1085102592571150095#64
def bcD (x : BitVec 64) (k : Nat) : BitVec 64 := x + (x >>> k)
theorem bcA_n (x : BitVec 64) : (bcA x).toNat = fb1 8 x.toNat := by
  unfold bcA fb1
  have e : mk8 85 8 = 6148914691236517205 := by decide
  have h : (x.toNat / 2) &&& 6148914691236517205 ≤ x.toNat / 2 := Nat.and_le_left
  have hx := x.isLt
  rw [BitVec.toNat_sub, BitVec.toNat_and, BitVec.toNat_ushiftRight, Nat.shiftRight_eq_div_pow, e]
  show (2 ^ 64 - ((x.toNat / 2) &&& 6148914691236517205) + x.toNat) % 2 ^ 64 = _
  generalize (x.toNat / 2) &&& 6148914691236517205 = u at h ⊢
  omega
theorem bcB_n (x : BitVec 64) : (bcB x).toNat = fb2 8 x.toNat ∧ fb2 8 x.toNat ≤ 7378697629483820646 := by
  unfold bcB fb2
  have e : mk8 51 8 = 3689348814741910323 := by decide
  have h1 : x.toNat &&& 3689348814741910323 ≤ 3689348814741910323 := Nat.and_le_right
  have h2 : (x.toNat / 4) &&& 3689348814741910323 ≤ 3689348814741910323 := Nat.and_le_right
  rw [BitVec.toNat_add, BitVec.toNat_and, BitVec.toNat_and, BitVec.toNat_ushiftRight, Nat.shiftRight_eq_div_pow, e]
  show ((x.toNat &&& 3689348814741910323) + ((x.toNat / 4) &&& 3689348814741910323)) % 2 ^ 64 = _ ∧ _
  generalize x.toNat &&& 3689348814741910323 = u at h1 ⊢
  generalize (x.toNat / 4) &&& 3689348814741910323 = v at h2 ⊢
  omega
theorem bcC_n {x : BitVec 64} (h : x.toNat ≤ 7378697629483820646) : (bcC x).toNat = fb3 8 x.toNat := by
  unfold bcC fb3
  have e : mk8 15 8 = 1085102592571150095 := by decide
  rw [BitVec.toNat_and, BitVec.toNat_add, BitVec.toNat_ushiftRight, Nat.shiftRight_eq_div_pow, e]
  show ((x.toNat + x.toNat / 16) % 2 ^ 64) &&& 1085102592571150095 = _
  rw [Nat.mod_eq_of_lt (by omega)]
theorem bcD_n {x : BitVec 64} {k : Nat} (h : x.toNat < 2 ^ 62) (hk : 1 ≤ k) : (bcD x k).toNat = x.toNat + x.toNat / 2 ^ k := by
  unfold bcD
  rw [BitVec.toNat_add, BitVec.toNat_ushiftRight, Nat.shiftRight_eq_div_pow]
  have : x.toNat / 2 ^ k ≤ x.toNat := Nat.div_le_self _ _
  rw [Nat.mod_eq_of_lt (by omega)]
theorem and127 (v : BitVec 32) : bi32 (· &&& ·) v.toInt 127 = ((v.toNat % 128 : Nat) : Int) := by
  unfold bi32
  rw [BitVec.ofInt_toInt]
  have e : BitVec.ofInt 32 127 = 127#32 := by decide
  rw [e]
  have h : (v &&& 127#32).toNat = v.toNat % 128 := by
    rw [BitVec.toNat_and]
    show v.toNat &&& (2 ^ 7 - 1) = v.toNat % 2 ^ 7
    exact Nat.and_two_pow_sub_one_eq_mod _ _
  rw [BitVec.toInt_eq_toNat_of_lt (by rw [h]; omega), h]
/-- what bitCount answers -/
def bcL (x : BitVec 64) : Int := bi32 (· &&& ·) ((bcD (bcD (bcD (bcC (bcB (bcA x))) 8) 16) 32).setWidth 32).toInt 127
theorem bcL_ok (x : BitVec 64) : bcL x = cnt (fun i => x.getLsbD i = true) 64 := by
  unfold bcL
  have hA := bcA_n x
  have hB := bcB_n (bcA x)
  have hC := bcC_n (x := bcB (bcA x)) (by rw [hB.1]; exact hB.2)
  rw [hB.1, hA, fb_ps] at hC
  have hf := ps_fin x.toNat
  have hD := bcD_n (x := bcC (bcB (bcA x))) (k := 8) (by rw [hC]; omega) (by decide)
  rw [hC] at hD
  have hE := bcD_n (x := bcD (bcC (bcB (bcA x))) 8) (k := 16) (by rw [hD]; omega) (by decide)
  rw [hD] at hE
  have hF := bcD_n (x := bcD (bcD (bcC (bcB (bcA x))) 8) 16) (k := 32) (by rw [hE]; omega) (by decide)
  rw [hE] at hF
  rw [and127, BitVec.toNat_setWidth, hF]
  have e := cnt_pc 8 x.toNat
  have e2 : cnt (fun i => x.getLsbD i = true) 64 = cnt (fun i => x.toNat.testBit i = true) (8 * 8) := cnt_c _ (fun i _ => Iff.rfl)
  rw [e2, e, ← hf.1]
  generalize ps8 8 x.toNat = y
  show ((((y + y / 256) + (y + y / 256) / 65536 + ((y + y / 256) + (y + y / 256) / 65536) / 4294967296) % 4294967296 % 128 : Nat) : Int) = _
  omega
set_option maxRecDepth 20000 in
theorem s_bcL {d : Nat} {σ : aS} {Q : aQ} {x : BitVec 64} {NC : Nat} (hQ : Q (some (vi (cnt (fun i => x.getLsbD i = true) 64))) σ) : aCall NC (d + 1) mJ13_bitCount_95d88 [vl x] σ Q := by
  refine cl_in (own := RJ13) (cc := cJ13_bitCount_95d88) (rk := 0) (L := [some (vl x), none]) rfl rfl rfl rfl (by decide) (Nat.le_of_ble_eq_true rfl) ?_
  refine wp_lload_n dJ13_bitCount_95d88_0 rfl ?_
  refine wp_lload_n dJ13_bitCount_95d88_1 rfl ?_
  refine wp_iconst dJ13_bitCount_95d88_2 (by decide) ?_
  refine wp_lushr dJ13_bitCount_95d88_3 (by omega) (by omega) ?_
  refine wp_ldc2 dJ13_bitCount_95d88_4 llJ13_314 ?_
  refine wp_land dJ13_bitCount_95d88_7 ?_
  refine wp_lsub dJ13_bitCount_95d88_8 ?_
  refine wp_lstN (L' := [some (vl _), none]) dJ13_bitCount_95d88_9 (Nat.le_of_ble_eq_true rfl) rfl ?_
  refine wp_lload_n dJ13_bitCount_95d88_10 rfl ?_
  refine wp_ldc2 dJ13_bitCount_95d88_11 llJ13_316 ?_
  refine wp_land dJ13_bitCount_95d88_14 ?_
  refine wp_lload_n dJ13_bitCount_95d88_15 rfl ?_
  refine wp_iconst dJ13_bitCount_95d88_16 (by decide) ?_
  refine wp_lushr dJ13_bitCount_95d88_17 (by omega) (by omega) ?_
  refine wp_ldc2 dJ13_bitCount_95d88_18 llJ13_316 ?_
  refine wp_land dJ13_bitCount_95d88_21 ?_
  refine wp_ladd dJ13_bitCount_95d88_22 ?_
  refine wp_lstN (L' := [some (vl _), none]) dJ13_bitCount_95d88_23 (Nat.le_of_ble_eq_true rfl) rfl ?_
  refine wp_lload_n dJ13_bitCount_95d88_24 rfl ?_
  refine wp_lload_n dJ13_bitCount_95d88_25 rfl ?_
  refine wp_iconst dJ13_bitCount_95d88_26 (by decide) ?_
  refine wp_lushr dJ13_bitCount_95d88_27 (by omega) (by omega) ?_
  refine wp_ladd dJ13_bitCount_95d88_28 ?_
  refine wp_ldc2 dJ13_bitCount_95d88_29 llJ13_318 ?_
  refine wp_land dJ13_bitCount_95d88_32 ?_
  refine wp_lstN (L' := [some (vl _), none]) dJ13_bitCount_95d88_33 (Nat.le_of_ble_eq_true rfl) rfl ?_
  refine wp_lload_n dJ13_bitCount_95d88_34 rfl ?_
  refine wp_lload_n dJ13_bitCount_95d88_35 rfl ?_
  refine wp_bipush dJ13_bitCount_95d88_36 (by decide) ?_
  refine wp_lushr dJ13_bitCount_95d88_38 (by omega) (by omega) ?_
  refine wp_ladd dJ13_bitCount_95d88_39 ?_
  refine wp_lstN (L' := [some (vl _), none]) dJ13_bitCount_95d88_40 (Nat.le_of_ble_eq_true rfl) rfl ?_
  refine wp_lload_n dJ13_bitCount_95d88_41 rfl ?_
  refine wp_lload_n dJ13_bitCount_95d88_42 rfl ?_
  refine wp_bipush dJ13_bitCount_95d88_43 (by decide) ?_
  refine wp_lushr dJ13_bitCount_95d88_45 (by omega) (by omega) ?_
  refine wp_ladd dJ13_bitCount_95d88_46 ?_
  refine wp_lstN (L' := [some (vl _), none]) dJ13_bitCount_95d88_47 (Nat.le_of_ble_eq_true rfl) rfl ?_
  refine wp_lload_n dJ13_bitCount_95d88_48 rfl ?_
  refine wp_lload_n dJ13_bitCount_95d88_49 rfl ?_
  refine wp_bipush dJ13_bitCount_95d88_50 (by decide) ?_
  refine wp_lushr dJ13_bitCount_95d88_52 (by omega) (by omega) ?_
  refine wp_ladd dJ13_bitCount_95d88_53 ?_
  refine wp_lstN (L' := [some (vl _), none]) dJ13_bitCount_95d88_54 (Nat.le_of_ble_eq_true rfl) rfl ?_
  refine wp_lload_n dJ13_bitCount_95d88_55 rfl ?_
  refine wp_l2i dJ13_bitCount_95d88_56 ?_
  refine wp_bipush dJ13_bitCount_95d88_57 (by decide) ?_
  refine wp_iand dJ13_bitCount_95d88_59 ?_
  refine wp_iret dJ13_bitCount_95d88_60 (Or.inl rfl) ?_
  exact q_i (bcL_ok x) hQ
