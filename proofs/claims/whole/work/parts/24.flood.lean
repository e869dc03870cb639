noncomputable def wtN (c s : Int) : Nat → Int
  | 0 => 1
  | k + 1 => wtN c s k * cif (isB s k) c (16 - c)
noncomputable def smN (g : aG) (c cell : Int) (n : Nat) : Nat → Int
  | 0 => 0
  | s + 1 => smN g c cell n s + cif (Rch (flW g) g (spS g s) cell) (wtN c s n) 0
theorem wtN_in {c s : Int} (hc : 0 ≤ c ∧ c ≤ 16) : ∀ n, 0 ≤ wtN c s n ∧ wtN c s n ≤ 16 ^ n := by
  intro n
  induction n with
  | zero => show 0 ≤ (1 : Int) ∧ (1 : Int) ≤ 16 ^ 0; decide
  | succ n ih =>
    have hf : 0 ≤ cif (isB s n) c (16 - c) ∧ cif (isB s n) c (16 - c) ≤ 16 := by
      by_cases h : isB s n
      · rw [cif_t h]; exact hc
      · rw [cif_f h]; omega
    refine ⟨Int.mul_nonneg ih.1 hf.1, ?_⟩
    rw [Int.pow_succ]
    exact Int.mul_le_mul ih.2 hf.2 hf.1 (Int.le_trans ih.1 ih.2)
theorem smN_in {g : aG} {c cell : Int} (hc : 0 ≤ c ∧ c ≤ 16) {n : Nat} : ∀ s : Nat, 0 ≤ smN g c cell n s ∧ smN g c cell n s ≤ s * 16 ^ n := by
  intro s
  induction s with
  | zero => show 0 ≤ (0 : Int) ∧ (0 : Int) ≤ ((0 : Nat) : Int) * 16 ^ n; simp
  | succ s ih =>
    have hw := wtN_in (s := (s : Int)) hc n
    have e : ((s + 1 : Nat) : Int) * 16 ^ n = s * 16 ^ n + 16 ^ n := by rw [Int.natCast_add, Int.add_mul]; simp
    rw [e]
    show 0 ≤ smN g c cell n s + cif (Rch (flW g) g (spS g s) cell) (wtN c s n) 0 ∧ smN g c cell n s + cif (Rch (flW g) g (spS g s) cell) (wtN c s n) 0 ≤ _
    by_cases h : Rch (flW g) g (spS g s) cell
    · rw [cif_t h]; omega
    · rw [cif_f h]; omega
def lwv (t b : Nat) (w : Int) : BitVec 64 := BitVec.ofNat 64 (if w = 0 then t / Nat.gcd t b else b / Nat.gcd t b)
noncomputable def spn (g : aG) : Nat := (cnt (fun c => ggk g c = 3) (ggn g).toNat).toNat
noncomputable def flv (g : aG) (c cell w : Int) : BitVec 64 := lwv (smN g c cell (spn g) (2 ^ spn g)).toNat (2 ^ (4 * spn g)) w
noncomputable def vFlood (z : aZ) (c cell w : Int) : BitVec 64 := cif ((0 ≤ c ∧ c ≤ 16) ∧ (0 ≤ cell ∧ cell ≤ ggn (Gz z) - 1) ∧ (0 ≤ w ∧ w ≤ 1) ∧ spn (Gz z) < 10) (flv (Gz z) c cell w) (9223372036854775808#64 - BitVec.ofInt 64 (-2))
theorem lcm_0 {x : BitVec 64} : lcm x 0#64 = 0 ↔ x.toNat = 0 := by
  unfold lcm
  constructor
  · intro h
    split at h
    · omega
    · split at h
      · rename_i e; rw [e]; rfl
      · omega
  · intro h
    have e : x = 0#64 := BitVec.eq_of_toNat_eq h
    subst e
    rw [if_neg (by decide), if_pos rfl]
set_option maxRecDepth 20000 in
theorem l4_low {d NC : Nat} {σ : aS} {Q : aQ} {t b : BitVec 64} {w : Int} (ht : t.toNat < 2 ^ 63) (hb2 : b.toNat < 2 ^ 63) (hb : 0 < b.toNat) (hQ : Q (some (vl (lwv t.toNat b.toNat w))) σ) : ∀ (r : Nat) (x y : BitVec 64) (u9 u10 : Option aV), y.toNat < r → x.toNat < 2 ^ 63 → y.toNat < 2 ^ 63 → Nat.gcd x.toNat y.toNat = Nat.gcd t.toNat b.toNat → Wp RX4 cX4_lowest NC (aCall NC (d)) Q 2 false 0 (fun _ => 0) 6 [some (vl t), none, some (vl b), none, some (vi w), some (vl x), none, some (vl y), none, u9, u10] [] σ := by
  intro r
  induction r with
  | zero =>
    intro x y u9 u10 hm hx hy hgc
    exact absurd hm (Nat.not_lt_zero _)
  | succ r ih =>
    intro x y u9 u10 hm hx hy hgc
    have hty : ∀ v : BitVec 64, v.toNat < 2 ^ 64 := fun v => v.isLt
    refine wp_lload dX4_lowest_6 rfl ?_
    refine wp_lconst0 dX4_lowest_8 ?_
    refine wp_lcmp dX4_lowest_9 ?_
    refine wp_if_eq 31 dX4_lowest_10 (by decide) (fun hh10 => ?_) (fun hh10 => ?_)
    · have e0 := lcm_0.mp hh10
      rw [e0, Nat.gcd_zero_right] at hgc
      have hgp : 0 < Nat.gcd t.toNat b.toNat := Nat.gcd_pos_of_pos_right _ hb
      refine wp_iload dX4_lowest_31 rfl ?_
      refine wp_if_ne 43 dX4_lowest_33 (by decide) (fun hh33 => ?_) (fun hh33 => ?_)
      · refine wp_lload_n dX4_lowest_43 rfl ?_
        refine wp_lload dX4_lowest_44 rfl ?_
        refine wp_ldiv dX4_lowest_46 (by omega) (by omega) (by omega) ?_
        refine wp_lret dX4_lowest_47 rfl ?_
        first
        | (
          have e1 : t / x = lwv t.toNat b.toNat w := by
            apply BitVec.eq_of_toNat_eq
            rw [BitVec.toNat_udiv, hgc]
            unfold lwv
            rw [if_pos (by omega), BitVec.toNat_ofNat]
            have := Nat.div_le_self t.toNat (Nat.gcd t.toNat b.toNat)
            rw [Nat.mod_eq_of_lt (by omega)]
          rw [e1]
          exact hQ)
        | (
          have e1 : b / x = lwv t.toNat b.toNat w := by
            apply BitVec.eq_of_toNat_eq
            rw [BitVec.toNat_udiv, hgc]
            unfold lwv
            rw [if_neg (by omega), BitVec.toNat_ofNat]
            have := Nat.div_le_self b.toNat (Nat.gcd t.toNat b.toNat)
            rw [Nat.mod_eq_of_lt (by omega)]
          rw [e1]
          exact hQ)
      · refine wp_lload_n dX4_lowest_36 rfl ?_
        refine wp_lload dX4_lowest_37 rfl ?_
        refine wp_ldiv dX4_lowest_39 (by omega) (by omega) (by omega) ?_
        refine wp_gotoN 47 dX4_lowest_40 (by decide) ?_
        refine wp_lret dX4_lowest_47 rfl ?_
        first
        | (
          have e1 : t / x = lwv t.toNat b.toNat w := by
            apply BitVec.eq_of_toNat_eq
            rw [BitVec.toNat_udiv, hgc]
            unfold lwv
            rw [if_pos (by omega), BitVec.toNat_ofNat]
            have := Nat.div_le_self t.toNat (Nat.gcd t.toNat b.toNat)
            rw [Nat.mod_eq_of_lt (by omega)]
          rw [e1]
          exact hQ)
        | (
          have e1 : b / x = lwv t.toNat b.toNat w := by
            apply BitVec.eq_of_toNat_eq
            rw [BitVec.toNat_udiv, hgc]
            unfold lwv
            rw [if_neg (by omega), BitVec.toNat_ofNat]
            have := Nat.div_le_self b.toNat (Nat.gcd t.toNat b.toNat)
            rw [Nat.mod_eq_of_lt (by omega)]
          rw [e1]
          exact hQ)
    · refine wp_lload dX4_lowest_13 rfl ?_
      refine wp_lload dX4_lowest_15 rfl ?_
      have hy0 : 0 < y.toNat := by rcases Nat.eq_zero_or_pos y.toNat with e | e; exact absurd (lcm_0.mpr e) hh10; exact e
      refine wp_lrem dX4_lowest_17 (by omega) (by omega) (by omega) ?_
      refine wp_lst (L' := [some (vl _), none, some (vl _), none, some (vi _), some (vl _), none, some (vl _), none, some (vl _), none]) dX4_lowest_18 (Nat.le_of_ble_eq_true rfl) rfl ?_
      refine wp_lload dX4_lowest_20 rfl ?_
      refine wp_lst (L' := [some (vl _), none, some (vl _), none, some (vi _), some (vl _), none, some (vl _), none, some (vl _), none]) dX4_lowest_22 (Nat.le_of_ble_eq_true rfl) rfl ?_
      refine wp_lload dX4_lowest_24 rfl ?_
      refine wp_lst (L' := [some (vl _), none, some (vl _), none, some (vi _), some (vl _), none, some (vl _), none, some (vl _), none]) dX4_lowest_26 (Nat.le_of_ble_eq_true rfl) rfl ?_
      refine wp_gotoN 6 dX4_lowest_28 (by decide) ?_
      refine ih y (x % y) _ _ (by rw [BitVec.toNat_umod]; have := Nat.mod_lt x.toNat hy0; omega) hy (by rw [BitVec.toNat_umod]; have := Nat.mod_lt x.toNat hy0; omega) ?_
      rw [BitVec.toNat_umod, ← hgc, Nat.gcd_comm x.toNat y.toNat, Nat.gcd_rec y.toNat x.toNat, Nat.gcd_comm]
set_option maxRecDepth 20000 in
theorem s4_lowest {d : Nat} {σ : aS} {Q : aQ} {t b : BitVec 64} {w : Int} {NC : Nat} (ht : t.toNat < 2 ^ 63) (hb2 : b.toNat < 2 ^ 63) (hb : 0 < b.toNat) (hQ : Q (some (vl (lwv t.toNat b.toNat w))) σ) : aCall NC (d + 1) mX4_lowest [vl t, vl b, vi w] σ Q := by
  refine cl_in (own := RX4) (cc := cX4_lowest) (rk := 2) (L := [some (vl t), none, some (vl b), none, some (vi w), none, none, none, none, none, none]) rfl rfl rfl rfl (by decide) (Nat.le_of_ble_eq_true rfl) ?_
  refine wp_lload_n dX4_lowest_0 rfl ?_
  refine wp_lst (L' := [some (vl _), none, some (vl _), none, some (vi _), some (vl _), none, none, none, none, none]) dX4_lowest_1 (Nat.le_of_ble_eq_true rfl) rfl ?_
  refine wp_lload_n dX4_lowest_3 rfl ?_
  refine wp_lst (L' := [some (vl _), none, some (vl _), none, some (vi _), some (vl _), none, some (vl _), none, none, none]) dX4_lowest_4 (Nat.le_of_ble_eq_true rfl) rfl ?_
  exact l4_low ht hb2 hb hQ (b.toNat + 1) t b _ _ (by omega) ht hb2 rfl
set_option maxRecDepth 20000 in
theorem s4_no {d : Nat} {σ : aS} {Q : aQ} {x : Int} {NC : Nat} (hQ : Q (some (vl (9223372036854775808#64 - BitVec.ofInt 64 x))) σ) : aCall NC (d + 1) mX4_no [vi x] σ Q := by
  refine cl_in (own := RX4) (cc := cX4_no) (rk := 2) (L := [some (vi x)]) rfl rfl rfl rfl (by decide) (Nat.le_of_ble_eq_true rfl) ?_
  refine wp_ldc2 dX4_no_0 llX4_63 ?_
  refine wp_iload_n dX4_no_3 rfl ?_
  refine wp_i2l dX4_no_4 ?_
  refine wp_lsub dX4_no_5 ?_
  refine wp_lret dX4_no_6 rfl ?_
  exact hQ
