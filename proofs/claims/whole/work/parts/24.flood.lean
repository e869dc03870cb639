noncomputable def wtN (c s : Int) : Nat → Int
  | 0 => 1
  | k + 1 => wtN c s k * cif (isB s k) c (16 - c)
noncomputable def smN (g : aG) (c cell : Int) (n : Nat) : Nat → Int
  | 0 => 0
  | s + 1 => smN g c cell n s + cif (Rch (flW g) g (spS g s) cell) (wtN c s n) 0
theorem wtN_in {c s : Int} (hc : 0 ≤ c ∧ c ≤ 16) : ∀ n, 0 ≤ wtN c s n ∧ wtN c s n ≤ 16 ^ n := by
  intro n
  induction n with
  | zero => show 0 ≤ (1 : Int) ∧ (1 : Int) ≤ 16 ^ 0; decide
  | succ n ih =>
    have hf : 0 ≤ cif (isB s n) c (16 - c) ∧ cif (isB s n) c (16 - c) ≤ 16 := by
      by_cases h : isB s n
      · rw [cif_t h]; exact hc
      · rw [cif_f h]; omega
    refine ⟨Int.mul_nonneg ih.1 hf.1, ?_⟩
    rw [Int.pow_succ]
    exact Int.mul_le_mul ih.2 hf.2 hf.1 (Int.le_trans ih.1 ih.2)
theorem smN_in {g : aG} {c cell : Int} (hc : 0 ≤ c ∧ c ≤ 16) {n : Nat} : ∀ s : Nat, 0 ≤ smN g c cell n s ∧ smN g c cell n s ≤ s * 16 ^ n := by
  intro s
  induction s with
  | zero => show 0 ≤ (0 : Int) ∧ (0 : Int) ≤ ((0 : Nat) : Int) * 16 ^ n; simp
  | succ s ih =>
    have hw := wtN_in (s := (s : Int)) hc n
    have e : ((s + 1 : Nat) : Int) * 16 ^ n = s * 16 ^ n + 16 ^ n := by rw [Int.natCast_add, Int.add_mul]; simp
    rw [e]
    show 0 ≤ smN g c cell n s + cif (Rch (flW g) g (spS g s) cell) (wtN c s n) 0 ∧ smN g c cell n s + cif (Rch (flW g) g (spS g s) cell) (wtN c s n) 0 ≤ _
    by_cases h : Rch (flW g) g (spS g s) cell
    · rw [cif_t h]; omega
    · rw [cif_f h]; omega
def lwv (t b : Nat) (w : Int) : BitVec 64 := BitVec.ofNat 64 (if w = 0 then t / Nat.gcd t b else b / Nat.gcd t b)
noncomputable def spn (g : aG) : Nat := (cnt (fun c => ggk g c = 3) (ggn g).toNat).toNat
noncomputable def flv (g : aG) (c cell w : Int) : BitVec 64 := lwv (smN g c cell (spn g) (2 ^ spn g)).toNat (2 ^ (4 * spn g)) w
noncomputable def vFlood (z : aZ) (c cell w : Int) : BitVec 64 := cif ((0 ≤ c ∧ c ≤ 16) ∧ (0 ≤ cell ∧ cell ≤ ggn (Gz z) - 1) ∧ (0 ≤ w ∧ w ≤ 1) ∧ spn (Gz z) < 10) (flv (Gz z) c cell w) (9223372036854775808#64 - BitVec.ofInt 64 (-2))
theorem lcm_0 {x : BitVec 64} : lcm x 0#64 = 0 ↔ x.toNat = 0 := by
  unfold lcm
  constructor
  · intro h
    split at h
    · omega
    · split at h
      · rename_i e; rw [e]; rfl
      · omega
  · intro h
    have e : x = 0#64 := BitVec.eq_of_toNat_eq h
    subst e
    rw [if_neg (by decide), if_pos rfl]
theorem q_l {x y : BitVec 64} {Q : aQ} {σ : aS} (h : x = y) (hQ : Q (some (vl y)) σ) : Q (some (vl x)) σ := by rw [h]; exact hQ
set_option maxRecDepth 20000 in
theorem l4_low {d NC : Nat} {σ : aS} {Q : aQ} {t b : BitVec 64} {w : Int} (ht : t.toNat < 2 ^ 63) (hb2 : b.toNat < 2 ^ 63) (hb : 0 < b.toNat) (hQ : Q (some (vl (lwv t.toNat b.toNat w))) σ) : ∀ (r : Nat) (x y : BitVec 64) (u9 u10 : Option aV), y.toNat < r → x.toNat < 2 ^ 63 → y.toNat < 2 ^ 63 → Nat.gcd x.toNat y.toNat = Nat.gcd t.toNat b.toNat → Wp RX4 cX4_lowest NC (aCall NC (d)) Q 2 false 0 (fun _ => 0) 6 [some (vl t), none, some (vl b), none, some (vi w), some (vl x), none, some (vl y), none, u9, u10] [] σ := by
  intro r
  induction r with
  | zero =>
    intro x y u9 u10 hm hx hy hgc
    exact absurd hm (Nat.not_lt_zero _)
  | succ r ih =>
    intro x y u9 u10 hm hx hy hgc
    have hty : ∀ v : BitVec 64, v.toNat < 2 ^ 64 := fun v => v.isLt
    refine wp_lload dX4_lowest_6 rfl ?_
    refine wp_lconst0 dX4_lowest_8 ?_
    refine wp_lcmp dX4_lowest_9 ?_
    refine wp_if_eq 31 dX4_lowest_10 (by decide) (fun hh10 => ?_) (fun hh10 => ?_)
    · have e0 := lcm_0.mp hh10
      rw [e0, Nat.gcd_zero_right] at hgc
      have hgp : 0 < Nat.gcd t.toNat b.toNat := Nat.gcd_pos_of_pos_right _ hb
      refine wp_iload dX4_lowest_31 rfl ?_
      refine wp_if_ne 43 dX4_lowest_33 (by decide) (fun hh33 => ?_) (fun hh33 => ?_)
      · refine wp_lload_n dX4_lowest_43 rfl ?_
        refine wp_lload dX4_lowest_44 rfl ?_
        refine wp_ldiv dX4_lowest_46 (by omega) (by omega) (by omega) ?_
        refine wp_lret dX4_lowest_47 rfl ?_
        first
        | (
          have e1 : t / x = lwv t.toNat b.toNat w := by
            apply BitVec.eq_of_toNat_eq
            rw [BitVec.toNat_udiv, hgc]
            unfold lwv
            rw [if_pos (by omega), BitVec.toNat_ofNat]
            have := Nat.div_le_self t.toNat (Nat.gcd t.toNat b.toNat)
            rw [Nat.mod_eq_of_lt (by omega)]
          rw [e1]
          exact hQ)
        | (
          have e1 : b / x = lwv t.toNat b.toNat w := by
            apply BitVec.eq_of_toNat_eq
            rw [BitVec.toNat_udiv, hgc]
            unfold lwv
            rw [if_neg (by omega), BitVec.toNat_ofNat]
            have := Nat.div_le_self b.toNat (Nat.gcd t.toNat b.toNat)
            rw [Nat.mod_eq_of_lt (by omega)]
          rw [e1]
          exact hQ)
      · refine wp_lload_n dX4_lowest_36 rfl ?_
        refine wp_lload dX4_lowest_37 rfl ?_
        refine wp_ldiv dX4_lowest_39 (by omega) (by omega) (by omega) ?_
        refine wp_gotoN 47 dX4_lowest_40 (by decide) ?_
        refine wp_lret dX4_lowest_47 rfl ?_
        first
        | (
          have e1 : t / x = lwv t.toNat b.toNat w := by
            apply BitVec.eq_of_toNat_eq
            rw [BitVec.toNat_udiv, hgc]
            unfold lwv
            rw [if_pos (by omega), BitVec.toNat_ofNat]
            have := Nat.div_le_self t.toNat (Nat.gcd t.toNat b.toNat)
            rw [Nat.mod_eq_of_lt (by omega)]
          rw [e1]
          exact hQ)
        | (
          have e1 : b / x = lwv t.toNat b.toNat w := by
            apply BitVec.eq_of_toNat_eq
            rw [BitVec.toNat_udiv, hgc]
            unfold lwv
            rw [if_neg (by omega), BitVec.toNat_ofNat]
            have := Nat.div_le_self b.toNat (Nat.gcd t.toNat b.toNat)
            rw [Nat.mod_eq_of_lt (by omega)]
          rw [e1]
          exact hQ)
    · refine wp_lload dX4_lowest_13 rfl ?_
      refine wp_lload dX4_lowest_15 rfl ?_
      have hy0 : 0 < y.toNat := by rcases Nat.eq_zero_or_pos y.toNat with e | e; exact absurd (lcm_0.mpr e) hh10; exact e
      refine wp_lrem dX4_lowest_17 (by omega) (by omega) (by omega) ?_
      refine wp_lst (L' := [some (vl _), none, some (vl _), none, some (vi _), some (vl _), none, some (vl _), none, some (vl _), none]) dX4_lowest_18 (Nat.le_of_ble_eq_true rfl) rfl ?_
      refine wp_lload dX4_lowest_20 rfl ?_
      refine wp_lst (L' := [some (vl _), none, some (vl _), none, some (vi _), some (vl _), none, some (vl _), none, some (vl _), none]) dX4_lowest_22 (Nat.le_of_ble_eq_true rfl) rfl ?_
      refine wp_lload dX4_lowest_24 rfl ?_
      refine wp_lst (L' := [some (vl _), none, some (vl _), none, some (vi _), some (vl _), none, some (vl _), none, some (vl _), none]) dX4_lowest_26 (Nat.le_of_ble_eq_true rfl) rfl ?_
      refine wp_gotoN 6 dX4_lowest_28 (by decide) ?_
      refine ih y (x % y) _ _ (by rw [BitVec.toNat_umod]; have := Nat.mod_lt x.toNat hy0; omega) hy (by rw [BitVec.toNat_umod]; have := Nat.mod_lt x.toNat hy0; omega) ?_
      rw [BitVec.toNat_umod, ← hgc, Nat.gcd_comm x.toNat y.toNat, Nat.gcd_rec y.toNat x.toNat, Nat.gcd_comm]
set_option maxRecDepth 20000 in
theorem s4_lowest {d : Nat} {σ : aS} {Q : aQ} {t b : BitVec 64} {w : Int} {NC : Nat} (ht : t.toNat < 2 ^ 63) (hb2 : b.toNat < 2 ^ 63) (hb : 0 < b.toNat) (hQ : Q (some (vl (lwv t.toNat b.toNat w))) σ) : aCall NC (d + 1) mX4_lowest [vl t, vl b, vi w] σ Q := by
  refine cl_in (own := RX4) (cc := cX4_lowest) (rk := 2) (L := [some (vl t), none, some (vl b), none, some (vi w), none, none, none, none, none, none]) rfl rfl rfl rfl (by decide) (Nat.le_of_ble_eq_true rfl) ?_
  refine wp_lload_n dX4_lowest_0 rfl ?_
  refine wp_lst (L' := [some (vl _), none, some (vl _), none, some (vi _), some (vl _), none, none, none, none, none]) dX4_lowest_1 (Nat.le_of_ble_eq_true rfl) rfl ?_
  refine wp_lload_n dX4_lowest_3 rfl ?_
  refine wp_lst (L' := [some (vl _), none, some (vl _), none, some (vi _), some (vl _), none, some (vl _), none, none, none]) dX4_lowest_4 (Nat.le_of_ble_eq_true rfl) rfl ?_
  exact l4_low ht hb2 hb hQ (b.toNat + 1) t b _ _ (by omega) ht hb2 rfl
set_option maxRecDepth 20000 in
theorem s4_no {d : Nat} {σ : aS} {Q : aQ} {x : Int} {NC : Nat} (hQ : Q (some (vl (9223372036854775808#64 - BitVec.ofInt 64 x))) σ) : aCall NC (d + 1) mX4_no [vi x] σ Q := by
  refine cl_in (own := RX4) (cc := cX4_no) (rk := 2) (L := [some (vi x)]) rfl rfl rfl rfl (by decide) (Nat.le_of_ble_eq_true rfl) ?_
  refine wp_ldc2 dX4_no_0 llX4_63 ?_
  refine wp_iload_n dX4_no_3 rfl ?_
  refine wp_i2l dX4_no_4 ?_
  refine wp_lsub dX4_no_5 ?_
  refine wp_lret dX4_no_6 rfl ?_
  exact hQ
set_option maxRecDepth 20000 in
theorem l4_fk {d : Nat} {σ : aS} {Q : aQ} {c cell w st : Int} {n : Nat} {s : BitVec 64} (hc : 0 ≤ c ∧ c ≤ 16) (hn9 : n ≤ 9) : ∀ (r : Nat) (k : Nat) (x : BitVec 64), k + r = n → x = BitVec.ofInt 64 (wtN c st k) → Wp RX4 cX4_floodOf 34 (aCall 34 (d + 3)) Q 2 false 0 (fun _ => 0) 65 [some (vr 18), some (vi c), some (vi cell), some (vi w), some (vi n), some (vl s), none, some (vi st), some (vl (BitVec.ofInt 64 (wtN c st n))), none, some (vi n)] [] σ → Wp RX4 cX4_floodOf 34 (aCall 34 (d + 3)) Q 2 false 0 (fun _ => 0) 27 [some (vr 18), some (vi c), some (vi cell), some (vi w), some (vi n), some (vl s), none, some (vi st), some (vl x), none, some (vi k)] [] σ := by
  intro r
  induction r with
  | zero =>
    intro k x hk hx hK
    refine wp_iload dX4_floodOf_27 rfl ?_
    refine wp_iload dX4_floodOf_29 rfl ?_
    refine wp_ic_ge 65 dX4_floodOf_31 (by decide) (fun hh31 => ?_) (fun hh31 => ?_)
    · have e : k = n := by omega
      subst e
      rw [hx]
      exact hK
    · exact absurd hk (by omega)
  | succ r ih =>
    intro k x hk hx hK
    refine wp_iload dX4_floodOf_27 rfl ?_
    refine wp_iload dX4_floodOf_29 rfl ?_
    refine wp_ic_ge 65 dX4_floodOf_31 (by decide) (fun hh31 => ?_) (fun hh31 => ?_)
    · exact absurd hk (by omega)
    · refine wp_lload dX4_floodOf_34 rfl ?_
      refine wp_iload dX4_floodOf_36 rfl ?_
      refine wp_iload dX4_floodOf_38 rfl ?_
      refine wp_S2 dX4_floodOf_40 zlX4_163 (Nat.le_of_ble_eq_true rfl) ?_
      refine s4_isIn (by omega) (by omega) ?_
      refine wp_ifB_eq 51 dX4_floodOf_43 (by decide) (fun hh43 => ?_) (fun hh43 => ?_)
      · refine wp_bipush dX4_floodOf_51 (by decide) ?_
        refine wp_iload_n dX4_floodOf_53 rfl ?_
        refine wp_isubN dX4_floodOf_54 (by omega) ?_
        refine wp_i2l dX4_floodOf_55 ?_
        refine wp_lmul dX4_floodOf_56 ?_
        refine wp_lst (L' := [some (vr _), some (vi _), some (vi _), some (vi _), some (vi _), some (vl _), none, some (vi _), some (vl _), none, some (vi _)]) dX4_floodOf_57 (Nat.le_of_ble_eq_true rfl) rfl ?_
        refine wp_iincN (L' := [some (vr _), some (vi _), some (vi _), some (vi _), some (vi _), some (vl _), none, some (vi _), some (vl _), none, some (vi _)]) dX4_floodOf_59 rfl (by omega) rfl ?_
        refine wp_gotoN 27 dX4_floodOf_62 (by decide) ?_
        refine ih (k + 1) _ (by omega) ?_ hK
        show _ = BitVec.ofInt 64 (wtN c st k * cif (isB st k) c (16 - c))
        rw [cif_f hh43, BitVec.ofInt_mul, hx]
      · refine wp_iload_n dX4_floodOf_46 rfl ?_
        refine wp_i2l dX4_floodOf_47 ?_
        refine wp_gotoN 56 dX4_floodOf_48 (by decide) ?_
        refine wp_lmul dX4_floodOf_56 ?_
        refine wp_lst (L' := [some (vr _), some (vi _), some (vi _), some (vi _), some (vi _), some (vl _), none, some (vi _), some (vl _), none, some (vi _)]) dX4_floodOf_57 (Nat.le_of_ble_eq_true rfl) rfl ?_
        refine wp_iincN (L' := [some (vr _), some (vi _), some (vi _), some (vi _), some (vi _), some (vl _), none, some (vi _), some (vl _), none, some (vi _)]) dX4_floodOf_59 rfl (by omega) rfl ?_
        refine wp_gotoN 27 dX4_floodOf_62 (by decide) ?_
        refine ih (k + 1) _ (by omega) ?_ hK
        show _ = BitVec.ofInt 64 (wtN c st k * cif (isB st k) c (16 - c))
        rw [cif_t hh43, BitVec.ofInt_mul, hx]
theorem pw_sh {n : Nat} (h : n ≤ 9) : w32 (1 * 2 ^ ((n : Int)).toNat) = ((2 ^ n : Nat) : Int) ∧ 2 ^ n ≤ 512 := by
  have h1 : 2 ^ n ≤ 2 ^ 9 := Nat.pow_le_pow_right (by decide) h
  have h2 : ((2 : Int) ^ n) = ((2 ^ n : Nat) : Int) := by simp
  rw [Int.toNat_natCast, Int.one_mul, h2]
  clear h2
  generalize (2 ^ n : Nat) = q at h1 ⊢
  exact ⟨w32_id (by omega) (by omega), h1⟩
theorem sm_nat {g : aG} {c cell : Int} (hc : 0 ≤ c ∧ c ≤ 16) {n : Nat} (hn : n ≤ 9) : (BitVec.ofInt 64 (smN g c cell n (2 ^ n))).toNat = (smN g c cell n (2 ^ n)).toNat ∧ (smN g c cell n (2 ^ n)).toNat < 2 ^ 63 := by
  have h := smN_in (g := g) (cell := cell) hc (n := n) (2 ^ n)
  have e : ((2 ^ n : Nat) : Int) * 16 ^ n = ((2 ^ n * 16 ^ n : Nat) : Int) := by simp
  rw [e] at h
  have h2 : 2 ^ n * 16 ^ n ≤ 2 ^ 9 * 16 ^ 9 := Nat.mul_le_mul (Nat.pow_le_pow_right (by decide) hn) (Nat.pow_le_pow_right (by decide) hn)
  have h3 : (2 ^ 9 * 16 ^ 9 : Nat) = 35184372088832 := by decide
  generalize smN g c cell n (2 ^ n) = v at h ⊢
  generalize 2 ^ n * 16 ^ n = q at h h2
  rw [BitVec.toNat_ofInt]
  have h4 : ((2 ^ 64 : Nat) : Int) = 18446744073709551616 := by decide
  rw [h4]
  omega
theorem sh_nat {n : Nat} (hn : n ≤ 9) : (1#64 <<< ((4 : Int) * (n : Int)).toNat).toNat = 2 ^ (4 * n) ∧ 2 ^ (4 * n) < 2 ^ 63 := by
  have e : ((4 : Int) * (n : Int)).toNat = 4 * n := by omega
  have h : 2 ^ (4 * n) ≤ 2 ^ 36 := Nat.pow_le_pow_right (by decide) (by omega)
  rw [e, BitVec.toNat_shiftLeft, Nat.shiftLeft_eq]
  have h1 : (1#64).toNat = 1 := by decide
  rw [h1, Nat.one_mul]
  have h2 : (2 ^ 36 : Nat) = 68719476736 := by decide
  exact ⟨Nat.mod_eq_of_lt (by omega), by omega⟩
set_option maxRecDepth 20000 in
theorem l4_fo {d : Nat} {σ0 : aS} {Q : aQ} {g : aG} {c cell w : Int} {n : Nat} (hg : GV g) (he0 : gOf σ0 = g) (hc : 0 ≤ c ∧ c ≤ 16) (hcell : 0 ≤ cell ∧ cell < ggn g) (hn9 : n ≤ 9) : ∀ (r : Nat) (st : Nat) (s : BitVec 64) (σ : aS) (u8 u9 u10 : Option aV), st + r = 2 ^ n → F1 25 σ0 σ → s = BitVec.ofInt 64 (smN g c cell n st) → (hQ : ∀ σq, F1 25 σ0 σq → Q (some (vl (lwv (smN g c cell n (2 ^ n)).toNat (2 ^ (4 * n)) w))) σq) → Wp RX4 cX4_floodOf 34 (aCall 34 (d + 3)) Q 2 false 0 (fun _ => 0) 12 [some (vr 18), some (vi c), some (vi cell), some (vi w), some (vi n), some (vl s), none, some (vi st), u8, u9, u10] [] σ := by
  intro r
  induction r with
  | zero =>
    intro st s σ u8 u9 u10 hk hF hs hQ
    have he := hF.g (by decide) he0
    have hn4 := gn_g he
    have hn35 := hg.2.1
    have hpw := pw_sh hn9
    refine wp_iload dX4_floodOf_12 rfl ?_
    refine wp_iconst dX4_floodOf_14 (by decide) ?_
    refine wp_iload dX4_floodOf_15 rfl ?_
    refine wp_ishl dX4_floodOf_17 (by omega) (by omega) ?_
    rw [hpw.1]
    refine wp_ic_ge 97 dX4_floodOf_18 (by decide) (fun hh18 => ?_) (fun hh18 => ?_)
    · refine wp_lload dX4_floodOf_97 rfl ?_
      refine wp_lconst1 dX4_floodOf_99 ?_
      refine wp_iconst dX4_floodOf_100 (by decide) ?_
      refine wp_iload dX4_floodOf_101 rfl ?_
      refine wp_imulN dX4_floodOf_103 (by omega) ?_
      refine wp_lshl dX4_floodOf_104 (by omega) (by omega) ?_
      refine wp_iload_n dX4_floodOf_105 rfl ?_
      have e : st = 2 ^ n := by omega
      subst e
      have hsn := sm_nat (g := g) (cell := cell) hc hn9
      have hsh := sh_nat hn9
      rw [hs]
      refine wp_S3 dX4_floodOf_106 zlX4_206 (Nat.le_of_ble_eq_true rfl) ?_
      refine s4_lowest (by rw [hsn.1]; exact hsn.2) (by rw [hsh.1]; exact hsh.2) (by rw [hsh.1]; exact Nat.pow_pos (by decide)) ?_
      refine wp_lret dX4_floodOf_109 rfl ?_
      rw [hsn.1, hsh.1]
      exact hQ σ hF
    · exact absurd hk (by omega)
  | succ r ih =>
    intro st s σ u8 u9 u10 hk hF hs hQ
    have he := hF.g (by decide) he0
    have hn4 := gn_g he
    have hn35 := hg.2.1
    have hpw := pw_sh hn9
    refine wp_iload dX4_floodOf_12 rfl ?_
    refine wp_iconst dX4_floodOf_14 (by decide) ?_
    refine wp_iload dX4_floodOf_15 rfl ?_
    refine wp_ishl dX4_floodOf_17 (by omega) (by omega) ?_
    rw [hpw.1]
    refine wp_ic_ge 97 dX4_floodOf_18 (by decide) (fun hh18 => ?_) (fun hh18 => ?_)
    · exact absurd hk (by omega)
    · refine wp_lconst1 dX4_floodOf_21 ?_
      refine wp_lst (L' := [some (vr _), some (vi _), some (vi _), some (vi _), some (vi _), some (vl _), none, some (vi _), some (vl _), none, _]) dX4_floodOf_22 (Nat.le_of_ble_eq_true rfl) rfl ?_
      refine wp_iconst dX4_floodOf_24 (by decide) ?_
      refine wp_ist (L' := [some (vr _), some (vi _), some (vi _), some (vi _), some (vi _), some (vl _), none, some (vi _), some (vl _), none, some (vi _)]) dX4_floodOf_25 (Nat.le_of_ble_eq_true rfl) rfl ?_
      refine l4_fk hc hn9 n 0 _ (by omega) rfl ?_
      refine wp_aload_n dX4_floodOf_65 rfl ?_
      refine wp_iload dX4_floodOf_66 rfl ?_
      refine wp_V1 dX4_floodOf_68 vlX4_167 (by decide) rfl (Nat.le_of_ble_eq_true rfl) ?_
      refine s4_flows he hg (fun σ2 hF2 hwet => ?_)
      have hv := hwet cell.toNat (by omega)
      rw [Int.toNat_of_nonneg hcell.1] at hv
      refine wp_lload dX4_floodOf_71 rfl ?_
      refine wp_aload_n dX4_floodOf_73 rfl ?_
      refine wp_getR dX4_floodOf_74 flX4_29 (by decide) rfl rfl ?_
      refine wp_iload_n dX4_floodOf_77 rfl ?_
      refine wp_baload dX4_floodOf_78 (by decide) rfl (by omega) (by omega) (by decide) ?_
      refine wp_if_eq 87 dX4_floodOf_79 (by decide) (fun hh79 => ?_) (fun hh79 => ?_)
      · refine wp_lconst0 dX4_floodOf_87 ?_
        refine wp_ladd dX4_floodOf_88 ?_
        refine wp_lst (L' := [some (vr _), some (vi _), some (vi _), some (vi _), some (vi _), some (vl _), none, some (vi _), some (vl _), none, some (vi _)]) dX4_floodOf_89 (Nat.le_of_ble_eq_true rfl) rfl ?_
        refine wp_iincN (L' := [some (vr _), some (vi _), some (vi _), some (vi _), some (vi _), some (vl _), none, some (vi _), some (vl _), none, some (vi _)]) dX4_floodOf_91 rfl (by omega) rfl ?_
        refine wp_gotoN 12 dX4_floodOf_94 (by decide) ?_
        refine ih (st + 1) _ σ2 _ _ _ (by omega) (hF.tr hF2) ?_ hQ
        show _ = BitVec.ofInt 64 (smN g c cell n st + cif (Rch (flW g) g (spS g st) cell) (wtN c st n) 0)
        rw [cif_f (fun q => absurd hh79 (by rw [hv, bi_t q]; decide)), BitVec.ofInt_add, hs]; rfl
      · refine wp_lload dX4_floodOf_82 rfl ?_
        refine wp_gotoN 88 dX4_floodOf_84 (by decide) ?_
        refine wp_ladd dX4_floodOf_88 ?_
        refine wp_lst (L' := [some (vr _), some (vi _), some (vi _), some (vi _), some (vi _), some (vl _), none, some (vi _), some (vl _), none, some (vi _)]) dX4_floodOf_89 (Nat.le_of_ble_eq_true rfl) rfl ?_
        refine wp_iincN (L' := [some (vr _), some (vi _), some (vi _), some (vi _), some (vi _), some (vl _), none, some (vi _), some (vl _), none, some (vi _)]) dX4_floodOf_91 rfl (by omega) rfl ?_
        refine wp_gotoN 12 dX4_floodOf_94 (by decide) ?_
        refine ih (st + 1) _ σ2 _ _ _ (by omega) (hF.tr hF2) ?_ hQ
        show _ = BitVec.ofInt 64 (smN g c cell n st + cif (Rch (flW g) g (spS g st) cell) (wtN c st n) 0)
        rw [cif_t (Classical.byContradiction fun q => hh79 (by rw [hv, bi_f q])), BitVec.ofInt_add, hs]
set_option maxRecDepth 20000 in
theorem s4_floodOf {d : Nat} {σ : aS} {Q : aQ} {c cell w : Int} {g : aG} (he : gOf σ = g) (hg : GV g) (hc : 0 ≤ c ∧ c ≤ 16) (hcell : 0 ≤ cell ∧ cell < ggn g) (hs9 : spn g < 10) (hQ : ∀ σq, F1 25 σ σq → Q (some (vl (flv g c cell w))) σq) : aCall 34 (d + 4) mX4_floodOf [vr 18, vi c, vi cell, vi w] σ Q := by
  refine cl_in (own := RX4) (cc := cX4_floodOf) (rk := 2) (L := [some (vr 18), some (vi c), some (vi cell), some (vi w), none, none, none, none, none, none, none]) rfl rfl rfl rfl (by decide) (Nat.le_of_ble_eq_true rfl) ?_
  refine wp_aload_n dX4_floodOf_0 rfl ?_
  refine wp_V0 dX4_floodOf_1 vlX4_203 (by decide) rfl (Nat.le_of_ble_eq_true rfl) ?_
  refine s4_springs (he ▸ hg) ?_
  have hn4 := gn_g he
  rw [he, hn4]
  have hsp : cnt (fun c => ggk g c = 3) (ggn g).toNat = (spn g : Int) := by have := cnt_in (fun c => ggk g c = 3) (ggn g).toNat; unfold spn; omega
  rw [hsp]
  refine wp_ist (L' := [some (vr _), some (vi _), some (vi _), some (vi _), some (vi _), none, none, none, none, none, none]) dX4_floodOf_4 (Nat.le_of_ble_eq_true rfl) rfl ?_
  refine wp_lconst0 dX4_floodOf_6 ?_
  refine wp_lst (L' := [some (vr _), some (vi _), some (vi _), some (vi _), some (vi _), some (vl _), none, none, none, none, none]) dX4_floodOf_7 (Nat.le_of_ble_eq_true rfl) rfl ?_
  refine wp_iconst dX4_floodOf_9 (by decide) ?_
  refine wp_ist (L' := [some (vr _), some (vi _), some (vi _), some (vi _), some (vi _), some (vl _), none, some (vi _), none, none, none]) dX4_floodOf_10 (Nat.le_of_ble_eq_true rfl) rfl ?_
  exact l4_fo hg he hc hcell (by omega) (2 ^ spn g) 0 _ σ _ _ _ (by omega) F1.rf rfl hQ
set_option maxRecDepth 20000 in
theorem p4_flood {d : Nat} {σ : aS} {Q : aQ} {c cell w : Int} {z : aZ} (hm : MI σ z) (hz : ZV z) (hQ : ∀ σ', Frm σ σ' → MI σ' z → Q (some (vl (vFlood z c cell w))) σ') : aCall 34 (d + 5) mX4_flood [vr 18, vi c, vi cell, vi w] σ Q := by
  refine cl_in (own := RX4) (cc := cX4_flood) (rk := 2) (L := [some (vr 18), some (vi c), some (vi cell), some (vi w)]) rfl rfl rfl rfl (by decide) (Nat.le_of_ble_eq_true rfl) ?_
  refine wp_iload_n dX4_flood_0 rfl ?_
  refine wp_iconst dX4_flood_1 (by decide) ?_
  refine wp_bipush dX4_flood_2 (by decide) ?_
  refine wp_S3 dX4_flood_4 zlX4_65 (Nat.le_of_ble_eq_true rfl) ?_
  refine s4_in ?_
  refine wp_ifB_eq 46 dX4_flood_7 (by decide) (fun hh7 => ?_) (fun hh7 => ?_)
  · refine wp_bipush dX4_flood_46 (by decide) ?_
    refine wp_S1 dX4_flood_48 zlX4_214 (Nat.le_of_ble_eq_true rfl) ?_
    refine s4_no ?_
    refine wp_lret dX4_flood_51 rfl ?_
    first
    | exact q_l (by unfold vFlood; rw [cif_f (fun q => hh7 q.1)]) (hQ σ Frm.rf hm)
    | exact q_l (by unfold vFlood; rw [cif_f (fun q => hh15 q.2.1)]) (hQ σ1 hf1 hr1.1)
    | exact q_l (by unfold vFlood; rw [cif_f (fun q => hh24 q.2.2.1)]) (hQ σ1 hf1 hr1.1)
    | exact q_l (by unfold vFlood; rw [cif_f (fun q => by have := q.2.2.2; omega)]) (hQ σ1 hf1 hr1.1)
    | exact q_l (by unfold vFlood; rw [cif_t ⟨hh7, hh15, hh24, by omega⟩]) (hQ σ2 (hf1.tr (hF2.m (by decide))) (hr1.f1 hF2 (by decide)).1)
  · refine wp_aload_n dX4_flood_10 rfl ?_
    refine wp_iload_n dX4_flood_11 rfl ?_
    refine wp_V1 dX4_flood_12 vlX4_102 (by decide) rfl (Nat.le_of_ble_eq_true rfl) ?_
    refine s4_isCell hm hz (fun σ1 hf1 hr1 => ?_)
    refine wp_ifB_eq 46 dX4_flood_15 (by decide) (fun hh15 => ?_) (fun hh15 => ?_)
    · refine wp_bipush dX4_flood_46 (by decide) ?_
      refine wp_S1 dX4_flood_48 zlX4_214 (Nat.le_of_ble_eq_true rfl) ?_
      refine s4_no ?_
      refine wp_lret dX4_flood_51 rfl ?_
      first
      | exact q_l (by unfold vFlood; rw [cif_f (fun q => hh7 q.1)]) (hQ σ Frm.rf hm)
      | exact q_l (by unfold vFlood; rw [cif_f (fun q => hh15 q.2.1)]) (hQ σ1 hf1 hr1.1)
      | exact q_l (by unfold vFlood; rw [cif_f (fun q => hh24 q.2.2.1)]) (hQ σ1 hf1 hr1.1)
      | exact q_l (by unfold vFlood; rw [cif_f (fun q => by have := q.2.2.2; omega)]) (hQ σ1 hf1 hr1.1)
      | exact q_l (by unfold vFlood; rw [cif_t ⟨hh7, hh15, hh24, by omega⟩]) (hQ σ2 (hf1.tr (hF2.m (by decide))) (hr1.f1 hF2 (by decide)).1)
    · refine wp_iload_n dX4_flood_18 rfl ?_
      refine wp_iconst dX4_flood_19 (by decide) ?_
      refine wp_iconst dX4_flood_20 (by decide) ?_
      refine wp_S3 dX4_flood_21 zlX4_65 (Nat.le_of_ble_eq_true rfl) ?_
      refine s4_in ?_
      refine wp_ifB_eq 46 dX4_flood_24 (by decide) (fun hh24 => ?_) (fun hh24 => ?_)
      · refine wp_bipush dX4_flood_46 (by decide) ?_
        refine wp_S1 dX4_flood_48 zlX4_214 (Nat.le_of_ble_eq_true rfl) ?_
        refine s4_no ?_
        refine wp_lret dX4_flood_51 rfl ?_
        first
        | exact q_l (by unfold vFlood; rw [cif_f (fun q => hh7 q.1)]) (hQ σ Frm.rf hm)
        | exact q_l (by unfold vFlood; rw [cif_f (fun q => hh15 q.2.1)]) (hQ σ1 hf1 hr1.1)
        | exact q_l (by unfold vFlood; rw [cif_f (fun q => hh24 q.2.2.1)]) (hQ σ1 hf1 hr1.1)
        | exact q_l (by unfold vFlood; rw [cif_f (fun q => by have := q.2.2.2; omega)]) (hQ σ1 hf1 hr1.1)
        | exact q_l (by unfold vFlood; rw [cif_t ⟨hh7, hh15, hh24, by omega⟩]) (hQ σ2 (hf1.tr (hF2.m (by decide))) (hr1.f1 hF2 (by decide)).1)
      · refine wp_aload_n dX4_flood_27 rfl ?_
        refine wp_V0 dX4_flood_28 vlX4_203 (by decide) rfl (Nat.le_of_ble_eq_true rfl) ?_
        refine s4_springs hr1.gv ?_
        rw [hr1.2.2.1, hr1.n]
        have hsp : cnt (fun c => ggk (Gz z) c = 3) (ggn (Gz z)).toNat = (spn (Gz z) : Int) := by have := cnt_in (fun c => ggk (Gz z) c = 3) (ggn (Gz z)).toNat; unfold spn; omega
        rw [hsp]
        refine wp_bipush dX4_flood_31 (by decide) ?_
        refine wp_ic_ge 46 dX4_flood_33 (by decide) (fun hh33 => ?_) (fun hh33 => ?_)
        · refine wp_bipush dX4_flood_46 (by decide) ?_
          refine wp_S1 dX4_flood_48 zlX4_214 (Nat.le_of_ble_eq_true rfl) ?_
          refine s4_no ?_
          refine wp_lret dX4_flood_51 rfl ?_
          first
          | exact q_l (by unfold vFlood; rw [cif_f (fun q => hh7 q.1)]) (hQ σ Frm.rf hm)
          | exact q_l (by unfold vFlood; rw [cif_f (fun q => hh15 q.2.1)]) (hQ σ1 hf1 hr1.1)
          | exact q_l (by unfold vFlood; rw [cif_f (fun q => hh24 q.2.2.1)]) (hQ σ1 hf1 hr1.1)
          | exact q_l (by unfold vFlood; rw [cif_f (fun q => by have := q.2.2.2; omega)]) (hQ σ1 hf1 hr1.1)
          | exact q_l (by unfold vFlood; rw [cif_t ⟨hh7, hh15, hh24, by omega⟩]) (hQ σ2 (hf1.tr (hF2.m (by decide))) (hr1.f1 hF2 (by decide)).1)
        · refine wp_aload_n dX4_flood_36 rfl ?_
          refine wp_iload_n dX4_flood_37 rfl ?_
          refine wp_iload_n dX4_flood_38 rfl ?_
          refine wp_iload_n dX4_flood_39 rfl ?_
          refine wp_V3 dX4_flood_40 vlX4_210 (by decide) rfl (Nat.le_of_ble_eq_true rfl) ?_
          refine s4_floodOf hr1.2.2.1 (Gz_ok hz) hh7 (by omega) (by omega) (fun σ2 hF2 => ?_)
          refine wp_gotoN 51 dX4_flood_43 (by decide) ?_
          refine wp_lret dX4_flood_51 rfl ?_
          first
          | exact q_l (by unfold vFlood; rw [cif_f (fun q => hh7 q.1)]) (hQ σ Frm.rf hm)
          | exact q_l (by unfold vFlood; rw [cif_f (fun q => hh15 q.2.1)]) (hQ σ1 hf1 hr1.1)
          | exact q_l (by unfold vFlood; rw [cif_f (fun q => hh24 q.2.2.1)]) (hQ σ1 hf1 hr1.1)
          | exact q_l (by unfold vFlood; rw [cif_f (fun q => by have := q.2.2.2; omega)]) (hQ σ1 hf1 hr1.1)
          | exact q_l (by unfold vFlood; rw [cif_t ⟨hh7, hh15, hh24, by omega⟩]) (hQ σ2 (hf1.tr (hF2.m (by decide))) (hr1.f1 hF2 (by decide)).1)
