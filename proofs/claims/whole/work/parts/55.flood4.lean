set_option maxRecDepth 20000 in
theorem l0_stw {d : Nat} {σ : aS} {Q : aQ} {g : aG} {cell : Int} (hp : PL σ g) (hw9 : ggn g ≤ 0 → 0 ≤ ggw g ∧ ggw g ≤ 7) (c0 : 0 ≤ cell) (c35 : cell < 35) (hQ : Q (some (vi (jwt g cell : Int))) σ) : ∀ (r : Nat) (k : Nat) (b : Int), k + r = (ggn g).toNat → b = cnt (fun s => spr g s ∧ wsP g cell s) k → Wp RX0 cX0_springsThatWet 34 (aCall 34 (d + 2)) Q 0 false 0 (fun _ => 0) 4 [some (vr 13), some (vi cell), some (vi b), some (vi (k : Int))] [] σ := by
  intro r
  induction r with
  | zero =>
    intro k b hk hb
    have hn := hp.n
    have hw := hp.1.1
    have hg := hp.gv
    have hb2 := cnt_in (fun s => spr g s ∧ wsP g cell s) k
    have hw7 : 0 ≤ ggw g ∧ ggw g ≤ 7 := by
      by_cases q : 0 < ggn g
      · have := hg.2.2.1 q; omega
      · exact hw9 (by omega)
    refine wp_iload_n dX0_springsThatWet_4 rfl ?_
    refine wp_aload_n dX0_springsThatWet_5 rfl ?_
    refine wp_getI dX0_springsThatWet_6 flX0_68 (by decide) rfl (Or.inl rfl) ?_
    refine wp_ic_ge 51 dX0_springsThatWet_9 (by decide) (fun hh9 => ?_) (fun hh9 => ?_)
    · refine wp_iload_n dX0_springsThatWet_51 rfl ?_
      refine wp_iret dX0_springsThatWet_52 (Or.inl rfl) ?_
      refine q_i ?_ hQ
      rw [hb, show k = (ggn g).toNat by omega]
      have := cnt_in (fun s => spr g s ∧ wsP g cell s) (ggn g).toNat
      unfold jwt
      exact (Int.toNat_of_nonneg this.1).symm
    · exfalso; omega
  | succ r ih =>
    intro k b hk hb
    have hn := hp.n
    have hw := hp.1.1
    have hg := hp.gv
    have hb2 := cnt_in (fun s => spr g s ∧ wsP g cell s) k
    have hw7 : 0 ≤ ggw g ∧ ggw g ≤ 7 := by
      by_cases q : 0 < ggn g
      · have := hg.2.2.1 q; omega
      · exact hw9 (by omega)
    have hx : SB (1#64 <<< k &&& σ.2 13 4) (fun i => one g k i) := (SB.an (fun i => bit_at (n := k) (by omega)) hp.2.2.1).c (fun i => by
      unfold one
      exact and_congr_left (fun _ => by omega))
    have hs := soak_g (S := one g k) hg hp.1 hp.2.2.1 hx (fun x q => q.2)
    have hbt : bt (soak σ (σ.2 13 4) (lsx σ (σ.2 13 4)) 35 (1#64 <<< k &&& σ.2 13 4)) cell ↔ wsP g cell k := by
      rw [bt_s hs, Int.toNat_of_nonneg c0]
      exact ⟨fun q => q.2.2, fun q => ⟨c0, c35, q⟩⟩
    have h6 : bt (σ.2 13 6) (k : Int) ↔ ggk g k = 3 := hp.b6 (by omega) (by omega)
    refine wp_iload_n dX0_springsThatWet_4 rfl ?_
    refine wp_aload_n dX0_springsThatWet_5 rfl ?_
    refine wp_getI dX0_springsThatWet_6 flX0_68 (by decide) rfl (Or.inl rfl) ?_
    refine wp_ic_ge 51 dX0_springsThatWet_9 (by decide) (fun hh9 => ?_) (fun hh9 => ?_)
    · exfalso; omega
    · refine wp_aload_n dX0_springsThatWet_12 rfl ?_
      refine wp_getJ dX0_springsThatWet_13 flX0_49 (by decide) rfl rfl ?_
      refine wp_iload_n dX0_springsThatWet_16 rfl ?_
      refine wp_S2 dX0_springsThatWet_17 zlX0_95 (Nat.le_of_ble_eq_true rfl) ?_
      refine s3_has ?_
      refine wp_ifB_eq 45 dX0_springsThatWet_20 (by decide) (fun hh20 => ?_) (fun hh20 => ?_)
      · refine wp_iincN (L' := [some (vr _), some (vi _), some (vi _), some (vi _)]) dX0_springsThatWet_45 rfl (by omega) rfl ?_
        refine wp_gotoN 4 dX0_springsThatWet_48 (by decide) ?_
        exact ih (k + 1) _ (by omega) (by rw [cnt_f (p := (fun s => spr g s ∧ wsP g cell s)) (fun q => hh20 (h6.mpr q.1)), ← hb])
      · refine wp_aload_n dX0_springsThatWet_23 rfl ?_
        refine wp_aload_n dX0_springsThatWet_24 rfl ?_
        refine wp_getJ dX0_springsThatWet_25 flX0_33 (by decide) rfl rfl ?_
        refine wp_iload_n dX0_springsThatWet_28 rfl ?_
        refine wp_S1 dX0_springsThatWet_29 zlX0_80 (Nat.le_of_ble_eq_true rfl) ?_
        refine s3_bit (by omega) (by omega) ?_
        refine wp_V2 dX0_springsThatWet_32 vlX0_52 (by decide) rfl (Nat.le_of_ble_eq_true rfl) ?_
        refine s0_soaked (by decide) (by omega) (by omega) ?_
        refine wp_iload_n dX0_springsThatWet_35 rfl ?_
        refine wp_S2 dX0_springsThatWet_36 zlX0_95 (Nat.le_of_ble_eq_true rfl) ?_
        refine s3_has ?_
        refine wp_ifB_eq 45 dX0_springsThatWet_39 (by decide) (fun hh39 => ?_) (fun hh39 => ?_)
        · refine wp_iincN (L' := [some (vr _), some (vi _), some (vi _), some (vi _)]) dX0_springsThatWet_45 rfl (by omega) rfl ?_
          refine wp_gotoN 4 dX0_springsThatWet_48 (by decide) ?_
          exact ih (k + 1) _ (by omega) (by rw [cnt_f (p := (fun s => spr g s ∧ wsP g cell s)) (fun q => hh39 (hbt.mpr q.2)), ← hb])
        · refine wp_iincN (L' := [some (vr _), some (vi _), some (vi _), some (vi _)]) dX0_springsThatWet_42 rfl (by omega) rfl ?_
          refine wp_iincN (L' := [some (vr _), some (vi _), some (vi _), some (vi _)]) dX0_springsThatWet_45 rfl (by omega) rfl ?_
          refine wp_gotoN 4 dX0_springsThatWet_48 (by decide) ?_
          exact ih (k + 1) _ (by omega) (by rw [cnt_t (p := (fun s => spr g s ∧ wsP g cell s)) ⟨h6.mp hh20, hbt.mp hh39⟩, ← hb])
set_option maxRecDepth 20000 in
theorem s0_stw {d : Nat} {σ : aS} {Q : aQ} {cell : Int} {g : aG} (hp : PL σ g) (hw9 : ggn g ≤ 0 → 0 ≤ ggw g ∧ ggw g ≤ 7) (c0 : 0 ≤ cell) (c35 : cell < 35) (hQ : Q (some (vi ((jwt g cell : Int)))) σ) : aCall 34 (d + 3) mX0_springsThatWet [vr 13, vi cell] σ Q := by
  refine cl_in (own := RX0) (cc := cX0_springsThatWet) (rk := 0) (L := [some (vr 13), some (vi cell), none, none]) rfl rfl rfl rfl (by decide) (Nat.le_of_ble_eq_true rfl) ?_
  refine wp_iconst dX0_springsThatWet_0 (by decide) ?_
  refine wp_istN (L' := [some (vr _), some (vi _), some (vi _), none]) dX0_springsThatWet_1 (Nat.le_of_ble_eq_true rfl) rfl ?_
  refine wp_iconst dX0_springsThatWet_2 (by decide) ?_
  refine wp_istN (L' := [some (vr _), some (vi _), some (vi _), some (vi _)]) dX0_springsThatWet_3 (Nat.le_of_ble_eq_true rfl) rfl ?_
  exact l0_stw hp hw9 c0 c35 hQ (ggn g).toNat 0 0 (by have := hp.n; omega) rfl
theorem pw9 {e i : Nat} (he : e ≤ 16) (hi : i ≤ 9) : e ^ i ≤ 16 ^ i ∧ 16 ^ i ≤ 68719476736 := by
  refine ⟨Nat.pow_le_pow_left he i, ?_⟩
  have := Nat.pow_le_pow_right (n := 16) (by decide) hi
  have e9 : 16 ^ 9 = 68719476736 := by decide
  omega
theorem fld1 {x : BitVec 64} {i : Nat} (h : x.toNat = 16 ^ i) (hi : i < 9) : (x * 16#64).toNat = 16 ^ (i + 1) := by
  have h2 := (pw9 (e := 0) (i := i + 1) (by decide) (by omega)).2
  rw [BitVec.toNat_mul, h]
  show 16 ^ i * 16 % 2 ^ 64 = _
  rw [← Nat.pow_succ]
  exact Nat.mod_eq_of_lt (by omega)
theorem fld0 {c : Int} (h0 : 0 ≤ c) (h1 : c ≤ 16) : (BitVec.ofInt 64 (16 - c)).toNat = (16 - c).toNat := by
  rw [BitVec.toNat_ofInt]
  have : ((2 ^ 64 : Nat) : Int) = 18446744073709551616 := by decide
  rw [this]
  omega
theorem fld2 {y : BitVec 64} {i : Nat} {c : Int} (h0 : 0 ≤ c) (h1 : c ≤ 16) (h : y.toNat = (16 - c).toNat ^ i) (hi : i < 9) : (y * BitVec.ofInt 64 (16 - c)).toNat = (16 - c).toNat ^ (i + 1) := by
  have h2 := pw9 (e := (16 - c).toNat) (i := i + 1) (by omega) (by omega)
  rw [BitVec.toNat_mul, h, fld0 h0 h1, ← Nat.pow_succ]
  show (16 - c).toNat ^ (i + 1) % 2 ^ 64 = _
  exact Nat.mod_eq_of_lt (by omega)
theorem fld3 {x y : BitVec 64} (h : y.toNat ≤ x.toNat) : (x - y).toNat = x.toNat - y.toNat := by
  have := x.isLt
  rw [BitVec.toNat_sub]
  omega
theorem odd_0 {a b : BitVec 64} : ((a ||| b) &&& 1#64) = 0#64 ↔ (a.toNat % 2 = 0 ∧ b.toNat % 2 = 0) := by
  have e := sh_bit (x := a ||| b) (i9 := 0)
  rw [BitVec.ushiftRight_zero] at e
  rw [e, BitVec.getLsbD_or, Bool.or_eq_false_iff]
  have k : ∀ v : BitVec 64, v.getLsbD 0 = false ↔ v.toNat % 2 = 0 := fun v => by
    show v.toNat.testBit 0 = false ↔ _
    rw [Nat.testBit_zero, decide_eq_false_iff_not]
    omega
  rw [k, k]
theorem sar {x : BitVec 64} (h : x.toNat < 2 ^ 63) : (x.sshiftRight 1).toNat = x.toNat / 2 := by
  rw [BitVec.sshiftRight_eq_of_msb_false (nb_msb h), BitVec.toNat_ushiftRight, Nat.shiftRight_eq_div_pow]
theorem of_nat {x : BitVec 64} {n : Nat} (h : x.toNat = n) : x = BitVec.ofNat 64 n := by
  apply BitVec.eq_of_toNat_eq
  rw [BitVec.toNat_ofNat, ← h]
  exact (Nat.mod_eq_of_lt x.isLt).symm
theorem sm_t {g : aG} {c cell : Int} (hg : GV g) (hn : spn g ≤ 9) (h0 : 0 ≤ c) (h1 : c ≤ 16) : (smN g c cell (spn g) (2 ^ spn g)).toNat = 16 ^ (spn g - jwt g cell) * (16 ^ jwt g cell - (16 - c).toNat ^ jwt g cell) := by
  have hJ := jwt_le (g := g) (cell := cell)
  rw [sm_v hg hn]
  generalize jwt g cell = J at hJ ⊢
  generalize spn g = n at hJ hn ⊢
  have ec : (16 : Int) - c = (((16 - c).toNat : Nat) : Int) := by omega
  have he : (16 - c).toNat ≤ 16 := by omega
  rw [ec]
  generalize (16 - c).toNat = e at he ⊢
  rw [Int.toNat_natCast]
  have hp := (pw9 (e := e) (i := J) he (by omega)).1
  have k : (16 : Int) ^ n - (e : Int) ^ J * 16 ^ (n - J) = ((16 ^ (n - J) * (16 ^ J - e ^ J) : Nat) : Int) := by
    rw [Int.natCast_mul, Int.natCast_sub hp, Int.natCast_pow, Int.natCast_pow, Int.natCast_pow, Int.mul_sub]
    show (16 : Int) ^ n - (e : Int) ^ J * 16 ^ (n - J) = 16 ^ (n - J) * 16 ^ J - 16 ^ (n - J) * (e : Int) ^ J
    rw [← Int.pow_add, show n - J + J = n by omega, Int.mul_comm]
  rw [k]
  exact Int.toNat_natCast _
theorem pw_od {f : Nat} (h : 2 ^ f % 2 = 1) : f = 0 := by
  cases f with
  | zero => rfl
  | succ f => rw [Nat.pow_succ] at h; omega
theorem pw_ev {f : Nat} (h : 2 ^ f % 2 = 0) : ∃ e, f = e + 1 ∧ 2 ^ f / 2 = 2 ^ e := by
  cases f with
  | zero => exact absurd h (by decide)
  | succ f => exact ⟨f, rfl, by rw [Nat.pow_succ]; omega⟩
set_option maxRecDepth 20000 in
theorem l3_half {d : Nat} {σ : aS} {Q : aQ} {g : aG} {c cell w : Int} {A : Nat} {x4 : Int} {y : BitVec 64} (hJ9 : jwt g cell ≤ 9) (hw : 0 ≤ w ∧ w ≤ 1) (hT : (smN g c cell (spn g) (2 ^ spn g)).toNat = 16 ^ (spn g - jwt g cell) * A) (hQ : Q (some (vl (flv g c cell w))) σ) : ∀ (r : Nat) (k : Nat) (a b : BitVec 64) (f : Nat), k + r = 36 → A = a.toNat * 2 ^ k → b.toNat = 2 ^ f → f + k = 4 * jwt g cell → a.toNat < 2 ^ 40 → b.toNat < 2 ^ 40 → Wp RX3 cX3_flood 34 (aCall 34 (d)) Q 2 false 0 (fun _ => 0) 116 [some (vr 0), some (vi c), some (vi cell), some (vi w), some (vi x4), some (vl b), none, some (vl y), none, some (vl a), none, some (vi (k : Int))] [] σ := by
  intro r
  induction r with
  | zero =>
    intro k a b f hk hA hbf hf ha hb
    refine wp_iload dX3_flood_116 rfl ?_
    refine wp_bipush dX3_flood_118 (by decide) ?_
    refine wp_ic_ge 153 dX3_flood_120 (by decide) (fun hh120 => ?_) (fun hh120 => ?_)
    · have hv := low_v (n := spn g) (J := jwt g cell) (A := A) (a := a.toNat) (b := b.toNat) (i := k) (f := f) jwt_le hA hbf hf (Or.inr (by omega)) hT rfl
      have ev : flv g c cell w = BitVec.ofNat 64 (if w = 0 then a.toNat else b.toNat) := by
        unfold flv lwv
        rw [hv.1, hv.2]
      rw [ev] at hQ
      refine wp_iload_n dX3_flood_153 rfl ?_
      refine wp_if_ne 162 dX3_flood_154 (by decide) (fun hh154 => ?_) (fun hh154 => ?_)
      · refine wp_lload dX3_flood_162 rfl ?_
        refine wp_lret dX3_flood_164 rfl ?_
        first
        | (rw [if_neg (by omega)] at hQ; exact q_l (of_nat rfl) hQ)
        | (rw [if_pos (by omega)] at hQ; exact q_l (of_nat rfl) hQ)
      · refine wp_lload dX3_flood_157 rfl ?_
        refine wp_gotoN 164 dX3_flood_159 (by decide) ?_
        refine wp_lret dX3_flood_164 rfl ?_
        first
        | (rw [if_neg (by omega)] at hQ; exact q_l (of_nat rfl) hQ)
        | (rw [if_pos (by omega)] at hQ; exact q_l (of_nat rfl) hQ)
    · exfalso; omega
  | succ r ih =>
    intro k a b f hk hA hbf hf ha hb
    refine wp_iload dX3_flood_116 rfl ?_
    refine wp_bipush dX3_flood_118 (by decide) ?_
    refine wp_ic_ge 153 dX3_flood_120 (by decide) (fun hh120 => ?_) (fun hh120 => ?_)
    · exfalso; omega
    · refine wp_lload dX3_flood_123 rfl ?_
      refine wp_lload dX3_flood_125 rfl ?_
      refine wp_lor dX3_flood_127 ?_
      refine wp_lconst1 dX3_flood_128 ?_
      refine wp_land dX3_flood_129 ?_
      refine wp_lconst0 dX3_flood_130 ?_
      refine wp_lcmp dX3_flood_131 ?_
      refine wp_if_ne 153 dX3_flood_132 (by decide) (fun hh132 => ?_) (fun hh132 => ?_)
      · have hod : ¬ (a.toNat % 2 = 0 ∧ b.toNat % 2 = 0) := fun q => hh132 (lcm_z.mpr (odd_0.mpr q))
        have ho1 : a.toNat % 2 = 1 ∨ f = 0 := by
          by_cases q : a.toNat % 2 = 1
          · exact Or.inl q
          · exact Or.inr (pw_od (by rw [← hbf]; omega))
        have hv := low_v (n := spn g) (J := jwt g cell) (A := A) (a := a.toNat) (b := b.toNat) (i := k) (f := f) jwt_le hA hbf hf (ho1) hT rfl
        have ev : flv g c cell w = BitVec.ofNat 64 (if w = 0 then a.toNat else b.toNat) := by
          unfold flv lwv
          rw [hv.1, hv.2]
        rw [ev] at hQ
        refine wp_iload_n dX3_flood_153 rfl ?_
        refine wp_if_ne 162 dX3_flood_154 (by decide) (fun hh154 => ?_) (fun hh154 => ?_)
        · refine wp_lload dX3_flood_162 rfl ?_
          refine wp_lret dX3_flood_164 rfl ?_
          first
          | (rw [if_neg (by omega)] at hQ; exact q_l (of_nat rfl) hQ)
          | (rw [if_pos (by omega)] at hQ; exact q_l (of_nat rfl) hQ)
        · refine wp_lload dX3_flood_157 rfl ?_
          refine wp_gotoN 164 dX3_flood_159 (by decide) ?_
          refine wp_lret dX3_flood_164 rfl ?_
          first
          | (rw [if_neg (by omega)] at hQ; exact q_l (of_nat rfl) hQ)
          | (rw [if_pos (by omega)] at hQ; exact q_l (of_nat rfl) hQ)
      · refine wp_lload dX3_flood_135 rfl ?_
        refine wp_iconst dX3_flood_137 (by decide) ?_
        refine wp_lshr dX3_flood_138 (by omega) (by omega) ?_
        refine wp_lst (L' := [some (vr _), some (vi _), some (vi _), some (vi _), some (vi _), some (vl _), none, some (vl _), none, some (vl _), none, some (vi _)]) dX3_flood_139 (Nat.le_of_ble_eq_true rfl) rfl ?_
        refine wp_lload dX3_flood_141 rfl ?_
        refine wp_iconst dX3_flood_143 (by decide) ?_
        refine wp_lshr dX3_flood_144 (by omega) (by omega) ?_
        refine wp_lst (L' := [some (vr _), some (vi _), some (vi _), some (vi _), some (vi _), some (vl _), none, some (vl _), none, some (vl _), none, some (vi _)]) dX3_flood_145 (Nat.le_of_ble_eq_true rfl) rfl ?_
        refine wp_iincN (L' := [some (vr _), some (vi _), some (vi _), some (vi _), some (vi _), some (vl _), none, some (vl _), none, some (vl _), none, some (vi _)]) dX3_flood_147 rfl (by omega) rfl ?_
        refine wp_gotoN 116 dX3_flood_150 (by decide) ?_
        have hev : a.toNat % 2 = 0 ∧ b.toNat % 2 = 0 := odd_0.mp (lcm_z.mp (by first | exact hh132 | exact Classical.not_not.mp hh132))
        obtain ⟨e, e1, e2⟩ := pw_ev (f := f) (by rw [← hbf]; exact hev.2)
        have sa := sar (x := a) (by omega)
        have sb := sar (x := b) (by omega)
        refine ih (k + 1) _ _ e (by omega) ?_ ?_ (by omega) (by rw [show (1 : Int).toNat = 1 from rfl, sa]; omega) (by rw [show (1 : Int).toNat = 1 from rfl, sb]; omega)
        · rw [show (1 : Int).toNat = 1 from rfl, sa, hA, Nat.pow_succ, Nat.mul_comm (2 ^ k) 2, ← Nat.mul_assoc]
          congr 1
          omega
        · rw [show (1 : Int).toNat = 1 from rfl, sb, hbf, e2]
set_option maxRecDepth 20000 in
theorem l3_pow {d : Nat} {σ : aS} {Q : aQ} {g : aG} {c cell w : Int} (c0 : 0 ≤ c) (c16 : c ≤ 16) (hJ9 : jwt g cell ≤ 9) (hw : 0 ≤ w ∧ w ≤ 1) (hT : (smN g c cell (spn g) (2 ^ spn g)).toNat = 16 ^ (spn g - jwt g cell) * (16 ^ jwt g cell - (16 - c).toNat ^ jwt g cell)) (hQ : Q (some (vl (flv g c cell w))) σ) : ∀ (r : Nat) (k : Nat) (x y : BitVec 64) (x10 x11 : Option aV), k + r = jwt g cell → x.toNat = 16 ^ k → y.toNat = (16 - c).toNat ^ k → Wp RX3 cX3_flood 34 (aCall 34 (d)) Q 2 false 0 (fun _ => 0) 68 [some (vr 0), some (vi c), some (vi cell), some (vi w), some (vi (jwt g cell : Int)), some (vl x), none, some (vl y), none, some (vi (k : Int)), x10, x11] [] σ := by
  intro r
  induction r with
  | zero =>
    intro k x y x10 x11 hk hx hy
    refine wp_iload dX3_flood_68 rfl ?_
    refine wp_iload dX3_flood_70 rfl ?_
    refine wp_ic_ge 106 dX3_flood_72 (by decide) (fun hh72 => ?_) (fun hh72 => ?_)
    · refine wp_lload dX3_flood_106 rfl ?_
      refine wp_lload dX3_flood_108 rfl ?_
      refine wp_lsub dX3_flood_110 ?_
      refine wp_lst (L' := [some (vr _), some (vi _), some (vi _), some (vi _), some (vi _), some (vl _), none, some (vl _), none, some (vl _), none, _]) dX3_flood_111 (Nat.le_of_ble_eq_true rfl) rfl ?_
      refine wp_iconst dX3_flood_113 (by decide) ?_
      refine wp_ist (L' := [some (vr _), some (vi _), some (vi _), some (vi _), some (vi _), some (vl _), none, some (vl _), none, some (vl _), none, some (vi _)]) dX3_flood_114 (Nat.le_of_ble_eq_true rfl) rfl ?_
      have hp9 := pw9 (e := (16 - c).toNat) (i := jwt g cell) (by omega) hJ9
      have ek : k = jwt g cell := by omega
      rw [ek] at hx hy
      have hxy := fld3 (x := x) (y := y) (by rw [hx, hy]; exact hp9.1)
      exact l3_half hJ9 hw hT hQ 36 0 _ _ (4 * jwt g cell) (by omega) (by rw [hxy, hx, hy, Nat.pow_zero, Nat.mul_one]) (by rw [hx, show (16 : Nat) = 2 ^ 4 from rfl, ← Nat.pow_mul]) (by omega) (by rw [hxy]; omega) (by omega)
    · exfalso; omega
  | succ r ih =>
    intro k x y x10 x11 hk hx hy
    refine wp_iload dX3_flood_68 rfl ?_
    refine wp_iload dX3_flood_70 rfl ?_
    refine wp_ic_ge 106 dX3_flood_72 (by decide) (fun hh72 => ?_) (fun hh72 => ?_)
    · exfalso; omega
    · refine wp_iload dX3_flood_75 rfl ?_
      refine wp_bipush dX3_flood_77 (by decide) ?_
      refine wp_ic_ge 106 dX3_flood_79 (by decide) (fun hh79 => ?_) (fun hh79 => ?_)
      · exfalso; omega
      · refine wp_lload dX3_flood_82 rfl ?_
        refine wp_ldc2 dX3_flood_84 llX3_189 ?_
        refine wp_lmul dX3_flood_87 ?_
        refine wp_lst (L' := [some (vr _), some (vi _), some (vi _), some (vi _), some (vi _), some (vl _), none, some (vl _), none, some (vi _), _, _]) dX3_flood_88 (Nat.le_of_ble_eq_true rfl) rfl ?_
        refine wp_lload dX3_flood_90 rfl ?_
        refine wp_bipush dX3_flood_92 (by decide) ?_
        refine wp_iload_n dX3_flood_94 rfl ?_
        refine wp_isubN dX3_flood_95 (by omega) ?_
        refine wp_i2l dX3_flood_96 ?_
        refine wp_lmul dX3_flood_97 ?_
        refine wp_lst (L' := [some (vr _), some (vi _), some (vi _), some (vi _), some (vi _), some (vl _), none, some (vl _), none, some (vi _), _, _]) dX3_flood_98 (Nat.le_of_ble_eq_true rfl) rfl ?_
        refine wp_iincN (L' := [some (vr _), some (vi _), some (vi _), some (vi _), some (vi _), some (vl _), none, some (vl _), none, some (vi _), _, _]) dX3_flood_100 rfl (by omega) rfl ?_
        refine wp_gotoN 68 dX3_flood_103 (by decide) ?_
        exact ih (k + 1) _ _ _ _ (by omega) (fld1 hx (by omega)) (fld2 c0 c16 hy (by omega))
set_option maxRecDepth 20000 in
theorem p3_flood {d : Nat} {σ : aS} {Q : aQ} {c cell w : Int} {z : aZ} (hc : CI σ z) (hz : ZV z) (hQ : Q (some (vl (vFlood z c cell w))) σ) : aCall 34 (d + 4) mX3_flood [vr 0, vi c, vi cell, vi w] σ Q := by
  refine cl_in (own := RX3) (cc := cX3_flood) (rk := 2) (L := [some (vr 0), some (vi c), some (vi cell), some (vi w), none, none, none, none, none, none, none, none]) rfl rfl rfl rfl (by decide) (Nat.le_of_ble_eq_true rfl) ?_
  have hp := hc.pl
  have hn := hp.n
  have hg := hp.gv
  have hcs := cnt_35 hp.2.2.2.2.1 (fun j q => ggk_n hp.kz q (by decide)) (by omega)
  have hcs2 := cnt_in (fun c => ggk (Gz z) c = 3) (ggn (Gz z)).toNat
  have hsp : cnt (fun i => (σ.2 13 6).getLsbD i = true) 64 = (spn (Gz z) : Int) := by rw [hcs]; unfold spn; exact (Int.toNat_of_nonneg hcs2.1).symm
  refine wp_iload_n dX3_flood_0 rfl ?_
  refine wp_if_lt 45 dX3_flood_1 (by decide) (fun hh1 => ?_) (fun hh1 => ?_)
  · refine wp_ldc2 dX3_flood_45 llX3_184 ?_
    refine wp_lret dX3_flood_48 rfl ?_
    have e : vFlood z c cell w = 9223372036854775808#64 - BitVec.ofInt 64 (-2) := by unfold vFlood; rw [cif_f (fun q => by have := q.1; have := q.2.1; have := q.2.2; omega)]
    rw [e] at hQ
    exact hQ
  · refine wp_iload_n dX3_flood_4 rfl ?_
    refine wp_bipush dX3_flood_5 (by decide) ?_
    refine wp_ic_gt 45 dX3_flood_7 (by decide) (fun hh7 => ?_) (fun hh7 => ?_)
    · refine wp_ldc2 dX3_flood_45 llX3_184 ?_
      refine wp_lret dX3_flood_48 rfl ?_
      have e : vFlood z c cell w = 9223372036854775808#64 - BitVec.ofInt 64 (-2) := by unfold vFlood; rw [cif_f (fun q => by have := q.1; have := q.2.1; have := q.2.2; omega)]
      rw [e] at hQ
      exact hQ
    · refine wp_aload_n dX3_flood_10 rfl ?_
      refine wp_getR dX3_flood_11 flX3_39 (by decide) rfl rfl ?_
      refine wp_iload_n dX3_flood_14 rfl ?_
      refine wp_V1 dX3_flood_15 vlX3_61 (by decide) rfl (Nat.le_of_ble_eq_true rfl) ?_
      refine s0_isCell hp ?_
      refine wp_ifB_eq 45 dX3_flood_18 (by decide) (fun hh18 => ?_) (fun hh18 => ?_)
      · refine wp_ldc2 dX3_flood_45 llX3_184 ?_
        refine wp_lret dX3_flood_48 rfl ?_
        have e : vFlood z c cell w = 9223372036854775808#64 - BitVec.ofInt 64 (-2) := by unfold vFlood; rw [cif_f (fun q => by have := q.1; have := q.2.1; have := q.2.2; omega)]
        rw [e] at hQ
        exact hQ
      · refine wp_iload_n dX3_flood_21 rfl ?_
        refine wp_if_lt 45 dX3_flood_22 (by decide) (fun hh22 => ?_) (fun hh22 => ?_)
        · refine wp_ldc2 dX3_flood_45 llX3_184 ?_
          refine wp_lret dX3_flood_48 rfl ?_
          have e : vFlood z c cell w = 9223372036854775808#64 - BitVec.ofInt 64 (-2) := by unfold vFlood; rw [cif_f (fun q => by have := q.1; have := q.2.1; have := q.2.2; omega)]
          rw [e] at hQ
          exact hQ
        · refine wp_iload_n dX3_flood_25 rfl ?_
          refine wp_iconst dX3_flood_26 (by decide) ?_
          refine wp_ic_gt 45 dX3_flood_27 (by decide) (fun hh27 => ?_) (fun hh27 => ?_)
          · refine wp_ldc2 dX3_flood_45 llX3_184 ?_
            refine wp_lret dX3_flood_48 rfl ?_
            have e : vFlood z c cell w = 9223372036854775808#64 - BitVec.ofInt 64 (-2) := by unfold vFlood; rw [cif_f (fun q => by have := q.1; have := q.2.1; have := q.2.2; omega)]
            rw [e] at hQ
            exact hQ
          · refine wp_aload_n dX3_flood_30 rfl ?_
            refine wp_getR dX3_flood_31 flX3_39 (by decide) rfl rfl ?_
            refine wp_getJ dX3_flood_34 flX3_176 (by decide) rfl rfl ?_
            refine wp_S1 dX3_flood_37 zlX3_179 (Nat.le_of_ble_eq_true rfl) ?_
            refine s_bcL ?_
            rw [hsp]
            refine wp_bipush dX3_flood_40 (by decide) ?_
            refine wp_ic_le 49 dX3_flood_42 (by decide) (fun hh42 => ?_) (fun hh42 => ?_)
            · refine wp_aload_n dX3_flood_49 rfl ?_
              refine wp_getR dX3_flood_50 flX3_39 (by decide) rfl rfl ?_
              refine wp_iload_n dX3_flood_53 rfl ?_
              refine wp_V1 dX3_flood_54 vlX3_186 (by decide) rfl (Nat.le_of_ble_eq_true rfl) ?_
              refine s0_stw hp Gz_w0 (by omega) (by omega) ?_
              refine wp_ist (L' := [some (vr _), some (vi _), some (vi _), some (vi _), some (vi _), none, none, none, none, none, none, none]) dX3_flood_57 (Nat.le_of_ble_eq_true rfl) rfl ?_
              refine wp_lconst1 dX3_flood_59 ?_
              refine wp_lst (L' := [some (vr _), some (vi _), some (vi _), some (vi _), some (vi _), some (vl _), none, none, none, none, none, none]) dX3_flood_60 (Nat.le_of_ble_eq_true rfl) rfl ?_
              refine wp_lconst1 dX3_flood_62 ?_
              refine wp_lst (L' := [some (vr _), some (vi _), some (vi _), some (vi _), some (vi _), some (vl _), none, some (vl _), none, none, none, none]) dX3_flood_63 (Nat.le_of_ble_eq_true rfl) rfl ?_
              refine wp_iconst dX3_flood_65 (by decide) ?_
              refine wp_ist (L' := [some (vr _), some (vi _), some (vi _), some (vi _), some (vi _), some (vl _), none, some (vl _), none, some (vi _), none, none]) dX3_flood_66 (Nat.le_of_ble_eq_true rfl) rfl ?_
              have hn9 : spn (Gz z) ≤ 9 := by omega
              have e : vFlood z c cell w = flv (Gz z) c cell w := by unfold vFlood; rw [cif_t ⟨by omega, by omega, by omega, by omega⟩]
              rw [e] at hQ
              exact l3_pow (by omega) (by omega) (Nat.le_trans jwt_le hn9) (by omega) (sm_t hg hn9 (by omega) (by omega)) hQ (jwt (Gz z) cell) 0 _ _ _ _ (by omega) rfl rfl
            · refine wp_ldc2 dX3_flood_45 llX3_184 ?_
              refine wp_lret dX3_flood_48 rfl ?_
              have e : vFlood z c cell w = 9223372036854775808#64 - BitVec.ofInt 64 (-2) := by unfold vFlood; rw [cif_f (fun q => by have := q.1; have := q.2.1; have := q.2.2; omega)]
              rw [e] at hQ
              exact hQ
