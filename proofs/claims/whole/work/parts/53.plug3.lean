theorem plg_k {g : aG} {a b : Int} (hk : KZ g) : KZ (plg g a b) := fun i hi => by
  show (if (i : Int) = a ∨ (i : Int) = b then 0 else g.2.2.2.2 i) = 0
  split
  · rfl
  · exact hk i hi
theorem plg_g {g : aG} {a b : Int} {i : Nat} : ggk (plg g a b) (i : Int) = if (i : Int) = a ∨ (i : Int) = b then 0 else ggk g i := rfl
theorem plg_o {g : aG} {a b : Int} {i : Nat} : opn (plg g a b) (i : Int) ↔ opn g i ∧ ¬ ((i : Int) = a ∨ (i : Int) = b) := by
  unfold opn
  rw [plg_g]
  show (0 ≤ (i : Int) ∧ (i : Int) ≤ ggn g - 1 ∧ _) ↔ _
  by_cases e : (i : Int) = a ∨ (i : Int) = b
  · rw [if_pos e]; exact ⟨fun q => absurd rfl q.2.2, fun q => absurd e q.2⟩
  · rw [if_neg e]; exact ⟨fun q => ⟨q, e⟩, fun q => q.1⟩
theorem pl_soak {σ : aS} {g : aG} {a b : Int} {x : BitVec 64} (hp : PL σ g) (hx : SB x (fun i => (i : Int) = a ∨ (i : Int) = b)) : SB (soak σ (σ.2 13 4 &&& nt x) (lsx σ (σ.2 13 4 &&& nt x)) 35 (σ.2 13 6 &&& (σ.2 13 4 &&& nt x))) (fun i => Rch (flW (plg g a b)) (plg g a b) (spS (plg g a b) (-1)) i) := by
  have hg := hp.gv
  have hk := plg_k (a := a) (b := b) hp.kz
  have hg2 := plg_ok hg a b
  have hh : SB (σ.2 13 4 &&& nt x) (fun i => opn (plg g a b) i) := (hp.2.2.1.an hx.nt).c (fun i => by
    rw [plg_o]
    constructor
    · rintro ⟨q1, -, q2⟩; exact ⟨q1, q2⟩
    · rintro ⟨q1, q2⟩
      have := opn_w hg q1
      exact ⟨q1, by omega, q2⟩)
  refine soak_g (S := spS (plg g a b) (-1)) hg2 hp.1 hh ((hp.2.2.2.2.1.an hh).c (fun i => ?_)) (fun c hc => spS_o hc)
  rw [← sp_all hk, plg_o, plg_g]
  by_cases e : (i : Int) = a ∨ (i : Int) = b
  · rw [if_pos e]; exact ⟨fun q => absurd e q.2.2, fun q => absurd q.1 (by decide)⟩
  · rw [if_neg e]
set_option maxRecDepth 20000 in
theorem s0_dry {d : Nat} {σ : aS} {Q : aQ} {a b c : Int} {x : BitVec 64} {g : aG} (hp : PL σ g) (hx : SB x (fun i => (i : Int) = a ∨ (i : Int) = b)) (c0 : 0 ≤ c) (c35 : c < 35) (hw9 : ggn g ≤ 0 → 0 ≤ ggw g ∧ ggw g ≤ 7) (hQ : Q (some (vi (bi (dry g a b c)))) σ) : aCall 34 (d + 3) mX0_keepsDry [vr 13, vl x, vi c] σ Q := by
  refine cl_in (own := RX0) (cc := cX0_keepsDry) (rk := 1) (L := [some (vr 13), some (vl x), none, some (vi c)]) rfl rfl rfl rfl (by decide) (Nat.le_of_ble_eq_true rfl) ?_
  have hw := hp.1.1
  have hn := hp.n
  have hw7 : 0 ≤ ggw g ∧ ggw g ≤ 7 := by
    by_cases q : 0 < ggn g
    · have := hp.gv.2.2.1 q; omega
    · exact hw9 (by omega)
  have hs := pl_soak hp hx
  have hd : bt (soak σ (σ.2 13 4 &&& nt x) (lsx σ (σ.2 13 4 &&& nt x)) 35 (σ.2 13 6 &&& (σ.2 13 4 &&& nt x))) c ↔ ¬ dry g a b c := by
    rw [bt_s hs, Int.toNat_of_nonneg c0]
    unfold dry
    rw [Classical.not_not]
    exact ⟨fun q => q.2.2, fun q => ⟨c0, c35, q⟩⟩
  refine wp_aload_n dX0_keepsDry_0 rfl ?_
  refine wp_aload_n dX0_keepsDry_1 rfl ?_
  refine wp_getJ dX0_keepsDry_2 flX0_33 (by decide) rfl rfl ?_
  refine wp_lload_n dX0_keepsDry_5 rfl ?_
  refine wp_ldc2 dX0_keepsDry_6 llX0_44 ?_
  refine wp_lxor dX0_keepsDry_9 ?_
  refine wp_land dX0_keepsDry_10 ?_
  refine wp_aload_n dX0_keepsDry_11 rfl ?_
  refine wp_getJ dX0_keepsDry_12 flX0_49 (by decide) rfl rfl ?_
  refine wp_V2 dX0_keepsDry_15 vlX0_52 (by decide) rfl (Nat.le_of_ble_eq_true rfl) ?_
  refine s0_soaked (by decide) (by omega) (by omega) ?_
  refine wp_iload_n dX0_keepsDry_18 rfl ?_
  refine wp_S2 dX0_keepsDry_19 zlX0_95 (Nat.le_of_ble_eq_true rfl) ?_
  refine s3_has ?_
  refine wp_ifB_ne 29 dX0_keepsDry_22 (by decide) (fun h22 => ?_) (fun h22 => ?_)
  · refine wp_iconst dX0_keepsDry_29 (by decide) ?_
    refine wp_iret dX0_keepsDry_30 (Or.inr ⟨rfl, by decide⟩) ?_
    exact q_f (hd.mp h22) hQ
  · refine wp_iconst dX0_keepsDry_25 (by decide) ?_
    refine wp_gotoN 30 dX0_keepsDry_26 (by decide) ?_
    refine wp_iret dX0_keepsDry_30 (Or.inr ⟨rfl, by decide⟩) ?_
    exact q_t (Classical.byContradiction (fun q => h22 (hd.mpr q))) hQ
theorem Gz_w0 {z : aZ} : ggn (Gz z) ≤ 0 → 0 ≤ ggw (Gz z) ∧ ggw (Gz z) ≤ 7 := fun h => by
  have e : ggw (Gz z) = 0 := if_pos h
  omega
theorem SB.b1 {a : Nat} (h : a < 64) : SB (1#64 <<< a) (fun i => (i : Int) = (a : Int) ∨ (i : Int) = -1) := fun i => by
  rw [bit_at h]; omega
theorem SB.b2 {a b : Nat} (h : a < 64) (h' : b < 64) : SB (1#64 <<< a ||| 1#64 <<< b) (fun i => (i : Int) = (a : Int) ∨ (i : Int) = (b : Int)) := fun i => by
  rw [BitVec.getLsbD_or, Bool.or_eq_true, bit_at h, bit_at h']; omega
theorem SB.b0 : SB 0#64 (fun i => (i : Int) = -1 ∨ (i : Int) = -1) := SB.z.c (fun i => ⟨fun q => q.elim, fun q => by omega⟩)
theorem may_b {σ : aS} {g : aG} {c : Int} {k : Nat} (hp : PL σ g) (c0 : 0 ≤ c) (c35 : c < 35) (hk : (k : Int) < ggn g) : bt ((σ.2 13 4 &&& (σ.2 13 6 ^^^ 18446744073709551615#64)) &&& (1#64 <<< c.toNat ^^^ 18446744073709551615#64)) (k : Int) ↔ may g k c := by
  have hn := hp.n
  have h3 : 0 ≤ ggk g k ∧ ggk g k ≤ 3 := hp.gv.2.2.2.2.2.2.2 k
  have hb : SB (1#64 <<< c.toNat) (fun i => i = c.toNat) := fun i => bit_at (by omega)
  rw [bt_s ((hp.2.2.1.an hp.2.2.2.2.1.nt).an hb.nt)]
  show (0 ≤ (k : Int) ∧ (k : Int) < 35 ∧ ((opn g (k : Int) ∧ (k < 64 ∧ ¬ ggk g k = 3)) ∧ (k < 64 ∧ ¬ k = c.toNat))) ↔ (k : Int) ≠ c ∧ 1 ≤ ggk g k ∧ ggk g k ≤ 2
  rw [opn_i hp.kz]
  omega
set_option maxRecDepth 20000 in
theorem l0_p1 {d : Nat} {σ : aS} {Q : aQ} {g : aG} {c : Int} (hp : PL σ g) (hw9 : ggn g ≤ 0 → 0 ≤ ggw g ∧ ggw g ≤ 7) (c0 : 0 ≤ c) (c35 : c < 35) : ∀ (r : Nat) (k : Nat) (x5 : Option aV), k + r = (ggn g).toNat → (p1N g c r k ≠ -1 → Q (some (vl (1#64 <<< (p1N g c r k).toNat))) σ) → (∀ (x4 x5 : Option aV), p1N g c r k = -1 → Wp RX0 cX0_plugsFor 34 (aCall 34 (d + 3)) Q 2 false 0 (fun _ => 0) 80 [some (vr 13), some (vi c), some (vl ((σ.2 13 4 &&& (σ.2 13 6 ^^^ 18446744073709551615#64)) &&& (1#64 <<< c.toNat ^^^ 18446744073709551615#64))), none, x4, x5] [] σ) → Wp RX0 cX0_plugsFor 34 (aCall 34 (d + 3)) Q 2 false 0 (fun _ => 0) 37 [some (vr 13), some (vi c), some (vl ((σ.2 13 4 &&& (σ.2 13 6 ^^^ 18446744073709551615#64)) &&& (1#64 <<< c.toNat ^^^ 18446744073709551615#64))), none, some (vi (k : Int)), x5] [] σ := by
  intro r
  induction r with
  | zero =>
    intro k x5 hk hQ hK
    have hn := hp.n
    refine wp_iload dX0_plugsFor_37 rfl ?_
    refine wp_aload_n dX0_plugsFor_39 rfl ?_
    refine wp_getI dX0_plugsFor_40 flX0_68 (by decide) rfl (Or.inl rfl) ?_
    refine wp_ic_ge 80 dX0_plugsFor_43 (by decide) (fun hh43 => ?_) (fun hh43 => ?_)
    · exact hK _ _ rfl
    · exfalso; omega
  | succ r ih =>
    intro k x5 hk hQ hK
    have hn := hp.n
    unfold p1N at hQ hK
    refine wp_iload dX0_plugsFor_37 rfl ?_
    refine wp_aload_n dX0_plugsFor_39 rfl ?_
    refine wp_getI dX0_plugsFor_40 flX0_68 (by decide) rfl (Or.inl rfl) ?_
    refine wp_ic_ge 80 dX0_plugsFor_43 (by decide) (fun hh43 => ?_) (fun hh43 => ?_)
    · exfalso; omega
    · refine wp_lload_n dX0_plugsFor_46 rfl ?_
      refine wp_iload dX0_plugsFor_47 rfl ?_
      refine wp_S2 dX0_plugsFor_49 zlX0_95 (Nat.le_of_ble_eq_true rfl) ?_
      refine s3_has ?_
      refine wp_ifB_eq 74 dX0_plugsFor_52 (by decide) (fun hh52 => ?_) (fun hh52 => ?_)
      · refine wp_iincN (L' := [some (vr _), some (vi _), some (vl _), none, some (vi _), _]) dX0_plugsFor_74 rfl (by omega) rfl ?_
        refine wp_gotoN 37 dX0_plugsFor_77 (by decide) ?_
        have hno : ¬ (may g k c ∧ dry g k (-1) c) := fun q => hh52 ((may_b hp c0 c35 (by omega)).mpr q.1)
        rw [cif_f hno] at hQ hK
        exact ih (k + 1) _ (by omega) hQ hK
      · refine wp_aload_n dX0_plugsFor_55 rfl ?_
        refine wp_iload dX0_plugsFor_56 rfl ?_
        refine wp_S1 dX0_plugsFor_58 zlX0_80 (Nat.le_of_ble_eq_true rfl) ?_
        refine s3_bit (by omega) (by omega) ?_
        refine wp_iload_n dX0_plugsFor_61 rfl ?_
        refine wp_V2 dX0_plugsFor_62 vlX0_106 (by decide) rfl (Nat.le_of_ble_eq_true rfl) ?_
        refine s0_dry (a := (k : Int)) (b := -1) hp (SB.b1 (a := k) (by omega)) c0 c35 hw9 ?_
        refine wp_ifB_eq 74 dX0_plugsFor_65 (by decide) (fun hh65 => ?_) (fun hh65 => ?_)
        · refine wp_iincN (L' := [some (vr _), some (vi _), some (vl _), none, some (vi _), _]) dX0_plugsFor_74 rfl (by omega) rfl ?_
          refine wp_gotoN 37 dX0_plugsFor_77 (by decide) ?_
          have hno : ¬ (may g k c ∧ dry g k (-1) c) := fun q => hh65 q.2
          rw [cif_f hno] at hQ hK
          exact ih (k + 1) _ (by omega) hQ hK
        · refine wp_iload dX0_plugsFor_68 rfl ?_
          refine wp_S1 dX0_plugsFor_70 zlX0_80 (Nat.le_of_ble_eq_true rfl) ?_
          refine s3_bit (by omega) (by omega) ?_
          refine wp_lret dX0_plugsFor_73 rfl ?_
          have hm := (may_b hp c0 c35 (by omega)).mp hh52
          rw [cif_t ⟨hm, hh65⟩] at hQ
          exact hQ (by omega)
set_option maxRecDepth 20000 in
theorem l0_p2 {d : Nat} {σ : aS} {Q : aQ} {g : aG} {c : Int} (hp : PL σ g) (hw9 : ggn g ≤ 0 → 0 ≤ ggw g ∧ ggw g ≤ 7) (c0 : 0 ≤ c) (c35 : c < 35) {a : Nat} (ha : (a : Int) < ggn g) (hma : may g a c) : ∀ (r : Nat) (k : Nat), k + r = (ggn g).toNat → (pbN g c a r k ≠ -1 → Q (some (vl (1#64 <<< a ||| 1#64 <<< (pbN g c a r k).toNat))) σ) → (∀ (x5 : Option aV), pbN g c a r k = -1 → Wp RX0 cX0_plugsFor 34 (aCall 34 (d + 3)) Q 2 false 0 (fun _ => 0) 162 [some (vr 13), some (vi c), some (vl ((σ.2 13 4 &&& (σ.2 13 6 ^^^ 18446744073709551615#64)) &&& (1#64 <<< c.toNat ^^^ 18446744073709551615#64))), none, some (vi (a : Int)), x5] [] σ) → Wp RX0 cX0_plugsFor 34 (aCall 34 (d + 3)) Q 2 false 0 (fun _ => 0) 98 [some (vr 13), some (vi c), some (vl ((σ.2 13 4 &&& (σ.2 13 6 ^^^ 18446744073709551615#64)) &&& (1#64 <<< c.toNat ^^^ 18446744073709551615#64))), none, some (vi (a : Int)), some (vi (k : Int))] [] σ := by
  intro r
  induction r with
  | zero =>
    intro k hk hQ hK
    have hn := hp.n
    refine wp_iload dX0_plugsFor_98 rfl ?_
    refine wp_aload_n dX0_plugsFor_100 rfl ?_
    refine wp_getI dX0_plugsFor_101 flX0_68 (by decide) rfl (Or.inl rfl) ?_
    refine wp_ic_ge 162 dX0_plugsFor_104 (by decide) (fun hh104 => ?_) (fun hh104 => ?_)
    · exact hK _ rfl
    · exfalso; omega
  | succ r ih =>
    intro k hk hQ hK
    have hn := hp.n
    unfold pbN at hQ hK
    refine wp_iload dX0_plugsFor_98 rfl ?_
    refine wp_aload_n dX0_plugsFor_100 rfl ?_
    refine wp_getI dX0_plugsFor_101 flX0_68 (by decide) rfl (Or.inl rfl) ?_
    refine wp_ic_ge 162 dX0_plugsFor_104 (by decide) (fun hh104 => ?_) (fun hh104 => ?_)
    · exfalso; omega
    · refine wp_lload_n dX0_plugsFor_107 rfl ?_
      refine wp_iload dX0_plugsFor_108 rfl ?_
      refine wp_S2 dX0_plugsFor_110 zlX0_95 (Nat.le_of_ble_eq_true rfl) ?_
      refine s3_has ?_
      refine wp_ifB_eq 162 dX0_plugsFor_113 (by decide) (fun hh113 => ?_) (fun hh113 => ?_)
      · exact absurd ((may_b hp c0 c35 (by omega)).mpr hma) hh113
      · refine wp_lload_n dX0_plugsFor_116 rfl ?_
        refine wp_iload dX0_plugsFor_117 rfl ?_
        refine wp_S2 dX0_plugsFor_119 zlX0_95 (Nat.le_of_ble_eq_true rfl) ?_
        refine s3_has ?_
        refine wp_ifB_eq 156 dX0_plugsFor_122 (by decide) (fun hh122 => ?_) (fun hh122 => ?_)
        · refine wp_iincN (L' := [some (vr _), some (vi _), some (vl _), none, some (vi _), some (vi _)]) dX0_plugsFor_156 rfl (by omega) rfl ?_
          refine wp_gotoN 98 dX0_plugsFor_159 (by decide) ?_
          have hno : ¬ (may g a c ∧ may g k c ∧ dry g a k c) := fun q => hh122 ((may_b hp c0 c35 (by omega)).mpr q.2.1)
          rw [cif_f hno] at hQ hK
          exact ih (k + 1) (by omega) hQ hK
        · refine wp_aload_n dX0_plugsFor_125 rfl ?_
          refine wp_iload dX0_plugsFor_126 rfl ?_
          refine wp_S1 dX0_plugsFor_128 zlX0_80 (Nat.le_of_ble_eq_true rfl) ?_
          refine s3_bit (by omega) (by omega) ?_
          refine wp_iload dX0_plugsFor_131 rfl ?_
          refine wp_S1 dX0_plugsFor_133 zlX0_80 (Nat.le_of_ble_eq_true rfl) ?_
          refine s3_bit (by omega) (by omega) ?_
          refine wp_lor dX0_plugsFor_136 ?_
          refine wp_iload_n dX0_plugsFor_137 rfl ?_
          refine wp_V2 dX0_plugsFor_138 vlX0_106 (by decide) rfl (Nat.le_of_ble_eq_true rfl) ?_
          refine s0_dry (a := (a : Int)) (b := (k : Int)) hp (SB.b2 (a := a) (b := k) (by omega) (by omega)) c0 c35 hw9 ?_
          refine wp_ifB_eq 156 dX0_plugsFor_141 (by decide) (fun hh141 => ?_) (fun hh141 => ?_)
          · refine wp_iincN (L' := [some (vr _), some (vi _), some (vl _), none, some (vi _), some (vi _)]) dX0_plugsFor_156 rfl (by omega) rfl ?_
            refine wp_gotoN 98 dX0_plugsFor_159 (by decide) ?_
            have hno : ¬ (may g a c ∧ may g k c ∧ dry g a k c) := fun q => hh141 q.2.2
            rw [cif_f hno] at hQ hK
            exact ih (k + 1) (by omega) hQ hK
          · refine wp_iload dX0_plugsFor_144 rfl ?_
            refine wp_S1 dX0_plugsFor_146 zlX0_80 (Nat.le_of_ble_eq_true rfl) ?_
            refine s3_bit (by omega) (by omega) ?_
            refine wp_iload dX0_plugsFor_149 rfl ?_
            refine wp_S1 dX0_plugsFor_151 zlX0_80 (Nat.le_of_ble_eq_true rfl) ?_
            refine s3_bit (by omega) (by omega) ?_
            refine wp_lor dX0_plugsFor_154 ?_
            refine wp_lret dX0_plugsFor_155 rfl ?_
            have hm := (may_b hp c0 c35 (by omega)).mp hh122
            rw [cif_t ⟨hma, hm, hh141⟩] at hQ
            exact hQ (by omega)
theorem pb_no {g : aG} {c : Int} {a : Nat} (h : ¬ may g a c) : ∀ r k, pbN g c a r k = -1 := by
  intro r
  induction r with
  | zero => intro k; rfl
  | succ r ih => intro k; unfold pbN; rw [cif_f (fun q => h q.1)]; exact ih _
theorem pb_in {g : aG} {c : Int} {a : Nat} : ∀ r k, pbN g c a r k = -1 ∨ ((k : Int) ≤ pbN g c a r k ∧ pbN g c a r k < k + r) := by
  intro r
  induction r with
  | zero => intro k; exact Or.inl rfl
  | succ r ih =>
    intro k
    unfold pbN
    by_cases h : may g a c ∧ may g k c ∧ dry g a k c
    · rw [cif_t h]; right; omega
    · rw [cif_f h]; rcases ih (k + 1) with q | q
      · exact Or.inl q
      · right; omega
theorem p1_in {g : aG} {c : Int} : ∀ r k, p1N g c r k = -1 ∨ ((k : Int) ≤ p1N g c r k ∧ p1N g c r k < k + r) := by
  intro r
  induction r with
  | zero => intro k; exact Or.inl rfl
  | succ r ih =>
    intro k
    unfold p1N
    by_cases h : may g k c ∧ dry g k (-1) c
    · rw [cif_t h]; right; omega
    · rw [cif_f h]; rcases ih (k + 1) with q | q
      · exact Or.inl q
      · right; omega
theorem pa_in {g : aG} {c : Int} : ∀ r k, paN g c r k = -1 ∨ ((k : Int) ≤ paN g c r k ∧ paN g c r k < k + r ∧ pbN g c (paN g c r k).toNat (k + r - ((paN g c r k).toNat + 1)) ((paN g c r k).toNat + 1) ≠ -1) := by
  intro r
  induction r with
  | zero => intro k; exact Or.inl rfl
  | succ r ih =>
    intro k
    unfold paN
    by_cases h : pbN g c k r (k + 1) ≠ -1
    · rw [if_pos h]; right
      refine ⟨by omega, by omega, ?_⟩
      rw [Int.toNat_natCast, show k + (r + 1) - (k + 1) = r by omega]
      exact h
    · rw [if_neg h]; rcases ih (k + 1) with q | q
      · exact Or.inl q
      · right
        refine ⟨by omega, by omega, ?_⟩
        rw [show k + (r + 1) = k + 1 + r by omega]
        exact q.2.2
noncomputable def plB (g : aG) (c : Int) (a : Int) : Int := pbN g c a.toNat ((ggn g).toNat - (a.toNat + 1)) (a.toNat + 1)
set_option maxRecDepth 20000 in
theorem l0_pa {d : Nat} {σ : aS} {Q : aQ} {g : aG} {c : Int} (hp : PL σ g) (hw9 : ggn g ≤ 0 → 0 ≤ ggw g ∧ ggw g ≤ 7) (c0 : 0 ≤ c) (c35 : c < 35) : ∀ (r : Nat) (k : Nat) (x5 : Option aV), k + r = (ggn g).toNat → (paN g c r k ≠ -1 → Q (some (vl (1#64 <<< (paN g c r k).toNat ||| 1#64 <<< (plB g c (paN g c r k)).toNat))) σ) → (paN g c r k = -1 → Q (some (vl 18446744073709551615#64)) σ) → Wp RX0 cX0_plugsFor 34 (aCall 34 (d + 3)) Q 2 false 0 (fun _ => 0) 83 [some (vr 13), some (vi c), some (vl ((σ.2 13 4 &&& (σ.2 13 6 ^^^ 18446744073709551615#64)) &&& (1#64 <<< c.toNat ^^^ 18446744073709551615#64))), none, some (vi (k : Int)), x5] [] σ := by
  intro r
  induction r with
  | zero =>
    intro k x5 hk hQ hE
    have hn := hp.n
    refine wp_iload dX0_plugsFor_83 rfl ?_
    refine wp_aload_n dX0_plugsFor_85 rfl ?_
    refine wp_getI dX0_plugsFor_86 flX0_68 (by decide) rfl (Or.inl rfl) ?_
    refine wp_ic_ge 168 dX0_plugsFor_89 (by decide) (fun hh89 => ?_) (fun hh89 => ?_)
    · refine wp_ldc2 dX0_plugsFor_168 llX0_44 ?_
      refine wp_lret dX0_plugsFor_171 rfl ?_
      exact hE rfl
    · exfalso; omega
  | succ r ih =>
    intro k x5 hk hQ hE
    have hn := hp.n
    unfold paN at hQ hE
    refine wp_iload dX0_plugsFor_83 rfl ?_
    refine wp_aload_n dX0_plugsFor_85 rfl ?_
    refine wp_getI dX0_plugsFor_86 flX0_68 (by decide) rfl (Or.inl rfl) ?_
    refine wp_ic_ge 168 dX0_plugsFor_89 (by decide) (fun hh89 => ?_) (fun hh89 => ?_)
    · exfalso; omega
    · refine wp_iload dX0_plugsFor_92 rfl ?_
      refine wp_iconst dX0_plugsFor_94 (by decide) ?_
      refine wp_iaddN dX0_plugsFor_95 (by omega) ?_
      refine wp_ist (L' := [some (vr _), some (vi _), some (vl _), none, some (vi _), some (vi _)]) dX0_plugsFor_96 (Nat.le_of_ble_eq_true rfl) rfl ?_
      by_cases hma : may g k c
      · refine l0_p2 (d := d) hp hw9 c0 c35 (a := k) (by omega) hma r (k + 1) (by omega) (fun w => ?_) (fun x5 hb => ?_)
        · rw [if_pos w] at hQ
          have h9 := hQ (by omega)
          unfold plB at h9
          rw [Int.toNat_natCast, show (ggn g).toNat - (k + 1) = r by omega] at h9
          exact h9
        · refine wp_iincN (L' := [some (vr _), some (vi _), some (vl _), none, some (vi _), _]) dX0_plugsFor_162 rfl (by omega) rfl ?_
          refine wp_gotoN 83 dX0_plugsFor_165 (by decide) ?_
          have hpn : ¬ pbN g c k r (k + 1) ≠ -1 := fun w => w hb
          rw [if_neg hpn] at hQ hE
          exact ih (k + 1) _ (by omega) hQ hE
      · have hb := pb_no hma r (k + 1)
        have hpn : ¬ pbN g c k r (k + 1) ≠ -1 := fun w => w hb
        rw [if_neg hpn] at hQ hE
        refine wp_iload dX0_plugsFor_98 rfl ?_
        refine wp_aload_n dX0_plugsFor_100 rfl ?_
        refine wp_getI dX0_plugsFor_101 flX0_68 (by decide) rfl (Or.inl rfl) ?_
        refine wp_ic_ge 162 dX0_plugsFor_104 (by decide) (fun hh104 => ?_) (fun hh104 => ?_)
        · refine wp_iincN (L' := [some (vr _), some (vi _), some (vl _), none, some (vi _), some (vi _)]) dX0_plugsFor_162 rfl (by omega) rfl ?_
          refine wp_gotoN 83 dX0_plugsFor_165 (by decide) ?_
          exact ih (k + 1) _ (by omega) hQ hE
        · refine wp_lload_n dX0_plugsFor_107 rfl ?_
          refine wp_iload dX0_plugsFor_108 rfl ?_
          refine wp_S2 dX0_plugsFor_110 zlX0_95 (Nat.le_of_ble_eq_true rfl) ?_
          refine s3_has ?_
          refine wp_ifB_eq 162 dX0_plugsFor_113 (by decide) (fun hh113 => ?_) (fun hh113 => ?_)
          · refine wp_iincN (L' := [some (vr _), some (vi _), some (vl _), none, some (vi _), some (vi _)]) dX0_plugsFor_162 rfl (by omega) rfl ?_
            refine wp_gotoN 83 dX0_plugsFor_165 (by decide) ?_
            exact ih (k + 1) _ (by omega) hQ hE
          · exact absurd ((may_b hp c0 c35 (by omega)).mp hh113) hma
/-- the set that plugsFor answers -/
noncomputable def plL (g : aG) (c : Int) : BitVec 64 := cif (dry g (-1) (-1) c) 0#64 (if p1N g c (ggn g).toNat 0 ≠ -1 then 1#64 <<< (p1N g c (ggn g).toNat 0).toNat else if paN g c (ggn g).toNat 0 ≠ -1 then 1#64 <<< (paN g c (ggn g).toNat 0).toNat ||| 1#64 <<< (plB g c (paN g c (ggn g).toNat 0)).toNat else 18446744073709551615#64)
set_option maxRecDepth 20000 in
theorem s0_plugs {d : Nat} {σ : aS} {Q : aQ} {c : Int} {g : aG} (hp : PL σ g) (hw9 : ggn g ≤ 0 → 0 ≤ ggw g ∧ ggw g ≤ 7) (c0 : 0 ≤ c) (c35 : c < 35) (hQ : Q (some (vl (plL g c))) σ) : aCall 34 (d + 4) mX0_plugsFor [vr 13, vi c] σ Q := by
  refine cl_in (own := RX0) (cc := cX0_plugsFor) (rk := 2) (L := [some (vr 13), some (vi c), none, none, none, none]) rfl rfl rfl rfl (by decide) (Nat.le_of_ble_eq_true rfl) ?_
  have hn := hp.n
  unfold plL at hQ
  refine wp_aload_n dX0_plugsFor_0 rfl ?_
  refine wp_lconst0 dX0_plugsFor_1 ?_
  refine wp_iload_n dX0_plugsFor_2 rfl ?_
  refine wp_V2 dX0_plugsFor_3 vlX0_106 (by decide) rfl (Nat.le_of_ble_eq_true rfl) ?_
  refine s0_dry (a := -1) (b := -1) hp SB.b0 c0 c35 hw9 ?_
  refine wp_ifB_eq 11 dX0_plugsFor_6 (by decide) (fun hh6 => ?_) (fun hh6 => ?_)
  · rw [cif_f hh6] at hQ
    refine wp_aload_n dX0_plugsFor_11 rfl ?_
    refine wp_getJ dX0_plugsFor_12 flX0_33 (by decide) rfl rfl ?_
    refine wp_aload_n dX0_plugsFor_15 rfl ?_
    refine wp_getJ dX0_plugsFor_16 flX0_49 (by decide) rfl rfl ?_
    refine wp_ldc2 dX0_plugsFor_19 llX0_44 ?_
    refine wp_lxor dX0_plugsFor_22 ?_
    refine wp_land dX0_plugsFor_23 ?_
    refine wp_iload_n dX0_plugsFor_24 rfl ?_
    refine wp_S1 dX0_plugsFor_25 zlX0_80 (Nat.le_of_ble_eq_true rfl) ?_
    refine s3_bit (by omega) (by omega) ?_
    refine wp_ldc2 dX0_plugsFor_28 llX0_44 ?_
    refine wp_lxor dX0_plugsFor_31 ?_
    refine wp_land dX0_plugsFor_32 ?_
    refine wp_lstN (L' := [some (vr _), some (vi _), some (vl _), none, none, none]) dX0_plugsFor_33 (Nat.le_of_ble_eq_true rfl) rfl ?_
    refine wp_iconst dX0_plugsFor_34 (by decide) ?_
    refine wp_ist (L' := [some (vr _), some (vi _), some (vl _), none, some (vi _), none]) dX0_plugsFor_35 (Nat.le_of_ble_eq_true rfl) rfl ?_
    refine l0_p1 (d := d) hp hw9 c0 c35 (ggn g).toNat 0 _ (by omega) (fun w => ?_) (fun x4 x5 w => ?_)
    · rw [if_pos w] at hQ; exact hQ
    · have w2 : ¬ p1N g c (ggn g).toNat 0 ≠ -1 := fun q => q w
      rw [if_neg w2] at hQ
      refine wp_iconst dX0_plugsFor_80 (by decide) ?_
      refine wp_ist (L' := [some (vr _), some (vi _), some (vl _), none, some (vi _), _]) dX0_plugsFor_81 (Nat.le_of_ble_eq_true rfl) rfl ?_
      refine l0_pa (d := d) hp hw9 c0 c35 (ggn g).toNat 0 _ (by omega) (fun w => ?_) (fun w => ?_)
      · rw [if_pos w] at hQ; exact hQ
      · rw [if_neg (fun q => q w)] at hQ; exact hQ
  · refine wp_lconst0 dX0_plugsFor_9 ?_
    refine wp_lret dX0_plugsFor_10 rfl ?_
    rw [cif_t hh6] at hQ
    exact hQ
theorem cnt_1 {a : Nat} : ∀ k, cnt (fun j => j = a) k = if a < k then 1 else 0 := by
  intro k
  induction k with
  | zero => rfl
  | succ k ih =>
    by_cases e : k = a
    · rw [cnt_t (p := fun j => j = a) e, ih, if_neg (by omega), if_pos (by omega)]; rfl
    · rw [cnt_f (p := fun j => j = a) e, ih]
      by_cases h : a < k
      · rw [if_pos h, if_pos (by omega)]
      · rw [if_neg h, if_neg (by omega)]
theorem cnt_2 {a b : Nat} (hab : a < b) : ∀ k, cnt (fun j => j = a ∨ j = b) k = (if a < k then 1 else 0) + (if b < k then 1 else 0) := by
  intro k
  induction k with
  | zero => rfl
  | succ k ih =>
    by_cases e : k = a ∨ k = b
    · rw [cnt_t (p := fun j => j = a ∨ j = b) e, ih]
      rcases e with e | e
      · rw [if_neg (by omega), if_neg (by omega), if_pos (by omega), if_neg (by omega)]; rfl
      · rw [if_pos (by omega), if_neg (by omega), if_pos (by omega), if_pos (by omega)]; rfl
    · rw [cnt_f (p := fun j => j = a ∨ j = b) e, ih]
      have e1 : (if a < k then (1 : Int) else 0) = if a < k + 1 then 1 else 0 := by
        by_cases h : a < k
        · rw [if_pos h, if_pos (by omega)]
        · rw [if_neg h, if_neg (by omega)]
      have e2 : (if b < k then (1 : Int) else 0) = if b < k + 1 then 1 else 0 := by
        by_cases h : b < k
        · rw [if_pos h, if_pos (by omega)]
        · rw [if_neg h, if_neg (by omega)]
      rw [e1, e2]
theorem itF_0 {i : Int} : ∀ k, itF (fun _ => False) i k = -1 := by
  intro k
  induction k with
  | zero => rfl
  | succ k ih => exact (cif_f (fun q => q.1)).trans ih
theorem itF_1 {a : Nat} {i : Int} : ∀ k, itF (fun j => j = a) i k = if a < k ∧ i = 0 then (a : Int) else -1 := by
  intro k
  induction k with
  | zero => rw [if_neg (by omega)]; rfl
  | succ k ih =>
    show cif (k = a ∧ cnt (fun j => j = a) k = i) (k : Int) (itF (fun j => j = a) i k) = _
    rw [cnt_1, ih]
    by_cases e : k = a
    · rw [if_neg (by omega)]
      by_cases h : i = 0
      · rw [cif_t ⟨e, h.symm⟩, if_pos (by omega), e]
      · rw [cif_f (fun q => h q.2.symm), if_neg (by omega), if_neg (by omega)]
    · rw [cif_f (fun q => e q.1)]
      by_cases h : a < k ∧ i = 0
      · rw [if_pos h, if_pos (by omega)]
      · rw [if_neg h, if_neg (by omega)]
theorem itF_2 {a b : Nat} (hab : a < b) {i : Int} : ∀ k, itF (fun j => j = a ∨ j = b) i k = if a < k ∧ i = 0 then (a : Int) else if b < k ∧ i = 1 then (b : Int) else -1 := by
  intro k
  induction k with
  | zero => rw [if_neg (by omega), if_neg (by omega)]; rfl
  | succ k ih =>
    show cif ((k = a ∨ k = b) ∧ cnt (fun j => j = a ∨ j = b) k = i) (k : Int) (itF (fun j => j = a ∨ j = b) i k) = _
    rw [cnt_2 hab, ih]
    by_cases e : k = a
    · rw [if_neg (show ¬ a < k by omega), if_neg (show ¬ b < k by omega)]
      by_cases h : i = 0
      · rw [cif_t ⟨Or.inl e, by omega⟩, if_pos (by omega), e]
      · rw [cif_f (fun q => h (by omega)), if_neg (by omega), if_neg (by omega), if_neg (by omega), if_neg (by omega)]
    · by_cases e2 : k = b
      · rw [if_pos (show a < k by omega), if_neg (show ¬ b < k by omega)]
        by_cases h : i = 1
        · rw [cif_t ⟨Or.inr e2, by omega⟩, if_neg (by omega), if_pos (by omega), e2]
        · rw [cif_f (fun q => h (by omega))]
          by_cases h0 : i = 0
          · rw [if_pos (by omega), if_pos (by omega)]
          · rw [if_neg (by omega), if_neg (by omega), if_neg (by omega), if_neg (by omega)]
      · rw [cif_f (fun q => q.1.elim e e2)]
        by_cases h : a < k ∧ i = 0
        · rw [if_pos h, if_pos (by omega)]
        · rw [if_neg h]
          by_cases h2 : b < k ∧ i = 1
          · rw [if_pos h2, if_neg (by omega), if_pos (by omega)]
          · rw [if_neg h2, if_neg (by omega), if_neg (by omega)]
/-- what plug makes of that set -/
theorem pl_si {g : aG} {c i : Int} (hg : GV g) (i0 : -1 ≤ i) (i1 : i ≤ 1) : (plL g c = 18446744073709551615#64 ∧ plv g c i = -1) ∨ (plL g c ≠ 18446744073709551615#64 ∧ ∃ p : Nat → Prop, SB (plL g c) p ∧ (∀ j, p j → j < 35) ∧ siv p 35 i = plv g c i) := by
  have hn := hg.2.1
  have n0 := hg.1
  have big : ∀ (x : BitVec 64) (p : Nat → Prop), SB x p → (∀ j, p j → j < 35) → x ≠ 18446744073709551615#64 := fun x p hx hp e => by
    have h1 : (18446744073709551615#64).getLsbD 63 = true := by decide
    rw [← e] at h1
    have := hp 63 ((hx 63).mp h1)
    omega
  unfold plL plv plK
  by_cases hd : dry g (-1) (-1) c
  · rw [cif_t hd, cif_t hd]
    have hp : SB 0#64 (fun _ => False) := SB.z
    refine Or.inr ⟨big _ _ hp (fun j q => q.elim), _, hp, fun j q => q.elim, ?_⟩
    unfold siv
    by_cases h : i = -1
    · rw [if_pos h, if_pos h]
      exact cnt_st (p := fun _ => False) (a := 0) 35 (fun _ _ _ q => q)
    · rw [if_neg h, if_neg h, itF_0, if_neg (show ¬ i < 0 by omega)]
  · rw [cif_f hd, cif_f hd]
    by_cases h1 : p1N g c (ggn g).toNat 0 ≠ -1
    · rw [if_pos h1, if_pos h1]
      have hin := (p1_in (g := g) (c := c) (ggn g).toNat 0).resolve_left h1
      have hp : SB (1#64 <<< (p1N g c (ggn g).toNat 0).toNat) (fun j => j = (p1N g c (ggn g).toNat 0).toNat) := fun j => bit_at (by omega)
      refine Or.inr ⟨big _ _ hp (fun j q => by omega), _, hp, fun j q => by omega, ?_⟩
      unfold siv
      by_cases h : i = -1
      · rw [if_pos h, if_pos h, cnt_1, if_pos (by omega)]
      · rw [if_neg h, if_neg h, itF_1]
        by_cases h0 : i = 0
        · rw [if_pos (by omega), if_pos (show i < 1 by omega), if_pos h0]; exact Int.toNat_of_nonneg (by omega)
        · rw [if_neg (by omega), if_neg (show ¬ i < 1 by omega)]
    · rw [if_neg h1, if_neg h1]
      by_cases h2 : paN g c (ggn g).toNat 0 ≠ -1
      · rw [if_pos h2, if_pos h2]
        have hin := (pa_in (g := g) (c := c) (ggn g).toNat 0).resolve_left h2
        rw [Nat.zero_add] at hin
        have hb := (pb_in (g := g) (c := c) (a := (paN g c (ggn g).toNat 0).toNat) ((ggn g).toNat - ((paN g c (ggn g).toNat 0).toNat + 1)) ((paN g c (ggn g).toNat 0).toNat + 1)).resolve_left hin.2.2
        have eB : plB g c (paN g c (ggn g).toNat 0) = pbN g c (paN g c (ggn g).toNat 0).toNat ((ggn g).toNat - ((paN g c (ggn g).toNat 0).toNat + 1)) ((paN g c (ggn g).toNat 0).toNat + 1) := rfl
        rw [← eB] at hb ⊢
        generalize plB g c (paN g c (ggn g).toNat 0) = B at hb ⊢
        generalize paN g c (ggn g).toNat 0 = A at hin hb h2 ⊢
        have hp : SB (1#64 <<< A.toNat ||| 1#64 <<< B.toNat) (fun j => j = A.toNat ∨ j = B.toNat) := fun j => by
          rw [BitVec.getLsbD_or, Bool.or_eq_true, bit_at (by omega), bit_at (by omega)]
        refine Or.inr ⟨big _ _ hp (fun j q => by omega), _, hp, fun j q => by omega, ?_⟩
        unfold siv
        by_cases h : i = -1
        · rw [if_pos h, if_pos h, cnt_2 (by omega), if_pos (by omega), if_pos (by omega)]; rfl
        · rw [if_neg h, if_neg h, itF_2 (by omega), if_pos (show i < 2 by omega)]
          by_cases h0 : i = 0
          · rw [if_pos (by omega), if_pos h0]; exact Int.toNat_of_nonneg (by omega)
          · rw [if_neg (by omega), if_pos (by omega), if_neg h0]; exact Int.toNat_of_nonneg (by omega)
      · rw [if_neg h2, if_neg h2]
        refine Or.inl ⟨rfl, ?_⟩
        by_cases h : i = -1
        · rw [if_pos h]
        · rw [if_neg h, if_neg (show ¬ i < -1 by omega)]
set_option maxRecDepth 20000 in
theorem p3_plug {d : Nat} {σ : aS} {Q : aQ} {c i : Int} {z : aZ} (hc : CI σ z) (hz : ZV z) (hQ : Q (some (vi (vPlug z c i))) σ) : aCall 34 (d + 5) mX3_plug [vr 0, vi c, vi i] σ Q := by
  refine cl_in (own := RX3) (cc := cX3_plug) (rk := 0) (L := [some (vr 0), some (vi c), some (vi i), none, none]) rfl rfl rfl rfl (by decide) (Nat.le_of_ble_eq_true rfl) ?_
  have hp := hc.pl
  have hn := hp.n
  refine wp_aload_n dX3_plug_0 rfl ?_
  refine wp_getR dX3_plug_1 flX3_39 (by decide) rfl rfl ?_
  refine wp_iload_n dX3_plug_4 rfl ?_
  refine wp_V1 dX3_plug_5 vlX3_61 (by decide) rfl (Nat.le_of_ble_eq_true rfl) ?_
  refine s0_isCell hp ?_
  refine wp_ifB_eq 21 dX3_plug_8 (by decide) (fun hh8 => ?_) (fun hh8 => ?_)
  · refine wp_bipush dX3_plug_21 (by decide) ?_
    refine wp_iret dX3_plug_23 (Or.inl rfl) ?_
    exact q_i (by unfold vPlug; rw [if_neg (by omega)]) hQ
  · refine wp_iload_n dX3_plug_11 rfl ?_
    refine wp_iconst dX3_plug_12 (by decide) ?_
    refine wp_ic_lt 21 dX3_plug_13 (by decide) (fun hh13 => ?_) (fun hh13 => ?_)
    · refine wp_bipush dX3_plug_21 (by decide) ?_
      refine wp_iret dX3_plug_23 (Or.inl rfl) ?_
      exact q_i (by unfold vPlug; rw [if_neg (by omega)]) hQ
    · refine wp_iload_n dX3_plug_16 rfl ?_
      refine wp_iconst dX3_plug_17 (by decide) ?_
      refine wp_ic_le 24 dX3_plug_18 (by decide) (fun hh18 => ?_) (fun hh18 => ?_)
      · refine wp_aload_n dX3_plug_24 rfl ?_
        refine wp_getR dX3_plug_25 flX3_39 (by decide) rfl rfl ?_
        refine wp_iload_n dX3_plug_28 rfl ?_
        refine wp_V1 dX3_plug_29 vlX3_141 (by decide) rfl (Nat.le_of_ble_eq_true rfl) ?_
        refine s0_plugs hp Gz_w0 (by omega) (by omega) ?_
        refine wp_lstN (L' := [some (vr _), some (vi _), some (vi _), some (vl _), none]) dX3_plug_32 (Nat.le_of_ble_eq_true rfl) rfl ?_
        refine wp_lload_n dX3_plug_33 rfl ?_
        refine wp_ldc2 dX3_plug_34 llX3_145 ?_
        refine wp_lcmp dX3_plug_37 ?_
        refine wp_if_ne 45 dX3_plug_38 (by decide) (fun hh38 => ?_) (fun hh38 => ?_)
        · refine wp_lload_n dX3_plug_45 rfl ?_
          refine wp_iload_n dX3_plug_46 rfl ?_
          refine wp_S2 dX3_plug_47 zlX3_147 (Nat.le_of_ble_eq_true rfl) ?_
          obtain ⟨q1, p, q2, q3, q4⟩ := (pl_si (g := Gz z) (c := c) (i := i) hp.gv (by omega) (by omega)).resolve_left (fun q => hh38 (lcm_z.mpr q.1))
          refine s3_soi q2 q3 ?_
          rw [q4]
          refine wp_iret dX3_plug_50 (Or.inl rfl) ?_
          have eV : vPlug z c i = plv (Gz z) c i := by unfold vPlug; rw [if_pos (by omega)]
          rw [eV] at hQ
          first
          | exact hQ
          | (
            have q := (pl_si (g := Gz z) (c := c) (i := i) hp.gv (by omega) (by omega)).resolve_right (fun q => q.1 (lcm_z.mp (by first | exact hh38 | exact Classical.not_not.mp hh38)))
            exact q_i q.2.symm hQ)
        · refine wp_iconst dX3_plug_41 (by decide) ?_
          refine wp_gotoN 50 dX3_plug_42 (by decide) ?_
          refine wp_iret dX3_plug_50 (Or.inl rfl) ?_
          have eV : vPlug z c i = plv (Gz z) c i := by unfold vPlug; rw [if_pos (by omega)]
          rw [eV] at hQ
          first
          | exact hQ
          | (
            have q := (pl_si (g := Gz z) (c := c) (i := i) hp.gv (by omega) (by omega)).resolve_right (fun q => q.1 (lcm_z.mp (by first | exact hh38 | exact Classical.not_not.mp hh38)))
            exact q_i q.2.symm hQ)
      · refine wp_bipush dX3_plug_21 (by decide) ?_
        refine wp_iret dX3_plug_23 (Or.inl rfl) ?_
        exact q_i (by unfold vPlug; rw [if_neg (by omega)]) hQ
