theorem bt_s {x : BitVec 64} {p : Nat → Prop} {c : Int} (h : SB x p) : bt x c ↔ 0 ≤ c ∧ c < 35 ∧ p c.toNat := and_congr_right (fun _ => and_congr_right (fun _ => h _))
theorem PL.gv {σ : aS} {g : aG} (h : PL σ g) : GV g := h.2.2.2.2.2.2.2.2.2.1
theorem PL.kz {σ : aS} {g : aG} (h : PL σ g) : KZ g := h.2.2.2.2.2.2.2.2.2.2.1
theorem PL.g5 {σ : aS} {g : aG} (h : PL σ g) : ggn g ≤ 5 * ggw g := h.2.2.2.2.2.2.2.2.2.2.2
theorem PL.mv {σ : aS} {g : aG} (h : PL σ g) : MV σ g := h.2.2.2.2.2.2.2.1
theorem PL.n {σ : aS} {g : aG} (h : PL σ g) : σ.1 13 3 = ggn g ∧ 0 ≤ ggn g ∧ ggn g ≤ 35 := ⟨h.2.1, h.gv.1, h.gv.2.1⟩
theorem PL.b4 {σ : aS} {g : aG} {c : Int} (h : PL σ g) : bt (σ.2 13 4) c ↔ opn g c := by
  rw [bt_s h.2.2.1]
  constructor
  · rintro ⟨q1, -, q2⟩; rw [Int.toNat_of_nonneg q1] at q2; exact q2
  · intro q; have := opn_w h.gv q; exact ⟨q.1, by omega, by rw [Int.toNat_of_nonneg q.1]; exact q⟩
theorem PL.b5 {σ : aS} {g : aG} {c : Int} (h : PL σ g) (h0 : 0 ≤ c) (h1 : c < 35) : bt (σ.2 13 5) c ↔ ggk g c = 2 := by
  rw [bt_s h.2.2.2.1, Int.toNat_of_nonneg h0]
  exact ⟨fun q => q.2.2, fun q => ⟨h0, h1, q⟩⟩
theorem PL.b6 {σ : aS} {g : aG} {c : Int} (h : PL σ g) (h0 : 0 ≤ c) (h1 : c < 35) : bt (σ.2 13 6) c ↔ ggk g c = 3 := by
  rw [bt_s h.2.2.2.2.1, Int.toNat_of_nonneg h0]
  exact ⟨fun q => q.2.2, fun q => ⟨h0, h1, q⟩⟩
theorem PL.b9 {σ : aS} {g : aG} {c : Int} (h : PL σ g) (h0 : 0 ≤ c) (h1 : c < ggn g) : bt (σ.2 13 9) c ↔ upp g c := by
  have := h.n
  rw [bt_s h.1.2.2.2, Int.toNat_of_nonneg h0]
  exact ⟨fun q => q.2.2.2, fun q => ⟨h0, by omega, h1, q⟩⟩
theorem PL.b10 {σ : aS} {g : aG} {c : Int} (h : PL σ g) (h0 : 0 ≤ c) (h1 : c < 35) : bt (σ.2 13 10) c ↔ hld g c := by
  rw [bt_s h.2.2.2.2.2.1, Int.toNat_of_nonneg h0]
  exact ⟨fun q => q.2.2, fun q => ⟨h0, h1, q⟩⟩
theorem PL.b11 {σ : aS} {g : aG} {c : Int} (h : PL σ g) (h0 : 0 ≤ c) (h1 : c < 35) : bt (σ.2 13 11) c ↔ Rch (flW g) g (spS g (-1)) c := by
  rw [bt_s h.2.2.2.2.2.2.1, Int.toNat_of_nonneg h0]
  exact ⟨fun q => q.2.2, fun q => ⟨h0, h1, q⟩⟩
theorem PL.bF {σ : aS} {g : aG} {c : Int} (h : PL σ g) : bt (σ.2 13 4 &&& (σ.2 13 10 ^^^ 18446744073709551615#64)) c ↔ opn g c ∧ ¬ hld g c := by
  rw [bt_s (h.2.2.1.an h.2.2.2.2.2.1.nt)]
  constructor
  · rintro ⟨q1, -, q2, -, q3⟩; rw [Int.toNat_of_nonneg q1] at q2 q3; exact ⟨q2, q3⟩
  · rintro ⟨q1, q2⟩
    have := opn_w h.gv q1
    rw [Int.toNat_of_nonneg q1.1]
    exact ⟨q1.1, by omega, q1, by omega, q2⟩
theorem ceE_o {g : aG} {c y : Int} (hg : GV g) (h : ceE g c y) : opn g c ∧ opn g (tgt g c y) := ⟨((ceE_d hg).mp h).1, ((ceE_d hg).mp h).2.1⟩
theorem bt_ce {g : aG} {x : BitVec 64} {c y : Int} (hg : GV g) (h : SB x (fun i => ceE g i y)) : bt x c ↔ ceE g c y := by
  rw [bt_s h]
  constructor
  · rintro ⟨q1, -, q2⟩; rw [Int.toNat_of_nonneg q1] at q2; exact q2
  · intro q
    have := opn_w hg (ceE_o hg q).1
    exact ⟨this.1, by omega, by rw [Int.toNat_of_nonneg this.1]; exact q⟩
/-- the way of the reference that goes to a side -/
def sdY (s : Int) : Int := if s = 0 then 2 else if s = 1 then 0 else if s = 2 then 1 else 3
set_option maxRecDepth 20000 in
theorem s0_isCell {d : Nat} {σ : aS} {Q : aQ} {c : Int} {g : aG} (hp : PL σ g) (hQ : Q (some (vi (bi (0 ≤ c ∧ c ≤ ggn g - 1)))) σ) : aCall 34 (d + 1) mX0_isCell [vr 13, vi c] σ Q := by
  refine cl_in (own := RX0) (cc := cX0_isCell) (rk := 1) (L := [some (vr 13), some (vi c)]) rfl rfl rfl rfl (by decide) (Nat.le_of_ble_eq_true rfl) ?_
  have hn := hp.n
  refine wp_iload_n dX0_isCell_0 rfl ?_
  refine wp_if_lt 22 dX0_isCell_1 (by decide) (fun h1 => ?_) (fun h1 => ?_)
  · refine wp_iconst dX0_isCell_22 (by decide) ?_
    refine wp_iret dX0_isCell_23 (Or.inr ⟨rfl, by decide⟩) ?_
    exact q_f (by omega) hQ
  · refine wp_iload_n dX0_isCell_4 rfl ?_
    refine wp_aload_n dX0_isCell_5 rfl ?_
    refine wp_getI dX0_isCell_6 flX0_68 (by decide) rfl (Or.inl rfl) ?_
    refine wp_ic_ge 22 dX0_isCell_9 (by decide) (fun h9 => ?_) (fun h9 => ?_)
    · refine wp_iconst dX0_isCell_22 (by decide) ?_
      refine wp_iret dX0_isCell_23 (Or.inr ⟨rfl, by decide⟩) ?_
      exact q_f (by omega) hQ
    · refine wp_iload_n dX0_isCell_12 rfl ?_
      refine wp_bipush dX0_isCell_13 (by decide) ?_
      refine wp_ic_ge 22 dX0_isCell_15 (by decide) (fun h15 => ?_) (fun h15 => ?_)
      · refine wp_iconst dX0_isCell_22 (by decide) ?_
        refine wp_iret dX0_isCell_23 (Or.inr ⟨rfl, by decide⟩) ?_
        exact q_f (by omega) hQ
      · refine wp_iconst dX0_isCell_18 (by decide) ?_
        refine wp_gotoN 23 dX0_isCell_19 (by decide) ?_
        refine wp_iret dX0_isCell_23 (Or.inr ⟨rfl, by decide⟩) ?_
        exact q_t (by omega) hQ
set_option maxRecDepth 20000 in
theorem s0_kind {d : Nat} {σ : aS} {Q : aQ} {c : Int} {g : aG} (hp : PL σ g) (h0 : 0 ≤ c) (h1 : c < ggn g) (hQ : Q (some (vi (ggk g c))) σ) : aCall 34 (d + 2) mX0_kind [vr 13, vi c] σ Q := by
  refine cl_in (own := RX0) (cc := cX0_kind) (rk := 0) (L := [some (vr 13), some (vi c)]) rfl rfl rfl rfl (by decide) (Nat.le_of_ble_eq_true rfl) ?_
  have hn := hp.n
  have hk := hp.gv.2.2.2.2.2.2.2 c.toNat
  have hk : 0 ≤ ggk g c ∧ ggk g c ≤ 3 := hk
  refine wp_aload_n dX0_kind_0 rfl ?_
  refine wp_getJ dX0_kind_1 flX0_33 (by decide) rfl rfl ?_
  refine wp_iload_n dX0_kind_4 rfl ?_
  refine wp_S2 dX0_kind_5 zlX0_95 (Nat.le_of_ble_eq_true rfl) ?_
  refine s3_has ?_
  refine wp_ifB_ne 13 dX0_kind_8 (by decide) (fun h8 => ?_) (fun h8 => ?_)
  · refine wp_aload_n dX0_kind_13 rfl ?_
    refine wp_getJ dX0_kind_14 flX0_37 (by decide) rfl rfl ?_
    refine wp_iload_n dX0_kind_17 rfl ?_
    refine wp_S2 dX0_kind_18 zlX0_95 (Nat.le_of_ble_eq_true rfl) ?_
    refine s3_has ?_
    refine wp_ifB_eq 26 dX0_kind_21 (by decide) (fun h21 => ?_) (fun h21 => ?_)
    · refine wp_aload_n dX0_kind_26 rfl ?_
      refine wp_getJ dX0_kind_27 flX0_49 (by decide) rfl rfl ?_
      refine wp_iload_n dX0_kind_30 rfl ?_
      refine wp_S2 dX0_kind_31 zlX0_95 (Nat.le_of_ble_eq_true rfl) ?_
      refine s3_has ?_
      refine wp_ifB_eq 41 dX0_kind_34 (by decide) (fun h34 => ?_) (fun h34 => ?_)
      · refine wp_iconst dX0_kind_41 (by decide) ?_
        refine wp_iret dX0_kind_42 (Or.inl rfl) ?_
        have a1 := (hp.b4.mp h8).2.2
        have a2 : ¬ ggk g c = 2 := fun q => h21 ((hp.b5 h0 (by omega)).mpr q)
        have a3 : ¬ ggk g c = 3 := fun q => h34 ((hp.b6 h0 (by omega)).mpr q)
        exact q_i (by omega) hQ
      · refine wp_iconst dX0_kind_37 (by decide) ?_
        refine wp_gotoN 42 dX0_kind_38 (by decide) ?_
        refine wp_iret dX0_kind_42 (Or.inl rfl) ?_
        exact q_i ((hp.b6 h0 (by omega)).mp h34).symm hQ
    · refine wp_iconst dX0_kind_24 (by decide) ?_
      refine wp_iret dX0_kind_25 (Or.inl rfl) ?_
      exact q_i ((hp.b5 h0 (by omega)).mp h21).symm hQ
  · refine wp_iconst dX0_kind_11 (by decide) ?_
    refine wp_iret dX0_kind_12 (Or.inl rfl) ?_
    have a1 : ggk g c = 0 := Classical.byContradiction (fun q => h8 (hp.b4.mpr ⟨h0, by omega, q⟩))
    exact q_i a1.symm hQ
set_option maxRecDepth 20000 in
theorem s0_fallen {d : Nat} {σ : aS} {Q : aQ} {c : Int} {g : aG} (hp : PL σ g) (ho : opn g c) (hQ : Q (some (vi (fall1 g c))) σ) : aCall 34 (d + 2) mX0_fallen [vr 13, vi c] σ Q := by
  refine cl_in (own := RX0) (cc := cX0_fallen) (rk := 0) (L := [some (vr 13), some (vi c)]) rfl rfl rfl rfl (by decide) (Nat.le_of_ble_eq_true rfl) ?_
  have hw := opn_w hp.gv ho
  have e2 := hp.1.1
  refine wp_aload_n dX0_fallen_0 rfl ?_
  refine wp_getJ dX0_fallen_1 flX0_33 (by decide) rfl rfl ?_
  refine wp_aload_n dX0_fallen_4 rfl ?_
  refine wp_getJ dX0_fallen_5 flX0_46 (by decide) rfl rfl ?_
  refine wp_ldc2 dX0_fallen_8 llX0_44 ?_
  refine wp_lxor dX0_fallen_11 ?_
  refine wp_land dX0_fallen_12 ?_
  refine wp_iload_n dX0_fallen_13 rfl ?_
  refine wp_S2 dX0_fallen_14 zlX0_95 (Nat.le_of_ble_eq_true rfl) ?_
  refine s3_has ?_
  refine wp_ifB_ne 22 dX0_fallen_17 (by decide) (fun h17 => ?_) (fun h17 => ?_)
  · refine wp_aload_n dX0_fallen_22 rfl ?_
    refine wp_getJ dX0_fallen_23 flX0_77 (by decide) rfl rfl ?_
    refine wp_iload_n dX0_fallen_26 rfl ?_
    refine wp_S2 dX0_fallen_27 zlX0_95 (Nat.le_of_ble_eq_true rfl) ?_
    refine s3_has ?_
    refine wp_ifB_eq 42 dX0_fallen_30 (by decide) (fun h30 => ?_) (fun h30 => ?_)
    · refine wp_iload_n dX0_fallen_42 rfl ?_
      refine wp_aload_n dX0_fallen_43 rfl ?_
      refine wp_getI dX0_fallen_44 flX0_65 (by decide) rfl (Or.inl rfl) ?_
      refine wp_iaddN dX0_fallen_47 (by omega) ?_
      refine wp_iret dX0_fallen_48 (Or.inl rfl) ?_
      have a1 := (hp.bF.mp h17).2
      have a2 : ¬ upp g c := fun q => h30 ((hp.b9 hw.1 hw.2.1).mpr q)
      exact q_i (by unfold fall1 blw; rw [cif_f a1, if_neg a2, e2]) hQ
    · refine wp_iload_n dX0_fallen_33 rfl ?_
      refine wp_aload_n dX0_fallen_34 rfl ?_
      refine wp_getI dX0_fallen_35 flX0_65 (by decide) rfl (Or.inl rfl) ?_
      refine wp_isubN dX0_fallen_38 (by omega) ?_
      refine wp_gotoN 48 dX0_fallen_39 (by decide) ?_
      refine wp_iret dX0_fallen_48 (Or.inl rfl) ?_
      have a1 := (hp.bF.mp h17).2
      have a2 : upp g c := (hp.b9 hw.1 hw.2.1).mp h30
      exact q_i (by unfold fall1 blw; rw [cif_f a1, if_pos a2, e2]) hQ
  · refine wp_iload_n dX0_fallen_20 rfl ?_
    refine wp_iret dX0_fallen_21 (Or.inl rfl) ?_
    have a1 : hld g c := Classical.byContradiction (fun q => h17 (hp.bF.mpr ⟨ho, q⟩))
    exact q_i (by unfold fall1; rw [cif_t a1]) hQ
set_option maxRecDepth 20000 in
theorem l0_pb {d : Nat} {σ : aS} {Q : aQ} {c s : Int} {g : aG} (hp : PL σ g) : ∀ (r : Nat) (k : Nat) (x : Int), k + r = min s.toNat 5 → opn g x → Q (some (vi (fallN g r x))) σ → Wp RX0 cX0_placeBehind 34 (aCall 34 (d + 2)) Q 0 false 0 (fun _ => 0) 18 [some (vr 13), some (vi c), some (vi s), some (vi x), some (vi (k : Int))] [] σ := by
  intro r
  induction r with
  | zero =>
    intro k x hk ho hQ
    refine wp_iload dX0_placeBehind_18 rfl ?_
    refine wp_iload_n dX0_placeBehind_20 rfl ?_
    refine wp_ic_ge 42 dX0_placeBehind_21 (by decide) (fun h21 => ?_) (fun h21 => ?_)
    · refine wp_iload_n dX0_placeBehind_42 rfl ?_
      refine wp_iret dX0_placeBehind_43 (Or.inl rfl) ?_
      exact hQ
    · refine wp_iload dX0_placeBehind_24 rfl ?_
      refine wp_iconst dX0_placeBehind_26 (by decide) ?_
      refine wp_ic_ge 42 dX0_placeBehind_27 (by decide) (fun h27 => ?_) (fun h27 => ?_)
      · refine wp_iload_n dX0_placeBehind_42 rfl ?_
        refine wp_iret dX0_placeBehind_43 (Or.inl rfl) ?_
        exact hQ
      · exact absurd hk (by omega)
  | succ r ih =>
    intro k x hk ho hQ
    refine wp_iload dX0_placeBehind_18 rfl ?_
    refine wp_iload_n dX0_placeBehind_20 rfl ?_
    refine wp_ic_ge 42 dX0_placeBehind_21 (by decide) (fun h21 => ?_) (fun h21 => ?_)
    · exact absurd hk (by omega)
    · refine wp_iload dX0_placeBehind_24 rfl ?_
      refine wp_iconst dX0_placeBehind_26 (by decide) ?_
      refine wp_ic_ge 42 dX0_placeBehind_27 (by decide) (fun h27 => ?_) (fun h27 => ?_)
      · exact absurd hk (by omega)
      · refine wp_aload_n dX0_placeBehind_30 rfl ?_
        refine wp_iload_n dX0_placeBehind_31 rfl ?_
        refine wp_V1 dX0_placeBehind_32 vlX0_99 (by decide) rfl (Nat.le_of_ble_eq_true rfl) ?_
        refine s0_fallen hp ho ?_
        refine wp_istN (L' := [some (vr _), some (vi _), some (vi _), some (vi _), some (vi _)]) dX0_placeBehind_35 (Nat.le_of_ble_eq_true rfl) rfl ?_
        refine wp_iincN (L' := [some (vr _), some (vi _), some (vi _), some (vi _), some (vi _)]) dX0_placeBehind_36 rfl (by omega) rfl ?_
        refine wp_gotoN 18 dX0_placeBehind_39 (by decide) ?_
        exact ih (k + 1) _ (by omega) (opn_f ho) hQ
set_option maxRecDepth 20000 in
theorem s0_placeBehind {d : Nat} {σ : aS} {Q : aQ} {c s : Int} {g : aG} (hp : PL σ g) (hQ : Q (some (vi (cif (opn g c) (fallN g (min s.toNat 5) c) (-1)))) σ) : aCall 34 (d + 3) mX0_placeBehind [vr 13, vi c, vi s] σ Q := by
  refine cl_in (own := RX0) (cc := cX0_placeBehind) (rk := 0) (L := [some (vr 13), some (vi c), some (vi s), none, none]) rfl rfl rfl rfl (by decide) (Nat.le_of_ble_eq_true rfl) ?_
  refine wp_aload_n dX0_placeBehind_0 rfl ?_
  refine wp_getJ dX0_placeBehind_1 flX0_33 (by decide) rfl rfl ?_
  refine wp_iload_n dX0_placeBehind_4 rfl ?_
  refine wp_S2 dX0_placeBehind_5 zlX0_95 (Nat.le_of_ble_eq_true rfl) ?_
  refine s3_has ?_
  refine wp_ifB_ne 13 dX0_placeBehind_8 (by decide) (fun h8 => ?_) (fun h8 => ?_)
  · refine wp_iload_n dX0_placeBehind_13 rfl ?_
    refine wp_istN (L' := [some (vr _), some (vi _), some (vi _), some (vi _), none]) dX0_placeBehind_14 (Nat.le_of_ble_eq_true rfl) rfl ?_
    refine wp_iconst dX0_placeBehind_15 (by decide) ?_
    refine wp_ist (L' := [some (vr _), some (vi _), some (vi _), some (vi _), some (vi _)]) dX0_placeBehind_16 (Nat.le_of_ble_eq_true rfl) rfl ?_
    have ho := hp.b4.mp h8
    rw [cif_t ho] at hQ
    exact l0_pb hp _ 0 c (by omega) ho hQ
  · refine wp_iconst dX0_placeBehind_11 (by decide) ?_
    refine wp_iret dX0_placeBehind_12 (Or.inl rfl) ?_
    rw [cif_f (fun q => h8 (hp.b4.mpr q))] at hQ
    exact hQ
/-- how deep one falls -/
noncomputable def flC (g : aG) : Nat → Int → Int
  | 0, _ => 0
  | r + 1, x => cif (opn g x ∧ ¬ hld g x) (1 + flC g r (blw g x)) 0
theorem flC_in {g : aG} : ∀ (r : Nat) (x : Int), 0 ≤ flC g r x ∧ flC g r x ≤ r := by
  intro r
  induction r with
  | zero => intro x; unfold flC; omega
  | succ r ih =>
    intro x
    unfold flC
    by_cases h : opn g x ∧ ¬ hld g x
    · rw [cif_t h]; have := ih (blw g x); omega
    · rw [cif_f h]; omega
theorem q_i9 {x y : Int} {Q : aQ} {σ : aS} (h : x = y) (hQ : Q (some (vi x)) σ) : Q (some (vi y)) σ := by rw [← h]; exact hQ
set_option maxRecDepth 20000 in
theorem l0_fl {d : Nat} {σ : aS} {Q : aQ} {c : Int} {g : aG} (hp : PL σ g) : ∀ (r : Nat) (k : Nat) (x t : Int), k + r = 5 → 0 ≤ t → t ≤ k → Q (some (vi (t + flC g r x))) σ → Wp RX0 cX0_falls 34 (aCall 34 (d + 2)) Q 0 false 0 (fun _ => 0) 7 [some (vr 13), some (vi c), some (vi x), some (vi t), some (vi (k : Int))] [] σ := by
  intro r
  induction r with
  | zero =>
    intro k x t hk t0 t1 hQ
    refine wp_iload dX0_falls_7 rfl ?_
    refine wp_iconst dX0_falls_9 (by decide) ?_
    refine wp_ic_ge 48 dX0_falls_10 (by decide) (fun h10 => ?_) (fun h10 => ?_)
    · refine wp_iload_n dX0_falls_48 rfl ?_
      refine wp_iret dX0_falls_49 (Or.inl rfl) ?_
      unfold flC at hQ
      exact q_i (by omega) hQ
    · exfalso; omega
  | succ r ih =>
    intro k x t hk t0 t1 hQ
    refine wp_iload dX0_falls_7 rfl ?_
    refine wp_iconst dX0_falls_9 (by decide) ?_
    refine wp_ic_ge 48 dX0_falls_10 (by decide) (fun h10 => ?_) (fun h10 => ?_)
    · exfalso; omega
    · refine wp_aload_n dX0_falls_13 rfl ?_
      refine wp_getJ dX0_falls_14 flX0_33 (by decide) rfl rfl ?_
      refine wp_aload_n dX0_falls_17 rfl ?_
      refine wp_getJ dX0_falls_18 flX0_46 (by decide) rfl rfl ?_
      refine wp_ldc2 dX0_falls_21 llX0_44 ?_
      refine wp_lxor dX0_falls_24 ?_
      refine wp_land dX0_falls_25 ?_
      refine wp_iload_n dX0_falls_26 rfl ?_
      refine wp_S2 dX0_falls_27 zlX0_95 (Nat.le_of_ble_eq_true rfl) ?_
      refine s3_has ?_
      refine wp_ifB_eq 48 dX0_falls_30 (by decide) (fun h30 => ?_) (fun h30 => ?_)
      · refine wp_iload_n dX0_falls_48 rfl ?_
        refine wp_iret dX0_falls_49 (Or.inl rfl) ?_
        unfold flC at hQ
        rw [cif_f (fun q => h30 (hp.bF.mpr q))] at hQ
        exact q_i (by omega) hQ
      · have hq := hp.bF.mp h30
        have ho := hq.1
        refine wp_aload_n dX0_falls_33 rfl ?_
        refine wp_iload_n dX0_falls_34 rfl ?_
        refine wp_V1 dX0_falls_35 vlX0_99 (by decide) rfl (Nat.le_of_ble_eq_true rfl) ?_
        refine s0_fallen hp ho ?_
        have e9 : fall1 g x = blw g x := by unfold fall1; rw [cif_f hq.2]
        rw [e9]
        refine wp_istN (L' := [some (vr _), some (vi _), some (vi _), some (vi _), some (vi _)]) dX0_falls_38 (Nat.le_of_ble_eq_true rfl) rfl ?_
        refine wp_iincN (L' := [some (vr _), some (vi _), some (vi _), some (vi _), some (vi _)]) dX0_falls_39 rfl (by omega) rfl ?_
        refine wp_iincN (L' := [some (vr _), some (vi _), some (vi _), some (vi _), some (vi _)]) dX0_falls_42 rfl (by omega) rfl ?_
        refine wp_gotoN 7 dX0_falls_45 (by decide) ?_
        unfold flC at hQ
        rw [cif_t hq] at hQ
        exact ih (k + 1) _ (t + 1) (by omega) (by omega) (by omega) (q_i9 (by omega) hQ)
set_option maxRecDepth 20000 in
theorem s0_falls {d : Nat} {σ : aS} {Q : aQ} {c : Int} {g : aG} (hp : PL σ g) (hQ : Q (some (vi (flC g 5 c))) σ) : aCall 34 (d + 3) mX0_falls [vr 13, vi c] σ Q := by
  refine cl_in (own := RX0) (cc := cX0_falls) (rk := 0) (L := [some (vr 13), some (vi c), none, none, none]) rfl rfl rfl rfl (by decide) (Nat.le_of_ble_eq_true rfl) ?_
  refine wp_iload_n dX0_falls_0 rfl ?_
  refine wp_istN (L' := [some (vr _), some (vi _), some (vi _), none, none]) dX0_falls_1 (Nat.le_of_ble_eq_true rfl) rfl ?_
  refine wp_iconst dX0_falls_2 (by decide) ?_
  refine wp_istN (L' := [some (vr _), some (vi _), some (vi _), some (vi _), none]) dX0_falls_3 (Nat.le_of_ble_eq_true rfl) rfl ?_
  refine wp_iconst dX0_falls_4 (by decide) ?_
  refine wp_ist (L' := [some (vr _), some (vi _), some (vi _), some (vi _), some (vi _)]) dX0_falls_5 (Nat.le_of_ble_eq_true rfl) rfl ?_
  exact l0_fl hp 5 0 c 0 (by omega) (by omega) (by omega) (q_i9 (by omega) hQ)
set_option maxRecDepth 20000 in
theorem s0_goneTo {d : Nat} {σ : aS} {Q : aQ} {c s : Int} {g : aG} (hp : PL σ g) (s0 : 0 ≤ s) (s4 : s < 4) (hQ : Q (some (vi (cif (ceE g c (sdY s)) (tgt g c (sdY s)) (-1)))) σ) : aCall 34 (d + 2) mX0_goneTo [vr 13, vi c, vi s] σ Q := by
  refine cl_in (own := RX0) (cc := cX0_goneTo) (rk := 0) (L := [some (vr 13), some (vi c), some (vi s)]) rfl rfl rfl rfl (by decide) (Nat.le_of_ble_eq_true rfl) ?_
  have hg := hp.gv
  have e2 := hp.1.1
  have hs : s = 0 ∨ s = 1 ∨ s = 2 ∨ s = 3 := by omega
  rcases hs with rfl | rfl | rfl | rfl
  · have ey : sdY 0 = 2 := by decide
    rw [ey] at hQ
    refine wp_iload_n dX0_goneTo_0 rfl ?_
    refine wp_if_lt 22 dX0_goneTo_1 (by decide) (fun h1 => ?_) (fun h1 => ?_)
    · exact absurd h1 (by decide)
    · refine wp_iload_n dX0_goneTo_4 rfl ?_
      refine wp_iconst dX0_goneTo_5 (by decide) ?_
      refine wp_ic_ge 22 dX0_goneTo_6 (by decide) (fun h6 => ?_) (fun h6 => ?_)
      · exact absurd h6 (by decide)
      · refine wp_aload_n dX0_goneTo_9 rfl ?_
        refine wp_getR dX0_goneTo_10 flX0_9 (by decide) rfl rfl ?_
        refine wp_iload_n dX0_goneTo_13 rfl ?_
        refine wp_laload dX0_goneTo_14 (by decide) rfl (by decide) (by decide) (by decide) ?_
        refine wp_iload_n dX0_goneTo_15 rfl ?_
        refine wp_S2 dX0_goneTo_16 zlX0_95 (Nat.le_of_ble_eq_true rfl) ?_
        refine s3_has ?_
        refine wp_ifB_ne 24 dX0_goneTo_19 (by decide) (fun h19 => ?_) (fun h19 => ?_)
        · have hc := (bt_ce (c := c) hg hp.mv.1.1).mp h19
          have ho := (ceE_o hg hc).2
          have hw := opn_w hg (ceE_o hg hc).1
          rw [cif_t hc] at hQ
          refine wp_iload_n dX0_goneTo_24 rfl ?_
          refine wp_tabIn (tgt := 52) dX0_goneTo_25 (by decide) (by decide) rfl (by decide) ?_
          refine wp_iload_n dX0_goneTo_52 rfl ?_
          refine wp_aload_n dX0_goneTo_53 rfl ?_
          refine wp_getI dX0_goneTo_54 flX0_65 (by decide) rfl (Or.inl rfl) ?_
          refine wp_isubN dX0_goneTo_57 (by omega) ?_
          refine wp_iret dX0_goneTo_58 (Or.inl rfl) ?_
          rw [tgt_2, ← e2] at hQ
          exact hQ
        · refine wp_iconst dX0_goneTo_22 (by decide) ?_
          refine wp_iret dX0_goneTo_23 (Or.inl rfl) ?_
          rw [cif_f (fun q => h19 ((bt_ce (c := c) hg hp.mv.1.1).mpr q))] at hQ
          exact hQ
  · have ey : sdY 1 = 0 := by decide
    rw [ey] at hQ
    refine wp_iload_n dX0_goneTo_0 rfl ?_
    refine wp_if_lt 22 dX0_goneTo_1 (by decide) (fun h1 => ?_) (fun h1 => ?_)
    · exact absurd h1 (by decide)
    · refine wp_iload_n dX0_goneTo_4 rfl ?_
      refine wp_iconst dX0_goneTo_5 (by decide) ?_
      refine wp_ic_ge 22 dX0_goneTo_6 (by decide) (fun h6 => ?_) (fun h6 => ?_)
      · exact absurd h6 (by decide)
      · refine wp_aload_n dX0_goneTo_9 rfl ?_
        refine wp_getR dX0_goneTo_10 flX0_9 (by decide) rfl rfl ?_
        refine wp_iload_n dX0_goneTo_13 rfl ?_
        refine wp_laload dX0_goneTo_14 (by decide) rfl (by decide) (by decide) (by decide) ?_
        refine wp_iload_n dX0_goneTo_15 rfl ?_
        refine wp_S2 dX0_goneTo_16 zlX0_95 (Nat.le_of_ble_eq_true rfl) ?_
        refine s3_has ?_
        refine wp_ifB_ne 24 dX0_goneTo_19 (by decide) (fun h19 => ?_) (fun h19 => ?_)
        · have hc := (bt_ce (c := c) hg hp.mv.1.2.1).mp h19
          have ho := (ceE_o hg hc).2
          have hw := opn_w hg (ceE_o hg hc).1
          rw [cif_t hc] at hQ
          refine wp_iload_n dX0_goneTo_24 rfl ?_
          refine wp_tabIn (tgt := 59) dX0_goneTo_25 (by decide) (by decide) rfl (by decide) ?_
          refine wp_iload_n dX0_goneTo_59 rfl ?_
          refine wp_iconst dX0_goneTo_60 (by decide) ?_
          refine wp_isubN dX0_goneTo_61 (by omega) ?_
          refine wp_iret dX0_goneTo_62 (Or.inl rfl) ?_
          rw [tgt_0] at ho hQ
          by_cases q : c % ggw g > 0
          · rw [if_pos q] at hQ; exact hQ
          · rw [if_neg q] at ho; exact absurd ho.1 (by decide)
        · refine wp_iconst dX0_goneTo_22 (by decide) ?_
          refine wp_iret dX0_goneTo_23 (Or.inl rfl) ?_
          rw [cif_f (fun q => h19 ((bt_ce (c := c) hg hp.mv.1.2.1).mpr q))] at hQ
          exact hQ
  · have ey : sdY 2 = 1 := by decide
    rw [ey] at hQ
    refine wp_iload_n dX0_goneTo_0 rfl ?_
    refine wp_if_lt 22 dX0_goneTo_1 (by decide) (fun h1 => ?_) (fun h1 => ?_)
    · exact absurd h1 (by decide)
    · refine wp_iload_n dX0_goneTo_4 rfl ?_
      refine wp_iconst dX0_goneTo_5 (by decide) ?_
      refine wp_ic_ge 22 dX0_goneTo_6 (by decide) (fun h6 => ?_) (fun h6 => ?_)
      · exact absurd h6 (by decide)
      · refine wp_aload_n dX0_goneTo_9 rfl ?_
        refine wp_getR dX0_goneTo_10 flX0_9 (by decide) rfl rfl ?_
        refine wp_iload_n dX0_goneTo_13 rfl ?_
        refine wp_laload dX0_goneTo_14 (by decide) rfl (by decide) (by decide) (by decide) ?_
        refine wp_iload_n dX0_goneTo_15 rfl ?_
        refine wp_S2 dX0_goneTo_16 zlX0_95 (Nat.le_of_ble_eq_true rfl) ?_
        refine s3_has ?_
        refine wp_ifB_ne 24 dX0_goneTo_19 (by decide) (fun h19 => ?_) (fun h19 => ?_)
        · have hc := (bt_ce (c := c) hg hp.mv.1.2.2.1).mp h19
          have ho := (ceE_o hg hc).2
          have hw := opn_w hg (ceE_o hg hc).1
          rw [cif_t hc] at hQ
          refine wp_iload_n dX0_goneTo_24 rfl ?_
          refine wp_tabIn (tgt := 63) dX0_goneTo_25 (by decide) (by decide) rfl (by decide) ?_
          refine wp_iload_n dX0_goneTo_63 rfl ?_
          refine wp_iconst dX0_goneTo_64 (by decide) ?_
          refine wp_iaddN dX0_goneTo_65 (by omega) ?_
          refine wp_iret dX0_goneTo_66 (Or.inl rfl) ?_
          rw [tgt_1] at ho hQ
          by_cases q : c % ggw g < ggw g - 1
          · rw [if_pos q] at hQ; exact hQ
          · rw [if_neg q] at ho; exact absurd ho.1 (by decide)
        · refine wp_iconst dX0_goneTo_22 (by decide) ?_
          refine wp_iret dX0_goneTo_23 (Or.inl rfl) ?_
          rw [cif_f (fun q => h19 ((bt_ce (c := c) hg hp.mv.1.2.2.1).mpr q))] at hQ
          exact hQ
  · have ey : sdY 3 = 3 := by decide
    rw [ey] at hQ
    refine wp_iload_n dX0_goneTo_0 rfl ?_
    refine wp_if_lt 22 dX0_goneTo_1 (by decide) (fun h1 => ?_) (fun h1 => ?_)
    · exact absurd h1 (by decide)
    · refine wp_iload_n dX0_goneTo_4 rfl ?_
      refine wp_iconst dX0_goneTo_5 (by decide) ?_
      refine wp_ic_ge 22 dX0_goneTo_6 (by decide) (fun h6 => ?_) (fun h6 => ?_)
      · exact absurd h6 (by decide)
      · refine wp_aload_n dX0_goneTo_9 rfl ?_
        refine wp_getR dX0_goneTo_10 flX0_9 (by decide) rfl rfl ?_
        refine wp_iload_n dX0_goneTo_13 rfl ?_
        refine wp_laload dX0_goneTo_14 (by decide) rfl (by decide) (by decide) (by decide) ?_
        refine wp_iload_n dX0_goneTo_15 rfl ?_
        refine wp_S2 dX0_goneTo_16 zlX0_95 (Nat.le_of_ble_eq_true rfl) ?_
        refine s3_has ?_
        refine wp_ifB_ne 24 dX0_goneTo_19 (by decide) (fun h19 => ?_) (fun h19 => ?_)
        · have hc := (bt_ce (c := c) hg hp.mv.1.2.2.2).mp h19
          have ho := (ceE_o hg hc).2
          have hw := opn_w hg (ceE_o hg hc).1
          rw [cif_t hc] at hQ
          refine wp_iload_n dX0_goneTo_24 rfl ?_
          refine wp_tabOut (tgt := 67) dX0_goneTo_25 (by decide) (by decide) ?_
          refine wp_iload_n dX0_goneTo_67 rfl ?_
          refine wp_aload_n dX0_goneTo_68 rfl ?_
          refine wp_getI dX0_goneTo_69 flX0_65 (by decide) rfl (Or.inl rfl) ?_
          refine wp_iaddN dX0_goneTo_72 (by omega) ?_
          refine wp_iret dX0_goneTo_73 (Or.inl rfl) ?_
          rw [tgt_3, ← e2] at hQ
          exact hQ
        · refine wp_iconst dX0_goneTo_22 (by decide) ?_
          refine wp_iret dX0_goneTo_23 (Or.inl rfl) ?_
          rw [cif_f (fun q => h19 ((bt_ce (c := c) hg hp.mv.1.2.2.2).mpr q))] at hQ
          exact hQ
