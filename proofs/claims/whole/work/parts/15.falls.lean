noncomputable def fall1 (g : aG) (c : Int) : Int := cif (hld g c) c (blw g c)
noncomputable def fallN (g : aG) : Nat → Int → Int
  | 0, c => c
  | k + 1, c => fallN g k (fall1 g c)
theorem hld_n {g : aG} {c : Int} (h : ¬ hld g c) (h1 : ggk g c ≠ 0) : opn g (blw g c) ∧ ggk g c ≠ 2 := by
  unfold hld at h
  constructor
  · exact Classical.byContradiction fun q => h ⟨h1, Or.inr q⟩
  · exact fun q => h ⟨h1, Or.inl q⟩
theorem opn_f {g : aG} {c : Int} (h : opn g c) : opn g (fall1 g c) := by
  unfold fall1
  by_cases hh : hld g c
  · rw [cif_t hh]; exact h
  · rw [cif_f hh]; exact (hld_n hh h.2.2).1
theorem opn_b {σ : aS} {c : Int} (hg : GV (gOf σ)) (h : opn (gOf σ) c) : 0 ≤ c ∧ c < σ.1 18 4 ∧ c ≤ 34 ∧ 0 < σ.1 18 4 := by
  have h1 := h.1
  have h2 : c ≤ σ.1 18 4 - 1 := h.2.1
  have := GVn hg
  omega
set_option maxRecDepth 20000 in
theorem l4_fallen {d : Nat} {σ : aS} {Q : aQ} {c s : Int} (hg : GV (gOf σ)) (hs : 0 ≤ s) : ∀ (r k : Nat) (x : Int), k + r = min s.toNat 6 → opn (gOf σ) x → Q (some (vi (fallN (gOf σ) r x))) σ → Wp RX4 cX4_fallen 34 (aCall 34 (d + 3)) Q 0 false 0 (fun _ => 0) 5 [some (vr 18), some (vi c), some (vi s), some (vi x), some (vi k)] [] σ := by
  intro r
  induction r with
  | zero =>
    intro k x hk ho hQ
    have hb := opn_b hg ho
    refine wp_iload dX4_fallen_5 rfl ?_
    refine wp_iload_n dX4_fallen_7 rfl ?_
    refine wp_ic_ge 42 dX4_fallen_8 (by decide) (fun hh8 => ?_) (fun hh8 => ?_)
    · refine wp_iload_n dX4_fallen_42 rfl ?_
      refine wp_iret dX4_fallen_43 (Or.inl rfl) ?_
      exact hQ
    · refine wp_iload dX4_fallen_11 rfl ?_
      refine wp_bipush dX4_fallen_13 (by decide) ?_
      refine wp_ic_ge 42 dX4_fallen_15 (by decide) (fun hh15 => ?_) (fun hh15 => ?_)
      · refine wp_iload_n dX4_fallen_42 rfl ?_
        refine wp_iret dX4_fallen_43 (Or.inl rfl) ?_
        exact hQ
      · exact absurd hk (by omega)
  | succ r ih =>
    intro k x hk ho hQ
    have hb := opn_b hg ho
    refine wp_iload dX4_fallen_5 rfl ?_
    refine wp_iload_n dX4_fallen_7 rfl ?_
    refine wp_ic_ge 42 dX4_fallen_8 (by decide) (fun hh8 => ?_) (fun hh8 => ?_)
    · exact absurd hk (by omega)
    · refine wp_iload dX4_fallen_11 rfl ?_
      refine wp_bipush dX4_fallen_13 (by decide) ?_
      refine wp_ic_ge 42 dX4_fallen_15 (by decide) (fun hh15 => ?_) (fun hh15 => ?_)
      · exact absurd hk (by omega)
      · refine wp_aload_n dX4_fallen_18 rfl ?_
        refine wp_iload_n dX4_fallen_19 rfl ?_
        refine wp_V1 dX4_fallen_20 vlX4_105 (by decide) rfl (Nat.le_of_ble_eq_true rfl) ?_
        refine s4_isHeld hg (by omega) (by omega) ?_
        refine wp_ifB_eq 30 dX4_fallen_23 (by decide) (fun hh23 => ?_) (fun hh23 => ?_)
        · refine wp_aload_n dX4_fallen_30 rfl ?_
          refine wp_iload_n dX4_fallen_31 rfl ?_
          refine wp_V1 dX4_fallen_32 vlX4_96 (by decide) rfl (Nat.le_of_ble_eq_true rfl) ?_
          refine s4_below hg (by omega) (by omega) (by omega) ?_
          refine wp_istN (L' := [some (vr _), some (vi _), some (vi _), some (vi _), some (vi _)]) dX4_fallen_35 (Nat.le_of_ble_eq_true rfl) rfl ?_
          refine wp_iincN (L' := [some (vr _), some (vi _), some (vi _), some (vi _), some (vi _)]) dX4_fallen_36 rfl (by omega) rfl ?_
          refine wp_gotoN 5 dX4_fallen_39 (by decide) ?_
          refine ih (k + 1) _ (by omega) (hld_n hh23 ho.2.2).1 ?_
          have e : fallN (gOf σ) (r + 1) x = fallN (gOf σ) r (blw (gOf σ) x) := by show fallN (gOf σ) r (fall1 (gOf σ) x) = _; unfold fall1; rw [cif_f hh23]
          rw [e] at hQ
          exact hQ
        · refine wp_iload_n dX4_fallen_26 rfl ?_
          refine wp_gotoN 35 dX4_fallen_27 (by decide) ?_
          refine wp_istN (L' := [some (vr _), some (vi _), some (vi _), some (vi _), some (vi _)]) dX4_fallen_35 (Nat.le_of_ble_eq_true rfl) rfl ?_
          refine wp_iincN (L' := [some (vr _), some (vi _), some (vi _), some (vi _), some (vi _)]) dX4_fallen_36 rfl (by omega) rfl ?_
          refine wp_gotoN 5 dX4_fallen_39 (by decide) ?_
          refine ih (k + 1) _ (by omega) ho ?_
          have e : fallN (gOf σ) (r + 1) x = fallN (gOf σ) r x := by show fallN (gOf σ) r (fall1 (gOf σ) x) = _; unfold fall1; rw [cif_t hh23]
          rw [e] at hQ
          exact hQ
set_option maxRecDepth 20000 in
theorem s4_fallen {d : Nat} {σ : aS} {Q : aQ} {c s : Int} (hg : GV (gOf σ)) (hs : 0 ≤ s) (ho : opn (gOf σ) c) (hQ : Q (some (vi (fallN (gOf σ) (min s.toNat 6) c))) σ) : aCall 34 (d + 4) mX4_fallen [vr 18, vi c, vi s] σ Q := by
  refine cl_in (own := RX4) (cc := cX4_fallen) (rk := 0) (L := [some (vr 18), some (vi c), some (vi s), none, none]) rfl rfl rfl rfl (by decide) (Nat.le_of_ble_eq_true rfl) ?_
  refine wp_iload_n dX4_fallen_0 rfl ?_
  refine wp_istN (L' := [some (vr _), some (vi _), some (vi _), some (vi _), none]) dX4_fallen_1 (Nat.le_of_ble_eq_true rfl) rfl ?_
  refine wp_iconst dX4_fallen_2 (by decide) ?_
  refine wp_ist (L' := [some (vr _), some (vi _), some (vi _), some (vi _), some (vi _)]) dX4_fallen_3 (Nat.le_of_ble_eq_true rfl) rfl ?_
  exact l4_fallen hg hs (min s.toNat 6) 0 c (by omega) ho hQ
set_option maxRecDepth 20000 in
theorem s4_isThing {d : Nat} {σ : aS} {Q : aQ} {t : Int} {z : aZ} (hm : MI σ z) (hz : ZV z) (hQ : Q (some (vi (bi (0 ≤ t ∧ t ≤ zn z - 1)))) σ) : aCall 34 (d + 2) mX4_isThing [vr 18, vi t] σ Q := by
  refine cl_in (own := RX4) (cc := cX4_isThing) (rk := 1) (L := [some (vr 18), some (vi t)]) rfl rfl rfl rfl (by decide) (Nat.le_of_ble_eq_true rfl) ?_
  have hl := hz.2.2.2.1
  have h5 := hm.2.2.2.2.1
  refine wp_iload_n dX4_isThing_0 rfl ?_
  refine wp_iconst dX4_isThing_1 (by decide) ?_
  refine wp_aload_n dX4_isThing_2 rfl ?_
  refine wp_getI dX4_isThing_3 flX4_108 (by decide) rfl (Or.inl rfl) ?_
  refine wp_iconst dX4_isThing_6 (by decide) ?_
  refine wp_isubN dX4_isThing_7 (by omega) ?_
  refine wp_S3 dX4_isThing_8 zlX4_65 (Nat.le_of_ble_eq_true rfl) ?_
  refine s4_in ?_
  refine wp_iret dX4_isThing_11 (Or.inr ⟨rfl, bi_01 _⟩) ?_
  rw [h5]
  exact hQ
noncomputable def atv (z : aZ) (t : Nat) (s : Int) : Int := cif (s < zs z t ∨ ¬ opn (Gz z) (zc z t)) (-1) (fallN (Gz z) (min (s - zs z t).toNat 6) (zc z t))
noncomputable def rsv (z : aZ) (t : Nat) (w : Int) : Int := cif (opn (Gz z) (zc z t)) (if w = 0 then fallN (Gz z) 6 (zc z t) else ((fallN (Gz z) 6 (zc z t) / ggw (Gz z) - zc z t / ggw (Gz z)).natAbs : Int)) (if w = 0 then -1 else 0)
noncomputable def vAt (z : aZ) (t s : Int) : Int := if (0 ≤ t ∧ t ≤ zn z - 1) ∧ (0 ≤ s ∧ s ≤ 99) then atv z t.toNat s else -2
noncomputable def vRests (z : aZ) (t w : Int) : Int := if (0 ≤ t ∧ t ≤ zn z - 1) ∧ (0 ≤ w ∧ w ≤ 1) then rsv z t.toNat w else -2
noncomputable def lgN (z : aZ) : Nat → Int
  | 0 => -1
  | k + 1 => cif (rsv z k 0 ≠ -1 ∧ (lgN z k = -1 ∨ rsv z (lgN z k).toNat 1 < rsv z k 1)) (k : Int) (lgN z k)
theorem lgN_in (z : aZ) : ∀ k, -1 ≤ lgN z k ∧ lgN z k < k := by
  intro k
  induction k with
  | zero => unfold lgN; omega
  | succ k ih =>
    unfold lgN
    by_cases h : rsv z k 0 ≠ -1 ∧ (lgN z k = -1 ∨ rsv z (lgN z k).toNat 1 < rsv z k 1)
    · rw [cif_t h]; omega
    · rw [cif_f h]; omega
noncomputable def mtN (z : aZ) (a b : Nat) : Nat → Nat → Int
  | 0, _ => -1
  | r + 1, s => cif (atv z a s ≠ -1 ∧ atv z a s = atv z b s) (s : Int) (mtN z a b r (s + 1))
noncomputable def vMeet (z : aZ) (a b : Int) : Int := if (0 ≤ a ∧ a ≤ zn z - 1) ∧ (0 ≤ b ∧ b ≤ zn z - 1) ∧ a ≠ b then mtN z a.toNat b.toNat 100 0 else -2
theorem fallN_opn {g : aG} : ∀ (k : Nat) (c : Int), opn g c → opn g (fallN g k c) := by
  intro k
  induction k with
  | zero => intro c h; exact h
  | succ k ih => intro c h; exact ih _ (opn_f h)
set_option maxRecDepth 20000 in
theorem s4_atOf {d : Nat} {σ : aS} {Q : aQ} {s : Int} {t : Nat} {z : aZ} (hm : MI σ z) (hz : ZV z) (ht : t < zn z) (hs : 0 ≤ s ∧ s ≤ 99) (hQ : ∀ σ', Frm σ σ' → MI σ' z → Q (some (vi (atv z t s))) σ') : aCall 34 (d + 5) mX4_atOf [vr 18, vi t, vi s] σ Q := by
  refine cl_in (own := RX4) (cc := cX4_atOf) (rk := 0) (L := [some (vr 18), some (vi t), some (vi s)]) rfl rfl rfl rfl (by decide) (Nat.le_of_ble_eq_true rfl) ?_
  have ht8 := hz.2.2.2.1
  have htv := hz.2.2.2.2.1 t ht
  refine wp_aload_n dX4_atOf_0 rfl ?_
  refine wp_V0 dX4_atOf_1 vlX4_89 (by decide) rfl (Nat.le_of_ble_eq_true rfl) ?_
  refine s4_reads hm hz (fun σ' hf hr => ?_)
  have hg := hr.gv
  have e6 := hr.1.2.2.2.2.2.1 t ht
  have eg := hr.2.2.1
  have en : ((t : Int)).toNat = t := Int.toNat_natCast t
  refine wp_iload_n dX4_atOf_4 rfl ?_
  refine wp_aload_n dX4_atOf_5 rfl ?_
  refine wp_getR dX4_atOf_6 flX4_19 (by decide) rfl rfl ?_
  refine wp_iload_n dX4_atOf_9 rfl ?_
  refine wp_iaload dX4_atOf_10 (by decide) rfl (by omega) (by omega) (by decide) ?_
  rw [en, e6.2]
  refine wp_ic_lt 27 dX4_atOf_11 (by decide) (fun hh11 => ?_) (fun hh11 => ?_)
  · refine wp_iconst dX4_atOf_27 (by decide) ?_
    refine wp_gotoN 49 dX4_atOf_28 (by decide) ?_
    refine wp_iret dX4_atOf_49 (Or.inl rfl) ?_
    first
    | exact q_i (by unfold atv; rw [cif_t (Or.inl hh11)]) (hQ σ' hf hr.1)
    | exact q_i (by unfold atv; rw [cif_t (Or.inr (by rw [← eg]; exact hh24))]) (hQ σ' hf hr.1)
    | exact q_i (by unfold atv; rw [cif_f (fun q => q.elim hh11 (fun w => w (by rw [← eg]; exact hh24))), eg]) (hQ σ' hf hr.1)
  · refine wp_aload_n dX4_atOf_14 rfl ?_
    refine wp_aload_n dX4_atOf_15 rfl ?_
    refine wp_getR dX4_atOf_16 flX4_16 (by decide) rfl rfl ?_
    refine wp_iload_n dX4_atOf_19 rfl ?_
    refine wp_iaload dX4_atOf_20 (by decide) rfl (by omega) (by omega) (by decide) ?_
    rw [en, e6.1]
    refine wp_V1 dX4_atOf_21 vlX4_99 (by decide) rfl (Nat.le_of_ble_eq_true rfl) ?_
    refine s4_isOpen hg ?_
    refine wp_ifB_ne 31 dX4_atOf_24 (by decide) (fun hh24 => ?_) (fun hh24 => ?_)
    · refine wp_aload_n dX4_atOf_31 rfl ?_
      refine wp_aload_n dX4_atOf_32 rfl ?_
      refine wp_getR dX4_atOf_33 flX4_16 (by decide) rfl rfl ?_
      refine wp_iload_n dX4_atOf_36 rfl ?_
      refine wp_iaload dX4_atOf_37 (by decide) rfl (by omega) (by omega) (by decide) ?_
      rw [en, e6.1]
      refine wp_iload_n dX4_atOf_38 rfl ?_
      refine wp_aload_n dX4_atOf_39 rfl ?_
      refine wp_getR dX4_atOf_40 flX4_19 (by decide) rfl rfl ?_
      refine wp_iload_n dX4_atOf_43 rfl ?_
      refine wp_iaload dX4_atOf_44 (by decide) rfl (by omega) (by omega) (by decide) ?_
      rw [en, e6.2]
      refine wp_isubN dX4_atOf_45 (by omega) ?_
      refine wp_V2 dX4_atOf_46 vlX4_121 (by decide) rfl (Nat.le_of_ble_eq_true rfl) ?_
      refine s4_fallen hg (by omega) hh24 ?_
      refine wp_iret dX4_atOf_49 (Or.inl rfl) ?_
      first
      | exact q_i (by unfold atv; rw [cif_t (Or.inl hh11)]) (hQ σ' hf hr.1)
      | exact q_i (by unfold atv; rw [cif_t (Or.inr (by rw [← eg]; exact hh24))]) (hQ σ' hf hr.1)
      | exact q_i (by unfold atv; rw [cif_f (fun q => q.elim hh11 (fun w => w (by rw [← eg]; exact hh24))), eg]) (hQ σ' hf hr.1)
    · refine wp_iconst dX4_atOf_27 (by decide) ?_
      refine wp_gotoN 49 dX4_atOf_28 (by decide) ?_
      refine wp_iret dX4_atOf_49 (Or.inl rfl) ?_
      first
      | exact q_i (by unfold atv; rw [cif_t (Or.inl hh11)]) (hQ σ' hf hr.1)
      | exact q_i (by unfold atv; rw [cif_t (Or.inr (by rw [← eg]; exact hh24))]) (hQ σ' hf hr.1)
      | exact q_i (by unfold atv; rw [cif_f (fun q => q.elim hh11 (fun w => w (by rw [← eg]; exact hh24))), eg]) (hQ σ' hf hr.1)
set_option maxRecDepth 20000 in
theorem p4_at {d : Nat} {σ : aS} {Q : aQ} {t s : Int} {z : aZ} (hm : MI σ z) (hz : ZV z) (hQ : ∀ σ', Frm σ σ' → MI σ' z → Q (some (vi (vAt z t s))) σ') : aCall 34 (d + 6) mX4_at [vr 18, vi t, vi s] σ Q := by
  refine cl_in (own := RX4) (cc := cX4_at) (rk := 0) (L := [some (vr 18), some (vi t), some (vi s)]) rfl rfl rfl rfl (by decide) (Nat.le_of_ble_eq_true rfl) ?_
  have hl := hz.2.2.2.1
  refine wp_aload_n dX4_at_0 rfl ?_
  refine wp_iload_n dX4_at_1 rfl ?_
  refine wp_V1 dX4_at_2 vlX4_124 (by decide) rfl (Nat.le_of_ble_eq_true rfl) ?_
  refine s4_isThing hm hz ?_
  refine wp_ifB_eq 27 dX4_at_5 (by decide) (fun hh5 => ?_) (fun hh5 => ?_)
  · refine wp_bipush dX4_at_27 (by decide) ?_
    refine wp_iret dX4_at_29 (Or.inl rfl) ?_
    first
    | exact q_i (by unfold vAt; rw [if_neg (by omega)]) (hQ σ Frm.rf hm)
    | exact q_i (by unfold vAt; rw [if_pos (by omega)]; rfl) (hQ σ' hf hm)
  · refine wp_iload_n dX4_at_8 rfl ?_
    refine wp_iconst dX4_at_9 (by decide) ?_
    refine wp_bipush dX4_at_10 (by decide) ?_
    refine wp_S3 dX4_at_12 zlX4_65 (Nat.le_of_ble_eq_true rfl) ?_
    refine s4_in ?_
    refine wp_ifB_eq 27 dX4_at_15 (by decide) (fun hh15 => ?_) (fun hh15 => ?_)
    · refine wp_bipush dX4_at_27 (by decide) ?_
      refine wp_iret dX4_at_29 (Or.inl rfl) ?_
      first
      | exact q_i (by unfold vAt; rw [if_neg (by omega)]) (hQ σ Frm.rf hm)
      | exact q_i (by unfold vAt; rw [if_pos (by omega)]; rfl) (hQ σ' hf hm)
    · obtain ⟨tn, rfl⟩ : ∃ n : Nat, t = (n : Int) := ⟨t.toNat, by omega⟩
      refine wp_aload_n dX4_at_18 rfl ?_
      refine wp_iload_n dX4_at_19 rfl ?_
      refine wp_iload_n dX4_at_20 rfl ?_
      refine wp_V2 dX4_at_21 vlX4_127 (by decide) rfl (Nat.le_of_ble_eq_true rfl) ?_
      refine s4_atOf hm hz (by omega) (by omega) (fun σ' hf hm => ?_)
      refine wp_gotoN 29 dX4_at_24 (by decide) ?_
      refine wp_iret dX4_at_29 (Or.inl rfl) ?_
      first
      | exact q_i (by unfold vAt; rw [if_neg (by omega)]) (hQ σ Frm.rf hm)
      | exact q_i (by unfold vAt; rw [if_pos (by omega)]; rfl) (hQ σ' hf hm)
set_option maxRecDepth 20000 in
theorem s4_restsOf {d : Nat} {σ : aS} {Q : aQ} {w : Int} {t : Nat} {z : aZ} (hm : MI σ z) (hz : ZV z) (ht : t < zn z) (hQ : ∀ σ', Frm σ σ' → MI σ' z → Q (some (vi (rsv z t w))) σ') : aCall 34 (d + 5) mX4_restsOf [vr 18, vi t, vi w] σ Q := by
  refine cl_in (own := RX4) (cc := cX4_restsOf) (rk := 0) (L := [some (vr 18), some (vi t), some (vi w), none, none]) rfl rfl rfl rfl (by decide) (Nat.le_of_ble_eq_true rfl) ?_
  have ht8 := hz.2.2.2.1
  have htv := hz.2.2.2.2.1 t ht
  refine wp_aload_n dX4_restsOf_0 rfl ?_
  refine wp_V0 dX4_restsOf_1 vlX4_89 (by decide) rfl (Nat.le_of_ble_eq_true rfl) ?_
  refine s4_reads hm hz (fun σ' hf hr => ?_)
  have hg := hr.gv
  have e6 := hr.1.2.2.2.2.2.1 t ht
  have eg := hr.2.2.1
  have en : ((t : Int)).toNat = t := Int.toNat_natCast t
  refine wp_aload_n dX4_restsOf_4 rfl ?_
  refine wp_aload_n dX4_restsOf_5 rfl ?_
  refine wp_getR dX4_restsOf_6 flX4_16 (by decide) rfl rfl ?_
  refine wp_iload_n dX4_restsOf_9 rfl ?_
  refine wp_iaload dX4_restsOf_10 (by decide) rfl (by omega) (by omega) (by decide) ?_
  rw [en, e6.1]
  refine wp_V1 dX4_restsOf_11 vlX4_99 (by decide) rfl (Nat.le_of_ble_eq_true rfl) ?_
  refine s4_isOpen hg ?_
  refine wp_ifB_ne 27 dX4_restsOf_14 (by decide) (fun hh14 => ?_) (fun hh14 => ?_)
  · refine wp_aload_n dX4_restsOf_27 rfl ?_
    refine wp_aload_n dX4_restsOf_28 rfl ?_
    refine wp_getR dX4_restsOf_29 flX4_16 (by decide) rfl rfl ?_
    refine wp_iload_n dX4_restsOf_32 rfl ?_
    refine wp_iaload dX4_restsOf_33 (by decide) rfl (by omega) (by omega) (by decide) ?_
    rw [en, e6.1]
    refine wp_bipush dX4_restsOf_34 (by decide) ?_
    refine wp_V2 dX4_restsOf_36 vlX4_121 (by decide) rfl (Nat.le_of_ble_eq_true rfl) ?_
    refine s4_fallen hg (by omega) hh14 ?_
    have ho6 := opn_b hg (fallN_opn 6 _ hh14)
    have hw := GVw hg (by omega)
    have eqw : ggw (gOf σ') = σ'.1 18 2 := gw_of (by omega)
    have hmn : min (6 : Int).toNat 6 = 6 := by decide
    rw [hmn]
    refine wp_istN (L' := [some (vr _), some (vi _), some (vi _), some (vi _), none]) dX4_restsOf_39 (Nat.le_of_ble_eq_true rfl) rfl ?_
    refine wp_iload_n dX4_restsOf_40 rfl ?_
    refine wp_aload_n dX4_restsOf_41 rfl ?_
    refine wp_getI dX4_restsOf_42 flX4_78 (by decide) rfl (Or.inl rfl) ?_
    refine wp_idiv dX4_restsOf_45 (by omega) (by omega) ?_
    refine wp_aload_n dX4_restsOf_46 rfl ?_
    refine wp_getR dX4_restsOf_47 flX4_16 (by decide) rfl rfl ?_
    refine wp_iload_n dX4_restsOf_50 rfl ?_
    refine wp_iaload dX4_restsOf_51 (by decide) rfl (by omega) (by omega) (by decide) ?_
    rw [en, e6.1]
    refine wp_aload_n dX4_restsOf_52 rfl ?_
    refine wp_getI dX4_restsOf_53 flX4_78 (by decide) rfl (Or.inl rfl) ?_
    refine wp_idiv dX4_restsOf_56 (by omega) (by omega) ?_
    have hd1 : 0 ≤ fallN (gOf σ') 6 (zc z t) / σ'.1 18 2 := Int.ediv_nonneg (by omega) (by omega)
    have hd2 : fallN (gOf σ') 6 (zc z t) / σ'.1 18 2 ≤ fallN (gOf σ') 6 (zc z t) := Int.ediv_le_self _ (by omega)
    have hd3 : 0 ≤ zc z t / σ'.1 18 2 := Int.ediv_nonneg (by omega) (by omega)
    have hd4 : zc z t / σ'.1 18 2 ≤ zc z t := Int.ediv_le_self _ (by omega)
    refine wp_isubN dX4_restsOf_57 (by omega) ?_
    refine wp_ist (L' := [some (vr _), some (vi _), some (vi _), some (vi _), some (vi _)]) dX4_restsOf_58 (Nat.le_of_ble_eq_true rfl) rfl ?_
    refine wp_iload_n dX4_restsOf_60 rfl ?_
    refine wp_if_ne 68 dX4_restsOf_61 (by decide) (fun hh61 => ?_) (fun hh61 => ?_)
    · refine wp_iload dX4_restsOf_68 rfl ?_
      refine wp_if_ge 79 dX4_restsOf_70 (by decide) (fun hh70 => ?_) (fun hh70 => ?_)
      · refine wp_iload dX4_restsOf_79 rfl ?_
        refine wp_iret dX4_restsOf_81 (Or.inl rfl) ?_
        first
        | exact q_i (by unfold rsv; rw [cif_t (by rw [← eg]; exact hh14), if_pos (by omega), ← eg]) (hQ σ' hf hr.1)
        | exact q_i (by unfold rsv; rw [cif_t (by rw [← eg]; exact hh14), if_neg (by omega), ← eg, eqw]; omega) (hQ σ' hf hr.1)
      · refine wp_iload dX4_restsOf_73 rfl ?_
        refine wp_inegN dX4_restsOf_75 (by omega) ?_
        refine wp_gotoN 81 dX4_restsOf_76 (by decide) ?_
        refine wp_iret dX4_restsOf_81 (Or.inl rfl) ?_
        first
        | exact q_i (by unfold rsv; rw [cif_t (by rw [← eg]; exact hh14), if_pos (by omega), ← eg]) (hQ σ' hf hr.1)
        | exact q_i (by unfold rsv; rw [cif_t (by rw [← eg]; exact hh14), if_neg (by omega), ← eg, eqw]; omega) (hQ σ' hf hr.1)
    · refine wp_iload_n dX4_restsOf_64 rfl ?_
      refine wp_gotoN 81 dX4_restsOf_65 (by decide) ?_
      refine wp_iret dX4_restsOf_81 (Or.inl rfl) ?_
      first
      | exact q_i (by unfold rsv; rw [cif_t (by rw [← eg]; exact hh14), if_pos (by omega), ← eg]) (hQ σ' hf hr.1)
      | exact q_i (by unfold rsv; rw [cif_t (by rw [← eg]; exact hh14), if_neg (by omega), ← eg, eqw]; omega) (hQ σ' hf hr.1)
  · refine wp_iload_n dX4_restsOf_17 rfl ?_
    refine wp_if_ne 25 dX4_restsOf_18 (by decide) (fun hh18 => ?_) (fun hh18 => ?_)
    · refine wp_iconst dX4_restsOf_25 (by decide) ?_
      refine wp_iret dX4_restsOf_26 (Or.inl rfl) ?_
      first
      | exact q_i (by unfold rsv; rw [cif_f (by rw [← eg]; exact hh14), if_pos (by omega)]) (hQ σ' hf hr.1)
      | exact q_i (by unfold rsv; rw [cif_f (by rw [← eg]; exact hh14), if_neg (by omega)]) (hQ σ' hf hr.1)
    · refine wp_iconst dX4_restsOf_21 (by decide) ?_
      refine wp_gotoN 26 dX4_restsOf_22 (by decide) ?_
      refine wp_iret dX4_restsOf_26 (Or.inl rfl) ?_
      first
      | exact q_i (by unfold rsv; rw [cif_f (by rw [← eg]; exact hh14), if_pos (by omega)]) (hQ σ' hf hr.1)
      | exact q_i (by unfold rsv; rw [cif_f (by rw [← eg]; exact hh14), if_neg (by omega)]) (hQ σ' hf hr.1)
set_option maxRecDepth 20000 in
theorem p4_rests {d : Nat} {σ : aS} {Q : aQ} {t w : Int} {z : aZ} (hm : MI σ z) (hz : ZV z) (hQ : ∀ σ', Frm σ σ' → MI σ' z → Q (some (vi (vRests z t w))) σ') : aCall 34 (d + 6) mX4_rests [vr 18, vi t, vi w] σ Q := by
  refine cl_in (own := RX4) (cc := cX4_rests) (rk := 0) (L := [some (vr 18), some (vi t), some (vi w)]) rfl rfl rfl rfl (by decide) (Nat.le_of_ble_eq_true rfl) ?_
  have hl := hz.2.2.2.1
  refine wp_aload_n dX4_rests_0 rfl ?_
  refine wp_iload_n dX4_rests_1 rfl ?_
  refine wp_V1 dX4_rests_2 vlX4_124 (by decide) rfl (Nat.le_of_ble_eq_true rfl) ?_
  refine s4_isThing hm hz ?_
  refine wp_ifB_eq 26 dX4_rests_5 (by decide) (fun hh5 => ?_) (fun hh5 => ?_)
  · refine wp_bipush dX4_rests_26 (by decide) ?_
    refine wp_iret dX4_rests_28 (Or.inl rfl) ?_
    first
    | exact q_i (by unfold vRests; rw [if_neg (by omega)]) (hQ σ Frm.rf hm)
    | exact q_i (by unfold vRests; rw [if_pos (by omega)]; rfl) (hQ σ' hf hm)
  · refine wp_iload_n dX4_rests_8 rfl ?_
    refine wp_iconst dX4_rests_9 (by decide) ?_
    refine wp_iconst dX4_rests_10 (by decide) ?_
    refine wp_S3 dX4_rests_11 zlX4_65 (Nat.le_of_ble_eq_true rfl) ?_
    refine s4_in ?_
    refine wp_ifB_eq 26 dX4_rests_14 (by decide) (fun hh14 => ?_) (fun hh14 => ?_)
    · refine wp_bipush dX4_rests_26 (by decide) ?_
      refine wp_iret dX4_rests_28 (Or.inl rfl) ?_
      first
      | exact q_i (by unfold vRests; rw [if_neg (by omega)]) (hQ σ Frm.rf hm)
      | exact q_i (by unfold vRests; rw [if_pos (by omega)]; rfl) (hQ σ' hf hm)
    · obtain ⟨tn, rfl⟩ : ∃ n : Nat, t = (n : Int) := ⟨t.toNat, by omega⟩
      refine wp_aload_n dX4_rests_17 rfl ?_
      refine wp_iload_n dX4_rests_18 rfl ?_
      refine wp_iload_n dX4_rests_19 rfl ?_
      refine wp_V2 dX4_rests_20 vlX4_130 (by decide) rfl (Nat.le_of_ble_eq_true rfl) ?_
      refine s4_restsOf hm hz (by omega) (fun σ' hf hm => ?_)
      refine wp_gotoN 28 dX4_rests_23 (by decide) ?_
      refine wp_iret dX4_rests_28 (Or.inl rfl) ?_
      first
      | exact q_i (by unfold vRests; rw [if_neg (by omega)]) (hQ σ Frm.rf hm)
      | exact q_i (by unfold vRests; rw [if_pos (by omega)]; rfl) (hQ σ' hf hm)
set_option maxRecDepth 20000 in
theorem l4_longest {d : Nat} {z : aZ} {σ0 : aS} {Q : aQ} (hz : ZV z) (hQ : ∀ σ', Frm σ0 σ' → MI σ' z → Q (some (vi (lgN z (zn z)))) σ') : ∀ (r : Nat) (k : Nat) (b : Int) (σ : aS) (u : Option aV), k + r = zn z → b = lgN z k → MI σ z → Frm σ0 σ → Wp RX4 cX4_longestNow 34 (aCall 34 (d + 5)) Q 0 false 0 (fun _ => 0) 4 [some (vr 18), some (vi b), some (vi k), u] [] σ := by
  intro r
  induction r with
  | zero =>
    intro k b σ u hk hb hm hf
    have h5 := hm.2.2.2.2.1
    have hz8 := hz.2.2.2.1
    refine wp_iload_n dX4_longestNow_4 rfl ?_
    refine wp_aload_n dX4_longestNow_5 rfl ?_
    refine wp_getI dX4_longestNow_6 flX4_108 (by decide) rfl (Or.inl rfl) ?_
    refine wp_ic_ge 64 dX4_longestNow_9 (by decide) (fun hh9 => ?_) (fun hh9 => ?_)
    · refine wp_iload_n dX4_longestNow_64 rfl ?_
      refine wp_iret dX4_longestNow_65 (Or.inl rfl) ?_
      have e : k = zn z := by omega
      subst e
      rw [hb]
      exact hQ σ hf hm
    · exact absurd hk (by omega)
  | succ r ih =>
    intro k b σ u hk hb hm hf
    have h5 := hm.2.2.2.2.1
    have hz8 := hz.2.2.2.1
    have hbi := lgN_in z k
    refine wp_iload_n dX4_longestNow_4 rfl ?_
    refine wp_aload_n dX4_longestNow_5 rfl ?_
    refine wp_getI dX4_longestNow_6 flX4_108 (by decide) rfl (Or.inl rfl) ?_
    refine wp_ic_ge 64 dX4_longestNow_9 (by decide) (fun hh9 => ?_) (fun hh9 => ?_)
    · exact absurd hk (by omega)
    · refine wp_aload_n dX4_longestNow_12 rfl ?_
      refine wp_iload_n dX4_longestNow_13 rfl ?_
      refine wp_iconst dX4_longestNow_14 (by decide) ?_
      refine wp_V2 dX4_longestNow_15 vlX4_130 (by decide) rfl (Nat.le_of_ble_eq_true rfl) ?_
      refine s4_restsOf (t := k) hm hz (by omega) (fun σ1 hf1 hm1 => ?_)
      refine wp_iconst dX4_longestNow_18 (by decide) ?_
      refine wp_ic_eq 26 dX4_longestNow_19 (by decide) (fun hh19 => ?_) (fun hh19 => ?_)
      · refine wp_iconst dX4_longestNow_26 (by decide) ?_
        refine wp_istN (L' := [some (vr _), some (vi _), some (vi _), some (vi _)]) dX4_longestNow_27 (Nat.le_of_ble_eq_true rfl) rfl ?_
        refine wp_iload_n dX4_longestNow_28 rfl ?_
        refine wp_if_eq 56 dX4_longestNow_29 (by decide) (fun hh29 => ?_) (fun hh29 => ?_)
        · refine wp_iload_n dX4_longestNow_56 rfl ?_
          refine wp_istN (L' := [some (vr _), some (vi _), some (vi _), some (vi _)]) dX4_longestNow_57 (Nat.le_of_ble_eq_true rfl) rfl ?_
          refine wp_iincN (L' := [some (vr _), some (vi _), some (vi _), some (vi _)]) dX4_longestNow_58 rfl (by omega) rfl ?_
          refine wp_gotoN 4 dX4_longestNow_61 (by decide) ?_
          exact ih (k + 1) _ _ _ (by omega) (by show _ = cif _ _ _; rw [cif_f (fun q => q.1 (by omega))]; exact hb) hm1 (hf.tr hf1)
        · exact absurd hh29 (by decide)
      · refine wp_iconst dX4_longestNow_22 (by decide) ?_
        refine wp_gotoN 27 dX4_longestNow_23 (by decide) ?_
        refine wp_istN (L' := [some (vr _), some (vi _), some (vi _), some (vi _)]) dX4_longestNow_27 (Nat.le_of_ble_eq_true rfl) rfl ?_
        refine wp_iload_n dX4_longestNow_28 rfl ?_
        refine wp_if_eq 56 dX4_longestNow_29 (by decide) (fun hh29 => ?_) (fun hh29 => ?_)
        · exact absurd hh29 (by decide)
        · refine wp_iload_n dX4_longestNow_32 rfl ?_
          refine wp_iconst dX4_longestNow_33 (by decide) ?_
          refine wp_ic_eq 52 dX4_longestNow_34 (by decide) (fun hh34 => ?_) (fun hh34 => ?_)
          · refine wp_iload_n dX4_longestNow_52 rfl ?_
            refine wp_gotoN 57 dX4_longestNow_53 (by decide) ?_
            refine wp_istN (L' := [some (vr _), some (vi _), some (vi _), some (vi _)]) dX4_longestNow_57 (Nat.le_of_ble_eq_true rfl) rfl ?_
            refine wp_iincN (L' := [some (vr _), some (vi _), some (vi _), some (vi _)]) dX4_longestNow_58 rfl (by omega) rfl ?_
            refine wp_gotoN 4 dX4_longestNow_61 (by decide) ?_
            exact ih (k + 1) _ _ _ (by omega) (by show _ = cif _ _ _; rw [cif_t ⟨by omega, Or.inl (by omega)⟩]) hm1 (hf.tr hf1)
          · obtain ⟨bn, rfl⟩ : ∃ n : Nat, b = (n : Int) := ⟨b.toNat, by omega⟩
            refine wp_aload_n dX4_longestNow_37 rfl ?_
            refine wp_iload_n dX4_longestNow_38 rfl ?_
            refine wp_iconst dX4_longestNow_39 (by decide) ?_
            refine wp_V2 dX4_longestNow_40 vlX4_130 (by decide) rfl (Nat.le_of_ble_eq_true rfl) ?_
            refine s4_restsOf (t := k) hm1 hz (by omega) (fun σ2 hf2 hm2 => ?_)
            refine wp_aload_n dX4_longestNow_43 rfl ?_
            refine wp_iload_n dX4_longestNow_44 rfl ?_
            refine wp_iconst dX4_longestNow_45 (by decide) ?_
            refine wp_V2 dX4_longestNow_46 vlX4_130 (by decide) rfl (Nat.le_of_ble_eq_true rfl) ?_
            refine s4_restsOf (t := bn) hm2 hz (by omega) (fun σ3 hf3 hm3 => ?_)
            refine wp_ic_le 56 dX4_longestNow_49 (by decide) (fun hh49 => ?_) (fun hh49 => ?_)
            · refine wp_iload_n dX4_longestNow_56 rfl ?_
              refine wp_istN (L' := [some (vr _), some (vi _), some (vi _), some (vi _)]) dX4_longestNow_57 (Nat.le_of_ble_eq_true rfl) rfl ?_
              refine wp_iincN (L' := [some (vr _), some (vi _), some (vi _), some (vi _)]) dX4_longestNow_58 rfl (by omega) rfl ?_
              refine wp_gotoN 4 dX4_longestNow_61 (by decide) ?_
              exact ih (k + 1) _ _ _ (by omega) (by show _ = cif _ _ _; rw [cif_f (fun q => q.2.elim (fun w => hh34 (by omega)) (fun w => by rw [← hb, Int.toNat_natCast] at w; omega))]; exact hb) hm3 (((hf.tr hf1).tr hf2).tr hf3)
            · refine wp_iload_n dX4_longestNow_52 rfl ?_
              refine wp_gotoN 57 dX4_longestNow_53 (by decide) ?_
              refine wp_istN (L' := [some (vr _), some (vi _), some (vi _), some (vi _)]) dX4_longestNow_57 (Nat.le_of_ble_eq_true rfl) rfl ?_
              refine wp_iincN (L' := [some (vr _), some (vi _), some (vi _), some (vi _)]) dX4_longestNow_58 rfl (by omega) rfl ?_
              refine wp_gotoN 4 dX4_longestNow_61 (by decide) ?_
              exact ih (k + 1) _ _ _ (by omega) (by show _ = cif _ _ _; rw [cif_t ⟨by omega, Or.inr (by rw [← hb, Int.toNat_natCast]; omega)⟩]) hm3 (((hf.tr hf1).tr hf2).tr hf3)
set_option maxRecDepth 20000 in
theorem s4_longestNow {d : Nat} {σ : aS} {Q : aQ} {z : aZ} (hm : MI σ z) (hz : ZV z) (hQ : ∀ σ', Frm σ σ' → MI σ' z → Q (some (vi (lgN z (zn z)))) σ') : aCall 34 (d + 6) mX4_longestNow [vr 18] σ Q := by
  refine cl_in (own := RX4) (cc := cX4_longestNow) (rk := 0) (L := [some (vr 18), none, none, none]) rfl rfl rfl rfl (by decide) (Nat.le_of_ble_eq_true rfl) ?_
  refine wp_iconst dX4_longestNow_0 (by decide) ?_
  refine wp_istN (L' := [some (vr _), some (vi _), none, none]) dX4_longestNow_1 (Nat.le_of_ble_eq_true rfl) rfl ?_
  refine wp_iconst dX4_longestNow_2 (by decide) ?_
  refine wp_istN (L' := [some (vr _), some (vi _), some (vi _), none]) dX4_longestNow_3 (Nat.le_of_ble_eq_true rfl) rfl ?_
  exact l4_longest hz hQ (zn z) 0 _ _ _ (by omega) rfl hm Frm.rf
set_option maxRecDepth 20000 in
theorem p4_longest {d : Nat} {σ : aS} {Q : aQ} {z : aZ} (hm : MI σ z) (hz : ZV z) (hQ : ∀ σ', Frm σ σ' → MI σ' z → Q (some (vi (lgN z (zn z)))) σ') : aCall 34 (d + 7) mX4_longest [vr 18] σ Q := by
  refine cl_in (own := RX4) (cc := cX4_longest) (rk := 0) (L := [some (vr 18)]) rfl rfl rfl rfl (by decide) (Nat.le_of_ble_eq_true rfl) ?_
  refine wp_aload_n dX4_longest_0 rfl ?_
  refine wp_V0 dX4_longest_1 vlX4_133 (by decide) rfl (Nat.le_of_ble_eq_true rfl) ?_
  refine s4_longestNow hm hz (fun σ' hf hm => ?_)
  refine wp_iret dX4_longest_4 (Or.inl rfl) ?_
  exact hQ σ' hf hm
set_option maxRecDepth 20000 in
theorem l4_meet {d : Nat} {z : aZ} {σ0 : aS} {Q : aQ} (hz : ZV z) {a b : Nat} (ha : a < zn z) (hb : b < zn z) : ∀ (r : Nat) (k : Nat) (σ : aS) (u : Option aV), k + r = 100 → MI σ z → Frm σ0 σ → (hQ : ∀ σ', Frm σ0 σ' → MI σ' z → Q (some (vi (mtN z a b r k))) σ') → Wp RX4 cX4_meetOf 34 (aCall 34 (d + 5)) Q 0 false 0 (fun _ => 0) 2 [some (vr 18), some (vi a), some (vi b), some (vi k), u] [] σ := by
  intro r
  induction r with
  | zero =>
    intro k σ u hk hm hf hQ
    refine wp_iload_n dX4_meetOf_2 rfl ?_
    refine wp_bipush dX4_meetOf_3 (by decide) ?_
    refine wp_ic_ge 41 dX4_meetOf_5 (by decide) (fun hh5 => ?_) (fun hh5 => ?_)
    · refine wp_iconst dX4_meetOf_41 (by decide) ?_
      refine wp_iret dX4_meetOf_42 (Or.inl rfl) ?_
      exact hQ σ hf hm
    · exact absurd hk (by omega)
  | succ r ih =>
    intro k σ u hk hm hf hQ
    refine wp_iload_n dX4_meetOf_2 rfl ?_
    refine wp_bipush dX4_meetOf_3 (by decide) ?_
    refine wp_ic_ge 41 dX4_meetOf_5 (by decide) (fun hh5 => ?_) (fun hh5 => ?_)
    · exact absurd hk (by omega)
    · refine wp_aload_n dX4_meetOf_8 rfl ?_
      refine wp_iload_n dX4_meetOf_9 rfl ?_
      refine wp_iload_n dX4_meetOf_10 rfl ?_
      refine wp_V2 dX4_meetOf_11 vlX4_127 (by decide) rfl (Nat.le_of_ble_eq_true rfl) ?_
      refine s4_atOf (t := a) hm hz ha (by omega) (fun σ1 hf1 hm1 => ?_)
      refine wp_ist (L' := [some (vr _), some (vi _), some (vi _), some (vi _), some (vi _)]) dX4_meetOf_14 (Nat.le_of_ble_eq_true rfl) rfl ?_
      refine wp_iload dX4_meetOf_16 rfl ?_
      refine wp_iconst dX4_meetOf_18 (by decide) ?_
      refine wp_ic_eq 35 dX4_meetOf_19 (by decide) (fun hh19 => ?_) (fun hh19 => ?_)
      · refine wp_iincN (L' := [some (vr _), some (vi _), some (vi _), some (vi _), some (vi _)]) dX4_meetOf_35 rfl (by omega) rfl ?_
        refine wp_gotoN 2 dX4_meetOf_38 (by decide) ?_
        have e : mtN z a b (r + 1) k = mtN z a b r (k + 1) := by show cif _ _ _ = _; rw [cif_f (fun q => q.1 hh19)]
        rw [e] at hQ
        exact ih (k + 1) _ _ (by omega) hm1 (hf.tr hf1) hQ
      · refine wp_iload dX4_meetOf_22 rfl ?_
        refine wp_aload_n dX4_meetOf_24 rfl ?_
        refine wp_iload_n dX4_meetOf_25 rfl ?_
        refine wp_iload_n dX4_meetOf_26 rfl ?_
        refine wp_V2 dX4_meetOf_27 vlX4_127 (by decide) rfl (Nat.le_of_ble_eq_true rfl) ?_
        refine s4_atOf (t := b) hm1 hz hb (by omega) (fun σ2 hf2 hm2 => ?_)
        refine wp_ic_ne 35 dX4_meetOf_30 (by decide) (fun hh30 => ?_) (fun hh30 => ?_)
        · refine wp_iincN (L' := [some (vr _), some (vi _), some (vi _), some (vi _), some (vi _)]) dX4_meetOf_35 rfl (by omega) rfl ?_
          refine wp_gotoN 2 dX4_meetOf_38 (by decide) ?_
          have e : mtN z a b (r + 1) k = mtN z a b r (k + 1) := by show cif _ _ _ = _; rw [cif_f (fun q => hh30 q.2)]
          rw [e] at hQ
          exact ih (k + 1) _ _ (by omega) hm2 ((hf.tr hf1).tr hf2) hQ
        · refine wp_iload_n dX4_meetOf_33 rfl ?_
          refine wp_iret dX4_meetOf_34 (Or.inl rfl) ?_
          have e : mtN z a b (r + 1) k = k := by show cif _ _ _ = _; rw [cif_t ⟨hh19, by omega⟩]
          rw [e] at hQ
          exact hQ σ2 ((hf.tr hf1).tr hf2) hm2
set_option maxRecDepth 20000 in
theorem s4_meetOf {d : Nat} {σ : aS} {Q : aQ} {a b : Nat} {z : aZ} (hm : MI σ z) (hz : ZV z) (ha : a < zn z) (hb : b < zn z) (hQ : ∀ σ', Frm σ σ' → MI σ' z → Q (some (vi (mtN z a b 100 0))) σ') : aCall 34 (d + 6) mX4_meetOf [vr 18, vi a, vi b] σ Q := by
  refine cl_in (own := RX4) (cc := cX4_meetOf) (rk := 0) (L := [some (vr 18), some (vi a), some (vi b), none, none]) rfl rfl rfl rfl (by decide) (Nat.le_of_ble_eq_true rfl) ?_
  refine wp_iconst dX4_meetOf_0 (by decide) ?_
  refine wp_istN (L' := [some (vr _), some (vi _), some (vi _), some (vi _), none]) dX4_meetOf_1 (Nat.le_of_ble_eq_true rfl) rfl ?_
  exact l4_meet hz ha hb 100 0 _ _ (by omega) hm Frm.rf hQ
set_option maxRecDepth 20000 in
theorem p4_meet {d : Nat} {σ : aS} {Q : aQ} {a b : Int} {z : aZ} (hm : MI σ z) (hz : ZV z) (hQ : ∀ σ', Frm σ σ' → MI σ' z → Q (some (vi (vMeet z a b))) σ') : aCall 34 (d + 7) mX4_meet [vr 18, vi a, vi b] σ Q := by
  refine cl_in (own := RX4) (cc := cX4_meet) (rk := 0) (L := [some (vr 18), some (vi a), some (vi b)]) rfl rfl rfl rfl (by decide) (Nat.le_of_ble_eq_true rfl) ?_
  have hl := hz.2.2.2.1
  refine wp_aload_n dX4_meet_0 rfl ?_
  refine wp_iload_n dX4_meet_1 rfl ?_
  refine wp_V1 dX4_meet_2 vlX4_124 (by decide) rfl (Nat.le_of_ble_eq_true rfl) ?_
  refine s4_isThing hm hz ?_
  refine wp_ifB_eq 30 dX4_meet_5 (by decide) (fun hh5 => ?_) (fun hh5 => ?_)
  · refine wp_bipush dX4_meet_30 (by decide) ?_
    refine wp_iret dX4_meet_32 (Or.inl rfl) ?_
    first
    | exact q_i (by unfold vMeet; rw [if_neg (by omega)]) (hQ σ Frm.rf hm)
    | exact q_i (by unfold vMeet; rw [if_pos (by omega)]; rfl) (hQ σ' hf hm)
  · refine wp_aload_n dX4_meet_8 rfl ?_
    refine wp_iload_n dX4_meet_9 rfl ?_
    refine wp_V1 dX4_meet_10 vlX4_124 (by decide) rfl (Nat.le_of_ble_eq_true rfl) ?_
    refine s4_isThing hm hz ?_
    refine wp_ifB_eq 30 dX4_meet_13 (by decide) (fun hh13 => ?_) (fun hh13 => ?_)
    · refine wp_bipush dX4_meet_30 (by decide) ?_
      refine wp_iret dX4_meet_32 (Or.inl rfl) ?_
      first
      | exact q_i (by unfold vMeet; rw [if_neg (by omega)]) (hQ σ Frm.rf hm)
      | exact q_i (by unfold vMeet; rw [if_pos (by omega)]; rfl) (hQ σ' hf hm)
    · refine wp_iload_n dX4_meet_16 rfl ?_
      refine wp_iload_n dX4_meet_17 rfl ?_
      refine wp_ic_eq 30 dX4_meet_18 (by decide) (fun hh18 => ?_) (fun hh18 => ?_)
      · refine wp_bipush dX4_meet_30 (by decide) ?_
        refine wp_iret dX4_meet_32 (Or.inl rfl) ?_
        first
        | exact q_i (by unfold vMeet; rw [if_neg (by omega)]) (hQ σ Frm.rf hm)
        | exact q_i (by unfold vMeet; rw [if_pos (by omega)]; rfl) (hQ σ' hf hm)
      · refine wp_aload_n dX4_meet_21 rfl ?_
        refine wp_iload_n dX4_meet_22 rfl ?_
        refine wp_iload_n dX4_meet_23 rfl ?_
        refine wp_V2 dX4_meet_24 vlX4_136 (by decide) rfl (Nat.le_of_ble_eq_true rfl) ?_
        obtain ⟨an, rfl⟩ : ∃ n : Nat, a = (n : Int) := ⟨a.toNat, by omega⟩
        obtain ⟨bn, rfl⟩ : ∃ n : Nat, b = (n : Int) := ⟨b.toNat, by omega⟩
        refine s4_meetOf hm hz (by omega) (by omega) (fun σ' hf hm => ?_)
        refine wp_gotoN 32 dX4_meet_27 (by decide) ?_
        refine wp_iret dX4_meet_32 (Or.inl rfl) ?_
        first
        | exact q_i (by unfold vMeet; rw [if_neg (by omega)]) (hQ σ Frm.rf hm)
        | exact q_i (by unfold vMeet; rw [if_pos (by omega)]; rfl) (hQ σ' hf hm)
