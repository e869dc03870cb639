theorem ZV_keep {z : aZ} (h : ZV z) (s i : Nat) (v : Int) : ZV (zKeep z s i v) := h
theorem ZV_find {z : aZ} (h : ZV z) (x : Int) : ZV (zFind z x) := h
noncomputable def uwN (z : aZ) (c : Int) (s : Nat) : Nat → aZ
  | 0 => z
  | k + 1 => zKeep (uwN z c s k) s k (wayv (Gz z) c k)
theorem uwN_V {z : aZ} (h : ZV z) (c : Int) (s : Nat) : ∀ k, ZV (uwN z c s k) ∧ zz (uwN z c s k) = zz z ∧ Gz (uwN z c s k) = Gz z := by
  intro k
  induction k with
  | zero => exact ⟨h, rfl, rfl⟩
  | succ k ih => exact ⟨ZV_keep ih.1 _ _ _, ih.2.1, ih.2.2⟩
noncomputable def vWrite (z : aZ) (c s : Int) : Int := if (0 ≤ c ∧ c ≤ ggn (Gz z) - 1) ∧ isSh s then (if zh z s.toNat = 0 then -11 else min (zz z s.toNat) (ggn (Gz z))) else -2
noncomputable def uWrite (z : aZ) (c s : Int) : aZ := if (0 ≤ c ∧ c ≤ ggn (Gz z) - 1) ∧ isSh s then (if zh z s.toNat = 0 then zFind z 1 else uwN z c s.toNat (min (zz z s.toNat) (ggn (Gz z))).toNat) else z
theorem vThing_no {z : aZ} {c s : Int} (h : vThing z c s ≤ 0) : uThing z c s = z := by
  unfold vThing at h
  unfold uThing
  by_cases h1 : okThing c s
  · rw [cif_t h1] at h
    by_cases h2 : zn z = 8
    · rw [cif_f (fun q => q.2 h2)]
    · rw [if_neg h2] at h; omega
  · rw [cif_f (fun q => h1 q.1)]
theorem ZV_thing {z : aZ} (h : ZV z) (c s : Int) : ZV (uThing z c s) := by
  unfold uThing
  by_cases h1 : okThing c s ∧ zn z ≠ 8
  · rw [cif_t h1]
    obtain ⟨a1, a2, a3, a4, a5, a6⟩ := h
    refine ⟨a1, a2, a3, by show zn z + 1 ≤ 8; have := h1.2; omega, fun k hk => ?_, a6⟩
    show 0 ≤ up1 (zc z) (zn z) c k ∧ up1 (zc z) (zn z) c k ≤ 34 ∧ 0 ≤ up1 (zs z) (zn z) s k ∧ up1 (zs z) (zn z) s k ≤ 99
    have hk : k < zn z + 1 := hk
    unfold up1
    by_cases e : k = zn z
    · rw [if_pos e, if_pos e]; exact ⟨h1.1.1.1, h1.1.1.2, h1.1.2.1, h1.1.2.2⟩
    · rw [if_neg e, if_neg e]; exact a5 k (by omega)
  · rw [cif_f h1]; exact h
theorem sh_thing {z : aZ} {c s : Int} : zz (uThing z c s) = zz z ∧ zi (uThing z c s) = zi z := by
  unfold uThing
  by_cases h1 : okThing c s ∧ zn z ≠ 8
  · rw [cif_t h1]; exact ⟨rfl, rfl⟩
  · rw [cif_f h1]; exact ⟨rfl, rfl⟩
noncomputable def rdN (s : Nat) : Nat → Nat → aZ → aZ × Int
  | 0, n, z => (z, (n : Int))
  | r + 1, n, z => cif (2 * (n : Int) + 1 < zz z s ∧ 0 < vThing z (zi z s (2 * n)) (zi z s (2 * n + 1))) (rdN s r (n + 1) (uThing z (zi z s (2 * n)) (zi z s (2 * n + 1)))) (z, (n : Int))
noncomputable def vRead (z : aZ) (s : Int) : Int := if isSh s then (if zh z s.toNat = 0 then -11 else (rdN s.toNat 24 0 z).2) else -2
noncomputable def uRead (z : aZ) (s : Int) : aZ := if isSh s then (if zh z s.toNat = 0 then zFind z 1 else (rdN s.toNat 24 0 z).1) else z
set_option maxRecDepth 20000 in
theorem l4_write {d : Nat} {σ0 : aS} {Q : aQ} {z : aZ} {c s : Int} (hz : ZV z) (hs : isSh s) (hc : 0 ≤ c ∧ c ≤ ggn (Gz z) - 1) (hQ : ∀ σq, Frx σ0 σq → MI σq (uwN z c s.toNat (min (zz z s.toNat) (ggn (Gz z))).toNat) → Q (some (vi (min (zz z s.toNat) (ggn (Gz z))))) σq) : ∀ (r : Nat) (k : Nat) (σ : aS), k + r = (min (zz z s.toNat) (ggn (Gz z))).toNat → Frx σ0 σ → MI σ (uwN z c s.toNat k) → gOf σ = Gz z → Wp RX4 cX4_write 34 (aCall 34 (d + 6)) Q 0 false 0 (fun _ => 0) 35 [some (vr 18), some (vi c), some (vi s), some (vi k)] [] σ := by
  intro r
  induction r with
  | zero =>
    intro k σ hk hF hm he
    obtain ⟨hV, hzz, hGz⟩ := uwN_V hz c s.toNat k
    have hq := hm.2.2.2.2.2.2.2.2.1 s.toNat (by omega)
    have hs48 := hz.2.2.2.2.2.2.2 s.toNat (by omega)
    have hsz : σ.1 31 s.toNat = zz z s.toNat := by rw [hq.2.2.1, hzz]
    have hn4 := gn_g he
    have hn35 := (Gz_ok hz).2.1
    refine wp_iload_n dX4_write_35 rfl ?_
    refine wp_aload_n dX4_write_36 rfl ?_
    refine wp_getR dX4_write_37 flX4_47 (by decide) rfl rfl ?_
    refine wp_iload_n dX4_write_40 rfl ?_
    refine wp_iaload dX4_write_41 (by decide) rfl (by omega) (by omega) (by decide) ?_
    refine wp_ic_ge 71 dX4_write_42 (by decide) (fun hh42 => ?_) (fun hh42 => ?_)
    · refine wp_iload_n dX4_write_71 rfl ?_
      refine wp_iret dX4_write_72 (Or.inl rfl) ?_
      have e : k = (min (zz z s.toNat) (ggn (Gz z))).toNat := by omega
      subst e
      exact q_i (by omega) (hQ σ hF hm)
    · refine wp_iload_n dX4_write_45 rfl ?_
      refine wp_aload_n dX4_write_46 rfl ?_
      refine wp_getI dX4_write_47 flX4_72 (by decide) rfl (Or.inl rfl) ?_
      refine wp_ic_ge 71 dX4_write_50 (by decide) (fun hh50 => ?_) (fun hh50 => ?_)
      · refine wp_iload_n dX4_write_71 rfl ?_
        refine wp_iret dX4_write_72 (Or.inl rfl) ?_
        have e : k = (min (zz z s.toNat) (ggn (Gz z))).toNat := by omega
        subst e
        exact q_i (by omega) (hQ σ hF hm)
      · exact absurd hk (by omega)
  | succ r ih =>
    intro k σ hk hF hm he
    obtain ⟨hV, hzz, hGz⟩ := uwN_V hz c s.toNat k
    have hq := hm.2.2.2.2.2.2.2.2.1 s.toNat (by omega)
    have hs48 := hz.2.2.2.2.2.2.2 s.toNat (by omega)
    have hsz : σ.1 31 s.toNat = zz z s.toNat := by rw [hq.2.2.1, hzz]
    have hn4 := gn_g he
    have hn35 := (Gz_ok hz).2.1
    refine wp_iload_n dX4_write_35 rfl ?_
    refine wp_aload_n dX4_write_36 rfl ?_
    refine wp_getR dX4_write_37 flX4_47 (by decide) rfl rfl ?_
    refine wp_iload_n dX4_write_40 rfl ?_
    refine wp_iaload dX4_write_41 (by decide) rfl (by omega) (by omega) (by decide) ?_
    refine wp_ic_ge 71 dX4_write_42 (by decide) (fun hh42 => ?_) (fun hh42 => ?_)
    · exact absurd hk (by omega)
    · refine wp_iload_n dX4_write_45 rfl ?_
      refine wp_aload_n dX4_write_46 rfl ?_
      refine wp_getI dX4_write_47 flX4_72 (by decide) rfl (Or.inl rfl) ?_
      refine wp_ic_ge 71 dX4_write_50 (by decide) (fun hh50 => ?_) (fun hh50 => ?_)
      · exact absurd hk (by omega)
      · refine wp_aload_n dX4_write_53 rfl ?_
        refine wp_iload_n dX4_write_54 rfl ?_
        refine wp_iload_n dX4_write_55 rfl ?_
        refine wp_aload_n dX4_write_56 rfl ?_
        refine wp_iload_n dX4_write_57 rfl ?_
        refine wp_iload_n dX4_write_58 rfl ?_
        refine wp_V2 dX4_write_59 vlX4_150 (by decide) rfl (Nat.le_of_ble_eq_true rfl) ?_
        refine s4_wayOf he (Gz_ok hz) (by omega) (fun σ2 hF2 => ?_)
        have hm2 := hm.frm (hF2.m (by decide))
        refine wp_V3 dX4_write_62 vlX4_228 (by decide) rfl (Nat.le_of_ble_eq_true rfl) ?_
        refine s4_keep hm2 hV (by omega) (by omega) ?_
        refine wp_iincN (L' := [some (vr _), some (vi _), some (vi _), some (vi _)]) dX4_write_65 rfl (by omega) rfl ?_
        refine wp_gotoN 35 dX4_write_68 (by decide) ?_
        refine ih (k + 1) _ (by omega) ((hF.tr (hF2.m (by decide)).x).put (by decide)) ?_ ((hF2.g (by decide) he))
        have hmk := MI_keep (v := wayv (Gz z) c k) hm2 hs (i := (k : Int)) (by omega)
        rw [Int.toNat_natCast] at hmk
        exact hmk
set_option maxRecDepth 20000 in
theorem p4_write {d : Nat} {σ : aS} {Q : aQ} {c s : Int} {z : aZ} (hm : MI σ z) (hz : ZV z) (hQ : ∀ σ', Frx σ σ' → MI σ' (uWrite z c s) → Q (some (vi (vWrite z c s))) σ') : aCall 34 (d + 7) mX4_write [vr 18, vi c, vi s] σ Q := by
  refine cl_in (own := RX4) (cc := cX4_write) (rk := 0) (L := [some (vr 18), some (vi c), some (vi s), none]) rfl rfl rfl rfl (by decide) (Nat.le_of_ble_eq_true rfl) ?_
  refine wp_aload_n dX4_write_0 rfl ?_
  refine wp_iload_n dX4_write_1 rfl ?_
  refine wp_V1 dX4_write_2 vlX4_102 (by decide) rfl (Nat.le_of_ble_eq_true rfl) ?_
  refine s4_isCell hm hz (fun σ1 hf1 hr1 => ?_)
  obtain ⟨h1, h2, h3, h4, h5, h6, h7, h8, h9, h10⟩ := id hr1.1
  refine wp_ifB_eq 15 dX4_write_5 (by decide) (fun hh5 => ?_) (fun hh5 => ?_)
  · refine wp_bipush dX4_write_15 (by decide) ?_
    refine wp_iret dX4_write_17 (Or.inl rfl) ?_
    have e0 : vWrite z c s = -2 := by unfold vWrite; rw [if_neg (by omega)]
    have e1 : uWrite z c s = z := by unfold uWrite; rw [if_neg (by omega)]
    rw [e0, e1] at hQ
    exact hQ σ1 hf1.x hr1.1
  · refine wp_iload_n dX4_write_8 rfl ?_
    refine wp_S1 dX4_write_9 zlX4_111 (Nat.le_of_ble_eq_true rfl) ?_
    refine s4_isSheet ?_
    refine wp_ifB_ne 18 dX4_write_12 (by decide) (fun hh12 => ?_) (fun hh12 => ?_)
    · have hq := h9 s.toNat (by omega)
      refine wp_aload_n dX4_write_18 rfl ?_
      refine wp_getR dX4_write_19 flX4_41 (by decide) rfl rfl ?_
      refine wp_iload_n dX4_write_22 rfl ?_
      refine wp_baload dX4_write_23 (by decide) rfl (by omega) (by omega) (by decide) ?_
      refine wp_if_ne 33 dX4_write_24 (by decide) (fun hh24 => ?_) (fun hh24 => ?_)
      · refine wp_iconst dX4_write_33 (by decide) ?_
        refine wp_istN (L' := [some (vr _), some (vi _), some (vi _), some (vi _)]) dX4_write_34 (Nat.le_of_ble_eq_true rfl) rfl ?_
        have e0 : vWrite z c s = min (zz z s.toNat) (ggn (Gz z)) := by unfold vWrite; rw [if_pos (by omega), if_neg (by omega)]
        have e1 : uWrite z c s = uwN z c s.toNat (min (zz z s.toNat) (ggn (Gz z))).toNat := by unfold uWrite; rw [if_pos (by omega), if_neg (by omega)]
        rw [e0, e1] at hQ
        exact l4_write hz (by omega) (by omega) hQ _ 0 σ1 (Nat.zero_add _) hf1.x hr1.1 hr1.2.2.1
      · refine wp_aload_n dX4_write_27 rfl ?_
        refine wp_iconst dX4_write_28 (by decide) ?_
        refine wp_V1 dX4_write_29 vlX4_114 (by decide) rfl (Nat.le_of_ble_eq_true rfl) ?_
        refine s4_meets (by omega) (by omega) ?_
        refine wp_iret dX4_write_32 (Or.inl rfl) ?_
        have e0 : vWrite z c s = -11 := by unfold vWrite; rw [if_pos (by omega), if_pos (by omega)]
        have e1 : uWrite z c s = zFind z 1 := by unfold uWrite; rw [if_pos (by omega), if_pos (by omega)]
        rw [e0, e1] at hQ
        exact hQ _ (hf1.x.put (by decide)) ⟨h1, h2, h3, h4, h5, h6, h7, h8, h9, rfl⟩
    · refine wp_bipush dX4_write_15 (by decide) ?_
      refine wp_iret dX4_write_17 (Or.inl rfl) ?_
      have e0 : vWrite z c s = -2 := by unfold vWrite; rw [if_neg (by omega)]
      have e1 : uWrite z c s = z := by unfold uWrite; rw [if_neg (by omega)]
      rw [e0, e1] at hQ
      exact hQ σ1 hf1.x hr1.1
set_option maxRecDepth 20000 in
theorem l4_read {d : Nat} {σ0 : aS} {Q : aQ} {s : Int} (hs : isSh s) : ∀ (r : Nat) (n : Nat) (z : aZ) (σ : aS), n + r = 24 → ZV z → Frx σ0 σ → MI σ z → (∀ σq, Frx σ0 σq → MI σq (rdN s.toNat r n z).1 → Q (some (vi (rdN s.toNat r n z).2)) σq) → Wp RX4 cX4_read 34 (aCall 34 (d + 2)) Q 0 false 0 (fun _ => 0) 27 [some (vr 18), some (vi s), some (vi n)] [] σ := by
  intro r
  induction r with
  | zero =>
    intro n z σ hn hz hF hm hQ
    have hq := hm.2.2.2.2.2.2.2.2.1 s.toNat (by omega)
    have hs48 := hz.2.2.2.2.2.2.2 s.toNat (by omega)
    refine wp_iconst dX4_read_27 (by decide) ?_
    refine wp_iload_n dX4_read_28 rfl ?_
    refine wp_imulN dX4_read_29 (by omega) ?_
    refine wp_iconst dX4_read_30 (by decide) ?_
    refine wp_iaddN dX4_read_31 (by omega) ?_
    refine wp_aload_n dX4_read_32 rfl ?_
    refine wp_getR dX4_read_33 flX4_47 (by decide) rfl rfl ?_
    refine wp_iload_n dX4_read_36 rfl ?_
    refine wp_iaload dX4_read_37 (by decide) rfl (by omega) (by omega) (by decide) ?_
    refine wp_ic_ge 82 dX4_read_38 (by decide) (fun hh38 => ?_) (fun hh38 => ?_)
    · refine wp_iload_n dX4_read_82 rfl ?_
      refine wp_iret dX4_read_83 (Or.inl rfl) ?_
      exact hQ σ hF hm
    · exact absurd hn (by omega)
  | succ r ih =>
    intro n z σ hn hz hF hm hQ
    have hq := hm.2.2.2.2.2.2.2.2.1 s.toNat (by omega)
    have hs48 := hz.2.2.2.2.2.2.2 s.toNat (by omega)
    refine wp_iconst dX4_read_27 (by decide) ?_
    refine wp_iload_n dX4_read_28 rfl ?_
    refine wp_imulN dX4_read_29 (by omega) ?_
    refine wp_iconst dX4_read_30 (by decide) ?_
    refine wp_iaddN dX4_read_31 (by omega) ?_
    refine wp_aload_n dX4_read_32 rfl ?_
    refine wp_getR dX4_read_33 flX4_47 (by decide) rfl rfl ?_
    refine wp_iload_n dX4_read_36 rfl ?_
    refine wp_iaload dX4_read_37 (by decide) rfl (by omega) (by omega) (by decide) ?_
    refine wp_ic_ge 82 dX4_read_38 (by decide) (fun hh38 => ?_) (fun hh38 => ?_)
    · refine wp_iload_n dX4_read_82 rfl ?_
      refine wp_iret dX4_read_83 (Or.inl rfl) ?_
      first
      | (have e : rdN s.toNat (r + 1) n z = (z, (n : Int)) := by show cif _ _ _ = _; rw [cif_f (fun q => by have := q.1; omega)]
         rw [e] at hQ
         exact hQ σ hF hm)
      | (have e : rdN s.toNat (r + 1) n z = (z, (n : Int)) := by show cif _ _ _ = _; rw [cif_f (fun q => by have := q.2; omega)]
         rw [e] at hQ
         exact hQ σ2 (hF.tr hF2) (vThing_no (by omega) ▸ hm2))
    · refine wp_aload_n dX4_read_41 rfl ?_
      refine wp_aload_n dX4_read_42 rfl ?_
      refine wp_getR dX4_read_43 flX4_50 (by decide) rfl rfl ?_
      refine wp_bipush dX4_read_46 (by decide) ?_
      refine wp_iload_n dX4_read_48 rfl ?_
      refine wp_imulN dX4_read_49 (by omega) ?_
      refine wp_iconst dX4_read_50 (by decide) ?_
      refine wp_iload_n dX4_read_51 rfl ?_
      refine wp_imulN dX4_read_52 (by omega) ?_
      refine wp_iaddN dX4_read_53 (by omega) ?_
      refine wp_iaload dX4_read_54 (by decide) rfl (by omega) (by omega) (by decide) ?_
      rw [show (48 * s + 2 * (n : Int)).toNat = 48 * s.toNat + 2 * n by omega, hq.2.2.2 (2 * n) (by omega)]
      refine wp_aload_n dX4_read_55 rfl ?_
      refine wp_getR dX4_read_56 flX4_50 (by decide) rfl rfl ?_
      refine wp_bipush dX4_read_59 (by decide) ?_
      refine wp_iload_n dX4_read_61 rfl ?_
      refine wp_imulN dX4_read_62 (by omega) ?_
      refine wp_iconst dX4_read_63 (by decide) ?_
      refine wp_iload_n dX4_read_64 rfl ?_
      refine wp_imulN dX4_read_65 (by omega) ?_
      refine wp_iaddN dX4_read_66 (by omega) ?_
      refine wp_iconst dX4_read_67 (by decide) ?_
      refine wp_iaddN dX4_read_68 (by omega) ?_
      refine wp_iaload dX4_read_69 (by decide) rfl (by omega) (by omega) (by decide) ?_
      rw [show (48 * s + 2 * (n : Int) + 1).toNat = 48 * s.toNat + (2 * n + 1) by omega, hq.2.2.2 (2 * n + 1) (by omega)]
      refine wp_V2 dX4_read_70 vlX4_117 (by decide) rfl (Nat.le_of_ble_eq_true rfl) ?_
      refine p4_thing hm hz (fun σ2 hF2 hm2 => ?_)
      refine wp_if_le 82 dX4_read_73 (by decide) (fun hh73 => ?_) (fun hh73 => ?_)
      · refine wp_iload_n dX4_read_82 rfl ?_
        refine wp_iret dX4_read_83 (Or.inl rfl) ?_
        first
        | (have e : rdN s.toNat (r + 1) n z = (z, (n : Int)) := by show cif _ _ _ = _; rw [cif_f (fun q => by have := q.1; omega)]
           rw [e] at hQ
           exact hQ σ hF hm)
        | (have e : rdN s.toNat (r + 1) n z = (z, (n : Int)) := by show cif _ _ _ = _; rw [cif_f (fun q => by have := q.2; omega)]
           rw [e] at hQ
           exact hQ σ2 (hF.tr hF2) (vThing_no (by omega) ▸ hm2))
      · refine wp_iincN (L' := [some (vr _), some (vi _), some (vi _)]) dX4_read_76 rfl (by omega) rfl ?_
        refine wp_gotoN 27 dX4_read_79 (by decide) ?_
        have e : rdN s.toNat (r + 1) n z = rdN s.toNat r (n + 1) (uThing z (zi z s.toNat (2 * n)) (zi z s.toNat (2 * n + 1))) := by show cif _ _ _ = _; rw [cif_t ⟨by omega, by omega⟩]
        rw [e] at hQ
        exact ih (n + 1) _ σ2 (by omega) (ZV_thing hz _ _) (hF.tr hF2) hm2 hQ
set_option maxRecDepth 20000 in
theorem p4_read {d : Nat} {σ : aS} {Q : aQ} {s : Int} {z : aZ} (hm : MI σ z) (hz : ZV z) (hQ : ∀ σ', Frx σ σ' → MI σ' (uRead z s) → Q (some (vi (vRead z s))) σ') : aCall 34 (d + 3) mX4_read [vr 18, vi s] σ Q := by
  refine cl_in (own := RX4) (cc := cX4_read) (rk := 0) (L := [some (vr 18), some (vi s), none]) rfl rfl rfl rfl (by decide) (Nat.le_of_ble_eq_true rfl) ?_
  obtain ⟨h1, h2, h3, h4, h5, h6, h7, h8, h9, h10⟩ := id hm
  refine wp_iload_n dX4_read_0 rfl ?_
  refine wp_S1 dX4_read_1 zlX4_111 (Nat.le_of_ble_eq_true rfl) ?_
  refine s4_isSheet ?_
  refine wp_ifB_ne 10 dX4_read_4 (by decide) (fun hh4 => ?_) (fun hh4 => ?_)
  · have hq := h9 s.toNat (by omega)
    refine wp_aload_n dX4_read_10 rfl ?_
    refine wp_getR dX4_read_11 flX4_41 (by decide) rfl rfl ?_
    refine wp_iload_n dX4_read_14 rfl ?_
    refine wp_baload dX4_read_15 (by decide) rfl (by omega) (by omega) (by decide) ?_
    refine wp_if_ne 25 dX4_read_16 (by decide) (fun hh16 => ?_) (fun hh16 => ?_)
    · refine wp_iconst dX4_read_25 (by decide) ?_
      refine wp_istN (L' := [some (vr _), some (vi _), some (vi _)]) dX4_read_26 (Nat.le_of_ble_eq_true rfl) rfl ?_
      have e0 : vRead z s = (rdN s.toNat 24 0 z).2 := by unfold vRead; rw [if_pos (by omega), if_neg (by omega)]
      have e1 : uRead z s = (rdN s.toNat 24 0 z).1 := by unfold uRead; rw [if_pos (by omega), if_neg (by omega)]
      rw [e0, e1] at hQ
      exact l4_read (by omega) 24 0 z σ (by omega) hz Frx.rf hm hQ
    · refine wp_aload_n dX4_read_19 rfl ?_
      refine wp_iconst dX4_read_20 (by decide) ?_
      refine wp_V1 dX4_read_21 vlX4_114 (by decide) rfl (Nat.le_of_ble_eq_true rfl) ?_
      refine s4_meets (by omega) (by omega) ?_
      refine wp_iret dX4_read_24 (Or.inl rfl) ?_
      have e0 : vRead z s = -11 := by unfold vRead; rw [if_pos (by omega), if_pos (by omega)]
      have e1 : uRead z s = zFind z 1 := by unfold uRead; rw [if_pos (by omega), if_pos (by omega)]
      rw [e0, e1] at hQ
      exact hQ _ (Frx.rf.put (by decide)) ⟨h1, h2, h3, h4, h5, h6, h7, h8, h9, rfl⟩
  · refine wp_bipush dX4_read_7 (by decide) ?_
    refine wp_iret dX4_read_9 (Or.inl rfl) ?_
    have e0 : vRead z s = -2 := by unfold vRead; rw [if_neg (by omega)]
    have e1 : uRead z s = z := by unfold uRead; rw [if_neg (by omega)]
    rw [e0, e1] at hQ
    exact hQ σ Frx.rf hm
