def may (g : aG) (k : Int) (c : Int) : Prop := k ≠ c ∧ 1 ≤ ggk g k ∧ ggk g k ≤ 2
noncomputable def p1N (g : aG) (c : Int) : Nat → Nat → Int
  | 0, _ => -1
  | r + 1, k => cif (may g k c ∧ dry g k (-1) c) (k : Int) (p1N g c r (k + 1))
noncomputable def pbN (g : aG) (c : Int) (a : Nat) : Nat → Nat → Int
  | 0, _ => -1
  | r + 1, k => cif (may g a c ∧ may g k c ∧ dry g a k c) (k : Int) (pbN g c a r (k + 1))
noncomputable def paN (g : aG) (c : Int) : Nat → Nat → Int
  | 0, _ => -1
  | r + 1, k => if pbN g c k r (k + 1) ≠ -1 then (k : Int) else paN g c r (k + 1)
noncomputable def plK (g : aG) (c : Int) : Int × Int × Int :=
  cif (dry g (-1) (-1) c) (0, -1, -1) (if p1N g c (ggn g).toNat 0 ≠ -1 then (1, p1N g c (ggn g).toNat 0, -1) else if paN g c (ggn g).toNat 0 ≠ -1 then (2, paN g c (ggn g).toNat 0, pbN g c (paN g c (ggn g).toNat 0).toNat ((ggn g).toNat - ((paN g c (ggn g).toNat 0).toNat + 1)) ((paN g c (ggn g).toNat 0).toNat + 1)) else (-1, -1, -1))
noncomputable def plv (g : aG) (c i : Int) : Int := if i = -1 then (plK g c).1 else if i < (plK g c).1 then (if i = 0 then (plK g c).2.1 else (plK g c).2.2) else -1
noncomputable def vPlug (z : aZ) (c i : Int) : Int := if (0 ≤ c ∧ c ≤ ggn (Gz z) - 1) ∧ (-1 ≤ i ∧ i ≤ 1) then plv (Gz z) c i else -2
set_option maxRecDepth 20000 in
theorem s4_mayPlug {d : Nat} {σ : aS} {Q : aQ} {k c : Int} {g : aG} (he : gOf σ = g) (hg : GV g) (hk : 0 ≤ k ∧ k < ggn g) (hQ : Q (some (vi (bi (may g k c)))) σ) : aCall 34 (d + 2) mX4_mayPlug [vr 18, vi k, vi c] σ Q := by
  refine cl_in (own := RX4) (cc := cX4_mayPlug) (rk := 1) (L := [some (vr 18), some (vi k), some (vi c)]) rfl rfl rfl rfl (by decide) (Nat.le_of_ble_eq_true rfl) ?_
  have hn4 := gn_g he
  have hn35 := hg.2.1
  have ek : ggk g k = σ.1 20 k.toNat := by rw [← he]; exact gk_of hk.1 (by omega)
  refine wp_iload_n dX4_mayPlug_0 rfl ?_
  refine wp_iload_n dX4_mayPlug_1 rfl ?_
  refine wp_ic_eq 23 dX4_mayPlug_2 (by decide) (fun hh2 => ?_) (fun hh2 => ?_)
  · refine wp_iconst dX4_mayPlug_23 (by decide) ?_
    refine wp_iret dX4_mayPlug_24 (Or.inr ⟨rfl, by decide⟩) ?_
    exact q_f (fun q => q.1 hh2) hQ
  · refine wp_aload_n dX4_mayPlug_5 rfl ?_
    refine wp_getR dX4_mayPlug_6 flX4_13 (by decide) rfl rfl ?_
    refine wp_iload_n dX4_mayPlug_9 rfl ?_
    refine wp_iaload dX4_mayPlug_10 (by decide) rfl (by omega) (by omega) (by decide) ?_
    refine wp_iconst dX4_mayPlug_11 (by decide) ?_
    refine wp_iconst dX4_mayPlug_12 (by decide) ?_
    refine wp_S3 dX4_mayPlug_13 zlX4_65 (Nat.le_of_ble_eq_true rfl) ?_
    refine s4_in ?_
    refine wp_ifB_eq 23 dX4_mayPlug_16 (by decide) (fun hh16 => ?_) (fun hh16 => ?_)
    · refine wp_iconst dX4_mayPlug_23 (by decide) ?_
      refine wp_iret dX4_mayPlug_24 (Or.inr ⟨rfl, by decide⟩) ?_
      exact q_f (fun q => hh16 (by rw [← ek]; exact q.2)) hQ
    · refine wp_iconst dX4_mayPlug_19 (by decide) ?_
      refine wp_gotoN 24 dX4_mayPlug_20 (by decide) ?_
      refine wp_iret dX4_mayPlug_24 (Or.inr ⟨rfl, by decide⟩) ?_
      exact q_t ⟨hh2, by rw [ek]; exact hh16⟩ hQ
set_option maxRecDepth 20000 in
theorem l4_p1 {d : Nat} {σ0 : aS} {Q : aQ} {g : aG} {c : Int} (hg : GV g) (he0 : gOf σ0 = g) (hc : 0 ≤ c ∧ c < ggn g) : ∀ (r : Nat) (k : Nat) (σ : aS) (u : Option aV), k + r = (ggn g).toNat → FrP σ0 σ → (∀ σ, p1N g c r k ≠ -1 → FrP σ0 σ → σ.1 26 0 = p1N g c r k → Q (some (vi 1)) σ) → (∀ (x : Int) (u : Option aV) σ, p1N g c r k = -1 → FrP σ0 σ → Wp RX4 cX4_plugBy 34 (aCall 34 (d + 4)) Q 0 false 0 (fun _ => 0) 49 [some (vr 18), some (vi c), some (vi x), u] [] σ) → Wp RX4 cX4_plugBy 34 (aCall 34 (d + 4)) Q 0 false 0 (fun _ => 0) 14 [some (vr 18), some (vi c), some (vi k), u] [] σ := by
  intro r
  induction r with
  | zero =>
    intro k σ u hk hF hY hN
    have he := hF.g he0 hg
    have hn4 := gn_g he
    have hn35 := hg.2.1
    refine wp_iload_n dX4_plugBy_14 rfl ?_
    refine wp_aload_n dX4_plugBy_15 rfl ?_
    refine wp_getI dX4_plugBy_16 flX4_72 (by decide) rfl (Or.inl rfl) ?_
    refine wp_ic_ge 49 dX4_plugBy_19 (by decide) (fun hh19 => ?_) (fun hh19 => ?_)
    · exact hN _ _ σ rfl hF
    · exact absurd hk (by omega)
  | succ r ih =>
    intro k σ u hk hF hY hN
    have he := hF.g he0 hg
    have hn4 := gn_g he
    have hn35 := hg.2.1
    refine wp_iload_n dX4_plugBy_14 rfl ?_
    refine wp_aload_n dX4_plugBy_15 rfl ?_
    refine wp_getI dX4_plugBy_16 flX4_72 (by decide) rfl (Or.inl rfl) ?_
    refine wp_ic_ge 49 dX4_plugBy_19 (by decide) (fun hh19 => ?_) (fun hh19 => ?_)
    · exact absurd hk (by omega)
    · refine wp_aload_n dX4_plugBy_22 rfl ?_
      refine wp_iload_n dX4_plugBy_23 rfl ?_
      refine wp_iload_n dX4_plugBy_24 rfl ?_
      refine wp_V2 dX4_plugBy_25 vlX4_176 (by decide) rfl (Nat.le_of_ble_eq_true rfl) ?_
      refine s4_mayPlug he hg (by omega) ?_
      refine wp_ifB_eq 43 dX4_plugBy_28 (by decide) (fun hh28 => ?_) (fun hh28 => ?_)
      · refine wp_iincN (L' := [some (vr _), some (vi _), some (vi _), _]) dX4_plugBy_43 rfl (by omega) rfl ?_
        refine wp_gotoN 14 dX4_plugBy_46 (by decide) ?_
        have e : p1N g c (r + 1) k = p1N g c r (k + 1) := by show cif _ _ _ = _; rw [cif_f (fun q => hh28 q.1)]
        rw [e] at hY hN
        exact ih (k + 1) σ _ (by omega) hF hY hN
      · refine wp_aload_n dX4_plugBy_31 rfl ?_
        refine wp_iload_n dX4_plugBy_32 rfl ?_
        refine wp_iload_n dX4_plugBy_33 rfl ?_
        refine wp_iconst dX4_plugBy_34 (by decide) ?_
        refine wp_V3 dX4_plugBy_35 vlX4_173 (by decide) rfl (Nat.le_of_ble_eq_true rfl) ?_
        refine s4_plugs1 he hg hc (by omega) (fun σ2 hF2 hp0 hp1 => ?_)
        refine wp_ifB_eq 43 dX4_plugBy_38 (by decide) (fun hh38 => ?_) (fun hh38 => ?_)
        · refine wp_iincN (L' := [some (vr _), some (vi _), some (vi _), _]) dX4_plugBy_43 rfl (by omega) rfl ?_
          refine wp_gotoN 14 dX4_plugBy_46 (by decide) ?_
          have e : p1N g c (r + 1) k = p1N g c r (k + 1) := by show cif _ _ _ = _; rw [cif_f (fun q => hh38 q.2)]
          rw [e] at hY hN
          exact ih (k + 1) σ2 _ (by omega) (hF.tr hF2) hY hN
        · refine wp_iconst dX4_plugBy_41 (by decide) ?_
          refine wp_iret dX4_plugBy_42 (Or.inl rfl) ?_
          have e : p1N g c (r + 1) k = (k : Int) := by show cif _ _ _ = _; rw [cif_t ⟨hh28, hh38⟩]
          rw [e] at hY
          exact hY σ2 (by omega) (hF.tr hF2) hp0
set_option maxRecDepth 20000 in
theorem l4_pb {d : Nat} {σ0 : aS} {Q : aQ} {g : aG} {c : Int} (hg : GV g) (he0 : gOf σ0 = g) (hc : 0 ≤ c ∧ c < ggn g) {a : Nat} : ∀ (r : Nat) (k : Nat) (σ : aS), k + r = (ggn g).toNat → a < k → FrP σ0 σ → (∀ σ, pbN g c a r k ≠ -1 → FrP σ0 σ → σ.1 26 0 = a → σ.1 26 1 = pbN g c a r k → Q (some (vi 2)) σ) → (∀ (x : Int) σ, pbN g c a r k = -1 → FrP σ0 σ → Wp RX4 cX4_plugBy 34 (aCall 34 (d + 4)) Q 0 false 0 (fun _ => 0) 107 [some (vr 18), some (vi c), some (vi a), some (vi x)] [] σ) → Wp RX4 cX4_plugBy 34 (aCall 34 (d + 4)) Q 0 false 0 (fun _ => 0) 63 [some (vr 18), some (vi c), some (vi a), some (vi k)] [] σ := by
  intro r
  induction r with
  | zero =>
    intro k σ hk hak hF hY hN
    have he := hF.g he0 hg
    have hn4 := gn_g he
    have hn35 := hg.2.1
    refine wp_iload_n dX4_plugBy_63 rfl ?_
    refine wp_aload_n dX4_plugBy_64 rfl ?_
    refine wp_getI dX4_plugBy_65 flX4_72 (by decide) rfl (Or.inl rfl) ?_
    refine wp_ic_ge 107 dX4_plugBy_68 (by decide) (fun hh68 => ?_) (fun hh68 => ?_)
    · exact hN _ σ rfl hF
    · exact absurd hk (by omega)
  | succ r ih =>
    intro k σ hk hak hF hY hN
    have he := hF.g he0 hg
    have hn4 := gn_g he
    have hn35 := hg.2.1
    refine wp_iload_n dX4_plugBy_63 rfl ?_
    refine wp_aload_n dX4_plugBy_64 rfl ?_
    refine wp_getI dX4_plugBy_65 flX4_72 (by decide) rfl (Or.inl rfl) ?_
    refine wp_ic_ge 107 dX4_plugBy_68 (by decide) (fun hh68 => ?_) (fun hh68 => ?_)
    · exact absurd hk (by omega)
    · refine wp_aload_n dX4_plugBy_71 rfl ?_
      refine wp_iload_n dX4_plugBy_72 rfl ?_
      refine wp_iload_n dX4_plugBy_73 rfl ?_
      refine wp_V2 dX4_plugBy_74 vlX4_176 (by decide) rfl (Nat.le_of_ble_eq_true rfl) ?_
      refine s4_mayPlug he hg (by omega) ?_
      refine wp_ifB_eq 101 dX4_plugBy_77 (by decide) (fun hh77 => ?_) (fun hh77 => ?_)
      · refine wp_iincN (L' := [some (vr _), some (vi _), some (vi _), some (vi _)]) dX4_plugBy_101 rfl (by omega) rfl ?_
        refine wp_gotoN 63 dX4_plugBy_104 (by decide) ?_
        have e : pbN g c a (r + 1) k = pbN g c a r (k + 1) := by show cif _ _ _ = _; rw [cif_f (fun q => hh77 q.1)]
        rw [e] at hY hN
        exact ih (k + 1) σ (by omega) (by omega) hF hY hN
      · refine wp_aload_n dX4_plugBy_80 rfl ?_
        refine wp_iload_n dX4_plugBy_81 rfl ?_
        refine wp_iload_n dX4_plugBy_82 rfl ?_
        refine wp_V2 dX4_plugBy_83 vlX4_176 (by decide) rfl (Nat.le_of_ble_eq_true rfl) ?_
        refine s4_mayPlug he hg (by omega) ?_
        refine wp_ifB_eq 101 dX4_plugBy_86 (by decide) (fun hh86 => ?_) (fun hh86 => ?_)
        · refine wp_iincN (L' := [some (vr _), some (vi _), some (vi _), some (vi _)]) dX4_plugBy_101 rfl (by omega) rfl ?_
          refine wp_gotoN 63 dX4_plugBy_104 (by decide) ?_
          have e : pbN g c a (r + 1) k = pbN g c a r (k + 1) := by show cif _ _ _ = _; rw [cif_f (fun q => hh86 q.2.1)]
          rw [e] at hY hN
          exact ih (k + 1) σ (by omega) (by omega) hF hY hN
        · refine wp_aload_n dX4_plugBy_89 rfl ?_
          refine wp_iload_n dX4_plugBy_90 rfl ?_
          refine wp_iload_n dX4_plugBy_91 rfl ?_
          refine wp_iload_n dX4_plugBy_92 rfl ?_
          refine wp_V3 dX4_plugBy_93 vlX4_173 (by decide) rfl (Nat.le_of_ble_eq_true rfl) ?_
          refine s4_plugs2 he hg hc (by omega) (by omega) (fun σ2 hF2 hp0 hp1 => ?_)
          refine wp_ifB_eq 101 dX4_plugBy_96 (by decide) (fun hh96 => ?_) (fun hh96 => ?_)
          · refine wp_iincN (L' := [some (vr _), some (vi _), some (vi _), some (vi _)]) dX4_plugBy_101 rfl (by omega) rfl ?_
            refine wp_gotoN 63 dX4_plugBy_104 (by decide) ?_
            have e : pbN g c a (r + 1) k = pbN g c a r (k + 1) := by show cif _ _ _ = _; rw [cif_f (fun q => hh96 q.2.2)]
            rw [e] at hY hN
            exact ih (k + 1) σ2 (by omega) (by omega) (hF.tr hF2) hY hN
          · refine wp_iconst dX4_plugBy_99 (by decide) ?_
            refine wp_iret dX4_plugBy_100 (Or.inl rfl) ?_
            have e : pbN g c a (r + 1) k = (k : Int) := by show cif _ _ _ = _; rw [cif_t ⟨hh77, hh86, hh96⟩]
            rw [e] at hY
            exact hY σ2 (by omega) (hF.tr hF2) hp0 hp1
set_option maxRecDepth 20000 in
theorem l4_pa {d : Nat} {σ0 : aS} {Q : aQ} {g : aG} {c : Int} (hg : GV g) (he0 : gOf σ0 = g) (hc : 0 ≤ c ∧ c < ggn g) : ∀ (r : Nat) (k : Nat) (σ : aS) (u : Option aV), k + r = (ggn g).toNat → FrP σ0 σ → (∀ σ, paN g c r k ≠ -1 → FrP σ0 σ → σ.1 26 0 = paN g c r k → σ.1 26 1 = pbN g c (paN g c r k).toNat ((ggn g).toNat - ((paN g c r k).toNat + 1)) ((paN g c r k).toNat + 1) → Q (some (vi 2)) σ) → (∀ σ, paN g c r k = -1 → FrP σ0 σ → Q (some (vi (-1))) σ) → Wp RX4 cX4_plugBy 34 (aCall 34 (d + 4)) Q 0 false 0 (fun _ => 0) 51 [some (vr 18), some (vi c), some (vi k), u] [] σ := by
  intro r
  induction r with
  | zero =>
    intro k σ u hk hF hY hN
    have he := hF.g he0 hg
    have hn4 := gn_g he
    have hn35 := hg.2.1
    refine wp_iload_n dX4_plugBy_51 rfl ?_
    refine wp_aload_n dX4_plugBy_52 rfl ?_
    refine wp_getI dX4_plugBy_53 flX4_72 (by decide) rfl (Or.inl rfl) ?_
    refine wp_ic_ge 113 dX4_plugBy_56 (by decide) (fun hh56 => ?_) (fun hh56 => ?_)
    · refine wp_iconst dX4_plugBy_113 (by decide) ?_
      refine wp_iret dX4_plugBy_114 (Or.inl rfl) ?_
      exact hN σ rfl hF
    · exact absurd hk (by omega)
  | succ r ih =>
    intro k σ u hk hF hY hN
    have he := hF.g he0 hg
    have hn4 := gn_g he
    have hn35 := hg.2.1
    refine wp_iload_n dX4_plugBy_51 rfl ?_
    refine wp_aload_n dX4_plugBy_52 rfl ?_
    refine wp_getI dX4_plugBy_53 flX4_72 (by decide) rfl (Or.inl rfl) ?_
    refine wp_ic_ge 113 dX4_plugBy_56 (by decide) (fun hh56 => ?_) (fun hh56 => ?_)
    · exact absurd hk (by omega)
    · refine wp_iload_n dX4_plugBy_59 rfl ?_
      refine wp_iconst dX4_plugBy_60 (by decide) ?_
      refine wp_iaddN dX4_plugBy_61 (by omega) ?_
      refine wp_istN (L' := [some (vr _), some (vi _), some (vi _), some (vi _)]) dX4_plugBy_62 (Nat.le_of_ble_eq_true rfl) rfl ?_
      rw [show ((k : Int) + 1) = ((k + 1 : Nat) : Int) by omega]
      refine l4_pb hg he0 hc (a := k) r (k + 1) σ (by omega) (by omega) hF (fun σ2 hne hF2 hp0 hp1 => ?_) (fun x2 σ2 hno hF2 => ?_)
      · have e : paN g c (r + 1) k = (k : Int) := by show (if _ then _ else _) = _; rw [if_pos hne]
        rw [e] at hY
        refine hY σ2 (by omega) hF2 hp0 ?_
        rw [Int.toNat_natCast, show (ggn g).toNat - (k + 1) = r by omega]
        exact hp1
      · refine wp_iincN (L' := [some (vr _), some (vi _), some (vi _), some (vi _)]) dX4_plugBy_107 rfl (by omega) rfl ?_
        refine wp_gotoN 51 dX4_plugBy_110 (by decide) ?_
        have e : paN g c (r + 1) k = paN g c r (k + 1) := by show (if _ then _ else _) = _; rw [if_neg (fun q => q hno)]
        rw [e] at hY hN
        exact ih (k + 1) σ2 _ (by omega) hF2 hY hN
set_option maxRecDepth 20000 in
theorem s4_plugBy {d : Nat} {σ : aS} {Q : aQ} {c : Int} {g : aG} (he : gOf σ = g) (hg : GV g) (hc : 0 ≤ c ∧ c < ggn g) (hQ : ∀ σq, FrP σ σq → (0 < (plK g c).1 → σq.1 26 0 = (plK g c).2.1) → (1 < (plK g c).1 → σq.1 26 1 = (plK g c).2.2) → Q (some (vi (plK g c).1)) σq) : aCall 34 (d + 5) mX4_plugBy [vr 18, vi c] σ Q := by
  refine cl_in (own := RX4) (cc := cX4_plugBy) (rk := 0) (L := [some (vr 18), some (vi c), none, none]) rfl rfl rfl rfl (by decide) (Nat.le_of_ble_eq_true rfl) ?_
  refine wp_aload_n dX4_plugBy_0 rfl ?_
  refine wp_iload_n dX4_plugBy_1 rfl ?_
  refine wp_iconst dX4_plugBy_2 (by decide) ?_
  refine wp_iconst dX4_plugBy_3 (by decide) ?_
  refine wp_V3 dX4_plugBy_4 vlX4_173 (by decide) rfl (Nat.le_of_ble_eq_true rfl) ?_
  refine s4_plugs0 he hg hc (fun σ1 hF1 hp0 hp1 => ?_)
  refine wp_ifB_eq 12 dX4_plugBy_7 (by decide) (fun hh7 => ?_) (fun hh7 => ?_)
  · refine wp_iconst dX4_plugBy_12 (by decide) ?_
    refine wp_istN (L' := [some (vr _), some (vi _), some (vi _), none]) dX4_plugBy_13 (Nat.le_of_ble_eq_true rfl) rfl ?_
    refine l4_p1 hg he hc (ggn g).toNat 0 σ1 _ (by omega) hF1 (fun σ2 hne hF2 hp => ?_) (fun x2 v2 σ2 hno hF2 => ?_)
    · have e : plK g c = (1, p1N g c (ggn g).toNat 0, -1) := by unfold plK; rw [cif_f hh7, if_pos hne]
      rw [e] at hQ
      exact hQ σ2 hF2 (fun _ => hp) (fun q => absurd (show (1 : Int) < 1 from q) (by decide))
    · refine wp_iconst dX4_plugBy_49 (by decide) ?_
      refine wp_istN (L' := [some (vr _), some (vi _), some (vi _), _]) dX4_plugBy_50 (Nat.le_of_ble_eq_true rfl) rfl ?_
      refine l4_pa hg he hc (ggn g).toNat 0 σ2 _ (by omega) hF2 (fun σ3 hne hF3 hp0 hp1 => ?_) (fun σ3 hno3 hF3 => ?_)
      · have e : plK g c = (2, paN g c (ggn g).toNat 0, pbN g c (paN g c (ggn g).toNat 0).toNat ((ggn g).toNat - ((paN g c (ggn g).toNat 0).toNat + 1)) ((paN g c (ggn g).toNat 0).toNat + 1)) := by unfold plK; rw [cif_f hh7, if_neg (fun q => q hno), if_pos hne]
        rw [e] at hQ
        exact hQ σ3 hF3 (fun _ => hp0) (fun _ => hp1)
      · have e : plK g c = (-1, -1, -1) := by unfold plK; rw [cif_f hh7, if_neg (fun q => q hno), if_neg (fun q => q hno3)]
        rw [e] at hQ
        exact hQ σ3 hF3 (fun q => absurd q (by decide)) (fun q => absurd q (by decide))
  · refine wp_iconst dX4_plugBy_10 (by decide) ?_
    refine wp_iret dX4_plugBy_11 (Or.inl rfl) ?_
    have e : plK g c = (0, -1, -1) := by unfold plK; rw [cif_t hh7]
    rw [e] at hQ
    exact hQ σ1 hF1 (fun q => absurd q (by decide)) (fun q => absurd q (by decide))
set_option maxRecDepth 20000 in
theorem s4_plugOf {d : Nat} {σ : aS} {Q : aQ} {c i : Int} {g : aG} (he : gOf σ = g) (hg : GV g) (hc : 0 ≤ c ∧ c < ggn g) (hi : -1 ≤ i ∧ i ≤ 1) (hQ : ∀ σq, FrP σ σq → Q (some (vi (plv g c i))) σq) : aCall 34 (d + 6) mX4_plugOf [vr 18, vi c, vi i] σ Q := by
  refine cl_in (own := RX4) (cc := cX4_plugOf) (rk := 0) (L := [some (vr 18), some (vi c), some (vi i), none]) rfl rfl rfl rfl (by decide) (Nat.le_of_ble_eq_true rfl) ?_
  refine wp_aload_n dX4_plugOf_0 rfl ?_
  refine wp_iload_n dX4_plugOf_1 rfl ?_
  refine wp_V1 dX4_plugOf_2 vlX4_179 (by decide) rfl (Nat.le_of_ble_eq_true rfl) ?_
  refine s4_plugBy he hg hc (fun σ2 hF2 hp0 hp1 => ?_)
  refine wp_istN (L' := [some (vr _), some (vi _), some (vi _), some (vi _)]) dX4_plugOf_5 (Nat.le_of_ble_eq_true rfl) rfl ?_
  refine wp_iload_n dX4_plugOf_6 rfl ?_
  refine wp_iconst dX4_plugOf_7 (by decide) ?_
  refine wp_ic_ne 15 dX4_plugOf_8 (by decide) (fun hh8 => ?_) (fun hh8 => ?_)
  · refine wp_iload_n dX4_plugOf_15 rfl ?_
    refine wp_iload_n dX4_plugOf_16 rfl ?_
    refine wp_ic_ge 29 dX4_plugOf_17 (by decide) (fun hh17 => ?_) (fun hh17 => ?_)
    · refine wp_iconst dX4_plugOf_29 (by decide) ?_
      refine wp_iret dX4_plugOf_30 (Or.inl rfl) ?_
      first
      | exact q_i (by unfold plv; rw [if_pos (by omega)]) (hQ σ2 hF2)
      | exact q_i (by unfold plv; rw [if_neg (by omega), if_neg (by omega)]) (hQ σ2 hF2)
      | (have hi3 : i = 0 ∨ i = 1 := by omega
         rcases hi3 with e | e
         · subst e; exact q_i (by unfold plv; rw [if_neg (by decide), if_pos (by omega), if_pos rfl]; exact hp0 (by omega)) (hQ σ2 hF2)
         · subst e; exact q_i (by unfold plv; rw [if_neg (by decide), if_pos (by omega), if_neg (by decide)]; exact hp1 (by omega)) (hQ σ2 hF2))
    · refine wp_aload_n dX4_plugOf_20 rfl ?_
      refine wp_getR dX4_plugOf_21 flX4_32 (by decide) rfl rfl ?_
      refine wp_iload_n dX4_plugOf_24 rfl ?_
      refine wp_iaload dX4_plugOf_25 (by decide) rfl (by omega) (by omega) (by decide) ?_
      refine wp_gotoN 30 dX4_plugOf_26 (by decide) ?_
      refine wp_iret dX4_plugOf_30 (Or.inl rfl) ?_
      first
      | exact q_i (by unfold plv; rw [if_pos (by omega)]) (hQ σ2 hF2)
      | exact q_i (by unfold plv; rw [if_neg (by omega), if_neg (by omega)]) (hQ σ2 hF2)
      | (have hi3 : i = 0 ∨ i = 1 := by omega
         rcases hi3 with e | e
         · subst e; exact q_i (by unfold plv; rw [if_neg (by decide), if_pos (by omega), if_pos rfl]; exact hp0 (by omega)) (hQ σ2 hF2)
         · subst e; exact q_i (by unfold plv; rw [if_neg (by decide), if_pos (by omega), if_neg (by decide)]; exact hp1 (by omega)) (hQ σ2 hF2))
  · refine wp_iload_n dX4_plugOf_11 rfl ?_
    refine wp_gotoN 30 dX4_plugOf_12 (by decide) ?_
    refine wp_iret dX4_plugOf_30 (Or.inl rfl) ?_
    first
    | exact q_i (by unfold plv; rw [if_pos (by omega)]) (hQ σ2 hF2)
    | exact q_i (by unfold plv; rw [if_neg (by omega), if_neg (by omega)]) (hQ σ2 hF2)
    | (have hi3 : i = 0 ∨ i = 1 := by omega
       rcases hi3 with e | e
       · subst e; exact q_i (by unfold plv; rw [if_neg (by decide), if_pos (by omega), if_pos rfl]; exact hp0 (by omega)) (hQ σ2 hF2)
       · subst e; exact q_i (by unfold plv; rw [if_neg (by decide), if_pos (by omega), if_neg (by decide)]; exact hp1 (by omega)) (hQ σ2 hF2))
set_option maxRecDepth 20000 in
theorem p4_plug {d : Nat} {σ : aS} {Q : aQ} {c i : Int} {z : aZ} (hm : MI σ z) (hz : ZV z) (hQ : ∀ σ', Frm σ σ' → MI σ' z → Q (some (vi (vPlug z c i))) σ') : aCall 34 (d + 7) mX4_plug [vr 18, vi c, vi i] σ Q := by
  refine cl_in (own := RX4) (cc := cX4_plug) (rk := 0) (L := [some (vr 18), some (vi c), some (vi i)]) rfl rfl rfl rfl (by decide) (Nat.le_of_ble_eq_true rfl) ?_
  refine wp_aload_n dX4_plug_0 rfl ?_
  refine wp_iload_n dX4_plug_1 rfl ?_
  refine wp_V1 dX4_plug_2 vlX4_102 (by decide) rfl (Nat.le_of_ble_eq_true rfl) ?_
  refine s4_isCell hm hz (fun σ1 hf1 hr1 => ?_)
  refine wp_ifB_eq 26 dX4_plug_5 (by decide) (fun hh5 => ?_) (fun hh5 => ?_)
  · refine wp_bipush dX4_plug_26 (by decide) ?_
    refine wp_iret dX4_plug_28 (Or.inl rfl) ?_
    first
    | exact q_i (by unfold vPlug; rw [if_neg (by omega)]) (hQ σ1 hf1 hr1.1)
    | exact q_i (by unfold vPlug; rw [if_pos (by omega)]) (hQ σ2 (hf1.tr hF2.m) (hr1.p hF2).1)
  · refine wp_iload_n dX4_plug_8 rfl ?_
    refine wp_iconst dX4_plug_9 (by decide) ?_
    refine wp_iconst dX4_plug_10 (by decide) ?_
    refine wp_S3 dX4_plug_11 zlX4_65 (Nat.le_of_ble_eq_true rfl) ?_
    refine s4_in ?_
    refine wp_ifB_eq 26 dX4_plug_14 (by decide) (fun hh14 => ?_) (fun hh14 => ?_)
    · refine wp_bipush dX4_plug_26 (by decide) ?_
      refine wp_iret dX4_plug_28 (Or.inl rfl) ?_
      first
      | exact q_i (by unfold vPlug; rw [if_neg (by omega)]) (hQ σ1 hf1 hr1.1)
      | exact q_i (by unfold vPlug; rw [if_pos (by omega)]) (hQ σ2 (hf1.tr hF2.m) (hr1.p hF2).1)
    · refine wp_aload_n dX4_plug_17 rfl ?_
      refine wp_iload_n dX4_plug_18 rfl ?_
      refine wp_iload_n dX4_plug_19 rfl ?_
      refine wp_V2 dX4_plug_20 vlX4_182 (by decide) rfl (Nat.le_of_ble_eq_true rfl) ?_
      refine s4_plugOf hr1.2.2.1 (Gz_ok hz) (by omega) (by omega) (fun σ2 hF2 => ?_)
      refine wp_gotoN 28 dX4_plug_23 (by decide) ?_
      refine wp_iret dX4_plug_28 (Or.inl rfl) ?_
      first
      | exact q_i (by unfold vPlug; rw [if_neg (by omega)]) (hQ σ1 hf1 hr1.1)
      | exact q_i (by unfold vPlug; rw [if_pos (by omega)]) (hQ σ2 (hf1.tr hF2.m) (hr1.p hF2).1)
