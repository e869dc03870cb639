theorem Rd.f1 {q : Nat} {σ σ' : aS} {z : aZ} (h : Rd σ z) (f : F1 q σ σ') (hq : q = 23 ∨ q = 24 ∨ q = 25) : Rd σ' z := h.fr2 (f.f2 hq)
theorem F1.m {q : Nat} {σ σ' : aS} (f : F1 q σ σ') (hq : q = 23 ∨ q = 24 ∨ q = 25) : Frm σ σ' := (f.f2 hq).m
noncomputable def vWay (z : aZ) (a b : Int) : Int := if (0 ≤ a ∧ a ≤ ggn (Gz z) - 1) ∧ (0 ≤ b ∧ b ≤ ggn (Gz z) - 1) then wayv (Gz z) a b else -2
def nxP (g : aG) (a b : Int) (y : Int) : Prop := cst g a y < 1000000 ∧ wayv g (tgt g a y) b ≠ -1 ∧ cst g a y + wayv g (tgt g a y) b = wayv g a b
noncomputable def nxN (g : aG) (a b : Int) : Nat → Int
  | 0 => -1
  | k + 1 => cif (nxP g a b k ∧ (nxN g a b k = -1 ∨ tgt g a k < nxN g a b k)) (tgt g a k) (nxN g a b k)
noncomputable def nxv (g : aG) (a b : Int) : Int := if 0 < wayv g a b then nxN g a b 4 else -1
noncomputable def vNext (z : aZ) (a b : Int) : Int := if (0 ≤ a ∧ a ≤ ggn (Gz z) - 1) ∧ (0 ≤ b ∧ b ≤ ggn (Gz z) - 1) then nxv (Gz z) a b else -2
noncomputable def rcv (g : aG) (a b t : Int) : Int := if wayv g a t = -1 ∧ wayv g b t = -1 then -1 else if wayv g a t ≠ -1 ∧ (wayv g b t = -1 ∨ wayv g a t < wayv g b t) then 0 else if wayv g b t ≠ -1 ∧ (wayv g a t = -1 ∨ wayv g b t < wayv g a t) then 1 else 2
noncomputable def vRace (z : aZ) (a b t : Int) : Int := if (0 ≤ a ∧ a ≤ ggn (Gz z) - 1) ∧ (0 ≤ b ∧ b ≤ ggn (Gz z) - 1) ∧ (0 ≤ t ∧ t ≤ ggn (Gz z) - 1) then rcv (Gz z) a b t else -2
def one (g : aG) (a : Int) (x : Int) : Prop := x = a ∧ opn g x
noncomputable def rhv (g : aG) (a : Int) : Int := cnt (fun c => Rch (ceE g) g (one g a) c) (ggn g).toNat
noncomputable def vReach (z : aZ) (a : Int) : Int := if 0 ≤ a ∧ a ≤ ggn (Gz z) - 1 then rhv (Gz z) a else -2
noncomputable def wtv (g : aG) (c : Int) : Int := bi (Rch (flW g) g (spS g (-1)) c)
noncomputable def vWet (z : aZ) (c : Int) : Int := if 0 ≤ c ∧ c ≤ ggn (Gz z) - 1 then wtv (Gz z) c else -2
theorem far_v {g : aG} {b : Int} {f : Nat → Int} (h : FarOk g b f) {c : Int} (h0 : 0 ≤ c) (hc : c < ggn g) : (f c.toNat = 1000000 ∧ wayv g c b = -1) ∨ (f c.toNat = wayv g c b ∧ 0 ≤ f c.toNat ∧ f c.toNat ≤ 340) := by
  have := far_val h (c := c.toNat) (by omega)
  rwa [Int.toNat_of_nonneg h0] at this
set_option maxRecDepth 20000 in
theorem s4_wayOf {d : Nat} {σ : aS} {Q : aQ} {a b : Int} {g : aG} (he : gOf σ = g) (hg : GV g) (ha : 0 ≤ a ∧ a < ggn g) (hQ : ∀ σq, F1 23 σ σq → Q (some (vi (wayv g a b))) σq) : aCall 34 (d + 6) mX4_wayOf [vr 18, vi a, vi b] σ Q := by
  refine cl_in (own := RX4) (cc := cX4_wayOf) (rk := 0) (L := [some (vr 18), some (vi a), some (vi b)]) rfl rfl rfl rfl (by decide) (Nat.le_of_ble_eq_true rfl) ?_
  refine wp_aload_n dX4_wayOf_0 rfl ?_
  refine wp_iload_n dX4_wayOf_1 rfl ?_
  refine wp_V1 dX4_wayOf_2 vlX4_146 (by decide) rfl (Nat.le_of_ble_eq_true rfl) ?_
  refine s4_laysFar he hg (fun σ2 hF2 hfar => ?_)
  have he2 := hF2.g (by decide) he
  have hn2 := gn_g he2
  have hn35 := hg.2.1
  have hv := far_v hfar ha.1 ha.2
  refine wp_aload_n dX4_wayOf_5 rfl ?_
  refine wp_getR dX4_wayOf_6 flX4_22 (by decide) rfl rfl ?_
  refine wp_iload_n dX4_wayOf_9 rfl ?_
  refine wp_iaload dX4_wayOf_10 (by decide) rfl (by omega) (by omega) (by decide) ?_
  refine wp_ldc dX4_wayOf_11 klX4_142 ?_
  refine wp_ic_ge 25 dX4_wayOf_13 (by decide) (fun hh13 => ?_) (fun hh13 => ?_)
  · refine wp_iconst dX4_wayOf_25 (by decide) ?_
    refine wp_iret dX4_wayOf_26 (Or.inl rfl) ?_
    exact q_i (by omega) (hQ σ2 hF2)
  · refine wp_aload_n dX4_wayOf_16 rfl ?_
    refine wp_getR dX4_wayOf_17 flX4_22 (by decide) rfl rfl ?_
    refine wp_iload_n dX4_wayOf_20 rfl ?_
    refine wp_iaload dX4_wayOf_21 (by decide) rfl (by omega) (by omega) (by decide) ?_
    refine wp_gotoN 26 dX4_wayOf_22 (by decide) ?_
    refine wp_iret dX4_wayOf_26 (Or.inl rfl) ?_
    exact q_i (by omega) (hQ σ2 hF2)
set_option maxRecDepth 20000 in
theorem p4_way {d : Nat} {σ : aS} {Q : aQ} {a b : Int} {z : aZ} (hm : MI σ z) (hz : ZV z) (hQ : ∀ σ', Frm σ σ' → MI σ' z → Q (some (vi (vWay z a b))) σ') : aCall 34 (d + 7) mX4_way [vr 18, vi a, vi b] σ Q := by
  refine cl_in (own := RX4) (cc := cX4_way) (rk := 0) (L := [some (vr 18), some (vi a), some (vi b)]) rfl rfl rfl rfl (by decide) (Nat.le_of_ble_eq_true rfl) ?_
  refine wp_aload_n dX4_way_0 rfl ?_
  refine wp_iload_n dX4_way_1 rfl ?_
  refine wp_V1 dX4_way_2 vlX4_102 (by decide) rfl (Nat.le_of_ble_eq_true rfl) ?_
  refine s4_isCell hm hz (fun σ1 hf1 hr1 => ?_)
  refine wp_ifB_eq 25 dX4_way_5 (by decide) (fun hh5 => ?_) (fun hh5 => ?_)
  · refine wp_bipush dX4_way_25 (by decide) ?_
    refine wp_iret dX4_way_27 (Or.inl rfl) ?_
    first
    | exact q_i (by unfold vWay; rw [if_neg (by omega)]) (hQ σ1 hf1 hr1.1)
    | exact q_i (by unfold vWay; rw [if_neg (by omega)]) (hQ σ2 (hf1.tr hf2) hr2.1)
    | exact q_i (by unfold vWay; rw [if_pos (by omega)]) (hQ σ3 ((hf1.tr hf2).tr (hF3.m (by decide))) (hr2.f1 hF3 (by decide)).1)
  · refine wp_aload_n dX4_way_8 rfl ?_
    refine wp_iload_n dX4_way_9 rfl ?_
    refine wp_V1 dX4_way_10 vlX4_102 (by decide) rfl (Nat.le_of_ble_eq_true rfl) ?_
    refine s4_isCell hr1.1 hz (fun σ2 hf2 hr2 => ?_)
    refine wp_ifB_eq 25 dX4_way_13 (by decide) (fun hh13 => ?_) (fun hh13 => ?_)
    · refine wp_bipush dX4_way_25 (by decide) ?_
      refine wp_iret dX4_way_27 (Or.inl rfl) ?_
      first
      | exact q_i (by unfold vWay; rw [if_neg (by omega)]) (hQ σ1 hf1 hr1.1)
      | exact q_i (by unfold vWay; rw [if_neg (by omega)]) (hQ σ2 (hf1.tr hf2) hr2.1)
      | exact q_i (by unfold vWay; rw [if_pos (by omega)]) (hQ σ3 ((hf1.tr hf2).tr (hF3.m (by decide))) (hr2.f1 hF3 (by decide)).1)
    · refine wp_aload_n dX4_way_16 rfl ?_
      refine wp_iload_n dX4_way_17 rfl ?_
      refine wp_iload_n dX4_way_18 rfl ?_
      refine wp_V2 dX4_way_19 vlX4_150 (by decide) rfl (Nat.le_of_ble_eq_true rfl) ?_
      refine s4_wayOf hr2.2.2.1 (Gz_ok hz) (by omega) (fun σ3 hF3 => ?_)
      refine wp_gotoN 27 dX4_way_22 (by decide) ?_
      refine wp_iret dX4_way_27 (Or.inl rfl) ?_
      first
      | exact q_i (by unfold vWay; rw [if_neg (by omega)]) (hQ σ1 hf1 hr1.1)
      | exact q_i (by unfold vWay; rw [if_neg (by omega)]) (hQ σ2 (hf1.tr hf2) hr2.1)
      | exact q_i (by unfold vWay; rw [if_pos (by omega)]) (hQ σ3 ((hf1.tr hf2).tr (hF3.m (by decide))) (hr2.f1 hF3 (by decide)).1)
set_option maxRecDepth 20000 in
theorem l4_next {d : Nat} {σ : aS} {Q : aQ} {g : aG} {a b : Int} (he : gOf σ = g) (hg : GV g) (ha : 0 ≤ a ∧ a < ggn g) (hfar : FarOk g b (σ.1 23)) (hpos : 0 < wayv g a b) : ∀ (r : Nat) (k : Nat) (x : Int) (u5 u6 : Option aV), k + r = 4 → x = nxN g a b k → Q (some (vi (nxv g a b))) σ → Wp RX4 cX4_nextOf 34 (aCall 34 (d + 4)) Q 0 false 0 (fun _ => 0) 10 [some (vr 18), some (vi a), some (vi b), some (vi x), some (vi k), u5, u6] [] σ := by
  intro r
  induction r with
  | zero =>
    intro k x u5 u6 hk hb hQ
    have hn4 := gn_g he
    have hn35 := hg.2.1
    have hva := far_v hfar ha.1 ha.2
    refine wp_iload dX4_nextOf_10 rfl ?_
    refine wp_iconst dX4_nextOf_12 (by decide) ?_
    refine wp_ic_ge 122 dX4_nextOf_13 (by decide) (fun hh13 => ?_) (fun hh13 => ?_)
    · refine wp_iload_n dX4_nextOf_122 rfl ?_
      refine wp_iret dX4_nextOf_123 (Or.inl rfl) ?_
      have e : k = 4 := by omega
      subst e
      exact q_i (by unfold nxv; rw [if_pos hpos]; exact hb) hQ
    · exact absurd hk (by omega)
  | succ r ih =>
    intro k x u5 u6 hk hb hQ
    have hn4 := gn_g he
    have hn35 := hg.2.1
    have hva := far_v hfar ha.1 ha.2
    refine wp_iload dX4_nextOf_10 rfl ?_
    refine wp_iconst dX4_nextOf_12 (by decide) ?_
    refine wp_ic_ge 122 dX4_nextOf_13 (by decide) (fun hh13 => ?_) (fun hh13 => ?_)
    · exact absurd hk (by omega)
    · refine wp_aload_n dX4_nextOf_16 rfl ?_
      refine wp_getR dX4_nextOf_17 flX4_22 (by decide) rfl rfl ?_
      refine wp_iload_n dX4_nextOf_20 rfl ?_
      refine wp_iaload dX4_nextOf_21 (by decide) rfl (by omega) (by omega) (by decide) ?_
      refine wp_if_le 122 dX4_nextOf_22 (by decide) (fun hh22 => ?_) (fun hh22 => ?_)
      · exact absurd hpos (by omega)
      · refine wp_aload_n dX4_nextOf_25 rfl ?_
        refine wp_getR dX4_nextOf_26 flX4_22 (by decide) rfl rfl ?_
        refine wp_iload_n dX4_nextOf_29 rfl ?_
        refine wp_iaload dX4_nextOf_30 (by decide) rfl (by omega) (by omega) (by decide) ?_
        refine wp_ldc dX4_nextOf_31 klX4_142 ?_
        refine wp_ic_ge 122 dX4_nextOf_33 (by decide) (fun hh33 => ?_) (fun hh33 => ?_)
        · exact absurd hpos (by omega)
        · refine wp_aload_n dX4_nextOf_36 rfl ?_
          refine wp_iload_n dX4_nextOf_37 rfl ?_
          refine wp_iload dX4_nextOf_38 rfl ?_
          refine wp_V2 dX4_nextOf_40 vlX4_143 (by decide) rfl (Nat.le_of_ble_eq_true rfl) ?_
          refine s4_cost_g he hg (by omega) (by omega) ?_
          refine wp_ist (L' := [some (vr _), some (vi _), some (vi _), some (vi _), some (vi _), some (vi _), _]) dX4_nextOf_43 (Nat.le_of_ble_eq_true rfl) rfl ?_
          refine wp_iload dX4_nextOf_45 rfl ?_
          refine wp_ldc dX4_nextOf_47 klX4_142 ?_
          refine wp_ic_ge 80 dX4_nextOf_49 (by decide) (fun hh49 => ?_) (fun hh49 => ?_)
          · refine wp_iconst dX4_nextOf_80 (by decide) ?_
            refine wp_ist (L' := [some (vr _), some (vi _), some (vi _), some (vi _), some (vi _), some (vi _), some (vi _)]) dX4_nextOf_81 (Nat.le_of_ble_eq_true rfl) rfl ?_
            refine wp_iload dX4_nextOf_83 rfl ?_
            refine wp_if_eq 114 dX4_nextOf_85 (by decide) (fun hh85 => ?_) (fun hh85 => ?_)
            · refine wp_iload_n dX4_nextOf_114 rfl ?_
              refine wp_istN (L' := [some (vr _), some (vi _), some (vi _), some (vi _), some (vi _), some (vi _), some (vi _)]) dX4_nextOf_115 (Nat.le_of_ble_eq_true rfl) rfl ?_
              refine wp_iincN (L' := [some (vr _), some (vi _), some (vi _), some (vi _), some (vi _), some (vi _), some (vi _)]) dX4_nextOf_116 rfl (by omega) rfl ?_
              refine wp_gotoN 10 dX4_nextOf_119 (by decide) ?_
              exact ih (k + 1) _ _ _ (by omega) (by show _ = cif _ _ _; rw [cif_f (fun q => by have h1 := q.1.1; omega)]; exact hb) hQ
            · exact absurd hh85 (by decide)
          · have hh49 : cst g a k < 1000000 := by omega
            have hco := cst_ok hg hh49
            have hto := opn_g hg hco.2.2
            have hvt := far_v hfar hto.1 hto.2.1
            refine wp_iload dX4_nextOf_52 rfl ?_
            refine wp_aload_n dX4_nextOf_54 rfl ?_
            refine wp_getR dX4_nextOf_55 flX4_22 (by decide) rfl rfl ?_
            refine wp_aload_n dX4_nextOf_58 rfl ?_
            refine wp_iload_n dX4_nextOf_59 rfl ?_
            refine wp_iload dX4_nextOf_60 rfl ?_
            refine wp_V2 dX4_nextOf_62 vlX4_139 (by decide) rfl (Nat.le_of_ble_eq_true rfl) ?_
            refine s4_target_g he hg (by omega) (by omega) (by omega) ?_
            refine wp_iaload dX4_nextOf_65 (by decide) rfl (by omega) (by omega) (by decide) ?_
            refine wp_iaddN dX4_nextOf_66 (by omega) ?_
            refine wp_aload_n dX4_nextOf_67 rfl ?_
            refine wp_getR dX4_nextOf_68 flX4_22 (by decide) rfl rfl ?_
            refine wp_iload_n dX4_nextOf_71 rfl ?_
            refine wp_iaload dX4_nextOf_72 (by decide) rfl (by omega) (by omega) (by decide) ?_
            refine wp_ic_ne 80 dX4_nextOf_73 (by decide) (fun hh73 => ?_) (fun hh73 => ?_)
            · refine wp_iconst dX4_nextOf_80 (by decide) ?_
              refine wp_ist (L' := [some (vr _), some (vi _), some (vi _), some (vi _), some (vi _), some (vi _), some (vi _)]) dX4_nextOf_81 (Nat.le_of_ble_eq_true rfl) rfl ?_
              refine wp_iload dX4_nextOf_83 rfl ?_
              refine wp_if_eq 114 dX4_nextOf_85 (by decide) (fun hh85 => ?_) (fun hh85 => ?_)
              · refine wp_iload_n dX4_nextOf_114 rfl ?_
                refine wp_istN (L' := [some (vr _), some (vi _), some (vi _), some (vi _), some (vi _), some (vi _), some (vi _)]) dX4_nextOf_115 (Nat.le_of_ble_eq_true rfl) rfl ?_
                refine wp_iincN (L' := [some (vr _), some (vi _), some (vi _), some (vi _), some (vi _), some (vi _), some (vi _)]) dX4_nextOf_116 rfl (by omega) rfl ?_
                refine wp_gotoN 10 dX4_nextOf_119 (by decide) ?_
                exact ih (k + 1) _ _ _ (by omega) (by show _ = cif _ _ _; rw [cif_f (fun q => by have h1 := q.1.2.2; have h2 := q.1.2.1; omega)]; exact hb) hQ
              · exact absurd hh85 (by decide)
            · have hnx : nxP g a b k := ⟨hh49, by omega, by omega⟩
              refine wp_iconst dX4_nextOf_76 (by decide) ?_
              refine wp_gotoN 81 dX4_nextOf_77 (by decide) ?_
              refine wp_ist (L' := [some (vr _), some (vi _), some (vi _), some (vi _), some (vi _), some (vi _), some (vi _)]) dX4_nextOf_81 (Nat.le_of_ble_eq_true rfl) rfl ?_
              refine wp_iload dX4_nextOf_83 rfl ?_
              refine wp_if_eq 114 dX4_nextOf_85 (by decide) (fun hh85 => ?_) (fun hh85 => ?_)
              · exact absurd hh85 (by decide)
              · refine wp_iload_n dX4_nextOf_88 rfl ?_
                refine wp_iconst dX4_nextOf_89 (by decide) ?_
                refine wp_ic_eq 104 dX4_nextOf_90 (by decide) (fun hh90 => ?_) (fun hh90 => ?_)
                · refine wp_aload_n dX4_nextOf_104 rfl ?_
                  refine wp_iload_n dX4_nextOf_105 rfl ?_
                  refine wp_iload dX4_nextOf_106 rfl ?_
                  refine wp_V2 dX4_nextOf_108 vlX4_139 (by decide) rfl (Nat.le_of_ble_eq_true rfl) ?_
                  refine s4_target_g he hg (by omega) (by omega) (by omega) ?_
                  refine wp_gotoN 115 dX4_nextOf_111 (by decide) ?_
                  refine wp_istN (L' := [some (vr _), some (vi _), some (vi _), some (vi _), some (vi _), some (vi _), some (vi _)]) dX4_nextOf_115 (Nat.le_of_ble_eq_true rfl) rfl ?_
                  refine wp_iincN (L' := [some (vr _), some (vi _), some (vi _), some (vi _), some (vi _), some (vi _), some (vi _)]) dX4_nextOf_116 rfl (by omega) rfl ?_
                  refine wp_gotoN 10 dX4_nextOf_119 (by decide) ?_
                  exact ih (k + 1) _ _ _ (by omega) (by show _ = cif _ _ _; rw [cif_t ⟨hnx, Or.inl (by omega)⟩]) hQ
                · refine wp_aload_n dX4_nextOf_93 rfl ?_
                  refine wp_iload_n dX4_nextOf_94 rfl ?_
                  refine wp_iload dX4_nextOf_95 rfl ?_
                  refine wp_V2 dX4_nextOf_97 vlX4_139 (by decide) rfl (Nat.le_of_ble_eq_true rfl) ?_
                  refine s4_target_g he hg (by omega) (by omega) (by omega) ?_
                  refine wp_iload_n dX4_nextOf_100 rfl ?_
                  refine wp_ic_ge 114 dX4_nextOf_101 (by decide) (fun hh101 => ?_) (fun hh101 => ?_)
                  · refine wp_iload_n dX4_nextOf_114 rfl ?_
                    refine wp_istN (L' := [some (vr _), some (vi _), some (vi _), some (vi _), some (vi _), some (vi _), some (vi _)]) dX4_nextOf_115 (Nat.le_of_ble_eq_true rfl) rfl ?_
                    refine wp_iincN (L' := [some (vr _), some (vi _), some (vi _), some (vi _), some (vi _), some (vi _), some (vi _)]) dX4_nextOf_116 rfl (by omega) rfl ?_
                    refine wp_gotoN 10 dX4_nextOf_119 (by decide) ?_
                    exact ih (k + 1) _ _ _ (by omega) (by show _ = cif _ _ _; rw [cif_f (fun q => q.2.elim (fun w => by omega) (fun w => by omega))]; exact hb) hQ
                  · refine wp_aload_n dX4_nextOf_104 rfl ?_
                    refine wp_iload_n dX4_nextOf_105 rfl ?_
                    refine wp_iload dX4_nextOf_106 rfl ?_
                    refine wp_V2 dX4_nextOf_108 vlX4_139 (by decide) rfl (Nat.le_of_ble_eq_true rfl) ?_
                    refine s4_target_g he hg (by omega) (by omega) (by omega) ?_
                    refine wp_gotoN 115 dX4_nextOf_111 (by decide) ?_
                    refine wp_istN (L' := [some (vr _), some (vi _), some (vi _), some (vi _), some (vi _), some (vi _), some (vi _)]) dX4_nextOf_115 (Nat.le_of_ble_eq_true rfl) rfl ?_
                    refine wp_iincN (L' := [some (vr _), some (vi _), some (vi _), some (vi _), some (vi _), some (vi _), some (vi _)]) dX4_nextOf_116 rfl (by omega) rfl ?_
                    refine wp_gotoN 10 dX4_nextOf_119 (by decide) ?_
                    exact ih (k + 1) _ _ _ (by omega) (by show _ = cif _ _ _; rw [cif_t ⟨hnx, Or.inr (by omega)⟩]) hQ
set_option maxRecDepth 20000 in
theorem s4_nextOf {d : Nat} {σ : aS} {Q : aQ} {a b : Int} {g : aG} (he : gOf σ = g) (hg : GV g) (ha : 0 ≤ a ∧ a < ggn g) (hQ : ∀ σq, F1 23 σ σq → Q (some (vi (nxv g a b))) σq) : aCall 34 (d + 6) mX4_nextOf [vr 18, vi a, vi b] σ Q := by
  refine cl_in (own := RX4) (cc := cX4_nextOf) (rk := 0) (L := [some (vr 18), some (vi a), some (vi b), none, none, none, none]) rfl rfl rfl rfl (by decide) (Nat.le_of_ble_eq_true rfl) ?_
  refine wp_aload_n dX4_nextOf_0 rfl ?_
  refine wp_iload_n dX4_nextOf_1 rfl ?_
  refine wp_V1 dX4_nextOf_2 vlX4_146 (by decide) rfl (Nat.le_of_ble_eq_true rfl) ?_
  refine s4_laysFar he hg (fun σ2 hF2 hfar => ?_)
  have he2 := hF2.g (by decide) he
  have hn2 := gn_g he2
  have hn35 := hg.2.1
  have hv := far_v hfar ha.1 ha.2
  refine wp_iconst dX4_nextOf_5 (by decide) ?_
  refine wp_istN (L' := [some (vr _), some (vi _), some (vi _), some (vi _), none, none, none]) dX4_nextOf_6 (Nat.le_of_ble_eq_true rfl) rfl ?_
  refine wp_iconst dX4_nextOf_7 (by decide) ?_
  refine wp_ist (L' := [some (vr _), some (vi _), some (vi _), some (vi _), some (vi _), none, none]) dX4_nextOf_8 (Nat.le_of_ble_eq_true rfl) rfl ?_
  by_cases hpos : 0 < wayv g a b
  · exact l4_next he2 hg ha hfar hpos 4 0 _ _ _ (by omega) rfl (hQ σ2 hF2)
  · refine wp_iload dX4_nextOf_10 rfl ?_
    refine wp_iconst dX4_nextOf_12 (by decide) ?_
    refine wp_ic_ge 122 dX4_nextOf_13 (by decide) (fun hh13 => ?_) (fun hh13 => ?_)
    · refine wp_iload_n dX4_nextOf_122 rfl ?_
      refine wp_iret dX4_nextOf_123 (Or.inl rfl) ?_
      exact q_i (by unfold nxv; rw [if_neg hpos]) (hQ σ2 hF2)
    · refine wp_aload_n dX4_nextOf_16 rfl ?_
      refine wp_getR dX4_nextOf_17 flX4_22 (by decide) rfl rfl ?_
      refine wp_iload_n dX4_nextOf_20 rfl ?_
      refine wp_iaload dX4_nextOf_21 (by decide) rfl (by omega) (by omega) (by decide) ?_
      refine wp_if_le 122 dX4_nextOf_22 (by decide) (fun hh22 => ?_) (fun hh22 => ?_)
      · refine wp_iload_n dX4_nextOf_122 rfl ?_
        refine wp_iret dX4_nextOf_123 (Or.inl rfl) ?_
        exact q_i (by unfold nxv; rw [if_neg hpos]) (hQ σ2 hF2)
      · refine wp_aload_n dX4_nextOf_25 rfl ?_
        refine wp_getR dX4_nextOf_26 flX4_22 (by decide) rfl rfl ?_
        refine wp_iload_n dX4_nextOf_29 rfl ?_
        refine wp_iaload dX4_nextOf_30 (by decide) rfl (by omega) (by omega) (by decide) ?_
        refine wp_ldc dX4_nextOf_31 klX4_142 ?_
        refine wp_ic_ge 122 dX4_nextOf_33 (by decide) (fun hh33 => ?_) (fun hh33 => ?_)
        · refine wp_iload_n dX4_nextOf_122 rfl ?_
          refine wp_iret dX4_nextOf_123 (Or.inl rfl) ?_
          exact q_i (by unfold nxv; rw [if_neg hpos]) (hQ σ2 hF2)
        · exact absurd hpos (by omega)
set_option maxRecDepth 20000 in
theorem p4_next {d : Nat} {σ : aS} {Q : aQ} {a b : Int} {z : aZ} (hm : MI σ z) (hz : ZV z) (hQ : ∀ σ', Frm σ σ' → MI σ' z → Q (some (vi (vNext z a b))) σ') : aCall 34 (d + 7) mX4_next [vr 18, vi a, vi b] σ Q := by
  refine cl_in (own := RX4) (cc := cX4_next) (rk := 0) (L := [some (vr 18), some (vi a), some (vi b)]) rfl rfl rfl rfl (by decide) (Nat.le_of_ble_eq_true rfl) ?_
  refine wp_aload_n dX4_next_0 rfl ?_
  refine wp_iload_n dX4_next_1 rfl ?_
  refine wp_V1 dX4_next_2 vlX4_102 (by decide) rfl (Nat.le_of_ble_eq_true rfl) ?_
  refine s4_isCell hm hz (fun σ1 hf1 hr1 => ?_)
  refine wp_ifB_eq 25 dX4_next_5 (by decide) (fun hh5 => ?_) (fun hh5 => ?_)
  · refine wp_bipush dX4_next_25 (by decide) ?_
    refine wp_iret dX4_next_27 (Or.inl rfl) ?_
    first
    | exact q_i (by unfold vNext; rw [if_neg (by omega)]) (hQ σ1 hf1 hr1.1)
    | exact q_i (by unfold vNext; rw [if_neg (by omega)]) (hQ σ2 (hf1.tr hf2) hr2.1)
    | exact q_i (by unfold vNext; rw [if_pos (by omega)]) (hQ σ3 ((hf1.tr hf2).tr (hF3.m (by decide))) (hr2.f1 hF3 (by decide)).1)
  · refine wp_aload_n dX4_next_8 rfl ?_
    refine wp_iload_n dX4_next_9 rfl ?_
    refine wp_V1 dX4_next_10 vlX4_102 (by decide) rfl (Nat.le_of_ble_eq_true rfl) ?_
    refine s4_isCell hr1.1 hz (fun σ2 hf2 hr2 => ?_)
    refine wp_ifB_eq 25 dX4_next_13 (by decide) (fun hh13 => ?_) (fun hh13 => ?_)
    · refine wp_bipush dX4_next_25 (by decide) ?_
      refine wp_iret dX4_next_27 (Or.inl rfl) ?_
      first
      | exact q_i (by unfold vNext; rw [if_neg (by omega)]) (hQ σ1 hf1 hr1.1)
      | exact q_i (by unfold vNext; rw [if_neg (by omega)]) (hQ σ2 (hf1.tr hf2) hr2.1)
      | exact q_i (by unfold vNext; rw [if_pos (by omega)]) (hQ σ3 ((hf1.tr hf2).tr (hF3.m (by decide))) (hr2.f1 hF3 (by decide)).1)
    · refine wp_aload_n dX4_next_16 rfl ?_
      refine wp_iload_n dX4_next_17 rfl ?_
      refine wp_iload_n dX4_next_18 rfl ?_
      refine wp_V2 dX4_next_19 vlX4_153 (by decide) rfl (Nat.le_of_ble_eq_true rfl) ?_
      refine s4_nextOf hr2.2.2.1 (Gz_ok hz) (by omega) (fun σ3 hF3 => ?_)
      refine wp_gotoN 27 dX4_next_22 (by decide) ?_
      refine wp_iret dX4_next_27 (Or.inl rfl) ?_
      first
      | exact q_i (by unfold vNext; rw [if_neg (by omega)]) (hQ σ1 hf1 hr1.1)
      | exact q_i (by unfold vNext; rw [if_neg (by omega)]) (hQ σ2 (hf1.tr hf2) hr2.1)
      | exact q_i (by unfold vNext; rw [if_pos (by omega)]) (hQ σ3 ((hf1.tr hf2).tr (hF3.m (by decide))) (hr2.f1 hF3 (by decide)).1)
set_option maxRecDepth 20000 in
theorem s4_raceOf {d : Nat} {σ : aS} {Q : aQ} {a b t : Int} {g : aG} (he : gOf σ = g) (hg : GV g) (ha : 0 ≤ a ∧ a < ggn g) (hb : 0 ≤ b ∧ b < ggn g) (hQ : ∀ σq, F1 23 σ σq → Q (some (vi (rcv g a b t))) σq) : aCall 34 (d + 6) mX4_raceOf [vr 18, vi a, vi b, vi t] σ Q := by
  refine cl_in (own := RX4) (cc := cX4_raceOf) (rk := 0) (L := [some (vr 18), some (vi a), some (vi b), some (vi t)]) rfl rfl rfl rfl (by decide) (Nat.le_of_ble_eq_true rfl) ?_
  refine wp_aload_n dX4_raceOf_0 rfl ?_
  refine wp_iload_n dX4_raceOf_1 rfl ?_
  refine wp_V1 dX4_raceOf_2 vlX4_146 (by decide) rfl (Nat.le_of_ble_eq_true rfl) ?_
  refine s4_laysFar he hg (fun σ2 hF2 hfar => ?_)
  have he2 := hF2.g (by decide) he
  have hn2 := gn_g he2
  have hn35 := hg.2.1
  have hv1 := far_v hfar ha.1 ha.2
  have hv2 := far_v hfar hb.1 hb.2
  refine wp_aload_n dX4_raceOf_5 rfl ?_
  refine wp_getR dX4_raceOf_6 flX4_22 (by decide) rfl rfl ?_
  refine wp_iload_n dX4_raceOf_9 rfl ?_
  refine wp_iaload dX4_raceOf_10 (by decide) rfl (by omega) (by omega) (by decide) ?_
  refine wp_ldc dX4_raceOf_11 klX4_142 ?_
  refine wp_ic_ne 31 dX4_raceOf_13 (by decide) (fun hh13 => ?_) (fun hh13 => ?_)
  · refine wp_aload_n dX4_raceOf_31 rfl ?_
    refine wp_getR dX4_raceOf_32 flX4_22 (by decide) rfl rfl ?_
    refine wp_iload_n dX4_raceOf_35 rfl ?_
    refine wp_iaload dX4_raceOf_36 (by decide) rfl (by omega) (by omega) (by decide) ?_
    refine wp_aload_n dX4_raceOf_37 rfl ?_
    refine wp_getR dX4_raceOf_38 flX4_22 (by decide) rfl rfl ?_
    refine wp_iload_n dX4_raceOf_41 rfl ?_
    refine wp_iaload dX4_raceOf_42 (by decide) rfl (by omega) (by omega) (by decide) ?_
    refine wp_ic_ge 50 dX4_raceOf_43 (by decide) (fun hh43 => ?_) (fun hh43 => ?_)
    · refine wp_aload_n dX4_raceOf_50 rfl ?_
      refine wp_getR dX4_raceOf_51 flX4_22 (by decide) rfl rfl ?_
      refine wp_iload_n dX4_raceOf_54 rfl ?_
      refine wp_iaload dX4_raceOf_55 (by decide) rfl (by omega) (by omega) (by decide) ?_
      refine wp_aload_n dX4_raceOf_56 rfl ?_
      refine wp_getR dX4_raceOf_57 flX4_22 (by decide) rfl rfl ?_
      refine wp_iload_n dX4_raceOf_60 rfl ?_
      refine wp_iaload dX4_raceOf_61 (by decide) rfl (by omega) (by omega) (by decide) ?_
      refine wp_ic_le 69 dX4_raceOf_62 (by decide) (fun hh62 => ?_) (fun hh62 => ?_)
      · refine wp_iconst dX4_raceOf_69 (by decide) ?_
        refine wp_iret dX4_raceOf_70 (Or.inl rfl) ?_
        first
        | (exfalso; omega)
        | exact q_i (by unfold rcv; repeat (first | rw [if_pos (by omega)] | rw [if_neg (by omega)])) (hQ σ2 hF2)
      · refine wp_iconst dX4_raceOf_65 (by decide) ?_
        refine wp_gotoN 70 dX4_raceOf_66 (by decide) ?_
        refine wp_iret dX4_raceOf_70 (Or.inl rfl) ?_
        first
        | (exfalso; omega)
        | exact q_i (by unfold rcv; repeat (first | rw [if_pos (by omega)] | rw [if_neg (by omega)])) (hQ σ2 hF2)
    · refine wp_iconst dX4_raceOf_46 (by decide) ?_
      refine wp_gotoN 70 dX4_raceOf_47 (by decide) ?_
      refine wp_iret dX4_raceOf_70 (Or.inl rfl) ?_
      first
      | (exfalso; omega)
      | exact q_i (by unfold rcv; repeat (first | rw [if_pos (by omega)] | rw [if_neg (by omega)])) (hQ σ2 hF2)
  · refine wp_aload_n dX4_raceOf_16 rfl ?_
    refine wp_getR dX4_raceOf_17 flX4_22 (by decide) rfl rfl ?_
    refine wp_iload_n dX4_raceOf_20 rfl ?_
    refine wp_iaload dX4_raceOf_21 (by decide) rfl (by omega) (by omega) (by decide) ?_
    refine wp_ldc dX4_raceOf_22 klX4_142 ?_
    refine wp_ic_ne 31 dX4_raceOf_24 (by decide) (fun hh24 => ?_) (fun hh24 => ?_)
    · refine wp_aload_n dX4_raceOf_31 rfl ?_
      refine wp_getR dX4_raceOf_32 flX4_22 (by decide) rfl rfl ?_
      refine wp_iload_n dX4_raceOf_35 rfl ?_
      refine wp_iaload dX4_raceOf_36 (by decide) rfl (by omega) (by omega) (by decide) ?_
      refine wp_aload_n dX4_raceOf_37 rfl ?_
      refine wp_getR dX4_raceOf_38 flX4_22 (by decide) rfl rfl ?_
      refine wp_iload_n dX4_raceOf_41 rfl ?_
      refine wp_iaload dX4_raceOf_42 (by decide) rfl (by omega) (by omega) (by decide) ?_
      refine wp_ic_ge 50 dX4_raceOf_43 (by decide) (fun hh43 => ?_) (fun hh43 => ?_)
      · refine wp_aload_n dX4_raceOf_50 rfl ?_
        refine wp_getR dX4_raceOf_51 flX4_22 (by decide) rfl rfl ?_
        refine wp_iload_n dX4_raceOf_54 rfl ?_
        refine wp_iaload dX4_raceOf_55 (by decide) rfl (by omega) (by omega) (by decide) ?_
        refine wp_aload_n dX4_raceOf_56 rfl ?_
        refine wp_getR dX4_raceOf_57 flX4_22 (by decide) rfl rfl ?_
        refine wp_iload_n dX4_raceOf_60 rfl ?_
        refine wp_iaload dX4_raceOf_61 (by decide) rfl (by omega) (by omega) (by decide) ?_
        refine wp_ic_le 69 dX4_raceOf_62 (by decide) (fun hh62 => ?_) (fun hh62 => ?_)
        · refine wp_iconst dX4_raceOf_69 (by decide) ?_
          refine wp_iret dX4_raceOf_70 (Or.inl rfl) ?_
          first
          | (exfalso; omega)
          | exact q_i (by unfold rcv; repeat (first | rw [if_pos (by omega)] | rw [if_neg (by omega)])) (hQ σ2 hF2)
        · refine wp_iconst dX4_raceOf_65 (by decide) ?_
          refine wp_gotoN 70 dX4_raceOf_66 (by decide) ?_
          refine wp_iret dX4_raceOf_70 (Or.inl rfl) ?_
          first
          | (exfalso; omega)
          | exact q_i (by unfold rcv; repeat (first | rw [if_pos (by omega)] | rw [if_neg (by omega)])) (hQ σ2 hF2)
      · refine wp_iconst dX4_raceOf_46 (by decide) ?_
        refine wp_gotoN 70 dX4_raceOf_47 (by decide) ?_
        refine wp_iret dX4_raceOf_70 (Or.inl rfl) ?_
        first
        | (exfalso; omega)
        | exact q_i (by unfold rcv; repeat (first | rw [if_pos (by omega)] | rw [if_neg (by omega)])) (hQ σ2 hF2)
    · refine wp_iconst dX4_raceOf_27 (by decide) ?_
      refine wp_gotoN 70 dX4_raceOf_28 (by decide) ?_
      refine wp_iret dX4_raceOf_70 (Or.inl rfl) ?_
      first
      | (exfalso; omega)
      | exact q_i (by unfold rcv; repeat (first | rw [if_pos (by omega)] | rw [if_neg (by omega)])) (hQ σ2 hF2)
set_option maxRecDepth 20000 in
theorem p4_race {d : Nat} {σ : aS} {Q : aQ} {a b t : Int} {z : aZ} (hm : MI σ z) (hz : ZV z) (hQ : ∀ σ', Frm σ σ' → MI σ' z → Q (some (vi (vRace z a b t))) σ') : aCall 34 (d + 7) mX4_race [vr 18, vi a, vi b, vi t] σ Q := by
  refine cl_in (own := RX4) (cc := cX4_race) (rk := 0) (L := [some (vr 18), some (vi a), some (vi b), some (vi t)]) rfl rfl rfl rfl (by decide) (Nat.le_of_ble_eq_true rfl) ?_
  refine wp_aload_n dX4_race_0 rfl ?_
  refine wp_iload_n dX4_race_1 rfl ?_
  refine wp_V1 dX4_race_2 vlX4_102 (by decide) rfl (Nat.le_of_ble_eq_true rfl) ?_
  refine s4_isCell hm hz (fun σ1 hf1 hr1 => ?_)
  refine wp_ifB_eq 34 dX4_race_5 (by decide) (fun hh5 => ?_) (fun hh5 => ?_)
  · refine wp_bipush dX4_race_34 (by decide) ?_
    refine wp_iret dX4_race_36 (Or.inl rfl) ?_
    first
    | exact q_i (by unfold vRace; rw [if_neg (by omega)]) (hQ σ1 hf1 hr1.1)
    | exact q_i (by unfold vRace; rw [if_neg (by omega)]) (hQ σ2 (hf1.tr hf2) hr2.1)
    | exact q_i (by unfold vRace; rw [if_neg (by omega)]) (hQ σ3 ((hf1.tr hf2).tr hf3) hr3.1)
    | exact q_i (by unfold vRace; rw [if_pos (by omega)]) (hQ σ4 (((hf1.tr hf2).tr hf3).tr (hF4.m (by decide))) (hr3.f1 hF4 (by decide)).1)
  · refine wp_aload_n dX4_race_8 rfl ?_
    refine wp_iload_n dX4_race_9 rfl ?_
    refine wp_V1 dX4_race_10 vlX4_102 (by decide) rfl (Nat.le_of_ble_eq_true rfl) ?_
    refine s4_isCell hr1.1 hz (fun σ2 hf2 hr2 => ?_)
    refine wp_ifB_eq 34 dX4_race_13 (by decide) (fun hh13 => ?_) (fun hh13 => ?_)
    · refine wp_bipush dX4_race_34 (by decide) ?_
      refine wp_iret dX4_race_36 (Or.inl rfl) ?_
      first
      | exact q_i (by unfold vRace; rw [if_neg (by omega)]) (hQ σ1 hf1 hr1.1)
      | exact q_i (by unfold vRace; rw [if_neg (by omega)]) (hQ σ2 (hf1.tr hf2) hr2.1)
      | exact q_i (by unfold vRace; rw [if_neg (by omega)]) (hQ σ3 ((hf1.tr hf2).tr hf3) hr3.1)
      | exact q_i (by unfold vRace; rw [if_pos (by omega)]) (hQ σ4 (((hf1.tr hf2).tr hf3).tr (hF4.m (by decide))) (hr3.f1 hF4 (by decide)).1)
    · refine wp_aload_n dX4_race_16 rfl ?_
      refine wp_iload_n dX4_race_17 rfl ?_
      refine wp_V1 dX4_race_18 vlX4_102 (by decide) rfl (Nat.le_of_ble_eq_true rfl) ?_
      refine s4_isCell hr2.1 hz (fun σ3 hf3 hr3 => ?_)
      refine wp_ifB_eq 34 dX4_race_21 (by decide) (fun hh21 => ?_) (fun hh21 => ?_)
      · refine wp_bipush dX4_race_34 (by decide) ?_
        refine wp_iret dX4_race_36 (Or.inl rfl) ?_
        first
        | exact q_i (by unfold vRace; rw [if_neg (by omega)]) (hQ σ1 hf1 hr1.1)
        | exact q_i (by unfold vRace; rw [if_neg (by omega)]) (hQ σ2 (hf1.tr hf2) hr2.1)
        | exact q_i (by unfold vRace; rw [if_neg (by omega)]) (hQ σ3 ((hf1.tr hf2).tr hf3) hr3.1)
        | exact q_i (by unfold vRace; rw [if_pos (by omega)]) (hQ σ4 (((hf1.tr hf2).tr hf3).tr (hF4.m (by decide))) (hr3.f1 hF4 (by decide)).1)
      · refine wp_aload_n dX4_race_24 rfl ?_
        refine wp_iload_n dX4_race_25 rfl ?_
        refine wp_iload_n dX4_race_26 rfl ?_
        refine wp_iload_n dX4_race_27 rfl ?_
        refine wp_V3 dX4_race_28 vlX4_156 (by decide) rfl (Nat.le_of_ble_eq_true rfl) ?_
        refine s4_raceOf hr3.2.2.1 (Gz_ok hz) (by omega) (by omega) (fun σ4 hF4 => ?_)
        refine wp_gotoN 36 dX4_race_31 (by decide) ?_
        refine wp_iret dX4_race_36 (Or.inl rfl) ?_
        first
        | exact q_i (by unfold vRace; rw [if_neg (by omega)]) (hQ σ1 hf1 hr1.1)
        | exact q_i (by unfold vRace; rw [if_neg (by omega)]) (hQ σ2 (hf1.tr hf2) hr2.1)
        | exact q_i (by unfold vRace; rw [if_neg (by omega)]) (hQ σ3 ((hf1.tr hf2).tr hf3) hr3.1)
        | exact q_i (by unfold vRace; rw [if_pos (by omega)]) (hQ σ4 (((hf1.tr hf2).tr hf3).tr (hF4.m (by decide))) (hr3.f1 hF4 (by decide)).1)
set_option maxRecDepth 20000 in
theorem s4_wetOf {d : Nat} {σ : aS} {Q : aQ} {c : Int} {g : aG} (he : gOf σ = g) (hg : GV g) (hc : 0 ≤ c ∧ c < ggn g) (hQ : ∀ σq, F1 25 σ σq → Q (some (vi (wtv g c))) σq) : aCall 34 (d + 4) mX4_wetOf [vr 18, vi c] σ Q := by
  refine cl_in (own := RX4) (cc := cX4_wetOf) (rk := 0) (L := [some (vr 18), some (vi c)]) rfl rfl rfl rfl (by decide) (Nat.le_of_ble_eq_true rfl) ?_
  refine wp_aload_n dX4_wetOf_0 rfl ?_
  refine wp_iconst dX4_wetOf_1 (by decide) ?_
  refine wp_V1 dX4_wetOf_2 vlX4_167 (by decide) rfl (Nat.le_of_ble_eq_true rfl) ?_
  refine s4_flows he hg (fun σ2 hF2 hwet => ?_)
  have hn35 := hg.2.1
  have hv := hwet c.toNat (by omega)
  rw [Int.toNat_of_nonneg hc.1] at hv
  have hv2 := bi_01 (Rch (flW g) g (spS g (-1)) c)
  refine wp_aload_n dX4_wetOf_5 rfl ?_
  refine wp_getR dX4_wetOf_6 flX4_29 (by decide) rfl rfl ?_
  refine wp_iload_n dX4_wetOf_9 rfl ?_
  refine wp_baload dX4_wetOf_10 (by decide) rfl (by omega) (by omega) (by decide) ?_
  refine wp_if_eq 18 dX4_wetOf_11 (by decide) (fun hh11 => ?_) (fun hh11 => ?_)
  · refine wp_iconst dX4_wetOf_18 (by decide) ?_
    refine wp_iret dX4_wetOf_19 (Or.inl rfl) ?_
    exact q_i (by unfold wtv; omega) (hQ σ2 hF2)
  · refine wp_iconst dX4_wetOf_14 (by decide) ?_
    refine wp_gotoN 19 dX4_wetOf_15 (by decide) ?_
    refine wp_iret dX4_wetOf_19 (Or.inl rfl) ?_
    exact q_i (by unfold wtv; omega) (hQ σ2 hF2)
set_option maxRecDepth 20000 in
theorem p4_wet {d : Nat} {σ : aS} {Q : aQ} {c : Int} {z : aZ} (hm : MI σ z) (hz : ZV z) (hQ : ∀ σ', Frm σ σ' → MI σ' z → Q (some (vi (vWet z c))) σ') : aCall 34 (d + 5) mX4_wet [vr 18, vi c] σ Q := by
  refine cl_in (own := RX4) (cc := cX4_wet) (rk := 0) (L := [some (vr 18), some (vi c)]) rfl rfl rfl rfl (by decide) (Nat.le_of_ble_eq_true rfl) ?_
  refine wp_aload_n dX4_wet_0 rfl ?_
  refine wp_iload_n dX4_wet_1 rfl ?_
  refine wp_V1 dX4_wet_2 vlX4_102 (by decide) rfl (Nat.le_of_ble_eq_true rfl) ?_
  refine s4_isCell hm hz (fun σ1 hf1 hr1 => ?_)
  refine wp_ifB_eq 16 dX4_wet_5 (by decide) (fun hh5 => ?_) (fun hh5 => ?_)
  · refine wp_bipush dX4_wet_16 (by decide) ?_
    refine wp_iret dX4_wet_18 (Or.inl rfl) ?_
    first
    | exact q_i (by unfold vWet; rw [if_neg (by omega)]) (hQ σ1 hf1 hr1.1)
    | exact q_i (by unfold vWet; rw [if_pos (by omega)]) (hQ σ2 (hf1.tr (hF2.m (by decide))) (hr1.f1 hF2 (by decide)).1)
  · refine wp_aload_n dX4_wet_8 rfl ?_
    refine wp_iload_n dX4_wet_9 rfl ?_
    refine wp_V1 dX4_wet_10 vlX4_170 (by decide) rfl (Nat.le_of_ble_eq_true rfl) ?_
    refine s4_wetOf hr1.2.2.1 (Gz_ok hz) (by omega) (fun σ2 hF2 => ?_)
    refine wp_gotoN 18 dX4_wet_13 (by decide) ?_
    refine wp_iret dX4_wet_18 (Or.inl rfl) ?_
    first
    | exact q_i (by unfold vWet; rw [if_neg (by omega)]) (hQ σ1 hf1 hr1.1)
    | exact q_i (by unfold vWet; rw [if_pos (by omega)]) (hQ σ2 (hf1.tr (hF2.m (by decide))) (hr1.f1 hF2 (by decide)).1)
