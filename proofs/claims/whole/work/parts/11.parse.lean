noncomputable def cif {α : Type} (P : Prop) (a b : α) : α := @ite α P (Classical.propDecidable P) a b
theorem cif_t {α : Type} {P : Prop} {a b : α} (h : P) : cif P a b = a := by unfold cif; rw [if_pos h]
theorem cif_f {α : Type} {P : Prop} {a b : α} (h : ¬ P) : cif P a b = b := by unfold cif; rw [if_neg h]
noncomputable def cst (g : aG) (c y : Int) : Int := cif (opn g c ∧ opn g (tgt g c y)) (cif (hld g c) (cif (y < 2) (cif (tgt g c y / ggw g = c / ggw g) 1 1000000) (cif (ggk g c ≠ 2 ∧ ggk g (tgt g c y) ≠ 2) 1000000 (cif (upp g c ↔ upp g (tgt g c y)) 1 (1 + ggt g)))) (cif (tgt g c y = blw g c) 1 1000000)) 1000000
def kOf (b : Int) : Int := if b = 35 then 0 else if b = 46 then 1 else if b = 108 then 2 else if b = 119 then 3 else -1
theorem bi_iff {P P' : Prop} (h : bi P = bi P') : P ↔ P' := ⟨fun q => bi_1.mp (h ▸ bi_t q), fun q => bi_1.mp (h.symm ▸ bi_t q)⟩
set_option maxRecDepth 20000 in
theorem s4_isHeld {d : Nat} {σ : aS} {Q : aQ} {c : Int} (hg : GV (gOf σ)) (h0 : 0 ≤ c) (h1 : c < σ.1 18 4) (hQ : Q (some (vi (bi (hld (gOf σ) c)))) σ) : aCall 34 (d + 3) mX4_isHeld [vr 18, vi c] σ Q := by
  refine cl_in (own := RX4) (cc := cX4_isHeld) (rk := 1) (L := [some (vr 18), some (vi c)]) rfl rfl rfl rfl (by decide) (Nat.le_of_ble_eq_true rfl) ?_
  have hn := GVn hg
  have hk := gk_of h0 h1
  refine wp_aload_n dX4_isHeld_0 rfl ?_
  refine wp_getR dX4_isHeld_1 flX4_13 (by decide) rfl rfl ?_
  refine wp_iload_n dX4_isHeld_4 rfl ?_
  refine wp_iaload dX4_isHeld_5 (by decide) rfl (by omega) (by omega) (by decide) ?_
  refine wp_if_eq 35 dX4_isHeld_6 (by decide) (fun h6 => ?_) (fun h6 => ?_)
  · refine wp_iconst dX4_isHeld_35 (by decide) ?_
    refine wp_iret dX4_isHeld_36 (Or.inr ⟨rfl, by decide⟩) ?_
    exact q_f (fun h => h.1 (hk.trans h6)) hQ
  · refine wp_aload_n dX4_isHeld_9 rfl ?_
    refine wp_getR dX4_isHeld_10 flX4_13 (by decide) rfl rfl ?_
    refine wp_iload_n dX4_isHeld_13 rfl ?_
    refine wp_iaload dX4_isHeld_14 (by decide) rfl (by omega) (by omega) (by decide) ?_
    refine wp_iconst dX4_isHeld_15 (by decide) ?_
    refine wp_ic_eq 31 dX4_isHeld_16 (by decide) (fun h16 => ?_) (fun h16 => ?_)
    · refine wp_iconst dX4_isHeld_31 (by decide) ?_
      refine wp_gotoN 36 dX4_isHeld_32 (by decide) ?_
      refine wp_iret dX4_isHeld_36 (Or.inr ⟨rfl, by decide⟩) ?_
      exact q_t ⟨fun h => h6 (hk.symm.trans h), Or.inl (hk.trans h16)⟩ hQ
    · refine wp_aload_n dX4_isHeld_19 rfl ?_
      refine wp_aload_n dX4_isHeld_20 rfl ?_
      refine wp_iload_n dX4_isHeld_21 rfl ?_
      refine wp_V1 dX4_isHeld_22 vlX4_96 (by decide) rfl (Nat.le_of_ble_eq_true rfl) ?_
      refine s4_below hg (by omega) (by omega) (by omega) ?_
      refine wp_V1 dX4_isHeld_25 vlX4_99 (by decide) rfl (Nat.le_of_ble_eq_true rfl) ?_
      refine s4_isOpen hg ?_
      refine wp_ifB_ne 35 dX4_isHeld_28 (by decide) (fun h28 => ?_) (fun h28 => ?_)
      · refine wp_iconst dX4_isHeld_35 (by decide) ?_
        refine wp_iret dX4_isHeld_36 (Or.inr ⟨rfl, by decide⟩) ?_
        exact q_f (fun h => h.2.elim (fun q => h16 (hk.symm.trans q)) (fun q => q h28)) hQ
      · refine wp_iconst dX4_isHeld_31 (by decide) ?_
        refine wp_gotoN 36 dX4_isHeld_32 (by decide) ?_
        refine wp_iret dX4_isHeld_36 (Or.inr ⟨rfl, by decide⟩) ?_
        exact q_t ⟨fun h => h6 (hk.symm.trans h), Or.inr h28⟩ hQ
set_option maxRecDepth 20000 in
theorem s4_target {d : Nat} {σ : aS} {Q : aQ} {c y : Int} (hg : GV (gOf σ)) (h0 : 0 ≤ c) (h1 : c ≤ 1000) (hp : 0 < σ.1 18 4) (hQ : Q (some (vi (tgt (gOf σ) c y))) σ) : aCall 34 (d + 1) mX4_target [vr 18, vi c, vi y] σ Q := by
  refine cl_in (own := RX4) (cc := cX4_target) (rk := 0) (L := [some (vr 18), some (vi c), some (vi y)]) rfl rfl rfl rfl (by decide) (Nat.le_of_ble_eq_true rfl) ?_
  have hw := GVw hg hp
  refine wp_iload_n dX4_target_0 rfl ?_
  refine wp_if_ne 23 dX4_target_1 (by decide) (fun hh1 => ?_) (fun hh1 => ?_)
  · refine wp_iload_n dX4_target_23 rfl ?_
    refine wp_iconst dX4_target_24 (by decide) ?_
    refine wp_ic_ne 53 dX4_target_25 (by decide) (fun hh25 => ?_) (fun hh25 => ?_)
    · refine wp_iload_n dX4_target_53 rfl ?_
      refine wp_iconst dX4_target_54 (by decide) ?_
      refine wp_ic_ne 67 dX4_target_55 (by decide) (fun hh55 => ?_) (fun hh55 => ?_)
      · refine wp_iload_n dX4_target_67 rfl ?_
        refine wp_aload_n dX4_target_68 rfl ?_
        refine wp_getI dX4_target_69 flX4_78 (by decide) rfl (Or.inl rfl) ?_
        refine wp_iaddN dX4_target_72 (by omega) ?_
        refine wp_iret dX4_target_73 (Or.inl rfl) ?_
        exact q_i (by unfold tgt; simp only [gw_of hp]; repeat (first | rw [if_pos (by omega)] | rw [if_neg (by omega)])) hQ
      · refine wp_iload_n dX4_target_58 rfl ?_
        refine wp_aload_n dX4_target_59 rfl ?_
        refine wp_getI dX4_target_60 flX4_78 (by decide) rfl (Or.inl rfl) ?_
        refine wp_isubN dX4_target_63 (by omega) ?_
        refine wp_gotoN 73 dX4_target_64 (by decide) ?_
        refine wp_iret dX4_target_73 (Or.inl rfl) ?_
        exact q_i (by unfold tgt; simp only [gw_of hp]; repeat (first | rw [if_pos (by omega)] | rw [if_neg (by omega)])) hQ
    · refine wp_iload_n dX4_target_28 rfl ?_
      refine wp_aload_n dX4_target_29 rfl ?_
      refine wp_getI dX4_target_30 flX4_78 (by decide) rfl (Or.inl rfl) ?_
      refine wp_irem dX4_target_33 (by omega) (by omega) ?_
      refine wp_aload_n dX4_target_34 rfl ?_
      refine wp_getI dX4_target_35 flX4_78 (by decide) rfl (Or.inl rfl) ?_
      refine wp_iconst dX4_target_38 (by decide) ?_
      refine wp_isubN dX4_target_39 (by omega) ?_
      refine wp_ic_ge 49 dX4_target_40 (by decide) (fun hh40 => ?_) (fun hh40 => ?_)
      · refine wp_iconst dX4_target_49 (by decide) ?_
        refine wp_gotoN 73 dX4_target_50 (by decide) ?_
        refine wp_iret dX4_target_73 (Or.inl rfl) ?_
        exact q_i (by unfold tgt; simp only [gw_of hp]; repeat (first | rw [if_pos (by omega)] | rw [if_neg (by omega)])) hQ
      · refine wp_iload_n dX4_target_43 rfl ?_
        refine wp_iconst dX4_target_44 (by decide) ?_
        refine wp_iaddN dX4_target_45 (by omega) ?_
        refine wp_gotoN 73 dX4_target_46 (by decide) ?_
        refine wp_iret dX4_target_73 (Or.inl rfl) ?_
        exact q_i (by unfold tgt; simp only [gw_of hp]; repeat (first | rw [if_pos (by omega)] | rw [if_neg (by omega)])) hQ
  · refine wp_iload_n dX4_target_4 rfl ?_
    refine wp_aload_n dX4_target_5 rfl ?_
    refine wp_getI dX4_target_6 flX4_78 (by decide) rfl (Or.inl rfl) ?_
    refine wp_irem dX4_target_9 (by omega) (by omega) ?_
    refine wp_if_le 19 dX4_target_10 (by decide) (fun hh10 => ?_) (fun hh10 => ?_)
    · refine wp_iconst dX4_target_19 (by decide) ?_
      refine wp_gotoN 73 dX4_target_20 (by decide) ?_
      refine wp_iret dX4_target_73 (Or.inl rfl) ?_
      exact q_i (by unfold tgt; simp only [gw_of hp]; repeat (first | rw [if_pos (by omega)] | rw [if_neg (by omega)])) hQ
    · refine wp_iload_n dX4_target_13 rfl ?_
      refine wp_iconst dX4_target_14 (by decide) ?_
      refine wp_isubN dX4_target_15 (by omega) ?_
      refine wp_gotoN 73 dX4_target_16 (by decide) ?_
      refine wp_iret dX4_target_73 (Or.inl rfl) ?_
      exact q_i (by unfold tgt; simp only [gw_of hp]; repeat (first | rw [if_pos (by omega)] | rw [if_neg (by omega)])) hQ
set_option maxRecDepth 20000 in
theorem s4_cost {d : Nat} {σ : aS} {Q : aQ} {c y : Int} (hg : GV (gOf σ)) (h0 : 0 ≤ c) (h1 : c < σ.1 18 4) (hQ : Q (some (vi (cst (gOf σ) c y))) σ) : aCall 34 (d + 4) mX4_cost [vr 18, vi c, vi y] σ Q := by
  refine cl_in (own := RX4) (cc := cX4_cost) (rk := 0) (L := [some (vr 18), some (vi c), some (vi y), none]) rfl rfl rfl rfl (by decide) (Nat.le_of_ble_eq_true rfl) ?_
  have hn := GVn hg
  have hw := GVw hg (by omega)
  have hk := gk_of h0 h1
  refine wp_aload_n dX4_cost_0 rfl ?_
  refine wp_iload_n dX4_cost_1 rfl ?_
  refine wp_iload_n dX4_cost_2 rfl ?_
  refine wp_V2 dX4_cost_3 vlX4_139 (by decide) rfl (Nat.le_of_ble_eq_true rfl) ?_
  refine s4_target hg (by omega) (by omega) (by omega) ?_
  refine wp_istN (L' := [some (vr _), some (vi _), some (vi _), some (vi _)]) dX4_cost_6 (Nat.le_of_ble_eq_true rfl) rfl ?_
  refine wp_aload_n dX4_cost_7 rfl ?_
  refine wp_iload_n dX4_cost_8 rfl ?_
  refine wp_V1 dX4_cost_9 vlX4_99 (by decide) rfl (Nat.le_of_ble_eq_true rfl) ?_
  refine s4_isOpen hg ?_
  refine wp_ifB_eq 23 dX4_cost_12 (by decide) (fun hh12 => ?_) (fun hh12 => ?_)
  · refine wp_ldc dX4_cost_23 klX4_142 ?_
    refine wp_iret dX4_cost_25 (Or.inl rfl) ?_
    exact q_i (by unfold cst; rw [cif_f (fun q => hh12 q.1)]) hQ
  · refine wp_aload_n dX4_cost_15 rfl ?_
    refine wp_iload_n dX4_cost_16 rfl ?_
    refine wp_V1 dX4_cost_17 vlX4_99 (by decide) rfl (Nat.le_of_ble_eq_true rfl) ?_
    refine s4_isOpen hg ?_
    refine wp_ifB_ne 26 dX4_cost_20 (by decide) (fun hh20 => ?_) (fun hh20 => ?_)
    · have hh2 := hh20
      obtain ⟨ho1, ho2, ho3⟩ := hh2
      have ho2 : tgt (gOf σ) c y ≤ σ.1 18 4 - 1 := ho2
      have hk2 := gk_of (σ := σ) ho1 (by omega)
      refine wp_aload_n dX4_cost_26 rfl ?_
      refine wp_iload_n dX4_cost_27 rfl ?_
      refine wp_V1 dX4_cost_28 vlX4_105 (by decide) rfl (Nat.le_of_ble_eq_true rfl) ?_
      refine s4_isHeld hg (by omega) (by omega) ?_
      refine wp_ifB_ne 50 dX4_cost_31 (by decide) (fun hh31 => ?_) (fun hh31 => ?_)
      · refine wp_iload_n dX4_cost_50 rfl ?_
        refine wp_iconst dX4_cost_51 (by decide) ?_
        
        refine wp_ic_ge 77 dX4_cost_52 (by decide) (fun hh52 => ?_) (fun hh52 => ?_)
        · have hh52 : ¬ y < 2 := by omega
          refine wp_aload_n dX4_cost_77 rfl ?_
          refine wp_getR dX4_cost_78 flX4_13 (by decide) rfl rfl ?_
          refine wp_iload_n dX4_cost_81 rfl ?_
          refine wp_iaload dX4_cost_82 (by decide) rfl (by omega) (by omega) (by decide) ?_
          refine wp_iconst dX4_cost_83 (by decide) ?_
          refine wp_ic_eq 102 dX4_cost_84 (by decide) (fun hh84 => ?_) (fun hh84 => ?_)
          · refine wp_aload_n dX4_cost_102 rfl ?_
            refine wp_iload_n dX4_cost_103 rfl ?_
            refine wp_V1 dX4_cost_104 vlX4_92 (by decide) rfl (Nat.le_of_ble_eq_true rfl) ?_
            refine s4_isUp hg (by omega) (by omega) ?_
            refine wp_aload_n dX4_cost_107 rfl ?_
            refine wp_iload_n dX4_cost_108 rfl ?_
            refine wp_V1 dX4_cost_109 vlX4_92 (by decide) rfl (Nat.le_of_ble_eq_true rfl) ?_
            refine s4_isUp hg (by omega) (by omega) ?_
            refine wp_ic_eq 124 dX4_cost_112 (by decide) (fun hh112 => ?_) (fun hh112 => ?_)
            · refine wp_iconst dX4_cost_124 (by decide) ?_
              refine wp_iret dX4_cost_125 (Or.inl rfl) ?_
              exact q_i (by unfold cst; rw [cif_t ⟨hh12, hh20⟩, cif_t hh31, cif_f hh52, cif_f (fun q => q.1 (hk.trans hh84)), cif_t (bi_iff hh112)]) hQ
            · refine wp_iconst dX4_cost_115 (by decide) ?_
              refine wp_aload_n dX4_cost_116 rfl ?_
              refine wp_getI dX4_cost_117 flX4_60 (by decide) rfl (Or.inl rfl) ?_
              refine wp_iaddN dX4_cost_120 (by omega) ?_
              refine wp_gotoN 125 dX4_cost_121 (by decide) ?_
              refine wp_iret dX4_cost_125 (Or.inl rfl) ?_
              exact q_i (by unfold cst; rw [cif_t ⟨hh12, hh20⟩, cif_t hh31, cif_f hh52, cif_f (fun q => q.1 (hk.trans hh84)), cif_f (fun q => hh112 (bi_c q))]; rfl) hQ
          · refine wp_aload_n dX4_cost_87 rfl ?_
            refine wp_getR dX4_cost_88 flX4_13 (by decide) rfl rfl ?_
            refine wp_iload_n dX4_cost_91 rfl ?_
            refine wp_iaload dX4_cost_92 (by decide) rfl (by omega) (by omega) (by decide) ?_
            refine wp_iconst dX4_cost_93 (by decide) ?_
            refine wp_ic_eq 102 dX4_cost_94 (by decide) (fun hh94 => ?_) (fun hh94 => ?_)
            · refine wp_aload_n dX4_cost_102 rfl ?_
              refine wp_iload_n dX4_cost_103 rfl ?_
              refine wp_V1 dX4_cost_104 vlX4_92 (by decide) rfl (Nat.le_of_ble_eq_true rfl) ?_
              refine s4_isUp hg (by omega) (by omega) ?_
              refine wp_aload_n dX4_cost_107 rfl ?_
              refine wp_iload_n dX4_cost_108 rfl ?_
              refine wp_V1 dX4_cost_109 vlX4_92 (by decide) rfl (Nat.le_of_ble_eq_true rfl) ?_
              refine s4_isUp hg (by omega) (by omega) ?_
              refine wp_ic_eq 124 dX4_cost_112 (by decide) (fun hh112 => ?_) (fun hh112 => ?_)
              · refine wp_iconst dX4_cost_124 (by decide) ?_
                refine wp_iret dX4_cost_125 (Or.inl rfl) ?_
                exact q_i (by unfold cst; rw [cif_t ⟨hh12, hh20⟩, cif_t hh31, cif_f hh52, cif_f (fun q => q.2 (hk2.trans hh94)), cif_t (bi_iff hh112)]) hQ
              · refine wp_iconst dX4_cost_115 (by decide) ?_
                refine wp_aload_n dX4_cost_116 rfl ?_
                refine wp_getI dX4_cost_117 flX4_60 (by decide) rfl (Or.inl rfl) ?_
                refine wp_iaddN dX4_cost_120 (by omega) ?_
                refine wp_gotoN 125 dX4_cost_121 (by decide) ?_
                refine wp_iret dX4_cost_125 (Or.inl rfl) ?_
                exact q_i (by unfold cst; rw [cif_t ⟨hh12, hh20⟩, cif_t hh31, cif_f hh52, cif_f (fun q => q.2 (hk2.trans hh94)), cif_f (fun q => hh112 (bi_c q))]; rfl) hQ
            · refine wp_ldc dX4_cost_97 klX4_142 ?_
              refine wp_gotoN 125 dX4_cost_99 (by decide) ?_
              refine wp_iret dX4_cost_125 (Or.inl rfl) ?_
              exact q_i (by unfold cst; rw [cif_t ⟨hh12, hh20⟩, cif_t hh31, cif_f hh52, cif_t ⟨fun q => hh84 (hk.symm.trans q), fun q => hh94 (hk2.symm.trans q)⟩]) hQ
        · refine wp_iload_n dX4_cost_55 rfl ?_
          refine wp_aload_n dX4_cost_56 rfl ?_
          refine wp_getI dX4_cost_57 flX4_78 (by decide) rfl (Or.inl rfl) ?_
          refine wp_idiv dX4_cost_60 (by omega) (by omega) ?_
          refine wp_iload_n dX4_cost_61 rfl ?_
          refine wp_aload_n dX4_cost_62 rfl ?_
          refine wp_getI dX4_cost_63 flX4_78 (by decide) rfl (Or.inl rfl) ?_
          refine wp_idiv dX4_cost_66 (by omega) (by omega) ?_
          refine wp_ic_ne 74 dX4_cost_67 (by decide) (fun hh67 => ?_) (fun hh67 => ?_)
          · refine wp_ldc dX4_cost_74 klX4_142 ?_
            refine wp_iret dX4_cost_76 (Or.inl rfl) ?_
            exact q_i (by unfold cst; rw [gw_of (by omega), cif_t ⟨hh12, hh20⟩, cif_t hh31, cif_t (by omega), cif_f hh67]) hQ
          · refine wp_iconst dX4_cost_70 (by decide) ?_
            refine wp_gotoN 76 dX4_cost_71 (by decide) ?_
            refine wp_iret dX4_cost_76 (Or.inl rfl) ?_
            exact q_i (by unfold cst; rw [gw_of (by omega), cif_t ⟨hh12, hh20⟩, cif_t hh31, cif_t (by omega), cif_t (by omega)]) hQ
      · refine wp_iload_n dX4_cost_34 rfl ?_
        refine wp_aload_n dX4_cost_35 rfl ?_
        refine wp_iload_n dX4_cost_36 rfl ?_
        refine wp_V1 dX4_cost_37 vlX4_96 (by decide) rfl (Nat.le_of_ble_eq_true rfl) ?_
        refine s4_below hg (by omega) (by omega) (by omega) ?_
        refine wp_ic_ne 47 dX4_cost_40 (by decide) (fun hh40 => ?_) (fun hh40 => ?_)
        · refine wp_ldc dX4_cost_47 klX4_142 ?_
          refine wp_iret dX4_cost_49 (Or.inl rfl) ?_
          exact q_i (by unfold cst; rw [cif_t ⟨hh12, hh20⟩, cif_f hh31, cif_f hh40]) hQ
        · refine wp_iconst dX4_cost_43 (by decide) ?_
          refine wp_gotoN 49 dX4_cost_44 (by decide) ?_
          refine wp_iret dX4_cost_49 (Or.inl rfl) ?_
          exact q_i (by unfold cst; rw [cif_t ⟨hh12, hh20⟩, cif_f hh31, cif_t (by omega)]) hQ
    · refine wp_ldc dX4_cost_23 klX4_142 ?_
      refine wp_iret dX4_cost_25 (Or.inl rfl) ?_
      exact q_i (by unfold cst; rw [cif_f (fun q => hh20 q.2)]) hQ
set_option maxRecDepth 20000 in
theorem s4_kindOf {d : Nat} {σ : aS} {Q : aQ} {b : Int} {NC : Nat} (hQ : Q (some (vi (kOf b))) σ) : aCall NC (d + 1) mX4_kindOf [vi b] σ Q := by
  refine cl_in (own := RX4) (cc := cX4_kindOf) (rk := 0) (L := [some (vi b)]) rfl rfl rfl rfl (by decide) (Nat.le_of_ble_eq_true rfl) ?_
  refine wp_iload_n dX4_kindOf_0 rfl ?_
  refine wp_bipush dX4_kindOf_1 (by decide) ?_
  refine wp_ic_ne 10 dX4_kindOf_3 (by decide) (fun h3 => ?_) (fun h3 => ?_)
  · refine wp_iload_n dX4_kindOf_10 rfl ?_
    refine wp_bipush dX4_kindOf_11 (by decide) ?_
    refine wp_ic_ne 20 dX4_kindOf_13 (by decide) (fun h13 => ?_) (fun h13 => ?_)
    · refine wp_iload_n dX4_kindOf_20 rfl ?_
      refine wp_bipush dX4_kindOf_21 (by decide) ?_
      refine wp_ic_ne 30 dX4_kindOf_23 (by decide) (fun h23 => ?_) (fun h23 => ?_)
      · refine wp_iload_n dX4_kindOf_30 rfl ?_
        refine wp_bipush dX4_kindOf_31 (by decide) ?_
        refine wp_ic_ne 40 dX4_kindOf_33 (by decide) (fun h33 => ?_) (fun h33 => ?_)
        · refine wp_iconst dX4_kindOf_40 (by decide) ?_
          refine wp_iret dX4_kindOf_41 (Or.inl rfl) ?_
          exact q_i (by unfold kOf; repeat (first | rw [if_pos (by omega)] | rw [if_neg (by omega)])) hQ
        · refine wp_iconst dX4_kindOf_36 (by decide) ?_
          refine wp_gotoN 41 dX4_kindOf_37 (by decide) ?_
          refine wp_iret dX4_kindOf_41 (Or.inl rfl) ?_
          exact q_i (by unfold kOf; repeat (first | rw [if_pos (by omega)] | rw [if_neg (by omega)])) hQ
      · refine wp_iconst dX4_kindOf_26 (by decide) ?_
        refine wp_gotoN 41 dX4_kindOf_27 (by decide) ?_
        refine wp_iret dX4_kindOf_41 (Or.inl rfl) ?_
        exact q_i (by unfold kOf; repeat (first | rw [if_pos (by omega)] | rw [if_neg (by omega)])) hQ
    · refine wp_iconst dX4_kindOf_16 (by decide) ?_
      refine wp_gotoN 41 dX4_kindOf_17 (by decide) ?_
      refine wp_iret dX4_kindOf_41 (Or.inl rfl) ?_
      exact q_i (by unfold kOf; repeat (first | rw [if_pos (by omega)] | rw [if_neg (by omega)])) hQ
  · refine wp_iconst dX4_kindOf_6 (by decide) ?_
    refine wp_gotoN 41 dX4_kindOf_7 (by decide) ?_
    refine wp_iret dX4_kindOf_41 (Or.inl rfl) ?_
    exact q_i (by unfold kOf; repeat (first | rw [if_pos (by omega)] | rw [if_neg (by omega)])) hQ
/-- the text read, as the reference reads it: the FAULT, ROWS, width, CELLS, kinds -/
def pf (tx : Nat → Int) (len : Nat) : Nat → Nat → Int → Int → Int → Int → (Nat → Int) → Int × Int × Int × Int × (Nat → Int)
  | 0, _, row, col, n, w, kd => if 0 < len ∧ (col = 0 ∨ (0 < row ∧ col < w)) then (len, 0, w, 0, kd) else (-1, if len = 0 then 0 else row + 1, if row = 0 then col else w, n, kd)
  | r + 1, k, row, col, n, w, kd =>
    if row = 5 then (k, 0, w, 0, kd)
    else if tx k = 59 then (if col = 0 ∨ (0 < row ∧ col < w) then (k, 0, w, 0, kd) else pf tx len r (k + 1) (row + 1) 0 n (if row = 0 then col else w) kd)
    else if kOf (tx k) = -1 ∨ col = w then (k, 0, w, 0, kd)
    else pf tx len r (k + 1) row (col + 1) (n + 1) w (fun i => if i = n.toNat then kOf (tx k) else kd i)
/-- nothing has changed but width, rows, cells, kinds of the model -/
def Fr0 (σ0 σ : aS) : Prop := (∀ c k, ¬ (c = 18 ∧ (k = 2 ∨ k = 3 ∨ k = 4)) → c ≠ 20 → σ.1 c k = σ0.1 c k) ∧ σ.2 = σ0.2
theorem Fr0.rf {σ : aS} : Fr0 σ σ := ⟨fun _ _ _ _ => rfl, rfl⟩
theorem Fr0.put {σ0 σ : aS} {k : Nat} {x : Int} (h : Fr0 σ0 σ) (hk : k = 2 ∨ k = 3 ∨ k = 4) : Fr0 σ0 (sI σ 18 k x) := by
  refine ⟨fun c j h1 h2 => ?_, h.2⟩
  rw [sI_at, if_neg (fun q => h1 ⟨q.1, by rw [q.2]; exact hk⟩)]
  exact h.1 c j h1 h2
theorem Fr0.kd {σ0 σ : aS} {k : Nat} {x : Int} (h : Fr0 σ0 σ) : Fr0 σ0 (sI σ 20 k x) := by
  refine ⟨fun c j h1 h2 => ?_, h.2⟩
  rw [sI_at, if_neg (fun q => h2 q.1)]
  exact h.1 c j h1 h2
set_option maxRecDepth 20000 in
theorem l4_fault {d : Nat} {σ0 : aS} {Q : aQ} {tx : Nat → Int} {len : Nat} (hlen : len ≤ 39) (htx : ∀ k, k < len → σ0.1 19 k = tx k) : ∀ (r k : Nat) (row col n w : Int) (kd : Nat → Int) (σ : aS) (u : Option aV), k + r = len → 0 ≤ row → row ≤ 5 → 0 ≤ col → col ≤ w → w ≤ 7 → 0 ≤ n → n ≤ 7 * row + col → Fr0 σ0 σ → σ.1 18 2 = w → σ.1 18 3 = 0 → σ.1 18 4 = 0 → σ.1 20 = kd → σ.1 18 1 = len →
    (hQ : ∀ σ', Fr0 σ0 σ' → σ'.1 18 2 = (pf tx len r k row col n w kd).2.2.1 → σ'.1 18 3 = (pf tx len r k row col n w kd).2.1 → σ'.1 18 4 = (pf tx len r k row col n w kd).2.2.2.1 → σ'.1 20 = (pf tx len r k row col n w kd).2.2.2.2 → Q (some (vi (pf tx len r k row col n w kd).1)) σ') → Wp RX4 cX4_faultNow 34 (aCall 34 (d + 1)) Q 0 false 0 (fun _ => 0) 25 [some (vr 18), some (vi row), some (vi col), some (vi n), some (vi k), u] [] σ := by
  intro r
  induction r with
  | zero =>
    intro k row col n w kd σ u hk g1 g2 g3 g4 g5 g6 g7 hF hw h3 h4 hkd hl hQ
    refine wp_iload dX4_faultNow_25 rfl ?_
    refine wp_aload_n dX4_faultNow_27 rfl ?_
    refine wp_getI dX4_faultNow_28 flX4_69 (by decide) rfl (Or.inl rfl) ?_
    refine wp_ic_ge 146 dX4_faultNow_31 (by decide) (fun hh31 => ?_) (fun hh31 => ?_)
    · refine wp_aload_n dX4_faultNow_146 rfl ?_
      refine wp_getI dX4_faultNow_147 flX4_69 (by decide) rfl (Or.inl rfl) ?_
      refine wp_if_le 174 dX4_faultNow_150 (by decide) (fun hh150 => ?_) (fun hh150 => ?_)
      · refine wp_aload_n dX4_faultNow_174 rfl ?_
        refine wp_iload_n dX4_faultNow_175 rfl ?_
        refine wp_if_ne 183 dX4_faultNow_176 (by decide) (fun hh176 => ?_) (fun hh176 => ?_)
        · refine wp_aload_n dX4_faultNow_183 rfl ?_
          refine wp_getI dX4_faultNow_184 flX4_78 (by decide) rfl (Or.inl rfl) ?_
          refine wp_putI dX4_faultNow_187 flX4_78 (by decide) rfl rfl rfl rfl ?_
          refine wp_aload_n dX4_faultNow_190 rfl ?_
          refine wp_aload_n dX4_faultNow_191 rfl ?_
          refine wp_getI dX4_faultNow_192 flX4_69 (by decide) rfl (Or.inl rfl) ?_
          rw [sI_ne (fun q => absurd q.2 (by decide))]
          refine wp_if_ne 202 dX4_faultNow_195 (by decide) (fun hh195 => ?_) (fun hh195 => ?_)
          · refine wp_iload_n dX4_faultNow_202 rfl ?_
            refine wp_iconst dX4_faultNow_203 (by decide) ?_
            refine wp_iaddN dX4_faultNow_204 (by omega) ?_
            refine wp_putI dX4_faultNow_205 flX4_75 (by decide) rfl rfl rfl rfl ?_
            refine wp_aload_n dX4_faultNow_208 rfl ?_
            refine wp_iload_n dX4_faultNow_209 rfl ?_
            refine wp_putI dX4_faultNow_210 flX4_72 (by decide) rfl rfl rfl rfl ?_
            refine wp_iconst dX4_faultNow_213 (by decide) ?_
            refine wp_iret dX4_faultNow_214 (Or.inl rfl) ?_
            unfold pf at hQ
            rw [if_neg (by omega)] at hQ
            exact hQ _ (((hF.put (by decide)).put (by decide)).put (by decide)) (by simp only []; first | (rw [if_pos (by omega)]; rfl) | (rw [if_neg (by omega)]; exact hw)) (by simp only []; first | (rw [if_pos (by omega)]; rfl) | (rw [if_neg (by omega)]; rfl)) rfl hkd
          · refine wp_iconst dX4_faultNow_198 (by decide) ?_
            refine wp_gotoN 205 dX4_faultNow_199 (by decide) ?_
            refine wp_putI dX4_faultNow_205 flX4_75 (by decide) rfl rfl rfl rfl ?_
            refine wp_aload_n dX4_faultNow_208 rfl ?_
            refine wp_iload_n dX4_faultNow_209 rfl ?_
            refine wp_putI dX4_faultNow_210 flX4_72 (by decide) rfl rfl rfl rfl ?_
            refine wp_iconst dX4_faultNow_213 (by decide) ?_
            refine wp_iret dX4_faultNow_214 (Or.inl rfl) ?_
            unfold pf at hQ
            rw [if_neg (by omega)] at hQ
            exact hQ _ (((hF.put (by decide)).put (by decide)).put (by decide)) (by simp only []; first | (rw [if_pos (by omega)]; rfl) | (rw [if_neg (by omega)]; exact hw)) (by simp only []; first | (rw [if_pos (by omega)]; rfl) | (rw [if_neg (by omega)]; rfl)) rfl hkd
        · refine wp_iload_n dX4_faultNow_179 rfl ?_
          refine wp_gotoN 187 dX4_faultNow_180 (by decide) ?_
          refine wp_putI dX4_faultNow_187 flX4_78 (by decide) rfl rfl rfl rfl ?_
          refine wp_aload_n dX4_faultNow_190 rfl ?_
          refine wp_aload_n dX4_faultNow_191 rfl ?_
          refine wp_getI dX4_faultNow_192 flX4_69 (by decide) rfl (Or.inl rfl) ?_
          rw [sI_ne (fun q => absurd q.2 (by decide))]
          refine wp_if_ne 202 dX4_faultNow_195 (by decide) (fun hh195 => ?_) (fun hh195 => ?_)
          · refine wp_iload_n dX4_faultNow_202 rfl ?_
            refine wp_iconst dX4_faultNow_203 (by decide) ?_
            refine wp_iaddN dX4_faultNow_204 (by omega) ?_
            refine wp_putI dX4_faultNow_205 flX4_75 (by decide) rfl rfl rfl rfl ?_
            refine wp_aload_n dX4_faultNow_208 rfl ?_
            refine wp_iload_n dX4_faultNow_209 rfl ?_
            refine wp_putI dX4_faultNow_210 flX4_72 (by decide) rfl rfl rfl rfl ?_
            refine wp_iconst dX4_faultNow_213 (by decide) ?_
            refine wp_iret dX4_faultNow_214 (Or.inl rfl) ?_
            unfold pf at hQ
            rw [if_neg (by omega)] at hQ
            exact hQ _ (((hF.put (by decide)).put (by decide)).put (by decide)) (by simp only []; first | (rw [if_pos (by omega)]; rfl) | (rw [if_neg (by omega)]; exact hw)) (by simp only []; first | (rw [if_pos (by omega)]; rfl) | (rw [if_neg (by omega)]; rfl)) rfl hkd
          · refine wp_iconst dX4_faultNow_198 (by decide) ?_
            refine wp_gotoN 205 dX4_faultNow_199 (by decide) ?_
            refine wp_putI dX4_faultNow_205 flX4_75 (by decide) rfl rfl rfl rfl ?_
            refine wp_aload_n dX4_faultNow_208 rfl ?_
            refine wp_iload_n dX4_faultNow_209 rfl ?_
            refine wp_putI dX4_faultNow_210 flX4_72 (by decide) rfl rfl rfl rfl ?_
            refine wp_iconst dX4_faultNow_213 (by decide) ?_
            refine wp_iret dX4_faultNow_214 (Or.inl rfl) ?_
            unfold pf at hQ
            rw [if_neg (by omega)] at hQ
            exact hQ _ (((hF.put (by decide)).put (by decide)).put (by decide)) (by simp only []; first | (rw [if_pos (by omega)]; rfl) | (rw [if_neg (by omega)]; exact hw)) (by simp only []; first | (rw [if_pos (by omega)]; rfl) | (rw [if_neg (by omega)]; rfl)) rfl hkd
      · refine wp_iload_n dX4_faultNow_153 rfl ?_
        refine wp_if_eq 169 dX4_faultNow_154 (by decide) (fun hh154 => ?_) (fun hh154 => ?_)
        · refine wp_aload_n dX4_faultNow_169 rfl ?_
          refine wp_getI dX4_faultNow_170 flX4_69 (by decide) rfl (Or.inl rfl) ?_
          refine wp_iret dX4_faultNow_173 (Or.inl rfl) ?_
          rw [hl]
          unfold pf at hQ
          rw [if_pos (by omega)] at hQ
          exact hQ σ hF hw h3 h4 hkd
        · refine wp_iload_n dX4_faultNow_157 rfl ?_
          refine wp_if_le 174 dX4_faultNow_158 (by decide) (fun hh158 => ?_) (fun hh158 => ?_)
          · refine wp_aload_n dX4_faultNow_174 rfl ?_
            refine wp_iload_n dX4_faultNow_175 rfl ?_
            refine wp_if_ne 183 dX4_faultNow_176 (by decide) (fun hh176 => ?_) (fun hh176 => ?_)
            · refine wp_aload_n dX4_faultNow_183 rfl ?_
              refine wp_getI dX4_faultNow_184 flX4_78 (by decide) rfl (Or.inl rfl) ?_
              refine wp_putI dX4_faultNow_187 flX4_78 (by decide) rfl rfl rfl rfl ?_
              refine wp_aload_n dX4_faultNow_190 rfl ?_
              refine wp_aload_n dX4_faultNow_191 rfl ?_
              refine wp_getI dX4_faultNow_192 flX4_69 (by decide) rfl (Or.inl rfl) ?_
              rw [sI_ne (fun q => absurd q.2 (by decide))]
              refine wp_if_ne 202 dX4_faultNow_195 (by decide) (fun hh195 => ?_) (fun hh195 => ?_)
              · refine wp_iload_n dX4_faultNow_202 rfl ?_
                refine wp_iconst dX4_faultNow_203 (by decide) ?_
                refine wp_iaddN dX4_faultNow_204 (by omega) ?_
                refine wp_putI dX4_faultNow_205 flX4_75 (by decide) rfl rfl rfl rfl ?_
                refine wp_aload_n dX4_faultNow_208 rfl ?_
                refine wp_iload_n dX4_faultNow_209 rfl ?_
                refine wp_putI dX4_faultNow_210 flX4_72 (by decide) rfl rfl rfl rfl ?_
                refine wp_iconst dX4_faultNow_213 (by decide) ?_
                refine wp_iret dX4_faultNow_214 (Or.inl rfl) ?_
                unfold pf at hQ
                rw [if_neg (by omega)] at hQ
                exact hQ _ (((hF.put (by decide)).put (by decide)).put (by decide)) (by simp only []; first | (rw [if_pos (by omega)]; rfl) | (rw [if_neg (by omega)]; exact hw)) (by simp only []; first | (rw [if_pos (by omega)]; rfl) | (rw [if_neg (by omega)]; rfl)) rfl hkd
              · refine wp_iconst dX4_faultNow_198 (by decide) ?_
                refine wp_gotoN 205 dX4_faultNow_199 (by decide) ?_
                refine wp_putI dX4_faultNow_205 flX4_75 (by decide) rfl rfl rfl rfl ?_
                refine wp_aload_n dX4_faultNow_208 rfl ?_
                refine wp_iload_n dX4_faultNow_209 rfl ?_
                refine wp_putI dX4_faultNow_210 flX4_72 (by decide) rfl rfl rfl rfl ?_
                refine wp_iconst dX4_faultNow_213 (by decide) ?_
                refine wp_iret dX4_faultNow_214 (Or.inl rfl) ?_
                unfold pf at hQ
                rw [if_neg (by omega)] at hQ
                exact hQ _ (((hF.put (by decide)).put (by decide)).put (by decide)) (by simp only []; first | (rw [if_pos (by omega)]; rfl) | (rw [if_neg (by omega)]; exact hw)) (by simp only []; first | (rw [if_pos (by omega)]; rfl) | (rw [if_neg (by omega)]; rfl)) rfl hkd
            · refine wp_iload_n dX4_faultNow_179 rfl ?_
              refine wp_gotoN 187 dX4_faultNow_180 (by decide) ?_
              refine wp_putI dX4_faultNow_187 flX4_78 (by decide) rfl rfl rfl rfl ?_
              refine wp_aload_n dX4_faultNow_190 rfl ?_
              refine wp_aload_n dX4_faultNow_191 rfl ?_
              refine wp_getI dX4_faultNow_192 flX4_69 (by decide) rfl (Or.inl rfl) ?_
              rw [sI_ne (fun q => absurd q.2 (by decide))]
              refine wp_if_ne 202 dX4_faultNow_195 (by decide) (fun hh195 => ?_) (fun hh195 => ?_)
              · refine wp_iload_n dX4_faultNow_202 rfl ?_
                refine wp_iconst dX4_faultNow_203 (by decide) ?_
                refine wp_iaddN dX4_faultNow_204 (by omega) ?_
                refine wp_putI dX4_faultNow_205 flX4_75 (by decide) rfl rfl rfl rfl ?_
                refine wp_aload_n dX4_faultNow_208 rfl ?_
                refine wp_iload_n dX4_faultNow_209 rfl ?_
                refine wp_putI dX4_faultNow_210 flX4_72 (by decide) rfl rfl rfl rfl ?_
                refine wp_iconst dX4_faultNow_213 (by decide) ?_
                refine wp_iret dX4_faultNow_214 (Or.inl rfl) ?_
                unfold pf at hQ
                rw [if_neg (by omega)] at hQ
                exact hQ _ (((hF.put (by decide)).put (by decide)).put (by decide)) (by simp only []; first | (rw [if_pos (by omega)]; rfl) | (rw [if_neg (by omega)]; exact hw)) (by simp only []; first | (rw [if_pos (by omega)]; rfl) | (rw [if_neg (by omega)]; rfl)) rfl hkd
              · refine wp_iconst dX4_faultNow_198 (by decide) ?_
                refine wp_gotoN 205 dX4_faultNow_199 (by decide) ?_
                refine wp_putI dX4_faultNow_205 flX4_75 (by decide) rfl rfl rfl rfl ?_
                refine wp_aload_n dX4_faultNow_208 rfl ?_
                refine wp_iload_n dX4_faultNow_209 rfl ?_
                refine wp_putI dX4_faultNow_210 flX4_72 (by decide) rfl rfl rfl rfl ?_
                refine wp_iconst dX4_faultNow_213 (by decide) ?_
                refine wp_iret dX4_faultNow_214 (Or.inl rfl) ?_
                unfold pf at hQ
                rw [if_neg (by omega)] at hQ
                exact hQ _ (((hF.put (by decide)).put (by decide)).put (by decide)) (by simp only []; first | (rw [if_pos (by omega)]; rfl) | (rw [if_neg (by omega)]; exact hw)) (by simp only []; first | (rw [if_pos (by omega)]; rfl) | (rw [if_neg (by omega)]; rfl)) rfl hkd
          · refine wp_iload_n dX4_faultNow_161 rfl ?_
            refine wp_aload_n dX4_faultNow_162 rfl ?_
            refine wp_getI dX4_faultNow_163 flX4_78 (by decide) rfl (Or.inl rfl) ?_
            refine wp_ic_ge 174 dX4_faultNow_166 (by decide) (fun hh166 => ?_) (fun hh166 => ?_)
            · refine wp_aload_n dX4_faultNow_174 rfl ?_
              refine wp_iload_n dX4_faultNow_175 rfl ?_
              refine wp_if_ne 183 dX4_faultNow_176 (by decide) (fun hh176 => ?_) (fun hh176 => ?_)
              · refine wp_aload_n dX4_faultNow_183 rfl ?_
                refine wp_getI dX4_faultNow_184 flX4_78 (by decide) rfl (Or.inl rfl) ?_
                refine wp_putI dX4_faultNow_187 flX4_78 (by decide) rfl rfl rfl rfl ?_
                refine wp_aload_n dX4_faultNow_190 rfl ?_
                refine wp_aload_n dX4_faultNow_191 rfl ?_
                refine wp_getI dX4_faultNow_192 flX4_69 (by decide) rfl (Or.inl rfl) ?_
                rw [sI_ne (fun q => absurd q.2 (by decide))]
                refine wp_if_ne 202 dX4_faultNow_195 (by decide) (fun hh195 => ?_) (fun hh195 => ?_)
                · refine wp_iload_n dX4_faultNow_202 rfl ?_
                  refine wp_iconst dX4_faultNow_203 (by decide) ?_
                  refine wp_iaddN dX4_faultNow_204 (by omega) ?_
                  refine wp_putI dX4_faultNow_205 flX4_75 (by decide) rfl rfl rfl rfl ?_
                  refine wp_aload_n dX4_faultNow_208 rfl ?_
                  refine wp_iload_n dX4_faultNow_209 rfl ?_
                  refine wp_putI dX4_faultNow_210 flX4_72 (by decide) rfl rfl rfl rfl ?_
                  refine wp_iconst dX4_faultNow_213 (by decide) ?_
                  refine wp_iret dX4_faultNow_214 (Or.inl rfl) ?_
                  unfold pf at hQ
                  rw [if_neg (by omega)] at hQ
                  exact hQ _ (((hF.put (by decide)).put (by decide)).put (by decide)) (by simp only []; first | (rw [if_pos (by omega)]; rfl) | (rw [if_neg (by omega)]; exact hw)) (by simp only []; first | (rw [if_pos (by omega)]; rfl) | (rw [if_neg (by omega)]; rfl)) rfl hkd
                · refine wp_iconst dX4_faultNow_198 (by decide) ?_
                  refine wp_gotoN 205 dX4_faultNow_199 (by decide) ?_
                  refine wp_putI dX4_faultNow_205 flX4_75 (by decide) rfl rfl rfl rfl ?_
                  refine wp_aload_n dX4_faultNow_208 rfl ?_
                  refine wp_iload_n dX4_faultNow_209 rfl ?_
                  refine wp_putI dX4_faultNow_210 flX4_72 (by decide) rfl rfl rfl rfl ?_
                  refine wp_iconst dX4_faultNow_213 (by decide) ?_
                  refine wp_iret dX4_faultNow_214 (Or.inl rfl) ?_
                  unfold pf at hQ
                  rw [if_neg (by omega)] at hQ
                  exact hQ _ (((hF.put (by decide)).put (by decide)).put (by decide)) (by simp only []; first | (rw [if_pos (by omega)]; rfl) | (rw [if_neg (by omega)]; exact hw)) (by simp only []; first | (rw [if_pos (by omega)]; rfl) | (rw [if_neg (by omega)]; rfl)) rfl hkd
              · refine wp_iload_n dX4_faultNow_179 rfl ?_
                refine wp_gotoN 187 dX4_faultNow_180 (by decide) ?_
                refine wp_putI dX4_faultNow_187 flX4_78 (by decide) rfl rfl rfl rfl ?_
                refine wp_aload_n dX4_faultNow_190 rfl ?_
                refine wp_aload_n dX4_faultNow_191 rfl ?_
                refine wp_getI dX4_faultNow_192 flX4_69 (by decide) rfl (Or.inl rfl) ?_
                rw [sI_ne (fun q => absurd q.2 (by decide))]
                refine wp_if_ne 202 dX4_faultNow_195 (by decide) (fun hh195 => ?_) (fun hh195 => ?_)
                · refine wp_iload_n dX4_faultNow_202 rfl ?_
                  refine wp_iconst dX4_faultNow_203 (by decide) ?_
                  refine wp_iaddN dX4_faultNow_204 (by omega) ?_
                  refine wp_putI dX4_faultNow_205 flX4_75 (by decide) rfl rfl rfl rfl ?_
                  refine wp_aload_n dX4_faultNow_208 rfl ?_
                  refine wp_iload_n dX4_faultNow_209 rfl ?_
                  refine wp_putI dX4_faultNow_210 flX4_72 (by decide) rfl rfl rfl rfl ?_
                  refine wp_iconst dX4_faultNow_213 (by decide) ?_
                  refine wp_iret dX4_faultNow_214 (Or.inl rfl) ?_
                  unfold pf at hQ
                  rw [if_neg (by omega)] at hQ
                  exact hQ _ (((hF.put (by decide)).put (by decide)).put (by decide)) (by simp only []; first | (rw [if_pos (by omega)]; rfl) | (rw [if_neg (by omega)]; exact hw)) (by simp only []; first | (rw [if_pos (by omega)]; rfl) | (rw [if_neg (by omega)]; rfl)) rfl hkd
                · refine wp_iconst dX4_faultNow_198 (by decide) ?_
                  refine wp_gotoN 205 dX4_faultNow_199 (by decide) ?_
                  refine wp_putI dX4_faultNow_205 flX4_75 (by decide) rfl rfl rfl rfl ?_
                  refine wp_aload_n dX4_faultNow_208 rfl ?_
                  refine wp_iload_n dX4_faultNow_209 rfl ?_
                  refine wp_putI dX4_faultNow_210 flX4_72 (by decide) rfl rfl rfl rfl ?_
                  refine wp_iconst dX4_faultNow_213 (by decide) ?_
                  refine wp_iret dX4_faultNow_214 (Or.inl rfl) ?_
                  unfold pf at hQ
                  rw [if_neg (by omega)] at hQ
                  exact hQ _ (((hF.put (by decide)).put (by decide)).put (by decide)) (by simp only []; first | (rw [if_pos (by omega)]; rfl) | (rw [if_neg (by omega)]; exact hw)) (by simp only []; first | (rw [if_pos (by omega)]; rfl) | (rw [if_neg (by omega)]; rfl)) rfl hkd
            · refine wp_aload_n dX4_faultNow_169 rfl ?_
              refine wp_getI dX4_faultNow_170 flX4_69 (by decide) rfl (Or.inl rfl) ?_
              refine wp_iret dX4_faultNow_173 (Or.inl rfl) ?_
              rw [hl]
              unfold pf at hQ
              rw [if_pos (by omega)] at hQ
              exact hQ σ hF hw h3 h4 hkd
    · exact absurd hl (by omega)
  | succ r ih =>
    intro k row col n w kd σ u hk g1 g2 g3 g4 g5 g6 g7 hF hw h3 h4 hkd hl hQ
    refine wp_iload dX4_faultNow_25 rfl ?_
    refine wp_aload_n dX4_faultNow_27 rfl ?_
    refine wp_getI dX4_faultNow_28 flX4_69 (by decide) rfl (Or.inl rfl) ?_
    refine wp_ic_ge 146 dX4_faultNow_31 (by decide) (fun hh31 => ?_) (fun hh31 => ?_)
    · exact absurd hl (by omega)
    · have hx : σ.1 19 (k : Int).toNat = tx k := by rw [Int.toNat_natCast, hF.1 19 k (fun q => absurd q.1 (by decide)) (by decide)]; exact htx k (by omega)
      refine wp_iload_n dX4_faultNow_34 rfl ?_
      refine wp_iconst dX4_faultNow_35 (by decide) ?_
      refine wp_ic_ne 42 dX4_faultNow_36 (by decide) (fun hh36 => ?_) (fun hh36 => ?_)
      · refine wp_aload_n dX4_faultNow_42 rfl ?_
        refine wp_getR dX4_faultNow_43 flX4_7 (by decide) rfl rfl ?_
        refine wp_iload dX4_faultNow_46 rfl ?_
        refine wp_iaload dX4_faultNow_48 (by decide) rfl (by omega) (by omega) (by decide) ?_
        rw [hx]
        refine wp_bipush dX4_faultNow_49 (by decide) ?_
        refine wp_ic_ne 97 dX4_faultNow_51 (by decide) (fun hh51 => ?_) (fun hh51 => ?_)
        · refine wp_aload_n dX4_faultNow_97 rfl ?_
          refine wp_getR dX4_faultNow_98 flX4_7 (by decide) rfl rfl ?_
          refine wp_iload dX4_faultNow_101 rfl ?_
          refine wp_iaload dX4_faultNow_103 (by decide) rfl (by omega) (by omega) (by decide) ?_
          rw [hx]
          refine wp_S1 dX4_faultNow_104 zlX4_81 (Nat.le_of_ble_eq_true rfl) ?_
          refine s4_kindOf ?_
          refine wp_ist (L' := [some (vr _), some (vi _), some (vi _), some (vi _), some (vi _), some (vi _)]) dX4_faultNow_107 (Nat.le_of_ble_eq_true rfl) rfl ?_
          refine wp_iload dX4_faultNow_109 rfl ?_
          refine wp_iconst dX4_faultNow_111 (by decide) ?_
          refine wp_ic_eq 123 dX4_faultNow_112 (by decide) (fun hh112 => ?_) (fun hh112 => ?_)
          · refine wp_iload dX4_faultNow_123 rfl ?_
            refine wp_iret dX4_faultNow_125 (Or.inl rfl) ?_
            unfold pf at hQ
            rw [if_neg (by omega), if_neg (by omega), if_pos (by omega)] at hQ
            exact hQ σ hF hw h3 h4 hkd
          · refine wp_iload_n dX4_faultNow_115 rfl ?_
            refine wp_aload_n dX4_faultNow_116 rfl ?_
            refine wp_getI dX4_faultNow_117 flX4_78 (by decide) rfl (Or.inl rfl) ?_
            refine wp_ic_ne 126 dX4_faultNow_120 (by decide) (fun hh120 => ?_) (fun hh120 => ?_)
            · refine wp_aload_n dX4_faultNow_126 rfl ?_
              refine wp_getR dX4_faultNow_127 flX4_13 (by decide) rfl rfl ?_
              refine wp_iload_n dX4_faultNow_130 rfl ?_
              refine wp_iload dX4_faultNow_131 rfl ?_
              refine wp_iastore dX4_faultNow_133 (by decide) rfl (by omega) (by omega) (by decide) ?_
              refine wp_iincN (L' := [some (vr _), some (vi _), some (vi _), some (vi _), some (vi _), some (vi _)]) dX4_faultNow_134 rfl (by omega) rfl ?_
              refine wp_iincN (L' := [some (vr _), some (vi _), some (vi _), some (vi _), some (vi _), some (vi _)]) dX4_faultNow_137 rfl (by omega) rfl ?_
              refine wp_iincN (L' := [some (vr _), some (vi _), some (vi _), some (vi _), some (vi _), some (vi _)]) dX4_faultNow_140 rfl (by omega) rfl ?_
              refine wp_gotoN 25 dX4_faultNow_143 (by decide) ?_
              unfold pf at hQ
              rw [if_neg (by omega), if_neg (by omega), if_neg (by omega)] at hQ
              refine ih (k + 1) _ _ _ _ _ _ _ (by omega) (by omega) (by omega) (by omega) (by omega) (by omega) (by omega) (by omega) hF.kd hw h3 h4 ?_ hl hQ
              funext i
              show (if 20 = 20 ∧ i = n.toNat then _ else σ.1 20 i) = _
              rw [hkd]
              by_cases hi : i = n.toNat <;> simp [hi]
            · refine wp_iload dX4_faultNow_123 rfl ?_
              refine wp_iret dX4_faultNow_125 (Or.inl rfl) ?_
              unfold pf at hQ
              rw [if_neg (by omega), if_neg (by omega), if_pos (by omega)] at hQ
              exact hQ σ hF hw h3 h4 hkd
        · refine wp_iload_n dX4_faultNow_54 rfl ?_
          refine wp_if_eq 70 dX4_faultNow_55 (by decide) (fun hh55 => ?_) (fun hh55 => ?_)
          · refine wp_iload dX4_faultNow_70 rfl ?_
            refine wp_iret dX4_faultNow_72 (Or.inl rfl) ?_
            unfold pf at hQ
            rw [if_neg (by omega), if_pos (by omega), if_pos (by omega)] at hQ
            exact hQ σ hF hw h3 h4 hkd
          · refine wp_iload_n dX4_faultNow_58 rfl ?_
            refine wp_if_le 73 dX4_faultNow_59 (by decide) (fun hh59 => ?_) (fun hh59 => ?_)
            · refine wp_aload_n dX4_faultNow_73 rfl ?_
              refine wp_iload_n dX4_faultNow_74 rfl ?_
              refine wp_if_ne 82 dX4_faultNow_75 (by decide) (fun hh75 => ?_) (fun hh75 => ?_)
              · refine wp_aload_n dX4_faultNow_82 rfl ?_
                refine wp_getI dX4_faultNow_83 flX4_78 (by decide) rfl (Or.inl rfl) ?_
                refine wp_putI dX4_faultNow_86 flX4_78 (by decide) rfl rfl rfl rfl ?_
                refine wp_iincN (L' := [some (vr _), some (vi _), some (vi _), some (vi _), some (vi _), _]) dX4_faultNow_89 rfl (by omega) rfl ?_
                refine wp_iconst dX4_faultNow_92 (by decide) ?_
                refine wp_istN (L' := [some (vr _), some (vi _), some (vi _), some (vi _), some (vi _), _]) dX4_faultNow_93 (Nat.le_of_ble_eq_true rfl) rfl ?_
                refine wp_gotoN 140 dX4_faultNow_94 (by decide) ?_
                refine wp_iincN (L' := [some (vr _), some (vi _), some (vi _), some (vi _), some (vi _), _]) dX4_faultNow_140 rfl (by omega) rfl ?_
                refine wp_gotoN 25 dX4_faultNow_143 (by decide) ?_
                unfold pf at hQ
                rw [if_neg (by omega), if_pos (by omega), if_neg (by omega)] at hQ
                exact ih (k + 1) _ _ _ _ kd _ _ (by omega) (by omega) (by omega) (by omega) (by first | (rw [if_pos (by omega)]; omega) | (rw [if_neg (by omega)]; omega)) (by first | (rw [if_pos (by omega)]; omega) | (rw [if_neg (by omega)]; omega)) (by omega) (by omega) (hF.put (by decide)) (by first | (rw [if_pos (by omega)]; rfl) | (rw [if_neg (by omega)]; exact hw)) h3 h4 hkd hl hQ
              · refine wp_iload_n dX4_faultNow_78 rfl ?_
                refine wp_gotoN 86 dX4_faultNow_79 (by decide) ?_
                refine wp_putI dX4_faultNow_86 flX4_78 (by decide) rfl rfl rfl rfl ?_
                refine wp_iincN (L' := [some (vr _), some (vi _), some (vi _), some (vi _), some (vi _), _]) dX4_faultNow_89 rfl (by omega) rfl ?_
                refine wp_iconst dX4_faultNow_92 (by decide) ?_
                refine wp_istN (L' := [some (vr _), some (vi _), some (vi _), some (vi _), some (vi _), _]) dX4_faultNow_93 (Nat.le_of_ble_eq_true rfl) rfl ?_
                refine wp_gotoN 140 dX4_faultNow_94 (by decide) ?_
                refine wp_iincN (L' := [some (vr _), some (vi _), some (vi _), some (vi _), some (vi _), _]) dX4_faultNow_140 rfl (by omega) rfl ?_
                refine wp_gotoN 25 dX4_faultNow_143 (by decide) ?_
                unfold pf at hQ
                rw [if_neg (by omega), if_pos (by omega), if_neg (by omega)] at hQ
                exact ih (k + 1) _ _ _ _ kd _ _ (by omega) (by omega) (by omega) (by omega) (by first | (rw [if_pos (by omega)]; omega) | (rw [if_neg (by omega)]; omega)) (by first | (rw [if_pos (by omega)]; omega) | (rw [if_neg (by omega)]; omega)) (by omega) (by omega) (hF.put (by decide)) (by first | (rw [if_pos (by omega)]; rfl) | (rw [if_neg (by omega)]; exact hw)) h3 h4 hkd hl hQ
            · refine wp_iload_n dX4_faultNow_62 rfl ?_
              refine wp_aload_n dX4_faultNow_63 rfl ?_
              refine wp_getI dX4_faultNow_64 flX4_78 (by decide) rfl (Or.inl rfl) ?_
              refine wp_ic_ge 73 dX4_faultNow_67 (by decide) (fun hh67 => ?_) (fun hh67 => ?_)
              · refine wp_aload_n dX4_faultNow_73 rfl ?_
                refine wp_iload_n dX4_faultNow_74 rfl ?_
                refine wp_if_ne 82 dX4_faultNow_75 (by decide) (fun hh75 => ?_) (fun hh75 => ?_)
                · refine wp_aload_n dX4_faultNow_82 rfl ?_
                  refine wp_getI dX4_faultNow_83 flX4_78 (by decide) rfl (Or.inl rfl) ?_
                  refine wp_putI dX4_faultNow_86 flX4_78 (by decide) rfl rfl rfl rfl ?_
                  refine wp_iincN (L' := [some (vr _), some (vi _), some (vi _), some (vi _), some (vi _), _]) dX4_faultNow_89 rfl (by omega) rfl ?_
                  refine wp_iconst dX4_faultNow_92 (by decide) ?_
                  refine wp_istN (L' := [some (vr _), some (vi _), some (vi _), some (vi _), some (vi _), _]) dX4_faultNow_93 (Nat.le_of_ble_eq_true rfl) rfl ?_
                  refine wp_gotoN 140 dX4_faultNow_94 (by decide) ?_
                  refine wp_iincN (L' := [some (vr _), some (vi _), some (vi _), some (vi _), some (vi _), _]) dX4_faultNow_140 rfl (by omega) rfl ?_
                  refine wp_gotoN 25 dX4_faultNow_143 (by decide) ?_
                  unfold pf at hQ
                  rw [if_neg (by omega), if_pos (by omega), if_neg (by omega)] at hQ
                  exact ih (k + 1) _ _ _ _ kd _ _ (by omega) (by omega) (by omega) (by omega) (by first | (rw [if_pos (by omega)]; omega) | (rw [if_neg (by omega)]; omega)) (by first | (rw [if_pos (by omega)]; omega) | (rw [if_neg (by omega)]; omega)) (by omega) (by omega) (hF.put (by decide)) (by first | (rw [if_pos (by omega)]; rfl) | (rw [if_neg (by omega)]; exact hw)) h3 h4 hkd hl hQ
                · refine wp_iload_n dX4_faultNow_78 rfl ?_
                  refine wp_gotoN 86 dX4_faultNow_79 (by decide) ?_
                  refine wp_putI dX4_faultNow_86 flX4_78 (by decide) rfl rfl rfl rfl ?_
                  refine wp_iincN (L' := [some (vr _), some (vi _), some (vi _), some (vi _), some (vi _), _]) dX4_faultNow_89 rfl (by omega) rfl ?_
                  refine wp_iconst dX4_faultNow_92 (by decide) ?_
                  refine wp_istN (L' := [some (vr _), some (vi _), some (vi _), some (vi _), some (vi _), _]) dX4_faultNow_93 (Nat.le_of_ble_eq_true rfl) rfl ?_
                  refine wp_gotoN 140 dX4_faultNow_94 (by decide) ?_
                  refine wp_iincN (L' := [some (vr _), some (vi _), some (vi _), some (vi _), some (vi _), _]) dX4_faultNow_140 rfl (by omega) rfl ?_
                  refine wp_gotoN 25 dX4_faultNow_143 (by decide) ?_
                  unfold pf at hQ
                  rw [if_neg (by omega), if_pos (by omega), if_neg (by omega)] at hQ
                  exact ih (k + 1) _ _ _ _ kd _ _ (by omega) (by omega) (by omega) (by omega) (by first | (rw [if_pos (by omega)]; omega) | (rw [if_neg (by omega)]; omega)) (by first | (rw [if_pos (by omega)]; omega) | (rw [if_neg (by omega)]; omega)) (by omega) (by omega) (hF.put (by decide)) (by first | (rw [if_pos (by omega)]; rfl) | (rw [if_neg (by omega)]; exact hw)) h3 h4 hkd hl hQ
              · refine wp_iload dX4_faultNow_70 rfl ?_
                refine wp_iret dX4_faultNow_72 (Or.inl rfl) ?_
                unfold pf at hQ
                rw [if_neg (by omega), if_pos (by omega), if_pos (by omega)] at hQ
                exact hQ σ hF hw h3 h4 hkd
      · refine wp_iload dX4_faultNow_39 rfl ?_
        refine wp_iret dX4_faultNow_41 (Or.inl rfl) ?_
        unfold pf at hQ
        rw [if_pos (by omega)] at hQ
        exact hQ σ hF hw h3 h4 hkd
set_option maxRecDepth 20000 in
theorem s4_faultNow {d : Nat} {σ : aS} {Q : aQ} {tx : Nat → Int} {len : Nat} (hlen : len ≤ 39) (htx : ∀ k, k < len → σ.1 19 k = tx k) (hl : σ.1 18 1 = len) (hQ : ∀ σ', Fr0 σ σ' → σ'.1 18 2 = (pf tx len len 0 0 0 0 7 (σ.1 20)).2.2.1 → σ'.1 18 3 = (pf tx len len 0 0 0 0 7 (σ.1 20)).2.1 → σ'.1 18 4 = (pf tx len len 0 0 0 0 7 (σ.1 20)).2.2.2.1 → σ'.1 20 = (pf tx len len 0 0 0 0 7 (σ.1 20)).2.2.2.2 → Q (some (vi (pf tx len len 0 0 0 0 7 (σ.1 20)).1)) σ') : aCall 34 (d + 2) mX4_faultNow [vr 18] σ Q := by
  refine cl_in (own := RX4) (cc := cX4_faultNow) (rk := 0) (L := [some (vr 18), none, none, none, none, none]) rfl rfl rfl rfl (by decide) (Nat.le_of_ble_eq_true rfl) ?_
  refine wp_iconst dX4_faultNow_0 (by decide) ?_
  refine wp_istN (L' := [some (vr _), some (vi _), none, none, none, none]) dX4_faultNow_1 (Nat.le_of_ble_eq_true rfl) rfl ?_
  refine wp_iconst dX4_faultNow_2 (by decide) ?_
  refine wp_istN (L' := [some (vr _), some (vi _), some (vi _), none, none, none]) dX4_faultNow_3 (Nat.le_of_ble_eq_true rfl) rfl ?_
  refine wp_iconst dX4_faultNow_4 (by decide) ?_
  refine wp_istN (L' := [some (vr _), some (vi _), some (vi _), some (vi _), none, none]) dX4_faultNow_5 (Nat.le_of_ble_eq_true rfl) rfl ?_
  refine wp_aload_n dX4_faultNow_6 rfl ?_
  refine wp_iconst dX4_faultNow_7 (by decide) ?_
  refine wp_putI dX4_faultNow_8 flX4_72 (by decide) rfl rfl rfl rfl ?_
  refine wp_aload_n dX4_faultNow_11 rfl ?_
  refine wp_iconst dX4_faultNow_12 (by decide) ?_
  refine wp_putI dX4_faultNow_13 flX4_75 (by decide) rfl rfl rfl rfl ?_
  refine wp_aload_n dX4_faultNow_16 rfl ?_
  refine wp_bipush dX4_faultNow_17 (by decide) ?_
  refine wp_putI dX4_faultNow_19 flX4_78 (by decide) rfl rfl rfl rfl ?_
  refine wp_iconst dX4_faultNow_22 (by decide) ?_
  refine wp_ist (L' := [some (vr _), some (vi _), some (vi _), some (vi _), some (vi _), none]) dX4_faultNow_23 (Nat.le_of_ble_eq_true rfl) rfl ?_
  exact l4_fault hlen htx len 0 0 0 0 7 _ _ _ (by omega) (by omega) (by omega) (by omega) (by omega) (by omega) (by omega) (by omega) (((Fr0.rf.put (by decide)).put (by decide)).put (by decide)) rfl rfl rfl rfl hl hQ
