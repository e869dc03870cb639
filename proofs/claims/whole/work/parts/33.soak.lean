/-- one step of the water: h what is hollow, l what lets it fall, x where it stands -/
def stp (σ : aS) (h l x : BitVec 64) : BitVec 64 := h &&& ((((((x &&& l) &&& σ.2 13 9) >>> wd σ) ||| (((x &&& l) &&& nt (σ.2 13 9)) <<< wd σ)) ||| (((x &&& nt l) &&& nt (σ.2 13 7)) >>> 1)) ||| (((x &&& nt l) &&& nt (σ.2 13 8)) <<< 1))
def soak (σ : aS) (h l : BitVec 64) : Nat → BitVec 64 → BitVec 64
  | 0, x => x
  | r + 1, x => if (stp σ h l x &&& nt x) = 0#64 then x else soak σ h l r (x ||| stp σ h l x)
set_option maxRecDepth 20000 in
theorem l0_soak {d : Nat} {Q : aQ} {σ : aS} {h s l T : BitVec 64} {NC : Nat} (hN : 18 ≤ NC) (w0 : 0 ≤ σ.1 13 2) (w7 : σ.1 13 2 ≤ 7) (hQ : Q (some (vl T)) σ) : ∀ (r : Nat) (x : BitVec 64) (j : Int) (x10 x11 x12 x13 x14 x15 : Option aV), j + r = 35 → 0 ≤ j → soak σ h l r x = T → Wp RX0 cX0_soaked NC (aCall NC (d + 1)) Q 2 false 0 (fun _ => 0) 15 [some (vr 13), some (vl h), none, some (vl s), none, some (vl l), none, some (vl x), none, some (vi j), x10, x11, x12, x13, x14, x15] [] σ := by
  intro r
  induction r with
  | zero =>
    intro x j x10 x11 x12 x13 x14 x15 hj j0 eT
    refine wp_iload dX0_soaked_15 rfl ?_
    refine wp_bipush dX0_soaked_17 (by decide) ?_
    refine wp_ic_ge 131 dX0_soaked_19 (by decide) (fun h19 => ?_) (fun h19 => ?_)
    · refine wp_lload dX0_soaked_131 rfl ?_
      refine wp_lret dX0_soaked_133 rfl ?_
      rw [← eT] at hQ
      exact hQ
    · exfalso; omega
  | succ r ih =>
    intro x j x10 x11 x12 x13 x14 x15 hj j0 eT
    unfold soak at eT
    refine wp_iload dX0_soaked_15 rfl ?_
    refine wp_bipush dX0_soaked_17 (by decide) ?_
    refine wp_ic_ge 131 dX0_soaked_19 (by decide) (fun h19 => ?_) (fun h19 => ?_)
    · exfalso; omega
    · refine wp_lload dX0_soaked_22 rfl ?_
      refine wp_lload dX0_soaked_24 rfl ?_
      refine wp_land dX0_soaked_26 ?_
      refine wp_lst (L' := [some (vr _), some (vl _), none, some (vl _), none, some (vl _), none, some (vl _), none, some (vi _), some (vl _), none, _, _, _, _]) dX0_soaked_27 (Nat.le_of_ble_eq_true rfl) rfl ?_
      refine wp_lload dX0_soaked_29 rfl ?_
      refine wp_lload dX0_soaked_31 rfl ?_
      refine wp_ldc2 dX0_soaked_33 llX0_44 ?_
      refine wp_lxor dX0_soaked_36 ?_
      refine wp_land dX0_soaked_37 ?_
      refine wp_lst (L' := [some (vr _), some (vl _), none, some (vl _), none, some (vl _), none, some (vl _), none, some (vi _), some (vl _), none, some (vl _), none, _, _]) dX0_soaked_38 (Nat.le_of_ble_eq_true rfl) rfl ?_
      refine wp_lload_n dX0_soaked_40 rfl ?_
      refine wp_lload dX0_soaked_41 rfl ?_
      refine wp_aload_n dX0_soaked_43 rfl ?_
      refine wp_getJ dX0_soaked_44 flX0_77 (by omega) rfl rfl ?_
      refine wp_land dX0_soaked_47 ?_
      refine wp_aload_n dX0_soaked_48 rfl ?_
      refine wp_getI dX0_soaked_49 flX0_65 (by omega) rfl (Or.inl rfl) ?_
      refine wp_lushr dX0_soaked_52 (by omega) (by omega) ?_
      refine wp_lload dX0_soaked_53 rfl ?_
      refine wp_aload_n dX0_soaked_55 rfl ?_
      refine wp_getJ dX0_soaked_56 flX0_77 (by omega) rfl rfl ?_
      refine wp_ldc2 dX0_soaked_59 llX0_44 ?_
      refine wp_lxor dX0_soaked_62 ?_
      refine wp_land dX0_soaked_63 ?_
      refine wp_aload_n dX0_soaked_64 rfl ?_
      refine wp_getI dX0_soaked_65 flX0_65 (by omega) rfl (Or.inl rfl) ?_
      refine wp_lshl dX0_soaked_68 (by omega) (by omega) ?_
      refine wp_lor dX0_soaked_69 ?_
      refine wp_lload dX0_soaked_70 rfl ?_
      refine wp_aload_n dX0_soaked_72 rfl ?_
      refine wp_getJ dX0_soaked_73 flX0_71 (by omega) rfl rfl ?_
      refine wp_ldc2 dX0_soaked_76 llX0_44 ?_
      refine wp_lxor dX0_soaked_79 ?_
      refine wp_land dX0_soaked_80 ?_
      refine wp_iconst dX0_soaked_81 (by decide) ?_
      refine wp_lushr dX0_soaked_82 (by omega) (by omega) ?_
      refine wp_lor dX0_soaked_83 ?_
      refine wp_lload dX0_soaked_84 rfl ?_
      refine wp_aload_n dX0_soaked_86 rfl ?_
      refine wp_getJ dX0_soaked_87 flX0_74 (by omega) rfl rfl ?_
      refine wp_ldc2 dX0_soaked_90 llX0_44 ?_
      refine wp_lxor dX0_soaked_93 ?_
      refine wp_land dX0_soaked_94 ?_
      refine wp_iconst dX0_soaked_95 (by decide) ?_
      refine wp_lshl dX0_soaked_96 (by omega) (by omega) ?_
      refine wp_lor dX0_soaked_97 ?_
      refine wp_land dX0_soaked_98 ?_
      refine wp_lst (L' := [some (vr _), some (vl _), none, some (vl _), none, some (vl _), none, some (vl _), none, some (vi _), some (vl _), none, some (vl _), none, some (vl _), none]) dX0_soaked_99 (Nat.le_of_ble_eq_true rfl) rfl ?_
      refine wp_lload dX0_soaked_101 rfl ?_
      refine wp_lload dX0_soaked_103 rfl ?_
      refine wp_ldc2 dX0_soaked_105 llX0_44 ?_
      refine wp_lxor dX0_soaked_108 ?_
      refine wp_land dX0_soaked_109 ?_
      refine wp_lconst0 dX0_soaked_110 ?_
      refine wp_lcmp dX0_soaked_111 ?_
      refine wp_if_ne 118 dX0_soaked_112 (by decide) (fun h112 => ?_) (fun h112 => ?_)
      · refine wp_lload dX0_soaked_118 rfl ?_
        refine wp_lload dX0_soaked_120 rfl ?_
        refine wp_lor dX0_soaked_122 ?_
        refine wp_lst (L' := [some (vr _), some (vl _), none, some (vl _), none, some (vl _), none, some (vl _), none, some (vi _), some (vl _), none, some (vl _), none, some (vl _), none]) dX0_soaked_123 (Nat.le_of_ble_eq_true rfl) rfl ?_
        refine wp_iincN (L' := [some (vr _), some (vl _), none, some (vl _), none, some (vl _), none, some (vl _), none, some (vi _), some (vl _), none, some (vl _), none, some (vl _), none]) dX0_soaked_125 rfl (by omega) rfl ?_
        refine wp_gotoN 15 dX0_soaked_128 (by decide) ?_
        have e9 : ¬ (stp σ h l x &&& nt x) = 0#64 := fun q => h112 (lcm_z.mpr q)
        rw [if_neg e9] at eT
        exact ih _ _ _ _ _ _ _ _ (by omega) (by omega) eT
      · refine wp_lload dX0_soaked_115 rfl ?_
        refine wp_lret dX0_soaked_117 rfl ?_
        have e9 : (stp σ h l x &&& nt x) = 0#64 := lcm_z.mp (by first | exact h112 | exact Classical.not_not.mp h112)
        rw [if_pos e9] at eT
        rw [← eT] at hQ
        exact hQ
set_option maxRecDepth 20000 in
theorem s0_soaked {d : Nat} {σ : aS} {Q : aQ} {h s : BitVec 64} {NC : Nat} (hN : 18 ≤ NC) (w0 : 0 ≤ σ.1 13 2) (w7 : σ.1 13 2 ≤ 7) (hQ : Q (some (vl (soak σ h (lsx σ h) 35 (s &&& h)))) σ) : aCall NC (d + 2) mX0_soaked [vr 13, vl h, vl s] σ Q := by
  refine cl_in (own := RX0) (cc := cX0_soaked) (rk := 2) (L := [some (vr 13), some (vl h), none, some (vl s), none, none, none, none, none, none, none, none, none, none, none, none]) rfl rfl rfl rfl (by decide) (Nat.le_of_ble_eq_true rfl) ?_
  refine wp_aload_n dX0_soaked_0 rfl ?_
  refine wp_lload_n dX0_soaked_1 rfl ?_
  refine wp_V1 dX0_soaked_2 vlX0_40 (by omega) rfl (Nat.le_of_ble_eq_true rfl) ?_
  refine s0_loose hN (by omega) (by omega) ?_
  refine wp_lst (L' := [some (vr _), some (vl _), none, some (vl _), none, some (vl _), none, none, none, none, none, none, none, none, none, none]) dX0_soaked_5 (Nat.le_of_ble_eq_true rfl) rfl ?_
  refine wp_lload_n dX0_soaked_7 rfl ?_
  refine wp_lload_n dX0_soaked_8 rfl ?_
  refine wp_land dX0_soaked_9 ?_
  refine wp_lst (L' := [some (vr _), some (vl _), none, some (vl _), none, some (vl _), none, some (vl _), none, none, none, none, none, none, none, none]) dX0_soaked_10 (Nat.le_of_ble_eq_true rfl) rfl ?_
  refine wp_iconst dX0_soaked_12 (by decide) ?_
  refine wp_ist (L' := [some (vr _), some (vl _), none, some (vl _), none, some (vl _), none, some (vl _), none, some (vi _), none, none, none, none, none, none]) dX0_soaked_13 (Nat.le_of_ble_eq_true rfl) rfl ?_
  exact l0_soak hN w0 w7 hQ 35 _ 0 _ _ _ _ _ _ (by omega) (by omega) rfl
