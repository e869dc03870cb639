/-- the class's cells stay -/
def Frx (σ σ' : aS) : Prop := (∀ c k, c < 18 → σ'.1 c k = σ.1 c k) ∧ σ'.2 = σ.2
theorem Frx.rf {σ : aS} : Frx σ σ := ⟨fun _ _ _ => rfl, rfl⟩
theorem Frx.put {σ σ' : aS} {c k : Nat} {x : Int} (h : Frx σ σ') (hc : 18 ≤ c) : Frx σ (sI σ' c k x) := ⟨fun c' k' h' => by rw [sI_ne (fun q => by omega)]; exact h.1 c' k' h', h.2⟩
theorem Frx.tr {σ σ' σ'' : aS} (h : Frx σ σ') (h' : Frx σ' σ'') : Frx σ σ'' := ⟨fun c k q => (h'.1 c k q).trans (h.1 c k q), h'.2.trans h.2⟩
theorem Frm.x {σ σ' : aS} (h : Frm σ σ') : Frx σ σ' := ⟨fun c k q => h.1 c k (by unfold scr; omega), h.2⟩
def up1 (f : Nat → Int) (k : Nat) (x : Int) : Nat → Int := fun j => if j = k then x else f j
def up2 (f : Nat → Nat → Int) (k : Nat) (r : Nat → Int) : Nat → Nat → Int := fun j => if j = k then r else f j
def mkT (z : aZ) (n : Nat) (c s : Nat → Int) : aZ := (zx z, zl z, zm z, zt z, n, c, s, zp z, zr z, zu z, zh z, zf z, zz z, zi z, zg z)
def mkP (z : aZ) (n : Nat) (r u : Nat → Int) : aZ := (zx z, zl z, zm z, zt z, zn z, zc z, zs z, n, r, u, zh z, zf z, zz z, zi z, zg z)
def mkS (z : aZ) (h f s : Nat → Int) (i : Nat → Nat → Int) (g : Int) : aZ := (zx z, zl z, zm z, zt z, zn z, zc z, zs z, zp z, zr z, zu z, h, f, s, i, g)
def vType (z : aZ) (b : Int) : Int := if 0 ≤ b ∧ b ≤ 255 then (if zl z = 39 then -4 else zl z + 1) else -2
def uType (z : aZ) (b : Int) : aZ := if (0 ≤ b ∧ b ≤ 255) ∧ zl z ≠ 39 then (up1 (zx z) (zl z) b, zl z + 1, z.2.2) else z
def uWipe (z : aZ) : aZ := (zx z, 0, z.2.2)
def vUndo (z : aZ) : Int := if zl z = 0 then -3 else zl z - 1
def uUndo (z : aZ) : aZ := (zx z, zl z - 1, z.2.2)
def okSet (w v : Int) : Prop := (w = 0 ∧ 0 ≤ v ∧ v ≤ 5) ∨ (w = 1 ∧ 0 ≤ v ∧ v ≤ 9)
noncomputable def vSet (z : aZ) (w v : Int) : Int := cif (okSet w v) (if w = 0 then zm z else zt z) (-2)
noncomputable def uSet (z : aZ) (w v : Int) : aZ := cif (okSet w v) (z.1, z.2.1, if w = 0 then v else zm z, if w = 1 then v else zt z, z.2.2.2.2) z
def okThing (c s : Int) : Prop := (0 ≤ c ∧ c ≤ 34) ∧ (0 ≤ s ∧ s ≤ 99)
noncomputable def vThing (z : aZ) (c s : Int) : Int := cif (okThing c s) (if zn z = 8 then -4 else zn z + 1) (-2)
noncomputable def uThing (z : aZ) (c s : Int) : aZ := cif (okThing c s ∧ zn z ≠ 8) (mkT z (zn z + 1) (up1 (zc z) (zn z) c) (up1 (zs z) (zn z) s)) z
def vBack (z : aZ) : Int := if zn z = 0 then -3 else zn z - 1
def uBack (z : aZ) : aZ := mkT z (zn z - 1) (zc z) (zs z)
def okPlumb (r u : Int) : Prop := (0 ≤ r ∧ r ≤ 4) ∧ (0 ≤ u ∧ u ≤ 1)
noncomputable def vPlumb (z : aZ) (r u : Int) : Int := cif (okPlumb r u) (if zp z = 8 then -4 else zp z + 1) (-2)
noncomputable def uPlumb (z : aZ) (r u : Int) : aZ := cif (okPlumb r u ∧ zp z ≠ 8) (mkP z (zp z + 1) (up1 (zr z) (zp z) r) (up1 (zu z) (zp z) u)) z
def uForget (z : aZ) : aZ := mkP z 0 (zr z) (zu z)
set_option maxRecDepth 20000 in
theorem p4_type {d : Nat} {σ : aS} {Q : aQ} {b : Int} {z : aZ} (hm : MI σ z) (hz : ZV z) (hQ : ∀ σ', Frx σ σ' → MI σ' (uType z b) → Q (some (vi (vType z b))) σ') : aCall 34 (d + 2) mX4_type [vr 18, vi b] σ Q := by
  refine cl_in (own := RX4) (cc := cX4_type) (rk := 0) (L := [some (vr 18), some (vi b)]) rfl rfl rfl rfl (by decide) (Nat.le_of_ble_eq_true rfl) ?_
  have hl := hz.1
  obtain ⟨h1, h2, h3, h4, h5, h6, h7, h8, h9, h10⟩ := id hm
  refine wp_iload_n dX4_type_0 rfl ?_
  refine wp_iconst dX4_type_1 (by decide) ?_
  refine wp_sipush dX4_type_2 (by decide) ?_
  refine wp_S3 dX4_type_5 zlX4_65 (Nat.le_of_ble_eq_true rfl) ?_
  refine s4_in ?_
  refine wp_ifB_ne 14 dX4_type_8 (by decide) (fun hh8 => ?_) (fun hh8 => ?_)
  · refine wp_aload_n dX4_type_14 rfl ?_
    refine wp_getI dX4_type_15 flX4_69 (by decide) rfl (Or.inl rfl) ?_
    refine wp_bipush dX4_type_18 (by decide) ?_
    refine wp_ic_ne 26 dX4_type_20 (by decide) (fun hh20 => ?_) (fun hh20 => ?_)
    · refine wp_aload_n dX4_type_26 rfl ?_
      refine wp_getR dX4_type_27 flX4_7 (by decide) rfl rfl ?_
      refine wp_aload_n dX4_type_30 rfl ?_
      refine wp_getI dX4_type_31 flX4_69 (by decide) rfl (Or.inl rfl) ?_
      refine wp_iload_n dX4_type_34 rfl ?_
      refine wp_iastore dX4_type_35 (by decide) rfl (by omega) (by omega) (by decide) ?_
      refine wp_aload_n dX4_type_36 rfl ?_
      refine wp_dup dX4_type_37 rfl ?_
      refine wp_getI dX4_type_38 flX4_69 (by decide) rfl (Or.inl rfl) ?_
      rw [sI_ne (fun q => absurd q.1 (by decide))]
      refine wp_iconst dX4_type_41 (by decide) ?_
      refine wp_iaddN dX4_type_42 (by omega) ?_
      refine wp_putI dX4_type_43 flX4_69 (by decide) rfl rfl rfl rfl ?_
      refine wp_aload_n dX4_type_46 rfl ?_
      refine wp_getI dX4_type_47 flX4_69 (by decide) rfl (Or.inl rfl) ?_
      rw [sI_eq]
      refine wp_iret dX4_type_50 (Or.inl rfl) ?_
      have e0 : vType z b = zl z + 1 := by unfold vType; rw [if_pos (by omega), if_neg (by omega)]
      have e1 : uType z b = (up1 (zx z) (zl z) b, zl z + 1, z.2.2) := by unfold uType; rw [if_pos ⟨by omega, by omega⟩]
      rw [e0, e1] at hQ
      refine q_i (by omega) (hQ _ ((Frx.rf.put (by decide)).put (by decide)) ⟨by show σ.1 18 1 + 1 = ((zl z + 1 : Nat) : Int); omega, fun k hk => ?_, h3, h4, h5, h6, h7, h8, h9, h10⟩)
      show (if 19 = 19 ∧ k = (σ.1 18 1).toNat then b else σ.1 19 k) = up1 (zx z) (zl z) b k
      have hk : k < zl z + 1 := hk
      unfold up1
      by_cases hkk : k = zl z
      · rw [if_pos hkk, if_pos ⟨rfl, by omega⟩]
      · rw [if_neg hkk, if_neg (fun q => by omega)]; exact h2 k (by omega)
    · refine wp_bipush dX4_type_23 (by decide) ?_
      refine wp_iret dX4_type_25 (Or.inl rfl) ?_
      have e0 : vType z b = -4 := by unfold vType; rw [if_pos (by omega), if_pos (by omega)]
      have e1 : uType z b = z := by unfold uType; rw [if_neg (by omega)]
      rw [e0, e1] at hQ
      exact hQ σ Frx.rf hm
  · refine wp_bipush dX4_type_11 (by decide) ?_
    refine wp_iret dX4_type_13 (Or.inl rfl) ?_
    have e0 : vType z b = -2 := by unfold vType; rw [if_neg (by omega)]
    have e1 : uType z b = z := by unfold uType; rw [if_neg (by omega)]
    rw [e0, e1] at hQ
    exact hQ σ Frx.rf hm
set_option maxRecDepth 20000 in
theorem p4_wipe {d : Nat} {σ : aS} {Q : aQ} {z : aZ} (hm : MI σ z) (hz : ZV z) (hQ : ∀ σ', Frx σ σ' → MI σ' (uWipe z) → Q (some (vi (zl z))) σ') : aCall 34 (d + 1) mX4_wipe [vr 18] σ Q := by
  refine cl_in (own := RX4) (cc := cX4_wipe) (rk := 0) (L := [some (vr 18), none]) rfl rfl rfl rfl (by decide) (Nat.le_of_ble_eq_true rfl) ?_
  obtain ⟨h1, h2, h3, h4, h5, h6, h7, h8, h9, h10⟩ := id hm
  refine wp_aload_n dX4_wipe_0 rfl ?_
  refine wp_getI dX4_wipe_1 flX4_69 (by decide) rfl (Or.inl rfl) ?_
  refine wp_istN (L' := [some (vr _), some (vi _)]) dX4_wipe_4 (Nat.le_of_ble_eq_true rfl) rfl ?_
  refine wp_aload_n dX4_wipe_5 rfl ?_
  refine wp_iconst dX4_wipe_6 (by decide) ?_
  refine wp_putI dX4_wipe_7 flX4_69 (by decide) rfl rfl rfl rfl ?_
  refine wp_iload_n dX4_wipe_10 rfl ?_
  refine wp_iret dX4_wipe_11 (Or.inl rfl) ?_
  exact q_i h1 (hQ _ (Frx.rf.put (by decide)) ⟨rfl, fun k hk => absurd hk (Nat.not_lt_zero k), h3, h4, h5, h6, h7, h8, h9, h10⟩)
set_option maxRecDepth 20000 in
theorem p4_undo {d : Nat} {σ : aS} {Q : aQ} {z : aZ} (hm : MI σ z) (hz : ZV z) (hQ : ∀ σ', Frx σ σ' → MI σ' (uUndo z) → Q (some (vi (vUndo z))) σ') : aCall 34 (d + 1) mX4_undo [vr 18] σ Q := by
  refine cl_in (own := RX4) (cc := cX4_undo) (rk := 0) (L := [some (vr 18)]) rfl rfl rfl rfl (by decide) (Nat.le_of_ble_eq_true rfl) ?_
  have hl := hz.1
  obtain ⟨h1, h2, h3, h4, h5, h6, h7, h8, h9, h10⟩ := id hm
  refine wp_aload_n dX4_undo_0 rfl ?_
  refine wp_getI dX4_undo_1 flX4_69 (by decide) rfl (Or.inl rfl) ?_
  refine wp_if_ne 10 dX4_undo_4 (by decide) (fun hh4 => ?_) (fun hh4 => ?_)
  · refine wp_aload_n dX4_undo_10 rfl ?_
    refine wp_dup dX4_undo_11 rfl ?_
    refine wp_getI dX4_undo_12 flX4_69 (by decide) rfl (Or.inl rfl) ?_
    refine wp_iconst dX4_undo_15 (by decide) ?_
    refine wp_isubN dX4_undo_16 (by omega) ?_
    refine wp_putI dX4_undo_17 flX4_69 (by decide) rfl rfl rfl rfl ?_
    refine wp_aload_n dX4_undo_20 rfl ?_
    refine wp_getI dX4_undo_21 flX4_69 (by decide) rfl (Or.inl rfl) ?_
    rw [sI_eq]
    refine wp_iret dX4_undo_24 (Or.inl rfl) ?_
    have e0 : vUndo z = zl z - 1 := by unfold vUndo; rw [if_neg (by omega)]
    rw [e0] at hQ
    exact q_i (by omega) (hQ _ (Frx.rf.put (by decide)) ⟨by show σ.1 18 1 - 1 = ((zl z - 1 : Nat) : Int); omega, fun k hk => h2 k (by have hk : k < zl z - 1 := hk; omega), h3, h4, h5, h6, h7, h8, h9, h10⟩)
  · refine wp_bipush dX4_undo_7 (by decide) ?_
    refine wp_iret dX4_undo_9 (Or.inl rfl) ?_
    have e0 : vUndo z = -3 := by unfold vUndo; rw [if_pos (by omega)]
    rw [e0] at hQ
    exact hQ σ Frx.rf ⟨by show σ.1 18 1 = ((zl z - 1 : Nat) : Int); omega, fun k hk => h2 k (by have hk : k < zl z - 1 := hk; omega), h3, h4, h5, h6, h7, h8, h9, h10⟩
set_option maxRecDepth 20000 in
theorem p4_set {d : Nat} {σ : aS} {Q : aQ} {w v : Int} {z : aZ} (hm : MI σ z) (hz : ZV z) (hQ : ∀ σ', Frx σ σ' → MI σ' (uSet z w v) → Q (some (vi (vSet z w v))) σ') : aCall 34 (d + 2) mX4_set [vr 18, vi w, vi v] σ Q := by
  refine cl_in (own := RX4) (cc := cX4_set) (rk := 0) (L := [some (vr 18), some (vi w), some (vi v), none]) rfl rfl rfl rfl (by decide) (Nat.le_of_ble_eq_true rfl) ?_
  obtain ⟨h1, h2, h3, h4, h5, h6, h7, h8, h9, h10⟩ := id hm
  refine wp_iload_n dX4_set_0 rfl ?_
  refine wp_iconst dX4_set_1 (by decide) ?_
  refine wp_iconst dX4_set_2 (by decide) ?_
  refine wp_S3 dX4_set_3 zlX4_65 (Nat.le_of_ble_eq_true rfl) ?_
  refine s4_in ?_
  refine wp_ifB_eq 27 dX4_set_6 (by decide) (fun hh6 => ?_) (fun hh6 => ?_)
  · refine wp_bipush dX4_set_27 (by decide) ?_
    refine wp_iret dX4_set_29 (Or.inl rfl) ?_
    have e0 : vSet z w v = -2 := by unfold vSet; rw [cif_f (show ¬ okSet w v by unfold okSet; omega)]
    have e1 : uSet z w v = z := by unfold uSet; rw [cif_f (show ¬ okSet w v by unfold okSet; omega)]
    rw [e0, e1] at hQ
    exact hQ σ Frx.rf hm
  · refine wp_iload_n dX4_set_9 rfl ?_
    refine wp_iconst dX4_set_10 (by decide) ?_
    refine wp_iload_n dX4_set_11 rfl ?_
    refine wp_if_ne 19 dX4_set_12 (by decide) (fun hh12 => ?_) (fun hh12 => ?_)
    · refine wp_bipush dX4_set_19 (by decide) ?_
      refine wp_S3 dX4_set_21 zlX4_65 (Nat.le_of_ble_eq_true rfl) ?_
      refine s4_in ?_
      refine wp_ifB_ne 30 dX4_set_24 (by decide) (fun hh24 => ?_) (fun hh24 => ?_)
      · refine wp_iload_n dX4_set_30 rfl ?_
        refine wp_if_ne 41 dX4_set_31 (by decide) (fun hh31 => ?_) (fun hh31 => ?_)
        · refine wp_aload_n dX4_set_41 rfl ?_
          refine wp_getI dX4_set_42 flX4_60 (by decide) rfl (Or.inl rfl) ?_
          refine wp_istN (L' := [some (vr _), some (vi _), some (vi _), some (vi _)]) dX4_set_45 (Nat.le_of_ble_eq_true rfl) rfl ?_
          refine wp_aload_n dX4_set_46 rfl ?_
          refine wp_iload_n dX4_set_47 rfl ?_
          refine wp_if_ne 55 dX4_set_48 (by decide) (fun hh48 => ?_) (fun hh48 => ?_)
          · refine wp_aload_n dX4_set_55 rfl ?_
            refine wp_getI dX4_set_56 flX4_56 (by decide) rfl (Or.inl rfl) ?_
            refine wp_putI dX4_set_59 flX4_56 (by decide) rfl rfl rfl rfl ?_
            refine wp_aload_n dX4_set_62 rfl ?_
            refine wp_iload_n dX4_set_63 rfl ?_
            refine wp_iconst dX4_set_64 (by decide) ?_
            refine wp_ic_ne 72 dX4_set_65 (by decide) (fun hh65 => ?_) (fun hh65 => ?_)
            · refine wp_aload_n dX4_set_72 rfl ?_
              refine wp_getI dX4_set_73 flX4_60 (by decide) rfl (Or.inl rfl) ?_
              rw [sI_ne (fun q => absurd q.2 (by decide))]
              refine wp_putI dX4_set_76 flX4_60 (by decide) rfl rfl rfl rfl ?_
              refine wp_iload_n dX4_set_79 rfl ?_
              refine wp_iret dX4_set_80 (Or.inl rfl) ?_
              first
              | (exfalso; omega)
              | (
                have e0 : vSet z w v = (if w = 0 then zm z else zt z) := by unfold vSet; rw [cif_t (show okSet w v by unfold okSet; omega)]
                have e1 : uSet z w v = (z.1, z.2.1, if w = 0 then v else zm z, if w = 1 then v else zt z, z.2.2.2.2) := by unfold uSet; rw [cif_t (show okSet w v by unfold okSet; omega)]
                rw [e0, e1] at hQ
                have hw0 : w = 0 := by omega
                have hw1 : ¬ w = 1 := by omega
                rw [if_pos hw0, if_neg hw1, if_pos hw0] at hQ
                exact q_i (by omega) (hQ _ ((Frx.rf.put (by decide)).put (by decide)) ⟨h1, h2, rfl, h4, h5, h6, h7, h8, h9, h10⟩))
              | (
                have e0 : vSet z w v = (if w = 0 then zm z else zt z) := by unfold vSet; rw [cif_t (show okSet w v by unfold okSet; omega)]
                have e1 : uSet z w v = (z.1, z.2.1, if w = 0 then v else zm z, if w = 1 then v else zt z, z.2.2.2.2) := by unfold uSet; rw [cif_t (show okSet w v by unfold okSet; omega)]
                rw [e0, e1] at hQ
                have hw0 : ¬ w = 0 := by omega
                have hw1 : w = 1 := by omega
                rw [if_neg hw0, if_pos hw1, if_neg hw0] at hQ
                exact q_i (by omega) (hQ _ ((Frx.rf.put (by decide)).put (by decide)) ⟨h1, h2, h3, rfl, h5, h6, h7, h8, h9, h10⟩))
            · refine wp_iload_n dX4_set_68 rfl ?_
              refine wp_gotoN 76 dX4_set_69 (by decide) ?_
              refine wp_putI dX4_set_76 flX4_60 (by decide) rfl rfl rfl rfl ?_
              refine wp_iload_n dX4_set_79 rfl ?_
              refine wp_iret dX4_set_80 (Or.inl rfl) ?_
              first
              | (exfalso; omega)
              | (
                have e0 : vSet z w v = (if w = 0 then zm z else zt z) := by unfold vSet; rw [cif_t (show okSet w v by unfold okSet; omega)]
                have e1 : uSet z w v = (z.1, z.2.1, if w = 0 then v else zm z, if w = 1 then v else zt z, z.2.2.2.2) := by unfold uSet; rw [cif_t (show okSet w v by unfold okSet; omega)]
                rw [e0, e1] at hQ
                have hw0 : w = 0 := by omega
                have hw1 : ¬ w = 1 := by omega
                rw [if_pos hw0, if_neg hw1, if_pos hw0] at hQ
                exact q_i (by omega) (hQ _ ((Frx.rf.put (by decide)).put (by decide)) ⟨h1, h2, rfl, h4, h5, h6, h7, h8, h9, h10⟩))
              | (
                have e0 : vSet z w v = (if w = 0 then zm z else zt z) := by unfold vSet; rw [cif_t (show okSet w v by unfold okSet; omega)]
                have e1 : uSet z w v = (z.1, z.2.1, if w = 0 then v else zm z, if w = 1 then v else zt z, z.2.2.2.2) := by unfold uSet; rw [cif_t (show okSet w v by unfold okSet; omega)]
                rw [e0, e1] at hQ
                have hw0 : ¬ w = 0 := by omega
                have hw1 : w = 1 := by omega
                rw [if_neg hw0, if_pos hw1, if_neg hw0] at hQ
                exact q_i (by omega) (hQ _ ((Frx.rf.put (by decide)).put (by decide)) ⟨h1, h2, h3, rfl, h5, h6, h7, h8, h9, h10⟩))
          · refine wp_iload_n dX4_set_51 rfl ?_
            refine wp_gotoN 59 dX4_set_52 (by decide) ?_
            refine wp_putI dX4_set_59 flX4_56 (by decide) rfl rfl rfl rfl ?_
            refine wp_aload_n dX4_set_62 rfl ?_
            refine wp_iload_n dX4_set_63 rfl ?_
            refine wp_iconst dX4_set_64 (by decide) ?_
            refine wp_ic_ne 72 dX4_set_65 (by decide) (fun hh65 => ?_) (fun hh65 => ?_)
            · refine wp_aload_n dX4_set_72 rfl ?_
              refine wp_getI dX4_set_73 flX4_60 (by decide) rfl (Or.inl rfl) ?_
              rw [sI_ne (fun q => absurd q.2 (by decide))]
              refine wp_putI dX4_set_76 flX4_60 (by decide) rfl rfl rfl rfl ?_
              refine wp_iload_n dX4_set_79 rfl ?_
              refine wp_iret dX4_set_80 (Or.inl rfl) ?_
              first
              | (exfalso; omega)
              | (
                have e0 : vSet z w v = (if w = 0 then zm z else zt z) := by unfold vSet; rw [cif_t (show okSet w v by unfold okSet; omega)]
                have e1 : uSet z w v = (z.1, z.2.1, if w = 0 then v else zm z, if w = 1 then v else zt z, z.2.2.2.2) := by unfold uSet; rw [cif_t (show okSet w v by unfold okSet; omega)]
                rw [e0, e1] at hQ
                have hw0 : w = 0 := by omega
                have hw1 : ¬ w = 1 := by omega
                rw [if_pos hw0, if_neg hw1, if_pos hw0] at hQ
                exact q_i (by omega) (hQ _ ((Frx.rf.put (by decide)).put (by decide)) ⟨h1, h2, rfl, h4, h5, h6, h7, h8, h9, h10⟩))
              | (
                have e0 : vSet z w v = (if w = 0 then zm z else zt z) := by unfold vSet; rw [cif_t (show okSet w v by unfold okSet; omega)]
                have e1 : uSet z w v = (z.1, z.2.1, if w = 0 then v else zm z, if w = 1 then v else zt z, z.2.2.2.2) := by unfold uSet; rw [cif_t (show okSet w v by unfold okSet; omega)]
                rw [e0, e1] at hQ
                have hw0 : ¬ w = 0 := by omega
                have hw1 : w = 1 := by omega
                rw [if_neg hw0, if_pos hw1, if_neg hw0] at hQ
                exact q_i (by omega) (hQ _ ((Frx.rf.put (by decide)).put (by decide)) ⟨h1, h2, h3, rfl, h5, h6, h7, h8, h9, h10⟩))
            · refine wp_iload_n dX4_set_68 rfl ?_
              refine wp_gotoN 76 dX4_set_69 (by decide) ?_
              refine wp_putI dX4_set_76 flX4_60 (by decide) rfl rfl rfl rfl ?_
              refine wp_iload_n dX4_set_79 rfl ?_
              refine wp_iret dX4_set_80 (Or.inl rfl) ?_
              first
              | (exfalso; omega)
              | (
                have e0 : vSet z w v = (if w = 0 then zm z else zt z) := by unfold vSet; rw [cif_t (show okSet w v by unfold okSet; omega)]
                have e1 : uSet z w v = (z.1, z.2.1, if w = 0 then v else zm z, if w = 1 then v else zt z, z.2.2.2.2) := by unfold uSet; rw [cif_t (show okSet w v by unfold okSet; omega)]
                rw [e0, e1] at hQ
                have hw0 : w = 0 := by omega
                have hw1 : ¬ w = 1 := by omega
                rw [if_pos hw0, if_neg hw1, if_pos hw0] at hQ
                exact q_i (by omega) (hQ _ ((Frx.rf.put (by decide)).put (by decide)) ⟨h1, h2, rfl, h4, h5, h6, h7, h8, h9, h10⟩))
              | (
                have e0 : vSet z w v = (if w = 0 then zm z else zt z) := by unfold vSet; rw [cif_t (show okSet w v by unfold okSet; omega)]
                have e1 : uSet z w v = (z.1, z.2.1, if w = 0 then v else zm z, if w = 1 then v else zt z, z.2.2.2.2) := by unfold uSet; rw [cif_t (show okSet w v by unfold okSet; omega)]
                rw [e0, e1] at hQ
                have hw0 : ¬ w = 0 := by omega
                have hw1 : w = 1 := by omega
                rw [if_neg hw0, if_pos hw1, if_neg hw0] at hQ
                exact q_i (by omega) (hQ _ ((Frx.rf.put (by decide)).put (by decide)) ⟨h1, h2, h3, rfl, h5, h6, h7, h8, h9, h10⟩))
        · refine wp_aload_n dX4_set_34 rfl ?_
          refine wp_getI dX4_set_35 flX4_56 (by decide) rfl (Or.inl rfl) ?_
          refine wp_gotoN 45 dX4_set_38 (by decide) ?_
          refine wp_istN (L' := [some (vr _), some (vi _), some (vi _), some (vi _)]) dX4_set_45 (Nat.le_of_ble_eq_true rfl) rfl ?_
          refine wp_aload_n dX4_set_46 rfl ?_
          refine wp_iload_n dX4_set_47 rfl ?_
          refine wp_if_ne 55 dX4_set_48 (by decide) (fun hh48 => ?_) (fun hh48 => ?_)
          · refine wp_aload_n dX4_set_55 rfl ?_
            refine wp_getI dX4_set_56 flX4_56 (by decide) rfl (Or.inl rfl) ?_
            refine wp_putI dX4_set_59 flX4_56 (by decide) rfl rfl rfl rfl ?_
            refine wp_aload_n dX4_set_62 rfl ?_
            refine wp_iload_n dX4_set_63 rfl ?_
            refine wp_iconst dX4_set_64 (by decide) ?_
            refine wp_ic_ne 72 dX4_set_65 (by decide) (fun hh65 => ?_) (fun hh65 => ?_)
            · refine wp_aload_n dX4_set_72 rfl ?_
              refine wp_getI dX4_set_73 flX4_60 (by decide) rfl (Or.inl rfl) ?_
              rw [sI_ne (fun q => absurd q.2 (by decide))]
              refine wp_putI dX4_set_76 flX4_60 (by decide) rfl rfl rfl rfl ?_
              refine wp_iload_n dX4_set_79 rfl ?_
              refine wp_iret dX4_set_80 (Or.inl rfl) ?_
              first
              | (exfalso; omega)
              | (
                have e0 : vSet z w v = (if w = 0 then zm z else zt z) := by unfold vSet; rw [cif_t (show okSet w v by unfold okSet; omega)]
                have e1 : uSet z w v = (z.1, z.2.1, if w = 0 then v else zm z, if w = 1 then v else zt z, z.2.2.2.2) := by unfold uSet; rw [cif_t (show okSet w v by unfold okSet; omega)]
                rw [e0, e1] at hQ
                have hw0 : w = 0 := by omega
                have hw1 : ¬ w = 1 := by omega
                rw [if_pos hw0, if_neg hw1, if_pos hw0] at hQ
                exact q_i (by omega) (hQ _ ((Frx.rf.put (by decide)).put (by decide)) ⟨h1, h2, rfl, h4, h5, h6, h7, h8, h9, h10⟩))
              | (
                have e0 : vSet z w v = (if w = 0 then zm z else zt z) := by unfold vSet; rw [cif_t (show okSet w v by unfold okSet; omega)]
                have e1 : uSet z w v = (z.1, z.2.1, if w = 0 then v else zm z, if w = 1 then v else zt z, z.2.2.2.2) := by unfold uSet; rw [cif_t (show okSet w v by unfold okSet; omega)]
                rw [e0, e1] at hQ
                have hw0 : ¬ w = 0 := by omega
                have hw1 : w = 1 := by omega
                rw [if_neg hw0, if_pos hw1, if_neg hw0] at hQ
                exact q_i (by omega) (hQ _ ((Frx.rf.put (by decide)).put (by decide)) ⟨h1, h2, h3, rfl, h5, h6, h7, h8, h9, h10⟩))
            · refine wp_iload_n dX4_set_68 rfl ?_
              refine wp_gotoN 76 dX4_set_69 (by decide) ?_
              refine wp_putI dX4_set_76 flX4_60 (by decide) rfl rfl rfl rfl ?_
              refine wp_iload_n dX4_set_79 rfl ?_
              refine wp_iret dX4_set_80 (Or.inl rfl) ?_
              first
              | (exfalso; omega)
              | (
                have e0 : vSet z w v = (if w = 0 then zm z else zt z) := by unfold vSet; rw [cif_t (show okSet w v by unfold okSet; omega)]
                have e1 : uSet z w v = (z.1, z.2.1, if w = 0 then v else zm z, if w = 1 then v else zt z, z.2.2.2.2) := by unfold uSet; rw [cif_t (show okSet w v by unfold okSet; omega)]
                rw [e0, e1] at hQ
                have hw0 : w = 0 := by omega
                have hw1 : ¬ w = 1 := by omega
                rw [if_pos hw0, if_neg hw1, if_pos hw0] at hQ
                exact q_i (by omega) (hQ _ ((Frx.rf.put (by decide)).put (by decide)) ⟨h1, h2, rfl, h4, h5, h6, h7, h8, h9, h10⟩))
              | (
                have e0 : vSet z w v = (if w = 0 then zm z else zt z) := by unfold vSet; rw [cif_t (show okSet w v by unfold okSet; omega)]
                have e1 : uSet z w v = (z.1, z.2.1, if w = 0 then v else zm z, if w = 1 then v else zt z, z.2.2.2.2) := by unfold uSet; rw [cif_t (show okSet w v by unfold okSet; omega)]
                rw [e0, e1] at hQ
                have hw0 : ¬ w = 0 := by omega
                have hw1 : w = 1 := by omega
                rw [if_neg hw0, if_pos hw1, if_neg hw0] at hQ
                exact q_i (by omega) (hQ _ ((Frx.rf.put (by decide)).put (by decide)) ⟨h1, h2, h3, rfl, h5, h6, h7, h8, h9, h10⟩))
          · refine wp_iload_n dX4_set_51 rfl ?_
            refine wp_gotoN 59 dX4_set_52 (by decide) ?_
            refine wp_putI dX4_set_59 flX4_56 (by decide) rfl rfl rfl rfl ?_
            refine wp_aload_n dX4_set_62 rfl ?_
            refine wp_iload_n dX4_set_63 rfl ?_
            refine wp_iconst dX4_set_64 (by decide) ?_
            refine wp_ic_ne 72 dX4_set_65 (by decide) (fun hh65 => ?_) (fun hh65 => ?_)
            · refine wp_aload_n dX4_set_72 rfl ?_
              refine wp_getI dX4_set_73 flX4_60 (by decide) rfl (Or.inl rfl) ?_
              rw [sI_ne (fun q => absurd q.2 (by decide))]
              refine wp_putI dX4_set_76 flX4_60 (by decide) rfl rfl rfl rfl ?_
              refine wp_iload_n dX4_set_79 rfl ?_
              refine wp_iret dX4_set_80 (Or.inl rfl) ?_
              first
              | (exfalso; omega)
              | (
                have e0 : vSet z w v = (if w = 0 then zm z else zt z) := by unfold vSet; rw [cif_t (show okSet w v by unfold okSet; omega)]
                have e1 : uSet z w v = (z.1, z.2.1, if w = 0 then v else zm z, if w = 1 then v else zt z, z.2.2.2.2) := by unfold uSet; rw [cif_t (show okSet w v by unfold okSet; omega)]
                rw [e0, e1] at hQ
                have hw0 : w = 0 := by omega
                have hw1 : ¬ w = 1 := by omega
                rw [if_pos hw0, if_neg hw1, if_pos hw0] at hQ
                exact q_i (by omega) (hQ _ ((Frx.rf.put (by decide)).put (by decide)) ⟨h1, h2, rfl, h4, h5, h6, h7, h8, h9, h10⟩))
              | (
                have e0 : vSet z w v = (if w = 0 then zm z else zt z) := by unfold vSet; rw [cif_t (show okSet w v by unfold okSet; omega)]
                have e1 : uSet z w v = (z.1, z.2.1, if w = 0 then v else zm z, if w = 1 then v else zt z, z.2.2.2.2) := by unfold uSet; rw [cif_t (show okSet w v by unfold okSet; omega)]
                rw [e0, e1] at hQ
                have hw0 : ¬ w = 0 := by omega
                have hw1 : w = 1 := by omega
                rw [if_neg hw0, if_pos hw1, if_neg hw0] at hQ
                exact q_i (by omega) (hQ _ ((Frx.rf.put (by decide)).put (by decide)) ⟨h1, h2, h3, rfl, h5, h6, h7, h8, h9, h10⟩))
            · refine wp_iload_n dX4_set_68 rfl ?_
              refine wp_gotoN 76 dX4_set_69 (by decide) ?_
              refine wp_putI dX4_set_76 flX4_60 (by decide) rfl rfl rfl rfl ?_
              refine wp_iload_n dX4_set_79 rfl ?_
              refine wp_iret dX4_set_80 (Or.inl rfl) ?_
              first
              | (exfalso; omega)
              | (
                have e0 : vSet z w v = (if w = 0 then zm z else zt z) := by unfold vSet; rw [cif_t (show okSet w v by unfold okSet; omega)]
                have e1 : uSet z w v = (z.1, z.2.1, if w = 0 then v else zm z, if w = 1 then v else zt z, z.2.2.2.2) := by unfold uSet; rw [cif_t (show okSet w v by unfold okSet; omega)]
                rw [e0, e1] at hQ
                have hw0 : w = 0 := by omega
                have hw1 : ¬ w = 1 := by omega
                rw [if_pos hw0, if_neg hw1, if_pos hw0] at hQ
                exact q_i (by omega) (hQ _ ((Frx.rf.put (by decide)).put (by decide)) ⟨h1, h2, rfl, h4, h5, h6, h7, h8, h9, h10⟩))
              | (
                have e0 : vSet z w v = (if w = 0 then zm z else zt z) := by unfold vSet; rw [cif_t (show okSet w v by unfold okSet; omega)]
                have e1 : uSet z w v = (z.1, z.2.1, if w = 0 then v else zm z, if w = 1 then v else zt z, z.2.2.2.2) := by unfold uSet; rw [cif_t (show okSet w v by unfold okSet; omega)]
                rw [e0, e1] at hQ
                have hw0 : ¬ w = 0 := by omega
                have hw1 : w = 1 := by omega
                rw [if_neg hw0, if_pos hw1, if_neg hw0] at hQ
                exact q_i (by omega) (hQ _ ((Frx.rf.put (by decide)).put (by decide)) ⟨h1, h2, h3, rfl, h5, h6, h7, h8, h9, h10⟩))
      · refine wp_bipush dX4_set_27 (by decide) ?_
        refine wp_iret dX4_set_29 (Or.inl rfl) ?_
        have e0 : vSet z w v = -2 := by unfold vSet; rw [cif_f (show ¬ okSet w v by unfold okSet; omega)]
        have e1 : uSet z w v = z := by unfold uSet; rw [cif_f (show ¬ okSet w v by unfold okSet; omega)]
        rw [e0, e1] at hQ
        exact hQ σ Frx.rf hm
    · refine wp_iconst dX4_set_15 (by decide) ?_
      refine wp_gotoN 21 dX4_set_16 (by decide) ?_
      refine wp_S3 dX4_set_21 zlX4_65 (Nat.le_of_ble_eq_true rfl) ?_
      refine s4_in ?_
      refine wp_ifB_ne 30 dX4_set_24 (by decide) (fun hh24 => ?_) (fun hh24 => ?_)
      · refine wp_iload_n dX4_set_30 rfl ?_
        refine wp_if_ne 41 dX4_set_31 (by decide) (fun hh31 => ?_) (fun hh31 => ?_)
        · refine wp_aload_n dX4_set_41 rfl ?_
          refine wp_getI dX4_set_42 flX4_60 (by decide) rfl (Or.inl rfl) ?_
          refine wp_istN (L' := [some (vr _), some (vi _), some (vi _), some (vi _)]) dX4_set_45 (Nat.le_of_ble_eq_true rfl) rfl ?_
          refine wp_aload_n dX4_set_46 rfl ?_
          refine wp_iload_n dX4_set_47 rfl ?_
          refine wp_if_ne 55 dX4_set_48 (by decide) (fun hh48 => ?_) (fun hh48 => ?_)
          · refine wp_aload_n dX4_set_55 rfl ?_
            refine wp_getI dX4_set_56 flX4_56 (by decide) rfl (Or.inl rfl) ?_
            refine wp_putI dX4_set_59 flX4_56 (by decide) rfl rfl rfl rfl ?_
            refine wp_aload_n dX4_set_62 rfl ?_
            refine wp_iload_n dX4_set_63 rfl ?_
            refine wp_iconst dX4_set_64 (by decide) ?_
            refine wp_ic_ne 72 dX4_set_65 (by decide) (fun hh65 => ?_) (fun hh65 => ?_)
            · refine wp_aload_n dX4_set_72 rfl ?_
              refine wp_getI dX4_set_73 flX4_60 (by decide) rfl (Or.inl rfl) ?_
              rw [sI_ne (fun q => absurd q.2 (by decide))]
              refine wp_putI dX4_set_76 flX4_60 (by decide) rfl rfl rfl rfl ?_
              refine wp_iload_n dX4_set_79 rfl ?_
              refine wp_iret dX4_set_80 (Or.inl rfl) ?_
              first
              | (exfalso; omega)
              | (
                have e0 : vSet z w v = (if w = 0 then zm z else zt z) := by unfold vSet; rw [cif_t (show okSet w v by unfold okSet; omega)]
                have e1 : uSet z w v = (z.1, z.2.1, if w = 0 then v else zm z, if w = 1 then v else zt z, z.2.2.2.2) := by unfold uSet; rw [cif_t (show okSet w v by unfold okSet; omega)]
                rw [e0, e1] at hQ
                have hw0 : w = 0 := by omega
                have hw1 : ¬ w = 1 := by omega
                rw [if_pos hw0, if_neg hw1, if_pos hw0] at hQ
                exact q_i (by omega) (hQ _ ((Frx.rf.put (by decide)).put (by decide)) ⟨h1, h2, rfl, h4, h5, h6, h7, h8, h9, h10⟩))
              | (
                have e0 : vSet z w v = (if w = 0 then zm z else zt z) := by unfold vSet; rw [cif_t (show okSet w v by unfold okSet; omega)]
                have e1 : uSet z w v = (z.1, z.2.1, if w = 0 then v else zm z, if w = 1 then v else zt z, z.2.2.2.2) := by unfold uSet; rw [cif_t (show okSet w v by unfold okSet; omega)]
                rw [e0, e1] at hQ
                have hw0 : ¬ w = 0 := by omega
                have hw1 : w = 1 := by omega
                rw [if_neg hw0, if_pos hw1, if_neg hw0] at hQ
                exact q_i (by omega) (hQ _ ((Frx.rf.put (by decide)).put (by decide)) ⟨h1, h2, h3, rfl, h5, h6, h7, h8, h9, h10⟩))
            · refine wp_iload_n dX4_set_68 rfl ?_
              refine wp_gotoN 76 dX4_set_69 (by decide) ?_
              refine wp_putI dX4_set_76 flX4_60 (by decide) rfl rfl rfl rfl ?_
              refine wp_iload_n dX4_set_79 rfl ?_
              refine wp_iret dX4_set_80 (Or.inl rfl) ?_
              first
              | (exfalso; omega)
              | (
                have e0 : vSet z w v = (if w = 0 then zm z else zt z) := by unfold vSet; rw [cif_t (show okSet w v by unfold okSet; omega)]
                have e1 : uSet z w v = (z.1, z.2.1, if w = 0 then v else zm z, if w = 1 then v else zt z, z.2.2.2.2) := by unfold uSet; rw [cif_t (show okSet w v by unfold okSet; omega)]
                rw [e0, e1] at hQ
                have hw0 : w = 0 := by omega
                have hw1 : ¬ w = 1 := by omega
                rw [if_pos hw0, if_neg hw1, if_pos hw0] at hQ
                exact q_i (by omega) (hQ _ ((Frx.rf.put (by decide)).put (by decide)) ⟨h1, h2, rfl, h4, h5, h6, h7, h8, h9, h10⟩))
              | (
                have e0 : vSet z w v = (if w = 0 then zm z else zt z) := by unfold vSet; rw [cif_t (show okSet w v by unfold okSet; omega)]
                have e1 : uSet z w v = (z.1, z.2.1, if w = 0 then v else zm z, if w = 1 then v else zt z, z.2.2.2.2) := by unfold uSet; rw [cif_t (show okSet w v by unfold okSet; omega)]
                rw [e0, e1] at hQ
                have hw0 : ¬ w = 0 := by omega
                have hw1 : w = 1 := by omega
                rw [if_neg hw0, if_pos hw1, if_neg hw0] at hQ
                exact q_i (by omega) (hQ _ ((Frx.rf.put (by decide)).put (by decide)) ⟨h1, h2, h3, rfl, h5, h6, h7, h8, h9, h10⟩))
          · refine wp_iload_n dX4_set_51 rfl ?_
            refine wp_gotoN 59 dX4_set_52 (by decide) ?_
            refine wp_putI dX4_set_59 flX4_56 (by decide) rfl rfl rfl rfl ?_
            refine wp_aload_n dX4_set_62 rfl ?_
            refine wp_iload_n dX4_set_63 rfl ?_
            refine wp_iconst dX4_set_64 (by decide) ?_
            refine wp_ic_ne 72 dX4_set_65 (by decide) (fun hh65 => ?_) (fun hh65 => ?_)
            · refine wp_aload_n dX4_set_72 rfl ?_
              refine wp_getI dX4_set_73 flX4_60 (by decide) rfl (Or.inl rfl) ?_
              rw [sI_ne (fun q => absurd q.2 (by decide))]
              refine wp_putI dX4_set_76 flX4_60 (by decide) rfl rfl rfl rfl ?_
              refine wp_iload_n dX4_set_79 rfl ?_
              refine wp_iret dX4_set_80 (Or.inl rfl) ?_
              first
              | (exfalso; omega)
              | (
                have e0 : vSet z w v = (if w = 0 then zm z else zt z) := by unfold vSet; rw [cif_t (show okSet w v by unfold okSet; omega)]
                have e1 : uSet z w v = (z.1, z.2.1, if w = 0 then v else zm z, if w = 1 then v else zt z, z.2.2.2.2) := by unfold uSet; rw [cif_t (show okSet w v by unfold okSet; omega)]
                rw [e0, e1] at hQ
                have hw0 : w = 0 := by omega
                have hw1 : ¬ w = 1 := by omega
                rw [if_pos hw0, if_neg hw1, if_pos hw0] at hQ
                exact q_i (by omega) (hQ _ ((Frx.rf.put (by decide)).put (by decide)) ⟨h1, h2, rfl, h4, h5, h6, h7, h8, h9, h10⟩))
              | (
                have e0 : vSet z w v = (if w = 0 then zm z else zt z) := by unfold vSet; rw [cif_t (show okSet w v by unfold okSet; omega)]
                have e1 : uSet z w v = (z.1, z.2.1, if w = 0 then v else zm z, if w = 1 then v else zt z, z.2.2.2.2) := by unfold uSet; rw [cif_t (show okSet w v by unfold okSet; omega)]
                rw [e0, e1] at hQ
                have hw0 : ¬ w = 0 := by omega
                have hw1 : w = 1 := by omega
                rw [if_neg hw0, if_pos hw1, if_neg hw0] at hQ
                exact q_i (by omega) (hQ _ ((Frx.rf.put (by decide)).put (by decide)) ⟨h1, h2, h3, rfl, h5, h6, h7, h8, h9, h10⟩))
            · refine wp_iload_n dX4_set_68 rfl ?_
              refine wp_gotoN 76 dX4_set_69 (by decide) ?_
              refine wp_putI dX4_set_76 flX4_60 (by decide) rfl rfl rfl rfl ?_
              refine wp_iload_n dX4_set_79 rfl ?_
              refine wp_iret dX4_set_80 (Or.inl rfl) ?_
              first
              | (exfalso; omega)
              | (
                have e0 : vSet z w v = (if w = 0 then zm z else zt z) := by unfold vSet; rw [cif_t (show okSet w v by unfold okSet; omega)]
                have e1 : uSet z w v = (z.1, z.2.1, if w = 0 then v else zm z, if w = 1 then v else zt z, z.2.2.2.2) := by unfold uSet; rw [cif_t (show okSet w v by unfold okSet; omega)]
                rw [e0, e1] at hQ
                have hw0 : w = 0 := by omega
                have hw1 : ¬ w = 1 := by omega
                rw [if_pos hw0, if_neg hw1, if_pos hw0] at hQ
                exact q_i (by omega) (hQ _ ((Frx.rf.put (by decide)).put (by decide)) ⟨h1, h2, rfl, h4, h5, h6, h7, h8, h9, h10⟩))
              | (
                have e0 : vSet z w v = (if w = 0 then zm z else zt z) := by unfold vSet; rw [cif_t (show okSet w v by unfold okSet; omega)]
                have e1 : uSet z w v = (z.1, z.2.1, if w = 0 then v else zm z, if w = 1 then v else zt z, z.2.2.2.2) := by unfold uSet; rw [cif_t (show okSet w v by unfold okSet; omega)]
                rw [e0, e1] at hQ
                have hw0 : ¬ w = 0 := by omega
                have hw1 : w = 1 := by omega
                rw [if_neg hw0, if_pos hw1, if_neg hw0] at hQ
                exact q_i (by omega) (hQ _ ((Frx.rf.put (by decide)).put (by decide)) ⟨h1, h2, h3, rfl, h5, h6, h7, h8, h9, h10⟩))
        · refine wp_aload_n dX4_set_34 rfl ?_
          refine wp_getI dX4_set_35 flX4_56 (by decide) rfl (Or.inl rfl) ?_
          refine wp_gotoN 45 dX4_set_38 (by decide) ?_
          refine wp_istN (L' := [some (vr _), some (vi _), some (vi _), some (vi _)]) dX4_set_45 (Nat.le_of_ble_eq_true rfl) rfl ?_
          refine wp_aload_n dX4_set_46 rfl ?_
          refine wp_iload_n dX4_set_47 rfl ?_
          refine wp_if_ne 55 dX4_set_48 (by decide) (fun hh48 => ?_) (fun hh48 => ?_)
          · refine wp_aload_n dX4_set_55 rfl ?_
            refine wp_getI dX4_set_56 flX4_56 (by decide) rfl (Or.inl rfl) ?_
            refine wp_putI dX4_set_59 flX4_56 (by decide) rfl rfl rfl rfl ?_
            refine wp_aload_n dX4_set_62 rfl ?_
            refine wp_iload_n dX4_set_63 rfl ?_
            refine wp_iconst dX4_set_64 (by decide) ?_
            refine wp_ic_ne 72 dX4_set_65 (by decide) (fun hh65 => ?_) (fun hh65 => ?_)
            · refine wp_aload_n dX4_set_72 rfl ?_
              refine wp_getI dX4_set_73 flX4_60 (by decide) rfl (Or.inl rfl) ?_
              rw [sI_ne (fun q => absurd q.2 (by decide))]
              refine wp_putI dX4_set_76 flX4_60 (by decide) rfl rfl rfl rfl ?_
              refine wp_iload_n dX4_set_79 rfl ?_
              refine wp_iret dX4_set_80 (Or.inl rfl) ?_
              first
              | (exfalso; omega)
              | (
                have e0 : vSet z w v = (if w = 0 then zm z else zt z) := by unfold vSet; rw [cif_t (show okSet w v by unfold okSet; omega)]
                have e1 : uSet z w v = (z.1, z.2.1, if w = 0 then v else zm z, if w = 1 then v else zt z, z.2.2.2.2) := by unfold uSet; rw [cif_t (show okSet w v by unfold okSet; omega)]
                rw [e0, e1] at hQ
                have hw0 : w = 0 := by omega
                have hw1 : ¬ w = 1 := by omega
                rw [if_pos hw0, if_neg hw1, if_pos hw0] at hQ
                exact q_i (by omega) (hQ _ ((Frx.rf.put (by decide)).put (by decide)) ⟨h1, h2, rfl, h4, h5, h6, h7, h8, h9, h10⟩))
              | (
                have e0 : vSet z w v = (if w = 0 then zm z else zt z) := by unfold vSet; rw [cif_t (show okSet w v by unfold okSet; omega)]
                have e1 : uSet z w v = (z.1, z.2.1, if w = 0 then v else zm z, if w = 1 then v else zt z, z.2.2.2.2) := by unfold uSet; rw [cif_t (show okSet w v by unfold okSet; omega)]
                rw [e0, e1] at hQ
                have hw0 : ¬ w = 0 := by omega
                have hw1 : w = 1 := by omega
                rw [if_neg hw0, if_pos hw1, if_neg hw0] at hQ
                exact q_i (by omega) (hQ _ ((Frx.rf.put (by decide)).put (by decide)) ⟨h1, h2, h3, rfl, h5, h6, h7, h8, h9, h10⟩))
            · refine wp_iload_n dX4_set_68 rfl ?_
              refine wp_gotoN 76 dX4_set_69 (by decide) ?_
              refine wp_putI dX4_set_76 flX4_60 (by decide) rfl rfl rfl rfl ?_
              refine wp_iload_n dX4_set_79 rfl ?_
              refine wp_iret dX4_set_80 (Or.inl rfl) ?_
              first
              | (exfalso; omega)
              | (
                have e0 : vSet z w v = (if w = 0 then zm z else zt z) := by unfold vSet; rw [cif_t (show okSet w v by unfold okSet; omega)]
                have e1 : uSet z w v = (z.1, z.2.1, if w = 0 then v else zm z, if w = 1 then v else zt z, z.2.2.2.2) := by unfold uSet; rw [cif_t (show okSet w v by unfold okSet; omega)]
                rw [e0, e1] at hQ
                have hw0 : w = 0 := by omega
                have hw1 : ¬ w = 1 := by omega
                rw [if_pos hw0, if_neg hw1, if_pos hw0] at hQ
                exact q_i (by omega) (hQ _ ((Frx.rf.put (by decide)).put (by decide)) ⟨h1, h2, rfl, h4, h5, h6, h7, h8, h9, h10⟩))
              | (
                have e0 : vSet z w v = (if w = 0 then zm z else zt z) := by unfold vSet; rw [cif_t (show okSet w v by unfold okSet; omega)]
                have e1 : uSet z w v = (z.1, z.2.1, if w = 0 then v else zm z, if w = 1 then v else zt z, z.2.2.2.2) := by unfold uSet; rw [cif_t (show okSet w v by unfold okSet; omega)]
                rw [e0, e1] at hQ
                have hw0 : ¬ w = 0 := by omega
                have hw1 : w = 1 := by omega
                rw [if_neg hw0, if_pos hw1, if_neg hw0] at hQ
                exact q_i (by omega) (hQ _ ((Frx.rf.put (by decide)).put (by decide)) ⟨h1, h2, h3, rfl, h5, h6, h7, h8, h9, h10⟩))
          · refine wp_iload_n dX4_set_51 rfl ?_
            refine wp_gotoN 59 dX4_set_52 (by decide) ?_
            refine wp_putI dX4_set_59 flX4_56 (by decide) rfl rfl rfl rfl ?_
            refine wp_aload_n dX4_set_62 rfl ?_
            refine wp_iload_n dX4_set_63 rfl ?_
            refine wp_iconst dX4_set_64 (by decide) ?_
            refine wp_ic_ne 72 dX4_set_65 (by decide) (fun hh65 => ?_) (fun hh65 => ?_)
            · refine wp_aload_n dX4_set_72 rfl ?_
              refine wp_getI dX4_set_73 flX4_60 (by decide) rfl (Or.inl rfl) ?_
              rw [sI_ne (fun q => absurd q.2 (by decide))]
              refine wp_putI dX4_set_76 flX4_60 (by decide) rfl rfl rfl rfl ?_
              refine wp_iload_n dX4_set_79 rfl ?_
              refine wp_iret dX4_set_80 (Or.inl rfl) ?_
              first
              | (exfalso; omega)
              | (
                have e0 : vSet z w v = (if w = 0 then zm z else zt z) := by unfold vSet; rw [cif_t (show okSet w v by unfold okSet; omega)]
                have e1 : uSet z w v = (z.1, z.2.1, if w = 0 then v else zm z, if w = 1 then v else zt z, z.2.2.2.2) := by unfold uSet; rw [cif_t (show okSet w v by unfold okSet; omega)]
                rw [e0, e1] at hQ
                have hw0 : w = 0 := by omega
                have hw1 : ¬ w = 1 := by omega
                rw [if_pos hw0, if_neg hw1, if_pos hw0] at hQ
                exact q_i (by omega) (hQ _ ((Frx.rf.put (by decide)).put (by decide)) ⟨h1, h2, rfl, h4, h5, h6, h7, h8, h9, h10⟩))
              | (
                have e0 : vSet z w v = (if w = 0 then zm z else zt z) := by unfold vSet; rw [cif_t (show okSet w v by unfold okSet; omega)]
                have e1 : uSet z w v = (z.1, z.2.1, if w = 0 then v else zm z, if w = 1 then v else zt z, z.2.2.2.2) := by unfold uSet; rw [cif_t (show okSet w v by unfold okSet; omega)]
                rw [e0, e1] at hQ
                have hw0 : ¬ w = 0 := by omega
                have hw1 : w = 1 := by omega
                rw [if_neg hw0, if_pos hw1, if_neg hw0] at hQ
                exact q_i (by omega) (hQ _ ((Frx.rf.put (by decide)).put (by decide)) ⟨h1, h2, h3, rfl, h5, h6, h7, h8, h9, h10⟩))
            · refine wp_iload_n dX4_set_68 rfl ?_
              refine wp_gotoN 76 dX4_set_69 (by decide) ?_
              refine wp_putI dX4_set_76 flX4_60 (by decide) rfl rfl rfl rfl ?_
              refine wp_iload_n dX4_set_79 rfl ?_
              refine wp_iret dX4_set_80 (Or.inl rfl) ?_
              first
              | (exfalso; omega)
              | (
                have e0 : vSet z w v = (if w = 0 then zm z else zt z) := by unfold vSet; rw [cif_t (show okSet w v by unfold okSet; omega)]
                have e1 : uSet z w v = (z.1, z.2.1, if w = 0 then v else zm z, if w = 1 then v else zt z, z.2.2.2.2) := by unfold uSet; rw [cif_t (show okSet w v by unfold okSet; omega)]
                rw [e0, e1] at hQ
                have hw0 : w = 0 := by omega
                have hw1 : ¬ w = 1 := by omega
                rw [if_pos hw0, if_neg hw1, if_pos hw0] at hQ
                exact q_i (by omega) (hQ _ ((Frx.rf.put (by decide)).put (by decide)) ⟨h1, h2, rfl, h4, h5, h6, h7, h8, h9, h10⟩))
              | (
                have e0 : vSet z w v = (if w = 0 then zm z else zt z) := by unfold vSet; rw [cif_t (show okSet w v by unfold okSet; omega)]
                have e1 : uSet z w v = (z.1, z.2.1, if w = 0 then v else zm z, if w = 1 then v else zt z, z.2.2.2.2) := by unfold uSet; rw [cif_t (show okSet w v by unfold okSet; omega)]
                rw [e0, e1] at hQ
                have hw0 : ¬ w = 0 := by omega
                have hw1 : w = 1 := by omega
                rw [if_neg hw0, if_pos hw1, if_neg hw0] at hQ
                exact q_i (by omega) (hQ _ ((Frx.rf.put (by decide)).put (by decide)) ⟨h1, h2, h3, rfl, h5, h6, h7, h8, h9, h10⟩))
      · refine wp_bipush dX4_set_27 (by decide) ?_
        refine wp_iret dX4_set_29 (Or.inl rfl) ?_
        have e0 : vSet z w v = -2 := by unfold vSet; rw [cif_f (show ¬ okSet w v by unfold okSet; omega)]
        have e1 : uSet z w v = z := by unfold uSet; rw [cif_f (show ¬ okSet w v by unfold okSet; omega)]
        rw [e0, e1] at hQ
        exact hQ σ Frx.rf hm
set_option maxRecDepth 20000 in
theorem p4_thing {d : Nat} {σ : aS} {Q : aQ} {c s : Int} {z : aZ} (hm : MI σ z) (hz : ZV z) (hQ : ∀ σ', Frx σ σ' → MI σ' (uThing z c s) → Q (some (vi (vThing z c s))) σ') : aCall 34 (d + 2) mX4_thing [vr 18, vi c, vi s] σ Q := by
  refine cl_in (own := RX4) (cc := cX4_thing) (rk := 0) (L := [some (vr 18), some (vi c), some (vi s)]) rfl rfl rfl rfl (by decide) (Nat.le_of_ble_eq_true rfl) ?_
  have hl := hz.2.2.2.1
  obtain ⟨h1, h2, h3, h4, h5, h6, h7, h8, h9, h10⟩ := id hm
  refine wp_iload_n dX4_thing_0 rfl ?_
  refine wp_iconst dX4_thing_1 (by decide) ?_
  refine wp_bipush dX4_thing_2 (by decide) ?_
  refine wp_S3 dX4_thing_4 zlX4_65 (Nat.le_of_ble_eq_true rfl) ?_
  refine s4_in ?_
  refine wp_ifB_eq 20 dX4_thing_7 (by decide) (fun hh7 => ?_) (fun hh7 => ?_)
  · refine wp_bipush dX4_thing_20 (by decide) ?_
    refine wp_iret dX4_thing_22 (Or.inl rfl) ?_
    have e0 : vThing z c s = -2 := by unfold vThing; rw [cif_f (show ¬ okThing c s by unfold okThing; omega)]
    have e1 : uThing z c s = z := by unfold uThing; rw [cif_f (fun q => (show ¬ okThing c s by unfold okThing; omega) q.1)]
    rw [e0, e1] at hQ
    exact hQ σ Frx.rf hm
  · refine wp_iload_n dX4_thing_10 rfl ?_
    refine wp_iconst dX4_thing_11 (by decide) ?_
    refine wp_bipush dX4_thing_12 (by decide) ?_
    refine wp_S3 dX4_thing_14 zlX4_65 (Nat.le_of_ble_eq_true rfl) ?_
    refine s4_in ?_
    refine wp_ifB_ne 23 dX4_thing_17 (by decide) (fun hh17 => ?_) (fun hh17 => ?_)
    · refine wp_aload_n dX4_thing_23 rfl ?_
      refine wp_getI dX4_thing_24 flX4_108 (by decide) rfl (Or.inl rfl) ?_
      refine wp_bipush dX4_thing_27 (by decide) ?_
      refine wp_ic_ne 35 dX4_thing_29 (by decide) (fun hh29 => ?_) (fun hh29 => ?_)
      · refine wp_aload_n dX4_thing_35 rfl ?_
        refine wp_getR dX4_thing_36 flX4_16 (by decide) rfl rfl ?_
        refine wp_aload_n dX4_thing_39 rfl ?_
        refine wp_getI dX4_thing_40 flX4_108 (by decide) rfl (Or.inl rfl) ?_
        refine wp_iload_n dX4_thing_43 rfl ?_
        refine wp_iastore dX4_thing_44 (by decide) rfl (by omega) (by omega) (by decide) ?_
        refine wp_aload_n dX4_thing_45 rfl ?_
        refine wp_getR dX4_thing_46 flX4_19 (by decide) rfl rfl ?_
        refine wp_aload_n dX4_thing_49 rfl ?_
        refine wp_getI dX4_thing_50 flX4_108 (by decide) rfl (Or.inl rfl) ?_
        rw [sI_ne (fun q => absurd q.1 (by decide))]
        refine wp_iload_n dX4_thing_53 rfl ?_
        refine wp_iastore dX4_thing_54 (by decide) rfl (by omega) (by omega) (by decide) ?_
        refine wp_aload_n dX4_thing_55 rfl ?_
        refine wp_dup dX4_thing_56 rfl ?_
        refine wp_getI dX4_thing_57 flX4_108 (by decide) rfl (Or.inl rfl) ?_
        rw [sI_ne (fun q => absurd q.1 (by decide))]
        rw [sI_ne (fun q => absurd q.1 (by decide))]
        refine wp_iconst dX4_thing_60 (by decide) ?_
        refine wp_iaddN dX4_thing_61 (by omega) ?_
        refine wp_putI dX4_thing_62 flX4_108 (by decide) rfl rfl rfl rfl ?_
        refine wp_aload_n dX4_thing_65 rfl ?_
        refine wp_getI dX4_thing_66 flX4_108 (by decide) rfl (Or.inl rfl) ?_
        rw [sI_eq]
        refine wp_iret dX4_thing_69 (Or.inl rfl) ?_
        have e0 : vThing z c s = zn z + 1 := by unfold vThing; rw [cif_t (show okThing c s from ⟨by omega, by omega⟩), if_neg (by omega)]
        have e1 : uThing z c s = mkT z (zn z + 1) (up1 (zc z) (zn z) c) (up1 (zs z) (zn z) s) := by unfold uThing; rw [cif_t ⟨(show okThing c s from ⟨by omega, by omega⟩), by omega⟩]
        rw [e0, e1] at hQ
        refine q_i (by omega) (hQ _ (((Frx.rf.put (by decide)).put (by decide)).put (by decide)) ⟨h1, h2, h3, h4, by show σ.1 18 8 + 1 = ((zn z + 1 : Nat) : Int); omega, fun k hk => ?_, h7, h8, h9, h10⟩)
        have hk : k < zn z + 1 := hk
        show (if 21 = 21 ∧ k = (σ.1 18 8).toNat then c else σ.1 21 k) = up1 (zc z) (zn z) c k ∧ (if 22 = 22 ∧ k = (σ.1 18 8).toNat then s else σ.1 22 k) = up1 (zs z) (zn z) s k
        unfold up1
        by_cases hkk : k = zn z
        · rw [if_pos hkk, if_pos hkk, if_pos ⟨rfl, by omega⟩, if_pos ⟨rfl, by omega⟩]; exact ⟨rfl, rfl⟩
        · rw [if_neg hkk, if_neg hkk, if_neg (fun q => by omega), if_neg (fun q => by omega)]; exact h6 k (by omega)
      · refine wp_bipush dX4_thing_32 (by decide) ?_
        refine wp_iret dX4_thing_34 (Or.inl rfl) ?_
        have e0 : vThing z c s = -4 := by unfold vThing; rw [cif_t (show okThing c s from ⟨by omega, by omega⟩), if_pos (by omega)]
        have e1 : uThing z c s = z := by unfold uThing; rw [cif_f (fun q => by have := q.2; omega)]
        rw [e0, e1] at hQ
        exact hQ σ Frx.rf hm
    · refine wp_bipush dX4_thing_20 (by decide) ?_
      refine wp_iret dX4_thing_22 (Or.inl rfl) ?_
      have e0 : vThing z c s = -2 := by unfold vThing; rw [cif_f (show ¬ okThing c s by unfold okThing; omega)]
      have e1 : uThing z c s = z := by unfold uThing; rw [cif_f (fun q => (show ¬ okThing c s by unfold okThing; omega) q.1)]
      rw [e0, e1] at hQ
      exact hQ σ Frx.rf hm
set_option maxRecDepth 20000 in
theorem p4_back {d : Nat} {σ : aS} {Q : aQ} {z : aZ} (hm : MI σ z) (hz : ZV z) (hQ : ∀ σ', Frx σ σ' → MI σ' (uBack z) → Q (some (vi (vBack z))) σ') : aCall 34 (d + 1) mX4_back [vr 18] σ Q := by
  refine cl_in (own := RX4) (cc := cX4_back) (rk := 0) (L := [some (vr 18)]) rfl rfl rfl rfl (by decide) (Nat.le_of_ble_eq_true rfl) ?_
  have hl := hz.2.2.2.1
  obtain ⟨h1, h2, h3, h4, h5, h6, h7, h8, h9, h10⟩ := id hm
  refine wp_aload_n dX4_back_0 rfl ?_
  refine wp_getI dX4_back_1 flX4_108 (by decide) rfl (Or.inl rfl) ?_
  refine wp_if_ne 10 dX4_back_4 (by decide) (fun hh4 => ?_) (fun hh4 => ?_)
  · refine wp_aload_n dX4_back_10 rfl ?_
    refine wp_dup dX4_back_11 rfl ?_
    refine wp_getI dX4_back_12 flX4_108 (by decide) rfl (Or.inl rfl) ?_
    refine wp_iconst dX4_back_15 (by decide) ?_
    refine wp_isubN dX4_back_16 (by omega) ?_
    refine wp_putI dX4_back_17 flX4_108 (by decide) rfl rfl rfl rfl ?_
    refine wp_aload_n dX4_back_20 rfl ?_
    refine wp_getI dX4_back_21 flX4_108 (by decide) rfl (Or.inl rfl) ?_
    rw [sI_eq]
    refine wp_iret dX4_back_24 (Or.inl rfl) ?_
    have e0 : vBack z = zn z - 1 := by unfold vBack; rw [if_neg (by omega)]
    rw [e0] at hQ
    exact q_i (by omega) (hQ _ (Frx.rf.put (by decide)) ⟨h1, h2, h3, h4, by show σ.1 18 8 - 1 = ((zn z - 1 : Nat) : Int); omega, fun k hk => h6 k (by have hk : k < zn z - 1 := hk; omega), h7, h8, h9, h10⟩)
  · refine wp_bipush dX4_back_7 (by decide) ?_
    refine wp_iret dX4_back_9 (Or.inl rfl) ?_
    have e0 : vBack z = -3 := by unfold vBack; rw [if_pos (by omega)]
    rw [e0] at hQ
    exact hQ σ Frx.rf ⟨h1, h2, h3, h4, by show σ.1 18 8 = ((zn z - 1 : Nat) : Int); omega, fun k hk => h6 k (by have hk : k < zn z - 1 := hk; omega), h7, h8, h9, h10⟩
set_option maxRecDepth 20000 in
theorem p4_plumb {d : Nat} {σ : aS} {Q : aQ} {r u : Int} {z : aZ} (hm : MI σ z) (hz : ZV z) (hQ : ∀ σ', Frx σ σ' → MI σ' (uPlumb z r u) → Q (some (vi (vPlumb z r u))) σ') : aCall 34 (d + 2) mX4_plumb [vr 18, vi r, vi u] σ Q := by
  refine cl_in (own := RX4) (cc := cX4_plumb) (rk := 0) (L := [some (vr 18), some (vi r), some (vi u)]) rfl rfl rfl rfl (by decide) (Nat.le_of_ble_eq_true rfl) ?_
  have hl := hz.2.2.2.2.2.1
  obtain ⟨h1, h2, h3, h4, h5, h6, h7, h8, h9, h10⟩ := id hm
  refine wp_iload_n dX4_plumb_0 rfl ?_
  refine wp_iconst dX4_plumb_1 (by decide) ?_
  refine wp_iconst dX4_plumb_2 (by decide) ?_
  refine wp_S3 dX4_plumb_3 zlX4_65 (Nat.le_of_ble_eq_true rfl) ?_
  refine s4_in ?_
  refine wp_ifB_eq 18 dX4_plumb_6 (by decide) (fun hh6 => ?_) (fun hh6 => ?_)
  · refine wp_bipush dX4_plumb_18 (by decide) ?_
    refine wp_iret dX4_plumb_20 (Or.inl rfl) ?_
    have e0 : vPlumb z r u = -2 := by unfold vPlumb; rw [cif_f (show ¬ okPlumb r u by unfold okPlumb; omega)]
    have e1 : uPlumb z r u = z := by unfold uPlumb; rw [cif_f (fun q => (show ¬ okPlumb r u by unfold okPlumb; omega) q.1)]
    rw [e0, e1] at hQ
    exact hQ σ Frx.rf hm
  · refine wp_iload_n dX4_plumb_9 rfl ?_
    refine wp_iconst dX4_plumb_10 (by decide) ?_
    refine wp_iconst dX4_plumb_11 (by decide) ?_
    refine wp_S3 dX4_plumb_12 zlX4_65 (Nat.le_of_ble_eq_true rfl) ?_
    refine s4_in ?_
    refine wp_ifB_ne 21 dX4_plumb_15 (by decide) (fun hh15 => ?_) (fun hh15 => ?_)
    · refine wp_aload_n dX4_plumb_21 rfl ?_
      refine wp_getI dX4_plumb_22 flX4_185 (by decide) rfl (Or.inl rfl) ?_
      refine wp_bipush dX4_plumb_25 (by decide) ?_
      refine wp_ic_ne 33 dX4_plumb_27 (by decide) (fun hh27 => ?_) (fun hh27 => ?_)
      · refine wp_aload_n dX4_plumb_33 rfl ?_
        refine wp_getR dX4_plumb_34 flX4_35 (by decide) rfl rfl ?_
        refine wp_aload_n dX4_plumb_37 rfl ?_
        refine wp_getI dX4_plumb_38 flX4_185 (by decide) rfl (Or.inl rfl) ?_
        refine wp_iload_n dX4_plumb_41 rfl ?_
        refine wp_iastore dX4_plumb_42 (by decide) rfl (by omega) (by omega) (by decide) ?_
        refine wp_aload_n dX4_plumb_43 rfl ?_
        refine wp_getR dX4_plumb_44 flX4_38 (by decide) rfl rfl ?_
        refine wp_aload_n dX4_plumb_47 rfl ?_
        refine wp_getI dX4_plumb_48 flX4_185 (by decide) rfl (Or.inl rfl) ?_
        rw [sI_ne (fun q => absurd q.1 (by decide))]
        refine wp_iload_n dX4_plumb_51 rfl ?_
        refine wp_iastore dX4_plumb_52 (by decide) rfl (by omega) (by omega) (by decide) ?_
        refine wp_aload_n dX4_plumb_53 rfl ?_
        refine wp_dup dX4_plumb_54 rfl ?_
        refine wp_getI dX4_plumb_55 flX4_185 (by decide) rfl (Or.inl rfl) ?_
        rw [sI_ne (fun q => absurd q.1 (by decide))]
        rw [sI_ne (fun q => absurd q.1 (by decide))]
        refine wp_iconst dX4_plumb_58 (by decide) ?_
        refine wp_iaddN dX4_plumb_59 (by omega) ?_
        refine wp_putI dX4_plumb_60 flX4_185 (by decide) rfl rfl rfl rfl ?_
        refine wp_aload_n dX4_plumb_63 rfl ?_
        refine wp_getI dX4_plumb_64 flX4_185 (by decide) rfl (Or.inl rfl) ?_
        rw [sI_eq]
        refine wp_iret dX4_plumb_67 (Or.inl rfl) ?_
        have e0 : vPlumb z r u = zp z + 1 := by unfold vPlumb; rw [cif_t (show okPlumb r u from ⟨by omega, by omega⟩), if_neg (by omega)]
        have e1 : uPlumb z r u = mkP z (zp z + 1) (up1 (zr z) (zp z) r) (up1 (zu z) (zp z) u) := by unfold uPlumb; rw [cif_t ⟨(show okPlumb r u from ⟨by omega, by omega⟩), by omega⟩]
        rw [e0, e1] at hQ
        refine q_i (by omega) (hQ _ (((Frx.rf.put (by decide)).put (by decide)).put (by decide)) ⟨h1, h2, h3, h4, h5, h6, by show σ.1 18 15 + 1 = ((zp z + 1 : Nat) : Int); omega, fun k hk => ?_, h9, h10⟩)
        have hk : k < zp z + 1 := hk
        show (if 27 = 27 ∧ k = (σ.1 18 15).toNat then r else σ.1 27 k) = up1 (zr z) (zp z) r k ∧ (if 28 = 28 ∧ k = (σ.1 18 15).toNat then u else σ.1 28 k) = up1 (zu z) (zp z) u k
        unfold up1
        by_cases hkk : k = zp z
        · rw [if_pos hkk, if_pos hkk, if_pos ⟨rfl, by omega⟩, if_pos ⟨rfl, by omega⟩]; exact ⟨rfl, rfl⟩
        · rw [if_neg hkk, if_neg hkk, if_neg (fun q => by omega), if_neg (fun q => by omega)]; exact h8 k (by omega)
      · refine wp_bipush dX4_plumb_30 (by decide) ?_
        refine wp_iret dX4_plumb_32 (Or.inl rfl) ?_
        have e0 : vPlumb z r u = -4 := by unfold vPlumb; rw [cif_t (show okPlumb r u from ⟨by omega, by omega⟩), if_pos (by omega)]
        have e1 : uPlumb z r u = z := by unfold uPlumb; rw [cif_f (fun q => by have := q.2; omega)]
        rw [e0, e1] at hQ
        exact hQ σ Frx.rf hm
    · refine wp_bipush dX4_plumb_18 (by decide) ?_
      refine wp_iret dX4_plumb_20 (Or.inl rfl) ?_
      have e0 : vPlumb z r u = -2 := by unfold vPlumb; rw [cif_f (show ¬ okPlumb r u by unfold okPlumb; omega)]
      have e1 : uPlumb z r u = z := by unfold uPlumb; rw [cif_f (fun q => (show ¬ okPlumb r u by unfold okPlumb; omega) q.1)]
      rw [e0, e1] at hQ
      exact hQ σ Frx.rf hm
set_option maxRecDepth 20000 in
theorem p4_forget {d : Nat} {σ : aS} {Q : aQ} {z : aZ} (hm : MI σ z) (hz : ZV z) (hQ : ∀ σ', Frx σ σ' → MI σ' (uForget z) → Q (some (vi (zp z))) σ') : aCall 34 (d + 1) mX4_forget [vr 18] σ Q := by
  refine cl_in (own := RX4) (cc := cX4_forget) (rk := 0) (L := [some (vr 18), none]) rfl rfl rfl rfl (by decide) (Nat.le_of_ble_eq_true rfl) ?_
  obtain ⟨h1, h2, h3, h4, h5, h6, h7, h8, h9, h10⟩ := id hm
  refine wp_aload_n dX4_forget_0 rfl ?_
  refine wp_getI dX4_forget_1 flX4_185 (by decide) rfl (Or.inl rfl) ?_
  refine wp_istN (L' := [some (vr _), some (vi _)]) dX4_forget_4 (Nat.le_of_ble_eq_true rfl) rfl ?_
  refine wp_aload_n dX4_forget_5 rfl ?_
  refine wp_iconst dX4_forget_6 (by decide) ?_
  refine wp_putI dX4_forget_7 flX4_185 (by decide) rfl rfl rfl rfl ?_
  refine wp_iload_n dX4_forget_10 rfl ?_
  refine wp_iret dX4_forget_11 (Or.inl rfl) ?_
  exact q_i h7 (hQ _ (Frx.rf.put (by decide)) ⟨h1, h2, h3, h4, h5, h6, rfl, fun k hk => absurd hk (Nat.not_lt_zero k), h9, h10⟩)
