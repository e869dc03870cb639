/-- the model's cells stay -/
def Fry (σ σ' : aS) : Prop := ∀ c k, 18 ≤ c → σ'.1 c k = σ.1 c k
theorem Fry.rf {σ : aS} : Fry σ σ := fun _ _ _ => rfl
theorem Fry.tr {σ σ' σ'' : aS} (h : Fry σ σ') (h' : Fry σ' σ'') : Fry σ σ'' := fun c k q => (h' c k q).trans (h c k q)
theorem Fry.put {σ σ' : aS} {c k : Nat} {x : Int} (h : Fry σ σ') (hc : c < 18) : Fry σ (sI σ' c k x) := fun c' k' q => by rw [sI_ne (fun e => by omega)]; exact h c' k' q
theorem FrQ.y {A B : Nat → Nat → Prop} {σ σ' : aS} (h : FrQ A B σ σ') (hA : ∀ c k, 18 ≤ c → ¬ A c k) : Fry σ σ' := fun c k q => h.1 c k (hA c k q)
theorem vA_y : ∀ c k : Nat, 18 ≤ c → ¬ vA c k := fun c k h q => by omega
/-- the SHEETS of the class -/
def SH (σ : aS) (h f n : Nat → Int) (it : Nat → Nat → Int) : Prop := ∀ s, s < 4 → σ.1 (5 + s) 0 = 1 - h s ∧ σ.1 (5 + s) 1 = f s ∧ σ.1 (5 + s) 2 = n s ∧ ∀ i, i < 48 → σ.1 (9 + s) i = it s i
theorem SH.put {σ : aS} {h f n : Nat → Int} {it : Nat → Nat → Int} {c k : Nat} {x : Int} (q : SH σ h f n it) (hc : c < 5 ∨ 12 < c) : SH (sI σ c k x) h f n it := fun s hs => by
  rw [sI_ne (fun e => by omega), sI_ne (fun e => by omega), sI_ne (fun e => by omega)]
  exact ⟨(q s hs).1, (q s hs).2.1, (q s hs).2.2.1, fun i hi => by rw [sI_ne (fun e => by omega)]; exact (q s hs).2.2.2 i hi⟩
/-- the class's cells tell of z: what stands ahead of the plan -/
def CIa (σ : aS) (z : aZ) : Prop := σ.1 0 1 = zl z ∧ (∀ k, k < zl z → σ.1 1 k = zx z k) ∧ σ.1 0 2 = zm z ∧ σ.1 0 3 = zt z ∧ σ.1 0 6 = zn z ∧ (∀ k, k < zn z → σ.1 2 k = zc z k ∧ σ.1 3 k = zs z k) ∧ σ.1 0 7 = zp z ∧ σ.1 0 8 = wv z ∧ SH σ (zh z) (zf z) (zz z) (zi z) ∧ σ.1 0 10 = zg z
def CI (σ : aS) (z : aZ) : Prop := CIa σ z ∧ PV σ z
theorem CIa.fr {σ σ' : aS} {z : aZ} (h : CIa σ z) (f : ∀ c k, c ≤ 12 → σ'.1 c k = σ.1 c k) : CIa σ' z := by
  obtain ⟨h1, h2, h3, h4, h5, h6, h7, h8, h9, h10⟩ := h
  refine ⟨by rw [f 0 1 (by decide)]; exact h1, fun k hk => by rw [f 1 k (by decide)]; exact h2 k hk, by rw [f 0 2 (by decide)]; exact h3, by rw [f 0 3 (by decide)]; exact h4, by rw [f 0 6 (by decide)]; exact h5, fun k hk => by rw [f 2 k (by decide), f 3 k (by decide)]; exact h6 k hk, by rw [f 0 7 (by decide)]; exact h7, by rw [f 0 8 (by decide)]; exact h8, fun s hs => ?_, by rw [f 0 10 (by decide)]; exact h10⟩
  obtain ⟨a1, a2, a3, a4⟩ := h9 s hs
  exact ⟨by rw [f (5 + s) 0 (by omega)]; exact a1, by rw [f (5 + s) 1 (by omega)]; exact a2, by rw [f (5 + s) 2 (by omega)]; exact a3, fun i hi => by rw [f (9 + s) i (by omega)]; exact a4 i hi⟩
theorem CIa.v {σ σ' : aS} {z : aZ} (h : CIa σ z) (f : FrQ vA vB σ σ') : CIa σ' z := h.fr (fun c k hc => f.1 c k (fun q => by omega))
theorem CI.pl {σ : aS} {z : aZ} (h : CI σ z) : PL σ (Gz z) := h.2.2.2.1
theorem CI.c1 {σ : aS} {z : aZ} (h : CI σ z) : σ.2 15 1 = 0#64 ∧ σ.2 15 2 = 0#64 := h.pl.2.2.2.2.2.2.2.2.1
theorem CI.frx {σ σ' : aS} {z : aZ} (h : CI σ z) (f : Frx σ σ') : CI σ' z := by
  refine ⟨h.1.fr (fun c k hc => f.1 c k (by omega)), ?_⟩
  obtain ⟨p1, p2, p3, p4⟩ := h.2
  refine ⟨by rw [f.1 13 0 (by decide)]; exact p1, by rw [f.1 13 1 (by decide)]; exact p2, ?_, by rw [f.1 16 3 (by decide)]; exact p4.1, fun a b => by rw [f.2, f.1 17 _ (by decide)]; exact p4.2 a b⟩
  exact p3.fr (A := fun c _ => 18 ≤ c) (B := fun _ _ => False) ⟨fun c k q => f.1 c k (by omega), fun c k _ => by rw [f.2]⟩ (fun _ q => absurd q (by decide)) (fun _ q => q) (fun _ q => q) (fun _ q => q)
theorem MI.fry {σ σ' : aS} {z : aZ} (h : MI σ z) (f : Fry σ σ') : MI σ' z := by
  obtain ⟨h1, h2, h3, h4, h5, h6, h7, h8, h9, h10⟩ := h
  refine ⟨by rw [f 18 1 (by decide)]; exact h1, fun k hk => by rw [f 19 k (by decide)]; exact h2 k hk, by rw [f 18 6 (by decide)]; exact h3, by rw [f 18 7 (by decide)]; exact h4, by rw [f 18 8 (by decide)]; exact h5, fun k hk => by rw [f 21 k (by decide), f 22 k (by decide)]; exact h6 k hk, by rw [f 18 15 (by decide)]; exact h7, fun k hk => by rw [f 27 k (by decide), f 28 k (by decide)]; exact h8 k hk, fun s hs => ?_, by rw [f 18 23 (by decide)]; exact h10⟩
  obtain ⟨a1, a2, a3, a4⟩ := h9 s hs
  exact ⟨by rw [f 29 s (by decide)]; exact a1, by rw [f 30 s (by decide)]; exact a2, by rw [f 31 s (by decide)]; exact a3, fun i hi => by rw [f 32 _ (by decide)]; exact a4 i hi⟩
theorem ZV_text {z : aZ} (hz : ZV z) {x : Nat → Int} {l : Nat} (hl : l ≤ 39) : ZV (x, l, z.2.2) := ⟨hl, hz.2⟩
theorem ZV_type {z : aZ} (hz : ZV z) {b : Int} : ZV (uType z b) := by
  unfold uType
  by_cases h : (0 ≤ b ∧ b ≤ 255) ∧ zl z ≠ 39
  · rw [if_pos h]; exact ZV_text hz (by have := hz.1; omega)
  · rw [if_neg h]; exact hz
theorem ZV_wipe {z : aZ} (hz : ZV z) : ZV (uWipe z) := ZV_text hz (by omega)
theorem ZV_undo {z : aZ} (hz : ZV z) : ZV (uUndo z) := ZV_text hz (by have := hz.1; omega)
theorem ZV_mt {z : aZ} (hz : ZV z) {m t : Int} (hm : 0 ≤ m ∧ m ≤ 5) (ht : 0 ≤ t ∧ t ≤ 9) : ZV (z.1, z.2.1, m, t, z.2.2.2.2) := ⟨hz.1, hm, ht, hz.2.2.2⟩
theorem ZV_set {z : aZ} (hz : ZV z) {w v : Int} : ZV (uSet z w v) := by
  unfold uSet
  by_cases h : okSet w v
  · rw [cif_t h]
    have h0 : (w = 0 ∧ 0 ≤ v ∧ v ≤ 5) ∨ (w = 1 ∧ 0 ≤ v ∧ v ≤ 9) := h
    refine ZV_mt hz ?_ ?_
    · by_cases e : w = 0
      · rw [if_pos e]; omega
      · rw [if_neg e]; exact hz.2.1
    · by_cases e : w = 1
      · rw [if_pos e]; omega
      · rw [if_neg e]; exact hz.2.2.1
  · rw [cif_f h]; exact hz
set_option maxRecDepth 20000 in
theorem p3_type {d : Nat} {σ : aS} {Q : aQ} {b : Int} {z : aZ} (hc : CI σ z) (hz : ZV z) (hQ : ∀ σ', Fry σ σ' → CI σ' (uType z b) → Q (some (vi (vType z b))) σ') : aCall 34 (d + 6) mX3_type [vr 0, vi b] σ Q := by
  refine cl_in (own := RX3) (cc := cX3_type) (rk := 0) (L := [some (vr 0), some (vi b)]) rfl rfl rfl rfl (by decide) (Nat.le_of_ble_eq_true rfl) ?_
  have hl := hz.1
  obtain ⟨h1, h2, h3, h4, h5, h6, h7, h8, h9, h10⟩ := id hc.1
  refine wp_iload_n dX3_type_0 rfl ?_
  refine wp_if_lt 11 dX3_type_1 (by decide) (fun hh1 => ?_) (fun hh1 => ?_)
  · refine wp_bipush dX3_type_11 (by decide) ?_
    refine wp_iret dX3_type_13 (Or.inl rfl) ?_
    have e0 : vType z b = -2 := by unfold vType; rw [if_neg (by omega)]
    have e1 : uType z b = z := by unfold uType; rw [if_neg (by omega)]
    rw [e0, e1] at hQ
    exact hQ σ Fry.rf hc
  · refine wp_iload_n dX3_type_4 rfl ?_
    refine wp_sipush dX3_type_5 (by decide) ?_
    refine wp_ic_le 14 dX3_type_8 (by decide) (fun hh8 => ?_) (fun hh8 => ?_)
    · refine wp_aload_n dX3_type_14 rfl ?_
      refine wp_getI dX3_type_15 flX3_55 (by decide) rfl (Or.inl rfl) ?_
      refine wp_bipush dX3_type_18 (by decide) ?_
      refine wp_ic_lt 26 dX3_type_20 (by decide) (fun hh20 => ?_) (fun hh20 => ?_)
      · refine wp_aload_n dX3_type_26 rfl ?_
        refine wp_getR dX3_type_27 flX3_9 (by decide) rfl rfl ?_
        refine wp_aload_n dX3_type_30 rfl ?_
        refine wp_getI dX3_type_31 flX3_55 (by decide) rfl (Or.inl rfl) ?_
        refine wp_iload_n dX3_type_34 rfl ?_
        refine wp_iastore dX3_type_35 (by decide) rfl (by omega) (by omega) (by decide) ?_
        refine wp_aload_n dX3_type_36 rfl ?_
        refine wp_dup dX3_type_37 rfl ?_
        refine wp_getI dX3_type_38 flX3_55 (by decide) rfl (Or.inl rfl) ?_
        rw [sI_ne (fun q => absurd q.1 (by decide))]
        refine wp_iconst dX3_type_41 (by decide) ?_
        refine wp_iaddN dX3_type_42 (by omega) ?_
        refine wp_putI dX3_type_43 flX3_55 (by decide) rfl rfl rfl rfl ?_
        refine wp_aload_n dX3_type_46 rfl ?_
        refine wp_V0 dX3_type_47 vlX3_52 (by decide) rfl (Nat.le_of_ble_eq_true rfl) ?_
        have ca : CIa (sI (sI σ 1 (σ.1 0 1).toNat b) 0 1 (σ.1 0 1 + 1)) (up1 (zx z) (zl z) b, zl z + 1, z.2.2) := by
          refine ⟨by show σ.1 0 1 + 1 = ((zl z + 1 : Nat) : Int); omega, fun k hk => ?_, h3, h4, h5, h6, h7, h8, (h9.put (by decide)).put (by decide), h10⟩
          show (if 1 = 1 ∧ k = (σ.1 0 1).toNat then b else σ.1 1 k) = up1 (zx z) (zl z) b k
          have hk : k < zl z + 1 := hk
          unfold up1
          by_cases hkk : k = zl z
          · rw [if_pos hkk, if_pos ⟨rfl, by omega⟩]
          · rw [if_neg hkk, if_neg (fun q => by omega)]; exact h2 k (by omega)
        refine s3_renew (z := (up1 (zx z) (zl z) b, zl z + 1, z.2.2)) (by decide) (ZV_text hz (by omega)) ca.1 ca.2.1 ca.2.2.1 ca.2.2.2.1 hc.c1.1 hc.c1.2 (fun σ2 f2 v2 => ?_)
        refine wp_aload_n dX3_type_50 rfl ?_
        refine wp_getI dX3_type_51 flX3_55 (by decide) rfl (Or.inl rfl) ?_
        refine wp_iret dX3_type_54 (Or.inl rfl) ?_
        have e0 : vType z b = zl z + 1 := by unfold vType; rw [if_pos (by omega), if_neg (by omega)]
        have e1 : uType z b = (up1 (zx z) (zl z) b, zl z + 1, z.2.2) := by unfold uType; rw [if_pos ⟨by omega, by omega⟩]
        rw [e0, e1] at hQ
        have cv := ca.v f2
        exact q_i cv.1 (hQ σ2 (((Fry.rf.put (by decide)).put (by decide)).tr (f2.y vA_y)) ⟨cv, v2⟩)
      · refine wp_bipush dX3_type_23 (by decide) ?_
        refine wp_iret dX3_type_25 (Or.inl rfl) ?_
        have e0 : vType z b = -4 := by unfold vType; rw [if_pos (by omega), if_pos (by omega)]
        have e1 : uType z b = z := by unfold uType; rw [if_neg (by omega)]
        rw [e0, e1] at hQ
        exact hQ σ Fry.rf hc
    · refine wp_bipush dX3_type_11 (by decide) ?_
      refine wp_iret dX3_type_13 (Or.inl rfl) ?_
      have e0 : vType z b = -2 := by unfold vType; rw [if_neg (by omega)]
      have e1 : uType z b = z := by unfold uType; rw [if_neg (by omega)]
      rw [e0, e1] at hQ
      exact hQ σ Fry.rf hc
set_option maxRecDepth 20000 in
theorem p3_wipe {d : Nat} {σ : aS} {Q : aQ} {z : aZ} (hc : CI σ z) (hz : ZV z) (hQ : ∀ σ', Fry σ σ' → CI σ' (uWipe z) → Q (some (vi (zl z))) σ') : aCall 34 (d + 6) mX3_wipe [vr 0] σ Q := by
  refine cl_in (own := RX3) (cc := cX3_wipe) (rk := 0) (L := [some (vr 0), none]) rfl rfl rfl rfl (by decide) (Nat.le_of_ble_eq_true rfl) ?_
  obtain ⟨h1, h2, h3, h4, h5, h6, h7, h8, h9, h10⟩ := id hc.1
  refine wp_aload_n dX3_wipe_0 rfl ?_
  refine wp_getI dX3_wipe_1 flX3_55 (by decide) rfl (Or.inl rfl) ?_
  refine wp_istN (L' := [some (vr _), some (vi _)]) dX3_wipe_4 (Nat.le_of_ble_eq_true rfl) rfl ?_
  refine wp_aload_n dX3_wipe_5 rfl ?_
  refine wp_iconst dX3_wipe_6 (by decide) ?_
  refine wp_putI dX3_wipe_7 flX3_55 (by decide) rfl rfl rfl rfl ?_
  refine wp_aload_n dX3_wipe_10 rfl ?_
  refine wp_V0 dX3_wipe_11 vlX3_52 (by decide) rfl (Nat.le_of_ble_eq_true rfl) ?_
  have ca : CIa (sI σ 0 1 0) (uWipe z) := ⟨rfl, fun k hk => absurd hk (Nat.not_lt_zero k), h3, h4, h5, h6, h7, h8, h9.put (by decide), h10⟩
  refine s3_renew (z := (uWipe z)) (by decide) (ZV_wipe hz) ca.1 ca.2.1 ca.2.2.1 ca.2.2.2.1 hc.c1.1 hc.c1.2 (fun σ2 f2 v2 => ?_)
  refine wp_iload_n dX3_wipe_14 rfl ?_
  refine wp_iret dX3_wipe_15 (Or.inl rfl) ?_
  exact q_i h1 (hQ σ2 ((Fry.rf.put (by decide)).tr (f2.y vA_y)) ⟨ca.v f2, v2⟩)
set_option maxRecDepth 20000 in
theorem p3_undo {d : Nat} {σ : aS} {Q : aQ} {z : aZ} (hc : CI σ z) (hz : ZV z) (hQ : ∀ σ', Fry σ σ' → CI σ' (uUndo z) → Q (some (vi (vUndo z))) σ') : aCall 34 (d + 6) mX3_undo [vr 0] σ Q := by
  refine cl_in (own := RX3) (cc := cX3_undo) (rk := 0) (L := [some (vr 0)]) rfl rfl rfl rfl (by decide) (Nat.le_of_ble_eq_true rfl) ?_
  have hl := hz.1
  obtain ⟨h1, h2, h3, h4, h5, h6, h7, h8, h9, h10⟩ := id hc.1
  refine wp_aload_n dX3_undo_0 rfl ?_
  refine wp_getI dX3_undo_1 flX3_55 (by decide) rfl (Or.inl rfl) ?_
  refine wp_if_gt 10 dX3_undo_4 (by decide) (fun hh4 => ?_) (fun hh4 => ?_)
  · refine wp_aload_n dX3_undo_10 rfl ?_
    refine wp_dup dX3_undo_11 rfl ?_
    refine wp_getI dX3_undo_12 flX3_55 (by decide) rfl (Or.inl rfl) ?_
    refine wp_iconst dX3_undo_15 (by decide) ?_
    refine wp_isubN dX3_undo_16 (by omega) ?_
    refine wp_putI dX3_undo_17 flX3_55 (by decide) rfl rfl rfl rfl ?_
    refine wp_aload_n dX3_undo_20 rfl ?_
    refine wp_V0 dX3_undo_21 vlX3_52 (by decide) rfl (Nat.le_of_ble_eq_true rfl) ?_
    have ca : CIa (sI σ 0 1 (σ.1 0 1 - 1)) (uUndo z) := ⟨by show σ.1 0 1 - 1 = ((zl z - 1 : Nat) : Int); omega, fun k hk => h2 k (by have hk : k < zl z - 1 := hk; omega), h3, h4, h5, h6, h7, h8, h9.put (by decide), h10⟩
    refine s3_renew (z := (uUndo z)) (by decide) (ZV_undo hz) ca.1 ca.2.1 ca.2.2.1 ca.2.2.2.1 hc.c1.1 hc.c1.2 (fun σ2 f2 v2 => ?_)
    refine wp_aload_n dX3_undo_24 rfl ?_
    refine wp_getI dX3_undo_25 flX3_55 (by decide) rfl (Or.inl rfl) ?_
    refine wp_iret dX3_undo_28 (Or.inl rfl) ?_
    have e0 : vUndo z = zl z - 1 := by unfold vUndo; rw [if_neg (by omega)]
    rw [e0] at hQ
    have cv := ca.v f2
    have c9 : σ2.1 0 1 = ((zl z - 1 : Nat) : Int) := cv.1
    exact q_i (by omega) (hQ σ2 ((Fry.rf.put (by decide)).tr (f2.y vA_y)) ⟨cv, v2⟩)
  · refine wp_bipush dX3_undo_7 (by decide) ?_
    refine wp_iret dX3_undo_9 (Or.inl rfl) ?_
    have e0 : vUndo z = -3 := by unfold vUndo; rw [if_pos (by omega)]
    rw [e0] at hQ
    have ez : uUndo z = z := by
      unfold uUndo
      rw [show zl z - 1 = zl z by omega]
    rw [ez] at hQ
    exact hQ σ Fry.rf hc
set_option maxRecDepth 20000 in
theorem p3_set {d : Nat} {σ : aS} {Q : aQ} {w v : Int} {z : aZ} (hc : CI σ z) (hz : ZV z) (hQ : ∀ σ', Fry σ σ' → CI σ' (uSet z w v) → Q (some (vi (vSet z w v))) σ') : aCall 34 (d + 6) mX3_set [vr 0, vi w, vi v] σ Q := by
  refine cl_in (own := RX3) (cc := cX3_set) (rk := 0) (L := [some (vr 0), some (vi w), some (vi v), none]) rfl rfl rfl rfl (by decide) (Nat.le_of_ble_eq_true rfl) ?_
  obtain ⟨h1, h2, h3, h4, h5, h6, h7, h8, h9, h10⟩ := id hc.1
  refine wp_iload_n dX3_set_0 rfl ?_
  refine wp_if_ne 29 dX3_set_1 (by decide) (fun hh1 => ?_) (fun hh1 => ?_)
  · refine wp_iload_n dX3_set_29 rfl ?_
    refine wp_iconst dX3_set_30 (by decide) ?_
    refine wp_ic_ne 60 dX3_set_31 (by decide) (fun hh31 => ?_) (fun hh31 => ?_)
    · refine wp_bipush dX3_set_60 (by decide) ?_
      refine wp_iret dX3_set_62 (Or.inl rfl) ?_
      have e0 : vSet z w v = -2 := by unfold vSet; rw [cif_f (show ¬ okSet w v by unfold okSet; omega)]
      have e1 : uSet z w v = z := by unfold uSet; rw [cif_f (show ¬ okSet w v by unfold okSet; omega)]
      rw [e0, e1] at hQ
      exact hQ σ Fry.rf hc
    · refine wp_iload_n dX3_set_34 rfl ?_
      refine wp_if_lt 60 dX3_set_35 (by decide) (fun hh35 => ?_) (fun hh35 => ?_)
      · refine wp_bipush dX3_set_60 (by decide) ?_
        refine wp_iret dX3_set_62 (Or.inl rfl) ?_
        have e0 : vSet z w v = -2 := by unfold vSet; rw [cif_f (show ¬ okSet w v by unfold okSet; omega)]
        have e1 : uSet z w v = z := by unfold uSet; rw [cif_f (show ¬ okSet w v by unfold okSet; omega)]
        rw [e0, e1] at hQ
        exact hQ σ Fry.rf hc
      · refine wp_iload_n dX3_set_38 rfl ?_
        refine wp_bipush dX3_set_39 (by decide) ?_
        refine wp_ic_gt 60 dX3_set_41 (by decide) (fun hh41 => ?_) (fun hh41 => ?_)
        · refine wp_bipush dX3_set_60 (by decide) ?_
          refine wp_iret dX3_set_62 (Or.inl rfl) ?_
          have e0 : vSet z w v = -2 := by unfold vSet; rw [cif_f (show ¬ okSet w v by unfold okSet; omega)]
          have e1 : uSet z w v = z := by unfold uSet; rw [cif_f (show ¬ okSet w v by unfold okSet; omega)]
          rw [e0, e1] at hQ
          exact hQ σ Fry.rf hc
        · refine wp_aload_n dX3_set_44 rfl ?_
          refine wp_getI dX3_set_45 flX3_17 (by decide) rfl (Or.inl rfl) ?_
          refine wp_istN (L' := [some (vr _), some (vi _), some (vi _), some (vi _)]) dX3_set_48 (Nat.le_of_ble_eq_true rfl) rfl ?_
          refine wp_aload_n dX3_set_49 rfl ?_
          refine wp_iload_n dX3_set_50 rfl ?_
          refine wp_putI dX3_set_51 flX3_17 (by decide) rfl rfl rfl rfl ?_
          refine wp_aload_n dX3_set_54 rfl ?_
          refine wp_V0 dX3_set_55 vlX3_52 (by decide) rfl (Nat.le_of_ble_eq_true rfl) ?_
          have ca : CIa (sI σ 0 3 v) (z.1, z.2.1, zm z, v, z.2.2.2.2) := ⟨h1, h2, h3, rfl, h5, h6, h7, h8, h9.put (by decide), h10⟩
          refine s3_renew (z := (z.1, z.2.1, zm z, v, z.2.2.2.2)) (by decide) (ZV_mt hz hz.2.1 (by omega)) ca.1 ca.2.1 ca.2.2.1 ca.2.2.2.1 hc.c1.1 hc.c1.2 (fun σ2 f2 v2 => ?_)
          refine wp_iload_n dX3_set_58 rfl ?_
          refine wp_iret dX3_set_59 (Or.inl rfl) ?_
          have hw0 : ¬ w = 0 := by omega
          have hw1 : w = 1 := by omega
          have e0 : vSet z w v = (if w = 0 then zm z else zt z) := by unfold vSet; rw [cif_t (show okSet w v by unfold okSet; omega)]
          have e1 : uSet z w v = (z.1, z.2.1, if w = 0 then v else zm z, if w = 1 then v else zt z, z.2.2.2.2) := by unfold uSet; rw [cif_t (show okSet w v by unfold okSet; omega)]
          rw [e0, e1, if_neg hw0, if_pos hw1, if_neg hw0] at hQ
          exact q_i h4 (hQ σ2 ((Fry.rf.put (by decide)).tr (f2.y vA_y)) ⟨ca.v f2, v2⟩)
  · refine wp_iload_n dX3_set_4 rfl ?_
    refine wp_if_lt 29 dX3_set_5 (by decide) (fun hh5 => ?_) (fun hh5 => ?_)
    · refine wp_iload_n dX3_set_29 rfl ?_
      refine wp_iconst dX3_set_30 (by decide) ?_
      refine wp_ic_ne 60 dX3_set_31 (by decide) (fun hh31 => ?_) (fun hh31 => ?_)
      · refine wp_bipush dX3_set_60 (by decide) ?_
        refine wp_iret dX3_set_62 (Or.inl rfl) ?_
        have e0 : vSet z w v = -2 := by unfold vSet; rw [cif_f (show ¬ okSet w v by unfold okSet; omega)]
        have e1 : uSet z w v = z := by unfold uSet; rw [cif_f (show ¬ okSet w v by unfold okSet; omega)]
        rw [e0, e1] at hQ
        exact hQ σ Fry.rf hc
      · exfalso; omega
    · refine wp_iload_n dX3_set_8 rfl ?_
      refine wp_iconst dX3_set_9 (by decide) ?_
      refine wp_ic_gt 29 dX3_set_10 (by decide) (fun hh10 => ?_) (fun hh10 => ?_)
      · refine wp_iload_n dX3_set_29 rfl ?_
        refine wp_iconst dX3_set_30 (by decide) ?_
        refine wp_ic_ne 60 dX3_set_31 (by decide) (fun hh31 => ?_) (fun hh31 => ?_)
        · refine wp_bipush dX3_set_60 (by decide) ?_
          refine wp_iret dX3_set_62 (Or.inl rfl) ?_
          have e0 : vSet z w v = -2 := by unfold vSet; rw [cif_f (show ¬ okSet w v by unfold okSet; omega)]
          have e1 : uSet z w v = z := by unfold uSet; rw [cif_f (show ¬ okSet w v by unfold okSet; omega)]
          rw [e0, e1] at hQ
          exact hQ σ Fry.rf hc
        · exfalso; omega
      · refine wp_aload_n dX3_set_13 rfl ?_
        refine wp_getI dX3_set_14 flX3_13 (by decide) rfl (Or.inl rfl) ?_
        refine wp_istN (L' := [some (vr _), some (vi _), some (vi _), some (vi _)]) dX3_set_17 (Nat.le_of_ble_eq_true rfl) rfl ?_
        refine wp_aload_n dX3_set_18 rfl ?_
        refine wp_iload_n dX3_set_19 rfl ?_
        refine wp_putI dX3_set_20 flX3_13 (by decide) rfl rfl rfl rfl ?_
        refine wp_aload_n dX3_set_23 rfl ?_
        refine wp_V0 dX3_set_24 vlX3_52 (by decide) rfl (Nat.le_of_ble_eq_true rfl) ?_
        have ca : CIa (sI σ 0 2 v) (z.1, z.2.1, v, zt z, z.2.2.2.2) := ⟨h1, h2, rfl, h4, h5, h6, h7, h8, h9.put (by decide), h10⟩
        refine s3_renew (z := (z.1, z.2.1, v, zt z, z.2.2.2.2)) (by decide) (ZV_mt hz (by omega) hz.2.2.1) ca.1 ca.2.1 ca.2.2.1 ca.2.2.2.1 hc.c1.1 hc.c1.2 (fun σ2 f2 v2 => ?_)
        refine wp_iload_n dX3_set_27 rfl ?_
        refine wp_iret dX3_set_28 (Or.inl rfl) ?_
        have hw0 : w = 0 := by omega
        have hw1 : ¬ w = 1 := by omega
        have e0 : vSet z w v = (if w = 0 then zm z else zt z) := by unfold vSet; rw [cif_t (show okSet w v by unfold okSet; omega)]
        have e1 : uSet z w v = (z.1, z.2.1, if w = 0 then v else zm z, if w = 1 then v else zt z, z.2.2.2.2) := by unfold uSet; rw [cif_t (show okSet w v by unfold okSet; omega)]
        rw [e0, e1, if_pos hw0, if_neg hw1, if_pos hw0] at hQ
        exact q_i h3 (hQ σ2 ((Fry.rf.put (by decide)).tr (f2.y vA_y)) ⟨ca.v f2, v2⟩)
set_option maxRecDepth 20000 in
theorem s3_isStep {d : Nat} {σ : aS} {Q : aQ} {s : Int} {NC : Nat} (hQ : Q (some (vi (bi (0 ≤ s ∧ s ≤ 99)))) σ) : aCall NC (d + 1) mX3_isStep [vi s] σ Q := by
  refine cl_in (own := RX3) (cc := cX3_isStep) (rk := 1) (L := [some (vi s)]) rfl rfl rfl rfl (by decide) (Nat.le_of_ble_eq_true rfl) ?_
  refine wp_iload_n dX3_isStep_0 rfl ?_
  refine wp_if_lt 14 dX3_isStep_1 (by decide) (fun h1 => ?_) (fun h1 => ?_)
  · refine wp_iconst dX3_isStep_14 (by decide) ?_
    refine wp_iret dX3_isStep_15 (Or.inr ⟨rfl, by decide⟩) ?_
    exact q_f (by omega) hQ
  · refine wp_iload_n dX3_isStep_4 rfl ?_
    refine wp_bipush dX3_isStep_5 (by decide) ?_
    refine wp_ic_ge 14 dX3_isStep_7 (by decide) (fun h7 => ?_) (fun h7 => ?_)
    · refine wp_iconst dX3_isStep_14 (by decide) ?_
      refine wp_iret dX3_isStep_15 (Or.inr ⟨rfl, by decide⟩) ?_
      exact q_f (by omega) hQ
    · refine wp_iconst dX3_isStep_10 (by decide) ?_
      refine wp_gotoN 15 dX3_isStep_11 (by decide) ?_
      refine wp_iret dX3_isStep_15 (Or.inr ⟨rfl, by decide⟩) ?_
      exact q_t (by omega) hQ
set_option maxRecDepth 20000 in
theorem p3_thing {d : Nat} {σ : aS} {Q : aQ} {c s : Int} {z : aZ} (hc : CI σ z) (hz : ZV z) (hQ : ∀ σ', Fry σ σ' → CI σ' (uThing z c s) → Q (some (vi (vThing z c s))) σ') : aCall 34 (d + 2) mX3_thing [vr 0, vi c, vi s] σ Q := by
  refine cl_in (own := RX3) (cc := cX3_thing) (rk := 0) (L := [some (vr 0), some (vi c), some (vi s)]) rfl rfl rfl rfl (by decide) (Nat.le_of_ble_eq_true rfl) ?_
  have hl := hz.2.2.2.1
  obtain ⟨h1, h2, h3, h4, h5, h6, h7, h8, h9, h10⟩ := id hc.1
  refine wp_iload_n dX3_thing_0 rfl ?_
  refine wp_if_lt 17 dX3_thing_1 (by decide) (fun hh1 => ?_) (fun hh1 => ?_)
  · refine wp_bipush dX3_thing_17 (by decide) ?_
    refine wp_iret dX3_thing_19 (Or.inl rfl) ?_
    have e0 : vThing z c s = -2 := by unfold vThing; rw [cif_f (show ¬ okThing c s by unfold okThing; omega)]
    have e1 : uThing z c s = z := by unfold uThing; rw [cif_f (fun q => (show ¬ okThing c s by unfold okThing; omega) q.1)]
    rw [e0, e1] at hQ
    exact hQ σ Fry.rf hc
  · refine wp_iload_n dX3_thing_4 rfl ?_
    refine wp_bipush dX3_thing_5 (by decide) ?_
    refine wp_ic_ge 17 dX3_thing_7 (by decide) (fun hh7 => ?_) (fun hh7 => ?_)
    · refine wp_bipush dX3_thing_17 (by decide) ?_
      refine wp_iret dX3_thing_19 (Or.inl rfl) ?_
      have e0 : vThing z c s = -2 := by unfold vThing; rw [cif_f (show ¬ okThing c s by unfold okThing; omega)]
      have e1 : uThing z c s = z := by unfold uThing; rw [cif_f (fun q => (show ¬ okThing c s by unfold okThing; omega) q.1)]
      rw [e0, e1] at hQ
      exact hQ σ Fry.rf hc
    · refine wp_iload_n dX3_thing_10 rfl ?_
      refine wp_S1 dX3_thing_11 zlX3_84 (Nat.le_of_ble_eq_true rfl) ?_
      refine s3_isStep ?_
      refine wp_ifB_ne 20 dX3_thing_14 (by decide) (fun hh14 => ?_) (fun hh14 => ?_)
      · refine wp_aload_n dX3_thing_20 rfl ?_
        refine wp_getI dX3_thing_21 flX3_87 (by decide) rfl (Or.inl rfl) ?_
        refine wp_bipush dX3_thing_24 (by decide) ?_
        refine wp_ic_lt 32 dX3_thing_26 (by decide) (fun hh26 => ?_) (fun hh26 => ?_)
        · refine wp_aload_n dX3_thing_32 rfl ?_
          refine wp_getR dX3_thing_33 flX3_20 (by decide) rfl rfl ?_
          refine wp_aload_n dX3_thing_36 rfl ?_
          refine wp_getI dX3_thing_37 flX3_87 (by decide) rfl (Or.inl rfl) ?_
          refine wp_iload_n dX3_thing_40 rfl ?_
          refine wp_iastore dX3_thing_41 (by decide) rfl (by omega) (by omega) (by decide) ?_
          refine wp_aload_n dX3_thing_42 rfl ?_
          refine wp_getR dX3_thing_43 flX3_23 (by decide) rfl rfl ?_
          refine wp_aload_n dX3_thing_46 rfl ?_
          refine wp_getI dX3_thing_47 flX3_87 (by decide) rfl (Or.inl rfl) ?_
          rw [sI_ne (fun q => absurd q.1 (by decide))]
          refine wp_iload_n dX3_thing_50 rfl ?_
          refine wp_iastore dX3_thing_51 (by decide) rfl (by omega) (by omega) (by decide) ?_
          refine wp_aload_n dX3_thing_52 rfl ?_
          refine wp_dup dX3_thing_53 rfl ?_
          refine wp_getI dX3_thing_54 flX3_87 (by decide) rfl (Or.inl rfl) ?_
          rw [sI_ne (fun q => absurd q.1 (by decide))]
          rw [sI_ne (fun q => absurd q.1 (by decide))]
          refine wp_iconst dX3_thing_57 (by decide) ?_
          refine wp_iaddN dX3_thing_58 (by omega) ?_
          refine wp_putI dX3_thing_59 flX3_87 (by decide) rfl rfl rfl rfl ?_
          refine wp_aload_n dX3_thing_62 rfl ?_
          refine wp_getI dX3_thing_63 flX3_87 (by decide) rfl (Or.inl rfl) ?_
          rw [sI_eq]
          refine wp_iret dX3_thing_66 (Or.inl rfl) ?_
          have e0 : vThing z c s = zn z + 1 := by unfold vThing; rw [cif_t (show okThing c s from ⟨by omega, by omega⟩), if_neg (by omega)]
          have e1 : uThing z c s = mkT z (zn z + 1) (up1 (zc z) (zn z) c) (up1 (zs z) (zn z) s) := by unfold uThing; rw [cif_t ⟨(show okThing c s from ⟨by omega, by omega⟩), by omega⟩]
          rw [e0, e1] at hQ
          refine q_i (by omega) (hQ _ (((Fry.rf.put (by decide)).put (by decide)).put (by decide)) ⟨⟨h1, h2, h3, h4, by show σ.1 0 6 + 1 = ((zn z + 1 : Nat) : Int); omega, fun k hk => ?_, h7, h8, ((h9.put (by decide)).put (by decide)).put (by decide), h10⟩, hc.2⟩)
          have hk : k < zn z + 1 := hk
          show (if 2 = 2 ∧ k = (σ.1 0 6).toNat then c else σ.1 2 k) = up1 (zc z) (zn z) c k ∧ (if 3 = 3 ∧ k = (σ.1 0 6).toNat then s else σ.1 3 k) = up1 (zs z) (zn z) s k
          unfold up1
          by_cases hkk : k = zn z
          · rw [if_pos hkk, if_pos hkk, if_pos ⟨rfl, by omega⟩, if_pos ⟨rfl, by omega⟩]; exact ⟨rfl, rfl⟩
          · rw [if_neg hkk, if_neg hkk, if_neg (fun q => by omega), if_neg (fun q => by omega)]; exact h6 k (by omega)
        · refine wp_bipush dX3_thing_29 (by decide) ?_
          refine wp_iret dX3_thing_31 (Or.inl rfl) ?_
          have e0 : vThing z c s = -4 := by unfold vThing; rw [cif_t (show okThing c s from ⟨by omega, by omega⟩), if_pos (by omega)]
          have e1 : uThing z c s = z := by unfold uThing; rw [cif_f (fun q => by have := q.2; omega)]
          rw [e0, e1] at hQ
          exact hQ σ Fry.rf hc
      · refine wp_bipush dX3_thing_17 (by decide) ?_
        refine wp_iret dX3_thing_19 (Or.inl rfl) ?_
        have e0 : vThing z c s = -2 := by unfold vThing; rw [cif_f (show ¬ okThing c s by unfold okThing; omega)]
        have e1 : uThing z c s = z := by unfold uThing; rw [cif_f (fun q => (show ¬ okThing c s by unfold okThing; omega) q.1)]
        rw [e0, e1] at hQ
        exact hQ σ Fry.rf hc
set_option maxRecDepth 20000 in
theorem p3_back {d : Nat} {σ : aS} {Q : aQ} {z : aZ} (hc : CI σ z) (hz : ZV z) (hQ : ∀ σ', Fry σ σ' → CI σ' (uBack z) → Q (some (vi (vBack z))) σ') : aCall 34 (d + 1) mX3_back [vr 0] σ Q := by
  refine cl_in (own := RX3) (cc := cX3_back) (rk := 0) (L := [some (vr 0)]) rfl rfl rfl rfl (by decide) (Nat.le_of_ble_eq_true rfl) ?_
  have hl := hz.2.2.2.1
  obtain ⟨h1, h2, h3, h4, h5, h6, h7, h8, h9, h10⟩ := id hc.1
  refine wp_aload_n dX3_back_0 rfl ?_
  refine wp_getI dX3_back_1 flX3_87 (by decide) rfl (Or.inl rfl) ?_
  refine wp_if_gt 10 dX3_back_4 (by decide) (fun hh4 => ?_) (fun hh4 => ?_)
  · refine wp_aload_n dX3_back_10 rfl ?_
    refine wp_dup dX3_back_11 rfl ?_
    refine wp_getI dX3_back_12 flX3_87 (by decide) rfl (Or.inl rfl) ?_
    refine wp_iconst dX3_back_15 (by decide) ?_
    refine wp_isubN dX3_back_16 (by omega) ?_
    refine wp_putI dX3_back_17 flX3_87 (by decide) rfl rfl rfl rfl ?_
    refine wp_aload_n dX3_back_20 rfl ?_
    refine wp_getI dX3_back_21 flX3_87 (by decide) rfl (Or.inl rfl) ?_
    rw [sI_eq]
    refine wp_iret dX3_back_24 (Or.inl rfl) ?_
    have e0 : vBack z = zn z - 1 := by unfold vBack; rw [if_neg (by omega)]
    rw [e0] at hQ
    exact q_i (by omega) (hQ _ (Fry.rf.put (by decide)) ⟨⟨h1, h2, h3, h4, by show σ.1 0 6 - 1 = ((zn z - 1 : Nat) : Int); omega, fun k hk => h6 k (by have hk : k < zn z - 1 := hk; omega), h7, h8, h9.put (by decide), h10⟩, hc.2⟩)
  · refine wp_bipush dX3_back_7 (by decide) ?_
    refine wp_iret dX3_back_9 (Or.inl rfl) ?_
    have e0 : vBack z = -3 := by unfold vBack; rw [if_pos (by omega)]
    rw [e0] at hQ
    exact hQ σ Fry.rf ⟨⟨h1, h2, h3, h4, by show σ.1 0 6 = ((zn z - 1 : Nat) : Int); omega, fun k hk => h6 k (by have hk : k < zn z - 1 := hk; omega), h7, h8, h9, h10⟩, hc.2⟩
