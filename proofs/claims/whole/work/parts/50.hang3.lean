theorem xlX3_165 : xLink RX3 165 := ⟨by decide +kernel, by decide +kernel, by decide +kernel, by decide +kernel⟩
theorem nlX3_225 : nLink RX3 225 := ⟨by decide +kernel, by decide +kernel, by decide +kernel, by decide +kernel⟩
def ib1 (v : Int) : Int := w32 (v - bi32 (· &&& ·) (w32 (v % 4294967296 / 2 ^ 1)) 1431655765)
def ib2 (v : Int) : Int := w32 (bi32 (· &&& ·) v 858993459 + bi32 (· &&& ·) (w32 (v % 4294967296 / 2 ^ 2)) 858993459)
def ib3 (v : Int) : Int := bi32 (· &&& ·) (w32 (v + w32 (v % 4294967296 / 2 ^ 4))) 252645135
def ib4 (v : Int) (k : Nat) : Int := w32 (v + w32 (v % 4294967296 / 2 ^ k))
/-- what Integer.bitCount answers -/
def ibc (v : Int) : Int := bi32 (· &&& ·) (ib4 (ib4 (ib3 (ib2 (ib1 v))) 8) 16) 63
theorem ibc_k : ∀ (r : Fin 5) (a0 a1 a2 a3 a4 a5 : Fin 2), ibc ((a0.val : Int) + 2 * a1.val + 4 * a2.val + 8 * a3.val + 16 * a4.val + 32 * a5.val) = (a0.val : Int) + a1.val + a2.val + a3.val + a4.val + a5.val ∧ ibc (bi32 (· &&& ·) ((a0.val : Int) + 2 * a1.val + 4 * a2.val + 8 * a3.val + 16 * a4.val + 32 * a5.val) (hup r.val)) = (if r.val < 0 then (a0.val : Int) else 0) + (if r.val < 1 then (a1.val : Int) else 0) + (if r.val < 2 then (a2.val : Int) else 0) + (if r.val < 3 then (a3.val : Int) else 0) + (if r.val < 4 then (a4.val : Int) else 0) + (if r.val < 5 then (a5.val : Int) else 0) := by decide +kernel
theorem bi_an {P : Prop} {r m : Nat} {a : Fin 2} (h : bi P = (a.val : Int)) : bi (P ∧ (r : Int) < (m : Int)) = if r < m then (a.val : Int) else 0 := by
  by_cases q : r < m
  · rw [if_pos q, ← h]; exact bi_c ⟨fun w => w.1, fun w => ⟨w, by omega⟩⟩
  · rw [if_neg q]; exact bi_f (fun w => by have := w.2; omega)
theorem wv_cnt {z : aZ} {r : Nat} (hr : r < 5) : ibc (wv z) = hgA z ∧ ibc (bi32 (· &&& ·) (wv z) (hup r)) = hgU z r := by
  obtain ⟨a0, q0⟩ := bi_fin (okM z ((0 : Nat) : Int) (zp z))
  obtain ⟨a1, q1⟩ := bi_fin (okM z ((1 : Nat) : Int) (zp z))
  obtain ⟨a2, q2⟩ := bi_fin (okM z ((2 : Nat) : Int) (zp z))
  obtain ⟨a3, q3⟩ := bi_fin (okM z ((3 : Nat) : Int) (zp z))
  obtain ⟨a4, q4⟩ := bi_fin (okM z ((4 : Nat) : Int) (zp z))
  obtain ⟨a5, q5⟩ := bi_fin (okM z ((5 : Nat) : Int) (zp z))
  have K := ibc_k ⟨r, hr⟩ a0 a1 a2 a3 a4 a5
  have e1 : wv z = (a0.val : Int) + 2 * a1.val + 4 * a2.val + 8 * a3.val + 16 * a4.val + 32 * a5.val := by
    rw [← q0, ← q1, ← q2, ← q3, ← q4, ← q5]; exact wv_6 z
  rw [e1]
  have e2 : hgA z = 0 + bi (okM z ((0 : Nat) : Int) (zp z)) + bi (okM z ((1 : Nat) : Int) (zp z)) + bi (okM z ((2 : Nat) : Int) (zp z)) + bi (okM z ((3 : Nat) : Int) (zp z)) + bi (okM z ((4 : Nat) : Int) (zp z)) + bi (okM z ((5 : Nat) : Int) (zp z)) := rfl
  have e3 : hgU z r = 0 + bi (okM z ((0 : Nat) : Int) (zp z) ∧ (r : Int) < ((0 : Nat) : Int)) + bi (okM z ((1 : Nat) : Int) (zp z) ∧ (r : Int) < ((1 : Nat) : Int)) + bi (okM z ((2 : Nat) : Int) (zp z) ∧ (r : Int) < ((2 : Nat) : Int)) + bi (okM z ((3 : Nat) : Int) (zp z) ∧ (r : Int) < ((3 : Nat) : Int)) + bi (okM z ((4 : Nat) : Int) (zp z) ∧ (r : Int) < ((4 : Nat) : Int)) + bi (okM z ((5 : Nat) : Int) (zp z) ∧ (r : Int) < ((5 : Nat) : Int)) := rfl
  rw [e2, e3, bi_an q0, bi_an q1, bi_an q2, bi_an q3, bi_an q4, bi_an q5, q0, q1, q2, q3, q4, q5]
  refine ⟨K.1.trans (by omega), K.2.trans ?_⟩
  show (if r < 0 then (a0.val : Int) else 0) + (if r < 1 then (a1.val : Int) else 0) + (if r < 2 then (a2.val : Int) else 0) + (if r < 3 then (a3.val : Int) else 0) + (if r < 4 then (a4.val : Int) else 0) + (if r < 5 then (a5.val : Int) else 0) = _
  rw [Int.zero_add]
theorem hg_in {z : aZ} {r : Int} : 0 ≤ hgU z r ∧ hgU z r ≤ 6 ∧ 0 ≤ hgA z ∧ hgA z ≤ 6 ∧ hgU z r ≤ hgA z := by
  have h1 := cnt_in (fun m => okM z m (zp z)) 6
  have h2 := cnt_in (fun m => okM z m (zp z) ∧ r < m) 6
  have h3 := cnt_le (p := fun m => okM z m (zp z) ∧ r < m) (q := fun m => okM z m (zp z)) 6 (fun i _ q => q.1)
  exact ⟨h2.1, h2.2, h1.1, h1.2, h3⟩
noncomputable def hgM (z : aZ) (k : Nat) : Int := if (hgN z k).1 = -1 then 63 else (hgN z k).2
theorem hgB_in {z : aZ} {r : Int} : 0 ≤ hgB z r ∧ hgB z r ≤ 6 := by
  have := hg_in (z := z) (r := r)
  unfold hgB
  by_cases h : hgA z - hgU z r < hgU z r
  · rw [if_pos h]; omega
  · rw [if_neg h]; omega
theorem hg_t {z : aZ} {k : Nat} (h : hgB z k < hgM z k) : (hgN z (k + 1)).1 = k ∧ hgM z (k + 1) = hgB z k := by
  have e : hgN z (k + 1) = ((k : Int), hgB z k) := by
    show (if (hgN z k).1 = -1 ∨ hgB z k < (hgN z k).2 then ((k : Int), hgB z k) else hgN z k) = _
    refine if_pos ?_
    unfold hgM at h
    by_cases q : (hgN z k).1 = -1
    · exact Or.inl q
    · rw [if_neg q] at h; exact Or.inr h
  unfold hgM
  rw [e]
  refine ⟨rfl, if_neg (fun q => ?_)⟩
  have q : (k : Int) = -1 := q
  omega
theorem hg_f {z : aZ} {k : Nat} (h : ¬ hgB z k < hgM z k) : (hgN z (k + 1)).1 = (hgN z k).1 ∧ hgM z (k + 1) = hgM z k := by
  have e : hgN z (k + 1) = hgN z k := by
    show (if (hgN z k).1 = -1 ∨ hgB z k < (hgN z k).2 then ((k : Int), hgB z k) else hgN z k) = _
    refine if_neg (fun w => h ?_)
    unfold hgM
    rcases w with w | w
    · rw [if_pos w]; have := hgB_in (z := z) (r := k); omega
    · by_cases q : (hgN z k).1 = -1
      · rw [if_pos q]; have := hgB_in (z := z) (r := k); omega
      · rw [if_neg q]; exact w
  exact ⟨by rw [e], by unfold hgM; rw [e]⟩
set_option maxRecDepth 20000 in
theorem s_ibc {d : Nat} {σ : aS} {Q : aQ} {v : Int} {NC : Nat} (hQ : Q (some (vi (ibc v))) σ) : aCall NC (d + 1) mJ6_bitCount_0f7a4 [vi v] σ Q := by
  refine cl_in (own := RJ6) (cc := cJ6_bitCount_0f7a4) (rk := 0) (L := [some (vi v)]) rfl rfl rfl rfl (by decide) (Nat.le_of_ble_eq_true rfl) ?_
  refine wp_iload_n dJ6_bitCount_0f7a4_0 rfl ?_
  refine wp_iload_n dJ6_bitCount_0f7a4_1 rfl ?_
  refine wp_iconst dJ6_bitCount_0f7a4_2 (by decide) ?_
  refine wp_iushr dJ6_bitCount_0f7a4_3 (by omega) (by omega) ?_
  refine wp_ldcw dJ6_bitCount_0f7a4_4 klJ6_265 ?_
  refine wp_iand dJ6_bitCount_0f7a4_7 ?_
  refine wp_isub dJ6_bitCount_0f7a4_8 ?_
  refine wp_istN (L' := [some (vi _)]) dJ6_bitCount_0f7a4_9 (Nat.le_of_ble_eq_true rfl) rfl ?_
  refine wp_iload_n dJ6_bitCount_0f7a4_10 rfl ?_
  refine wp_ldcw dJ6_bitCount_0f7a4_11 klJ6_266 ?_
  refine wp_iand dJ6_bitCount_0f7a4_14 ?_
  refine wp_iload_n dJ6_bitCount_0f7a4_15 rfl ?_
  refine wp_iconst dJ6_bitCount_0f7a4_16 (by decide) ?_
  refine wp_iushr dJ6_bitCount_0f7a4_17 (by omega) (by omega) ?_
  refine wp_ldcw dJ6_bitCount_0f7a4_18 klJ6_266 ?_
  refine wp_iand dJ6_bitCount_0f7a4_21 ?_
  refine wp_iadd dJ6_bitCount_0f7a4_22 ?_
  refine wp_istN (L' := [some (vi _)]) dJ6_bitCount_0f7a4_23 (Nat.le_of_ble_eq_true rfl) rfl ?_
  refine wp_iload_n dJ6_bitCount_0f7a4_24 rfl ?_
  refine wp_iload_n dJ6_bitCount_0f7a4_25 rfl ?_
  refine wp_iconst dJ6_bitCount_0f7a4_26 (by decide) ?_
  refine wp_iushr dJ6_bitCount_0f7a4_27 (by omega) (by omega) ?_
  refine wp_iadd dJ6_bitCount_0f7a4_28 ?_
  refine wp_ldcw dJ6_bitCount_0f7a4_29 klJ6_267 ?_
  refine wp_iand dJ6_bitCount_0f7a4_32 ?_
  refine wp_istN (L' := [some (vi _)]) dJ6_bitCount_0f7a4_33 (Nat.le_of_ble_eq_true rfl) rfl ?_
  refine wp_iload_n dJ6_bitCount_0f7a4_34 rfl ?_
  refine wp_iload_n dJ6_bitCount_0f7a4_35 rfl ?_
  refine wp_bipush dJ6_bitCount_0f7a4_36 (by decide) ?_
  refine wp_iushr dJ6_bitCount_0f7a4_38 (by omega) (by omega) ?_
  refine wp_iadd dJ6_bitCount_0f7a4_39 ?_
  refine wp_istN (L' := [some (vi _)]) dJ6_bitCount_0f7a4_40 (Nat.le_of_ble_eq_true rfl) rfl ?_
  refine wp_iload_n dJ6_bitCount_0f7a4_41 rfl ?_
  refine wp_iload_n dJ6_bitCount_0f7a4_42 rfl ?_
  refine wp_bipush dJ6_bitCount_0f7a4_43 (by decide) ?_
  refine wp_iushr dJ6_bitCount_0f7a4_45 (by omega) (by omega) ?_
  refine wp_iadd dJ6_bitCount_0f7a4_46 ?_
  refine wp_istN (L' := [some (vi _)]) dJ6_bitCount_0f7a4_47 (Nat.le_of_ble_eq_true rfl) rfl ?_
  refine wp_iload_n dJ6_bitCount_0f7a4_48 rfl ?_
  refine wp_bipush dJ6_bitCount_0f7a4_49 (by decide) ?_
  refine wp_iand dJ6_bitCount_0f7a4_51 ?_
  refine wp_iret dJ6_bitCount_0f7a4_52 (Or.inl rfl) ?_
  exact hQ
set_option maxRecDepth 20000 in
theorem l3_hang {d : Nat} {σ : aS} {Q : aQ} {z : aZ} (hc : CI σ z) (hQ : Q (some (vi (vHang z))) σ) : ∀ (r : Nat) (k : Nat) (b m : Int) (x4 x5 : Option aV), k + r = (PF z).2.1.toNat → b = (hgN z k).1 → m = hgM z k → Wp RX3 cX3_hang 34 (aCall 34 (d + 1)) Q 0 false 0 (fun _ => 0) 7 [some (vr 0), some (vi b), some (vi m), some (vi (k : Int)), x4, x5] [] σ := by
  intro r
  induction r with
  | zero =>
    intro k b m x4 x5 hk hb hm
    have hp := hc.pl
    have hr9 := PF_rw (z := z)
    have e1 := hc.2.2.1
    obtain ⟨h1, h2, h3, h4, h5, h6, h7, h8, h9, h10⟩ := id hc.1
    refine wp_iload_n dX3_hang_7 rfl ?_
    refine wp_aload_n dX3_hang_8 rfl ?_
    refine wp_getR dX3_hang_9 flX3_39 (by decide) rfl rfl ?_
    refine wp_getI dX3_hang_12 flX3_157 (by decide) rfl (Or.inl rfl) ?_
    refine wp_ic_ge 66 dX3_hang_15 (by decide) (fun hh15 => ?_) (fun hh15 => ?_)
    · refine wp_iload_n dX3_hang_66 rfl ?_
      refine wp_iret dX3_hang_67 (Or.inl rfl) ?_
      exact q_i (by rw [hb, show k = (PF z).2.1.toNat by omega]; rfl) hQ
    · exfalso; omega
  | succ r ih =>
    intro k b m x4 x5 hk hb hm
    have hp := hc.pl
    have hr9 := PF_rw (z := z)
    have e1 := hc.2.2.1
    obtain ⟨h1, h2, h3, h4, h5, h6, h7, h8, h9, h10⟩ := id hc.1
    have hv := wv_cnt (z := z) (r := k) (by omega)
    have hi := hg_in (z := z) (r := k)
    have hB : (if hgU z k < hgA z - hgU z k then hgA z - hgU z k else hgU z k) = hgB z k := by
      unfold hgB
      by_cases q : hgA z - hgU z k < hgU z k
      · rw [if_pos q, if_neg (by omega)]
      · rw [if_neg q]
        by_cases q2 : hgU z k < hgA z - hgU z k
        · rw [if_pos q2]
        · rw [if_neg q2]; omega
    refine wp_iload_n dX3_hang_7 rfl ?_
    refine wp_aload_n dX3_hang_8 rfl ?_
    refine wp_getR dX3_hang_9 flX3_39 (by decide) rfl rfl ?_
    refine wp_getI dX3_hang_12 flX3_157 (by decide) rfl (Or.inl rfl) ?_
    refine wp_ic_ge 66 dX3_hang_15 (by decide) (fun hh15 => ?_) (fun hh15 => ?_)
    · exfalso; omega
    · refine wp_aload_n dX3_hang_18 rfl ?_
      refine wp_getI dX3_hang_19 flX3_26 (by decide) rfl (Or.inl rfl) ?_
      refine wp_iload_n dX3_hang_22 rfl ?_
      refine wp_S1 dX3_hang_23 zlX3_154 (Nat.le_of_ble_eq_true rfl) ?_
      refine s3_mid (by omega) (by omega) ?_
      rw [h8]
      refine wp_iand dX3_hang_26 ?_
      refine wp_S1 dX3_hang_27 zlX3_160 (Nat.le_of_ble_eq_true rfl) ?_
      refine s_ibc ?_
      rw [hv.2]
      refine wp_ist (L' := [some (vr _), some (vi _), some (vi _), some (vi _), some (vi _), _]) dX3_hang_30 (Nat.le_of_ble_eq_true rfl) rfl ?_
      refine wp_iload dX3_hang_32 rfl ?_
      refine wp_aload_n dX3_hang_34 rfl ?_
      refine wp_getI dX3_hang_35 flX3_26 (by decide) rfl (Or.inl rfl) ?_
      rw [h8]
      refine wp_S1 dX3_hang_38 zlX3_160 (Nat.le_of_ble_eq_true rfl) ?_
      refine s_ibc ?_
      rw [hv.1]
      refine wp_iload dX3_hang_41 rfl ?_
      refine wp_isubN dX3_hang_43 (by omega) ?_
      refine wp_mmax dX3_hang_44 xlX3_165 (Nat.le_of_ble_eq_true rfl) ?_
      rw [hB]
      refine wp_ist (L' := [some (vr _), some (vi _), some (vi _), some (vi _), some (vi _), some (vi _)]) dX3_hang_47 (Nat.le_of_ble_eq_true rfl) rfl ?_
      refine wp_iload dX3_hang_49 rfl ?_
      refine wp_iload_n dX3_hang_51 rfl ?_
      refine wp_ic_ge 60 dX3_hang_52 (by decide) (fun hh52 => ?_) (fun hh52 => ?_)
      · refine wp_iincN (L' := [some (vr _), some (vi _), some (vi _), some (vi _), some (vi _), some (vi _)]) dX3_hang_60 rfl (by omega) rfl ?_
        refine wp_gotoN 7 dX3_hang_63 (by decide) ?_
        have q := hg_f (z := z) (k := k) (by omega)
        exact ih (k + 1) _ _ _ _ (by omega) (hb.trans q.1.symm) (hm.trans q.2.symm)
      · refine wp_iload_n dX3_hang_55 rfl ?_
        refine wp_istN (L' := [some (vr _), some (vi _), some (vi _), some (vi _), some (vi _), some (vi _)]) dX3_hang_56 (Nat.le_of_ble_eq_true rfl) rfl ?_
        refine wp_iload dX3_hang_57 rfl ?_
        refine wp_istN (L' := [some (vr _), some (vi _), some (vi _), some (vi _), some (vi _), some (vi _)]) dX3_hang_59 (Nat.le_of_ble_eq_true rfl) rfl ?_
        refine wp_iincN (L' := [some (vr _), some (vi _), some (vi _), some (vi _), some (vi _), some (vi _)]) dX3_hang_60 rfl (by omega) rfl ?_
        refine wp_gotoN 7 dX3_hang_63 (by decide) ?_
        have q := hg_t (z := z) (k := k) (by omega)
        exact ih (k + 1) _ _ _ _ (by omega) q.1.symm q.2.symm
set_option maxRecDepth 20000 in
theorem p3_hang {d : Nat} {σ : aS} {Q : aQ} {z : aZ} (hc : CI σ z) (hz : ZV z) (hQ : Q (some (vi (vHang z))) σ) : aCall 34 (d + 2) mX3_hang [vr 0] σ Q := by
  refine cl_in (own := RX3) (cc := cX3_hang) (rk := 0) (L := [some (vr 0), none, none, none, none, none]) rfl rfl rfl rfl (by decide) (Nat.le_of_ble_eq_true rfl) ?_
  refine wp_iconst dX3_hang_0 (by decide) ?_
  refine wp_istN (L' := [some (vr _), some (vi _), none, none, none, none]) dX3_hang_1 (Nat.le_of_ble_eq_true rfl) rfl ?_
  refine wp_bipush dX3_hang_2 (by decide) ?_
  refine wp_istN (L' := [some (vr _), some (vi _), some (vi _), none, none, none]) dX3_hang_4 (Nat.le_of_ble_eq_true rfl) rfl ?_
  refine wp_iconst dX3_hang_5 (by decide) ?_
  refine wp_istN (L' := [some (vr _), some (vi _), some (vi _), some (vi _), none, none]) dX3_hang_6 (Nat.le_of_ble_eq_true rfl) rfl ?_
  exact l3_hang hc hQ (PF z).2.1.toNat 0 (-1) 63 _ _ (by omega) rfl rfl
set_option maxRecDepth 20000 in
theorem l3_kicks {d : Nat} {σ : aS} {Q : aQ} {z : aZ} (hc : CI σ z) {s0 c0 n : Int} (n1 : 1 ≤ n) (n40 : n ≤ 40) : ∀ (r : Nat) (k : Nat) (s x : Int), k + r = n.toNat → opn (Gz z) x → Q (some (vi (kkN (Gz z) r s x))) σ → Wp RX3 cX3_kicks 34 (aCall 34 (d + 3)) Q 0 false 0 (fun _ => 0) 48 [some (vr 0), some (vi s0), some (vi c0), some (vi n), some (vi x), some (vi s), some (vi (k : Int))] [] σ := by
  intro r
  induction r with
  | zero =>
    intro k s x hk ho hQ
    refine wp_iload dX3_kicks_48 rfl ?_
    refine wp_iload_n dX3_kicks_50 rfl ?_
    refine wp_ic_ge 118 dX3_kicks_51 (by decide) (fun hh51 => ?_) (fun hh51 => ?_)
    · refine wp_iload dX3_kicks_118 rfl ?_
      refine wp_iret dX3_kicks_120 (Or.inl rfl) ?_
      exact hQ
    · exfalso; omega
  | succ r ih =>
    intro k s x hk ho hQ
    have hp := hc.pl
    have hg := hp.gv
    have hw := opn_w hg ho
    unfold kkN at hQ
    refine wp_iload dX3_kicks_48 rfl ?_
    refine wp_iload_n dX3_kicks_50 rfl ?_
    refine wp_ic_ge 118 dX3_kicks_51 (by decide) (fun hh51 => ?_) (fun hh51 => ?_)
    · exfalso; omega
    · refine wp_aload_n dX3_kicks_54 rfl ?_
      refine wp_getR dX3_kicks_55 flX3_39 (by decide) rfl rfl ?_
      refine wp_getJ dX3_kicks_58 flX3_73 (by decide) rfl rfl ?_
      refine wp_iload dX3_kicks_61 rfl ?_
      refine wp_S2 dX3_kicks_63 zlX3_76 (Nat.le_of_ble_eq_true rfl) ?_
      refine s3_has ?_
      refine wp_ifB_eq 101 dX3_kicks_66 (by decide) (fun hh66 => ?_) (fun hh66 => ?_)
      · have hh : ¬ hld (Gz z) x := fun q => hh66 ((hp.b10 (by omega) (by omega)).mpr q)
        rw [cif_f hh] at hQ
        refine wp_aload_n dX3_kicks_101 rfl ?_
        refine wp_getR dX3_kicks_102 flX3_39 (by decide) rfl rfl ?_
        refine wp_iload dX3_kicks_105 rfl ?_
        refine wp_V1 dX3_kicks_107 vlX3_195 (by decide) rfl (Nat.le_of_ble_eq_true rfl) ?_
        refine s0_fallen hp ho ?_
        have e9 : fall1 (Gz z) x = blw (Gz z) x := by unfold fall1; rw [cif_f hh]
        rw [e9]
        refine wp_ist (L' := [some (vr _), some (vi _), some (vi _), some (vi _), some (vi _), some (vi _), some (vi _)]) dX3_kicks_110 (Nat.le_of_ble_eq_true rfl) rfl ?_
        refine wp_iincN (L' := [some (vr _), some (vi _), some (vi _), some (vi _), some (vi _), some (vi _), some (vi _)]) dX3_kicks_112 rfl (by omega) rfl ?_
        refine wp_gotoN 48 dX3_kicks_115 (by decide) ?_
        exact ih (k + 1) _ _ (by omega) (hld_n hh ho.2.2).1 hQ
      · have hh : hld (Gz z) x := (hp.b10 (by omega) (by omega)).mp hh66
        rw [cif_t hh] at hQ
        refine wp_ldc dX3_kicks_69 klX3_191 ?_
        refine wp_iload dX3_kicks_71 rfl ?_
        refine wp_imul dX3_kicks_73 ?_
        refine wp_sipush dX3_kicks_74 (by decide) ?_
        refine wp_iadd dX3_kicks_77 ?_
        rw [show w32 (w32 (1103515245 * s) + 12345) = kkR s from rfl]
        refine wp_ist (L' := [some (vr _), some (vi _), some (vi _), some (vi _), some (vi _), some (vi _), some (vi _)]) dX3_kicks_78 (Nat.le_of_ble_eq_true rfl) rfl ?_
        refine wp_aload_n dX3_kicks_80 rfl ?_
        refine wp_getR dX3_kicks_81 flX3_39 (by decide) rfl rfl ?_
        refine wp_iload dX3_kicks_84 rfl ?_
        refine wp_iload dX3_kicks_86 rfl ?_
        refine wp_bipush dX3_kicks_88 (by decide) ?_
        refine wp_iushr dX3_kicks_90 (by omega) (by omega) ?_
        rw [kk_sh]
        refine wp_iconst dX3_kicks_91 (by decide) ?_
        refine wp_irem dX3_kicks_92 (by omega) (by omega) ?_
        rw [show kkR s % 4294967296 / 65536 % 3 = kkL (kkR s) from rfl]
        have hlr : 0 ≤ kkL (kkR s) ∧ kkL (kkR s) ≤ 2 := by unfold kkL; omega
        refine wp_V2 dX3_kicks_93 vlX3_192 (by decide) rfl (Nat.le_of_ble_eq_true rfl) ?_
        refine s0_kicked hp ho hh (by omega) (by omega) ?_
        refine wp_ist (L' := [some (vr _), some (vi _), some (vi _), some (vi _), some (vi _), some (vi _), some (vi _)]) dX3_kicks_96 (Nat.le_of_ble_eq_true rfl) rfl ?_
        refine wp_gotoN 112 dX3_kicks_98 (by decide) ?_
        refine wp_iincN (L' := [some (vr _), some (vi _), some (vi _), some (vi _), some (vi _), some (vi _), some (vi _)]) dX3_kicks_112 rfl (by omega) rfl ?_
        refine wp_gotoN 48 dX3_kicks_115 (by decide) ?_
        exact ih (k + 1) _ _ (by omega) (kkS_o ho) hQ
set_option maxRecDepth 20000 in
theorem p3_kicks {d : Nat} {σ : aS} {Q : aQ} {s c n : Int} {z : aZ} (hc : CI σ z) (hz : ZV z) (hQ : Q (some (vi (vKicks z s c n))) σ) : aCall 34 (d + 4) mX3_kicks [vr 0, vi s, vi c, vi n] σ Q := by
  refine cl_in (own := RX3) (cc := cX3_kicks) (rk := 0) (L := [some (vr 0), some (vi s), some (vi c), some (vi n), none, none, none]) rfl rfl rfl rfl (by decide) (Nat.le_of_ble_eq_true rfl) ?_
  have hp := hc.pl
  have hn := hp.n
  refine wp_aload_n dX3_kicks_0 rfl ?_
  refine wp_getR dX3_kicks_1 flX3_39 (by decide) rfl rfl ?_
  refine wp_iload_n dX3_kicks_4 rfl ?_
  refine wp_V1 dX3_kicks_5 vlX3_61 (by decide) rfl (Nat.le_of_ble_eq_true rfl) ?_
  refine s0_isCell hp ?_
  refine wp_ifB_eq 36 dX3_kicks_8 (by decide) (fun hh8 => ?_) (fun hh8 => ?_)
  · refine wp_bipush dX3_kicks_36 (by decide) ?_
    refine wp_iret dX3_kicks_38 (Or.inl rfl) ?_
    exact q_i (by unfold vKicks; rw [cif_f (fun q => by first | exact hh22 (hp.b4.mpr q.2.1) | (have := q.1; have := q.2.2; omega))]) hQ
  · refine wp_aload_n dX3_kicks_11 rfl ?_
    refine wp_getR dX3_kicks_12 flX3_39 (by decide) rfl rfl ?_
    refine wp_getJ dX3_kicks_15 flX3_119 (by decide) rfl rfl ?_
    refine wp_iload_n dX3_kicks_18 rfl ?_
    refine wp_S2 dX3_kicks_19 zlX3_76 (Nat.le_of_ble_eq_true rfl) ?_
    refine s3_has ?_
    refine wp_ifB_eq 36 dX3_kicks_22 (by decide) (fun hh22 => ?_) (fun hh22 => ?_)
    · refine wp_bipush dX3_kicks_36 (by decide) ?_
      refine wp_iret dX3_kicks_38 (Or.inl rfl) ?_
      exact q_i (by unfold vKicks; rw [cif_f (fun q => by first | exact hh22 (hp.b4.mpr q.2.1) | (have := q.1; have := q.2.2; omega))]) hQ
    · refine wp_iload_n dX3_kicks_25 rfl ?_
      refine wp_iconst dX3_kicks_26 (by decide) ?_
      refine wp_ic_lt 36 dX3_kicks_27 (by decide) (fun hh27 => ?_) (fun hh27 => ?_)
      · refine wp_bipush dX3_kicks_36 (by decide) ?_
        refine wp_iret dX3_kicks_38 (Or.inl rfl) ?_
        exact q_i (by unfold vKicks; rw [cif_f (fun q => by first | exact hh22 (hp.b4.mpr q.2.1) | (have := q.1; have := q.2.2; omega))]) hQ
      · refine wp_iload_n dX3_kicks_30 rfl ?_
        refine wp_bipush dX3_kicks_31 (by decide) ?_
        refine wp_ic_le 39 dX3_kicks_33 (by decide) (fun hh33 => ?_) (fun hh33 => ?_)
        · refine wp_iload_n dX3_kicks_39 rfl ?_
          refine wp_ist (L' := [some (vr _), some (vi _), some (vi _), some (vi _), some (vi _), none, none]) dX3_kicks_40 (Nat.le_of_ble_eq_true rfl) rfl ?_
          refine wp_iload_n dX3_kicks_42 rfl ?_
          refine wp_ist (L' := [some (vr _), some (vi _), some (vi _), some (vi _), some (vi _), some (vi _), none]) dX3_kicks_43 (Nat.le_of_ble_eq_true rfl) rfl ?_
          refine wp_iconst dX3_kicks_45 (by decide) ?_
          refine wp_ist (L' := [some (vr _), some (vi _), some (vi _), some (vi _), some (vi _), some (vi _), some (vi _)]) dX3_kicks_46 (Nat.le_of_ble_eq_true rfl) rfl ?_
          have ho := hp.b4.mp hh22
          have e : vKicks z s c n = kkN (Gz z) n.toNat s c := by unfold vKicks; rw [cif_t ⟨by omega, ho, by omega⟩]
          rw [e] at hQ
          exact l3_kicks hc (by omega) (by omega) n.toNat 0 s c (by omega) ho hQ
        · refine wp_bipush dX3_kicks_36 (by decide) ?_
          refine wp_iret dX3_kicks_38 (Or.inl rfl) ?_
          exact q_i (by unfold vKicks; rw [cif_f (fun q => by first | exact hh22 (hp.b4.mpr q.2.1) | (have := q.1; have := q.2.2; omega))]) hQ
theorem cnt_35 {x : BitVec 64} {p : Nat → Prop} {n : Nat} (hx : SB x p) (hp : ∀ j, p j → j < n) (hn : n ≤ 64) : cnt (fun i => x.getLsbD i = true) 64 = cnt p n := by
  rw [cnt_c 64 (fun j _ => hx j), show 64 = n + (64 - n) by omega]
  exact cnt_st _ (fun j h1 _ q => by have := hp j q; omega)
theorem ggk_n {g : aG} {j : Nat} {v : Int} (hk : KZ g) (h : ggk g j = v) (hv : v ≠ 0) : j < (ggn g).toNat := by
  refine Classical.byContradiction (fun q => ?_)
  have := hk j (by omega)
  have h : g.2.2.2.2 j = v := h
  omega
theorem Rch_o {g : aG} {b c : Int} (h : Rch (flW g) g (spS g b) c) : opn g c := h (fun x => opn g x) (fun x hx => spS_o hx) (fun x y _ _ _ he => he.1)
set_option maxRecDepth 20000 in
theorem p3_count {d : Nat} {σ : aS} {Q : aQ} {w : Int} {z : aZ} (hc : CI σ z) (hz : ZV z) (hQ : Q (some (vi (vCount z w))) σ) : aCall 34 (d + 2) mX3_count [vr 0, vi w] σ Q := by
  refine cl_in (own := RX3) (cc := cX3_count) (rk := 0) (L := [some (vr 0), some (vi w)]) rfl rfl rfl rfl (by decide) (Nat.le_of_ble_eq_true rfl) ?_
  have hp := hc.pl
  have hn := hp.n
  obtain ⟨h1, h2, h3, h4, h5, h6, h7, h8, h9, h10⟩ := id hc.1
  refine wp_iload_n dX3_count_0 rfl ?_
  by_cases w0 : w = 0
  · subst w0
    refine wp_tabIn (tgt := 52) dX3_count_1 (by decide) (by decide) rfl (by decide) ?_
    refine wp_aload_n dX3_count_52 rfl ?_
    refine wp_getR dX3_count_53 flX3_39 (by decide) rfl rfl ?_
    refine wp_getI dX3_count_56 flX3_135 (by decide) rfl (Or.inl rfl) ?_
    refine wp_iret dX3_count_59 (Or.inl rfl) ?_
    exact q_i (hn.1) hQ
  by_cases w1 : w = 1
  · subst w1
    refine wp_tabIn (tgt := 60) dX3_count_1 (by decide) (by decide) rfl (by decide) ?_
    refine wp_aload_n dX3_count_60 rfl ?_
    refine wp_getR dX3_count_61 flX3_39 (by decide) rfl rfl ?_
    refine wp_getI dX3_count_64 flX3_157 (by decide) rfl (Or.inl rfl) ?_
    refine wp_iret dX3_count_67 (Or.inl rfl) ?_
    exact q_i (hc.2.2.1) hQ
  by_cases w2 : w = 2
  · subst w2
    refine wp_tabIn (tgt := 68) dX3_count_1 (by decide) (by decide) rfl (by decide) ?_
    refine wp_aload_n dX3_count_68 rfl ?_
    refine wp_getI dX3_count_69 flX3_55 (by decide) rfl (Or.inl rfl) ?_
    refine wp_iret dX3_count_72 (Or.inl rfl) ?_
    exact q_i (h1) hQ
  by_cases w3 : w = 3
  · subst w3
    refine wp_tabIn (tgt := 73) dX3_count_1 (by decide) (by decide) rfl (by decide) ?_
    refine wp_aload_n dX3_count_73 rfl ?_
    refine wp_getI dX3_count_74 flX3_87 (by decide) rfl (Or.inl rfl) ?_
    refine wp_iret dX3_count_77 (Or.inl rfl) ?_
    exact q_i (h5) hQ
  by_cases w4 : w = 4
  · subst w4
    refine wp_tabIn (tgt := 78) dX3_count_1 (by decide) (by decide) rfl (by decide) ?_
    refine wp_aload_n dX3_count_78 rfl ?_
    refine wp_getI dX3_count_79 flX3_151 (by decide) rfl (Or.inl rfl) ?_
    refine wp_iret dX3_count_82 (Or.inl rfl) ?_
    exact q_i (h7) hQ
  by_cases w5 : w = 5
  · subst w5
    refine wp_tabIn (tgt := 83) dX3_count_1 (by decide) (by decide) rfl (by decide) ?_
    refine wp_aload_n dX3_count_83 rfl ?_
    refine wp_getR dX3_count_84 flX3_39 (by decide) rfl rfl ?_
    refine wp_getJ dX3_count_87 flX3_176 (by decide) rfl rfl ?_
    refine wp_S1 dX3_count_90 zlX3_179 (Nat.le_of_ble_eq_true rfl) ?_
    refine s_bcL ?_
    refine wp_iret dX3_count_93 (Or.inl rfl) ?_
    exact q_i (cnt_35 hp.2.2.2.2.1 (fun j q => ggk_n hp.kz q (by decide)) (by omega)) hQ
  by_cases w6 : w = 6
  · subst w6
    refine wp_tabIn (tgt := 94) dX3_count_1 (by decide) (by decide) rfl (by decide) ?_
    refine wp_aload_n dX3_count_94 rfl ?_
    refine wp_getR dX3_count_95 flX3_39 (by decide) rfl rfl ?_
    refine wp_getJ dX3_count_98 flX3_138 (by decide) rfl rfl ?_
    refine wp_S1 dX3_count_101 zlX3_179 (Nat.le_of_ble_eq_true rfl) ?_
    refine s_bcL ?_
    refine wp_iret dX3_count_104 (Or.inl rfl) ?_
    exact q_i (cnt_35 hp.2.2.2.2.2.2.1 (fun j q => by have := opn_w hp.gv (Rch_o q); omega) (by omega)) hQ
  by_cases w7 : w = 7
  · subst w7
    refine wp_tabIn (tgt := 105) dX3_count_1 (by decide) (by decide) rfl (by decide) ?_
    refine wp_aload_n dX3_count_105 rfl ?_
    refine wp_getR dX3_count_106 flX3_39 (by decide) rfl rfl ?_
    refine wp_getJ dX3_count_109 flX3_73 (by decide) rfl rfl ?_
    refine wp_S1 dX3_count_112 zlX3_179 (Nat.le_of_ble_eq_true rfl) ?_
    refine s_bcL ?_
    refine wp_iret dX3_count_115 (Or.inl rfl) ?_
    exact q_i (cnt_35 hp.2.2.2.2.2.1 (fun j q => by have := opn_w hp.gv ((opn_i hp.kz).mpr q.1); omega) (by omega)) hQ
  by_cases w8 : w = 8
  · subst w8
    refine wp_tabIn (tgt := 116) dX3_count_1 (by decide) (by decide) rfl (by decide) ?_
    refine wp_aload_n dX3_count_116 rfl ?_
    refine wp_getI dX3_count_117 flX3_228 (by decide) rfl (Or.inl rfl) ?_
    refine wp_iret dX3_count_120 (Or.inl rfl) ?_
    exact q_i (h10) hQ
  refine wp_tabOut (tgt := 121) dX3_count_1 (by omega) (by decide) ?_
  refine wp_bipush dX3_count_121 (by decide) ?_
  refine wp_iret dX3_count_123 (Or.inl rfl) ?_
  exact q_i (by unfold vCount; rw [if_neg (by omega), if_neg (by omega), if_neg (by omega), if_neg (by omega), if_neg (by omega)]) hQ
