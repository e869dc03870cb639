def hup (r : Int) : Int := bi32 (· &&& ·) 63 (bi32 (· ^^^ ·) (w32 (w32 (2 * 2 ^ r.toNat) - 1)) (-1))
theorem hup_k : ∀ (r : Fin 5) (u : Fin 2) (a0 a1 a2 a3 a4 a5 : Fin 2), bi32 (· &&& ·) ((a0.val : Int) + 2 * a1.val + 4 * a2.val + 8 * a3.val + 16 * a4.val + 32 * a5.val) (if u.val = 1 then hup r.val else bi32 (· ^^^ ·) (hup r.val) (-1)) = (if (r.val < 0 ↔ u.val = 1) then (a0.val : Int) else 0) + 2 * (if (r.val < 1 ↔ u.val = 1) then (a1.val : Int) else 0) + 4 * (if (r.val < 2 ↔ u.val = 1) then (a2.val : Int) else 0) + 8 * (if (r.val < 3 ↔ u.val = 1) then (a3.val : Int) else 0) + 16 * (if (r.val < 4 ↔ u.val = 1) then (a4.val : Int) else 0) + 32 * (if (r.val < 5 ↔ u.val = 1) then (a5.val : Int) else 0) := by decide +kernel
theorem bi_fin (P : Prop) : ∃ a : Fin 2, bi P = (a.val : Int) := by
  rcases bi_01 P with h | h
  · exact ⟨0, h⟩
  · exact ⟨1, h⟩
theorem okM_s {z : aZ} {r u m : Int} : okM (mkP z (zp z + 1) (up1 (zr z) (zp z) r) (up1 (zu z) (zp z) u)) m (zp z + 1) ↔ okM z m (zp z) ∧ (r < m ↔ u = 1) := by
  constructor
  · intro h
    refine ⟨fun j hj => ?_, ?_⟩
    · have q : (up1 (zr z) (zp z) r j < m ↔ up1 (zu z) (zp z) u j = 1) := h j (by omega)
      unfold up1 at q
      rw [if_neg (by omega), if_neg (by omega)] at q
      exact q
    · have q : (up1 (zr z) (zp z) r (zp z) < m ↔ up1 (zu z) (zp z) u (zp z) = 1) := h (zp z) (by omega)
      unfold up1 at q
      rw [if_pos rfl, if_pos rfl] at q
      exact q
  · rintro ⟨h1, h2⟩ j hj
    show (up1 (zr z) (zp z) r j < m ↔ up1 (zu z) (zp z) u j = 1)
    unfold up1
    by_cases e : j = zp z
    · rw [if_pos e, if_pos e]; exact h2
    · rw [if_neg e, if_neg e]; exact h1 j (by omega)
theorem bi_s {z : aZ} {r u : Nat} {m : Nat} {a : Fin 2} (h : bi (okM z m (zp z)) = (a.val : Int)) : bi (okM (mkP z (zp z + 1) (up1 (zr z) (zp z) r) (up1 (zu z) (zp z) u)) m (zp z + 1)) = if (r < m ↔ u = 1) then (a.val : Int) else 0 := by
  rw [bi_c okM_s]
  have e : (((r : Int) < (m : Int)) ↔ ((u : Int) = 1)) ↔ (r < m ↔ u = 1) := by
    constructor <;> intro q <;> constructor <;> intro w <;> omega
  by_cases q : (r < m ↔ u = 1)
  · rw [if_pos q, ← h]
    exact bi_c ⟨fun w => w.1, fun w => ⟨w, e.mpr q⟩⟩
  · rw [if_neg q]
    exact bi_f (fun w => q (e.mp w.2))
theorem wv_plumb {z : aZ} {r u : Int} (hr : 0 ≤ r ∧ r ≤ 4) (hu : 0 ≤ u ∧ u ≤ 1) : wv (mkP z (zp z + 1) (up1 (zr z) (zp z) r) (up1 (zu z) (zp z) u)) = bi32 (· &&& ·) (wv z) (if u = 1 then hup r else bi32 (· ^^^ ·) (hup r) (-1)) := by
  obtain ⟨r, rfl⟩ := Int.eq_ofNat_of_zero_le hr.1
  obtain ⟨u, rfl⟩ := Int.eq_ofNat_of_zero_le hu.1
  obtain ⟨a0, q0⟩ := bi_fin (okM z ((0 : Nat) : Int) (zp z))
  obtain ⟨a1, q1⟩ := bi_fin (okM z ((1 : Nat) : Int) (zp z))
  obtain ⟨a2, q2⟩ := bi_fin (okM z ((2 : Nat) : Int) (zp z))
  obtain ⟨a3, q3⟩ := bi_fin (okM z ((3 : Nat) : Int) (zp z))
  obtain ⟨a4, q4⟩ := bi_fin (okM z ((4 : Nat) : Int) (zp z))
  obtain ⟨a5, q5⟩ := bi_fin (okM z ((5 : Nat) : Int) (zp z))
  have K := hup_k ⟨r, by omega⟩ ⟨u, by omega⟩ a0 a1 a2 a3 a4 a5
  have s0 := bi_s (r := r) (u := u) q0
  have s1 := bi_s (r := r) (u := u) q1
  have s2 := bi_s (r := r) (u := u) q2
  have s3 := bi_s (r := r) (u := u) q3
  have s4 := bi_s (r := r) (u := u) q4
  have s5 := bi_s (r := r) (u := u) q5
  have e1 : wv z = (a0.val : Int) + 2 * a1.val + 4 * a2.val + 8 * a3.val + 16 * a4.val + 32 * a5.val := by
    rw [← q0, ← q1, ← q2, ← q3, ← q4, ← q5]; exact wv_6 z
  have e2 := wv_6 (mkP z (zp z + 1) (up1 (zr z) (zp z) r) (up1 (zu z) (zp z) u))
  rw [e2, e1]
  have eu : ((u : Int) = 1) ↔ (u = 1) := by omega
  have e3 : (if (u : Int) = 1 then hup r else bi32 (· ^^^ ·) (hup r) (-1)) = (if u = 1 then hup r else bi32 (· ^^^ ·) (hup r) (-1)) := by
    by_cases q : u = 1
    · rw [if_pos q, if_pos (eu.mpr q)]
    · rw [if_neg q, if_neg (fun w => q (eu.mp w))]
  rw [e3]
  refine Eq.trans ?_ K.symm
  rw [← s0, ← s1, ← s2, ← s3, ← s4, ← s5]
  rfl
theorem hup_r (r : Int) : 0 ≤ r → r ≤ 4 → w32 (w32 (2 * 2 ^ r.toNat) - 1) = w32 (w32 (2 * 2 ^ r.toNat) - 1) := fun _ _ => rfl
theorem wv_63 {z : aZ} (h : zp z = 0) : wv z = 63 := by
  have K : ∀ m : Int, bi (okM z m (zp z)) = 1 := fun m => bi_t (fun j hj => by omega)
  rw [wv_6, K, K, K, K, K, K]
  rfl
set_option maxRecDepth 20000 in
theorem s3_mid {d : Nat} {σ : aS} {Q : aQ} {r : Int} {NC : Nat} (h0 : 0 ≤ r) (h1 : r < 30) (hQ : Q (some (vi (hup r))) σ) : aCall NC (d + 1) mX3_middlesUpAt [vi r] σ Q := by
  refine cl_in (own := RX3) (cc := cX3_middlesUpAt) (rk := 0) (L := [some (vi r)]) rfl rfl rfl rfl (by decide) (Nat.le_of_ble_eq_true rfl) ?_
  refine wp_bipush dX3_middlesUpAt_0 (by decide) ?_
  refine wp_iconst dX3_middlesUpAt_2 (by decide) ?_
  refine wp_iload_n dX3_middlesUpAt_3 rfl ?_
  refine wp_ishl dX3_middlesUpAt_4 (by omega) (by omega) ?_
  refine wp_iconst dX3_middlesUpAt_5 (by decide) ?_
  refine wp_isub dX3_middlesUpAt_6 ?_
  refine wp_iconst dX3_middlesUpAt_7 (by decide) ?_
  refine wp_ixor dX3_middlesUpAt_8 ?_
  refine wp_iand dX3_middlesUpAt_9 ?_
  refine wp_iret dX3_middlesUpAt_10 (Or.inl rfl) ?_
  exact hQ
set_option maxRecDepth 20000 in
theorem p3_plumb {d : Nat} {σ : aS} {Q : aQ} {r u : Int} {z : aZ} (hc : CI σ z) (hz : ZV z) (hQ : ∀ σ', Fry σ σ' → CI σ' (uPlumb z r u) → Q (some (vi (vPlumb z r u))) σ') : aCall 34 (d + 2) mX3_plumb [vr 0, vi r, vi u] σ Q := by
  refine cl_in (own := RX3) (cc := cX3_plumb) (rk := 0) (L := [some (vr 0), some (vi r), some (vi u), none]) rfl rfl rfl rfl (by decide) (Nat.le_of_ble_eq_true rfl) ?_
  have hl := hz.2.2.2.2.2.1
  obtain ⟨h1, h2, h3, h4, h5, h6, h7, h8, h9, h10⟩ := id hc.1
  refine wp_iload_n dX3_plumb_0 rfl ?_
  refine wp_if_lt 18 dX3_plumb_1 (by decide) (fun hh1 => ?_) (fun hh1 => ?_)
  · refine wp_bipush dX3_plumb_18 (by decide) ?_
    refine wp_iret dX3_plumb_20 (Or.inl rfl) ?_
    have e0 : vPlumb z r u = -2 := by unfold vPlumb; rw [cif_f (show ¬ okPlumb r u by unfold okPlumb; omega)]
    have e1 : uPlumb z r u = z := by unfold uPlumb; rw [cif_f (fun q => (show ¬ okPlumb r u by unfold okPlumb; omega) q.1)]
    rw [e0, e1] at hQ
    exact hQ σ Fry.rf hc
  · refine wp_iload_n dX3_plumb_4 rfl ?_
    refine wp_iconst dX3_plumb_5 (by decide) ?_
    refine wp_ic_ge 18 dX3_plumb_6 (by decide) (fun hh6 => ?_) (fun hh6 => ?_)
    · refine wp_bipush dX3_plumb_18 (by decide) ?_
      refine wp_iret dX3_plumb_20 (Or.inl rfl) ?_
      have e0 : vPlumb z r u = -2 := by unfold vPlumb; rw [cif_f (show ¬ okPlumb r u by unfold okPlumb; omega)]
      have e1 : uPlumb z r u = z := by unfold uPlumb; rw [cif_f (fun q => (show ¬ okPlumb r u by unfold okPlumb; omega) q.1)]
      rw [e0, e1] at hQ
      exact hQ σ Fry.rf hc
    · refine wp_iload_n dX3_plumb_9 rfl ?_
      refine wp_if_lt 18 dX3_plumb_10 (by decide) (fun hh10 => ?_) (fun hh10 => ?_)
      · refine wp_bipush dX3_plumb_18 (by decide) ?_
        refine wp_iret dX3_plumb_20 (Or.inl rfl) ?_
        have e0 : vPlumb z r u = -2 := by unfold vPlumb; rw [cif_f (show ¬ okPlumb r u by unfold okPlumb; omega)]
        have e1 : uPlumb z r u = z := by unfold uPlumb; rw [cif_f (fun q => (show ¬ okPlumb r u by unfold okPlumb; omega) q.1)]
        rw [e0, e1] at hQ
        exact hQ σ Fry.rf hc
      · refine wp_iload_n dX3_plumb_13 rfl ?_
        refine wp_iconst dX3_plumb_14 (by decide) ?_
        refine wp_ic_le 21 dX3_plumb_15 (by decide) (fun hh15 => ?_) (fun hh15 => ?_)
        · refine wp_aload_n dX3_plumb_21 rfl ?_
          refine wp_getI dX3_plumb_22 flX3_151 (by decide) rfl (Or.inl rfl) ?_
          refine wp_bipush dX3_plumb_25 (by decide) ?_
          refine wp_ic_lt 33 dX3_plumb_27 (by decide) (fun hh27 => ?_) (fun hh27 => ?_)
          · refine wp_iload_n dX3_plumb_33 rfl ?_
            refine wp_S1 dX3_plumb_34 zlX3_154 (Nat.le_of_ble_eq_true rfl) ?_
            refine s3_mid (by omega) (by omega) ?_
            refine wp_istN (L' := [some (vr _), some (vi _), some (vi _), some (vi _)]) dX3_plumb_37 (Nat.le_of_ble_eq_true rfl) rfl ?_
            refine wp_aload_n dX3_plumb_38 rfl ?_
            refine wp_dup dX3_plumb_39 rfl ?_
            refine wp_getI dX3_plumb_40 flX3_26 (by decide) rfl (Or.inl rfl) ?_
            refine wp_iload_n dX3_plumb_43 rfl ?_
            refine wp_iconst dX3_plumb_44 (by decide) ?_
            refine wp_ic_ne 52 dX3_plumb_45 (by decide) (fun hh45 => ?_) (fun hh45 => ?_)
            · refine wp_iload_n dX3_plumb_52 rfl ?_
              refine wp_iconst dX3_plumb_53 (by decide) ?_
              refine wp_ixor dX3_plumb_54 ?_
              refine wp_iand dX3_plumb_55 ?_
              refine wp_putI dX3_plumb_56 flX3_26 (by decide) rfl rfl rfl rfl ?_
              refine wp_aload_n dX3_plumb_59 rfl ?_
              refine wp_dup dX3_plumb_60 rfl ?_
              refine wp_getI dX3_plumb_61 flX3_151 (by decide) rfl (Or.inl rfl) ?_
              rw [sI_ne (fun q => absurd q.2 (by decide))]
              refine wp_iconst dX3_plumb_64 (by decide) ?_
              refine wp_iaddN dX3_plumb_65 (by omega) ?_
              refine wp_putI dX3_plumb_66 flX3_151 (by decide) rfl rfl rfl rfl ?_
              refine wp_aload_n dX3_plumb_69 rfl ?_
              refine wp_getI dX3_plumb_70 flX3_151 (by decide) rfl (Or.inl rfl) ?_
              rw [sI_eq]
              refine wp_iret dX3_plumb_73 (Or.inl rfl) ?_
              first
              | (
                have e0 : vPlumb z r u = zp z + 1 := by unfold vPlumb; rw [cif_t (show okPlumb r u from ⟨by omega, by omega⟩), if_neg (by omega)]
                have e1 : uPlumb z r u = mkP z (zp z + 1) (up1 (zr z) (zp z) r) (up1 (zu z) (zp z) u) := by unfold uPlumb; rw [cif_t ⟨(show okPlumb r u from ⟨by omega, by omega⟩), by omega⟩]
                rw [e0, e1] at hQ
                refine q_i (by omega) (hQ _ ((Fry.rf.put (by decide)).put (by decide)) ⟨⟨h1, h2, h3, h4, h5, h6, by show σ.1 0 7 + 1 = ((zp z + 1 : Nat) : Int); omega, ?_, (h9.put (by decide)).put (by decide), h10⟩, hc.2⟩)
                rw [wv_plumb (by omega) (by omega), ← h8]
                rw [if_neg (by omega)]
                rfl)
              | (
                have e0 : vPlumb z r u = zp z + 1 := by unfold vPlumb; rw [cif_t (show okPlumb r u from ⟨by omega, by omega⟩), if_neg (by omega)]
                have e1 : uPlumb z r u = mkP z (zp z + 1) (up1 (zr z) (zp z) r) (up1 (zu z) (zp z) u) := by unfold uPlumb; rw [cif_t ⟨(show okPlumb r u from ⟨by omega, by omega⟩), by omega⟩]
                rw [e0, e1] at hQ
                refine q_i (by omega) (hQ _ ((Fry.rf.put (by decide)).put (by decide)) ⟨⟨h1, h2, h3, h4, h5, h6, by show σ.1 0 7 + 1 = ((zp z + 1 : Nat) : Int); omega, ?_, (h9.put (by decide)).put (by decide), h10⟩, hc.2⟩)
                rw [wv_plumb (by omega) (by omega), ← h8]
                rw [if_pos (by omega)]
                rfl)
            · refine wp_iload_n dX3_plumb_48 rfl ?_
              refine wp_gotoN 55 dX3_plumb_49 (by decide) ?_
              refine wp_iand dX3_plumb_55 ?_
              refine wp_putI dX3_plumb_56 flX3_26 (by decide) rfl rfl rfl rfl ?_
              refine wp_aload_n dX3_plumb_59 rfl ?_
              refine wp_dup dX3_plumb_60 rfl ?_
              refine wp_getI dX3_plumb_61 flX3_151 (by decide) rfl (Or.inl rfl) ?_
              rw [sI_ne (fun q => absurd q.2 (by decide))]
              refine wp_iconst dX3_plumb_64 (by decide) ?_
              refine wp_iaddN dX3_plumb_65 (by omega) ?_
              refine wp_putI dX3_plumb_66 flX3_151 (by decide) rfl rfl rfl rfl ?_
              refine wp_aload_n dX3_plumb_69 rfl ?_
              refine wp_getI dX3_plumb_70 flX3_151 (by decide) rfl (Or.inl rfl) ?_
              rw [sI_eq]
              refine wp_iret dX3_plumb_73 (Or.inl rfl) ?_
              first
              | (
                have e0 : vPlumb z r u = zp z + 1 := by unfold vPlumb; rw [cif_t (show okPlumb r u from ⟨by omega, by omega⟩), if_neg (by omega)]
                have e1 : uPlumb z r u = mkP z (zp z + 1) (up1 (zr z) (zp z) r) (up1 (zu z) (zp z) u) := by unfold uPlumb; rw [cif_t ⟨(show okPlumb r u from ⟨by omega, by omega⟩), by omega⟩]
                rw [e0, e1] at hQ
                refine q_i (by omega) (hQ _ ((Fry.rf.put (by decide)).put (by decide)) ⟨⟨h1, h2, h3, h4, h5, h6, by show σ.1 0 7 + 1 = ((zp z + 1 : Nat) : Int); omega, ?_, (h9.put (by decide)).put (by decide), h10⟩, hc.2⟩)
                rw [wv_plumb (by omega) (by omega), ← h8]
                rw [if_neg (by omega)]
                rfl)
              | (
                have e0 : vPlumb z r u = zp z + 1 := by unfold vPlumb; rw [cif_t (show okPlumb r u from ⟨by omega, by omega⟩), if_neg (by omega)]
                have e1 : uPlumb z r u = mkP z (zp z + 1) (up1 (zr z) (zp z) r) (up1 (zu z) (zp z) u) := by unfold uPlumb; rw [cif_t ⟨(show okPlumb r u from ⟨by omega, by omega⟩), by omega⟩]
                rw [e0, e1] at hQ
                refine q_i (by omega) (hQ _ ((Fry.rf.put (by decide)).put (by decide)) ⟨⟨h1, h2, h3, h4, h5, h6, by show σ.1 0 7 + 1 = ((zp z + 1 : Nat) : Int); omega, ?_, (h9.put (by decide)).put (by decide), h10⟩, hc.2⟩)
                rw [wv_plumb (by omega) (by omega), ← h8]
                rw [if_pos (by omega)]
                rfl)
          · refine wp_bipush dX3_plumb_30 (by decide) ?_
            refine wp_iret dX3_plumb_32 (Or.inl rfl) ?_
            have e0 : vPlumb z r u = -4 := by unfold vPlumb; rw [cif_t (show okPlumb r u from ⟨by omega, by omega⟩), if_pos (by omega)]
            have e1 : uPlumb z r u = z := by unfold uPlumb; rw [cif_f (fun q => by have := q.2; omega)]
            rw [e0, e1] at hQ
            exact hQ σ Fry.rf hc
        · refine wp_bipush dX3_plumb_18 (by decide) ?_
          refine wp_iret dX3_plumb_20 (Or.inl rfl) ?_
          have e0 : vPlumb z r u = -2 := by unfold vPlumb; rw [cif_f (show ¬ okPlumb r u by unfold okPlumb; omega)]
          have e1 : uPlumb z r u = z := by unfold uPlumb; rw [cif_f (fun q => (show ¬ okPlumb r u by unfold okPlumb; omega) q.1)]
          rw [e0, e1] at hQ
          exact hQ σ Fry.rf hc
set_option maxRecDepth 20000 in
theorem p3_forget {d : Nat} {σ : aS} {Q : aQ} {z : aZ} (hc : CI σ z) (hz : ZV z) (hQ : ∀ σ', Fry σ σ' → CI σ' (uForget z) → Q (some (vi (zp z))) σ') : aCall 34 (d + 1) mX3_forget [vr 0] σ Q := by
  refine cl_in (own := RX3) (cc := cX3_forget) (rk := 0) (L := [some (vr 0), none]) rfl rfl rfl rfl (by decide) (Nat.le_of_ble_eq_true rfl) ?_
  obtain ⟨h1, h2, h3, h4, h5, h6, h7, h8, h9, h10⟩ := id hc.1
  refine wp_aload_n dX3_forget_0 rfl ?_
  refine wp_getI dX3_forget_1 flX3_151 (by decide) rfl (Or.inl rfl) ?_
  refine wp_istN (L' := [some (vr _), some (vi _)]) dX3_forget_4 (Nat.le_of_ble_eq_true rfl) rfl ?_
  refine wp_aload_n dX3_forget_5 rfl ?_
  refine wp_iconst dX3_forget_6 (by decide) ?_
  refine wp_putI dX3_forget_7 flX3_151 (by decide) rfl rfl rfl rfl ?_
  refine wp_aload_n dX3_forget_10 rfl ?_
  refine wp_bipush dX3_forget_11 (by decide) ?_
  refine wp_putI dX3_forget_13 flX3_26 (by decide) rfl rfl rfl rfl ?_
  refine wp_iload_n dX3_forget_16 rfl ?_
  refine wp_iret dX3_forget_17 (Or.inl rfl) ?_
  exact q_i h7 (hQ _ ((Fry.rf.put (by decide)).put (by decide)) ⟨⟨h1, h2, h3, h4, h5, h6, rfl, (wv_63 (z := uForget z) rfl).symm, (h9.put (by decide)).put (by decide), h10⟩, hc.2⟩)
set_option maxRecDepth 20000 in
theorem p3_where {d : Nat} {σ : aS} {Q : aQ} {z : aZ} (hc : CI σ z) (hz : ZV z) (hQ : Q (some (vi (wv z))) σ) : aCall 34 (d + 1) mX3_where [vr 0] σ Q := by
  refine cl_in (own := RX3) (cc := cX3_where) (rk := 0) (L := [some (vr 0)]) rfl rfl rfl rfl (by decide) (Nat.le_of_ble_eq_true rfl) ?_
  obtain ⟨h1, h2, h3, h4, h5, h6, h7, h8, h9, h10⟩ := id hc.1
  refine wp_aload_n dX3_where_0 rfl ?_
  refine wp_getI dX3_where_1 flX3_26 (by decide) rfl (Or.inl rfl) ?_
  refine wp_iret dX3_where_4 (Or.inl rfl) ?_
  exact q_i h8 hQ
set_option maxRecDepth 20000 in
theorem p3_fault {d : Nat} {σ : aS} {Q : aQ} {z : aZ} (hc : CI σ z) (hz : ZV z) (hQ : Q (some (vi ((PF z).1))) σ) : aCall 34 (d + 1) mX3_fault [vr 0] σ Q := by
  refine cl_in (own := RX3) (cc := cX3_fault) (rk := 0) (L := [some (vr 0)]) rfl rfl rfl rfl (by decide) (Nat.le_of_ble_eq_true rfl) ?_
  refine wp_aload_n dX3_fault_0 rfl ?_
  refine wp_getR dX3_fault_1 flX3_39 (by decide) rfl rfl ?_
  refine wp_getI dX3_fault_4 flX3_58 (by decide) rfl (Or.inl rfl) ?_
  refine wp_iret dX3_fault_7 (Or.inl rfl) ?_
  exact q_i hc.2.1 hQ
set_option maxRecDepth 20000 in
theorem s3_asN {d : Nat} {σ : aS} {Q : aQ} {P : Prop} {NC : Nat} (hQ : Q (some (vi (bi P))) σ) : aCall NC (d + 1) mX3_asNumber [vi (bi P)] σ Q := by
  refine cl_in (own := RX3) (cc := cX3_asNumber) (rk := 0) (L := [some (vi (bi P))]) rfl rfl rfl rfl (by decide) (Nat.le_of_ble_eq_true rfl) ?_
  refine wp_iload_n dX3_asNumber_0 rfl ?_
  refine wp_ifB_eq 8 dX3_asNumber_1 (by decide) (fun h1 => ?_) (fun h1 => ?_)
  · refine wp_iconst dX3_asNumber_8 (by decide) ?_
    refine wp_iret dX3_asNumber_9 (Or.inl rfl) ?_
    exact q_f h1 hQ
  · refine wp_iconst dX3_asNumber_4 (by decide) ?_
    refine wp_gotoN 9 dX3_asNumber_5 (by decide) ?_
    refine wp_iret dX3_asNumber_9 (Or.inl rfl) ?_
    exact q_t h1 hQ
set_option maxRecDepth 20000 in
theorem p3_cell {d : Nat} {σ : aS} {Q : aQ} {c w : Int} {z : aZ} (hc : CI σ z) (hz : ZV z) (hQ : Q (some (vi (vCell z c w))) σ) : aCall 34 (d + 3) mX3_cell [vr 0, vi c, vi w] σ Q := by
  refine cl_in (own := RX3) (cc := cX3_cell) (rk := 0) (L := [some (vr 0), some (vi c), some (vi w)]) rfl rfl rfl rfl (by decide) (Nat.le_of_ble_eq_true rfl) ?_
  have hp := hc.pl
  have hn := hp.n
  refine wp_aload_n dX3_cell_0 rfl ?_
  refine wp_getR dX3_cell_1 flX3_39 (by decide) rfl rfl ?_
  refine wp_iload_n dX3_cell_4 rfl ?_
  refine wp_V1 dX3_cell_5 vlX3_61 (by decide) rfl (Nat.le_of_ble_eq_true rfl) ?_
  refine s0_isCell hp ?_
  refine wp_ifB_eq 20 dX3_cell_8 (by decide) (fun hh8 => ?_) (fun hh8 => ?_)
  · refine wp_bipush dX3_cell_20 (by decide) ?_
    refine wp_iret dX3_cell_22 (Or.inl rfl) ?_
    exact q_i (by unfold vCell; rw [if_neg (by omega)]) hQ
  · refine wp_iload_n dX3_cell_11 rfl ?_
    refine wp_if_lt 20 dX3_cell_12 (by decide) (fun hh12 => ?_) (fun hh12 => ?_)
    · refine wp_bipush dX3_cell_20 (by decide) ?_
      refine wp_iret dX3_cell_22 (Or.inl rfl) ?_
      exact q_i (by unfold vCell; rw [if_neg (by omega)]) hQ
    · refine wp_iload_n dX3_cell_15 rfl ?_
      refine wp_iconst dX3_cell_16 (by decide) ?_
      refine wp_ic_le 23 dX3_cell_17 (by decide) (fun hh17 => ?_) (fun hh17 => ?_)
      · refine wp_iload_n dX3_cell_23 rfl ?_
        refine wp_if_ne 36 dX3_cell_24 (by decide) (fun hh24 => ?_) (fun hh24 => ?_)
        · refine wp_iload_n dX3_cell_36 rfl ?_
          refine wp_iconst dX3_cell_37 (by decide) ?_
          refine wp_ic_ne 51 dX3_cell_38 (by decide) (fun hh38 => ?_) (fun hh38 => ?_)
          · refine wp_aload_n dX3_cell_51 rfl ?_
            refine wp_getR dX3_cell_52 flX3_39 (by decide) rfl rfl ?_
            refine wp_getJ dX3_cell_55 flX3_73 (by decide) rfl rfl ?_
            refine wp_iload_n dX3_cell_58 rfl ?_
            refine wp_S2 dX3_cell_59 zlX3_76 (Nat.le_of_ble_eq_true rfl) ?_
            refine s3_has ?_
            refine wp_S1 dX3_cell_62 zlX3_80 (Nat.le_of_ble_eq_true rfl) ?_
            refine s3_asN ?_
            refine wp_iret dX3_cell_65 (Or.inl rfl) ?_
            first
            | exact q_i (by unfold vCell clv; rw [if_pos (by omega), if_neg (by omega), if_pos (by omega)]; exact bi_c (hp.b9 (by omega) (by omega))) hQ
            | exact q_i (by unfold vCell clv; rw [if_pos (by omega), if_neg (by omega), if_neg (by omega)]; exact bi_c (hp.b10 (by omega) (by omega))) hQ
          · refine wp_aload_n dX3_cell_41 rfl ?_
            refine wp_getR dX3_cell_42 flX3_39 (by decide) rfl rfl ?_
            refine wp_getJ dX3_cell_45 flX3_69 (by decide) rfl rfl ?_
            refine wp_gotoN 58 dX3_cell_48 (by decide) ?_
            refine wp_iload_n dX3_cell_58 rfl ?_
            refine wp_S2 dX3_cell_59 zlX3_76 (Nat.le_of_ble_eq_true rfl) ?_
            refine s3_has ?_
            refine wp_S1 dX3_cell_62 zlX3_80 (Nat.le_of_ble_eq_true rfl) ?_
            refine s3_asN ?_
            refine wp_iret dX3_cell_65 (Or.inl rfl) ?_
            first
            | exact q_i (by unfold vCell clv; rw [if_pos (by omega), if_neg (by omega), if_pos (by omega)]; exact bi_c (hp.b9 (by omega) (by omega))) hQ
            | exact q_i (by unfold vCell clv; rw [if_pos (by omega), if_neg (by omega), if_neg (by omega)]; exact bi_c (hp.b10 (by omega) (by omega))) hQ
        · refine wp_aload_n dX3_cell_27 rfl ?_
          refine wp_getR dX3_cell_28 flX3_39 (by decide) rfl rfl ?_
          refine wp_iload_n dX3_cell_31 rfl ?_
          refine wp_V1 dX3_cell_32 vlX3_65 (by decide) rfl (Nat.le_of_ble_eq_true rfl) ?_
          refine s0_kind hp (by omega) (by omega) ?_
          refine wp_iret dX3_cell_35 (Or.inl rfl) ?_
          exact q_i (by unfold vCell clv; rw [if_pos (by omega), if_pos (by omega)]) hQ
      · refine wp_bipush dX3_cell_20 (by decide) ?_
        refine wp_iret dX3_cell_22 (Or.inl rfl) ?_
        exact q_i (by unfold vCell; rw [if_neg (by omega)]) hQ
set_option maxRecDepth 20000 in
theorem s3_isThing {d : Nat} {σ : aS} {Q : aQ} {t : Int} {z : aZ} (hc : CI σ z) (hz : ZV z) (hQ : Q (some (vi (bi (0 ≤ t ∧ t ≤ zn z - 1)))) σ) : aCall 34 (d + 1) mX3_isThing [vr 0, vi t] σ Q := by
  refine cl_in (own := RX3) (cc := cX3_isThing) (rk := 1) (L := [some (vr 0), some (vi t)]) rfl rfl rfl rfl (by decide) (Nat.le_of_ble_eq_true rfl) ?_
  have hl := hz.2.2.2.1
  obtain ⟨h1, h2, h3, h4, h5, h6, h7, h8, h9, h10⟩ := id hc.1
  refine wp_iload_n dX3_isThing_0 rfl ?_
  refine wp_if_lt 22 dX3_isThing_1 (by decide) (fun hh1 => ?_) (fun hh1 => ?_)
  · refine wp_iconst dX3_isThing_22 (by decide) ?_
    refine wp_iret dX3_isThing_23 (Or.inr ⟨rfl, by decide⟩) ?_
    exact q_f (by omega) hQ
  · refine wp_iload_n dX3_isThing_4 rfl ?_
    refine wp_aload_n dX3_isThing_5 rfl ?_
    refine wp_getI dX3_isThing_6 flX3_87 (by decide) rfl (Or.inl rfl) ?_
    refine wp_ic_ge 22 dX3_isThing_9 (by decide) (fun hh9 => ?_) (fun hh9 => ?_)
    · refine wp_iconst dX3_isThing_22 (by decide) ?_
      refine wp_iret dX3_isThing_23 (Or.inr ⟨rfl, by decide⟩) ?_
      exact q_f (by omega) hQ
    · refine wp_iload_n dX3_isThing_12 rfl ?_
      refine wp_bipush dX3_isThing_13 (by decide) ?_
      refine wp_ic_ge 22 dX3_isThing_15 (by decide) (fun hh15 => ?_) (fun hh15 => ?_)
      · refine wp_iconst dX3_isThing_22 (by decide) ?_
        refine wp_iret dX3_isThing_23 (Or.inr ⟨rfl, by decide⟩) ?_
        exact q_f (by omega) hQ
      · refine wp_iconst dX3_isThing_18 (by decide) ?_
        refine wp_gotoN 23 dX3_isThing_19 (by decide) ?_
        refine wp_iret dX3_isThing_23 (Or.inr ⟨rfl, by decide⟩) ?_
        exact q_t (by omega) hQ
set_option maxRecDepth 20000 in
theorem p3_at {d : Nat} {σ : aS} {Q : aQ} {t s : Int} {z : aZ} (hc : CI σ z) (hz : ZV z) (hQ : Q (some (vi (vAt z t s))) σ) : aCall 34 (d + 4) mX3_at [vr 0, vi t, vi s] σ Q := by
  refine cl_in (own := RX3) (cc := cX3_at) (rk := 0) (L := [some (vr 0), some (vi t), some (vi s)]) rfl rfl rfl rfl (by decide) (Nat.le_of_ble_eq_true rfl) ?_
  have hl := hz.2.2.2.1
  have hp := hc.pl
  obtain ⟨h1, h2, h3, h4, h5, h6, h7, h8, h9, h10⟩ := id hc.1
  refine wp_aload_n dX3_at_0 rfl ?_
  refine wp_iload_n dX3_at_1 rfl ?_
  refine wp_V1 dX3_at_2 vlX3_110 (by decide) rfl (Nat.le_of_ble_eq_true rfl) ?_
  refine s3_isThing hc hz ?_
  refine wp_ifB_eq 15 dX3_at_5 (by decide) (fun hh5 => ?_) (fun hh5 => ?_)
  · refine wp_bipush dX3_at_15 (by decide) ?_
    refine wp_iret dX3_at_17 (Or.inl rfl) ?_
    exact q_i (by unfold vAt; rw [if_neg (by omega)]) hQ
  · refine wp_iload_n dX3_at_8 rfl ?_
    refine wp_S1 dX3_at_9 zlX3_84 (Nat.le_of_ble_eq_true rfl) ?_
    refine s3_isStep ?_
    refine wp_ifB_ne 18 dX3_at_12 (by decide) (fun hh12 => ?_) (fun hh12 => ?_)
    · have a6 := h6 t.toNat (by omega)
      have a7 := hz.2.2.2.2.1 t.toNat (by omega)
      refine wp_iload_n dX3_at_18 rfl ?_
      refine wp_aload_n dX3_at_19 rfl ?_
      refine wp_getR dX3_at_20 flX3_23 (by decide) rfl rfl ?_
      refine wp_iload_n dX3_at_23 rfl ?_
      refine wp_iaload dX3_at_24 (by decide) rfl (by omega) (by omega) (by decide) ?_
      refine wp_ic_ge 30 dX3_at_25 (by decide) (fun hh25 => ?_) (fun hh25 => ?_)
      · refine wp_aload_n dX3_at_30 rfl ?_
        refine wp_getR dX3_at_31 flX3_39 (by decide) rfl rfl ?_
        refine wp_aload_n dX3_at_34 rfl ?_
        refine wp_getR dX3_at_35 flX3_20 (by decide) rfl rfl ?_
        refine wp_iload_n dX3_at_38 rfl ?_
        refine wp_iaload dX3_at_39 (by decide) rfl (by omega) (by omega) (by decide) ?_
        refine wp_iload_n dX3_at_40 rfl ?_
        refine wp_aload_n dX3_at_41 rfl ?_
        refine wp_getR dX3_at_42 flX3_23 (by decide) rfl rfl ?_
        refine wp_iload_n dX3_at_45 rfl ?_
        refine wp_iaload dX3_at_46 (by decide) rfl (by omega) (by omega) (by decide) ?_
        refine wp_isubN dX3_at_47 (by omega) ?_
        refine wp_V2 dX3_at_48 vlX3_113 (by decide) rfl (Nat.le_of_ble_eq_true rfl) ?_
        refine s0_placeBehind hp ?_
        refine wp_iret dX3_at_51 (Or.inl rfl) ?_
        exact q_i (by unfold vAt; rw [if_pos (by omega), atv_5 hz, if_neg (by omega), a6.1, a6.2]) hQ
      · refine wp_iconst dX3_at_28 (by decide) ?_
        refine wp_iret dX3_at_29 (Or.inl rfl) ?_
        exact q_i (by unfold vAt; rw [if_pos (by omega), atv_5 hz, if_pos (by omega)]) hQ
    · refine wp_bipush dX3_at_15 (by decide) ?_
      refine wp_iret dX3_at_17 (Or.inl rfl) ?_
      exact q_i (by unfold vAt; rw [if_neg (by omega)]) hQ
set_option maxRecDepth 20000 in
theorem p3_rests {d : Nat} {σ : aS} {Q : aQ} {t w : Int} {z : aZ} (hc : CI σ z) (hz : ZV z) (hQ : Q (some (vi (vRests z t w))) σ) : aCall 34 (d + 4) mX3_rests [vr 0, vi t, vi w] σ Q := by
  refine cl_in (own := RX3) (cc := cX3_rests) (rk := 0) (L := [some (vr 0), some (vi t), some (vi w)]) rfl rfl rfl rfl (by decide) (Nat.le_of_ble_eq_true rfl) ?_
  have hl := hz.2.2.2.1
  have hp := hc.pl
  obtain ⟨h1, h2, h3, h4, h5, h6, h7, h8, h9, h10⟩ := id hc.1
  refine wp_aload_n dX3_rests_0 rfl ?_
  refine wp_iload_n dX3_rests_1 rfl ?_
  refine wp_V1 dX3_rests_2 vlX3_110 (by decide) rfl (Nat.le_of_ble_eq_true rfl) ?_
  refine s3_isThing hc hz ?_
  refine wp_ifB_eq 17 dX3_rests_5 (by decide) (fun hh5 => ?_) (fun hh5 => ?_)
  · refine wp_bipush dX3_rests_17 (by decide) ?_
    refine wp_iret dX3_rests_19 (Or.inl rfl) ?_
    exact q_i (by unfold vRests; rw [if_neg (by omega)]) hQ
  · refine wp_iload_n dX3_rests_8 rfl ?_
    refine wp_if_lt 17 dX3_rests_9 (by decide) (fun hh9 => ?_) (fun hh9 => ?_)
    · refine wp_bipush dX3_rests_17 (by decide) ?_
      refine wp_iret dX3_rests_19 (Or.inl rfl) ?_
      exact q_i (by unfold vRests; rw [if_neg (by omega)]) hQ
    · refine wp_iload_n dX3_rests_12 rfl ?_
      refine wp_iconst dX3_rests_13 (by decide) ?_
      refine wp_ic_le 20 dX3_rests_14 (by decide) (fun hh14 => ?_) (fun hh14 => ?_)
      · have a6 := h6 t.toNat (by omega)
        refine wp_iload_n dX3_rests_20 rfl ?_
        refine wp_if_ne 39 dX3_rests_21 (by decide) (fun hh21 => ?_) (fun hh21 => ?_)
        · refine wp_aload_n dX3_rests_39 rfl ?_
          refine wp_getR dX3_rests_40 flX3_39 (by decide) rfl rfl ?_
          refine wp_aload_n dX3_rests_43 rfl ?_
          refine wp_getR dX3_rests_44 flX3_20 (by decide) rfl rfl ?_
          refine wp_iload_n dX3_rests_47 rfl ?_
          refine wp_iaload dX3_rests_48 (by decide) rfl (by omega) (by omega) (by decide) ?_
          refine wp_V1 dX3_rests_49 vlX3_116 (by decide) rfl (Nat.le_of_ble_eq_true rfl) ?_
          refine s0_falls hp ?_
          refine wp_iret dX3_rests_52 (Or.inl rfl) ?_
          have hw : w = 1 := by omega
          exact q_i (by unfold vRests; rw [if_pos (by omega), hw, rsv_1 hz, a6.1]) hQ
        · refine wp_aload_n dX3_rests_24 rfl ?_
          refine wp_getR dX3_rests_25 flX3_39 (by decide) rfl rfl ?_
          refine wp_aload_n dX3_rests_28 rfl ?_
          refine wp_getR dX3_rests_29 flX3_20 (by decide) rfl rfl ?_
          refine wp_iload_n dX3_rests_32 rfl ?_
          refine wp_iaload dX3_rests_33 (by decide) rfl (by omega) (by omega) (by decide) ?_
          refine wp_iconst dX3_rests_34 (by decide) ?_
          refine wp_V2 dX3_rests_35 vlX3_113 (by decide) rfl (Nat.le_of_ble_eq_true rfl) ?_
          refine s0_placeBehind hp ?_
          refine wp_iret dX3_rests_38 (Or.inl rfl) ?_
          have hw : w = 0 := by omega
          exact q_i (by unfold vRests; rw [if_pos (by omega), hw, rsv_0 hz, a6.1]; rfl) hQ
      · refine wp_bipush dX3_rests_17 (by decide) ?_
        refine wp_iret dX3_rests_19 (Or.inl rfl) ?_
        exact q_i (by unfold vRests; rw [if_neg (by omega)]) hQ
noncomputable def lgM (z : aZ) (k : Nat) : Int := if lgN z k = -1 then -1 else rsv z (lgN z k).toNat 1
theorem lg_t {z : aZ} (hz : ZV z) {k : Nat} (h1 : opn (Gz z) (zc z k)) (h2 : lgM z k < flC (Gz z) 5 (zc z k)) : lgN z (k + 1) = k ∧ lgM z (k + 1) = flC (Gz z) 5 (zc z k) := by
  have e : lgN z (k + 1) = k := by
    unfold lgN
    refine cif_t ⟨(rsv_n hz).mpr h1, ?_⟩
    unfold lgM at h2
    by_cases q : lgN z k = -1
    · exact Or.inl q
    · rw [if_neg q] at h2; rw [rsv_1 hz (t := k)]; exact Or.inr h2
  refine ⟨e, ?_⟩
  unfold lgM
  rw [e, if_neg (by omega), rsv_1 hz]
  rfl
theorem lg_f {z : aZ} (hz : ZV z) {k : Nat} (h : ¬ (opn (Gz z) (zc z k) ∧ lgM z k < flC (Gz z) 5 (zc z k))) : lgN z (k + 1) = lgN z k ∧ lgM z (k + 1) = lgM z k := by
  have e : lgN z (k + 1) = lgN z k := by
    conv => lhs; unfold lgN
    refine cif_f (fun q => h ⟨(rsv_n hz).mp q.1, ?_⟩)
    unfold lgM
    rcases q.2 with w | w
    · rw [if_pos w]; have := (flC_in (g := Gz z) 5 (zc z k)).1; omega
    · by_cases q : lgN z k = -1
      · rw [if_pos q]; have := (flC_in (g := Gz z) 5 (zc z k)).1; omega
      · rw [if_neg q]; rw [rsv_1 hz (t := k)] at w; exact w
  exact ⟨e, by unfold lgM; rw [e]⟩
set_option maxRecDepth 20000 in
theorem l3_longest {d : Nat} {σ : aS} {Q : aQ} {z : aZ} (hc : CI σ z) (hz : ZV z) : ∀ (r : Nat) (k : Nat) (b m : Int) (x4 x5 : Option aV), k + r = zn z → b = lgN z k → m = lgM z k → Q (some (vi (lgN z (zn z)))) σ → Wp RX3 cX3_longest 34 (aCall 34 (d + 3)) Q 0 false 0 (fun _ => 0) 6 [some (vr 0), some (vi b), some (vi m), some (vi (k : Int)), x4, x5] [] σ := by
  intro r
  induction r with
  | zero =>
    intro k b m x4 x5 hk hb hm hQ
    have hp := hc.pl
    have hl := hz.2.2.2.1
    obtain ⟨h1, h2, h3, h4, h5, h6, h7, h8, h9, h10⟩ := id hc.1
    refine wp_iload_n dX3_longest_6 rfl ?_
    refine wp_aload_n dX3_longest_7 rfl ?_
    refine wp_getI dX3_longest_8 flX3_87 (by decide) rfl (Or.inl rfl) ?_
    refine wp_ic_ge 75 dX3_longest_11 (by decide) (fun hh11 => ?_) (fun hh11 => ?_)
    · refine wp_iload_n dX3_longest_75 rfl ?_
      refine wp_iret dX3_longest_76 (Or.inl rfl) ?_
      exact q_i (by rw [hb, show k = zn z by omega]) hQ
    · exfalso; omega
  | succ r ih =>
    intro k b m x4 x5 hk hb hm hQ
    have hp := hc.pl
    have hl := hz.2.2.2.1
    obtain ⟨h1, h2, h3, h4, h5, h6, h7, h8, h9, h10⟩ := id hc.1
    have a6 := h6 k (by omega)
    have f5 := flC_in (g := Gz z) 5 (zc z k)
    refine wp_iload_n dX3_longest_6 rfl ?_
    refine wp_aload_n dX3_longest_7 rfl ?_
    refine wp_getI dX3_longest_8 flX3_87 (by decide) rfl (Or.inl rfl) ?_
    refine wp_ic_ge 75 dX3_longest_11 (by decide) (fun hh11 => ?_) (fun hh11 => ?_)
    · exfalso; omega
    · refine wp_iload_n dX3_longest_14 rfl ?_
      refine wp_bipush dX3_longest_15 (by decide) ?_
      refine wp_ic_ge 75 dX3_longest_17 (by decide) (fun hh17 => ?_) (fun hh17 => ?_)
      · exfalso; omega
      · refine wp_aload_n dX3_longest_20 rfl ?_
        refine wp_getR dX3_longest_21 flX3_39 (by decide) rfl rfl ?_
        refine wp_getJ dX3_longest_24 flX3_119 (by decide) rfl rfl ?_
        refine wp_aload_n dX3_longest_27 rfl ?_
        refine wp_getR dX3_longest_28 flX3_20 (by decide) rfl rfl ?_
        refine wp_iload_n dX3_longest_31 rfl ?_
        refine wp_iaload dX3_longest_32 (by decide) rfl (by omega) (by omega) (by decide) ?_
        rw [show σ.1 2 (k : Int).toNat = zc z k from a6.1]
        refine wp_S2 dX3_longest_33 zlX3_76 (Nat.le_of_ble_eq_true rfl) ?_
        refine s3_has ?_
        refine wp_ist (L' := [some (vr _), some (vi _), some (vi _), some (vi _), some (vi _), _]) dX3_longest_36 (Nat.le_of_ble_eq_true rfl) rfl ?_
        refine wp_aload_n dX3_longest_38 rfl ?_
        refine wp_getR dX3_longest_39 flX3_39 (by decide) rfl rfl ?_
        refine wp_aload_n dX3_longest_42 rfl ?_
        refine wp_getR dX3_longest_43 flX3_20 (by decide) rfl rfl ?_
        refine wp_iload_n dX3_longest_46 rfl ?_
        refine wp_iaload dX3_longest_47 (by decide) rfl (by omega) (by omega) (by decide) ?_
        rw [show σ.1 2 (k : Int).toNat = zc z k from a6.1]
        refine wp_V1 dX3_longest_48 vlX3_116 (by decide) rfl (Nat.le_of_ble_eq_true rfl) ?_
        refine s0_falls hp ?_
        refine wp_ist (L' := [some (vr _), some (vi _), some (vi _), some (vi _), some (vi _), some (vi _)]) dX3_longest_51 (Nat.le_of_ble_eq_true rfl) rfl ?_
        refine wp_iload dX3_longest_53 rfl ?_
        refine wp_ifB_eq 69 dX3_longest_55 (by decide) (fun hh55 => ?_) (fun hh55 => ?_)
        · refine wp_iincN (L' := [some (vr _), some (vi _), some (vi _), some (vi _), some (vi _), some (vi _)]) dX3_longest_69 rfl (by omega) rfl ?_
          refine wp_gotoN 6 dX3_longest_72 (by decide) ?_
          have q := lg_f (k := k) hz (fun w => by first | exact hh55 (hp.b4.mpr w.1) | (have := w.2; omega))
          exact ih (k + 1) _ _ _ _ (by omega) (hb.trans q.1.symm) (hm.trans q.2.symm) hQ
        · refine wp_iload dX3_longest_58 rfl ?_
          refine wp_iload_n dX3_longest_60 rfl ?_
          refine wp_ic_le 69 dX3_longest_61 (by decide) (fun hh61 => ?_) (fun hh61 => ?_)
          · refine wp_iincN (L' := [some (vr _), some (vi _), some (vi _), some (vi _), some (vi _), some (vi _)]) dX3_longest_69 rfl (by omega) rfl ?_
            refine wp_gotoN 6 dX3_longest_72 (by decide) ?_
            have q := lg_f (k := k) hz (fun w => by first | exact hh55 (hp.b4.mpr w.1) | (have := w.2; omega))
            exact ih (k + 1) _ _ _ _ (by omega) (hb.trans q.1.symm) (hm.trans q.2.symm) hQ
          · refine wp_iload_n dX3_longest_64 rfl ?_
            refine wp_istN (L' := [some (vr _), some (vi _), some (vi _), some (vi _), some (vi _), some (vi _)]) dX3_longest_65 (Nat.le_of_ble_eq_true rfl) rfl ?_
            refine wp_iload dX3_longest_66 rfl ?_
            refine wp_istN (L' := [some (vr _), some (vi _), some (vi _), some (vi _), some (vi _), some (vi _)]) dX3_longest_68 (Nat.le_of_ble_eq_true rfl) rfl ?_
            refine wp_iincN (L' := [some (vr _), some (vi _), some (vi _), some (vi _), some (vi _), some (vi _)]) dX3_longest_69 rfl (by omega) rfl ?_
            refine wp_gotoN 6 dX3_longest_72 (by decide) ?_
            have q := lg_t (k := k) hz (hp.b4.mp hh55) (by omega)
            exact ih (k + 1) _ _ _ _ (by omega) q.1.symm q.2.symm hQ
set_option maxRecDepth 20000 in
theorem p3_longest {d : Nat} {σ : aS} {Q : aQ} {z : aZ} (hc : CI σ z) (hz : ZV z) (hQ : Q (some (vi (lgN z (zn z)))) σ) : aCall 34 (d + 4) mX3_longest [vr 0] σ Q := by
  refine cl_in (own := RX3) (cc := cX3_longest) (rk := 0) (L := [some (vr 0), none, none, none, none, none]) rfl rfl rfl rfl (by decide) (Nat.le_of_ble_eq_true rfl) ?_
  refine wp_iconst dX3_longest_0 (by decide) ?_
  refine wp_istN (L' := [some (vr _), some (vi _), none, none, none, none]) dX3_longest_1 (Nat.le_of_ble_eq_true rfl) rfl ?_
  refine wp_iconst dX3_longest_2 (by decide) ?_
  refine wp_istN (L' := [some (vr _), some (vi _), some (vi _), none, none, none]) dX3_longest_3 (Nat.le_of_ble_eq_true rfl) rfl ?_
  refine wp_iconst dX3_longest_4 (by decide) ?_
  refine wp_istN (L' := [some (vr _), some (vi _), some (vi _), some (vi _), none, none]) dX3_longest_5 (Nat.le_of_ble_eq_true rfl) rfl ?_
  exact l3_longest hc hz (zn z) 0 (-1) (-1) _ _ (by omega) rfl rfl hQ
set_option maxRecDepth 20000 in
theorem l3_meet {d : Nat} {σ : aS} {Q : aQ} {z : aZ} (hc : CI σ z) (hz : ZV z) {a b : Int} (ha : 0 ≤ a ∧ a ≤ zn z - 1) (hb : 0 ≤ b ∧ b ≤ zn z - 1) : ∀ (r : Nat) (k : Nat) (x4 : Option aV), k + r = 100 → Q (some (vi (mtN z a.toNat b.toNat r k))) σ → Wp RX3 cX3_meet 34 (aCall 34 (d + 4)) Q 0 false 0 (fun _ => 0) 26 [some (vr 0), some (vi a), some (vi b), some (vi (k : Int)), x4] [] σ := by
  intro r
  induction r with
  | zero =>
    intro k x4 hk hQ
    have hl := hz.2.2.2.1
    refine wp_iload_n dX3_meet_26 rfl ?_
    refine wp_bipush dX3_meet_27 (by decide) ?_
    refine wp_ic_ge 65 dX3_meet_29 (by decide) (fun hh29 => ?_) (fun hh29 => ?_)
    · refine wp_iconst dX3_meet_65 (by decide) ?_
      refine wp_iret dX3_meet_66 (Or.inl rfl) ?_
      exact hQ
    · exfalso; omega
  | succ r ih =>
    intro k x4 hk hQ
    have hl := hz.2.2.2.1
    unfold mtN at hQ
    have ea : vAt z a k = atv z a.toNat k := by unfold vAt; rw [if_pos (by omega)]
    have eb : vAt z b k = atv z b.toNat k := by unfold vAt; rw [if_pos (by omega)]
    refine wp_iload_n dX3_meet_26 rfl ?_
    refine wp_bipush dX3_meet_27 (by decide) ?_
    refine wp_ic_ge 65 dX3_meet_29 (by decide) (fun hh29 => ?_) (fun hh29 => ?_)
    · exfalso; omega
    · refine wp_aload_n dX3_meet_32 rfl ?_
      refine wp_iload_n dX3_meet_33 rfl ?_
      refine wp_iload_n dX3_meet_34 rfl ?_
      refine wp_V2 dX3_meet_35 vlX3_122 (by decide) rfl (Nat.le_of_ble_eq_true rfl) ?_
      refine p3_at hc hz ?_
      rw [ea]
      refine wp_ist (L' := [some (vr _), some (vi _), some (vi _), some (vi _), some (vi _)]) dX3_meet_38 (Nat.le_of_ble_eq_true rfl) rfl ?_
      refine wp_iload dX3_meet_40 rfl ?_
      refine wp_iconst dX3_meet_42 (by decide) ?_
      refine wp_ic_eq 59 dX3_meet_43 (by decide) (fun hh43 => ?_) (fun hh43 => ?_)
      · refine wp_iincN (L' := [some (vr _), some (vi _), some (vi _), some (vi _), some (vi _)]) dX3_meet_59 rfl (by omega) rfl ?_
        refine wp_gotoN 26 dX3_meet_62 (by decide) ?_
        rw [cif_f (fun q => by have := q.1; have := q.2; omega)] at hQ
        exact ih (k + 1) _ (by omega) hQ
      · refine wp_iload dX3_meet_46 rfl ?_
        refine wp_aload_n dX3_meet_48 rfl ?_
        refine wp_iload_n dX3_meet_49 rfl ?_
        refine wp_iload_n dX3_meet_50 rfl ?_
        refine wp_V2 dX3_meet_51 vlX3_122 (by decide) rfl (Nat.le_of_ble_eq_true rfl) ?_
        refine p3_at hc hz ?_
        rw [eb]
        refine wp_ic_ne 59 dX3_meet_54 (by decide) (fun hh54 => ?_) (fun hh54 => ?_)
        · refine wp_iincN (L' := [some (vr _), some (vi _), some (vi _), some (vi _), some (vi _)]) dX3_meet_59 rfl (by omega) rfl ?_
          refine wp_gotoN 26 dX3_meet_62 (by decide) ?_
          rw [cif_f (fun q => by have := q.1; have := q.2; omega)] at hQ
          exact ih (k + 1) _ (by omega) hQ
        · refine wp_iload_n dX3_meet_57 rfl ?_
          refine wp_iret dX3_meet_58 (Or.inl rfl) ?_
          rw [cif_t ⟨hh43, by omega⟩] at hQ
          exact hQ
set_option maxRecDepth 20000 in
theorem p3_meet {d : Nat} {σ : aS} {Q : aQ} {a b : Int} {z : aZ} (hc : CI σ z) (hz : ZV z) (hQ : Q (some (vi (vMeet z a b))) σ) : aCall 34 (d + 5) mX3_meet [vr 0, vi a, vi b] σ Q := by
  refine cl_in (own := RX3) (cc := cX3_meet) (rk := 0) (L := [some (vr 0), some (vi a), some (vi b), none, none]) rfl rfl rfl rfl (by decide) (Nat.le_of_ble_eq_true rfl) ?_
  refine wp_aload_n dX3_meet_0 rfl ?_
  refine wp_iload_n dX3_meet_1 rfl ?_
  refine wp_V1 dX3_meet_2 vlX3_110 (by decide) rfl (Nat.le_of_ble_eq_true rfl) ?_
  refine s3_isThing hc hz ?_
  refine wp_ifB_eq 21 dX3_meet_5 (by decide) (fun hh5 => ?_) (fun hh5 => ?_)
  · refine wp_bipush dX3_meet_21 (by decide) ?_
    refine wp_iret dX3_meet_23 (Or.inl rfl) ?_
    exact q_i (by unfold vMeet; rw [if_neg (fun q => by omega)]) hQ
  · refine wp_aload_n dX3_meet_8 rfl ?_
    refine wp_iload_n dX3_meet_9 rfl ?_
    refine wp_V1 dX3_meet_10 vlX3_110 (by decide) rfl (Nat.le_of_ble_eq_true rfl) ?_
    refine s3_isThing hc hz ?_
    refine wp_ifB_eq 21 dX3_meet_13 (by decide) (fun hh13 => ?_) (fun hh13 => ?_)
    · refine wp_bipush dX3_meet_21 (by decide) ?_
      refine wp_iret dX3_meet_23 (Or.inl rfl) ?_
      exact q_i (by unfold vMeet; rw [if_neg (fun q => by omega)]) hQ
    · refine wp_iload_n dX3_meet_16 rfl ?_
      refine wp_iload_n dX3_meet_17 rfl ?_
      refine wp_ic_ne 24 dX3_meet_18 (by decide) (fun hh18 => ?_) (fun hh18 => ?_)
      · refine wp_iconst dX3_meet_24 (by decide) ?_
        refine wp_istN (L' := [some (vr _), some (vi _), some (vi _), some (vi _), none]) dX3_meet_25 (Nat.le_of_ble_eq_true rfl) rfl ?_
        have e : vMeet z a b = mtN z a.toNat b.toNat 100 0 := by unfold vMeet; rw [if_pos ⟨by omega, by omega, by omega⟩]
        rw [e] at hQ
        exact l3_meet hc hz (by omega) (by omega) 100 0 _ (by omega) hQ
      · refine wp_bipush dX3_meet_21 (by decide) ?_
        refine wp_iret dX3_meet_23 (Or.inl rfl) ?_
        exact q_i (by unfold vMeet; rw [if_neg (fun q => by omega)]) hQ
