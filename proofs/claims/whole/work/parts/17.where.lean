def okM (z : aZ) (m : Int) (k : Nat) : Prop := ∀ j, j < k → (zr z j < m ↔ zu z j = 1)
noncomputable def wvN (z : aZ) : Nat → Int
  | 0 => 0
  | m + 1 => wvN z m + bi (okM z m (zp z)) * 2 ^ m
noncomputable def wv (z : aZ) : Int := wvN z 6
theorem wvN_in (z : aZ) : ∀ m, 0 ≤ wvN z m ∧ wvN z m < 2 ^ m := by
  intro m
  induction m with
  | zero => unfold wvN; simp
  | succ m ih =>
    unfold wvN
    have e : (2 : Int) ^ (m + 1) = 2 * 2 ^ m := by rw [Int.pow_succ]; omega
    rw [e]
    rcases bi_01 (okM z m (zp z)) with h | h <;> rw [h] <;> omega
theorem or_ad : ∀ m : Nat, m < 6 → ∀ b : Nat, b < 2 ^ m → bi32 (· ||| ·) (b : Int) (w32 (1 * 2 ^ m)) = (b : Int) + 2 ^ m := by decide +kernel
theorem or_0 : ∀ b : Nat, b < 64 → bi32 (· ||| ·) (b : Int) 0 = (b : Int) := by decide +kernel
def isB (b k : Int) : Prop := bi32 (· &&& ·) (b / 2 ^ (k % 32).toNat) 1 = 1
theorem isB_6 : ∀ b : Nat, b < 64 → ∀ m : Nat, m < 6 → (bi32 (· &&& ·) ((b : Int) / 2 ^ (((m : Int)) % 32).toNat) 1 = 1 ↔ (b : Int) / 2 ^ m % 2 = 1) := by decide +kernel
theorem wv_6 (z : aZ) : wv z = bi (okM z 0 (zp z)) + 2 * bi (okM z 1 (zp z)) + 4 * bi (okM z 2 (zp z)) + 8 * bi (okM z 3 (zp z)) + 16 * bi (okM z 4 (zp z)) + 32 * bi (okM z 5 (zp z)) := by
  show 0 + bi (okM z ((0 : Nat) : Int) (zp z)) * 2 ^ 0 + bi (okM z ((1 : Nat) : Int) (zp z)) * 2 ^ 1 + bi (okM z ((2 : Nat) : Int) (zp z)) * 2 ^ 2 + bi (okM z ((3 : Nat) : Int) (zp z)) * 2 ^ 3 + bi (okM z ((4 : Nat) : Int) (zp z)) * 2 ^ 4 + bi (okM z ((5 : Nat) : Int) (zp z)) * 2 ^ 5 = _
  simp only [show ((0 : Nat) : Int) = 0 from rfl, show ((1 : Nat) : Int) = 1 from rfl, show ((2 : Nat) : Int) = 2 from rfl, show ((3 : Nat) : Int) = 3 from rfl, show ((4 : Nat) : Int) = 4 from rfl, show ((5 : Nat) : Int) = 5 from rfl, show (2 : Int) ^ 0 = 1 from rfl, show (2 : Int) ^ 1 = 2 from rfl, show (2 : Int) ^ 2 = 4 from rfl, show (2 : Int) ^ 3 = 8 from rfl, show (2 : Int) ^ 4 = 16 from rfl, show (2 : Int) ^ 5 = 32 from rfl]
  omega
theorem wv_in (z : aZ) : 0 ≤ wv z ∧ wv z < 64 := wvN_in z 6
theorem wv_bit (z : aZ) {m : Nat} (hm : m < 6) : wv z / 2 ^ m % 2 = bi (okM z m (zp z)) := by
  have e := wv_6 z
  have h0 := bi_10 (okM z 0 (zp z))
  have h1 := bi_10 (okM z 1 (zp z))
  have h2 := bi_10 (okM z 2 (zp z))
  have h3 := bi_10 (okM z 3 (zp z))
  have h4 := bi_10 (okM z 4 (zp z))
  have h5 := bi_10 (okM z 5 (zp z))
  match m, hm with
  | 0, _ => show wv z / 1 % 2 = bi (okM z 0 (zp z)); omega
  | 1, _ => show wv z / 2 % 2 = bi (okM z 1 (zp z)); omega
  | 2, _ => show wv z / 4 % 2 = bi (okM z 2 (zp z)); omega
  | 3, _ => show wv z / 8 % 2 = bi (okM z 3 (zp z)); omega
  | 4, _ => show wv z / 16 % 2 = bi (okM z 4 (zp z)); omega
  | 5, _ => show wv z / 32 % 2 = bi (okM z 5 (zp z)); omega
theorem isB_wv (z : aZ) {m : Nat} (hm : m < 6) : isB (wv z) m ↔ okM z m (zp z) := by
  have h := isB_6 (wv z).toNat (by have := wv_in z; omega) m hm
  have e : (((wv z).toNat : Nat) : Int) = wv z := by have := wv_in z; omega
  rw [e, wv_bit z hm] at h
  exact h.trans bi_1
set_option maxRecDepth 20000 in
theorem s4_isIn {d : Nat} {σ : aS} {Q : aQ} {b k : Int} {NC : Nat} (h0 : 0 ≤ k) (h1 : k < 64) (hQ : Q (some (vi (bi (isB b k)))) σ) : aCall NC (d + 1) mX4_isIn [vi b, vi k] σ Q := by
  refine cl_in (own := RX4) (cc := cX4_isIn) (rk := 1) (L := [some (vi b), some (vi k)]) rfl rfl rfl rfl (by decide) (Nat.le_of_ble_eq_true rfl) ?_
  refine wp_iload_n dX4_isIn_0 rfl ?_
  refine wp_iload_n dX4_isIn_1 rfl ?_
  refine wp_ishr dX4_isIn_2 (by omega) (by omega) ?_
  refine wp_iconst dX4_isIn_3 (by decide) ?_
  refine wp_iand dX4_isIn_4 ?_
  refine wp_iconst dX4_isIn_5 (by decide) ?_
  refine wp_ic_ne 13 dX4_isIn_6 (by decide) (fun hh6 => ?_) (fun hh6 => ?_)
  · refine wp_iconst dX4_isIn_13 (by decide) ?_
    refine wp_iret dX4_isIn_14 (Or.inr ⟨rfl, by decide⟩) ?_
    exact q_f hh6 hQ
  · refine wp_iconst dX4_isIn_9 (by decide) ?_
    refine wp_gotoN 14 dX4_isIn_10 (by decide) ?_
    refine wp_iret dX4_isIn_14 (Or.inr ⟨rfl, by decide⟩) ?_
    exact q_t (Classical.byContradiction hh6) hQ
set_option maxRecDepth 20000 in
theorem l4_wi {d : Nat} {z : aZ} {σ : aS} {Q : aQ} {b m : Int} (hm : MI σ z) (hz : ZV z) : ∀ (r : Nat) (k : Nat) (x : Int), k + r = zp z → x = bi (okM z m k) → Wp RX4 cX4_whereNow 34 (aCall 34 d) Q 0 false 0 (fun _ => 0) 75 [some (vr 18), some (vi b), some (vi m), some (vi (bi (okM z m (zp z)))), some (vi (zp z))] [] σ → Wp RX4 cX4_whereNow 34 (aCall 34 (d)) Q 0 false 0 (fun _ => 0) 15 [some (vr 18), some (vi b), some (vi m), some (vi x), some (vi k)] [] σ := by
  intro r
  induction r with
  | zero =>
    intro k x hk his hK
    have h7 := hm.2.2.2.2.2.2.1
    have h8 := hm.2.2.2.2.2.2.2.1
    have hp8 := hz.2.2.2.2.2.1
    have hv := hz.2.2.2.2.2.2.1
    refine wp_iload dX4_whereNow_15 rfl ?_
    refine wp_aload_n dX4_whereNow_17 rfl ?_
    refine wp_getI dX4_whereNow_18 flX4_185 (by decide) rfl (Or.inl rfl) ?_
    refine wp_ic_ge 75 dX4_whereNow_21 (by decide) (fun hh21 => ?_) (fun hh21 => ?_)
    · have e : k = zp z := by omega
      subst e
      rw [his]
      exact hK
    · exact absurd hk (by omega)
  | succ r ih =>
    intro k x hk his hK
    have h7 := hm.2.2.2.2.2.2.1
    have h8 := hm.2.2.2.2.2.2.2.1
    have hp8 := hz.2.2.2.2.2.1
    have hv := hz.2.2.2.2.2.2.1
    refine wp_iload dX4_whereNow_15 rfl ?_
    refine wp_aload_n dX4_whereNow_17 rfl ?_
    refine wp_getI dX4_whereNow_18 flX4_185 (by decide) rfl (Or.inl rfl) ?_
    refine wp_ic_ge 75 dX4_whereNow_21 (by decide) (fun hh21 => ?_) (fun hh21 => ?_)
    · exact absurd hk (by omega)
    · refine wp_iload_n dX4_whereNow_24 rfl ?_
      refine wp_if_eq 67 dX4_whereNow_25 (by decide) (fun hh25 => ?_) (fun hh25 => ?_)
      · refine wp_iconst dX4_whereNow_67 (by decide) ?_
        refine wp_istN (L' := [some (vr _), some (vi _), some (vi _), some (vi _), some (vi _)]) dX4_whereNow_68 (Nat.le_of_ble_eq_true rfl) rfl ?_
        refine wp_iincN (L' := [some (vr _), some (vi _), some (vi _), some (vi _), some (vi _)]) dX4_whereNow_69 rfl (by omega) rfl ?_
        refine wp_gotoN 15 dX4_whereNow_72 (by decide) ?_
        exact ih (k + 1) _ (by omega) (bi_f (P := okM z m (k + 1)) (fun q => (bi_0.mp (his ▸ hh25)) (fun j hj => q j (by omega)))).symm hK
      · refine wp_aload_n dX4_whereNow_28 rfl ?_
        refine wp_getR dX4_whereNow_29 flX4_35 (by decide) rfl rfl ?_
        refine wp_iload dX4_whereNow_32 rfl ?_
        refine wp_iaload dX4_whereNow_34 (by decide) rfl (by omega) (by omega) (by decide) ?_
        rw [Int.toNat_natCast, (h8 k (by omega)).1]
        refine wp_iload_n dX4_whereNow_35 rfl ?_
        refine wp_ic_ge 43 dX4_whereNow_36 (by decide) (fun hh36 => ?_) (fun hh36 => ?_)
        · refine wp_iconst dX4_whereNow_43 (by decide) ?_
          refine wp_aload_n dX4_whereNow_44 rfl ?_
          refine wp_getR dX4_whereNow_45 flX4_38 (by decide) rfl rfl ?_
          refine wp_iload dX4_whereNow_48 rfl ?_
          refine wp_iaload dX4_whereNow_50 (by decide) rfl (by omega) (by omega) (by decide) ?_
          rw [Int.toNat_natCast, (h8 k (by omega)).2]
          refine wp_iconst dX4_whereNow_51 (by decide) ?_
          refine wp_ic_ne 59 dX4_whereNow_52 (by decide) (fun hh52 => ?_) (fun hh52 => ?_)
          · refine wp_iconst dX4_whereNow_59 (by decide) ?_
            refine wp_ic_ne 67 dX4_whereNow_60 (by decide) (fun hh60 => ?_) (fun hh60 => ?_)
            · exact absurd hh60 (by decide)
            · refine wp_iconst dX4_whereNow_63 (by decide) ?_
              refine wp_gotoN 68 dX4_whereNow_64 (by decide) ?_
              refine wp_istN (L' := [some (vr _), some (vi _), some (vi _), some (vi _), some (vi _)]) dX4_whereNow_68 (Nat.le_of_ble_eq_true rfl) rfl ?_
              refine wp_iincN (L' := [some (vr _), some (vi _), some (vi _), some (vi _), some (vi _)]) dX4_whereNow_69 rfl (by omega) rfl ?_
              refine wp_gotoN 15 dX4_whereNow_72 (by decide) ?_
              refine ih (k + 1) _ (by omega) (bi_t (P := okM z m (k + 1)) (fun j hj => ?_)).symm hK
              by_cases hj2 : j = k
              · rw [hj2]; constructor <;> intro _ <;> omega
              · exact (bi_1 (P := okM z m k) |>.mp (by have := bi_01 (okM z m k); omega)) j (by omega)
          · refine wp_iconst dX4_whereNow_55 (by decide) ?_
            refine wp_gotoN 60 dX4_whereNow_56 (by decide) ?_
            refine wp_ic_ne 67 dX4_whereNow_60 (by decide) (fun hh60 => ?_) (fun hh60 => ?_)
            · refine wp_iconst dX4_whereNow_67 (by decide) ?_
              refine wp_istN (L' := [some (vr _), some (vi _), some (vi _), some (vi _), some (vi _)]) dX4_whereNow_68 (Nat.le_of_ble_eq_true rfl) rfl ?_
              refine wp_iincN (L' := [some (vr _), some (vi _), some (vi _), some (vi _), some (vi _)]) dX4_whereNow_69 rfl (by omega) rfl ?_
              refine wp_gotoN 15 dX4_whereNow_72 (by decide) ?_
              exact ih (k + 1) _ (by omega) (bi_f (P := okM z m (k + 1)) (fun q => by have := q k (by omega); omega)).symm hK
            · exact absurd hh60 (by decide)
        · refine wp_iconst dX4_whereNow_39 (by decide) ?_
          refine wp_gotoN 44 dX4_whereNow_40 (by decide) ?_
          refine wp_aload_n dX4_whereNow_44 rfl ?_
          refine wp_getR dX4_whereNow_45 flX4_38 (by decide) rfl rfl ?_
          refine wp_iload dX4_whereNow_48 rfl ?_
          refine wp_iaload dX4_whereNow_50 (by decide) rfl (by omega) (by omega) (by decide) ?_
          rw [Int.toNat_natCast, (h8 k (by omega)).2]
          refine wp_iconst dX4_whereNow_51 (by decide) ?_
          refine wp_ic_ne 59 dX4_whereNow_52 (by decide) (fun hh52 => ?_) (fun hh52 => ?_)
          · refine wp_iconst dX4_whereNow_59 (by decide) ?_
            refine wp_ic_ne 67 dX4_whereNow_60 (by decide) (fun hh60 => ?_) (fun hh60 => ?_)
            · refine wp_iconst dX4_whereNow_67 (by decide) ?_
              refine wp_istN (L' := [some (vr _), some (vi _), some (vi _), some (vi _), some (vi _)]) dX4_whereNow_68 (Nat.le_of_ble_eq_true rfl) rfl ?_
              refine wp_iincN (L' := [some (vr _), some (vi _), some (vi _), some (vi _), some (vi _)]) dX4_whereNow_69 rfl (by omega) rfl ?_
              refine wp_gotoN 15 dX4_whereNow_72 (by decide) ?_
              exact ih (k + 1) _ (by omega) (bi_f (P := okM z m (k + 1)) (fun q => by have := q k (by omega); omega)).symm hK
            · exact absurd hh60 (by decide)
          · refine wp_iconst dX4_whereNow_55 (by decide) ?_
            refine wp_gotoN 60 dX4_whereNow_56 (by decide) ?_
            refine wp_ic_ne 67 dX4_whereNow_60 (by decide) (fun hh60 => ?_) (fun hh60 => ?_)
            · exact absurd hh60 (by decide)
            · refine wp_iconst dX4_whereNow_63 (by decide) ?_
              refine wp_gotoN 68 dX4_whereNow_64 (by decide) ?_
              refine wp_istN (L' := [some (vr _), some (vi _), some (vi _), some (vi _), some (vi _)]) dX4_whereNow_68 (Nat.le_of_ble_eq_true rfl) rfl ?_
              refine wp_iincN (L' := [some (vr _), some (vi _), some (vi _), some (vi _), some (vi _)]) dX4_whereNow_69 rfl (by omega) rfl ?_
              refine wp_gotoN 15 dX4_whereNow_72 (by decide) ?_
              refine ih (k + 1) _ (by omega) (bi_t (P := okM z m (k + 1)) (fun j hj => ?_)).symm hK
              by_cases hj2 : j = k
              · rw [hj2]; constructor <;> intro _ <;> omega
              · exact (bi_1 (P := okM z m k) |>.mp (by have := bi_01 (okM z m k); omega)) j (by omega)
set_option maxRecDepth 20000 in
theorem l4_wo {d : Nat} {z : aZ} {σ : aS} {Q : aQ} (hm : MI σ z) (hz : ZV z) : ∀ (r : Nat) (m : Nat) (b : Int) (u v : Option aV), m + r = 6 → b = wvN z m → Q (some (vi (wv z))) σ → Wp RX4 cX4_whereNow 34 (aCall 34 (d)) Q 0 false 0 (fun _ => 0) 4 [some (vr 18), some (vi b), some (vi m), u, v] [] σ := by
  intro r
  induction r with
  | zero =>
    intro m b u v hk hb hQ
    refine wp_iload_n dX4_whereNow_4 rfl ?_
    refine wp_bipush dX4_whereNow_5 (by decide) ?_
    refine wp_ic_ge 95 dX4_whereNow_7 (by decide) (fun hh7 => ?_) (fun hh7 => ?_)
    · refine wp_iload_n dX4_whereNow_95 rfl ?_
      refine wp_iret dX4_whereNow_96 (Or.inl rfl) ?_
      have e : m = 6 := by omega
      subst e
      rw [hb]
      exact hQ
    · exact absurd hk (by omega)
  | succ r ih =>
    intro m b u v hk hb hQ
    refine wp_iload_n dX4_whereNow_4 rfl ?_
    refine wp_bipush dX4_whereNow_5 (by decide) ?_
    refine wp_ic_ge 95 dX4_whereNow_7 (by decide) (fun hh7 => ?_) (fun hh7 => ?_)
    · exact absurd hk (by omega)
    · refine wp_iconst dX4_whereNow_10 (by decide) ?_
      refine wp_istN (L' := [some (vr _), some (vi _), some (vi _), some (vi _), _]) dX4_whereNow_11 (Nat.le_of_ble_eq_true rfl) rfl ?_
      refine wp_iconst dX4_whereNow_12 (by decide) ?_
      refine wp_ist (L' := [some (vr _), some (vi _), some (vi _), some (vi _), some (vi _)]) dX4_whereNow_13 (Nat.le_of_ble_eq_true rfl) rfl ?_
      refine l4_wi hm hz (zp z) 0 _ (by omega) (bi_t (P := okM z m 0) (fun j hj => absurd hj (Nat.not_lt_zero j))).symm ?_
      refine wp_iload_n dX4_whereNow_75 rfl ?_
      refine wp_iload_n dX4_whereNow_76 rfl ?_
      refine wp_ifB_eq 86 dX4_whereNow_77 (by decide) (fun hh77 => ?_) (fun hh77 => ?_)
      · have hbi := wvN_in z m
        have hp : (2 : Int) ^ m ≤ 2 ^ 6 := by
          have e3 : ((2 ^ m : Nat) : Int) = (2 : Int) ^ m := by simp
          have e4 : 2 ^ m ≤ 2 ^ 6 := Nat.pow_le_pow_right (by decide) (by omega)
          have e5 : ((2 ^ 6 : Nat) : Int) = (2 : Int) ^ 6 := by simp
          omega
        have or0 : bi32 (· ||| ·) b 0 = b := by
          have := or_0 b.toNat (by omega)
          rw [show ((b.toNat : Nat) : Int) = b by omega] at this
          exact this
        refine wp_iconst dX4_whereNow_86 (by decide) ?_
        refine wp_ior dX4_whereNow_87 ?_
        refine wp_istN (L' := [some (vr _), some (vi _), some (vi _), some (vi _), some (vi _)]) dX4_whereNow_88 (Nat.le_of_ble_eq_true rfl) rfl ?_
        refine wp_iincN (L' := [some (vr _), some (vi _), some (vi _), some (vi _), some (vi _)]) dX4_whereNow_89 rfl (by omega) rfl ?_
        refine wp_gotoN 4 dX4_whereNow_92 (by decide) ?_
        rw [or0]
        exact ih (m + 1) _ _ _ (by omega) (by show _ = wvN z m + _; rw [bi_f hh77, hb]; omega) hQ
      · refine wp_iconst dX4_whereNow_80 (by decide) ?_
        refine wp_iload_n dX4_whereNow_81 rfl ?_
        have hbi := wvN_in z m
        have e3 : ((2 ^ m : Nat) : Int) = (2 : Int) ^ m := by simp
        have orx : bi32 (· ||| ·) b (w32 (1 * 2 ^ m)) = b + 2 ^ m := by
          have := or_ad m (by omega) b.toNat (by omega)
          rw [show ((b.toNat : Nat) : Int) = b by omega] at this
          exact this
        refine wp_ishl dX4_whereNow_82 (by omega) (by omega) ?_
        refine wp_gotoN 87 dX4_whereNow_83 (by decide) ?_
        refine wp_ior dX4_whereNow_87 ?_
        refine wp_istN (L' := [some (vr _), some (vi _), some (vi _), some (vi _), some (vi _)]) dX4_whereNow_88 (Nat.le_of_ble_eq_true rfl) rfl ?_
        refine wp_iincN (L' := [some (vr _), some (vi _), some (vi _), some (vi _), some (vi _)]) dX4_whereNow_89 rfl (by omega) rfl ?_
        refine wp_gotoN 4 dX4_whereNow_92 (by decide) ?_
        rw [Int.toNat_natCast, orx]
        exact ih (m + 1) _ _ _ (by omega) (by show _ = wvN z m + _; rw [bi_t hh77, hb]; omega) hQ
set_option maxRecDepth 20000 in
theorem s4_whereNow {d : Nat} {σ : aS} {Q : aQ} {z : aZ} (hm : MI σ z) (hz : ZV z) (hQ : Q (some (vi (wv z))) σ) : aCall 34 (d + 1) mX4_whereNow [vr 18] σ Q := by
  refine cl_in (own := RX4) (cc := cX4_whereNow) (rk := 0) (L := [some (vr 18), none, none, none, none]) rfl rfl rfl rfl (by decide) (Nat.le_of_ble_eq_true rfl) ?_
  refine wp_iconst dX4_whereNow_0 (by decide) ?_
  refine wp_istN (L' := [some (vr _), some (vi _), none, none, none]) dX4_whereNow_1 (Nat.le_of_ble_eq_true rfl) rfl ?_
  refine wp_iconst dX4_whereNow_2 (by decide) ?_
  refine wp_istN (L' := [some (vr _), some (vi _), some (vi _), none, none]) dX4_whereNow_3 (Nat.le_of_ble_eq_true rfl) rfl ?_
  exact l4_wo hm hz 6 0 _ _ _ (by omega) rfl hQ
set_option maxRecDepth 20000 in
theorem p4_where {d : Nat} {σ : aS} {Q : aQ} {z : aZ} (hm : MI σ z) (hz : ZV z) (hQ : Q (some (vi (wv z))) σ) : aCall 34 (d + 2) mX4_where [vr 18] σ Q := by
  refine cl_in (own := RX4) (cc := cX4_where) (rk := 0) (L := [some (vr 18)]) rfl rfl rfl rfl (by decide) (Nat.le_of_ble_eq_true rfl) ?_
  refine wp_aload_n dX4_where_0 rfl ?_
  refine wp_V0 dX4_where_1 vlX4_188 (by decide) rfl (Nat.le_of_ble_eq_true rfl) ?_
  refine s4_whereNow hm hz ?_
  refine wp_iret dX4_where_4 (Or.inl rfl) ?_
  exact hQ
noncomputable def hgA (z : aZ) : Int := cnt (fun m => okM z m (zp z)) 6
noncomputable def hgU (z : aZ) (row : Int) : Int := cnt (fun m => okM z m (zp z) ∧ row < m) 6
noncomputable def hgB (z : aZ) (row : Int) : Int := if hgA z - hgU z row < hgU z row then hgU z row else hgA z - hgU z row
noncomputable def hgN (z : aZ) : Nat → Int × Int
  | 0 => (-1, 0)
  | k + 1 => if (hgN z k).1 = -1 ∨ hgB z k < (hgN z k).2 then ((k : Int), hgB z k) else hgN z k
noncomputable def vHang (z : aZ) : Int := (hgN z (PF z).2.1.toNat).1
theorem hgN_in (z : aZ) : ∀ k, -1 ≤ (hgN z k).1 ∧ (hgN z k).1 < k := by
  intro k
  induction k with
  | zero => show -1 ≤ (-1 : Int) ∧ (-1 : Int) < 0; omega
  | succ k ih =>
    unfold hgN
    split
    · simp only []; omega
    · omega
set_option maxRecDepth 20000 in
theorem l4_hi {d : Nat} {z : aZ} {σ : aS} {Q : aQ} {b2 b3 row : Int} {w8 : Option aV} : ∀ (r : Nat) (m : Nat) (u a : Int), m + r = 6 → u = cnt (fun m => okM z m (zp z) ∧ row < m) m → a = cnt (fun m => okM z m (zp z)) m → Wp RX4 cX4_hangNow 34 (aCall 34 (d + 1)) Q 0 false 0 (fun _ => 0) 92 [some (vr 18), some (vi (wv z)), some (vi b2), some (vi b3), some (vi row), some (vi (hgU z row)), some (vi (hgA z)), some (vi ((6 : Nat) : Int)), w8] [] σ → Wp RX4 cX4_hangNow 34 (aCall 34 (d + 1)) Q 0 false 0 (fun _ => 0) 34 [some (vr 18), some (vi (wv z)), some (vi b2), some (vi b3), some (vi row), some (vi u), some (vi a), some (vi m), w8] [] σ := by
  intro r
  induction r with
  | zero =>
    intro m u a hk hu ha hK
    refine wp_iload dX4_hangNow_34 rfl ?_
    refine wp_bipush dX4_hangNow_36 (by decide) ?_
    refine wp_ic_ge 92 dX4_hangNow_38 (by decide) (fun hh38 => ?_) (fun hh38 => ?_)
    · have e : m = 6 := by omega
      subst e
      rw [hu, ha]
      exact hK
    · exact absurd hk (by omega)
  | succ r ih =>
    intro m u a hk hu ha hK
    have hca := cnt_in (fun m => okM z m (zp z)) m
    have hcu := cnt_in (fun m => okM z m (zp z) ∧ row < m) m
    refine wp_iload dX4_hangNow_34 rfl ?_
    refine wp_bipush dX4_hangNow_36 (by decide) ?_
    refine wp_ic_ge 92 dX4_hangNow_38 (by decide) (fun hh38 => ?_) (fun hh38 => ?_)
    · exact absurd hk (by omega)
    · refine wp_iload dX4_hangNow_41 rfl ?_
      refine wp_iload_n dX4_hangNow_43 rfl ?_
      refine wp_iload dX4_hangNow_44 rfl ?_
      refine wp_S2 dX4_hangNow_46 zlX4_163 (Nat.le_of_ble_eq_true rfl) ?_
      refine s4_isIn (by omega) (by omega) ?_
      refine wp_ifB_eq 56 dX4_hangNow_49 (by decide) (fun hh49 => ?_) (fun hh49 => ?_)
      · refine wp_iconst dX4_hangNow_56 (by decide) ?_
        refine wp_iaddN dX4_hangNow_57 (by omega) ?_
        refine wp_ist (L' := [some (vr _), some (vi _), some (vi _), some (vi _), some (vi _), some (vi _), some (vi _), some (vi _), _]) dX4_hangNow_58 (Nat.le_of_ble_eq_true rfl) rfl ?_
        refine wp_iload dX4_hangNow_60 rfl ?_
        refine wp_iload_n dX4_hangNow_62 rfl ?_
        refine wp_iload dX4_hangNow_63 rfl ?_
        refine wp_S2 dX4_hangNow_65 zlX4_163 (Nat.le_of_ble_eq_true rfl) ?_
        refine s4_isIn (by omega) (by omega) ?_
        refine wp_ifB_eq 82 dX4_hangNow_68 (by decide) (fun hh68 => ?_) (fun hh68 => ?_)
        · refine wp_iconst dX4_hangNow_82 (by decide) ?_
          refine wp_iaddN dX4_hangNow_83 (by omega) ?_
          refine wp_ist (L' := [some (vr _), some (vi _), some (vi _), some (vi _), some (vi _), some (vi _), some (vi _), some (vi _), _]) dX4_hangNow_84 (Nat.le_of_ble_eq_true rfl) rfl ?_
          refine wp_iincN (L' := [some (vr _), some (vi _), some (vi _), some (vi _), some (vi _), some (vi _), some (vi _), some (vi _), _]) dX4_hangNow_86 rfl (by omega) rfl ?_
          refine wp_gotoN 34 dX4_hangNow_89 (by decide) ?_
          exact ih (m + 1) _ _ (by omega) (by rw [cnt_f (p := (fun m => okM z m (zp z) ∧ row < m)) (fun q => hh68 ((isB_wv z (by omega)).mpr q.1))]; omega) (by rw [cnt_f (p := (fun m => okM z m (zp z))) (fun q => hh49 ((isB_wv z (by omega)).mpr q))]; omega) hK
        · refine wp_iload dX4_hangNow_71 rfl ?_
          refine wp_iload dX4_hangNow_73 rfl ?_
          refine wp_ic_ge 82 dX4_hangNow_75 (by decide) (fun hh75 => ?_) (fun hh75 => ?_)
          · refine wp_iconst dX4_hangNow_82 (by decide) ?_
            refine wp_iaddN dX4_hangNow_83 (by omega) ?_
            refine wp_ist (L' := [some (vr _), some (vi _), some (vi _), some (vi _), some (vi _), some (vi _), some (vi _), some (vi _), _]) dX4_hangNow_84 (Nat.le_of_ble_eq_true rfl) rfl ?_
            refine wp_iincN (L' := [some (vr _), some (vi _), some (vi _), some (vi _), some (vi _), some (vi _), some (vi _), some (vi _), _]) dX4_hangNow_86 rfl (by omega) rfl ?_
            refine wp_gotoN 34 dX4_hangNow_89 (by decide) ?_
            exact ih (m + 1) _ _ (by omega) (by rw [cnt_f (p := (fun m => okM z m (zp z) ∧ row < m)) (fun q => by have := q.2; omega)]; omega) (by rw [cnt_f (p := (fun m => okM z m (zp z))) (fun q => hh49 ((isB_wv z (by omega)).mpr q))]; omega) hK
          · refine wp_iconst dX4_hangNow_78 (by decide) ?_
            refine wp_gotoN 83 dX4_hangNow_79 (by decide) ?_
            refine wp_iaddN dX4_hangNow_83 (by omega) ?_
            refine wp_ist (L' := [some (vr _), some (vi _), some (vi _), some (vi _), some (vi _), some (vi _), some (vi _), some (vi _), _]) dX4_hangNow_84 (Nat.le_of_ble_eq_true rfl) rfl ?_
            refine wp_iincN (L' := [some (vr _), some (vi _), some (vi _), some (vi _), some (vi _), some (vi _), some (vi _), some (vi _), _]) dX4_hangNow_86 rfl (by omega) rfl ?_
            refine wp_gotoN 34 dX4_hangNow_89 (by decide) ?_
            exact ih (m + 1) _ _ (by omega) (by rw [cnt_t (p := (fun m => okM z m (zp z) ∧ row < m)) ⟨(isB_wv z (by omega)).mp hh68, by omega⟩]; omega) (by rw [cnt_f (p := (fun m => okM z m (zp z))) (fun q => hh49 ((isB_wv z (by omega)).mpr q))]; omega) hK
      · refine wp_iconst dX4_hangNow_52 (by decide) ?_
        refine wp_gotoN 57 dX4_hangNow_53 (by decide) ?_
        refine wp_iaddN dX4_hangNow_57 (by omega) ?_
        refine wp_ist (L' := [some (vr _), some (vi _), some (vi _), some (vi _), some (vi _), some (vi _), some (vi _), some (vi _), _]) dX4_hangNow_58 (Nat.le_of_ble_eq_true rfl) rfl ?_
        refine wp_iload dX4_hangNow_60 rfl ?_
        refine wp_iload_n dX4_hangNow_62 rfl ?_
        refine wp_iload dX4_hangNow_63 rfl ?_
        refine wp_S2 dX4_hangNow_65 zlX4_163 (Nat.le_of_ble_eq_true rfl) ?_
        refine s4_isIn (by omega) (by omega) ?_
        refine wp_ifB_eq 82 dX4_hangNow_68 (by decide) (fun hh68 => ?_) (fun hh68 => ?_)
        · refine wp_iconst dX4_hangNow_82 (by decide) ?_
          refine wp_iaddN dX4_hangNow_83 (by omega) ?_
          refine wp_ist (L' := [some (vr _), some (vi _), some (vi _), some (vi _), some (vi _), some (vi _), some (vi _), some (vi _), _]) dX4_hangNow_84 (Nat.le_of_ble_eq_true rfl) rfl ?_
          refine wp_iincN (L' := [some (vr _), some (vi _), some (vi _), some (vi _), some (vi _), some (vi _), some (vi _), some (vi _), _]) dX4_hangNow_86 rfl (by omega) rfl ?_
          refine wp_gotoN 34 dX4_hangNow_89 (by decide) ?_
          exact ih (m + 1) _ _ (by omega) (by rw [cnt_f (p := (fun m => okM z m (zp z) ∧ row < m)) (fun q => hh68 ((isB_wv z (by omega)).mpr q.1))]; omega) (by rw [cnt_t (p := (fun m => okM z m (zp z))) ((isB_wv z (by omega)).mp hh49)]; omega) hK
        · refine wp_iload dX4_hangNow_71 rfl ?_
          refine wp_iload dX4_hangNow_73 rfl ?_
          refine wp_ic_ge 82 dX4_hangNow_75 (by decide) (fun hh75 => ?_) (fun hh75 => ?_)
          · refine wp_iconst dX4_hangNow_82 (by decide) ?_
            refine wp_iaddN dX4_hangNow_83 (by omega) ?_
            refine wp_ist (L' := [some (vr _), some (vi _), some (vi _), some (vi _), some (vi _), some (vi _), some (vi _), some (vi _), _]) dX4_hangNow_84 (Nat.le_of_ble_eq_true rfl) rfl ?_
            refine wp_iincN (L' := [some (vr _), some (vi _), some (vi _), some (vi _), some (vi _), some (vi _), some (vi _), some (vi _), _]) dX4_hangNow_86 rfl (by omega) rfl ?_
            refine wp_gotoN 34 dX4_hangNow_89 (by decide) ?_
            exact ih (m + 1) _ _ (by omega) (by rw [cnt_f (p := (fun m => okM z m (zp z) ∧ row < m)) (fun q => by have := q.2; omega)]; omega) (by rw [cnt_t (p := (fun m => okM z m (zp z))) ((isB_wv z (by omega)).mp hh49)]; omega) hK
          · refine wp_iconst dX4_hangNow_78 (by decide) ?_
            refine wp_gotoN 83 dX4_hangNow_79 (by decide) ?_
            refine wp_iaddN dX4_hangNow_83 (by omega) ?_
            refine wp_ist (L' := [some (vr _), some (vi _), some (vi _), some (vi _), some (vi _), some (vi _), some (vi _), some (vi _), _]) dX4_hangNow_84 (Nat.le_of_ble_eq_true rfl) rfl ?_
            refine wp_iincN (L' := [some (vr _), some (vi _), some (vi _), some (vi _), some (vi _), some (vi _), some (vi _), some (vi _), _]) dX4_hangNow_86 rfl (by omega) rfl ?_
            refine wp_gotoN 34 dX4_hangNow_89 (by decide) ?_
            exact ih (m + 1) _ _ (by omega) (by rw [cnt_t (p := (fun m => okM z m (zp z) ∧ row < m)) ⟨(isB_wv z (by omega)).mp hh68, by omega⟩]; omega) (by rw [cnt_t (p := (fun m => okM z m (zp z))) ((isB_wv z (by omega)).mp hh49)]; omega) hK
set_option maxRecDepth 20000 in
theorem l4_ho {d : Nat} {z : aZ} {σ : aS} {Q : aQ} (hr : Rd σ z) : ∀ (r : Nat) (k : Nat) (b2 b3 : Int) (u5 u6 u7 u8 : Option aV), k + r = (PF z).2.1.toNat → b2 = (hgN z k).1 → b3 = (hgN z k).2 → Q (some (vi (vHang z))) σ → Wp RX4 cX4_hangNow 34 (aCall 34 (d + 1)) Q 0 false 0 (fun _ => 0) 16 [some (vr 18), some (vi (wv z)), some (vi b2), some (vi b3), some (vi k), u5, u6, u7, u8] [] σ := by
  intro r
  induction r with
  | zero =>
    intro k b2 b3 u5 u6 u7 u8 hk h2 h3 hQ
    have hrw := hr.2.2.2
    have hpo := (PF_ok z).2.1
    have hin := hgN_in z k
    refine wp_iload dX4_hangNow_16 rfl ?_
    refine wp_aload_n dX4_hangNow_18 rfl ?_
    refine wp_getI dX4_hangNow_19 flX4_75 (by decide) rfl (Or.inl rfl) ?_
    refine wp_ic_ge 162 dX4_hangNow_22 (by decide) (fun hh22 => ?_) (fun hh22 => ?_)
    · refine wp_iload_n dX4_hangNow_162 rfl ?_
      refine wp_iret dX4_hangNow_163 (Or.inl rfl) ?_
      have e : k = (PF z).2.1.toNat := by omega
      subst e
      rw [h2]
      exact hQ
    · exact absurd hk (by omega)
  | succ r ih =>
    intro k b2 b3 u5 u6 u7 u8 hk h2 h3 hQ
    have hrw := hr.2.2.2
    have hpo := (PF_ok z).2.1
    have hin := hgN_in z k
    refine wp_iload dX4_hangNow_16 rfl ?_
    refine wp_aload_n dX4_hangNow_18 rfl ?_
    refine wp_getI dX4_hangNow_19 flX4_75 (by decide) rfl (Or.inl rfl) ?_
    refine wp_ic_ge 162 dX4_hangNow_22 (by decide) (fun hh22 => ?_) (fun hh22 => ?_)
    · exact absurd hk (by omega)
    · refine wp_iconst dX4_hangNow_25 (by decide) ?_
      refine wp_ist (L' := [some (vr _), some (vi _), some (vi _), some (vi _), some (vi _), some (vi _), _, _, _]) dX4_hangNow_26 (Nat.le_of_ble_eq_true rfl) rfl ?_
      refine wp_iconst dX4_hangNow_28 (by decide) ?_
      refine wp_ist (L' := [some (vr _), some (vi _), some (vi _), some (vi _), some (vi _), some (vi _), some (vi _), _, _]) dX4_hangNow_29 (Nat.le_of_ble_eq_true rfl) rfl ?_
      refine wp_iconst dX4_hangNow_31 (by decide) ?_
      refine wp_ist (L' := [some (vr _), some (vi _), some (vi _), some (vi _), some (vi _), some (vi _), some (vi _), some (vi _), _]) dX4_hangNow_32 (Nat.le_of_ble_eq_true rfl) rfl ?_
      have hca := cnt_in (fun m => okM z m (zp z)) 6
      have hcu := cnt_in (fun m => okM z m (zp z) ∧ (k : Int) < m) 6
      have hca : 0 ≤ hgA z ∧ hgA z ≤ 6 := hca
      have hcu : 0 ≤ hgU z k ∧ hgU z k ≤ 6 := hcu
      refine l4_hi 6 0 _ _ (by omega) rfl rfl ?_
      refine wp_iload dX4_hangNow_92 rfl ?_
      refine wp_iload dX4_hangNow_94 rfl ?_
      refine wp_iload dX4_hangNow_96 rfl ?_
      refine wp_isubN dX4_hangNow_98 (by omega) ?_
      refine wp_ic_le 107 dX4_hangNow_99 (by decide) (fun hh99 => ?_) (fun hh99 => ?_)
      · refine wp_iload dX4_hangNow_107 rfl ?_
        refine wp_iload dX4_hangNow_109 rfl ?_
        refine wp_isubN dX4_hangNow_111 (by omega) ?_
        refine wp_ist (L' := [some (vr _), some (vi _), some (vi _), some (vi _), some (vi _), some (vi _), some (vi _), some (vi _), _]) dX4_hangNow_112 (Nat.le_of_ble_eq_true rfl) rfl ?_
        refine wp_iload_n dX4_hangNow_114 rfl ?_
        refine wp_iconst dX4_hangNow_115 (by decide) ?_
        refine wp_ic_eq 125 dX4_hangNow_116 (by decide) (fun hh116 => ?_) (fun hh116 => ?_)
        · refine wp_iconst dX4_hangNow_125 (by decide) ?_
          refine wp_gotoN 130 dX4_hangNow_126 (by decide) ?_
          refine wp_ist (L' := [some (vr _), some (vi _), some (vi _), some (vi _), some (vi _), some (vi _), some (vi _), some (vi _), some (vi _)]) dX4_hangNow_130 (Nat.le_of_ble_eq_true rfl) rfl ?_
          refine wp_iload dX4_hangNow_132 rfl ?_
          refine wp_if_eq 142 dX4_hangNow_134 (by decide) (fun hh134 => ?_) (fun hh134 => ?_)
          · exact absurd hh134 (by decide)
          · refine wp_iload dX4_hangNow_137 rfl ?_
            refine wp_gotoN 143 dX4_hangNow_139 (by decide) ?_
            refine wp_istN (L' := [some (vr _), some (vi _), some (vi _), some (vi _), some (vi _), some (vi _), some (vi _), some (vi _), some (vi _)]) dX4_hangNow_143 (Nat.le_of_ble_eq_true rfl) rfl ?_
            refine wp_iload dX4_hangNow_144 rfl ?_
            refine wp_if_eq 154 dX4_hangNow_146 (by decide) (fun hh146 => ?_) (fun hh146 => ?_)
            · exact absurd hh146 (by decide)
            · refine wp_iload dX4_hangNow_149 rfl ?_
              refine wp_gotoN 155 dX4_hangNow_151 (by decide) ?_
              refine wp_istN (L' := [some (vr _), some (vi _), some (vi _), some (vi _), some (vi _), some (vi _), some (vi _), some (vi _), some (vi _)]) dX4_hangNow_155 (Nat.le_of_ble_eq_true rfl) rfl ?_
              refine wp_iincN (L' := [some (vr _), some (vi _), some (vi _), some (vi _), some (vi _), some (vi _), some (vi _), some (vi _), some (vi _)]) dX4_hangNow_156 rfl (by omega) rfl ?_
              refine wp_gotoN 16 dX4_hangNow_159 (by decide) ?_
              have eb : hgB z k = hgA z - hgU z k := by unfold hgB; rw [if_neg (by omega)]
              have e2 : hgN z (k + 1) = ((k : Int), hgB z k) := by show (if _ then _ else _) = _; rw [if_pos (by omega)]
              exact ih (k + 1) _ _ _ _ _ _ (by omega) (by rw [e2]) (by rw [e2, eb]) hQ
        · refine wp_iload dX4_hangNow_119 rfl ?_
          refine wp_iload_n dX4_hangNow_121 rfl ?_
          refine wp_ic_ge 129 dX4_hangNow_122 (by decide) (fun hh122 => ?_) (fun hh122 => ?_)
          · refine wp_iconst dX4_hangNow_129 (by decide) ?_
            refine wp_ist (L' := [some (vr _), some (vi _), some (vi _), some (vi _), some (vi _), some (vi _), some (vi _), some (vi _), some (vi _)]) dX4_hangNow_130 (Nat.le_of_ble_eq_true rfl) rfl ?_
            refine wp_iload dX4_hangNow_132 rfl ?_
            refine wp_if_eq 142 dX4_hangNow_134 (by decide) (fun hh134 => ?_) (fun hh134 => ?_)
            · refine wp_iload_n dX4_hangNow_142 rfl ?_
              refine wp_istN (L' := [some (vr _), some (vi _), some (vi _), some (vi _), some (vi _), some (vi _), some (vi _), some (vi _), some (vi _)]) dX4_hangNow_143 (Nat.le_of_ble_eq_true rfl) rfl ?_
              refine wp_iload dX4_hangNow_144 rfl ?_
              refine wp_if_eq 154 dX4_hangNow_146 (by decide) (fun hh146 => ?_) (fun hh146 => ?_)
              · refine wp_iload_n dX4_hangNow_154 rfl ?_
                refine wp_istN (L' := [some (vr _), some (vi _), some (vi _), some (vi _), some (vi _), some (vi _), some (vi _), some (vi _), some (vi _)]) dX4_hangNow_155 (Nat.le_of_ble_eq_true rfl) rfl ?_
                refine wp_iincN (L' := [some (vr _), some (vi _), some (vi _), some (vi _), some (vi _), some (vi _), some (vi _), some (vi _), some (vi _)]) dX4_hangNow_156 rfl (by omega) rfl ?_
                refine wp_gotoN 16 dX4_hangNow_159 (by decide) ?_
                have eb : hgB z k = hgA z - hgU z k := by unfold hgB; rw [if_neg (by omega)]
                have e2 : hgN z (k + 1) = hgN z k := by show (if _ then _ else _) = _; rw [if_neg (by omega)]
                exact ih (k + 1) _ _ _ _ _ _ (by omega) (by rw [e2]; exact h2) (by rw [e2]; exact h3) hQ
              · exact absurd hh146 (by decide)
            · exact absurd hh134 (by decide)
          · refine wp_iconst dX4_hangNow_125 (by decide) ?_
            refine wp_gotoN 130 dX4_hangNow_126 (by decide) ?_
            refine wp_ist (L' := [some (vr _), some (vi _), some (vi _), some (vi _), some (vi _), some (vi _), some (vi _), some (vi _), some (vi _)]) dX4_hangNow_130 (Nat.le_of_ble_eq_true rfl) rfl ?_
            refine wp_iload dX4_hangNow_132 rfl ?_
            refine wp_if_eq 142 dX4_hangNow_134 (by decide) (fun hh134 => ?_) (fun hh134 => ?_)
            · exact absurd hh134 (by decide)
            · refine wp_iload dX4_hangNow_137 rfl ?_
              refine wp_gotoN 143 dX4_hangNow_139 (by decide) ?_
              refine wp_istN (L' := [some (vr _), some (vi _), some (vi _), some (vi _), some (vi _), some (vi _), some (vi _), some (vi _), some (vi _)]) dX4_hangNow_143 (Nat.le_of_ble_eq_true rfl) rfl ?_
              refine wp_iload dX4_hangNow_144 rfl ?_
              refine wp_if_eq 154 dX4_hangNow_146 (by decide) (fun hh146 => ?_) (fun hh146 => ?_)
              · exact absurd hh146 (by decide)
              · refine wp_iload dX4_hangNow_149 rfl ?_
                refine wp_gotoN 155 dX4_hangNow_151 (by decide) ?_
                refine wp_istN (L' := [some (vr _), some (vi _), some (vi _), some (vi _), some (vi _), some (vi _), some (vi _), some (vi _), some (vi _)]) dX4_hangNow_155 (Nat.le_of_ble_eq_true rfl) rfl ?_
                refine wp_iincN (L' := [some (vr _), some (vi _), some (vi _), some (vi _), some (vi _), some (vi _), some (vi _), some (vi _), some (vi _)]) dX4_hangNow_156 rfl (by omega) rfl ?_
                refine wp_gotoN 16 dX4_hangNow_159 (by decide) ?_
                have eb : hgB z k = hgA z - hgU z k := by unfold hgB; rw [if_neg (by omega)]
                have e2 : hgN z (k + 1) = ((k : Int), hgB z k) := by show (if _ then _ else _) = _; rw [if_pos (by omega)]
                exact ih (k + 1) _ _ _ _ _ _ (by omega) (by rw [e2]) (by rw [e2, eb]) hQ
      · refine wp_iload dX4_hangNow_102 rfl ?_
        refine wp_gotoN 112 dX4_hangNow_104 (by decide) ?_
        refine wp_ist (L' := [some (vr _), some (vi _), some (vi _), some (vi _), some (vi _), some (vi _), some (vi _), some (vi _), _]) dX4_hangNow_112 (Nat.le_of_ble_eq_true rfl) rfl ?_
        refine wp_iload_n dX4_hangNow_114 rfl ?_
        refine wp_iconst dX4_hangNow_115 (by decide) ?_
        refine wp_ic_eq 125 dX4_hangNow_116 (by decide) (fun hh116 => ?_) (fun hh116 => ?_)
        · refine wp_iconst dX4_hangNow_125 (by decide) ?_
          refine wp_gotoN 130 dX4_hangNow_126 (by decide) ?_
          refine wp_ist (L' := [some (vr _), some (vi _), some (vi _), some (vi _), some (vi _), some (vi _), some (vi _), some (vi _), some (vi _)]) dX4_hangNow_130 (Nat.le_of_ble_eq_true rfl) rfl ?_
          refine wp_iload dX4_hangNow_132 rfl ?_
          refine wp_if_eq 142 dX4_hangNow_134 (by decide) (fun hh134 => ?_) (fun hh134 => ?_)
          · exact absurd hh134 (by decide)
          · refine wp_iload dX4_hangNow_137 rfl ?_
            refine wp_gotoN 143 dX4_hangNow_139 (by decide) ?_
            refine wp_istN (L' := [some (vr _), some (vi _), some (vi _), some (vi _), some (vi _), some (vi _), some (vi _), some (vi _), some (vi _)]) dX4_hangNow_143 (Nat.le_of_ble_eq_true rfl) rfl ?_
            refine wp_iload dX4_hangNow_144 rfl ?_
            refine wp_if_eq 154 dX4_hangNow_146 (by decide) (fun hh146 => ?_) (fun hh146 => ?_)
            · exact absurd hh146 (by decide)
            · refine wp_iload dX4_hangNow_149 rfl ?_
              refine wp_gotoN 155 dX4_hangNow_151 (by decide) ?_
              refine wp_istN (L' := [some (vr _), some (vi _), some (vi _), some (vi _), some (vi _), some (vi _), some (vi _), some (vi _), some (vi _)]) dX4_hangNow_155 (Nat.le_of_ble_eq_true rfl) rfl ?_
              refine wp_iincN (L' := [some (vr _), some (vi _), some (vi _), some (vi _), some (vi _), some (vi _), some (vi _), some (vi _), some (vi _)]) dX4_hangNow_156 rfl (by omega) rfl ?_
              refine wp_gotoN 16 dX4_hangNow_159 (by decide) ?_
              have eb : hgB z k = hgU z k := by unfold hgB; rw [if_pos (by omega)]
              have e2 : hgN z (k + 1) = ((k : Int), hgB z k) := by show (if _ then _ else _) = _; rw [if_pos (by omega)]
              exact ih (k + 1) _ _ _ _ _ _ (by omega) (by rw [e2]) (by rw [e2, eb]) hQ
        · refine wp_iload dX4_hangNow_119 rfl ?_
          refine wp_iload_n dX4_hangNow_121 rfl ?_
          refine wp_ic_ge 129 dX4_hangNow_122 (by decide) (fun hh122 => ?_) (fun hh122 => ?_)
          · refine wp_iconst dX4_hangNow_129 (by decide) ?_
            refine wp_ist (L' := [some (vr _), some (vi _), some (vi _), some (vi _), some (vi _), some (vi _), some (vi _), some (vi _), some (vi _)]) dX4_hangNow_130 (Nat.le_of_ble_eq_true rfl) rfl ?_
            refine wp_iload dX4_hangNow_132 rfl ?_
            refine wp_if_eq 142 dX4_hangNow_134 (by decide) (fun hh134 => ?_) (fun hh134 => ?_)
            · refine wp_iload_n dX4_hangNow_142 rfl ?_
              refine wp_istN (L' := [some (vr _), some (vi _), some (vi _), some (vi _), some (vi _), some (vi _), some (vi _), some (vi _), some (vi _)]) dX4_hangNow_143 (Nat.le_of_ble_eq_true rfl) rfl ?_
              refine wp_iload dX4_hangNow_144 rfl ?_
              refine wp_if_eq 154 dX4_hangNow_146 (by decide) (fun hh146 => ?_) (fun hh146 => ?_)
              · refine wp_iload_n dX4_hangNow_154 rfl ?_
                refine wp_istN (L' := [some (vr _), some (vi _), some (vi _), some (vi _), some (vi _), some (vi _), some (vi _), some (vi _), some (vi _)]) dX4_hangNow_155 (Nat.le_of_ble_eq_true rfl) rfl ?_
                refine wp_iincN (L' := [some (vr _), some (vi _), some (vi _), some (vi _), some (vi _), some (vi _), some (vi _), some (vi _), some (vi _)]) dX4_hangNow_156 rfl (by omega) rfl ?_
                refine wp_gotoN 16 dX4_hangNow_159 (by decide) ?_
                have eb : hgB z k = hgU z k := by unfold hgB; rw [if_pos (by omega)]
                have e2 : hgN z (k + 1) = hgN z k := by show (if _ then _ else _) = _; rw [if_neg (by omega)]
                exact ih (k + 1) _ _ _ _ _ _ (by omega) (by rw [e2]; exact h2) (by rw [e2]; exact h3) hQ
              · exact absurd hh146 (by decide)
            · exact absurd hh134 (by decide)
          · refine wp_iconst dX4_hangNow_125 (by decide) ?_
            refine wp_gotoN 130 dX4_hangNow_126 (by decide) ?_
            refine wp_ist (L' := [some (vr _), some (vi _), some (vi _), some (vi _), some (vi _), some (vi _), some (vi _), some (vi _), some (vi _)]) dX4_hangNow_130 (Nat.le_of_ble_eq_true rfl) rfl ?_
            refine wp_iload dX4_hangNow_132 rfl ?_
            refine wp_if_eq 142 dX4_hangNow_134 (by decide) (fun hh134 => ?_) (fun hh134 => ?_)
            · exact absurd hh134 (by decide)
            · refine wp_iload dX4_hangNow_137 rfl ?_
              refine wp_gotoN 143 dX4_hangNow_139 (by decide) ?_
              refine wp_istN (L' := [some (vr _), some (vi _), some (vi _), some (vi _), some (vi _), some (vi _), some (vi _), some (vi _), some (vi _)]) dX4_hangNow_143 (Nat.le_of_ble_eq_true rfl) rfl ?_
              refine wp_iload dX4_hangNow_144 rfl ?_
              refine wp_if_eq 154 dX4_hangNow_146 (by decide) (fun hh146 => ?_) (fun hh146 => ?_)
              · exact absurd hh146 (by decide)
              · refine wp_iload dX4_hangNow_149 rfl ?_
                refine wp_gotoN 155 dX4_hangNow_151 (by decide) ?_
                refine wp_istN (L' := [some (vr _), some (vi _), some (vi _), some (vi _), some (vi _), some (vi _), some (vi _), some (vi _), some (vi _)]) dX4_hangNow_155 (Nat.le_of_ble_eq_true rfl) rfl ?_
                refine wp_iincN (L' := [some (vr _), some (vi _), some (vi _), some (vi _), some (vi _), some (vi _), some (vi _), some (vi _), some (vi _)]) dX4_hangNow_156 rfl (by omega) rfl ?_
                refine wp_gotoN 16 dX4_hangNow_159 (by decide) ?_
                have eb : hgB z k = hgU z k := by unfold hgB; rw [if_pos (by omega)]
                have e2 : hgN z (k + 1) = ((k : Int), hgB z k) := by show (if _ then _ else _) = _; rw [if_pos (by omega)]
                exact ih (k + 1) _ _ _ _ _ _ (by omega) (by rw [e2]) (by rw [e2, eb]) hQ
set_option maxRecDepth 20000 in
theorem s4_hangNow {d : Nat} {σ : aS} {Q : aQ} {z : aZ} (hm : MI σ z) (hz : ZV z) (hQ : ∀ σ', Frm σ σ' → MI σ' z → Q (some (vi (vHang z))) σ') : aCall 34 (d + 4) mX4_hangNow [vr 18] σ Q := by
  refine cl_in (own := RX4) (cc := cX4_hangNow) (rk := 0) (L := [some (vr 18), none, none, none, none, none, none, none, none]) rfl rfl rfl rfl (by decide) (Nat.le_of_ble_eq_true rfl) ?_
  refine wp_aload_n dX4_hangNow_0 rfl ?_
  refine wp_V0 dX4_hangNow_1 vlX4_89 (by decide) rfl (Nat.le_of_ble_eq_true rfl) ?_
  refine s4_reads hm hz (fun σ' hf hr => ?_)
  refine wp_aload_n dX4_hangNow_4 rfl ?_
  refine wp_V0 dX4_hangNow_5 vlX4_188 (by decide) rfl (Nat.le_of_ble_eq_true rfl) ?_
  refine s4_whereNow hr.1 hz ?_
  refine wp_istN (L' := [some (vr _), some (vi _), none, none, none, none, none, none, none]) dX4_hangNow_8 (Nat.le_of_ble_eq_true rfl) rfl ?_
  refine wp_iconst dX4_hangNow_9 (by decide) ?_
  refine wp_istN (L' := [some (vr _), some (vi _), some (vi _), none, none, none, none, none, none]) dX4_hangNow_10 (Nat.le_of_ble_eq_true rfl) rfl ?_
  refine wp_iconst dX4_hangNow_11 (by decide) ?_
  refine wp_istN (L' := [some (vr _), some (vi _), some (vi _), some (vi _), none, none, none, none, none]) dX4_hangNow_12 (Nat.le_of_ble_eq_true rfl) rfl ?_
  refine wp_iconst dX4_hangNow_13 (by decide) ?_
  refine wp_ist (L' := [some (vr _), some (vi _), some (vi _), some (vi _), some (vi _), none, none, none, none]) dX4_hangNow_14 (Nat.le_of_ble_eq_true rfl) rfl ?_
  exact l4_ho hr (PF z).2.1.toNat 0 _ _ _ _ _ _ (by omega) rfl rfl (hQ σ' hf hr.1)
set_option maxRecDepth 20000 in
theorem p4_hang {d : Nat} {σ : aS} {Q : aQ} {z : aZ} (hm : MI σ z) (hz : ZV z) (hQ : ∀ σ', Frm σ σ' → MI σ' z → Q (some (vi (vHang z))) σ') : aCall 34 (d + 5) mX4_hang [vr 18] σ Q := by
  refine cl_in (own := RX4) (cc := cX4_hang) (rk := 0) (L := [some (vr 18)]) rfl rfl rfl rfl (by decide) (Nat.le_of_ble_eq_true rfl) ?_
  refine wp_aload_n dX4_hang_0 rfl ?_
  refine wp_V0 dX4_hang_1 vlX4_191 (by decide) rfl (Nat.le_of_ble_eq_true rfl) ?_
  refine s4_hangNow hm hz (fun σ' hf hm => ?_)
  refine wp_iret dX4_hang_4 (Or.inl rfl) ?_
  exact hQ σ' hf hm
def frP (g : aG) (c s : Int) (k : Nat) : Prop := opn g k ∧ fallN g (min s.toNat 6) k = c
noncomputable def frF (g : aG) (c s i : Int) : Nat → Int
  | 0 => -1
  | k + 1 => cif (frP g c s k ∧ cnt (frP g c s) k = i) (k : Int) (frF g c s i k)
noncomputable def frv (g : aG) (c s i : Int) : Int := if i = -1 then cnt (frP g c s) (ggn g).toNat else frF g c s i (ggn g).toNat
noncomputable def vFrom (z : aZ) (c s i : Int) : Int := if (0 ≤ c ∧ c ≤ ggn (Gz z) - 1) ∧ (0 ≤ s ∧ s ≤ 9) ∧ (-1 ≤ i ∧ i ≤ 34) then frv (Gz z) c s i else -2
set_option maxRecDepth 20000 in
theorem l4_from {d : Nat} {σ : aS} {Q : aQ} {c s i : Int} (hg : GV (gOf σ)) (hs : 0 ≤ s) : ∀ (r : Nat) (k : Nat) (x f : Int) (u : Option aV), k + r = (ggn (gOf σ)).toNat → x = cnt (frP (gOf σ) c s) k → f = frF (gOf σ) c s i k → Q (some (vi (frv (gOf σ) c s i))) σ → Wp RX4 cX4_fromOf 34 (aCall 34 (d + 4)) Q 0 false 0 (fun _ => 0) 9 [some (vr 18), some (vi c), some (vi s), some (vi i), some (vi x), some (vi f), some (vi k), u] [] σ := by
  intro r
  induction r with
  | zero =>
    intro k x f u hk hx hf hQ
    have hn := GVn hg
    have hnn : ggn (gOf σ) = σ.1 18 4 := rfl
    refine wp_iload dX4_fromOf_9 rfl ?_
    refine wp_aload_n dX4_fromOf_11 rfl ?_
    refine wp_getI dX4_fromOf_12 flX4_72 (by decide) rfl (Or.inl rfl) ?_
    refine wp_ic_ge 86 dX4_fromOf_15 (by decide) (fun hh15 => ?_) (fun hh15 => ?_)
    · refine wp_iload_n dX4_fromOf_86 rfl ?_
      refine wp_iconst dX4_fromOf_87 (by decide) ?_
      refine wp_ic_ne 96 dX4_fromOf_88 (by decide) (fun hh88 => ?_) (fun hh88 => ?_)
      · refine wp_iload dX4_fromOf_96 rfl ?_
        refine wp_iret dX4_fromOf_98 (Or.inl rfl) ?_
        have e : k = (ggn (gOf σ)).toNat := by omega
        subst e
        first
        | exact q_i (by unfold frv; rw [if_pos (by omega)]; exact hx) hQ
        | exact q_i (by unfold frv; rw [if_neg (by omega)]; exact hf) hQ
      · refine wp_iload dX4_fromOf_91 rfl ?_
        refine wp_gotoN 98 dX4_fromOf_93 (by decide) ?_
        refine wp_iret dX4_fromOf_98 (Or.inl rfl) ?_
        have e : k = (ggn (gOf σ)).toNat := by omega
        subst e
        first
        | exact q_i (by unfold frv; rw [if_pos (by omega)]; exact hx) hQ
        | exact q_i (by unfold frv; rw [if_neg (by omega)]; exact hf) hQ
    · exact absurd hk (by omega)
  | succ r ih =>
    intro k x f u hk hx hf hQ
    have hn := GVn hg
    have hnn : ggn (gOf σ) = σ.1 18 4 := rfl
    have hci := cnt_in (frP (gOf σ) c s) k
    refine wp_iload dX4_fromOf_9 rfl ?_
    refine wp_aload_n dX4_fromOf_11 rfl ?_
    refine wp_getI dX4_fromOf_12 flX4_72 (by decide) rfl (Or.inl rfl) ?_
    refine wp_ic_ge 86 dX4_fromOf_15 (by decide) (fun hh15 => ?_) (fun hh15 => ?_)
    · exact absurd hk (by omega)
    · refine wp_aload_n dX4_fromOf_18 rfl ?_
      refine wp_iload dX4_fromOf_19 rfl ?_
      refine wp_V1 dX4_fromOf_21 vlX4_99 (by decide) rfl (Nat.le_of_ble_eq_true rfl) ?_
      refine s4_isOpen hg ?_
      refine wp_ifB_eq 42 dX4_fromOf_24 (by decide) (fun hh24 => ?_) (fun hh24 => ?_)
      · refine wp_iconst dX4_fromOf_42 (by decide) ?_
        refine wp_ist (L' := [some (vr _), some (vi _), some (vi _), some (vi _), some (vi _), some (vi _), some (vi _), some (vi _)]) dX4_fromOf_43 (Nat.le_of_ble_eq_true rfl) rfl ?_
        refine wp_iload dX4_fromOf_45 rfl ?_
        refine wp_if_eq 61 dX4_fromOf_47 (by decide) (fun hh47 => ?_) (fun hh47 => ?_)
        · refine wp_iload dX4_fromOf_61 rfl ?_
          refine wp_ist (L' := [some (vr _), some (vi _), some (vi _), some (vi _), some (vi _), some (vi _), some (vi _), some (vi _)]) dX4_fromOf_63 (Nat.le_of_ble_eq_true rfl) rfl ?_
          refine wp_iload dX4_fromOf_65 rfl ?_
          refine wp_iload dX4_fromOf_67 rfl ?_
          refine wp_if_eq 76 dX4_fromOf_69 (by decide) (fun hh69 => ?_) (fun hh69 => ?_)
          · refine wp_iconst dX4_fromOf_76 (by decide) ?_
            refine wp_iaddN dX4_fromOf_77 (by omega) ?_
            refine wp_ist (L' := [some (vr _), some (vi _), some (vi _), some (vi _), some (vi _), some (vi _), some (vi _), some (vi _)]) dX4_fromOf_78 (Nat.le_of_ble_eq_true rfl) rfl ?_
            refine wp_iincN (L' := [some (vr _), some (vi _), some (vi _), some (vi _), some (vi _), some (vi _), some (vi _), some (vi _)]) dX4_fromOf_80 rfl (by omega) rfl ?_
            refine wp_gotoN 9 dX4_fromOf_83 (by decide) ?_
            exact ih (k + 1) _ _ _ (by omega) (by rw [cnt_f (show ¬ frP (gOf σ) c s k from fun q => hh24 q.1)]; omega) (by show _ = cif _ _ _; rw [cif_f (fun q => (show ¬ frP (gOf σ) c s k from fun q => hh24 q.1) q.1)]; exact hf) hQ
          · exact absurd hh69 (by decide)
        · exact absurd hh47 (by decide)
      · refine wp_aload_n dX4_fromOf_27 rfl ?_
        refine wp_iload dX4_fromOf_28 rfl ?_
        refine wp_iload_n dX4_fromOf_30 rfl ?_
        refine wp_V2 dX4_fromOf_31 vlX4_121 (by decide) rfl (Nat.le_of_ble_eq_true rfl) ?_
        refine s4_fallen hg (by omega) hh24 ?_
        refine wp_iload_n dX4_fromOf_34 rfl ?_
        refine wp_ic_ne 42 dX4_fromOf_35 (by decide) (fun hh35 => ?_) (fun hh35 => ?_)
        · refine wp_iconst dX4_fromOf_42 (by decide) ?_
          refine wp_ist (L' := [some (vr _), some (vi _), some (vi _), some (vi _), some (vi _), some (vi _), some (vi _), some (vi _)]) dX4_fromOf_43 (Nat.le_of_ble_eq_true rfl) rfl ?_
          refine wp_iload dX4_fromOf_45 rfl ?_
          refine wp_if_eq 61 dX4_fromOf_47 (by decide) (fun hh47 => ?_) (fun hh47 => ?_)
          · refine wp_iload dX4_fromOf_61 rfl ?_
            refine wp_ist (L' := [some (vr _), some (vi _), some (vi _), some (vi _), some (vi _), some (vi _), some (vi _), some (vi _)]) dX4_fromOf_63 (Nat.le_of_ble_eq_true rfl) rfl ?_
            refine wp_iload dX4_fromOf_65 rfl ?_
            refine wp_iload dX4_fromOf_67 rfl ?_
            refine wp_if_eq 76 dX4_fromOf_69 (by decide) (fun hh69 => ?_) (fun hh69 => ?_)
            · refine wp_iconst dX4_fromOf_76 (by decide) ?_
              refine wp_iaddN dX4_fromOf_77 (by omega) ?_
              refine wp_ist (L' := [some (vr _), some (vi _), some (vi _), some (vi _), some (vi _), some (vi _), some (vi _), some (vi _)]) dX4_fromOf_78 (Nat.le_of_ble_eq_true rfl) rfl ?_
              refine wp_iincN (L' := [some (vr _), some (vi _), some (vi _), some (vi _), some (vi _), some (vi _), some (vi _), some (vi _)]) dX4_fromOf_80 rfl (by omega) rfl ?_
              refine wp_gotoN 9 dX4_fromOf_83 (by decide) ?_
              exact ih (k + 1) _ _ _ (by omega) (by rw [cnt_f (show ¬ frP (gOf σ) c s k from fun q => hh35 q.2)]; omega) (by show _ = cif _ _ _; rw [cif_f (fun q => (show ¬ frP (gOf σ) c s k from fun q => hh35 q.2) q.1)]; exact hf) hQ
            · exact absurd hh69 (by decide)
          · exact absurd hh47 (by decide)
        · refine wp_iconst dX4_fromOf_38 (by decide) ?_
          refine wp_gotoN 43 dX4_fromOf_39 (by decide) ?_
          refine wp_ist (L' := [some (vr _), some (vi _), some (vi _), some (vi _), some (vi _), some (vi _), some (vi _), some (vi _)]) dX4_fromOf_43 (Nat.le_of_ble_eq_true rfl) rfl ?_
          refine wp_iload dX4_fromOf_45 rfl ?_
          refine wp_if_eq 61 dX4_fromOf_47 (by decide) (fun hh47 => ?_) (fun hh47 => ?_)
          · exact absurd hh47 (by decide)
          · refine wp_iload dX4_fromOf_50 rfl ?_
            refine wp_iload_n dX4_fromOf_52 rfl ?_
            refine wp_ic_ne 61 dX4_fromOf_53 (by decide) (fun hh53 => ?_) (fun hh53 => ?_)
            · refine wp_iload dX4_fromOf_61 rfl ?_
              refine wp_ist (L' := [some (vr _), some (vi _), some (vi _), some (vi _), some (vi _), some (vi _), some (vi _), some (vi _)]) dX4_fromOf_63 (Nat.le_of_ble_eq_true rfl) rfl ?_
              refine wp_iload dX4_fromOf_65 rfl ?_
              refine wp_iload dX4_fromOf_67 rfl ?_
              refine wp_if_eq 76 dX4_fromOf_69 (by decide) (fun hh69 => ?_) (fun hh69 => ?_)
              · exact absurd hh69 (by decide)
              · refine wp_iconst dX4_fromOf_72 (by decide) ?_
                refine wp_gotoN 77 dX4_fromOf_73 (by decide) ?_
                refine wp_iaddN dX4_fromOf_77 (by omega) ?_
                refine wp_ist (L' := [some (vr _), some (vi _), some (vi _), some (vi _), some (vi _), some (vi _), some (vi _), some (vi _)]) dX4_fromOf_78 (Nat.le_of_ble_eq_true rfl) rfl ?_
                refine wp_iincN (L' := [some (vr _), some (vi _), some (vi _), some (vi _), some (vi _), some (vi _), some (vi _), some (vi _)]) dX4_fromOf_80 rfl (by omega) rfl ?_
                refine wp_gotoN 9 dX4_fromOf_83 (by decide) ?_
                exact ih (k + 1) _ _ _ (by omega) (by rw [cnt_t (show frP (gOf σ) c s k from ⟨hh24, by omega⟩)]; omega) (by show _ = cif _ _ _; rw [cif_f (fun q => by have := q.2; omega)]; exact hf) hQ
            · refine wp_iload dX4_fromOf_56 rfl ?_
              refine wp_gotoN 63 dX4_fromOf_58 (by decide) ?_
              refine wp_ist (L' := [some (vr _), some (vi _), some (vi _), some (vi _), some (vi _), some (vi _), some (vi _), some (vi _)]) dX4_fromOf_63 (Nat.le_of_ble_eq_true rfl) rfl ?_
              refine wp_iload dX4_fromOf_65 rfl ?_
              refine wp_iload dX4_fromOf_67 rfl ?_
              refine wp_if_eq 76 dX4_fromOf_69 (by decide) (fun hh69 => ?_) (fun hh69 => ?_)
              · exact absurd hh69 (by decide)
              · refine wp_iconst dX4_fromOf_72 (by decide) ?_
                refine wp_gotoN 77 dX4_fromOf_73 (by decide) ?_
                refine wp_iaddN dX4_fromOf_77 (by omega) ?_
                refine wp_ist (L' := [some (vr _), some (vi _), some (vi _), some (vi _), some (vi _), some (vi _), some (vi _), some (vi _)]) dX4_fromOf_78 (Nat.le_of_ble_eq_true rfl) rfl ?_
                refine wp_iincN (L' := [some (vr _), some (vi _), some (vi _), some (vi _), some (vi _), some (vi _), some (vi _), some (vi _)]) dX4_fromOf_80 rfl (by omega) rfl ?_
                refine wp_gotoN 9 dX4_fromOf_83 (by decide) ?_
                exact ih (k + 1) _ _ _ (by omega) (by rw [cnt_t (show frP (gOf σ) c s k from ⟨hh24, by omega⟩)]; omega) (by show _ = cif _ _ _; rw [cif_t ⟨(show frP (gOf σ) c s k from ⟨hh24, by omega⟩), by omega⟩]) hQ
set_option maxRecDepth 20000 in
theorem s4_fromOf {d : Nat} {σ : aS} {Q : aQ} {c s i : Int} (hg : GV (gOf σ)) (hs : 0 ≤ s) (hQ : Q (some (vi (frv (gOf σ) c s i))) σ) : aCall 34 (d + 5) mX4_fromOf [vr 18, vi c, vi s, vi i] σ Q := by
  refine cl_in (own := RX4) (cc := cX4_fromOf) (rk := 0) (L := [some (vr 18), some (vi c), some (vi s), some (vi i), none, none, none, none]) rfl rfl rfl rfl (by decide) (Nat.le_of_ble_eq_true rfl) ?_
  refine wp_iconst dX4_fromOf_0 (by decide) ?_
  refine wp_ist (L' := [some (vr _), some (vi _), some (vi _), some (vi _), some (vi _), none, none, none]) dX4_fromOf_1 (Nat.le_of_ble_eq_true rfl) rfl ?_
  refine wp_iconst dX4_fromOf_3 (by decide) ?_
  refine wp_ist (L' := [some (vr _), some (vi _), some (vi _), some (vi _), some (vi _), some (vi _), none, none]) dX4_fromOf_4 (Nat.le_of_ble_eq_true rfl) rfl ?_
  refine wp_iconst dX4_fromOf_6 (by decide) ?_
  refine wp_ist (L' := [some (vr _), some (vi _), some (vi _), some (vi _), some (vi _), some (vi _), some (vi _), none]) dX4_fromOf_7 (Nat.le_of_ble_eq_true rfl) rfl ?_
  exact l4_from hg hs (ggn (gOf σ)).toNat 0 _ _ _ (by omega) rfl rfl hQ
set_option maxRecDepth 20000 in
theorem p4_from {d : Nat} {σ : aS} {Q : aQ} {c s i : Int} {z : aZ} (hm : MI σ z) (hz : ZV z) (hQ : ∀ σ', Frm σ σ' → MI σ' z → Q (some (vi (vFrom z c s i))) σ') : aCall 34 (d + 6) mX4_from [vr 18, vi c, vi s, vi i] σ Q := by
  refine cl_in (own := RX4) (cc := cX4_from) (rk := 0) (L := [some (vr 18), some (vi c), some (vi s), some (vi i)]) rfl rfl rfl rfl (by decide) (Nat.le_of_ble_eq_true rfl) ?_
  refine wp_aload_n dX4_from_0 rfl ?_
  refine wp_iload_n dX4_from_1 rfl ?_
  refine wp_V1 dX4_from_2 vlX4_102 (by decide) rfl (Nat.le_of_ble_eq_true rfl) ?_
  refine s4_isCell hm hz (fun σ' hf hr => ?_)
  have hg := hr.gv
  have eg := hr.2.2.1
  refine wp_ifB_eq 38 dX4_from_5 (by decide) (fun hh5 => ?_) (fun hh5 => ?_)
  · refine wp_bipush dX4_from_38 (by decide) ?_
    refine wp_iret dX4_from_40 (Or.inl rfl) ?_
    first
    | exact q_i (by unfold vFrom; rw [if_neg (by omega)]) (hQ σ' hf hr.1)
    | exact q_i (by unfold vFrom; rw [if_pos (by omega), eg]) (hQ σ' hf hr.1)
  · refine wp_iload_n dX4_from_8 rfl ?_
    refine wp_iconst dX4_from_9 (by decide) ?_
    refine wp_bipush dX4_from_10 (by decide) ?_
    refine wp_S3 dX4_from_12 zlX4_65 (Nat.le_of_ble_eq_true rfl) ?_
    refine s4_in ?_
    refine wp_ifB_eq 38 dX4_from_15 (by decide) (fun hh15 => ?_) (fun hh15 => ?_)
    · refine wp_bipush dX4_from_38 (by decide) ?_
      refine wp_iret dX4_from_40 (Or.inl rfl) ?_
      first
      | exact q_i (by unfold vFrom; rw [if_neg (by omega)]) (hQ σ' hf hr.1)
      | exact q_i (by unfold vFrom; rw [if_pos (by omega), eg]) (hQ σ' hf hr.1)
    · refine wp_iload_n dX4_from_18 rfl ?_
      refine wp_iconst dX4_from_19 (by decide) ?_
      refine wp_bipush dX4_from_20 (by decide) ?_
      refine wp_S3 dX4_from_22 zlX4_65 (Nat.le_of_ble_eq_true rfl) ?_
      refine s4_in ?_
      refine wp_ifB_eq 38 dX4_from_25 (by decide) (fun hh25 => ?_) (fun hh25 => ?_)
      · refine wp_bipush dX4_from_38 (by decide) ?_
        refine wp_iret dX4_from_40 (Or.inl rfl) ?_
        first
        | exact q_i (by unfold vFrom; rw [if_neg (by omega)]) (hQ σ' hf hr.1)
        | exact q_i (by unfold vFrom; rw [if_pos (by omega), eg]) (hQ σ' hf hr.1)
      · refine wp_aload_n dX4_from_28 rfl ?_
        refine wp_iload_n dX4_from_29 rfl ?_
        refine wp_iload_n dX4_from_30 rfl ?_
        refine wp_iload_n dX4_from_31 rfl ?_
        refine wp_V3 dX4_from_32 vlX4_194 (by decide) rfl (Nat.le_of_ble_eq_true rfl) ?_
        refine s4_fromOf hg (by omega) ?_
        refine wp_gotoN 40 dX4_from_35 (by decide) ?_
        refine wp_iret dX4_from_40 (Or.inl rfl) ?_
        first
        | exact q_i (by unfold vFrom; rw [if_neg (by omega)]) (hQ σ' hf hr.1)
        | exact q_i (by unfold vFrom; rw [if_pos (by omega), eg]) (hQ σ' hf hr.1)
