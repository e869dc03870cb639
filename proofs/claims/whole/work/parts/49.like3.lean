/-- two places that are compared along a ROW -/
def lkP (g : aG) (b : Int) (c : Nat) : Prop := (c : Int) % ggw g + b < ggw g ∧ ggk g c ≠ ggk g (c + b)
theorem md_r {w j : Nat} (r : Nat) (h : j < w) : ((r * w + j : Nat) : Int) % (w : Int) = j := by
  rw [← Int.natCast_emod, Nat.add_comm, Nat.add_mul_mod_self_right, Nat.mod_eq_of_lt h]
set_option maxRecDepth 20000 in
theorem l3_lk {d : Nat} {σ : aS} {Q : aQ} {z : aZ} (hc : CI σ z) {b : Int} (b1 : 1 ≤ b) (b6 : b ≤ 6) {row w : Nat} (hw : (w : Int) = ggw (Gz z)) (hr : (((row + 1) * w : Nat) : Int) ≤ ggn (Gz z)) (hs : (row + 1) * w = row * w + w) (hK : ∀ (x : Int) (x5 : Option aV), x = cnt (lkP (Gz z) b) ((row + 1) * w) → Wp RX3 cX3_like 34 (aCall 34 (d + 2)) Q 0 false 0 (fun _ => 0) 94 [some (vr 0), some (vi b), some (vi x), some (vi (row : Int)), some (vi (((row + 1) * w : Nat) : Int)), x5] [] σ) : ∀ (r : Nat) (j : Nat) (x : Int), j + r = w → x = cnt (lkP (Gz z) b) (row * w + j) → Wp RX3 cX3_like 34 (aCall 34 (d + 2)) Q 0 false 0 (fun _ => 0) 53 [some (vr 0), some (vi b), some (vi x), some (vi (row : Int)), some (vi (((row + 1) * w : Nat) : Int)), some (vi ((row * w + j : Nat) : Int))] [] σ := by
  intro r
  induction r with
  | zero =>
    intro j x hj hx
    have hp := hc.pl
    have hn := hp.n
    have hb2 := cnt_in (lkP (Gz z) b) (row * w + j)
    refine wp_iload dX3_like_53 rfl ?_
    refine wp_iload_n dX3_like_55 rfl ?_
    refine wp_iaddN dX3_like_56 (by omega) ?_
    refine wp_iload dX3_like_57 rfl ?_
    refine wp_ic_ge 94 dX3_like_59 (by decide) (fun hh59 => ?_) (fun hh59 => ?_)
    · have e : j = w := by omega
      subst e
      exact hK _ _ (by rw [hs]; exact hx)
    · exfalso; omega
  | succ r ih =>
    intro j x hj hx
    have hp := hc.pl
    have hn := hp.n
    have hb2 := cnt_in (lkP (Gz z) b) (row * w + j)
    have ej : (((row * w + j : Nat) : Int)) % ggw (Gz z) = j := by rw [← hw]; exact md_r row (by omega)
    have eq9 : lkP (Gz z) b (row * w + j) ↔ ((j : Int) + b < ggw (Gz z) ∧ ggk (Gz z) ((row * w + j : Nat) : Int) ≠ ggk (Gz z) (((row * w + j : Nat) : Int) + b)) := by unfold lkP; rw [ej]
    refine wp_iload dX3_like_53 rfl ?_
    refine wp_iload_n dX3_like_55 rfl ?_
    refine wp_iaddN dX3_like_56 (by omega) ?_
    refine wp_iload dX3_like_57 rfl ?_
    refine wp_ic_ge 94 dX3_like_59 (by decide) (fun hh59 => ?_) (fun hh59 => ?_)
    · have e := cnt_st (p := lkP (Gz z) b) (a := row * w + j) (r + 1) (fun i h1 h2 q => ?_)
      · refine hK _ _ ?_
        rw [hs, show row * w + w = row * w + j + (r + 1) by omega, e]
        exact hx
      · have q1 := q.1
        rw [show i = row * w + (i - row * w) by omega, ← hw, md_r row (show i - row * w < w by omega)] at q1
        omega
    · refine wp_aload_n dX3_like_62 rfl ?_
      refine wp_getR dX3_like_63 flX3_39 (by decide) rfl rfl ?_
      refine wp_iload dX3_like_66 rfl ?_
      refine wp_V1 dX3_like_68 vlX3_65 (by decide) rfl (Nat.le_of_ble_eq_true rfl) ?_
      refine s0_kind hp (by omega) (by omega) ?_
      refine wp_aload_n dX3_like_71 rfl ?_
      refine wp_getR dX3_like_72 flX3_39 (by decide) rfl rfl ?_
      refine wp_iload dX3_like_75 rfl ?_
      refine wp_iload_n dX3_like_77 rfl ?_
      refine wp_iaddN dX3_like_78 (by omega) ?_
      refine wp_V1 dX3_like_79 vlX3_65 (by decide) rfl (Nat.le_of_ble_eq_true rfl) ?_
      refine s0_kind hp (by omega) (by omega) ?_
      refine wp_ic_eq 88 dX3_like_82 (by decide) (fun hh82 => ?_) (fun hh82 => ?_)
      · refine wp_iincN (L' := [some (vr _), some (vi _), some (vi _), some (vi _), some (vi _), some (vi _)]) dX3_like_88 rfl (by omega) rfl ?_
        refine wp_gotoN 53 dX3_like_91 (by decide) ?_
        refine ih (j + 1) _ (by omega) ?_
        rw [show row * w + (j + 1) = row * w + j + 1 by omega, cnt_f (fun q => (eq9.mp q).2 hh82), ← hx]
      · refine wp_iincN (L' := [some (vr _), some (vi _), some (vi _), some (vi _), some (vi _), some (vi _)]) dX3_like_85 rfl (by omega) rfl ?_
        refine wp_iincN (L' := [some (vr _), some (vi _), some (vi _), some (vi _), some (vi _), some (vi _)]) dX3_like_88 rfl (by omega) rfl ?_
        refine wp_gotoN 53 dX3_like_91 (by decide) ?_
        refine ih (j + 1) _ (by omega) ?_
        rw [show row * w + (j + 1) = row * w + j + 1 by omega, cnt_t (eq9.mpr ⟨by omega, by first | exact hh82 | omega⟩), ← hx]
set_option maxRecDepth 20000 in
theorem l3_like {d : Nat} {σ : aS} {Q : aQ} {z : aZ} (hc : CI σ z) {b : Int} (b1 : 1 ≤ b) (b6 : b ≤ 6) {R w : Nat} (hw : (w : Int) = ggw (Gz z)) (hR : (R : Int) = (PF z).2.1) (hR5 : R ≤ 5) (hn9 : ((R * w : Nat) : Int) = ggn (Gz z)) (hQ : Q (some (vi (cnt (lkP (Gz z) b) (R * w)))) σ) : ∀ (r : Nat) (k : Nat) (x : Int) (x4 x5 : Option aV), k + r = R → x = cnt (lkP (Gz z) b) (k * w) → Wp RX3 cX3_like 34 (aCall 34 (d + 2)) Q 0 false 0 (fun _ => 0) 18 [some (vr 0), some (vi b), some (vi x), some (vi (k : Int)), x4, x5] [] σ := by
  intro r
  induction r with
  | zero =>
    intro k x x4 x5 hk hx
    have hp := hc.pl
    have hn := hp.n
    have e1 := hc.2.2.1
    have e2 := hp.1.1
    refine wp_iload_n dX3_like_18 rfl ?_
    refine wp_aload_n dX3_like_19 rfl ?_
    refine wp_getR dX3_like_20 flX3_39 (by decide) rfl rfl ?_
    refine wp_getI dX3_like_23 flX3_157 (by decide) rfl (Or.inl rfl) ?_
    refine wp_ic_ge 100 dX3_like_26 (by decide) (fun hh26 => ?_) (fun hh26 => ?_)
    · refine wp_iload_n dX3_like_100 rfl ?_
      refine wp_iret dX3_like_101 (Or.inl rfl) ?_
      exact q_i (by rw [hx, show k = R by omega]) hQ
    · exfalso; omega
  | succ r ih =>
    intro k x x4 x5 hk hx
    have hp := hc.pl
    have hn := hp.n
    have e1 := hc.2.2.1
    have e2 := hp.1.1
    have hs : (k + 1) * w = k * w + w := Nat.succ_mul k w
    have hm : (k + 1) * w ≤ R * w := Nat.mul_le_mul_right w (by omega)
    have hk3 : (((k + 1) * w : Nat) : Int) ≤ ggn (Gz z) := by rw [← hn9]; exact Int.ofNat_le.mpr hm
    have p1 : ((k : Int) + 1) * σ.1 13 2 = (((k + 1) * w : Nat) : Int) := by rw [e2, ← hw]; exact (Int.natCast_mul (k + 1) w).symm
    have p2 : (k : Int) * σ.1 13 2 = ((k * w : Nat) : Int) := by rw [e2, ← hw]; exact (Int.natCast_mul k w).symm
    refine wp_iload_n dX3_like_18 rfl ?_
    refine wp_aload_n dX3_like_19 rfl ?_
    refine wp_getR dX3_like_20 flX3_39 (by decide) rfl rfl ?_
    refine wp_getI dX3_like_23 flX3_157 (by decide) rfl (Or.inl rfl) ?_
    refine wp_ic_ge 100 dX3_like_26 (by decide) (fun hh26 => ?_) (fun hh26 => ?_)
    · exfalso; omega
    · refine wp_iload_n dX3_like_29 rfl ?_
      refine wp_iconst dX3_like_30 (by decide) ?_
      refine wp_iaddN dX3_like_31 (by omega) ?_
      refine wp_aload_n dX3_like_32 rfl ?_
      refine wp_getR dX3_like_33 flX3_39 (by decide) rfl rfl ?_
      refine wp_getI dX3_like_36 flX3_173 (by decide) rfl (Or.inl rfl) ?_
      refine wp_imulN dX3_like_39 (by omega) ?_
      rw [p1]
      refine wp_ist (L' := [some (vr _), some (vi _), some (vi _), some (vi _), some (vi _), _]) dX3_like_40 (Nat.le_of_ble_eq_true rfl) rfl ?_
      refine wp_iload_n dX3_like_42 rfl ?_
      refine wp_aload_n dX3_like_43 rfl ?_
      refine wp_getR dX3_like_44 flX3_39 (by decide) rfl rfl ?_
      refine wp_getI dX3_like_47 flX3_173 (by decide) rfl (Or.inl rfl) ?_
      refine wp_imulN dX3_like_50 (by omega) ?_
      rw [p2]
      refine wp_ist (L' := [some (vr _), some (vi _), some (vi _), some (vi _), some (vi _), some (vi _)]) dX3_like_51 (Nat.le_of_ble_eq_true rfl) rfl ?_
      refine l3_lk (d := d) (row := k) (w := w) hc b1 b6 hw hk3 hs (fun x2 x5 hx2 => ?_) w 0 x (by omega) hx
      refine wp_iincN (L' := [some (vr _), some (vi _), some (vi _), some (vi _), some (vi _), _]) dX3_like_94 rfl (by omega) rfl ?_
      refine wp_gotoN 18 dX3_like_97 (by decide) ?_
      exact ih (k + 1) x2 _ _ (by omega) hx2
theorem PF_rw {z : aZ} : (((PF z).2.1.toNat * (ggw (Gz z)).toNat : Nat) : Int) = ggn (Gz z) ∧ (((ggw (Gz z)).toNat : Nat) : Int) = ggw (Gz z) ∧ (((PF z).2.1.toNat : Nat) : Int) = (PF z).2.1 ∧ (PF z).2.1 ≤ 5 := by
  obtain ⟨o1, o2, o3, o4, o5⟩ := PF_ok z
  have h2 : (((PF z).2.1.toNat : Nat) : Int) = (PF z).2.1 := Int.toNat_of_nonneg o2.1
  by_cases e : (PF z).2.2.2.1 ≤ 0
  · have ew : ggw (Gz z) = 0 := if_pos e
    have en : ggn (Gz z) = 0 := by show (PF z).2.2.2.1 = 0; omega
    rw [ew, en]
    refine ⟨?_, rfl, h2, o2.2⟩
    show (((PF z).2.1.toNat * 0 : Nat) : Int) = 0
    rw [Nat.mul_zero]; rfl
  · have ew : ggw (Gz z) = (PF z).2.2.1 := if_neg e
    have := o4 (by omega)
    have h3 : (((ggw (Gz z)).toNat : Nat) : Int) = ggw (Gz z) := Int.toNat_of_nonneg (by omega)
    refine ⟨?_, h3, h2, o2.2⟩
    rw [Int.natCast_mul, h2, h3, ew]
    exact o3
set_option maxRecDepth 20000 in
theorem p3_like {d : Nat} {σ : aS} {Q : aQ} {b : Int} {z : aZ} (hc : CI σ z) (hz : ZV z) (hQ : Q (some (vi (vLike z b))) σ) : aCall 34 (d + 3) mX3_like [vr 0, vi b] σ Q := by
  refine cl_in (own := RX3) (cc := cX3_like) (rk := 0) (L := [some (vr 0), some (vi b), none, none, none, none]) rfl rfl rfl rfl (by decide) (Nat.le_of_ble_eq_true rfl) ?_
  have hr9 := PF_rw (z := z)
  refine wp_iload_n dX3_like_0 rfl ?_
  refine wp_iconst dX3_like_1 (by decide) ?_
  refine wp_ic_lt 11 dX3_like_2 (by decide) (fun hh2 => ?_) (fun hh2 => ?_)
  · refine wp_bipush dX3_like_11 (by decide) ?_
    refine wp_iret dX3_like_13 (Or.inl rfl) ?_
    exact q_i (by unfold vLike; rw [if_neg (by omega)]) hQ
  · refine wp_iload_n dX3_like_5 rfl ?_
    refine wp_bipush dX3_like_6 (by decide) ?_
    refine wp_ic_lt 14 dX3_like_8 (by decide) (fun hh8 => ?_) (fun hh8 => ?_)
    · refine wp_iconst dX3_like_14 (by decide) ?_
      refine wp_istN (L' := [some (vr _), some (vi _), some (vi _), none, none, none]) dX3_like_15 (Nat.le_of_ble_eq_true rfl) rfl ?_
      refine wp_iconst dX3_like_16 (by decide) ?_
      refine wp_istN (L' := [some (vr _), some (vi _), some (vi _), some (vi _), none, none]) dX3_like_17 (Nat.le_of_ble_eq_true rfl) rfl ?_
      have e : vLike z b = cnt (lkP (Gz z) b) ((PF z).2.1.toNat * (ggw (Gz z)).toNat) := by
        unfold vLike
        rw [if_pos (by omega), show (PF z).2.1.toNat * (ggw (Gz z)).toNat = (ggn (Gz z)).toNat by have := hr9.1; omega]
        rfl
      rw [e] at hQ
      exact l3_like hc (by omega) (by omega) hr9.2.1 hr9.2.2.1 (by omega) hr9.1 hQ (PF z).2.1.toNat 0 0 _ _ (by omega) (by rw [Nat.zero_mul]; rfl)
    · refine wp_bipush dX3_like_11 (by decide) ?_
      refine wp_iret dX3_like_13 (Or.inl rfl) ?_
      exact q_i (by unfold vLike; rw [if_neg (by omega)]) hQ
