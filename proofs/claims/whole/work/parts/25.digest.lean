noncomputable def clv (g : aG) (c w : Int) : Int := if w = 0 then ggk g c else if w = 1 then bi (upp g c) else bi (hld g c)
noncomputable def vCell (z : aZ) (c w : Int) : Int := if (0 ≤ c ∧ c ≤ ggn (Gz z) - 1) ∧ (0 ≤ w ∧ w ≤ 2) then clv (Gz z) c w else -2
def mx (h : BitVec 64) (x : Int) : BitVec 64 := 31#64 * h + BitVec.ofInt 64 x
noncomputable def cdv (g : aG) (h : BitVec 64) (c : Int) : BitVec 64 := mx (mx (mx (mx (mx (mx (mx (mx (mx h (clv g c 0)) (clv g c 1)) (clv g c 2)) (rhv g c)) (wtv g c)) (wayv g c 0)) (nxv g 0 c)) (frv g c 2 (-1))) (frv g c 2 0)
noncomputable def cdN (g : aG) (h : BitVec 64) : Nat → BitVec 64
  | 0 => h
  | k + 1 => cdv g (cdN g h k) k
noncomputable def tdN (z : aZ) (h : BitVec 64) : Nat → BitVec 64
  | 0 => h
  | k + 1 => mx (mx (mx (tdN z h k) (atv z k 5)) (rsv z k 0)) (rsv z k 1)
noncomputable def ctN (z : aZ) : Nat → BitVec 64
  | 0 => 17#64
  | k + 1 => mx (ctN z k) (vCount z k)
noncomputable def dgv (z : aZ) : BitVec 64 :=
  mx (31#64 * (31#64 * mx (mx (mx (mx (mx (mx (mx (mx (mx (tdN z (cdN (Gz z) (mx (ctN z 8) (PF z).1) (ggn (Gz z)).toNat) (zn z)) (lgN z (zn z))) (vMeet z 0 1)) (vRace z 0 1 2)) (vPlug z 3 (-1))) (vPlug z 3 0)) (wv z)) (vHang z)) (vJoined z)) (lkv z 1) + vFlood z 5 3 0) + vFlood z 5 3 1) (vKicks z 7 0 9)
set_option maxRecDepth 20000 in
theorem p4_cell {d : Nat} {σ : aS} {Q : aQ} {c w : Int} {z : aZ} (hm : MI σ z) (hz : ZV z) (hQ : ∀ σ', Frm σ σ' → MI σ' z → Q (some (vi (vCell z c w))) σ') : aCall 34 (d + 5) mX4_cell [vr 18, vi c, vi w] σ Q := by
  refine cl_in (own := RX4) (cc := cX4_cell) (rk := 0) (L := [some (vr 18), some (vi c), some (vi w)]) rfl rfl rfl rfl (by decide) (Nat.le_of_ble_eq_true rfl) ?_
  refine wp_aload_n dX4_cell_0 rfl ?_
  refine wp_iload_n dX4_cell_1 rfl ?_
  refine wp_V1 dX4_cell_2 vlX4_102 (by decide) rfl (Nat.le_of_ble_eq_true rfl) ?_
  refine s4_isCell hm hz (fun σ1 hf1 hr1 => ?_)
  have hg1 := hr1.gv
  have hn1 := hr1.n
  have hn35 := (Gz_ok hz).2.1
  refine wp_ifB_eq 67 dX4_cell_5 (by decide) (fun hh5 => ?_) (fun hh5 => ?_)
  · refine wp_bipush dX4_cell_67 (by decide) ?_
    refine wp_iret dX4_cell_69 (Or.inl rfl) ?_
    first
    | exact q_i (by unfold vCell; rw [if_neg (by omega)]) (hQ σ1 hf1 hr1.1)
    | exact q_i (by unfold vCell; rw [if_pos (by omega)]; unfold clv; rw [if_pos (by omega), ← ek]) (hQ σ1 hf1 hr1.1)
    | exact q_i (by unfold vCell; rw [if_pos (by omega)]; unfold clv; rw [if_neg (by omega), if_pos (by omega), bi_t hh40]) (hQ σ1 hf1 hr1.1)
    | exact q_i (by unfold vCell; rw [if_pos (by omega)]; unfold clv; rw [if_neg (by omega), if_pos (by omega), bi_f hh40]) (hQ σ1 hf1 hr1.1)
    | exact q_i (by unfold vCell; rw [if_pos (by omega)]; unfold clv; rw [if_neg (by omega), if_neg (by omega), bi_t hh56]) (hQ σ1 hf1 hr1.1)
    | exact q_i (by unfold vCell; rw [if_pos (by omega)]; unfold clv; rw [if_neg (by omega), if_neg (by omega), bi_f hh56]) (hQ σ1 hf1 hr1.1)
  · refine wp_iload_n dX4_cell_8 rfl ?_
    refine wp_iconst dX4_cell_9 (by decide) ?_
    refine wp_iconst dX4_cell_10 (by decide) ?_
    refine wp_S3 dX4_cell_11 zlX4_65 (Nat.le_of_ble_eq_true rfl) ?_
    refine s4_in ?_
    refine wp_ifB_eq 67 dX4_cell_14 (by decide) (fun hh14 => ?_) (fun hh14 => ?_)
    · refine wp_bipush dX4_cell_67 (by decide) ?_
      refine wp_iret dX4_cell_69 (Or.inl rfl) ?_
      first
      | exact q_i (by unfold vCell; rw [if_neg (by omega)]) (hQ σ1 hf1 hr1.1)
      | exact q_i (by unfold vCell; rw [if_pos (by omega)]; unfold clv; rw [if_pos (by omega), ← ek]) (hQ σ1 hf1 hr1.1)
      | exact q_i (by unfold vCell; rw [if_pos (by omega)]; unfold clv; rw [if_neg (by omega), if_pos (by omega), bi_t hh40]) (hQ σ1 hf1 hr1.1)
      | exact q_i (by unfold vCell; rw [if_pos (by omega)]; unfold clv; rw [if_neg (by omega), if_pos (by omega), bi_f hh40]) (hQ σ1 hf1 hr1.1)
      | exact q_i (by unfold vCell; rw [if_pos (by omega)]; unfold clv; rw [if_neg (by omega), if_neg (by omega), bi_t hh56]) (hQ σ1 hf1 hr1.1)
      | exact q_i (by unfold vCell; rw [if_pos (by omega)]; unfold clv; rw [if_neg (by omega), if_neg (by omega), bi_f hh56]) (hQ σ1 hf1 hr1.1)
    · have ek : ggk (Gz z) c = σ1.1 20 c.toNat := by rw [← hr1.2.2.1]; exact gk_of (by omega) (by rw [hr1.n]; omega)
      refine wp_iload_n dX4_cell_17 rfl ?_
      refine wp_if_ne 30 dX4_cell_18 (by decide) (fun hh18 => ?_) (fun hh18 => ?_)
      · refine wp_iload_n dX4_cell_30 rfl ?_
        refine wp_iconst dX4_cell_31 (by decide) ?_
        refine wp_ic_ne 51 dX4_cell_32 (by decide) (fun hh32 => ?_) (fun hh32 => ?_)
        · refine wp_aload_n dX4_cell_51 rfl ?_
          refine wp_iload_n dX4_cell_52 rfl ?_
          refine wp_V1 dX4_cell_53 vlX4_105 (by decide) rfl (Nat.le_of_ble_eq_true rfl) ?_
          refine s4_isHeld hg1 (by omega) (by omega) ?_
          rw [hr1.2.2.1]
          refine wp_ifB_eq 63 dX4_cell_56 (by decide) (fun hh56 => ?_) (fun hh56 => ?_)
          · refine wp_iconst dX4_cell_63 (by decide) ?_
            refine wp_gotoN 69 dX4_cell_64 (by decide) ?_
            refine wp_iret dX4_cell_69 (Or.inl rfl) ?_
            first
            | exact q_i (by unfold vCell; rw [if_neg (by omega)]) (hQ σ1 hf1 hr1.1)
            | exact q_i (by unfold vCell; rw [if_pos (by omega)]; unfold clv; rw [if_pos (by omega), ← ek]) (hQ σ1 hf1 hr1.1)
            | exact q_i (by unfold vCell; rw [if_pos (by omega)]; unfold clv; rw [if_neg (by omega), if_pos (by omega), bi_t hh40]) (hQ σ1 hf1 hr1.1)
            | exact q_i (by unfold vCell; rw [if_pos (by omega)]; unfold clv; rw [if_neg (by omega), if_pos (by omega), bi_f hh40]) (hQ σ1 hf1 hr1.1)
            | exact q_i (by unfold vCell; rw [if_pos (by omega)]; unfold clv; rw [if_neg (by omega), if_neg (by omega), bi_t hh56]) (hQ σ1 hf1 hr1.1)
            | exact q_i (by unfold vCell; rw [if_pos (by omega)]; unfold clv; rw [if_neg (by omega), if_neg (by omega), bi_f hh56]) (hQ σ1 hf1 hr1.1)
          · refine wp_iconst dX4_cell_59 (by decide) ?_
            refine wp_gotoN 69 dX4_cell_60 (by decide) ?_
            refine wp_iret dX4_cell_69 (Or.inl rfl) ?_
            first
            | exact q_i (by unfold vCell; rw [if_neg (by omega)]) (hQ σ1 hf1 hr1.1)
            | exact q_i (by unfold vCell; rw [if_pos (by omega)]; unfold clv; rw [if_pos (by omega), ← ek]) (hQ σ1 hf1 hr1.1)
            | exact q_i (by unfold vCell; rw [if_pos (by omega)]; unfold clv; rw [if_neg (by omega), if_pos (by omega), bi_t hh40]) (hQ σ1 hf1 hr1.1)
            | exact q_i (by unfold vCell; rw [if_pos (by omega)]; unfold clv; rw [if_neg (by omega), if_pos (by omega), bi_f hh40]) (hQ σ1 hf1 hr1.1)
            | exact q_i (by unfold vCell; rw [if_pos (by omega)]; unfold clv; rw [if_neg (by omega), if_neg (by omega), bi_t hh56]) (hQ σ1 hf1 hr1.1)
            | exact q_i (by unfold vCell; rw [if_pos (by omega)]; unfold clv; rw [if_neg (by omega), if_neg (by omega), bi_f hh56]) (hQ σ1 hf1 hr1.1)
        · refine wp_aload_n dX4_cell_35 rfl ?_
          refine wp_iload_n dX4_cell_36 rfl ?_
          refine wp_V1 dX4_cell_37 vlX4_92 (by decide) rfl (Nat.le_of_ble_eq_true rfl) ?_
          refine s4_isUp hg1 (by omega) (by omega) ?_
          rw [hr1.2.2.1]
          refine wp_ifB_eq 47 dX4_cell_40 (by decide) (fun hh40 => ?_) (fun hh40 => ?_)
          · refine wp_iconst dX4_cell_47 (by decide) ?_
            refine wp_gotoN 69 dX4_cell_48 (by decide) ?_
            refine wp_iret dX4_cell_69 (Or.inl rfl) ?_
            first
            | exact q_i (by unfold vCell; rw [if_neg (by omega)]) (hQ σ1 hf1 hr1.1)
            | exact q_i (by unfold vCell; rw [if_pos (by omega)]; unfold clv; rw [if_pos (by omega), ← ek]) (hQ σ1 hf1 hr1.1)
            | exact q_i (by unfold vCell; rw [if_pos (by omega)]; unfold clv; rw [if_neg (by omega), if_pos (by omega), bi_t hh40]) (hQ σ1 hf1 hr1.1)
            | exact q_i (by unfold vCell; rw [if_pos (by omega)]; unfold clv; rw [if_neg (by omega), if_pos (by omega), bi_f hh40]) (hQ σ1 hf1 hr1.1)
            | exact q_i (by unfold vCell; rw [if_pos (by omega)]; unfold clv; rw [if_neg (by omega), if_neg (by omega), bi_t hh56]) (hQ σ1 hf1 hr1.1)
            | exact q_i (by unfold vCell; rw [if_pos (by omega)]; unfold clv; rw [if_neg (by omega), if_neg (by omega), bi_f hh56]) (hQ σ1 hf1 hr1.1)
          · refine wp_iconst dX4_cell_43 (by decide) ?_
            refine wp_gotoN 69 dX4_cell_44 (by decide) ?_
            refine wp_iret dX4_cell_69 (Or.inl rfl) ?_
            first
            | exact q_i (by unfold vCell; rw [if_neg (by omega)]) (hQ σ1 hf1 hr1.1)
            | exact q_i (by unfold vCell; rw [if_pos (by omega)]; unfold clv; rw [if_pos (by omega), ← ek]) (hQ σ1 hf1 hr1.1)
            | exact q_i (by unfold vCell; rw [if_pos (by omega)]; unfold clv; rw [if_neg (by omega), if_pos (by omega), bi_t hh40]) (hQ σ1 hf1 hr1.1)
            | exact q_i (by unfold vCell; rw [if_pos (by omega)]; unfold clv; rw [if_neg (by omega), if_pos (by omega), bi_f hh40]) (hQ σ1 hf1 hr1.1)
            | exact q_i (by unfold vCell; rw [if_pos (by omega)]; unfold clv; rw [if_neg (by omega), if_neg (by omega), bi_t hh56]) (hQ σ1 hf1 hr1.1)
            | exact q_i (by unfold vCell; rw [if_pos (by omega)]; unfold clv; rw [if_neg (by omega), if_neg (by omega), bi_f hh56]) (hQ σ1 hf1 hr1.1)
      · refine wp_aload_n dX4_cell_21 rfl ?_
        refine wp_getR dX4_cell_22 flX4_13 (by decide) rfl rfl ?_
        refine wp_iload_n dX4_cell_25 rfl ?_
        refine wp_iaload dX4_cell_26 (by decide) rfl (by omega) (by omega) (by decide) ?_
        refine wp_gotoN 69 dX4_cell_27 (by decide) ?_
        refine wp_iret dX4_cell_69 (Or.inl rfl) ?_
        first
        | exact q_i (by unfold vCell; rw [if_neg (by omega)]) (hQ σ1 hf1 hr1.1)
        | exact q_i (by unfold vCell; rw [if_pos (by omega)]; unfold clv; rw [if_pos (by omega), ← ek]) (hQ σ1 hf1 hr1.1)
        | exact q_i (by unfold vCell; rw [if_pos (by omega)]; unfold clv; rw [if_neg (by omega), if_pos (by omega), bi_t hh40]) (hQ σ1 hf1 hr1.1)
        | exact q_i (by unfold vCell; rw [if_pos (by omega)]; unfold clv; rw [if_neg (by omega), if_pos (by omega), bi_f hh40]) (hQ σ1 hf1 hr1.1)
        | exact q_i (by unfold vCell; rw [if_pos (by omega)]; unfold clv; rw [if_neg (by omega), if_neg (by omega), bi_t hh56]) (hQ σ1 hf1 hr1.1)
        | exact q_i (by unfold vCell; rw [if_pos (by omega)]; unfold clv; rw [if_neg (by omega), if_neg (by omega), bi_f hh56]) (hQ σ1 hf1 hr1.1)
set_option maxRecDepth 20000 in
theorem s4_cellR {d : Nat} {σ : aS} {Q : aQ} {c w : Int} {z : aZ} (hm : MI σ z) (hz : ZV z) (hc : 0 ≤ c ∧ c ≤ ggn (Gz z) - 1) (hw : 0 ≤ w ∧ w ≤ 2) (hQ : ∀ σ', Frm σ σ' → Rd σ' z → Q (some (vi (clv (Gz z) c w))) σ') : aCall 34 (d + 5) mX4_cell [vr 18, vi c, vi w] σ Q := by
  refine cl_in (own := RX4) (cc := cX4_cell) (rk := 0) (L := [some (vr 18), some (vi c), some (vi w)]) rfl rfl rfl rfl (by decide) (Nat.le_of_ble_eq_true rfl) ?_
  refine wp_aload_n dX4_cell_0 rfl ?_
  refine wp_iload_n dX4_cell_1 rfl ?_
  refine wp_V1 dX4_cell_2 vlX4_102 (by decide) rfl (Nat.le_of_ble_eq_true rfl) ?_
  refine s4_isCell hm hz (fun σ1 hf1 hr1 => ?_)
  have hg1 := hr1.gv
  have hn1 := hr1.n
  have hn35 := (Gz_ok hz).2.1
  refine wp_ifB_eq 67 dX4_cell_5 (by decide) (fun hh5 => ?_) (fun hh5 => ?_)
  · refine wp_bipush dX4_cell_67 (by decide) ?_
    refine wp_iret dX4_cell_69 (Or.inl rfl) ?_
    first
    | (exfalso; omega)
    | exact q_i (by unfold clv; rw [if_pos (by omega), ← ek]) (hQ σ1 hf1 hr1)
    | exact q_i (by unfold clv; rw [if_neg (by omega), if_pos (by omega), bi_t hh40]) (hQ σ1 hf1 hr1)
    | exact q_i (by unfold clv; rw [if_neg (by omega), if_pos (by omega), bi_f hh40]) (hQ σ1 hf1 hr1)
    | exact q_i (by unfold clv; rw [if_neg (by omega), if_neg (by omega), bi_t hh56]) (hQ σ1 hf1 hr1)
    | exact q_i (by unfold clv; rw [if_neg (by omega), if_neg (by omega), bi_f hh56]) (hQ σ1 hf1 hr1)
  · refine wp_iload_n dX4_cell_8 rfl ?_
    refine wp_iconst dX4_cell_9 (by decide) ?_
    refine wp_iconst dX4_cell_10 (by decide) ?_
    refine wp_S3 dX4_cell_11 zlX4_65 (Nat.le_of_ble_eq_true rfl) ?_
    refine s4_in ?_
    refine wp_ifB_eq 67 dX4_cell_14 (by decide) (fun hh14 => ?_) (fun hh14 => ?_)
    · refine wp_bipush dX4_cell_67 (by decide) ?_
      refine wp_iret dX4_cell_69 (Or.inl rfl) ?_
      first
      | (exfalso; omega)
      | exact q_i (by unfold clv; rw [if_pos (by omega), ← ek]) (hQ σ1 hf1 hr1)
      | exact q_i (by unfold clv; rw [if_neg (by omega), if_pos (by omega), bi_t hh40]) (hQ σ1 hf1 hr1)
      | exact q_i (by unfold clv; rw [if_neg (by omega), if_pos (by omega), bi_f hh40]) (hQ σ1 hf1 hr1)
      | exact q_i (by unfold clv; rw [if_neg (by omega), if_neg (by omega), bi_t hh56]) (hQ σ1 hf1 hr1)
      | exact q_i (by unfold clv; rw [if_neg (by omega), if_neg (by omega), bi_f hh56]) (hQ σ1 hf1 hr1)
    · have ek : ggk (Gz z) c = σ1.1 20 c.toNat := by rw [← hr1.2.2.1]; exact gk_of (by omega) (by rw [hr1.n]; omega)
      refine wp_iload_n dX4_cell_17 rfl ?_
      refine wp_if_ne 30 dX4_cell_18 (by decide) (fun hh18 => ?_) (fun hh18 => ?_)
      · refine wp_iload_n dX4_cell_30 rfl ?_
        refine wp_iconst dX4_cell_31 (by decide) ?_
        refine wp_ic_ne 51 dX4_cell_32 (by decide) (fun hh32 => ?_) (fun hh32 => ?_)
        · refine wp_aload_n dX4_cell_51 rfl ?_
          refine wp_iload_n dX4_cell_52 rfl ?_
          refine wp_V1 dX4_cell_53 vlX4_105 (by decide) rfl (Nat.le_of_ble_eq_true rfl) ?_
          refine s4_isHeld hg1 (by omega) (by omega) ?_
          rw [hr1.2.2.1]
          refine wp_ifB_eq 63 dX4_cell_56 (by decide) (fun hh56 => ?_) (fun hh56 => ?_)
          · refine wp_iconst dX4_cell_63 (by decide) ?_
            refine wp_gotoN 69 dX4_cell_64 (by decide) ?_
            refine wp_iret dX4_cell_69 (Or.inl rfl) ?_
            first
            | (exfalso; omega)
            | exact q_i (by unfold clv; rw [if_pos (by omega), ← ek]) (hQ σ1 hf1 hr1)
            | exact q_i (by unfold clv; rw [if_neg (by omega), if_pos (by omega), bi_t hh40]) (hQ σ1 hf1 hr1)
            | exact q_i (by unfold clv; rw [if_neg (by omega), if_pos (by omega), bi_f hh40]) (hQ σ1 hf1 hr1)
            | exact q_i (by unfold clv; rw [if_neg (by omega), if_neg (by omega), bi_t hh56]) (hQ σ1 hf1 hr1)
            | exact q_i (by unfold clv; rw [if_neg (by omega), if_neg (by omega), bi_f hh56]) (hQ σ1 hf1 hr1)
          · refine wp_iconst dX4_cell_59 (by decide) ?_
            refine wp_gotoN 69 dX4_cell_60 (by decide) ?_
            refine wp_iret dX4_cell_69 (Or.inl rfl) ?_
            first
            | (exfalso; omega)
            | exact q_i (by unfold clv; rw [if_pos (by omega), ← ek]) (hQ σ1 hf1 hr1)
            | exact q_i (by unfold clv; rw [if_neg (by omega), if_pos (by omega), bi_t hh40]) (hQ σ1 hf1 hr1)
            | exact q_i (by unfold clv; rw [if_neg (by omega), if_pos (by omega), bi_f hh40]) (hQ σ1 hf1 hr1)
            | exact q_i (by unfold clv; rw [if_neg (by omega), if_neg (by omega), bi_t hh56]) (hQ σ1 hf1 hr1)
            | exact q_i (by unfold clv; rw [if_neg (by omega), if_neg (by omega), bi_f hh56]) (hQ σ1 hf1 hr1)
        · refine wp_aload_n dX4_cell_35 rfl ?_
          refine wp_iload_n dX4_cell_36 rfl ?_
          refine wp_V1 dX4_cell_37 vlX4_92 (by decide) rfl (Nat.le_of_ble_eq_true rfl) ?_
          refine s4_isUp hg1 (by omega) (by omega) ?_
          rw [hr1.2.2.1]
          refine wp_ifB_eq 47 dX4_cell_40 (by decide) (fun hh40 => ?_) (fun hh40 => ?_)
          · refine wp_iconst dX4_cell_47 (by decide) ?_
            refine wp_gotoN 69 dX4_cell_48 (by decide) ?_
            refine wp_iret dX4_cell_69 (Or.inl rfl) ?_
            first
            | (exfalso; omega)
            | exact q_i (by unfold clv; rw [if_pos (by omega), ← ek]) (hQ σ1 hf1 hr1)
            | exact q_i (by unfold clv; rw [if_neg (by omega), if_pos (by omega), bi_t hh40]) (hQ σ1 hf1 hr1)
            | exact q_i (by unfold clv; rw [if_neg (by omega), if_pos (by omega), bi_f hh40]) (hQ σ1 hf1 hr1)
            | exact q_i (by unfold clv; rw [if_neg (by omega), if_neg (by omega), bi_t hh56]) (hQ σ1 hf1 hr1)
            | exact q_i (by unfold clv; rw [if_neg (by omega), if_neg (by omega), bi_f hh56]) (hQ σ1 hf1 hr1)
          · refine wp_iconst dX4_cell_43 (by decide) ?_
            refine wp_gotoN 69 dX4_cell_44 (by decide) ?_
            refine wp_iret dX4_cell_69 (Or.inl rfl) ?_
            first
            | (exfalso; omega)
            | exact q_i (by unfold clv; rw [if_pos (by omega), ← ek]) (hQ σ1 hf1 hr1)
            | exact q_i (by unfold clv; rw [if_neg (by omega), if_pos (by omega), bi_t hh40]) (hQ σ1 hf1 hr1)
            | exact q_i (by unfold clv; rw [if_neg (by omega), if_pos (by omega), bi_f hh40]) (hQ σ1 hf1 hr1)
            | exact q_i (by unfold clv; rw [if_neg (by omega), if_neg (by omega), bi_t hh56]) (hQ σ1 hf1 hr1)
            | exact q_i (by unfold clv; rw [if_neg (by omega), if_neg (by omega), bi_f hh56]) (hQ σ1 hf1 hr1)
      · refine wp_aload_n dX4_cell_21 rfl ?_
        refine wp_getR dX4_cell_22 flX4_13 (by decide) rfl rfl ?_
        refine wp_iload_n dX4_cell_25 rfl ?_
        refine wp_iaload dX4_cell_26 (by decide) rfl (by omega) (by omega) (by decide) ?_
        refine wp_gotoN 69 dX4_cell_27 (by decide) ?_
        refine wp_iret dX4_cell_69 (Or.inl rfl) ?_
        first
        | (exfalso; omega)
        | exact q_i (by unfold clv; rw [if_pos (by omega), ← ek]) (hQ σ1 hf1 hr1)
        | exact q_i (by unfold clv; rw [if_neg (by omega), if_pos (by omega), bi_t hh40]) (hQ σ1 hf1 hr1)
        | exact q_i (by unfold clv; rw [if_neg (by omega), if_pos (by omega), bi_f hh40]) (hQ σ1 hf1 hr1)
        | exact q_i (by unfold clv; rw [if_neg (by omega), if_neg (by omega), bi_t hh56]) (hQ σ1 hf1 hr1)
        | exact q_i (by unfold clv; rw [if_neg (by omega), if_neg (by omega), bi_f hh56]) (hQ σ1 hf1 hr1)
set_option maxRecDepth 20000 in
theorem s4_cellDigest {d : Nat} {σ : aS} {Q : aQ} {h : BitVec 64} {c : Int} {z : aZ} (hm : MI σ z) (hz : ZV z) (hc : 0 ≤ c ∧ c ≤ ggn (Gz z) - 1) (hQ : ∀ σ', Frm σ σ' → Rd σ' z → Q (some (vl (cdv (Gz z) h c))) σ') : aCall 34 (d + 7) mX4_cellDigest [vr 18, vl h, vi c] σ Q := by
  refine cl_in (own := RX4) (cc := cX4_cellDigest) (rk := 2) (L := [some (vr 18), some (vl h), none, some (vi c), none, none, none]) rfl rfl rfl rfl (by decide) (Nat.le_of_ble_eq_true rfl) ?_
  have hF0 : Frm σ σ := Frm.rf
  refine wp_lload_n dX4_cellDigest_0 rfl ?_
  refine wp_lst (L' := [some (vr _), some (vl _), none, some (vi _), some (vl _), none, none]) dX4_cellDigest_1 (Nat.le_of_ble_eq_true rfl) rfl ?_
  refine wp_iconst dX4_cellDigest_3 (by decide) ?_
  refine wp_ist (L' := [some (vr _), some (vl _), none, some (vi _), some (vl _), none, some (vi _)]) dX4_cellDigest_4 (Nat.le_of_ble_eq_true rfl) rfl ?_
  refine wp_iload dX4_cellDigest_6 rfl ?_
  refine wp_iconst dX4_cellDigest_8 (by decide) ?_
  refine wp_ic_ge 35 dX4_cellDigest_9 (by decide) (fun hh9 => ?_) (fun hh9 => ?_)
  · exact absurd hh9 (by decide)
  · refine wp_ldc2 dX4_cellDigest_12 llX4_236 ?_
    refine wp_lload dX4_cellDigest_15 rfl ?_
    refine wp_lmul dX4_cellDigest_17 ?_
    refine wp_aload_n dX4_cellDigest_18 rfl ?_
    refine wp_iload_n dX4_cellDigest_19 rfl ?_
    refine wp_iload dX4_cellDigest_20 rfl ?_
    refine wp_V2 dX4_cellDigest_22 vlX4_238 (by decide) rfl (Nat.le_of_ble_eq_true rfl) ?_
    refine s4_cellR hm hz (by omega) (by omega) (fun σ' hf hr => ?_)
    have hm := hr.1
    have hF0 := hF0.tr hf
    refine wp_i2l dX4_cellDigest_25 ?_
    refine wp_ladd dX4_cellDigest_26 ?_
    refine wp_lst (L' := [some (vr _), some (vl _), none, some (vi _), some (vl _), none, some (vi _)]) dX4_cellDigest_27 (Nat.le_of_ble_eq_true rfl) rfl ?_
    refine wp_iincN (L' := [some (vr _), some (vl _), none, some (vi _), some (vl _), none, some (vi _)]) dX4_cellDigest_29 rfl (by omega) rfl ?_
    refine wp_gotoN 6 dX4_cellDigest_32 (by decide) ?_
    refine wp_iload dX4_cellDigest_6 rfl ?_
    refine wp_iconst dX4_cellDigest_8 (by decide) ?_
    refine wp_ic_ge 35 dX4_cellDigest_9 (by decide) (fun hh9 => ?_) (fun hh9 => ?_)
    · exact absurd hh9 (by decide)
    · refine wp_ldc2 dX4_cellDigest_12 llX4_236 ?_
      refine wp_lload dX4_cellDigest_15 rfl ?_
      refine wp_lmul dX4_cellDigest_17 ?_
      refine wp_aload_n dX4_cellDigest_18 rfl ?_
      refine wp_iload_n dX4_cellDigest_19 rfl ?_
      refine wp_iload dX4_cellDigest_20 rfl ?_
      refine wp_V2 dX4_cellDigest_22 vlX4_238 (by decide) rfl (Nat.le_of_ble_eq_true rfl) ?_
      refine s4_cellR hm hz (by omega) (by omega) (fun σ' hf hr => ?_)
      have hm := hr.1
      have hF0 := hF0.tr hf
      refine wp_i2l dX4_cellDigest_25 ?_
      refine wp_ladd dX4_cellDigest_26 ?_
      refine wp_lst (L' := [some (vr _), some (vl _), none, some (vi _), some (vl _), none, some (vi _)]) dX4_cellDigest_27 (Nat.le_of_ble_eq_true rfl) rfl ?_
      refine wp_iincN (L' := [some (vr _), some (vl _), none, some (vi _), some (vl _), none, some (vi _)]) dX4_cellDigest_29 rfl (by omega) rfl ?_
      refine wp_gotoN 6 dX4_cellDigest_32 (by decide) ?_
      refine wp_iload dX4_cellDigest_6 rfl ?_
      refine wp_iconst dX4_cellDigest_8 (by decide) ?_
      refine wp_ic_ge 35 dX4_cellDigest_9 (by decide) (fun hh9 => ?_) (fun hh9 => ?_)
      · exact absurd hh9 (by decide)
      · refine wp_ldc2 dX4_cellDigest_12 llX4_236 ?_
        refine wp_lload dX4_cellDigest_15 rfl ?_
        refine wp_lmul dX4_cellDigest_17 ?_
        refine wp_aload_n dX4_cellDigest_18 rfl ?_
        refine wp_iload_n dX4_cellDigest_19 rfl ?_
        refine wp_iload dX4_cellDigest_20 rfl ?_
        refine wp_V2 dX4_cellDigest_22 vlX4_238 (by decide) rfl (Nat.le_of_ble_eq_true rfl) ?_
        refine s4_cellR hm hz (by omega) (by omega) (fun σ' hf hr => ?_)
        have hm := hr.1
        have hF0 := hF0.tr hf
        refine wp_i2l dX4_cellDigest_25 ?_
        refine wp_ladd dX4_cellDigest_26 ?_
        refine wp_lst (L' := [some (vr _), some (vl _), none, some (vi _), some (vl _), none, some (vi _)]) dX4_cellDigest_27 (Nat.le_of_ble_eq_true rfl) rfl ?_
        refine wp_iincN (L' := [some (vr _), some (vl _), none, some (vi _), some (vl _), none, some (vi _)]) dX4_cellDigest_29 rfl (by omega) rfl ?_
        refine wp_gotoN 6 dX4_cellDigest_32 (by decide) ?_
        refine wp_iload dX4_cellDigest_6 rfl ?_
        refine wp_iconst dX4_cellDigest_8 (by decide) ?_
        refine wp_ic_ge 35 dX4_cellDigest_9 (by decide) (fun hh9 => ?_) (fun hh9 => ?_)
        · refine wp_ldc2 dX4_cellDigest_35 llX4_236 ?_
          refine wp_lload dX4_cellDigest_38 rfl ?_
          refine wp_lmul dX4_cellDigest_40 ?_
          refine wp_aload_n dX4_cellDigest_41 rfl ?_
          refine wp_iload_n dX4_cellDigest_42 rfl ?_
          refine wp_V1 dX4_cellDigest_43 vlX4_160 (by decide) rfl (Nat.le_of_ble_eq_true rfl) ?_
          refine s4_reachOf hr.2.2.1 (Gz_ok hz) (fun σa hFa => ?_)
          have hra := hr.f1 hFa (by decide)
          refine wp_i2l dX4_cellDigest_46 ?_
          refine wp_ladd dX4_cellDigest_47 ?_
          refine wp_lst (L' := [some (vr _), some (vl _), none, some (vi _), some (vl _), none, some (vi _)]) dX4_cellDigest_48 (Nat.le_of_ble_eq_true rfl) rfl ?_
          refine wp_ldc2 dX4_cellDigest_50 llX4_236 ?_
          refine wp_lload dX4_cellDigest_53 rfl ?_
          refine wp_lmul dX4_cellDigest_55 ?_
          refine wp_aload_n dX4_cellDigest_56 rfl ?_
          refine wp_iload_n dX4_cellDigest_57 rfl ?_
          refine wp_V1 dX4_cellDigest_58 vlX4_170 (by decide) rfl (Nat.le_of_ble_eq_true rfl) ?_
          refine s4_wetOf hra.2.2.1 (Gz_ok hz) (by omega) (fun σb hFb => ?_)
          have hrb := hra.f1 hFb (by decide)
          refine wp_i2l dX4_cellDigest_61 ?_
          refine wp_ladd dX4_cellDigest_62 ?_
          refine wp_lst (L' := [some (vr _), some (vl _), none, some (vi _), some (vl _), none, some (vi _)]) dX4_cellDigest_63 (Nat.le_of_ble_eq_true rfl) rfl ?_
          refine wp_ldc2 dX4_cellDigest_65 llX4_236 ?_
          refine wp_lload dX4_cellDigest_68 rfl ?_
          refine wp_lmul dX4_cellDigest_70 ?_
          refine wp_aload_n dX4_cellDigest_71 rfl ?_
          refine wp_iload_n dX4_cellDigest_72 rfl ?_
          refine wp_iconst dX4_cellDigest_73 (by decide) ?_
          refine wp_V2 dX4_cellDigest_74 vlX4_150 (by decide) rfl (Nat.le_of_ble_eq_true rfl) ?_
          refine s4_wayOf hrb.2.2.1 (Gz_ok hz) (by omega) (fun σc hFc => ?_)
          have hrc := hrb.f1 hFc (by decide)
          refine wp_i2l dX4_cellDigest_77 ?_
          refine wp_ladd dX4_cellDigest_78 ?_
          refine wp_lst (L' := [some (vr _), some (vl _), none, some (vi _), some (vl _), none, some (vi _)]) dX4_cellDigest_79 (Nat.le_of_ble_eq_true rfl) rfl ?_
          refine wp_ldc2 dX4_cellDigest_81 llX4_236 ?_
          refine wp_lload dX4_cellDigest_84 rfl ?_
          refine wp_lmul dX4_cellDigest_86 ?_
          refine wp_aload_n dX4_cellDigest_87 rfl ?_
          refine wp_iconst dX4_cellDigest_88 (by decide) ?_
          refine wp_iload_n dX4_cellDigest_89 rfl ?_
          refine wp_V2 dX4_cellDigest_90 vlX4_153 (by decide) rfl (Nat.le_of_ble_eq_true rfl) ?_
          refine s4_nextOf hrc.2.2.1 (Gz_ok hz) (by omega) (fun σd hFd => ?_)
          have hrd := hrc.f1 hFd (by decide)
          refine wp_i2l dX4_cellDigest_93 ?_
          refine wp_ladd dX4_cellDigest_94 ?_
          refine wp_lst (L' := [some (vr _), some (vl _), none, some (vi _), some (vl _), none, some (vi _)]) dX4_cellDigest_95 (Nat.le_of_ble_eq_true rfl) rfl ?_
          refine wp_ldc2 dX4_cellDigest_97 llX4_236 ?_
          refine wp_lload dX4_cellDigest_100 rfl ?_
          refine wp_lmul dX4_cellDigest_102 ?_
          refine wp_aload_n dX4_cellDigest_103 rfl ?_
          refine wp_iload_n dX4_cellDigest_104 rfl ?_
          refine wp_iconst dX4_cellDigest_105 (by decide) ?_
          refine wp_iconst dX4_cellDigest_106 (by decide) ?_
          refine wp_V3 dX4_cellDigest_107 vlX4_194 (by decide) rfl (Nat.le_of_ble_eq_true rfl) ?_
          refine s4_fromOf hrd.gv (by omega) ?_
          rw [hrd.2.2.1]
          refine wp_i2l dX4_cellDigest_110 ?_
          refine wp_ladd dX4_cellDigest_111 ?_
          refine wp_lst (L' := [some (vr _), some (vl _), none, some (vi _), some (vl _), none, some (vi _)]) dX4_cellDigest_112 (Nat.le_of_ble_eq_true rfl) rfl ?_
          refine wp_ldc2 dX4_cellDigest_114 llX4_236 ?_
          refine wp_lload dX4_cellDigest_117 rfl ?_
          refine wp_lmul dX4_cellDigest_119 ?_
          refine wp_aload_n dX4_cellDigest_120 rfl ?_
          refine wp_iload_n dX4_cellDigest_121 rfl ?_
          refine wp_iconst dX4_cellDigest_122 (by decide) ?_
          refine wp_iconst dX4_cellDigest_123 (by decide) ?_
          refine wp_V3 dX4_cellDigest_124 vlX4_194 (by decide) rfl (Nat.le_of_ble_eq_true rfl) ?_
          refine s4_fromOf hrd.gv (by omega) ?_
          rw [hrd.2.2.1]
          refine wp_i2l dX4_cellDigest_127 ?_
          refine wp_ladd dX4_cellDigest_128 ?_
          refine wp_lret dX4_cellDigest_129 rfl ?_
          exact hQ σd ((((hF0.tr (hFa.m (by decide))).tr (hFb.m (by decide))).tr (hFc.m (by decide))).tr (hFd.m (by decide))) hrd
        · exact absurd hh9 (by decide)
set_option maxRecDepth 20000 in
theorem l4_dc {d : Nat} {σ0 : aS} {Q : aQ} {z : aZ} {h0 : BitVec 64} (hz : ZV z) : ∀ (r : Nat) (k : Nat) (x : BitVec 64) (σ : aS), k + r = (ggn (Gz z)).toNat → Frm σ0 σ → Rd σ z → x = cdN (Gz z) h0 k → (∀ σ, Frm σ0 σ → Rd σ z → Wp RX4 cX4_digest 34 (aCall 34 (d + 7)) Q 2 false 0 (fun _ => 0) 66 [some (vr 18), some (vl (cdN (Gz z) h0 (ggn (Gz z)).toNat)), none, some (vi ((ggn (Gz z)).toNat : Int))] [] σ) → Wp RX4 cX4_digest 34 (aCall 34 (d + 7)) Q 2 false 0 (fun _ => 0) 45 [some (vr 18), some (vl x), none, some (vi k)] [] σ := by
  intro r
  induction r with
  | zero =>
    intro k x σ hk hF hr hx hK
    have hn := hr.n
    refine wp_iload_n dX4_digest_45 rfl ?_
    refine wp_aload_n dX4_digest_46 rfl ?_
    refine wp_getI dX4_digest_47 flX4_72 (by decide) rfl (Or.inl rfl) ?_
    refine wp_ic_ge 66 dX4_digest_50 (by decide) (fun hh50 => ?_) (fun hh50 => ?_)
    · have e : k = (ggn (Gz z)).toNat := by omega
      subst e
      rw [hx]
      exact hK σ hF hr
    · exact absurd hk (by omega)
  | succ r ih =>
    intro k x σ hk hF hr hx hK
    have hn := hr.n
    have hn35 := (Gz_ok hz).2.1
    refine wp_iload_n dX4_digest_45 rfl ?_
    refine wp_aload_n dX4_digest_46 rfl ?_
    refine wp_getI dX4_digest_47 flX4_72 (by decide) rfl (Or.inl rfl) ?_
    refine wp_ic_ge 66 dX4_digest_50 (by decide) (fun hh50 => ?_) (fun hh50 => ?_)
    · exact absurd hk (by omega)
    · refine wp_aload_n dX4_digest_53 rfl ?_
      refine wp_lload_n dX4_digest_54 rfl ?_
      refine wp_iload_n dX4_digest_55 rfl ?_
      refine wp_V2 dX4_digest_56 vlX4_246 (by decide) rfl (Nat.le_of_ble_eq_true rfl) ?_
      refine s4_cellDigest hr.1 hz (by omega) (fun σ2 hf2 hr2 => ?_)
      refine wp_lstN (L' := [some (vr _), some (vl _), none, some (vi _)]) dX4_digest_59 (Nat.le_of_ble_eq_true rfl) rfl ?_
      refine wp_iincN (L' := [some (vr _), some (vl _), none, some (vi _)]) dX4_digest_60 rfl (by omega) rfl ?_
      refine wp_gotoN 45 dX4_digest_63 (by decide) ?_
      exact ih (k + 1) _ σ2 (by omega) (hF.tr hf2) hr2 (by rw [hx]; rfl) hK
set_option maxRecDepth 20000 in
theorem l4_dt {d : Nat} {σ0 : aS} {Q : aQ} {z : aZ} {h0 : BitVec 64} (hz : ZV z) : ∀ (r : Nat) (k : Nat) (x : BitVec 64) (σ : aS), k + r = zn z → Frm σ0 σ → MI σ z → x = tdN z h0 k → (∀ σ, Frm σ0 σ → MI σ z → Wp RX4 cX4_digest 34 (aCall 34 (d + 7)) Q 2 false 0 (fun _ => 0) 124 [some (vr 18), some (vl (tdN z h0 (zn z))), none, some (vi (zn z : Int))] [] σ) → Wp RX4 cX4_digest 34 (aCall 34 (d + 7)) Q 2 false 0 (fun _ => 0) 68 [some (vr 18), some (vl x), none, some (vi k)] [] σ := by
  intro r
  induction r with
  | zero =>
    intro k x σ hk hF hm hx hK
    have h5 := hm.2.2.2.2.1
    have hz8 := hz.2.2.2.1
    refine wp_iload_n dX4_digest_68 rfl ?_
    refine wp_aload_n dX4_digest_69 rfl ?_
    refine wp_getI dX4_digest_70 flX4_108 (by decide) rfl (Or.inl rfl) ?_
    refine wp_ic_ge 124 dX4_digest_73 (by decide) (fun hh73 => ?_) (fun hh73 => ?_)
    · have e : k = zn z := by omega
      subst e
      rw [hx]
      exact hK σ hF hm
    · exact absurd hk (by omega)
  | succ r ih =>
    intro k x σ hk hF hm hx hK
    have h5 := hm.2.2.2.2.1
    have hz8 := hz.2.2.2.1
    refine wp_iload_n dX4_digest_68 rfl ?_
    refine wp_aload_n dX4_digest_69 rfl ?_
    refine wp_getI dX4_digest_70 flX4_108 (by decide) rfl (Or.inl rfl) ?_
    refine wp_ic_ge 124 dX4_digest_73 (by decide) (fun hh73 => ?_) (fun hh73 => ?_)
    · exact absurd hk (by omega)
    · refine wp_ldc2 dX4_digest_76 llX4_236 ?_
      refine wp_lload_n dX4_digest_79 rfl ?_
      refine wp_lmul dX4_digest_80 ?_
      refine wp_aload_n dX4_digest_81 rfl ?_
      refine wp_iload_n dX4_digest_82 rfl ?_
      refine wp_iconst dX4_digest_83 (by decide) ?_
      refine wp_V2 dX4_digest_84 vlX4_127 (by decide) rfl (Nat.le_of_ble_eq_true rfl) ?_
      refine s4_atOf hm hz (by omega) (by omega) (fun σa hfa hma => ?_)
      refine wp_i2l dX4_digest_87 ?_
      refine wp_ladd dX4_digest_88 ?_
      refine wp_lstN (L' := [some (vr _), some (vl _), none, some (vi _)]) dX4_digest_89 (Nat.le_of_ble_eq_true rfl) rfl ?_
      refine wp_ldc2 dX4_digest_90 llX4_236 ?_
      refine wp_lload_n dX4_digest_93 rfl ?_
      refine wp_lmul dX4_digest_94 ?_
      refine wp_aload_n dX4_digest_95 rfl ?_
      refine wp_iload_n dX4_digest_96 rfl ?_
      refine wp_iconst dX4_digest_97 (by decide) ?_
      refine wp_V2 dX4_digest_98 vlX4_130 (by decide) rfl (Nat.le_of_ble_eq_true rfl) ?_
      refine s4_restsOf hma hz (by omega) (fun σb hfb hmb => ?_)
      refine wp_i2l dX4_digest_101 ?_
      refine wp_ladd dX4_digest_102 ?_
      refine wp_lstN (L' := [some (vr _), some (vl _), none, some (vi _)]) dX4_digest_103 (Nat.le_of_ble_eq_true rfl) rfl ?_
      refine wp_ldc2 dX4_digest_104 llX4_236 ?_
      refine wp_lload_n dX4_digest_107 rfl ?_
      refine wp_lmul dX4_digest_108 ?_
      refine wp_aload_n dX4_digest_109 rfl ?_
      refine wp_iload_n dX4_digest_110 rfl ?_
      refine wp_iconst dX4_digest_111 (by decide) ?_
      refine wp_V2 dX4_digest_112 vlX4_130 (by decide) rfl (Nat.le_of_ble_eq_true rfl) ?_
      refine s4_restsOf hmb hz (by omega) (fun σc hfc hmc => ?_)
      refine wp_i2l dX4_digest_115 ?_
      refine wp_ladd dX4_digest_116 ?_
      refine wp_lstN (L' := [some (vr _), some (vl _), none, some (vi _)]) dX4_digest_117 (Nat.le_of_ble_eq_true rfl) rfl ?_
      refine wp_iincN (L' := [some (vr _), some (vl _), none, some (vi _)]) dX4_digest_118 rfl (by omega) rfl ?_
      refine wp_gotoN 68 dX4_digest_121 (by decide) ?_
      exact ih (k + 1) _ σc (by omega) (((hF.tr hfa).tr hfb).tr hfc) hmc (by rw [hx]; rfl) hK
set_option maxRecDepth 20000 in
theorem p4_digest {d : Nat} {σ : aS} {Q : aQ} {z : aZ} (hm : MI σ z) (hz : ZV z) (hQ : ∀ σ', Frm σ σ' → MI σ' z → Q (some (vl (dgv z))) σ') : aCall 34 (d + 8) mX4_digest [vr 18] σ Q := by
  refine cl_in (own := RX4) (cc := cX4_digest) (rk := 2) (L := [some (vr 18), none, none, none]) rfl rfl rfl rfl (by decide) (Nat.le_of_ble_eq_true rfl) ?_
  have hF0 : Frm σ σ := Frm.rf
  refine wp_ldc2 dX4_digest_0 llX4_241 ?_
  refine wp_lstN (L' := [some (vr _), some (vl _), none, none]) dX4_digest_3 (Nat.le_of_ble_eq_true rfl) rfl ?_
  refine wp_iconst dX4_digest_4 (by decide) ?_
  refine wp_istN (L' := [some (vr _), some (vl _), none, some (vi _)]) dX4_digest_5 (Nat.le_of_ble_eq_true rfl) rfl ?_
  refine wp_iload_n dX4_digest_6 rfl ?_
  refine wp_bipush dX4_digest_7 (by decide) ?_
  refine wp_ic_ge 31 dX4_digest_9 (by decide) (fun hh9 => ?_) (fun hh9 => ?_)
  · exact absurd hh9 (by decide)
  · refine wp_ldc2 dX4_digest_12 llX4_236 ?_
    refine wp_lload_n dX4_digest_15 rfl ?_
    refine wp_lmul dX4_digest_16 ?_
    refine wp_aload_n dX4_digest_17 rfl ?_
    refine wp_iload_n dX4_digest_18 rfl ?_
    refine wp_V1 dX4_digest_19 vlX4_243 (by decide) rfl (Nat.le_of_ble_eq_true rfl) ?_
    refine p4_count hm hz (fun σ' hf hm => ?_)
    have hF0 := hF0.tr hf
    refine wp_i2l dX4_digest_22 ?_
    refine wp_ladd dX4_digest_23 ?_
    refine wp_lstN (L' := [some (vr _), some (vl _), none, some (vi _)]) dX4_digest_24 (Nat.le_of_ble_eq_true rfl) rfl ?_
    refine wp_iincN (L' := [some (vr _), some (vl _), none, some (vi _)]) dX4_digest_25 rfl (by omega) rfl ?_
    refine wp_gotoN 6 dX4_digest_28 (by decide) ?_
    refine wp_iload_n dX4_digest_6 rfl ?_
    refine wp_bipush dX4_digest_7 (by decide) ?_
    refine wp_ic_ge 31 dX4_digest_9 (by decide) (fun hh9 => ?_) (fun hh9 => ?_)
    · exact absurd hh9 (by decide)
    · refine wp_ldc2 dX4_digest_12 llX4_236 ?_
      refine wp_lload_n dX4_digest_15 rfl ?_
      refine wp_lmul dX4_digest_16 ?_
      refine wp_aload_n dX4_digest_17 rfl ?_
      refine wp_iload_n dX4_digest_18 rfl ?_
      refine wp_V1 dX4_digest_19 vlX4_243 (by decide) rfl (Nat.le_of_ble_eq_true rfl) ?_
      refine p4_count hm hz (fun σ' hf hm => ?_)
      have hF0 := hF0.tr hf
      refine wp_i2l dX4_digest_22 ?_
      refine wp_ladd dX4_digest_23 ?_
      refine wp_lstN (L' := [some (vr _), some (vl _), none, some (vi _)]) dX4_digest_24 (Nat.le_of_ble_eq_true rfl) rfl ?_
      refine wp_iincN (L' := [some (vr _), some (vl _), none, some (vi _)]) dX4_digest_25 rfl (by omega) rfl ?_
      refine wp_gotoN 6 dX4_digest_28 (by decide) ?_
      refine wp_iload_n dX4_digest_6 rfl ?_
      refine wp_bipush dX4_digest_7 (by decide) ?_
      refine wp_ic_ge 31 dX4_digest_9 (by decide) (fun hh9 => ?_) (fun hh9 => ?_)
      · exact absurd hh9 (by decide)
      · refine wp_ldc2 dX4_digest_12 llX4_236 ?_
        refine wp_lload_n dX4_digest_15 rfl ?_
        refine wp_lmul dX4_digest_16 ?_
        refine wp_aload_n dX4_digest_17 rfl ?_
        refine wp_iload_n dX4_digest_18 rfl ?_
        refine wp_V1 dX4_digest_19 vlX4_243 (by decide) rfl (Nat.le_of_ble_eq_true rfl) ?_
        refine p4_count hm hz (fun σ' hf hm => ?_)
        have hF0 := hF0.tr hf
        refine wp_i2l dX4_digest_22 ?_
        refine wp_ladd dX4_digest_23 ?_
        refine wp_lstN (L' := [some (vr _), some (vl _), none, some (vi _)]) dX4_digest_24 (Nat.le_of_ble_eq_true rfl) rfl ?_
        refine wp_iincN (L' := [some (vr _), some (vl _), none, some (vi _)]) dX4_digest_25 rfl (by omega) rfl ?_
        refine wp_gotoN 6 dX4_digest_28 (by decide) ?_
        refine wp_iload_n dX4_digest_6 rfl ?_
        refine wp_bipush dX4_digest_7 (by decide) ?_
        refine wp_ic_ge 31 dX4_digest_9 (by decide) (fun hh9 => ?_) (fun hh9 => ?_)
        · exact absurd hh9 (by decide)
        · refine wp_ldc2 dX4_digest_12 llX4_236 ?_
          refine wp_lload_n dX4_digest_15 rfl ?_
          refine wp_lmul dX4_digest_16 ?_
          refine wp_aload_n dX4_digest_17 rfl ?_
          refine wp_iload_n dX4_digest_18 rfl ?_
          refine wp_V1 dX4_digest_19 vlX4_243 (by decide) rfl (Nat.le_of_ble_eq_true rfl) ?_
          refine p4_count hm hz (fun σ' hf hm => ?_)
          have hF0 := hF0.tr hf
          refine wp_i2l dX4_digest_22 ?_
          refine wp_ladd dX4_digest_23 ?_
          refine wp_lstN (L' := [some (vr _), some (vl _), none, some (vi _)]) dX4_digest_24 (Nat.le_of_ble_eq_true rfl) rfl ?_
          refine wp_iincN (L' := [some (vr _), some (vl _), none, some (vi _)]) dX4_digest_25 rfl (by omega) rfl ?_
          refine wp_gotoN 6 dX4_digest_28 (by decide) ?_
          refine wp_iload_n dX4_digest_6 rfl ?_
          refine wp_bipush dX4_digest_7 (by decide) ?_
          refine wp_ic_ge 31 dX4_digest_9 (by decide) (fun hh9 => ?_) (fun hh9 => ?_)
          · exact absurd hh9 (by decide)
          · refine wp_ldc2 dX4_digest_12 llX4_236 ?_
            refine wp_lload_n dX4_digest_15 rfl ?_
            refine wp_lmul dX4_digest_16 ?_
            refine wp_aload_n dX4_digest_17 rfl ?_
            refine wp_iload_n dX4_digest_18 rfl ?_
            refine wp_V1 dX4_digest_19 vlX4_243 (by decide) rfl (Nat.le_of_ble_eq_true rfl) ?_
            refine p4_count hm hz (fun σ' hf hm => ?_)
            have hF0 := hF0.tr hf
            refine wp_i2l dX4_digest_22 ?_
            refine wp_ladd dX4_digest_23 ?_
            refine wp_lstN (L' := [some (vr _), some (vl _), none, some (vi _)]) dX4_digest_24 (Nat.le_of_ble_eq_true rfl) rfl ?_
            refine wp_iincN (L' := [some (vr _), some (vl _), none, some (vi _)]) dX4_digest_25 rfl (by omega) rfl ?_
            refine wp_gotoN 6 dX4_digest_28 (by decide) ?_
            refine wp_iload_n dX4_digest_6 rfl ?_
            refine wp_bipush dX4_digest_7 (by decide) ?_
            refine wp_ic_ge 31 dX4_digest_9 (by decide) (fun hh9 => ?_) (fun hh9 => ?_)
            · exact absurd hh9 (by decide)
            · refine wp_ldc2 dX4_digest_12 llX4_236 ?_
              refine wp_lload_n dX4_digest_15 rfl ?_
              refine wp_lmul dX4_digest_16 ?_
              refine wp_aload_n dX4_digest_17 rfl ?_
              refine wp_iload_n dX4_digest_18 rfl ?_
              refine wp_V1 dX4_digest_19 vlX4_243 (by decide) rfl (Nat.le_of_ble_eq_true rfl) ?_
              refine p4_count hm hz (fun σ' hf hm => ?_)
              have hF0 := hF0.tr hf
              refine wp_i2l dX4_digest_22 ?_
              refine wp_ladd dX4_digest_23 ?_
              refine wp_lstN (L' := [some (vr _), some (vl _), none, some (vi _)]) dX4_digest_24 (Nat.le_of_ble_eq_true rfl) rfl ?_
              refine wp_iincN (L' := [some (vr _), some (vl _), none, some (vi _)]) dX4_digest_25 rfl (by omega) rfl ?_
              refine wp_gotoN 6 dX4_digest_28 (by decide) ?_
              refine wp_iload_n dX4_digest_6 rfl ?_
              refine wp_bipush dX4_digest_7 (by decide) ?_
              refine wp_ic_ge 31 dX4_digest_9 (by decide) (fun hh9 => ?_) (fun hh9 => ?_)
              · exact absurd hh9 (by decide)
              · refine wp_ldc2 dX4_digest_12 llX4_236 ?_
                refine wp_lload_n dX4_digest_15 rfl ?_
                refine wp_lmul dX4_digest_16 ?_
                refine wp_aload_n dX4_digest_17 rfl ?_
                refine wp_iload_n dX4_digest_18 rfl ?_
                refine wp_V1 dX4_digest_19 vlX4_243 (by decide) rfl (Nat.le_of_ble_eq_true rfl) ?_
                refine p4_count hm hz (fun σ' hf hm => ?_)
                have hF0 := hF0.tr hf
                refine wp_i2l dX4_digest_22 ?_
                refine wp_ladd dX4_digest_23 ?_
                refine wp_lstN (L' := [some (vr _), some (vl _), none, some (vi _)]) dX4_digest_24 (Nat.le_of_ble_eq_true rfl) rfl ?_
                refine wp_iincN (L' := [some (vr _), some (vl _), none, some (vi _)]) dX4_digest_25 rfl (by omega) rfl ?_
                refine wp_gotoN 6 dX4_digest_28 (by decide) ?_
                refine wp_iload_n dX4_digest_6 rfl ?_
                refine wp_bipush dX4_digest_7 (by decide) ?_
                refine wp_ic_ge 31 dX4_digest_9 (by decide) (fun hh9 => ?_) (fun hh9 => ?_)
                · exact absurd hh9 (by decide)
                · refine wp_ldc2 dX4_digest_12 llX4_236 ?_
                  refine wp_lload_n dX4_digest_15 rfl ?_
                  refine wp_lmul dX4_digest_16 ?_
                  refine wp_aload_n dX4_digest_17 rfl ?_
                  refine wp_iload_n dX4_digest_18 rfl ?_
                  refine wp_V1 dX4_digest_19 vlX4_243 (by decide) rfl (Nat.le_of_ble_eq_true rfl) ?_
                  refine p4_count hm hz (fun σ' hf hm => ?_)
                  have hF0 := hF0.tr hf
                  refine wp_i2l dX4_digest_22 ?_
                  refine wp_ladd dX4_digest_23 ?_
                  refine wp_lstN (L' := [some (vr _), some (vl _), none, some (vi _)]) dX4_digest_24 (Nat.le_of_ble_eq_true rfl) rfl ?_
                  refine wp_iincN (L' := [some (vr _), some (vl _), none, some (vi _)]) dX4_digest_25 rfl (by omega) rfl ?_
                  refine wp_gotoN 6 dX4_digest_28 (by decide) ?_
                  refine wp_iload_n dX4_digest_6 rfl ?_
                  refine wp_bipush dX4_digest_7 (by decide) ?_
                  refine wp_ic_ge 31 dX4_digest_9 (by decide) (fun hh9 => ?_) (fun hh9 => ?_)
                  · refine wp_ldc2 dX4_digest_31 llX4_236 ?_
                    refine wp_lload_n dX4_digest_34 rfl ?_
                    refine wp_lmul dX4_digest_35 ?_
                    refine wp_aload_n dX4_digest_36 rfl ?_
                    refine wp_V0 dX4_digest_37 vlX4_85 (by decide) rfl (Nat.le_of_ble_eq_true rfl) ?_
                    refine s4_faultNow hz.1 hm.2.1 hm.1 (fun σ9 f0 f1 f2 f3 f4 => ?_)
                    rw [pf_f]
                    obtain ⟨hf9, hr9⟩ := pf_rd hm hz f0 f1 f2 f3 f4
                    refine wp_i2l dX4_digest_40 ?_
                    refine wp_ladd dX4_digest_41 ?_
                    refine wp_lstN (L' := [some (vr _), some (vl _), none, some (vi _)]) dX4_digest_42 (Nat.le_of_ble_eq_true rfl) rfl ?_
                    refine wp_iconst dX4_digest_43 (by decide) ?_
                    refine wp_istN (L' := [some (vr _), some (vl _), none, some (vi _)]) dX4_digest_44 (Nat.le_of_ble_eq_true rfl) rfl ?_
                    refine l4_dc hz (ggn (Gz z)).toNat 0 _ σ9 (by omega) (hF0.tr hf9) hr9 rfl (fun σ2 hF2 hr2 => ?_)
                    refine wp_iconst dX4_digest_66 (by decide) ?_
                    refine wp_istN (L' := [some (vr _), some (vl _), none, some (vi _)]) dX4_digest_67 (Nat.le_of_ble_eq_true rfl) rfl ?_
                    refine l4_dt hz (zn z) 0 _ σ2 (by omega) hF2 hr2.1 rfl (fun σ3 hF0 hm => ?_)
                    refine wp_ldc2 dX4_digest_124 llX4_236 ?_
                    refine wp_lload_n dX4_digest_127 rfl ?_
                    refine wp_lmul dX4_digest_128 ?_
                    refine wp_aload_n dX4_digest_129 rfl ?_
                    refine wp_V0 dX4_digest_130 vlX4_133 (by decide) rfl (Nat.le_of_ble_eq_true rfl) ?_
                    refine s4_longestNow hm hz (fun σ' hf hm => ?_)
                    have hF0 := hF0.tr hf
                    refine wp_i2l dX4_digest_133 ?_
                    refine wp_ladd dX4_digest_134 ?_
                    refine wp_lstN (L' := [some (vr _), some (vl _), none, some (vi _)]) dX4_digest_135 (Nat.le_of_ble_eq_true rfl) rfl ?_
                    refine wp_ldc2 dX4_digest_136 llX4_236 ?_
                    refine wp_lload_n dX4_digest_139 rfl ?_
                    refine wp_lmul dX4_digest_140 ?_
                    refine wp_aload_n dX4_digest_141 rfl ?_
                    refine wp_iconst dX4_digest_142 (by decide) ?_
                    refine wp_iconst dX4_digest_143 (by decide) ?_
                    refine wp_V2 dX4_digest_144 vlX4_250 (by decide) rfl (Nat.le_of_ble_eq_true rfl) ?_
                    refine p4_meet hm hz (fun σ' hf hm => ?_)
                    have hF0 := hF0.tr hf
                    refine wp_i2l dX4_digest_147 ?_
                    refine wp_ladd dX4_digest_148 ?_
                    refine wp_lstN (L' := [some (vr _), some (vl _), none, some (vi _)]) dX4_digest_149 (Nat.le_of_ble_eq_true rfl) rfl ?_
                    refine wp_ldc2 dX4_digest_150 llX4_236 ?_
                    refine wp_lload_n dX4_digest_153 rfl ?_
                    refine wp_lmul dX4_digest_154 ?_
                    refine wp_aload_n dX4_digest_155 rfl ?_
                    refine wp_iconst dX4_digest_156 (by decide) ?_
                    refine wp_iconst dX4_digest_157 (by decide) ?_
                    refine wp_iconst dX4_digest_158 (by decide) ?_
                    refine wp_V3 dX4_digest_159 vlX4_253 (by decide) rfl (Nat.le_of_ble_eq_true rfl) ?_
                    refine p4_race hm hz (fun σ' hf hm => ?_)
                    have hF0 := hF0.tr hf
                    refine wp_i2l dX4_digest_162 ?_
                    refine wp_ladd dX4_digest_163 ?_
                    refine wp_lstN (L' := [some (vr _), some (vl _), none, some (vi _)]) dX4_digest_164 (Nat.le_of_ble_eq_true rfl) rfl ?_
                    refine wp_ldc2 dX4_digest_165 llX4_236 ?_
                    refine wp_lload_n dX4_digest_168 rfl ?_
                    refine wp_lmul dX4_digest_169 ?_
                    refine wp_aload_n dX4_digest_170 rfl ?_
                    refine wp_iconst dX4_digest_171 (by decide) ?_
                    refine wp_iconst dX4_digest_172 (by decide) ?_
                    refine wp_V2 dX4_digest_173 vlX4_256 (by decide) rfl (Nat.le_of_ble_eq_true rfl) ?_
                    refine p4_plug hm hz (fun σ' hf hm => ?_)
                    have hF0 := hF0.tr hf
                    refine wp_i2l dX4_digest_176 ?_
                    refine wp_ladd dX4_digest_177 ?_
                    refine wp_lstN (L' := [some (vr _), some (vl _), none, some (vi _)]) dX4_digest_178 (Nat.le_of_ble_eq_true rfl) rfl ?_
                    refine wp_ldc2 dX4_digest_179 llX4_236 ?_
                    refine wp_lload_n dX4_digest_182 rfl ?_
                    refine wp_lmul dX4_digest_183 ?_
                    refine wp_aload_n dX4_digest_184 rfl ?_
                    refine wp_iconst dX4_digest_185 (by decide) ?_
                    refine wp_iconst dX4_digest_186 (by decide) ?_
                    refine wp_V2 dX4_digest_187 vlX4_256 (by decide) rfl (Nat.le_of_ble_eq_true rfl) ?_
                    refine p4_plug hm hz (fun σ' hf hm => ?_)
                    have hF0 := hF0.tr hf
                    refine wp_i2l dX4_digest_190 ?_
                    refine wp_ladd dX4_digest_191 ?_
                    refine wp_lstN (L' := [some (vr _), some (vl _), none, some (vi _)]) dX4_digest_192 (Nat.le_of_ble_eq_true rfl) rfl ?_
                    refine wp_ldc2 dX4_digest_193 llX4_236 ?_
                    refine wp_lload_n dX4_digest_196 rfl ?_
                    refine wp_lmul dX4_digest_197 ?_
                    refine wp_aload_n dX4_digest_198 rfl ?_
                    refine wp_V0 dX4_digest_199 vlX4_188 (by decide) rfl (Nat.le_of_ble_eq_true rfl) ?_
                    refine s4_whereNow hm hz ?_
                    refine wp_i2l dX4_digest_202 ?_
                    refine wp_ladd dX4_digest_203 ?_
                    refine wp_lstN (L' := [some (vr _), some (vl _), none, some (vi _)]) dX4_digest_204 (Nat.le_of_ble_eq_true rfl) rfl ?_
                    refine wp_ldc2 dX4_digest_205 llX4_236 ?_
                    refine wp_lload_n dX4_digest_208 rfl ?_
                    refine wp_lmul dX4_digest_209 ?_
                    refine wp_aload_n dX4_digest_210 rfl ?_
                    refine wp_V0 dX4_digest_211 vlX4_191 (by decide) rfl (Nat.le_of_ble_eq_true rfl) ?_
                    refine s4_hangNow hm hz (fun σ' hf hm => ?_)
                    have hF0 := hF0.tr hf
                    refine wp_i2l dX4_digest_214 ?_
                    refine wp_ladd dX4_digest_215 ?_
                    refine wp_lstN (L' := [some (vr _), some (vl _), none, some (vi _)]) dX4_digest_216 (Nat.le_of_ble_eq_true rfl) rfl ?_
                    refine wp_ldc2 dX4_digest_217 llX4_236 ?_
                    refine wp_lload_n dX4_digest_220 rfl ?_
                    refine wp_lmul dX4_digest_221 ?_
                    refine wp_aload_n dX4_digest_222 rfl ?_
                    refine wp_V0 dX4_digest_223 vlX4_197 (by decide) rfl (Nat.le_of_ble_eq_true rfl) ?_
                    refine s4_joinedNow hm hz (fun σ' hf hm => ?_)
                    have hF0 := hF0.tr hf
                    refine wp_i2l dX4_digest_226 ?_
                    refine wp_ladd dX4_digest_227 ?_
                    refine wp_lstN (L' := [some (vr _), some (vl _), none, some (vi _)]) dX4_digest_228 (Nat.le_of_ble_eq_true rfl) rfl ?_
                    refine wp_ldc2 dX4_digest_229 llX4_236 ?_
                    refine wp_lload_n dX4_digest_232 rfl ?_
                    refine wp_lmul dX4_digest_233 ?_
                    refine wp_aload_n dX4_digest_234 rfl ?_
                    refine wp_iconst dX4_digest_235 (by decide) ?_
                    refine wp_V1 dX4_digest_236 vlX4_200 (by decide) rfl (Nat.le_of_ble_eq_true rfl) ?_
                    refine s4_likeOf hm hz (by omega) (fun σ' hf hm => ?_)
                    have hF0 := hF0.tr hf
                    refine wp_i2l dX4_digest_239 ?_
                    refine wp_ladd dX4_digest_240 ?_
                    refine wp_lstN (L' := [some (vr _), some (vl _), none, some (vi _)]) dX4_digest_241 (Nat.le_of_ble_eq_true rfl) rfl ?_
                    refine wp_ldc2 dX4_digest_242 llX4_236 ?_
                    refine wp_lload_n dX4_digest_245 rfl ?_
                    refine wp_lmul dX4_digest_246 ?_
                    refine wp_aload_n dX4_digest_247 rfl ?_
                    refine wp_iconst dX4_digest_248 (by decide) ?_
                    refine wp_iconst dX4_digest_249 (by decide) ?_
                    refine wp_iconst dX4_digest_250 (by decide) ?_
                    refine wp_V3 dX4_digest_251 vlX4_259 (by decide) rfl (Nat.le_of_ble_eq_true rfl) ?_
                    refine p4_flood hm hz (fun σ' hf hm => ?_)
                    have hF0 := hF0.tr hf
                    refine wp_ladd dX4_digest_254 ?_
                    refine wp_lstN (L' := [some (vr _), some (vl _), none, some (vi _)]) dX4_digest_255 (Nat.le_of_ble_eq_true rfl) rfl ?_
                    refine wp_ldc2 dX4_digest_256 llX4_236 ?_
                    refine wp_lload_n dX4_digest_259 rfl ?_
                    refine wp_lmul dX4_digest_260 ?_
                    refine wp_aload_n dX4_digest_261 rfl ?_
                    refine wp_iconst dX4_digest_262 (by decide) ?_
                    refine wp_iconst dX4_digest_263 (by decide) ?_
                    refine wp_iconst dX4_digest_264 (by decide) ?_
                    refine wp_V3 dX4_digest_265 vlX4_259 (by decide) rfl (Nat.le_of_ble_eq_true rfl) ?_
                    refine p4_flood hm hz (fun σ' hf hm => ?_)
                    have hF0 := hF0.tr hf
                    refine wp_ladd dX4_digest_268 ?_
                    refine wp_lstN (L' := [some (vr _), some (vl _), none, some (vi _)]) dX4_digest_269 (Nat.le_of_ble_eq_true rfl) rfl ?_
                    refine wp_ldc2 dX4_digest_270 llX4_236 ?_
                    refine wp_lload_n dX4_digest_273 rfl ?_
                    refine wp_lmul dX4_digest_274 ?_
                    refine wp_aload_n dX4_digest_275 rfl ?_
                    refine wp_bipush dX4_digest_276 (by decide) ?_
                    refine wp_iconst dX4_digest_278 (by decide) ?_
                    refine wp_bipush dX4_digest_279 (by decide) ?_
                    refine wp_V3 dX4_digest_281 vlX4_262 (by decide) rfl (Nat.le_of_ble_eq_true rfl) ?_
                    refine p4_kicks hm hz (fun σ' hf hm => ?_)
                    have hF0 := hF0.tr hf
                    refine wp_i2l dX4_digest_284 ?_
                    refine wp_ladd dX4_digest_285 ?_
                    refine wp_lret dX4_digest_286 rfl ?_
                    exact hQ _ hF0 hm
                  · exact absurd hh9 (by decide)
