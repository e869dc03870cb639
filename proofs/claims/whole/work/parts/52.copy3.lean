theorem SH.cp {σ : aS} {h f n : Nat → Int} {it : Nat → Nat → Int} {s t i j m : Nat} (q : SH σ h f n it) (hs : s < 4) (ht : t < 4) (hi : i + m ≤ 48) (hj : j + m ≤ 48) : SH (sC σ (9 + s) i (9 + t) j m) h f n (up2 it t (fun k => if j ≤ k ∧ k < j + m then it s (i + (k - j)) else it t k)) := fun u hu => by
  have e : ∀ c k, c ≠ 9 + t → (sC σ (9 + s) i (9 + t) j m).1 c k = σ.1 c k := fun c k hc => if_neg (fun w => hc w.1)
  rw [e _ _ (by omega), e _ _ (by omega), e _ _ (by omega)]
  refine ⟨(q u hu).1, (q u hu).2.1, (q u hu).2.2.1, fun k hk => ?_⟩
  unfold up2
  by_cases eu : u = t
  · rw [if_pos eu]
    subst eu
    show (if 9 + u = 9 + u ∧ (j ≤ k ∧ k < j + m) then σ.1 (9 + s) (i + (k - j)) else σ.1 (9 + u) k) = _
    by_cases w : j ≤ k ∧ k < j + m
    · rw [if_pos w, if_pos ⟨rfl, w⟩]; exact (q s hs).2.2.2 _ (by omega)
    · rw [if_neg w, if_neg (fun w2 => w w2.2)]; exact (q u hu).2.2.2 k hk
  · rw [if_neg eu, e _ _ (by omega)]; exact (q u hu).2.2.2 k hk
theorem CI.cp {σ : aS} {z : aZ} {s t i j m : Nat} (hc : CI σ z) (hs : s < 4) (ht : t < 4) (hi : i + m ≤ 48) (hj : j + m ≤ 48) : CI (sC σ (9 + s) i (9 + t) j m) (cpK z s t i j m) := by
  have e : ∀ c k, c ≠ 9 + t → (sC σ (9 + s) i (9 + t) j m).1 c k = σ.1 c k := fun c k hc => if_neg (fun w => hc w.1)
  exact hc.S (fun c k q _ => e c k (by omega)) rfl (hc.sh.cp hs ht hi hj) (by rw [e _ _ (by omega)]; exact hc.1.2.2.2.2.2.2.2.2.2)
set_option maxRecDepth 20000 in
theorem p3_copy {d : Nat} {σ : aS} {Q : aQ} {s i t j n : Int} {z : aZ} (hc : CI σ z) (hz : ZV z) (hQ : ∀ σ', Fry σ σ' → CI σ' (uCopy z s i t j n) → Q (some (vi (vCopy z s i t j n))) σ') : aCall 34 (d + 2) mX3_copy [vr 0, vi s, vi i, vi t, vi j, vi n] σ Q := by
  refine cl_in (own := RX3) (cc := cX3_copy) (rk := 0) (L := [some (vr 0), some (vi s), some (vi i), some (vi t), some (vi j), some (vi n), none, none]) rfl rfl rfl rfl (by decide) (Nat.le_of_ble_eq_true rfl) ?_
  have hs4 := hc.sh
  refine wp_iload_n dX3_copy_0 rfl ?_
  refine wp_S1 dX3_copy_1 zlX3_90 (Nat.le_of_ble_eq_true rfl) ?_
  refine s3_isSheet ?_
  refine wp_ifB_eq 14 dX3_copy_4 (by decide) (fun hh4 => ?_) (fun hh4 => ?_)
  · refine wp_bipush dX3_copy_14 (by decide) ?_
    refine wp_iret dX3_copy_16 (Or.inl rfl) ?_
    have hno : ¬ (isSh s ∧ isSh t) := fun q => by first | exact hh4 q.1 | exact hh11 q.2
    have e0 : vCopy z s i t j n = -2 := by unfold vCopy; rw [if_neg hno]
    have e1 : uCopy z s i t j n = z := by unfold uCopy; rw [if_neg hno]
    rw [e0, e1] at hQ
    exact hQ σ Fry.rf hc
  · refine wp_iload_n dX3_copy_7 rfl ?_
    refine wp_S1 dX3_copy_8 zlX3_90 (Nat.le_of_ble_eq_true rfl) ?_
    refine s3_isSheet ?_
    refine wp_ifB_ne 17 dX3_copy_11 (by decide) (fun hh11 => ?_) (fun hh11 => ?_)
    · have hsn := isSh_n hh4
      have htn := isSh_n hh11
      have hst : isSh s ∧ isSh t := ⟨hh4, hh11⟩
      obtain ⟨a1, a2, a3, a4⟩ := hs4 s.toNat hsn.1
      obtain ⟨b1, b2, b3, b4⟩ := hs4 t.toNat htn.1
      obtain ⟨c1, c2, c3, c4, c5⟩ := hz.2.2.2.2.2.2.2 s.toNat hsn.1
      obtain ⟨k1, k2, k3, k4, k5⟩ := hz.2.2.2.2.2.2.2 t.toNat htn.1
      refine wp_aload_n dX3_copy_17 rfl ?_
      refine wp_getR dX3_copy_18 flX3_31 (by omega) rfl rfl ?_
      refine wp_iload_n dX3_copy_21 rfl ?_
      refine wp_aaload dX3_copy_22 (by omega) rfl (by omega) (by omega) (by decide) ?_
      refine wp_ast (L' := [some (vr _), some (vi _), some (vi _), some (vi _), some (vi _), some (vi _), some (vr _), none]) dX3_copy_23 (Nat.le_of_ble_eq_true rfl) rfl ?_
      refine wp_aload_n dX3_copy_25 rfl ?_
      refine wp_getR dX3_copy_26 flX3_31 (by omega) rfl rfl ?_
      refine wp_iload_n dX3_copy_29 rfl ?_
      refine wp_aaload dX3_copy_30 (by omega) rfl (by omega) (by omega) (by decide) ?_
      refine wp_ast (L' := [some (vr _), some (vi _), some (vi _), some (vi _), some (vi _), some (vi _), some (vr _), some (vr _)]) dX3_copy_31 (Nat.le_of_ble_eq_true rfl) rfl ?_
      refine wp_aload dX3_copy_33 rfl ?_
      refine wp_getI dX3_copy_35 flX3_93 (by omega) (cdS (by omega)) (Or.inr rfl) ?_
      refine wp_if_ne 49 dX3_copy_38 (by decide) (fun hh38 => ?_) (fun hh38 => ?_)
      · refine wp_aload_n dX3_copy_49 rfl ?_
        refine wp_iconst dX3_copy_50 (by decide) ?_
        refine wp_V1 dX3_copy_51 vlX3_97 (by omega) rfl (Nat.le_of_ble_eq_true rfl) ?_
        refine s3_found (by omega) (by omega) ?_
        refine wp_iret dX3_copy_54 (Or.inl rfl) ?_
        have hl : zh z s.toNat = 0 ∨ zh z t.toNat = 0 := by omega
        have e0 : vCopy z s i t j n = -11 := by unfold vCopy; rw [if_pos hst, if_pos hl]
        have e1 : uCopy z s i t j n = zFind z 1 := by unfold uCopy; rw [if_pos hst, if_pos hl]
        rw [e0, e1] at hQ
        exact hQ _ (Fry.rf.put (by decide)) hc.find
      · refine wp_aload dX3_copy_41 rfl ?_
        refine wp_getI dX3_copy_43 flX3_93 (by omega) (cdS (by omega)) (Or.inr rfl) ?_
        refine wp_if_eq 55 dX3_copy_46 (by decide) (fun hh46 => ?_) (fun hh46 => ?_)
        · refine wp_aload dX3_copy_55 rfl ?_
          refine wp_getI dX3_copy_57 flX3_212 (by omega) (cdS (by omega)) (Or.inl rfl) ?_
          refine wp_aload dX3_copy_60 rfl ?_
          refine wp_getI dX3_copy_62 flX3_212 (by omega) (cdS (by omega)) (Or.inl rfl) ?_
          refine wp_ic_eq 74 dX3_copy_65 (by decide) (fun hh65 => ?_) (fun hh65 => ?_)
          · refine wp_aload dX3_copy_74 rfl ?_
            refine wp_iload_n dX3_copy_76 rfl ?_
            refine wp_iload dX3_copy_77 rfl ?_
            refine wp_V2 dX3_copy_79 vlX3_215 (by omega) (cdS (by omega)) (Nat.le_of_ble_eq_true rfl) ?_
            refine s1_holds hsn.1 a3 c4 c5 ?_
            refine wp_ifB_eq 97 dX3_copy_82 (by decide) (fun hh82 => ?_) (fun hh82 => ?_)
            · refine wp_aload_n dX3_copy_97 rfl ?_
              refine wp_iconst dX3_copy_98 (by decide) ?_
              refine wp_V1 dX3_copy_99 vlX3_97 (by omega) rfl (Nat.le_of_ble_eq_true rfl) ?_
              refine s3_found (by omega) (by omega) ?_
              refine wp_iret dX3_copy_102 (Or.inl rfl) ?_
              have hl : ¬ (zh z s.toNat = 0 ∨ zh z t.toNat = 0) := by omega
              have hno : ¬ okCp z s.toNat t.toNat i j n := by unfold okCp; omega
              have e0 : vCopy z s i t j n = -12 := by unfold vCopy; rw [if_pos hst, if_neg hl, if_neg (by omega), cif_f hno]
              have e1 : uCopy z s i t j n = zFind z 2 := by unfold uCopy; rw [if_pos hst, if_neg hl, if_neg (by omega), cif_f hno]
              rw [e0, e1] at hQ
              exact hQ _ (Fry.rf.put (by decide)) hc.find
            · refine wp_aload dX3_copy_85 rfl ?_
              refine wp_iload dX3_copy_87 rfl ?_
              refine wp_iload dX3_copy_89 rfl ?_
              refine wp_V2 dX3_copy_91 vlX3_215 (by omega) (cdS (by omega)) (Nat.le_of_ble_eq_true rfl) ?_
              refine s1_holds htn.1 b3 k4 k5 ?_
              refine wp_ifB_ne 103 dX3_copy_94 (by decide) (fun hh94 => ?_) (fun hh94 => ?_)
              · refine wp_aload dX3_copy_103 rfl ?_
                refine wp_getR dX3_copy_105 flX3_103 (by omega) (cdS (by omega)) rfl ?_
                refine wp_iload_n dX3_copy_108 rfl ?_
                refine wp_aload dX3_copy_109 rfl ?_
                refine wp_getR dX3_copy_111 flX3_103 (by omega) (cdS (by omega)) rfl ?_
                refine wp_iload dX3_copy_114 rfl ?_
                refine wp_iload dX3_copy_116 rfl ?_
                refine wp_acopy dX3_copy_118 ylX3_219 (Nat.le_of_ble_eq_true rfl) (by omega) (cdT (by omega)) (by omega) (cdT (by omega)) (by decide) (by decide) (by omega) (by omega) (by omega) (by omega) (by omega) ?_
                refine wp_iconst dX3_copy_121 (by decide) ?_
                refine wp_iret dX3_copy_122 (Or.inl rfl) ?_
                have hl : ¬ (zh z s.toNat = 0 ∨ zh z t.toNat = 0) := by omega
                have hok : okCp z s.toNat t.toNat i j n := by unfold okCp; omega
                have e0 : vCopy z s i t j n = 1 := by unfold vCopy; rw [if_pos hst, if_neg hl, if_neg (by omega), cif_t hok]
                have e1 : uCopy z s i t j n = cpK z s.toNat t.toNat i.toNat j.toNat n.toNat := by unfold uCopy; rw [if_pos hst, if_neg hl, if_neg (by omega), cif_t hok]
                rw [e0, e1] at hQ
                exact hQ _ (fun c k q => if_neg (fun w => by omega)) (hc.cp hsn.1 htn.1 (by omega) (by omega))
              · refine wp_aload_n dX3_copy_97 rfl ?_
                refine wp_iconst dX3_copy_98 (by decide) ?_
                refine wp_V1 dX3_copy_99 vlX3_97 (by omega) rfl (Nat.le_of_ble_eq_true rfl) ?_
                refine s3_found (by omega) (by omega) ?_
                refine wp_iret dX3_copy_102 (Or.inl rfl) ?_
                have hl : ¬ (zh z s.toNat = 0 ∨ zh z t.toNat = 0) := by omega
                have hno : ¬ okCp z s.toNat t.toNat i j n := by unfold okCp; omega
                have e0 : vCopy z s i t j n = -12 := by unfold vCopy; rw [if_pos hst, if_neg hl, if_neg (by omega), cif_f hno]
                have e1 : uCopy z s i t j n = zFind z 2 := by unfold uCopy; rw [if_pos hst, if_neg hl, if_neg (by omega), cif_f hno]
                rw [e0, e1] at hQ
                exact hQ _ (Fry.rf.put (by decide)) hc.find
          · refine wp_aload_n dX3_copy_68 rfl ?_
            refine wp_iconst dX3_copy_69 (by decide) ?_
            refine wp_V1 dX3_copy_70 vlX3_97 (by omega) rfl (Nat.le_of_ble_eq_true rfl) ?_
            refine s3_found (by omega) (by omega) ?_
            refine wp_iret dX3_copy_73 (Or.inl rfl) ?_
            have hl : ¬ (zh z s.toNat = 0 ∨ zh z t.toNat = 0) := by omega
            have e0 : vCopy z s i t j n = -14 := by unfold vCopy; rw [if_pos hst, if_neg hl, if_pos (by omega)]
            have e1 : uCopy z s i t j n = zFind z 4 := by unfold uCopy; rw [if_pos hst, if_neg hl, if_pos (by omega)]
            rw [e0, e1] at hQ
            exact hQ _ (Fry.rf.put (by decide)) hc.find
        · refine wp_aload_n dX3_copy_49 rfl ?_
          refine wp_iconst dX3_copy_50 (by decide) ?_
          refine wp_V1 dX3_copy_51 vlX3_97 (by omega) rfl (Nat.le_of_ble_eq_true rfl) ?_
          refine s3_found (by omega) (by omega) ?_
          refine wp_iret dX3_copy_54 (Or.inl rfl) ?_
          have hl : zh z s.toNat = 0 ∨ zh z t.toNat = 0 := by omega
          have e0 : vCopy z s i t j n = -11 := by unfold vCopy; rw [if_pos hst, if_pos hl]
          have e1 : uCopy z s i t j n = zFind z 1 := by unfold uCopy; rw [if_pos hst, if_pos hl]
          rw [e0, e1] at hQ
          exact hQ _ (Fry.rf.put (by decide)) hc.find
    · refine wp_bipush dX3_copy_14 (by decide) ?_
      refine wp_iret dX3_copy_16 (Or.inl rfl) ?_
      have hno : ¬ (isSh s ∧ isSh t) := fun q => by first | exact hh4 q.1 | exact hh11 q.2
      have e0 : vCopy z s i t j n = -2 := by unfold vCopy; rw [if_neg hno]
      have e1 : uCopy z s i t j n = z := by unfold uCopy; rw [if_neg hno]
      rw [e0, e1] at hQ
      exact hQ σ Fry.rf hc
set_option maxRecDepth 20000 in
theorem l3_write {d : Nat} {σ0 : aS} {Q : aQ} {z : aZ} {c s : Int} (hz : ZV z) (hs : isSh s) (hcc : 0 ≤ c ∧ c ≤ ggn (Gz z) - 1) (hQ : ∀ σ', Fry σ0 σ' → CI σ' (uwN z c s.toNat (min (zz z s.toNat) (ggn (Gz z))).toNat) → Q (some (vi (min (zz z s.toNat) (ggn (Gz z))))) σ') : ∀ (r : Nat) (k : Nat) (σ : aS), k + r = (min (zz z s.toNat) (ggn (Gz z))).toNat → CI σ (uwN z c s.toNat k) → Fry σ0 σ → Wp RX3 cX3_write 34 (aCall 34 (d + 5)) Q 0 false 0 (fun _ => 0) 60 [some (vr 0), some (vi c), some (vi s), some (vr (5 + s.toNat)), some (vi (min (zz z s.toNat) (ggn (Gz z)))), some (vi (k : Int))] [] σ := by
  intro r
  induction r with
  | zero =>
    intro k σ hk hc hy
    have hu := uwN_V (z := z) hz c s.toNat k
    have hp := hc.pl
    rw [hu.2.2] at hp
    have hn := hp.n
    have hsn := isSh_n hs
    obtain ⟨c1, c2, c3, c4, c5⟩ := hz.2.2.2.2.2.2.2 s.toNat hsn.1
    refine wp_iload dX3_write_60 rfl ?_
    refine wp_iload dX3_write_62 rfl ?_
    refine wp_ic_ge 89 dX3_write_64 (by decide) (fun hh64 => ?_) (fun hh64 => ?_)
    · refine wp_iload dX3_write_89 rfl ?_
      refine wp_iret dX3_write_91 (Or.inl rfl) ?_
      exact hQ σ hy (by rw [show (min (zz z s.toNat) (ggn (Gz z))).toNat = k by omega]; exact hc)
    · exfalso; omega
  | succ r ih =>
    intro k σ hk hc hy
    have hu := uwN_V (z := z) hz c s.toNat k
    have hp := hc.pl
    rw [hu.2.2] at hp
    have hn := hp.n
    have hsn := isSh_n hs
    obtain ⟨c1, c2, c3, c4, c5⟩ := hz.2.2.2.2.2.2.2 s.toNat hsn.1
    refine wp_iload dX3_write_60 rfl ?_
    refine wp_iload dX3_write_62 rfl ?_
    refine wp_ic_ge 89 dX3_write_64 (by decide) (fun hh64 => ?_) (fun hh64 => ?_)
    · exfalso; omega
    · refine wp_aload_n dX3_write_67 rfl ?_
      refine wp_iload dX3_write_68 rfl ?_
      refine wp_aload_n dX3_write_70 rfl ?_
      refine wp_getR dX3_write_71 flX3_48 (by omega) rfl rfl ?_
      refine wp_iload_n dX3_write_74 rfl ?_
      refine wp_iload dX3_write_75 rfl ?_
      refine wp_V2 dX3_write_77 vlX3_125 (by omega) rfl (Nat.le_of_ble_eq_true rfl) ?_
      refine s2_between hc.pl hc.wy (fun σ2 f2 w2 => ?_)
      have hc := hc.fw f2 w2
      have hy := hy.tr (f2.y wA_y)
      refine wp_V2 dX3_write_80 vlX3_208 (by omega) (cdS (by omega)) (Nat.le_of_ble_eq_true rfl) ?_
      obtain ⟨a1, a2, a3, a4⟩ := hc.sh s.toNat hsn.1
      rw [hu.2.1] at a3
      refine s1_store hsn.1 a3 c5 a2 (by omega) (by omega) ?_
      refine wp_iincN (L' := [some (vr _), some (vi _), some (vi _), some (vr _), some (vi _), some (vi _)]) dX3_write_83 rfl (by omega) rfl ?_
      refine wp_gotoN 60 dX3_write_86 (by decide) ?_
      refine ih (k + 1) _ (by omega) ?_ (hy.put (by omega))
      have hk9 := hc.keep (s := s.toNat) (i := k) (v := btv (Gz (uwN z c s.toNat k)) c k) hsn.1
      rw [hu.2.2] at hk9 ⊢
      rw [btv_w (by omega) (by omega)] at hk9 ⊢
      exact hk9
set_option maxRecDepth 20000 in
theorem p3_write {d : Nat} {σ : aS} {Q : aQ} {c s : Int} {z : aZ} (hc : CI σ z) (hz : ZV z) (hQ : ∀ σ', Fry σ σ' → CI σ' (uWrite z c s) → Q (some (vi (vWrite z c s))) σ') : aCall 34 (d + 6) mX3_write [vr 0, vi c, vi s] σ Q := by
  refine cl_in (own := RX3) (cc := cX3_write) (rk := 0) (L := [some (vr 0), some (vi c), some (vi s), none, none, none]) rfl rfl rfl rfl (by decide) (Nat.le_of_ble_eq_true rfl) ?_
  have hs4 := hc.sh
  have hp := hc.pl
  have hn := hp.n
  refine wp_aload_n dX3_write_0 rfl ?_
  refine wp_getR dX3_write_1 flX3_39 (by omega) rfl rfl ?_
  refine wp_iload_n dX3_write_4 rfl ?_
  refine wp_V1 dX3_write_5 vlX3_61 (by omega) rfl (Nat.le_of_ble_eq_true rfl) ?_
  refine s0_isCell hp ?_
  refine wp_ifB_eq 18 dX3_write_8 (by decide) (fun hh8 => ?_) (fun hh8 => ?_)
  · refine wp_bipush dX3_write_18 (by decide) ?_
    refine wp_iret dX3_write_20 (Or.inl rfl) ?_
    have hno : ¬ ((0 ≤ c ∧ c ≤ ggn (Gz z) - 1) ∧ isSh s) := fun q => by first | exact hh8 q.1 | exact hh15 q.2
    have e0 : vWrite z c s = -2 := by unfold vWrite; rw [if_neg hno]
    have e1 : uWrite z c s = z := by unfold uWrite; rw [if_neg hno]
    rw [e0, e1] at hQ
    exact hQ σ Fry.rf hc
  · refine wp_iload_n dX3_write_11 rfl ?_
    refine wp_S1 dX3_write_12 zlX3_90 (Nat.le_of_ble_eq_true rfl) ?_
    refine s3_isSheet ?_
    refine wp_ifB_ne 21 dX3_write_15 (by decide) (fun hh15 => ?_) (fun hh15 => ?_)
    · have hsn := isSh_n hh15
      obtain ⟨a1, a2, a3, a4⟩ := hs4 s.toNat hsn.1
      obtain ⟨c1, c2, c3, c4, c5⟩ := hz.2.2.2.2.2.2.2 s.toNat hsn.1
      refine wp_aload_n dX3_write_21 rfl ?_
      refine wp_getR dX3_write_22 flX3_31 (by omega) rfl rfl ?_
      refine wp_iload_n dX3_write_25 rfl ?_
      refine wp_aaload dX3_write_26 (by omega) rfl (by omega) (by omega) (by decide) ?_
      refine wp_astN (L' := [some (vr _), some (vi _), some (vi _), some (vr _), none, none]) dX3_write_27 (Nat.le_of_ble_eq_true rfl) rfl ?_
      refine wp_aload_n dX3_write_28 rfl ?_
      refine wp_getI dX3_write_29 flX3_93 (by omega) (cdS (by omega)) (Or.inr rfl) ?_
      refine wp_if_eq 41 dX3_write_32 (by decide) (fun hh32 => ?_) (fun hh32 => ?_)
      · refine wp_aload_n dX3_write_41 rfl ?_
        refine wp_getI dX3_write_42 flX3_100 (by omega) (cdS (by omega)) (Or.inl rfl) ?_
        refine wp_aload_n dX3_write_45 rfl ?_
        refine wp_getR dX3_write_46 flX3_39 (by omega) rfl rfl ?_
        refine wp_getI dX3_write_49 flX3_135 (by omega) rfl (Or.inl rfl) ?_
        refine wp_mmin dX3_write_52 nlX3_225 (Nat.le_of_ble_eq_true rfl) ?_
        have em : (if σ.1 13 3 < σ.1 (5 + s.toNat) 2 then σ.1 13 3 else σ.1 (5 + s.toNat) 2) = min (zz z s.toNat) (ggn (Gz z)) := by
          rw [a3, hn.1]
          by_cases q : ggn (Gz z) < zz z s.toNat
          · rw [if_pos q]; omega
          · rw [if_neg q]; omega
        rw [em]
        refine wp_ist (L' := [some (vr _), some (vi _), some (vi _), some (vr _), some (vi _), none]) dX3_write_55 (Nat.le_of_ble_eq_true rfl) rfl ?_
        refine wp_iconst dX3_write_57 (by decide) ?_
        refine wp_ist (L' := [some (vr _), some (vi _), some (vi _), some (vr _), some (vi _), some (vi _)]) dX3_write_58 (Nat.le_of_ble_eq_true rfl) rfl ?_
        have e0 : vWrite z c s = min (zz z s.toNat) (ggn (Gz z)) := by unfold vWrite; rw [if_pos ⟨hh8, hh15⟩, if_neg (by omega)]
        have e1 : uWrite z c s = uwN z c s.toNat (min (zz z s.toNat) (ggn (Gz z))).toNat := by unfold uWrite; rw [if_pos ⟨hh8, hh15⟩, if_neg (by omega)]
        rw [e0, e1] at hQ
        exact l3_write hz hh15 hh8 hQ (min (zz z s.toNat) (ggn (Gz z))).toNat 0 σ (by omega) hc Fry.rf
      · refine wp_aload_n dX3_write_35 rfl ?_
        refine wp_iconst dX3_write_36 (by decide) ?_
        refine wp_V1 dX3_write_37 vlX3_97 (by omega) rfl (Nat.le_of_ble_eq_true rfl) ?_
        refine s3_found (by omega) (by omega) ?_
        refine wp_iret dX3_write_40 (Or.inl rfl) ?_
        have e0 : vWrite z c s = -11 := by unfold vWrite; rw [if_pos ⟨hh8, hh15⟩, if_pos (by omega)]
        have e1 : uWrite z c s = zFind z 1 := by unfold uWrite; rw [if_pos ⟨hh8, hh15⟩, if_pos (by omega)]
        rw [e0, e1] at hQ
        exact hQ _ (Fry.rf.put (by decide)) hc.find
    · refine wp_bipush dX3_write_18 (by decide) ?_
      refine wp_iret dX3_write_20 (Or.inl rfl) ?_
      have hno : ¬ ((0 ≤ c ∧ c ≤ ggn (Gz z) - 1) ∧ isSh s) := fun q => by first | exact hh8 q.1 | exact hh15 q.2
      have e0 : vWrite z c s = -2 := by unfold vWrite; rw [if_neg hno]
      have e1 : uWrite z c s = z := by unfold uWrite; rw [if_neg hno]
      rw [e0, e1] at hQ
      exact hQ σ Fry.rf hc
theorem th_bad {z : aZ} {c s : Int} (h : vThing z c s < 0) : uThing z c s = z := by
  unfold uThing
  refine cif_f (fun q => ?_)
  unfold vThing at h
  rw [cif_t q.1, if_neg q.2] at h
  omega
theorem th_no {z : aZ} {c s : Int} (h : 0 ≤ vThing z c s) : 0 < vThing z c s := by
  unfold vThing at h ⊢
  by_cases q : okThing c s
  · rw [cif_t q] at h ⊢
    by_cases q2 : zn z = 8
    · rw [if_pos q2] at h; omega
    · rw [if_neg q2] at h ⊢; omega
  · rw [cif_f q] at h; omega
theorem th_sh {z : aZ} {c s : Int} : zz (uThing z c s) = zz z ∧ zi (uThing z c s) = zi z := by
  unfold uThing
  by_cases h1 : okThing c s ∧ zn z ≠ 8
  · rw [cif_t h1]; exact ⟨rfl, rfl⟩
  · rw [cif_f h1]; exact ⟨rfl, rfl⟩
set_option maxRecDepth 20000 in
theorem l3_read {d : Nat} {σ0 : aS} {Q : aQ} {s : Int} (hs : isSh s) : ∀ (r : Nat) (k : Nat) (z : aZ) (σ : aS) (i : Int), k + r = 24 → i = 2 * (k : Int) → CI σ z → ZV z → Fry σ0 σ → (∀ σ', Fry σ0 σ' → CI σ' (rdN s.toNat r k z).1 → Q (some (vi (rdN s.toNat r k z).2)) σ') → Wp RX3 cX3_read 34 (aCall 34 (d + 2)) Q 0 false 0 (fun _ => 0) 35 [some (vr 0), some (vi s), some (vr (5 + s.toNat)), some (vi (k : Int)), some (vi i)] [] σ := by
  intro r
  induction r with
  | zero =>
    intro k z σ i hk hi hc hz hy hQ
    subst hi
    have hsn := isSh_n hs
    obtain ⟨a1, a2, a3, a4⟩ := hc.sh s.toNat hsn.1
    obtain ⟨c1, c2, c3, c4, c5⟩ := hz.2.2.2.2.2.2.2 s.toNat hsn.1
    refine wp_iload dX3_read_35 rfl ?_
    refine wp_iconst dX3_read_37 (by decide) ?_
    refine wp_iaddN dX3_read_38 (by omega) ?_
    refine wp_aload_n dX3_read_39 rfl ?_
    refine wp_getI dX3_read_40 flX3_100 (by omega) (cdS (by omega)) (Or.inl rfl) ?_
    refine wp_ic_ge 89 dX3_read_43 (by decide) (fun hh43 => ?_) (fun hh43 => ?_)
    · refine wp_iload_n dX3_read_89 rfl ?_
      refine wp_iret dX3_read_90 (Or.inl rfl) ?_
      exact hQ σ hy hc
    · refine wp_iload dX3_read_46 rfl ?_
      refine wp_iconst dX3_read_48 (by decide) ?_
      refine wp_iaddN dX3_read_49 (by omega) ?_
      refine wp_bipush dX3_read_50 (by decide) ?_
      refine wp_ic_ge 89 dX3_read_52 (by decide) (fun hh52 => ?_) (fun hh52 => ?_)
      · refine wp_iload_n dX3_read_89 rfl ?_
        refine wp_iret dX3_read_90 (Or.inl rfl) ?_
        exact hQ σ hy hc
      · exfalso; omega
  | succ r ih =>
    intro k z σ i hk hi hc hz hy hQ
    subst hi
    have hsn := isSh_n hs
    obtain ⟨a1, a2, a3, a4⟩ := hc.sh s.toNat hsn.1
    obtain ⟨c1, c2, c3, c4, c5⟩ := hz.2.2.2.2.2.2.2 s.toNat hsn.1
    unfold rdN at hQ
    refine wp_iload dX3_read_35 rfl ?_
    refine wp_iconst dX3_read_37 (by decide) ?_
    refine wp_iaddN dX3_read_38 (by omega) ?_
    refine wp_aload_n dX3_read_39 rfl ?_
    refine wp_getI dX3_read_40 flX3_100 (by omega) (cdS (by omega)) (Or.inl rfl) ?_
    refine wp_ic_ge 89 dX3_read_43 (by decide) (fun hh43 => ?_) (fun hh43 => ?_)
    · refine wp_iload_n dX3_read_89 rfl ?_
      refine wp_iret dX3_read_90 (Or.inl rfl) ?_
      rw [cif_f (fun q => by have := q.1; omega)] at hQ
      exact hQ σ hy hc
    · refine wp_iload dX3_read_46 rfl ?_
      refine wp_iconst dX3_read_48 (by decide) ?_
      refine wp_iaddN dX3_read_49 (by omega) ?_
      refine wp_bipush dX3_read_50 (by decide) ?_
      refine wp_ic_ge 89 dX3_read_52 (by decide) (fun hh52 => ?_) (fun hh52 => ?_)
      · exfalso; omega
      · refine wp_aload_n dX3_read_55 rfl ?_
        refine wp_aload_n dX3_read_56 rfl ?_
        refine wp_getR dX3_read_57 flX3_103 (by omega) (cdS (by omega)) rfl ?_
        refine wp_iload dX3_read_60 rfl ?_
        refine wp_iaload dX3_read_62 (by omega) (cdT (by omega)) (by omega) (by omega) (by decide) ?_
        refine wp_aload_n dX3_read_63 rfl ?_
        refine wp_getR dX3_read_64 flX3_103 (by omega) (cdS (by omega)) rfl ?_
        refine wp_iload dX3_read_67 rfl ?_
        refine wp_iconst dX3_read_69 (by decide) ?_
        refine wp_iaddN dX3_read_70 (by omega) ?_
        refine wp_iaload dX3_read_71 (by omega) (cdT (by omega)) (by omega) (by omega) (by decide) ?_
        refine wp_V2 dX3_read_72 vlX3_106 (by omega) rfl (Nat.le_of_ble_eq_true rfl) ?_
        rw [show σ.1 (9 + s.toNat) (2 * (k : Int)).toNat = zi z s.toNat (2 * k) by rw [show (2 * (k : Int)).toNat = 2 * k by omega]; exact a4 _ (by omega), show σ.1 (9 + s.toNat) (2 * (k : Int) + 1).toNat = zi z s.toNat (2 * k + 1) by rw [show (2 * (k : Int) + 1).toNat = 2 * k + 1 by omega]; exact a4 _ (by omega)]
        refine p3_thing hc hz (fun σ2 y2 hc2 => ?_)
        refine wp_if_ge 80 dX3_read_75 (by decide) (fun hh75 => ?_) (fun hh75 => ?_)
        · refine wp_iincN (L' := [some (vr _), some (vi _), some (vr _), some (vi _), some (vi _)]) dX3_read_80 rfl (by omega) rfl ?_
          refine wp_iincN (L' := [some (vr _), some (vi _), some (vr _), some (vi _), some (vi _)]) dX3_read_83 rfl (by omega) rfl ?_
          refine wp_gotoN 35 dX3_read_86 (by decide) ?_
          rw [cif_t ⟨by omega, th_no hh75⟩] at hQ
          exact ih (k + 1) _ σ2 _ (by omega) (by omega) hc2 (ZV_thing hz _ _) (hy.tr y2) hQ
        · refine wp_iload_n dX3_read_78 rfl ?_
          refine wp_iret dX3_read_79 (Or.inl rfl) ?_
          rw [cif_f (fun q => by have := q.2; omega)] at hQ
          rw [th_bad (by omega)] at hc2
          exact hQ σ2 (hy.tr y2) hc2
set_option maxRecDepth 20000 in
theorem p3_read {d : Nat} {σ : aS} {Q : aQ} {s : Int} {z : aZ} (hc : CI σ z) (hz : ZV z) (hQ : ∀ σ', Fry σ σ' → CI σ' (uRead z s) → Q (some (vi (vRead z s))) σ') : aCall 34 (d + 3) mX3_read [vr 0, vi s] σ Q := by
  refine cl_in (own := RX3) (cc := cX3_read) (rk := 0) (L := [some (vr 0), some (vi s), none, none, none]) rfl rfl rfl rfl (by decide) (Nat.le_of_ble_eq_true rfl) ?_
  have hs4 := hc.sh
  refine wp_iload_n dX3_read_0 rfl ?_
  refine wp_S1 dX3_read_1 zlX3_90 (Nat.le_of_ble_eq_true rfl) ?_
  refine s3_isSheet ?_
  refine wp_ifB_ne 10 dX3_read_4 (by decide) (fun hh4 => ?_) (fun hh4 => ?_)
  · have hsn := isSh_n hh4
    obtain ⟨a1, a2, a3, a4⟩ := hs4 s.toNat hsn.1
    obtain ⟨c1, c2, c3, c4, c5⟩ := hz.2.2.2.2.2.2.2 s.toNat hsn.1
    refine wp_aload_n dX3_read_10 rfl ?_
    refine wp_getR dX3_read_11 flX3_31 (by omega) rfl rfl ?_
    refine wp_iload_n dX3_read_14 rfl ?_
    refine wp_aaload dX3_read_15 (by omega) rfl (by omega) (by omega) (by decide) ?_
    refine wp_astN (L' := [some (vr _), some (vi _), some (vr _), none, none]) dX3_read_16 (Nat.le_of_ble_eq_true rfl) rfl ?_
    refine wp_aload_n dX3_read_17 rfl ?_
    refine wp_getI dX3_read_18 flX3_93 (by omega) (cdS (by omega)) (Or.inr rfl) ?_
    refine wp_if_eq 30 dX3_read_21 (by decide) (fun hh21 => ?_) (fun hh21 => ?_)
    · refine wp_iconst dX3_read_30 (by decide) ?_
      refine wp_istN (L' := [some (vr _), some (vi _), some (vr _), some (vi _), none]) dX3_read_31 (Nat.le_of_ble_eq_true rfl) rfl ?_
      refine wp_iconst dX3_read_32 (by decide) ?_
      refine wp_ist (L' := [some (vr _), some (vi _), some (vr _), some (vi _), some (vi _)]) dX3_read_33 (Nat.le_of_ble_eq_true rfl) rfl ?_
      have e0 : vRead z s = (rdN s.toNat 24 0 z).2 := by unfold vRead; rw [if_pos hh4, if_neg (by omega)]
      have e1 : uRead z s = (rdN s.toNat 24 0 z).1 := by unfold uRead; rw [if_pos hh4, if_neg (by omega)]
      rw [e0, e1] at hQ
      exact l3_read hh4 24 0 z σ 0 (by omega) (by omega) hc hz Fry.rf hQ
    · refine wp_aload_n dX3_read_24 rfl ?_
      refine wp_iconst dX3_read_25 (by decide) ?_
      refine wp_V1 dX3_read_26 vlX3_97 (by omega) rfl (Nat.le_of_ble_eq_true rfl) ?_
      refine s3_found (by omega) (by omega) ?_
      refine wp_iret dX3_read_29 (Or.inl rfl) ?_
      have e0 : vRead z s = -11 := by unfold vRead; rw [if_pos hh4, if_pos (by omega)]
      have e1 : uRead z s = zFind z 1 := by unfold uRead; rw [if_pos hh4, if_pos (by omega)]
      rw [e0, e1] at hQ
      exact hQ _ (Fry.rf.put (by decide)) hc.find
  · refine wp_bipush dX3_read_7 (by decide) ?_
    refine wp_iret dX3_read_9 (Or.inl rfl) ?_
    have e0 : vRead z s = -2 := by unfold vRead; rw [if_neg hh4]
    have e1 : uRead z s = z := by unfold uRead; rw [if_neg hh4]
    rw [e0, e1] at hQ
    exact hQ σ Fry.rf hc
