set_option maxRecDepth 20000 in
theorem p4_count {d : Nat} {σ : aS} {Q : aQ} {w : Int} {z : aZ} (hm : MI σ z) (hz : ZV z) (hQ : ∀ σ', Frm σ σ' → MI σ' z → Q (some (vi (vCount z w))) σ') : aCall 34 (d + 5) mX4_count [vr 18, vi w] σ Q := by
  refine cl_in (own := RX4) (cc := cX4_count) (rk := 0) (L := [some (vr 18), some (vi w)]) rfl rfl rfl rfl (by decide) (Nat.le_of_ble_eq_true rfl) ?_
  obtain ⟨h1, h2, h3, h4, h5, h6, h7, h8, h9, h10⟩ := id hm
  refine wp_iload_n dX4_count_0 rfl ?_
  by_cases hw : 0 ≤ w ∧ w ≤ 8
  · have hc : w = 0 ∨ w = 1 ∨ w = 2 ∨ w = 3 ∨ w = 4 ∨ w = 5 ∨ w = 6 ∨ w = 7 ∨ w = 8 := by omega
    rcases hc with e | e | e | e | e | e | e | e | e
    · subst e
      have ev : vCount z 0 = smv z 0 := by unfold vCount; rw [if_pos (by decide)]
      rw [ev] at hQ
      refine wp_tabIn (tgt := 52) (off := 51) dX4_count_1 (by decide) (by decide) rfl (by decide) ?_
      refine wp_aload_n dX4_count_52 rfl ?_
      refine wp_iload_n dX4_count_53 rfl ?_
      refine wp_V1 dX4_count_54 vlX4_233 (by decide) rfl (Nat.le_of_ble_eq_true rfl) ?_
      refine s4_sumOf hm hz (fun σ' hf hm => ?_)
      refine wp_iret dX4_count_57 (Or.inl rfl) ?_
      exact hQ σ' hf hm
    · subst e
      have ev : vCount z 1 = smv z 1 := by unfold vCount; rw [if_pos (by decide)]
      rw [ev] at hQ
      refine wp_tabIn (tgt := 52) (off := 51) dX4_count_1 (by decide) (by decide) rfl (by decide) ?_
      refine wp_aload_n dX4_count_52 rfl ?_
      refine wp_iload_n dX4_count_53 rfl ?_
      refine wp_V1 dX4_count_54 vlX4_233 (by decide) rfl (Nat.le_of_ble_eq_true rfl) ?_
      refine s4_sumOf hm hz (fun σ' hf hm => ?_)
      refine wp_iret dX4_count_57 (Or.inl rfl) ?_
      exact hQ σ' hf hm
    · subst e
      have ev : vCount z 2 = zl z := by unfold vCount; rw [if_neg (by decide), if_pos (by decide)]
      rw [ev] at hQ
      refine wp_tabIn (tgt := 58) (off := 57) dX4_count_1 (by decide) (by decide) rfl (by decide) ?_
      refine wp_aload_n dX4_count_58 rfl ?_
      refine wp_getI dX4_count_59 flX4_69 (by decide) rfl (Or.inl rfl) ?_
      refine wp_iret dX4_count_62 (Or.inl rfl) ?_
      exact q_i h1 (hQ σ Frm.rf hm)
    · subst e
      have ev : vCount z 3 = zn z := by unfold vCount; rw [if_neg (by decide), if_neg (by decide), if_pos (by decide)]
      rw [ev] at hQ
      refine wp_tabIn (tgt := 63) (off := 62) dX4_count_1 (by decide) (by decide) rfl (by decide) ?_
      refine wp_aload_n dX4_count_63 rfl ?_
      refine wp_getI dX4_count_64 flX4_108 (by decide) rfl (Or.inl rfl) ?_
      refine wp_iret dX4_count_67 (Or.inl rfl) ?_
      exact q_i h5 (hQ σ Frm.rf hm)
    · subst e
      have ev : vCount z 4 = zp z := by unfold vCount; rw [if_neg (by decide), if_neg (by decide), if_neg (by decide), if_pos (by decide)]
      rw [ev] at hQ
      refine wp_tabIn (tgt := 68) (off := 67) dX4_count_1 (by decide) (by decide) rfl (by decide) ?_
      refine wp_aload_n dX4_count_68 rfl ?_
      refine wp_getI dX4_count_69 flX4_185 (by decide) rfl (Or.inl rfl) ?_
      refine wp_iret dX4_count_72 (Or.inl rfl) ?_
      exact q_i h7 (hQ σ Frm.rf hm)
    · subst e
      have ev : vCount z 5 = smv z 5 := by unfold vCount; rw [if_pos (by decide)]
      rw [ev] at hQ
      refine wp_tabIn (tgt := 52) (off := 51) dX4_count_1 (by decide) (by decide) rfl (by decide) ?_
      refine wp_aload_n dX4_count_52 rfl ?_
      refine wp_iload_n dX4_count_53 rfl ?_
      refine wp_V1 dX4_count_54 vlX4_233 (by decide) rfl (Nat.le_of_ble_eq_true rfl) ?_
      refine s4_sumOf hm hz (fun σ' hf hm => ?_)
      refine wp_iret dX4_count_57 (Or.inl rfl) ?_
      exact hQ σ' hf hm
    · subst e
      have ev : vCount z 6 = smv z 6 := by unfold vCount; rw [if_pos (by decide)]
      rw [ev] at hQ
      refine wp_tabIn (tgt := 52) (off := 51) dX4_count_1 (by decide) (by decide) rfl (by decide) ?_
      refine wp_aload_n dX4_count_52 rfl ?_
      refine wp_iload_n dX4_count_53 rfl ?_
      refine wp_V1 dX4_count_54 vlX4_233 (by decide) rfl (Nat.le_of_ble_eq_true rfl) ?_
      refine s4_sumOf hm hz (fun σ' hf hm => ?_)
      refine wp_iret dX4_count_57 (Or.inl rfl) ?_
      exact hQ σ' hf hm
    · subst e
      have ev : vCount z 7 = smv z 7 := by unfold vCount; rw [if_pos (by decide)]
      rw [ev] at hQ
      refine wp_tabIn (tgt := 52) (off := 51) dX4_count_1 (by decide) (by decide) rfl (by decide) ?_
      refine wp_aload_n dX4_count_52 rfl ?_
      refine wp_iload_n dX4_count_53 rfl ?_
      refine wp_V1 dX4_count_54 vlX4_233 (by decide) rfl (Nat.le_of_ble_eq_true rfl) ?_
      refine s4_sumOf hm hz (fun σ' hf hm => ?_)
      refine wp_iret dX4_count_57 (Or.inl rfl) ?_
      exact hQ σ' hf hm
    · subst e
      have ev : vCount z 8 = zg z := by unfold vCount; rw [if_neg (by decide), if_neg (by decide), if_neg (by decide), if_neg (by decide), if_pos (by decide)]
      rw [ev] at hQ
      refine wp_tabIn (tgt := 73) (off := 72) dX4_count_1 (by decide) (by decide) rfl (by decide) ?_
      refine wp_aload_n dX4_count_73 rfl ?_
      refine wp_getI dX4_count_74 flX4_222 (by decide) rfl (Or.inl rfl) ?_
      refine wp_iret dX4_count_77 (Or.inl rfl) ?_
      exact q_i h10 (hQ σ Frm.rf hm)
  · refine wp_tabOut (tgt := 78) dX4_count_1 (by omega) (by decide) ?_
    refine wp_bipush dX4_count_78 (by decide) ?_
    refine wp_iret dX4_count_80 (Or.inl rfl) ?_
    exact q_i (by unfold vCount; rw [if_neg (by omega), if_neg (by omega), if_neg (by omega), if_neg (by omega), if_neg (by omega)]) (hQ σ Frm.rf hm)
def plg (g : aG) (a b : Int) : aG := (ggw g, ggn g, ggm g, ggt g, fun i => if (i : Int) = a ∨ (i : Int) = b then 0 else g.2.2.2.2 i)
theorem plg_ok {g : aG} (hg : GV g) (a b : Int) : GV (plg g a b) := by
  refine ⟨hg.1, hg.2.1, hg.2.2.1, hg.2.2.2.1, hg.2.2.2.2.1, hg.2.2.2.2.2.1, hg.2.2.2.2.2.2.1, fun c => ?_⟩
  show 0 ≤ (if (c : Int) = a ∨ (c : Int) = b then 0 else g.2.2.2.2 c) ∧ (if (c : Int) = a ∨ (c : Int) = b then 0 else g.2.2.2.2 c) ≤ 3
  split
  · omega
  · exact hg.2.2.2.2.2.2.2 c
def dry (g : aG) (a b c : Int) : Prop := ¬ Rch (flW (plg g a b)) (plg g a b) (spS (plg g a b) (-1)) c
def FrP (σ σ' : aS) : Prop := (∀ c k, c ≠ 20 → c ≠ 25 → c ≠ 26 → σ'.1 c k = σ.1 c k) ∧ (∀ k, k < 35 → σ'.1 20 k = σ.1 20 k) ∧ σ'.2 = σ.2
theorem FrP.rf {σ : aS} : FrP σ σ := ⟨fun _ _ _ _ _ => rfl, fun _ _ => rfl, rfl⟩
theorem FrP.tr {σ σ' σ'' : aS} (h : FrP σ σ') (h' : FrP σ' σ'') : FrP σ σ'' := ⟨fun c k a1 a2 a3 => (h'.1 c k a1 a2 a3).trans (h.1 c k a1 a2 a3), fun k hk => (h'.2.1 k hk).trans (h.2.1 k hk), h'.2.2.trans h.2.2⟩
theorem FrP.m {σ σ' : aS} (h : FrP σ σ') : Frm σ σ' := ⟨fun c k q => h.1 c k (fun e => q (by unfold scr; omega)) (fun e => q (by unfold scr; omega)) (fun e => q (by unfold scr; omega)), h.2.2⟩
theorem FrP.g {σ σ' : aS} {g : aG} (h : FrP σ σ') (he : gOf σ = g) (hg : GV g) : gOf σ' = g := by
  have hn := gn_g he
  have hn35 := hg.2.1
  rw [← he]
  unfold gOf
  rw [h.1 18 4 (by decide) (by decide) (by decide), h.1 18 2 (by decide) (by decide) (by decide), h.1 18 6 (by decide) (by decide) (by decide), h.1 18 7 (by decide) (by decide) (by decide)]
  refine congrArg _ (congrArg _ (congrArg _ (congrArg _ ?_)))
  funext i
  by_cases hi : (i : Int) < σ.1 18 4
  · rw [if_pos hi, if_pos hi, h.2.1 i (by omega)]
  · rw [if_neg hi, if_neg hi]
theorem Rd.p {σ σ' : aS} {z : aZ} (h : Rd σ z) (f : FrP σ σ') : Rd σ' z := ⟨h.1.frm f.m, h.2.1, f.g h.2.2.1 (Gz_ok h.2.1), (f.1 18 3 (by decide) (by decide) (by decide)).trans h.2.2.2⟩
/-- the mine with rock at two places -/
theorem plg_of {σ : aS} {g : aG} (he : gOf σ = g) (hg : GV g) {i j : Nat} {a b : Int} (hi : ∀ k : Nat, k < 35 → (k = i ↔ (k : Int) = a)) (hj : ∀ k : Nat, k < 35 → (k = j ↔ (k : Int) = b)) : gOf (sI (sI σ 20 i 0) 20 j 0) = plg g a b := by
  have hn := gn_g he
  have hn35 := hg.2.1
  subst he
  show ((if σ.1 18 4 ≤ 0 then 0 else σ.1 18 2), σ.1 18 4, σ.1 18 6, σ.1 18 7, fun k : Nat => if (k : Int) < σ.1 18 4 then (sI (sI σ 20 i 0) 20 j 0).1 20 k else 0) = (ggw (gOf σ), ggn (gOf σ), ggm (gOf σ), ggt (gOf σ), fun k : Nat => if (k : Int) = a ∨ (k : Int) = b then 0 else (if (k : Int) < σ.1 18 4 then σ.1 20 k else 0))
  refine congrArg _ (congrArg _ (congrArg _ (congrArg _ ?_)))
  funext k
  by_cases hk : (k : Int) < σ.1 18 4
  · have h1 := hi k (by omega)
    have h2 := hj k (by omega)
    rw [if_pos hk, if_pos hk, sI_at]
    by_cases e2 : k = j
    · rw [if_pos ⟨rfl, e2⟩, if_pos (Or.inr (h2.mp e2))]
    · rw [if_neg (fun q => e2 q.2), sI_at]
      by_cases e1 : k = i
      · rw [if_pos ⟨rfl, e1⟩, if_pos (Or.inl (h1.mp e1))]
      · rw [if_neg (fun q => e1 q.2), if_neg (fun q => q.elim (fun w => e1 (h1.mpr w)) (fun w => e2 (h2.mpr w)))]
  · rw [if_neg hk, if_neg hk]; split <;> rfl
set_option maxRecDepth 20000 in
theorem s4_plugs0 {d : Nat} {σ : aS} {Q : aQ} {g : aG} (he : gOf σ = g) (hg : GV g) {c : Int} (hc : 0 ≤ c ∧ c < ggn g) (hQ : ∀ σq, FrP σ σq → σq.1 26 0 = (-1) → σq.1 26 1 = (-1) → Q (some (vi (bi (dry g (-1) (-1) c)))) σq) : aCall 34 (d + 4) mX4_plugs [vr 18, vi c, vi (-1), vi (-1)] σ Q := by
  refine cl_in (own := RX4) (cc := cX4_plugs) (rk := 1) (L := [some (vr 18), some (vi c), some (vi (-1)), some (vi (-1)), none, none]) rfl rfl rfl rfl (by decide) (Nat.le_of_ble_eq_true rfl) ?_
  have hn4 := gn_g he
  have hn35 := hg.2.1
  refine wp_iload_n dX4_plugs_0 rfl ?_
  refine wp_iconst dX4_plugs_1 (by decide) ?_
  refine wp_ic_ne 9 dX4_plugs_2 (by decide) (fun hh2 => ?_) (fun hh2 => ?_)
  · exact absurd hh2 (by decide)
  · refine wp_iconst dX4_plugs_5 (by decide) ?_
    refine wp_gotoN 15 dX4_plugs_6 (by decide) ?_
    refine wp_ist (L' := [some (vr _), some (vi _), some (vi _), some (vi _), some (vi _), none]) dX4_plugs_15 (Nat.le_of_ble_eq_true rfl) rfl ?_
    refine wp_iload_n dX4_plugs_17 rfl ?_
    refine wp_iconst dX4_plugs_18 (by decide) ?_
    refine wp_ic_ne 26 dX4_plugs_19 (by decide) (fun hh19 => ?_) (fun hh19 => ?_)
    · exact absurd hh19 (by decide)
    · refine wp_iconst dX4_plugs_22 (by decide) ?_
      refine wp_gotoN 32 dX4_plugs_23 (by decide) ?_
      refine wp_ist (L' := [some (vr _), some (vi _), some (vi _), some (vi _), some (vi _), some (vi _)]) dX4_plugs_32 (Nat.le_of_ble_eq_true rfl) rfl ?_
      refine wp_aload_n dX4_plugs_34 rfl ?_
      refine wp_getR dX4_plugs_35 flX4_13 (by decide) rfl rfl ?_
      refine wp_iload_n dX4_plugs_38 rfl ?_
      refine wp_iconst dX4_plugs_39 (by decide) ?_
      refine wp_ic_ne 48 dX4_plugs_40 (by decide) (fun hh40 => ?_) (fun hh40 => ?_)
      · exact absurd hh40 (by decide)
      · refine wp_bipush dX4_plugs_43 (by decide) ?_
        refine wp_gotoN 49 dX4_plugs_45 (by decide) ?_
        refine wp_iconst dX4_plugs_49 (by decide) ?_
        refine wp_iastore dX4_plugs_50 (by decide) rfl (by omega) (by omega) (by decide) ?_
        refine wp_aload_n dX4_plugs_51 rfl ?_
        refine wp_getR dX4_plugs_52 flX4_13 (by decide) rfl rfl ?_
        refine wp_iload_n dX4_plugs_55 rfl ?_
        refine wp_iconst dX4_plugs_56 (by decide) ?_
        refine wp_ic_ne 65 dX4_plugs_57 (by decide) (fun hh57 => ?_) (fun hh57 => ?_)
        · exact absurd hh57 (by decide)
        · refine wp_bipush dX4_plugs_60 (by decide) ?_
          refine wp_gotoN 66 dX4_plugs_62 (by decide) ?_
          refine wp_iconst dX4_plugs_66 (by decide) ?_
          refine wp_iastore dX4_plugs_67 (by decide) rfl (by omega) (by omega) (by decide) ?_
          refine wp_aload_n dX4_plugs_68 rfl ?_
          refine wp_iconst dX4_plugs_69 (by decide) ?_
          refine wp_V1 dX4_plugs_70 vlX4_167 (by decide) rfl (Nat.le_of_ble_eq_true rfl) ?_
          have he1 := plg_of (i := (35 : Int).toNat) (j := (35 : Int).toNat) (a := (-1)) (b := (-1)) he hg (fun k hk => by omega) (fun k hk => by omega)
          refine s4_flows he1 (plg_ok hg _ _) (fun σ2 hF2 hwet => ?_)
          have hv := hwet c.toNat (by show ((c.toNat : Nat) : Int) < ggn g; omega)
          rw [Int.toNat_of_nonneg hc.1] at hv
          have hv2 := bi_01 (Rch (flW (plg g (-1) (-1))) (plg g (-1) (-1)) (spS (plg g (-1) (-1)) (-1)) c)
          refine wp_aload_n dX4_plugs_73 rfl ?_
          refine wp_getR dX4_plugs_74 flX4_13 (by decide) rfl rfl ?_
          refine wp_iload_n dX4_plugs_77 rfl ?_
          refine wp_iconst dX4_plugs_78 (by decide) ?_
          refine wp_ic_ne 87 dX4_plugs_79 (by decide) (fun hh79 => ?_) (fun hh79 => ?_)
          · exact absurd hh79 (by decide)
          · refine wp_bipush dX4_plugs_82 (by decide) ?_
            refine wp_gotoN 88 dX4_plugs_84 (by decide) ?_
            refine wp_iload dX4_plugs_88 rfl ?_
            refine wp_iastore dX4_plugs_90 (by decide) rfl (by omega) (by omega) (by decide) ?_
            refine wp_aload_n dX4_plugs_91 rfl ?_
            refine wp_getR dX4_plugs_92 flX4_13 (by decide) rfl rfl ?_
            refine wp_iload_n dX4_plugs_95 rfl ?_
            refine wp_iconst dX4_plugs_96 (by decide) ?_
            refine wp_ic_ne 105 dX4_plugs_97 (by decide) (fun hh97 => ?_) (fun hh97 => ?_)
            · exact absurd hh97 (by decide)
            · refine wp_bipush dX4_plugs_100 (by decide) ?_
              refine wp_gotoN 106 dX4_plugs_102 (by decide) ?_
              refine wp_iload dX4_plugs_106 rfl ?_
              refine wp_iastore dX4_plugs_108 (by decide) rfl (by omega) (by omega) (by decide) ?_
              refine wp_aload_n dX4_plugs_109 rfl ?_
              refine wp_getR dX4_plugs_110 flX4_32 (by decide) rfl rfl ?_
              refine wp_iconst dX4_plugs_113 (by decide) ?_
              refine wp_iload_n dX4_plugs_114 rfl ?_
              refine wp_iastore dX4_plugs_115 (by decide) rfl (by omega) (by omega) (by decide) ?_
              refine wp_aload_n dX4_plugs_116 rfl ?_
              refine wp_getR dX4_plugs_117 flX4_32 (by decide) rfl rfl ?_
              refine wp_iconst dX4_plugs_120 (by decide) ?_
              refine wp_iload_n dX4_plugs_121 rfl ?_
              refine wp_iastore dX4_plugs_122 (by decide) rfl (by omega) (by omega) (by decide) ?_
              refine wp_aload_n dX4_plugs_123 rfl ?_
              refine wp_getR dX4_plugs_124 flX4_29 (by decide) rfl rfl ?_
              refine wp_iload_n dX4_plugs_127 rfl ?_
              refine wp_baload dX4_plugs_128 (by decide) rfl (by omega) (by omega) (by decide) ?_
              rw [sI_ne (fun q => absurd q.1 (by decide))]
              rw [sI_ne (fun q => absurd q.1 (by decide))]
              rw [sI_ne (fun q => absurd q.1 (by decide))]
              rw [sI_ne (fun q => absurd q.1 (by decide))]
              refine wp_if_ne 136 dX4_plugs_129 (by decide) (fun hh129 => ?_) (fun hh129 => ?_)
              · refine wp_iconst dX4_plugs_136 (by decide) ?_
                refine wp_iret dX4_plugs_137 (Or.inr ⟨rfl, by decide⟩) ?_
                first
                | refine q_f (P := dry g (-1) (-1) c) (fun q => q (bi_1.mp (by omega))) (hQ _ ⟨fun c9 k9 a1 a2 a3 => ?_, fun k9 hk9 => ?_, ?_⟩ rfl rfl)
                | refine q_t (P := dry g (-1) (-1) c) (bi_0.mp (by omega)) (hQ _ ⟨fun c9 k9 a1 a2 a3 => ?_, fun k9 hk9 => ?_, ?_⟩ rfl rfl)
                · rw [sI_ne (fun q => a3 q.1), sI_ne (fun q => a3 q.1), sI_ne (fun q => a1 q.1), sI_ne (fun q => a1 q.1), hF2.1 c9 k9 a2, sI_ne (fun q => a1 q.1), sI_ne (fun q => a1 q.1)]
                · rw [sI_ne (fun q => absurd q.1 (by decide)), sI_ne (fun q => absurd q.1 (by decide)), sI_at, sI_at, hF2.1 20 k9 (by decide), sI_at, sI_at]
                  by_cases e2 : k9 = (35 : Int).toNat
                  · rw [if_pos ⟨rfl, e2⟩]; first | (exfalso; omega) | rw [e2]
                  · rw [if_neg (fun q => e2 q.2)]
                    by_cases e1 : k9 = (35 : Int).toNat
                    · rw [if_pos ⟨rfl, e1⟩]; first | (exfalso; omega) | rw [e1]
                    · rw [if_neg (fun q => e1 q.2), if_neg (fun q => e2 q.2), if_neg (fun q => e1 q.2)]
                · exact hF2.2
              · refine wp_iconst dX4_plugs_132 (by decide) ?_
                refine wp_gotoN 137 dX4_plugs_133 (by decide) ?_
                refine wp_iret dX4_plugs_137 (Or.inr ⟨rfl, by decide⟩) ?_
                first
                | refine q_f (P := dry g (-1) (-1) c) (fun q => q (bi_1.mp (by omega))) (hQ _ ⟨fun c9 k9 a1 a2 a3 => ?_, fun k9 hk9 => ?_, ?_⟩ rfl rfl)
                | refine q_t (P := dry g (-1) (-1) c) (bi_0.mp (by omega)) (hQ _ ⟨fun c9 k9 a1 a2 a3 => ?_, fun k9 hk9 => ?_, ?_⟩ rfl rfl)
                · rw [sI_ne (fun q => a3 q.1), sI_ne (fun q => a3 q.1), sI_ne (fun q => a1 q.1), sI_ne (fun q => a1 q.1), hF2.1 c9 k9 a2, sI_ne (fun q => a1 q.1), sI_ne (fun q => a1 q.1)]
                · rw [sI_ne (fun q => absurd q.1 (by decide)), sI_ne (fun q => absurd q.1 (by decide)), sI_at, sI_at, hF2.1 20 k9 (by decide), sI_at, sI_at]
                  by_cases e2 : k9 = (35 : Int).toNat
                  · rw [if_pos ⟨rfl, e2⟩]; first | (exfalso; omega) | rw [e2]
                  · rw [if_neg (fun q => e2 q.2)]
                    by_cases e1 : k9 = (35 : Int).toNat
                    · rw [if_pos ⟨rfl, e1⟩]; first | (exfalso; omega) | rw [e1]
                    · rw [if_neg (fun q => e1 q.2), if_neg (fun q => e2 q.2), if_neg (fun q => e1 q.2)]
                · exact hF2.2
set_option maxRecDepth 20000 in
theorem s4_plugs1 {d : Nat} {σ : aS} {Q : aQ} {a : Int} {g : aG} (he : gOf σ = g) (hg : GV g) {c : Int} (hc : 0 ≤ c ∧ c < ggn g) (ha : 0 ≤ a ∧ a < ggn g) (hQ : ∀ σq, FrP σ σq → σq.1 26 0 = a → σq.1 26 1 = (-1) → Q (some (vi (bi (dry g a (-1) c)))) σq) : aCall 34 (d + 4) mX4_plugs [vr 18, vi c, vi a, vi (-1)] σ Q := by
  refine cl_in (own := RX4) (cc := cX4_plugs) (rk := 1) (L := [some (vr 18), some (vi c), some (vi a), some (vi (-1)), none, none]) rfl rfl rfl rfl (by decide) (Nat.le_of_ble_eq_true rfl) ?_
  have hn4 := gn_g he
  have hn35 := hg.2.1
  refine wp_iload_n dX4_plugs_0 rfl ?_
  refine wp_iconst dX4_plugs_1 (by decide) ?_
  refine wp_ic_ne 9 dX4_plugs_2 (by decide) (fun hh2 => ?_) (fun hh2 => ?_)
  · refine wp_aload_n dX4_plugs_9 rfl ?_
    refine wp_getR dX4_plugs_10 flX4_13 (by decide) rfl rfl ?_
    refine wp_iload_n dX4_plugs_13 rfl ?_
    refine wp_iaload dX4_plugs_14 (by decide) rfl (by omega) (by omega) (by decide) ?_
    refine wp_ist (L' := [some (vr _), some (vi _), some (vi _), some (vi _), some (vi _), none]) dX4_plugs_15 (Nat.le_of_ble_eq_true rfl) rfl ?_
    refine wp_iload_n dX4_plugs_17 rfl ?_
    refine wp_iconst dX4_plugs_18 (by decide) ?_
    refine wp_ic_ne 26 dX4_plugs_19 (by decide) (fun hh19 => ?_) (fun hh19 => ?_)
    · exact absurd hh19 (by decide)
    · refine wp_iconst dX4_plugs_22 (by decide) ?_
      refine wp_gotoN 32 dX4_plugs_23 (by decide) ?_
      refine wp_ist (L' := [some (vr _), some (vi _), some (vi _), some (vi _), some (vi _), some (vi _)]) dX4_plugs_32 (Nat.le_of_ble_eq_true rfl) rfl ?_
      refine wp_aload_n dX4_plugs_34 rfl ?_
      refine wp_getR dX4_plugs_35 flX4_13 (by decide) rfl rfl ?_
      refine wp_iload_n dX4_plugs_38 rfl ?_
      refine wp_iconst dX4_plugs_39 (by decide) ?_
      refine wp_ic_ne 48 dX4_plugs_40 (by decide) (fun hh40 => ?_) (fun hh40 => ?_)
      · refine wp_iload_n dX4_plugs_48 rfl ?_
        refine wp_iconst dX4_plugs_49 (by decide) ?_
        refine wp_iastore dX4_plugs_50 (by decide) rfl (by omega) (by omega) (by decide) ?_
        refine wp_aload_n dX4_plugs_51 rfl ?_
        refine wp_getR dX4_plugs_52 flX4_13 (by decide) rfl rfl ?_
        refine wp_iload_n dX4_plugs_55 rfl ?_
        refine wp_iconst dX4_plugs_56 (by decide) ?_
        refine wp_ic_ne 65 dX4_plugs_57 (by decide) (fun hh57 => ?_) (fun hh57 => ?_)
        · exact absurd hh57 (by decide)
        · refine wp_bipush dX4_plugs_60 (by decide) ?_
          refine wp_gotoN 66 dX4_plugs_62 (by decide) ?_
          refine wp_iconst dX4_plugs_66 (by decide) ?_
          refine wp_iastore dX4_plugs_67 (by decide) rfl (by omega) (by omega) (by decide) ?_
          refine wp_aload_n dX4_plugs_68 rfl ?_
          refine wp_iconst dX4_plugs_69 (by decide) ?_
          refine wp_V1 dX4_plugs_70 vlX4_167 (by decide) rfl (Nat.le_of_ble_eq_true rfl) ?_
          have he1 := plg_of (i := a.toNat) (j := (35 : Int).toNat) (a := a) (b := (-1)) he hg (fun k hk => by omega) (fun k hk => by omega)
          refine s4_flows he1 (plg_ok hg _ _) (fun σ2 hF2 hwet => ?_)
          have hv := hwet c.toNat (by show ((c.toNat : Nat) : Int) < ggn g; omega)
          rw [Int.toNat_of_nonneg hc.1] at hv
          have hv2 := bi_01 (Rch (flW (plg g a (-1))) (plg g a (-1)) (spS (plg g a (-1)) (-1)) c)
          refine wp_aload_n dX4_plugs_73 rfl ?_
          refine wp_getR dX4_plugs_74 flX4_13 (by decide) rfl rfl ?_
          refine wp_iload_n dX4_plugs_77 rfl ?_
          refine wp_iconst dX4_plugs_78 (by decide) ?_
          refine wp_ic_ne 87 dX4_plugs_79 (by decide) (fun hh79 => ?_) (fun hh79 => ?_)
          · refine wp_iload_n dX4_plugs_87 rfl ?_
            refine wp_iload dX4_plugs_88 rfl ?_
            refine wp_iastore dX4_plugs_90 (by decide) rfl (by omega) (by omega) (by decide) ?_
            refine wp_aload_n dX4_plugs_91 rfl ?_
            refine wp_getR dX4_plugs_92 flX4_13 (by decide) rfl rfl ?_
            refine wp_iload_n dX4_plugs_95 rfl ?_
            refine wp_iconst dX4_plugs_96 (by decide) ?_
            refine wp_ic_ne 105 dX4_plugs_97 (by decide) (fun hh97 => ?_) (fun hh97 => ?_)
            · exact absurd hh97 (by decide)
            · refine wp_bipush dX4_plugs_100 (by decide) ?_
              refine wp_gotoN 106 dX4_plugs_102 (by decide) ?_
              refine wp_iload dX4_plugs_106 rfl ?_
              refine wp_iastore dX4_plugs_108 (by decide) rfl (by omega) (by omega) (by decide) ?_
              refine wp_aload_n dX4_plugs_109 rfl ?_
              refine wp_getR dX4_plugs_110 flX4_32 (by decide) rfl rfl ?_
              refine wp_iconst dX4_plugs_113 (by decide) ?_
              refine wp_iload_n dX4_plugs_114 rfl ?_
              refine wp_iastore dX4_plugs_115 (by decide) rfl (by omega) (by omega) (by decide) ?_
              refine wp_aload_n dX4_plugs_116 rfl ?_
              refine wp_getR dX4_plugs_117 flX4_32 (by decide) rfl rfl ?_
              refine wp_iconst dX4_plugs_120 (by decide) ?_
              refine wp_iload_n dX4_plugs_121 rfl ?_
              refine wp_iastore dX4_plugs_122 (by decide) rfl (by omega) (by omega) (by decide) ?_
              refine wp_aload_n dX4_plugs_123 rfl ?_
              refine wp_getR dX4_plugs_124 flX4_29 (by decide) rfl rfl ?_
              refine wp_iload_n dX4_plugs_127 rfl ?_
              refine wp_baload dX4_plugs_128 (by decide) rfl (by omega) (by omega) (by decide) ?_
              rw [sI_ne (fun q => absurd q.1 (by decide))]
              rw [sI_ne (fun q => absurd q.1 (by decide))]
              rw [sI_ne (fun q => absurd q.1 (by decide))]
              rw [sI_ne (fun q => absurd q.1 (by decide))]
              refine wp_if_ne 136 dX4_plugs_129 (by decide) (fun hh129 => ?_) (fun hh129 => ?_)
              · refine wp_iconst dX4_plugs_136 (by decide) ?_
                refine wp_iret dX4_plugs_137 (Or.inr ⟨rfl, by decide⟩) ?_
                first
                | refine q_f (P := dry g a (-1) c) (fun q => q (bi_1.mp (by omega))) (hQ _ ⟨fun c9 k9 a1 a2 a3 => ?_, fun k9 hk9 => ?_, ?_⟩ rfl rfl)
                | refine q_t (P := dry g a (-1) c) (bi_0.mp (by omega)) (hQ _ ⟨fun c9 k9 a1 a2 a3 => ?_, fun k9 hk9 => ?_, ?_⟩ rfl rfl)
                · rw [sI_ne (fun q => a3 q.1), sI_ne (fun q => a3 q.1), sI_ne (fun q => a1 q.1), sI_ne (fun q => a1 q.1), hF2.1 c9 k9 a2, sI_ne (fun q => a1 q.1), sI_ne (fun q => a1 q.1)]
                · rw [sI_ne (fun q => absurd q.1 (by decide)), sI_ne (fun q => absurd q.1 (by decide)), sI_at, sI_at, hF2.1 20 k9 (by decide), sI_at, sI_at]
                  by_cases e2 : k9 = (35 : Int).toNat
                  · rw [if_pos ⟨rfl, e2⟩]; first | (exfalso; omega) | rw [e2]
                  · rw [if_neg (fun q => e2 q.2)]
                    by_cases e1 : k9 = a.toNat
                    · rw [if_pos ⟨rfl, e1⟩]; first | (exfalso; omega) | rw [e1]
                    · rw [if_neg (fun q => e1 q.2), if_neg (fun q => e2 q.2), if_neg (fun q => e1 q.2)]
                · exact hF2.2
              · refine wp_iconst dX4_plugs_132 (by decide) ?_
                refine wp_gotoN 137 dX4_plugs_133 (by decide) ?_
                refine wp_iret dX4_plugs_137 (Or.inr ⟨rfl, by decide⟩) ?_
                first
                | refine q_f (P := dry g a (-1) c) (fun q => q (bi_1.mp (by omega))) (hQ _ ⟨fun c9 k9 a1 a2 a3 => ?_, fun k9 hk9 => ?_, ?_⟩ rfl rfl)
                | refine q_t (P := dry g a (-1) c) (bi_0.mp (by omega)) (hQ _ ⟨fun c9 k9 a1 a2 a3 => ?_, fun k9 hk9 => ?_, ?_⟩ rfl rfl)
                · rw [sI_ne (fun q => a3 q.1), sI_ne (fun q => a3 q.1), sI_ne (fun q => a1 q.1), sI_ne (fun q => a1 q.1), hF2.1 c9 k9 a2, sI_ne (fun q => a1 q.1), sI_ne (fun q => a1 q.1)]
                · rw [sI_ne (fun q => absurd q.1 (by decide)), sI_ne (fun q => absurd q.1 (by decide)), sI_at, sI_at, hF2.1 20 k9 (by decide), sI_at, sI_at]
                  by_cases e2 : k9 = (35 : Int).toNat
                  · rw [if_pos ⟨rfl, e2⟩]; first | (exfalso; omega) | rw [e2]
                  · rw [if_neg (fun q => e2 q.2)]
                    by_cases e1 : k9 = a.toNat
                    · rw [if_pos ⟨rfl, e1⟩]; first | (exfalso; omega) | rw [e1]
                    · rw [if_neg (fun q => e1 q.2), if_neg (fun q => e2 q.2), if_neg (fun q => e1 q.2)]
                · exact hF2.2
          · exfalso; omega
      · exfalso; omega
  · exfalso; omega
set_option maxRecDepth 20000 in
theorem s4_plugs2 {d : Nat} {σ : aS} {Q : aQ} {a b : Int} {g : aG} (he : gOf σ = g) (hg : GV g) {c : Int} (hc : 0 ≤ c ∧ c < ggn g) (ha : 0 ≤ a ∧ a < b) (hb : b < ggn g) (hQ : ∀ σq, FrP σ σq → σq.1 26 0 = a → σq.1 26 1 = b → Q (some (vi (bi (dry g a b c)))) σq) : aCall 34 (d + 4) mX4_plugs [vr 18, vi c, vi a, vi b] σ Q := by
  refine cl_in (own := RX4) (cc := cX4_plugs) (rk := 1) (L := [some (vr 18), some (vi c), some (vi a), some (vi b), none, none]) rfl rfl rfl rfl (by decide) (Nat.le_of_ble_eq_true rfl) ?_
  have hn4 := gn_g he
  have hn35 := hg.2.1
  refine wp_iload_n dX4_plugs_0 rfl ?_
  refine wp_iconst dX4_plugs_1 (by decide) ?_
  refine wp_ic_ne 9 dX4_plugs_2 (by decide) (fun hh2 => ?_) (fun hh2 => ?_)
  · refine wp_aload_n dX4_plugs_9 rfl ?_
    refine wp_getR dX4_plugs_10 flX4_13 (by decide) rfl rfl ?_
    refine wp_iload_n dX4_plugs_13 rfl ?_
    refine wp_iaload dX4_plugs_14 (by decide) rfl (by omega) (by omega) (by decide) ?_
    refine wp_ist (L' := [some (vr _), some (vi _), some (vi _), some (vi _), some (vi _), none]) dX4_plugs_15 (Nat.le_of_ble_eq_true rfl) rfl ?_
    refine wp_iload_n dX4_plugs_17 rfl ?_
    refine wp_iconst dX4_plugs_18 (by decide) ?_
    refine wp_ic_ne 26 dX4_plugs_19 (by decide) (fun hh19 => ?_) (fun hh19 => ?_)
    · refine wp_aload_n dX4_plugs_26 rfl ?_
      refine wp_getR dX4_plugs_27 flX4_13 (by decide) rfl rfl ?_
      refine wp_iload_n dX4_plugs_30 rfl ?_
      refine wp_iaload dX4_plugs_31 (by decide) rfl (by omega) (by omega) (by decide) ?_
      refine wp_ist (L' := [some (vr _), some (vi _), some (vi _), some (vi _), some (vi _), some (vi _)]) dX4_plugs_32 (Nat.le_of_ble_eq_true rfl) rfl ?_
      refine wp_aload_n dX4_plugs_34 rfl ?_
      refine wp_getR dX4_plugs_35 flX4_13 (by decide) rfl rfl ?_
      refine wp_iload_n dX4_plugs_38 rfl ?_
      refine wp_iconst dX4_plugs_39 (by decide) ?_
      refine wp_ic_ne 48 dX4_plugs_40 (by decide) (fun hh40 => ?_) (fun hh40 => ?_)
      · refine wp_iload_n dX4_plugs_48 rfl ?_
        refine wp_iconst dX4_plugs_49 (by decide) ?_
        refine wp_iastore dX4_plugs_50 (by decide) rfl (by omega) (by omega) (by decide) ?_
        refine wp_aload_n dX4_plugs_51 rfl ?_
        refine wp_getR dX4_plugs_52 flX4_13 (by decide) rfl rfl ?_
        refine wp_iload_n dX4_plugs_55 rfl ?_
        refine wp_iconst dX4_plugs_56 (by decide) ?_
        refine wp_ic_ne 65 dX4_plugs_57 (by decide) (fun hh57 => ?_) (fun hh57 => ?_)
        · refine wp_iload_n dX4_plugs_65 rfl ?_
          refine wp_iconst dX4_plugs_66 (by decide) ?_
          refine wp_iastore dX4_plugs_67 (by decide) rfl (by omega) (by omega) (by decide) ?_
          refine wp_aload_n dX4_plugs_68 rfl ?_
          refine wp_iconst dX4_plugs_69 (by decide) ?_
          refine wp_V1 dX4_plugs_70 vlX4_167 (by decide) rfl (Nat.le_of_ble_eq_true rfl) ?_
          have he1 := plg_of (i := a.toNat) (j := b.toNat) (a := a) (b := b) he hg (fun k hk => by omega) (fun k hk => by omega)
          refine s4_flows he1 (plg_ok hg _ _) (fun σ2 hF2 hwet => ?_)
          have hv := hwet c.toNat (by show ((c.toNat : Nat) : Int) < ggn g; omega)
          rw [Int.toNat_of_nonneg hc.1] at hv
          have hv2 := bi_01 (Rch (flW (plg g a b)) (plg g a b) (spS (plg g a b) (-1)) c)
          refine wp_aload_n dX4_plugs_73 rfl ?_
          refine wp_getR dX4_plugs_74 flX4_13 (by decide) rfl rfl ?_
          refine wp_iload_n dX4_plugs_77 rfl ?_
          refine wp_iconst dX4_plugs_78 (by decide) ?_
          refine wp_ic_ne 87 dX4_plugs_79 (by decide) (fun hh79 => ?_) (fun hh79 => ?_)
          · refine wp_iload_n dX4_plugs_87 rfl ?_
            refine wp_iload dX4_plugs_88 rfl ?_
            refine wp_iastore dX4_plugs_90 (by decide) rfl (by omega) (by omega) (by decide) ?_
            refine wp_aload_n dX4_plugs_91 rfl ?_
            refine wp_getR dX4_plugs_92 flX4_13 (by decide) rfl rfl ?_
            refine wp_iload_n dX4_plugs_95 rfl ?_
            refine wp_iconst dX4_plugs_96 (by decide) ?_
            refine wp_ic_ne 105 dX4_plugs_97 (by decide) (fun hh97 => ?_) (fun hh97 => ?_)
            · refine wp_iload_n dX4_plugs_105 rfl ?_
              refine wp_iload dX4_plugs_106 rfl ?_
              refine wp_iastore dX4_plugs_108 (by decide) rfl (by omega) (by omega) (by decide) ?_
              refine wp_aload_n dX4_plugs_109 rfl ?_
              refine wp_getR dX4_plugs_110 flX4_32 (by decide) rfl rfl ?_
              refine wp_iconst dX4_plugs_113 (by decide) ?_
              refine wp_iload_n dX4_plugs_114 rfl ?_
              refine wp_iastore dX4_plugs_115 (by decide) rfl (by omega) (by omega) (by decide) ?_
              refine wp_aload_n dX4_plugs_116 rfl ?_
              refine wp_getR dX4_plugs_117 flX4_32 (by decide) rfl rfl ?_
              refine wp_iconst dX4_plugs_120 (by decide) ?_
              refine wp_iload_n dX4_plugs_121 rfl ?_
              refine wp_iastore dX4_plugs_122 (by decide) rfl (by omega) (by omega) (by decide) ?_
              refine wp_aload_n dX4_plugs_123 rfl ?_
              refine wp_getR dX4_plugs_124 flX4_29 (by decide) rfl rfl ?_
              refine wp_iload_n dX4_plugs_127 rfl ?_
              refine wp_baload dX4_plugs_128 (by decide) rfl (by omega) (by omega) (by decide) ?_
              rw [sI_ne (fun q => absurd q.1 (by decide))]
              rw [sI_ne (fun q => absurd q.1 (by decide))]
              rw [sI_ne (fun q => absurd q.1 (by decide))]
              rw [sI_ne (fun q => absurd q.1 (by decide))]
              refine wp_if_ne 136 dX4_plugs_129 (by decide) (fun hh129 => ?_) (fun hh129 => ?_)
              · refine wp_iconst dX4_plugs_136 (by decide) ?_
                refine wp_iret dX4_plugs_137 (Or.inr ⟨rfl, by decide⟩) ?_
                first
                | refine q_f (P := dry g a b c) (fun q => q (bi_1.mp (by omega))) (hQ _ ⟨fun c9 k9 a1 a2 a3 => ?_, fun k9 hk9 => ?_, ?_⟩ rfl rfl)
                | refine q_t (P := dry g a b c) (bi_0.mp (by omega)) (hQ _ ⟨fun c9 k9 a1 a2 a3 => ?_, fun k9 hk9 => ?_, ?_⟩ rfl rfl)
                · rw [sI_ne (fun q => a3 q.1), sI_ne (fun q => a3 q.1), sI_ne (fun q => a1 q.1), sI_ne (fun q => a1 q.1), hF2.1 c9 k9 a2, sI_ne (fun q => a1 q.1), sI_ne (fun q => a1 q.1)]
                · rw [sI_ne (fun q => absurd q.1 (by decide)), sI_ne (fun q => absurd q.1 (by decide)), sI_at, sI_at, hF2.1 20 k9 (by decide), sI_at, sI_at]
                  by_cases e2 : k9 = b.toNat
                  · rw [if_pos ⟨rfl, e2⟩]; first | (exfalso; omega) | rw [e2]
                  · rw [if_neg (fun q => e2 q.2)]
                    by_cases e1 : k9 = a.toNat
                    · rw [if_pos ⟨rfl, e1⟩]; first | (exfalso; omega) | rw [e1]
                    · rw [if_neg (fun q => e1 q.2), if_neg (fun q => e2 q.2), if_neg (fun q => e1 q.2)]
                · exact hF2.2
              · refine wp_iconst dX4_plugs_132 (by decide) ?_
                refine wp_gotoN 137 dX4_plugs_133 (by decide) ?_
                refine wp_iret dX4_plugs_137 (Or.inr ⟨rfl, by decide⟩) ?_
                first
                | refine q_f (P := dry g a b c) (fun q => q (bi_1.mp (by omega))) (hQ _ ⟨fun c9 k9 a1 a2 a3 => ?_, fun k9 hk9 => ?_, ?_⟩ rfl rfl)
                | refine q_t (P := dry g a b c) (bi_0.mp (by omega)) (hQ _ ⟨fun c9 k9 a1 a2 a3 => ?_, fun k9 hk9 => ?_, ?_⟩ rfl rfl)
                · rw [sI_ne (fun q => a3 q.1), sI_ne (fun q => a3 q.1), sI_ne (fun q => a1 q.1), sI_ne (fun q => a1 q.1), hF2.1 c9 k9 a2, sI_ne (fun q => a1 q.1), sI_ne (fun q => a1 q.1)]
                · rw [sI_ne (fun q => absurd q.1 (by decide)), sI_ne (fun q => absurd q.1 (by decide)), sI_at, sI_at, hF2.1 20 k9 (by decide), sI_at, sI_at]
                  by_cases e2 : k9 = b.toNat
                  · rw [if_pos ⟨rfl, e2⟩]; first | (exfalso; omega) | rw [e2]
                  · rw [if_neg (fun q => e2 q.2)]
                    by_cases e1 : k9 = a.toNat
                    · rw [if_pos ⟨rfl, e1⟩]; first | (exfalso; omega) | rw [e1]
                    · rw [if_neg (fun q => e1 q.2), if_neg (fun q => e2 q.2), if_neg (fun q => e1 q.2)]
                · exact hF2.2
            · exfalso; omega
          · exfalso; omega
        · exfalso; omega
      · exfalso; omega
    · exfalso; omega
  · exfalso; omega
