theorem isB_mk : ∀ j9 : Nat, j9 < 32 → bi32 (· &&& ·) ((-1 : Int) / 2 ^ j9) 1 = 1 := by decide +kernel
theorem isB_m (k : Int) : isB (-1) k := isB_mk _ (by omega)
theorem ge_of {σ : aS} {g : aG} {R W : Nat} {m : Int} (e : σ.1 13 2 = ggw g) (hW : (W : Int) = ggw g) (hR : ((R * W : Nat) : Int) = ggn g) (hm : ggm g = m) (h : MR σ W R m) : GE σ g := by
  refine ⟨e, h.1.c (fun i => ?_), h.2.1.c (fun i => ?_), h.2.2.c (fun i => ?_)⟩
  · rw [← hW, ← hR, ← Int.natCast_emod]
    generalize R * W = a
    generalize i % W = b
    omega
  · rw [← hW, ← hR, ← Int.natCast_emod]
    by_cases w0 : W = 0
    · subst w0
      rw [Nat.mul_zero]
      exact ⟨fun q => absurd q.1 (Nat.not_lt_zero i), fun q => absurd q.1 (by omega)⟩
    · generalize R * W = a
      generalize i % W = b
      omega
  · show _ ↔ ((i : Int) < ggn g ∧ (i : Int) / ggw g < ggm g)
    rw [← hW, ← hR, ← Int.natCast_ediv, hm]
    generalize R * W = a
    generalize i / W = b
    omega
theorem PS.ge {σ : aS} {z : aZ} (h : PS σ (PF z) (zm z)) : GE σ (Gz z) := by
  obtain ⟨h1, h2, h3, h4, h5⟩ := h
  obtain ⟨o1, o2, o3, o4, o5⟩ := PF_ok z
  have hw : 0 ≤ (if (PF z).2.2.2.1 ≤ 0 then 0 else (PF z).2.2.1) := by
    by_cases e : (PF z).2.2.2.1 ≤ 0
    · rw [if_pos e]; omega
    · rw [if_neg e]; have := o4 (by omega); omega
  refine ge_of (g := Gz z) h3 (Int.toNat_of_nonneg hw) ?_ rfl h5
  show (((PF z).2.1.toNat * (if (PF z).2.2.2.1 ≤ 0 then 0 else (PF z).2.2.1).toNat : Nat) : Int) = (PF z).2.2.2.1
  by_cases e : (PF z).2.2.2.1 ≤ 0
  · rw [if_pos e]
    show (((PF z).2.1.toNat * 0 : Nat) : Int) = _
    rw [Nat.mul_zero]; omega
  · rw [if_neg e]
    have := o4 (by omega)
    rw [Int.natCast_mul, Int.toNat_of_nonneg o2.1, Int.toNat_of_nonneg (by omega)]
    exact o3
theorem ggk_z {z : aZ} {i : Nat} : ggk (Gz z) (i : Int) = if (i : Int) < (PF z).2.2.2.1 then (PF z).2.2.2.2 i else 0 := rfl
theorem Gz_k {z : aZ} : KZ (Gz z) := fun i hi => by
  have hi : (PF z).2.2.2.1 ≤ i := hi
  show (if (i : Int) < (PF z).2.2.2.1 then (PF z).2.2.2.2 i else 0) = 0
  rw [if_neg (by omega)]
theorem dg_k {z : aZ} {x : BitVec 64} {P : Int → Prop} (h : SB x (dgS (PF z).2.2.2.1.toNat (PF z).2.2.2.2 P)) (h0 : ¬ P 0) : SB x (fun i => P (ggk (Gz z) i)) := h.c (fun i => by
  show (i < (PF z).2.2.2.1.toNat ∧ P ((PF z).2.2.2.2 i)) ↔ P (ggk (Gz z) i)
  rw [ggk_z]
  by_cases e : (i : Int) < (PF z).2.2.2.1
  · rw [if_pos e]; exact ⟨fun q => q.2, fun q => ⟨by omega, q⟩⟩
  · rw [if_neg e]; exact ⟨fun q => absurd q.1 (by omega), fun q => absurd q h0⟩)
/-- the plan tells of g -/
def PL (σ : aS) (g : aG) : Prop := GE σ g ∧ σ.1 13 3 = ggn g ∧ SB (σ.2 13 4) (fun i => opn g i) ∧ SB (σ.2 13 5) (fun i => ggk g i = 2) ∧ SB (σ.2 13 6) (fun i => ggk g i = 3) ∧ SB (σ.2 13 10) (fun i => hld g i) ∧ SB (σ.2 13 11) (fun i => Rch (flW g) g (spS g (-1)) i) ∧ MV σ g ∧ (σ.2 15 1 = 0#64 ∧ σ.2 15 2 = 0#64) ∧ GV g ∧ KZ g ∧ ggn g ≤ 5 * ggw g
theorem Gz_5 {z : aZ} : ggn (Gz z) ≤ 5 * ggw (Gz z) := by
  obtain ⟨o1, o2, o3, o4, o5⟩ := PF_ok z
  show (PF z).2.2.2.1 ≤ 5 * (if (PF z).2.2.2.1 ≤ 0 then 0 else (PF z).2.2.1)
  by_cases e : (PF z).2.2.2.1 ≤ 0
  · rw [if_pos e]; omega
  · rw [if_neg e]
    have := o4 (by omega)
    rw [mul_c o2.1 o2.2] at o3
    omega
theorem sp_all {g : aG} {i : Nat} (hk : KZ g) : (ggk g i = 3 ∧ opn g i) ↔ spS g (-1) i := by
  unfold spS
  constructor
  · rintro ⟨h1, h2⟩
    exact ⟨h2.1, by have := h2.2.1; omega, h1, isB_m _⟩
  · rintro ⟨h1, h2, h3, -⟩
    exact ⟨h3, h1, by omega, by omega⟩
theorem spS_o {g : aG} {b c : Int} (h : spS g b c) : opn g c := ⟨h.1, by have := h.2.1; omega, by have := h.2.2.1; omega⟩
theorem pl_sv {σ : aS} {z : aZ} (hz : ZV z) (h : PS σ (PF z) (zm z)) (c1 : σ.2 15 1 = 0#64) (c2 : σ.2 15 2 = 0#64) : PL (svS σ) (Gz z) := by
  have ge := h.ge
  have hg := Gz_ok hz
  have hk := Gz_k (z := z)
  have dg := h.2.2.2.1
  have h4 : SB (σ.2 13 4) (fun i => opn (Gz z) i) := (dg_k (P := fun v => v ≠ 0) dg.2.1 (fun q => q rfl)).c (fun i => (opn_i hk).symm)
  have h5 : SB (σ.2 13 5) (fun i => ggk (Gz z) i = 2) := dg_k (P := fun v => v = 2) dg.2.2.1 (by decide)
  have h6 : SB (σ.2 13 6) (fun i => ggk (Gz z) i = 3) := dg_k (P := fun v => v = 3) dg.2.2.2 (by decide)
  have hA : SB (σ.2 13 4 &&& (σ.2 13 5 ||| nt (lsx σ (σ.2 13 4)))) (fun i => hld (Gz z) i) := by
    refine ((h4.an (h5.oo (lsx_g hg ge h4).nt))).c (fun i => ?_)
    show (opn (Gz z) i ∧ (ggk (Gz z) i = 2 ∨ (i < 64 ∧ ¬ (opn (Gz z) i ∧ opn (Gz z) (blw (Gz z) i))))) ↔ (ggk (Gz z) i ≠ 0 ∧ (ggk (Gz z) i = 2 ∨ ¬ opn (Gz z) (blw (Gz z) i)))
    rw [← opn_i hk]
    refine and_congr_right (fun ho => ?_)
    have := opn_w hg ho
    exact or_congr_right ⟨fun q w => q.2 ⟨ho, w⟩, fun q => ⟨by omega, fun w => q w.2⟩⟩
  have ge1 : GE (sJ σ 13 10 (σ.2 13 4 &&& (σ.2 13 5 ||| nt (lsx σ (σ.2 13 4))))) (Gz z) := ge
  have hB := soak_g (S := spS (Gz z) (-1)) hg ge1 h4 ((h6.an h4).c (fun i => sp_all hk)) (fun c hc => spS_o hc)
  have e3 : σ.1 13 3 = ggn (Gz z) := by
    rw [dg.1]
    exact Int.toNat_of_nonneg (PF_ok z).1.1
  exact ⟨ge, e3, h4, h5, h6, hA, hB, mv_g (σ := sJ (sJ σ 13 10 (σ.2 13 4 &&& (σ.2 13 5 ||| nt (lsx σ (σ.2 13 4))))) 13 11 (soak (sJ σ 13 10 (σ.2 13 4 &&& (σ.2 13 5 ||| nt (lsx σ (σ.2 13 4))))) (σ.2 13 4) (lsx (sJ σ 13 10 (σ.2 13 4 &&& (σ.2 13 5 ||| nt (lsx σ (σ.2 13 4))))) (σ.2 13 4)) 35 (σ.2 13 6 &&& σ.2 13 4))) hg hk ge h4 h5 hA, ⟨c1, c2⟩, hg, hk, Gz_5⟩
abbrev vA (c k : Nat) : Prop := (c = 13 ∧ k ≤ 3) ∨ (c = 16 ∧ k = 3)
abbrev vB (c k : Nat) : Prop := (c = 13 ∧ 4 ≤ k ∧ k ≤ 11) ∨ c = 14 ∨ (c = 15 ∧ (k = 0 ∨ k = 3)) ∨ (c = 16 ∧ k = 2)
theorem svS_fr {σ : aS} : FrQ vA vB σ (svS σ) := (((((((FrQ.rf.putJ (by decide)).putJ (by decide)).putJ (by decide)).putJ (by decide)).putJ (by decide)).putJ (by decide)).putJ (by decide)).putJ (by decide)
/-- the WAYS that are known -/
def WY (σ : aS) (g : aG) : Prop := σ.1 16 3 = ggt g ∧ ∀ a b : Nat, (σ.2 16 2).getLsbD a = true → (a : Int) < ggn g → (b : Int) < ggn g → σ.1 17 (35 * a + b) = wayv g a b
def PV (σ : aS) (z : aZ) : Prop := σ.1 13 0 = (PF z).1 ∧ σ.1 13 1 = (PF z).2.1 ∧ PL σ (Gz z) ∧ WY σ (Gz z)
set_option maxRecDepth 20000 in
theorem s2_renew {d : Nat} {σ : aS} {Q : aQ} {t : Int} {NC : Nat} (hN : 18 ≤ NC) (hQ : Q none (sJ (sI σ 16 3 t) 16 2 0#64)) : aCall NC (d + 1) mX2_renew [vr 16, vi t] σ Q := by
  refine cl_in (own := RX2) (cc := cX2_renew) (rk := 3) (L := [some (vr 16), some (vi t)]) rfl rfl rfl rfl (by decide) (Nat.le_of_ble_eq_true rfl) ?_
  refine wp_aload_n dX2_renew_0 rfl ?_
  refine wp_iload_n dX2_renew_1 rfl ?_
  refine wp_putI dX2_renew_2 flX2_19 (by omega) rfl rfl rfl rfl ?_
  refine wp_aload_n dX2_renew_5 rfl ?_
  refine wp_lconst0 dX2_renew_6 ?_
  refine wp_putJ dX2_renew_7 flX2_23 (by omega) rfl rfl rfl rfl ?_
  refine wp_vret dX2_renew_10 rfl ?_
  exact hQ
theorem PL.fr {A B : Nat → Nat → Prop} {σ σ' : aS} {g : aG} (h : PL σ g) (f : FrQ A B σ σ') (hA : ∀ k, ¬ A 13 k) (hB : ∀ k, ¬ B 13 k) (hB4 : ∀ k, ¬ B 14 k) (hB5 : ∀ k, ¬ B 15 k) : PL σ' g := by
  unfold PL GE MV
  rw [f.1 13 2 (hA 2), f.1 13 3 (hA 3), f.2 13 4 (hB 4), f.2 13 5 (hB 5), f.2 13 6 (hB 6), f.2 13 7 (hB 7), f.2 13 8 (hB 8), f.2 13 9 (hB 9), f.2 13 10 (hB 10), f.2 13 11 (hB 11), f.2 14 0 (hB4 0), f.2 14 1 (hB4 1), f.2 14 2 (hB4 2), f.2 14 3 (hB4 3), f.2 15 0 (hB5 0), f.2 15 1 (hB5 1), f.2 15 2 (hB5 2), f.2 15 3 (hB5 3)]
  exact h
set_option maxRecDepth 20000 in
theorem s3_renew {d : Nat} {σ : aS} {Q : aQ} {z : aZ} {NC : Nat} (hN : 18 ≤ NC) (hz : ZV z) (hl1 : σ.1 0 1 = zl z) (htx : ∀ k, k < zl z → σ.1 1 k = zx z k) (h2 : σ.1 0 2 = zm z) (h3 : σ.1 0 3 = zt z) (c1 : σ.2 15 1 = 0#64) (c2 : σ.2 15 2 = 0#64) (hQ : ∀ σ', FrQ vA vB σ σ' → PV σ' z → Q none σ') : aCall NC (d + 5) mX3_renew [vr 0] σ Q := by
  refine cl_in (own := RX3) (cc := cX3_renew) (rk := 3) (L := [some (vr 0)]) rfl rfl rfl rfl (by decide) (Nat.le_of_ble_eq_true rfl) ?_
  have hl := hz.1
  refine wp_aload_n dX3_renew_0 rfl ?_
  refine wp_getR dX3_renew_1 flX3_39 (by omega) rfl rfl ?_
  refine wp_aload_n dX3_renew_4 rfl ?_
  refine wp_getR dX3_renew_5 flX3_9 (by omega) rfl rfl ?_
  refine wp_aload_n dX3_renew_8 rfl ?_
  refine wp_getI dX3_renew_9 flX3_55 (by omega) rfl (Or.inl rfl) ?_
  refine wp_aload_n dX3_renew_12 rfl ?_
  refine wp_getI dX3_renew_13 flX3_13 (by omega) rfl (Or.inl rfl) ?_
  rw [hl1, h2]
  refine wp_V3 dX3_renew_16 vlX3_298 (by omega) rfl (Nat.le_of_ble_eq_true rfl) ?_
  refine s0_survey (len := zl z) hN hl htx rfl (fun σ2 f2 p2 => ?_)
  have hT : pf (zx z) (zl z) (zl z) 0 0 0 0 7 (fun _ => 0) = PF z := rfl
  rw [hT] at p2
  have pl := pl_sv hz p2 (by rw [f2.2 15 1 (by decide)]; exact c1) (by rw [f2.2 15 2 (by decide)]; exact c2)
  have f3 : FrQ vA vB σ (svS σ2) := (f2.mo (fun _ _ q => Or.inl q) (fun _ _ q => Or.inl ⟨q.1, by omega⟩)).tr svS_fr
  refine wp_aload_n dX3_renew_19 rfl ?_
  refine wp_getR dX3_renew_20 flX3_48 (by omega) rfl rfl ?_
  refine wp_aload_n dX3_renew_23 rfl ?_
  refine wp_getI dX3_renew_24 flX3_17 (by omega) rfl (Or.inl rfl) ?_
  refine wp_V1 dX3_renew_27 vlX3_302 (by omega) rfl (Nat.le_of_ble_eq_true rfl) ?_
  refine s2_renew hN ?_
  refine wp_vret dX3_renew_30 rfl ?_
  have f4 : FrQ (fun c k => c = 16) (fun c k => c = 16) (svS σ2) (sJ (sI (svS σ2) 16 3 ((svS σ2).1 0 3)) 16 2 0#64) := FrQ.putJ (c := 16) (k := 2) (FrQ.put (c := 16) (k := 3) FrQ.rf rfl) rfl
  refine hQ _ ((f3.put (by decide)).putJ (by decide)) ⟨p2.1, p2.2.1, pl.fr f4 (fun _ q => absurd q (by decide)) (fun _ q => absurd q (by decide)) (fun _ q => absurd q (by decide)) (fun _ q => absurd q (by decide)), ?_, fun a b q => ?_⟩
  · show (svS σ2).1 0 3 = zt z
    rw [f3.1 0 3 (by decide)]; exact h3
  · exact absurd q (by rw [sJ_eq, BitVec.getLsbD_zero]; decide)
