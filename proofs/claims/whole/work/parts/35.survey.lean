abbrev pA (c k : Nat) : Prop := c = 13 ∧ k ≤ 3
abbrev pB (c k : Nat) : Prop := c = 13 ∧ 4 ≤ k ∧ k ≤ 9
theorem clr_fr {σ : aS} : FrQ pA pB σ (clr σ) := ((((((((FrQ.rf.put (by decide)).put (by decide)).put (by decide)).putJ (by decide)).putJ (by decide)).putJ (by decide)).putJ (by decide)).putJ (by decide)).putJ (by decide)
theorem clr_DG {σ : aS} {kd : Nat → Int} : DG (clr σ) 0 kd := ⟨rfl, SB.z.c (fun i => ⟨fun q => q.elim, fun q => absurd q.1 (Nat.not_lt_zero i)⟩), SB.z.c (fun i => ⟨fun q => q.elim, fun q => absurd q.1 (Nat.not_lt_zero i)⟩), SB.z.c (fun i => ⟨fun q => q.elim, fun q => absurd q.1 (Nat.not_lt_zero i)⟩)⟩
/-- what survey does once the ROWS are marked -/
def svS (σ : aS) : aS := mvS (sJ (sJ σ 13 10 (σ.2 13 4 &&& (σ.2 13 5 ||| nt (lsx σ (σ.2 13 4))))) 13 11 (soak (sJ σ 13 10 (σ.2 13 4 &&& (σ.2 13 5 ||| nt (lsx σ (σ.2 13 4))))) (σ.2 13 4) (lsx (sJ σ 13 10 (σ.2 13 4 &&& (σ.2 13 5 ||| nt (lsx σ (σ.2 13 4))))) (σ.2 13 4)) 35 (σ.2 13 6 &&& σ.2 13 4)))
set_option maxRecDepth 20000 in
theorem w0_sv {d : Nat} {σ : aS} {Q : aQ} {NC : Nat} {a b : Int} (hN : 18 ≤ NC) (w0 : 0 ≤ σ.1 13 2) (w7 : σ.1 13 2 ≤ 7) (hQ : Q none (svS σ)) : Wp RX0 cX0_survey NC (aCall NC (d + 2)) Q 3 false 0 (fun _ => 0) 31 [some (vr 13), some (vr 1), some (vi a), some (vi b)] [] σ := by
  refine wp_aload_n dX0_survey_31 rfl ?_
  refine wp_aload_n dX0_survey_32 rfl ?_
  refine wp_getJ dX0_survey_33 flX0_33 (by omega) rfl rfl ?_
  refine wp_aload_n dX0_survey_36 rfl ?_
  refine wp_getJ dX0_survey_37 flX0_37 (by omega) rfl rfl ?_
  refine wp_aload_n dX0_survey_40 rfl ?_
  refine wp_aload_n dX0_survey_41 rfl ?_
  refine wp_getJ dX0_survey_42 flX0_33 (by omega) rfl rfl ?_
  refine wp_V1 dX0_survey_45 vlX0_40 (by omega) rfl (Nat.le_of_ble_eq_true rfl) ?_
  refine s0_loose hN w0 w7 ?_
  refine wp_ldc2 dX0_survey_48 llX0_44 ?_
  refine wp_lxor dX0_survey_51 ?_
  refine wp_lor dX0_survey_52 ?_
  refine wp_land dX0_survey_53 ?_
  refine wp_putJ dX0_survey_54 flX0_46 (by omega) rfl rfl rfl rfl ?_
  refine wp_aload_n dX0_survey_57 rfl ?_
  refine wp_aload_n dX0_survey_58 rfl ?_
  refine wp_aload_n dX0_survey_59 rfl ?_
  refine wp_getJ dX0_survey_60 flX0_33 (by omega) rfl rfl ?_
  rw [sJ_ne (fun q => absurd q.2 (by decide))]
  refine wp_aload_n dX0_survey_63 rfl ?_
  refine wp_getJ dX0_survey_64 flX0_49 (by omega) rfl rfl ?_
  rw [sJ_ne (fun q => absurd q.2 (by decide))]
  refine wp_V2 dX0_survey_67 vlX0_52 (by omega) rfl (Nat.le_of_ble_eq_true rfl) ?_
  refine s0_soaked hN w0 w7 ?_
  refine wp_putJ dX0_survey_70 flX0_56 (by omega) rfl rfl rfl rfl ?_
  refine wp_aload_n dX0_survey_73 rfl ?_
  refine wp_V0 dX0_survey_74 vlX0_59 (by omega) rfl (Nat.le_of_ble_eq_true rfl) ?_
  refine s0_moves hN (by first | omega | exact w0) (by first | omega | exact w7) ?_
  refine wp_vret dX0_survey_77 rfl ?_
  exact hQ
theorem pf_pos {tx : Nat → Int} {len : Nat} (hl : 0 < len) : ∀ (r k : Nat) (row col n w : Int) (kd : Nat → Int), 0 ≤ col → col ≤ n → (pf tx len r k row col n w kd).1 = -1 → 0 < (pf tx len r k row col n w kd).2.2.2.1 := by
  intro r
  induction r with
  | zero =>
    intro k row col n w kd h0 h1 h
    unfold pf at h ⊢
    by_cases c1 : 0 < len ∧ (col = 0 ∨ (0 < row ∧ col < w))
    · rw [if_pos c1] at h; exact absurd h (by show ¬ ((len : Int) = -1); omega)
    · rw [if_neg c1]; show 0 < n; omega
  | succ r ih =>
    intro k row col n w kd h0 h1 h
    have no : ¬ ((k : Int) = -1) := by omega
    unfold pf at h ⊢
    by_cases c1 : row = 5
    · rw [if_pos c1] at h; exact absurd h no
    · rw [if_neg c1] at h ⊢
      by_cases c2 : tx k = 59
      · rw [if_pos c2] at h ⊢
        by_cases c3 : col = 0 ∨ (0 < row ∧ col < w)
        · rw [if_pos c3] at h; exact absurd h no
        · rw [if_neg c3] at h ⊢; exact ih _ _ _ _ _ _ (by omega) (by omega) h
      · rw [if_neg c2] at h ⊢
        by_cases c3 : kOf (tx k) = -1 ∨ col = w
        · rw [if_pos c3] at h; exact absurd h no
        · rw [if_neg c3] at h ⊢; exact ih _ _ _ _ _ _ (by omega) (by omega) h
/-- the plan read and its ROWS marked -/
def PS (σ : aS) (T : Int × Int × Int × Int × (Nat → Int)) (m : Int) : Prop := σ.1 13 0 = T.1 ∧ σ.1 13 1 = T.2.1 ∧ σ.1 13 2 = (if T.2.2.2.1 ≤ 0 then 0 else T.2.2.1) ∧ DG σ T.2.2.2.1.toNat T.2.2.2.2 ∧ MR σ (if T.2.2.2.1 ≤ 0 then 0 else T.2.2.1).toNat T.2.1.toNat m
