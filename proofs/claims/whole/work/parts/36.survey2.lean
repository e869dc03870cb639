theorem DG.fr {A B : Nat → Nat → Prop} {σ σ' : aS} {n : Nat} {kd : Nat → Int} (g : DG σ n kd) (f : FrQ A B σ σ') (h3 : ¬ A 13 3) (h4 : ¬ B 13 4) (h5 : ¬ B 13 5) (h6 : ¬ B 13 6) : DG σ' n kd := by
  unfold DG
  rw [f.1 13 3 h3, f.2 13 4 h4, f.2 13 5 h5, f.2 13 6 h6]
  exact g
theorem pf_ok0 {tx : Nat → Int} {len : Nat} : okP (pf tx len len 0 0 0 0 7 (fun _ => 0)) := pf_ok _ _ _ _ _ _ _ (by omega) (by omega) (by omega) (by omega) (by omega) (by omega) (fun _ => rfl) (fun h => by omega) (fun _ => ⟨rfl, rfl⟩) (fun h => by omega) (by omega) (fun i hi => by omega)
theorem pf_w {tx : Nat → Int} {len : Nat} {T : Int × Int × Int × Int × (Nat → Int)} (hT : pf tx len len 0 0 0 0 7 (fun _ => 0) = T) (h1 : T.1 = -1) : T.2.2.1 = (if T.2.2.2.1 ≤ 0 then 0 else T.2.2.1) ∧ (0 < T.2.1 → 1 ≤ T.2.2.1 ∧ T.2.2.1 ≤ 7) ∧ 0 ≤ T.2.2.1 ∧ T.2.2.1 ≤ 7 := by
  by_cases hl : len = 0
  · subst hl
    have e : T = (-1, 0, 0, 0, fun _ => 0) := by rw [← hT]; rfl
    subst e
    exact ⟨rfl, fun q => absurd q (by decide), by decide, by decide⟩
  · have ok := pf_ok0 (tx := tx) (len := len)
    have hp := pf_pos (tx := tx) (len := len) (by omega) len 0 0 0 0 7 (fun _ => 0) (by omega) (by omega) (by rw [hT]; exact h1)
    rw [hT] at ok hp
    have hw := ok.2.2.2.1 hp
    rw [if_neg (by omega)]
    exact ⟨rfl, fun _ => hw, by omega, by omega⟩
set_option maxRecDepth 20000 in
theorem s0_survey {d : Nat} {σ : aS} {Q : aQ} {tx : Nat → Int} {len : Nat} {m : Int} {NC : Nat} {T : Int × Int × Int × Int × (Nat → Int)} (hN : 18 ≤ NC) (hl : len ≤ 39) (ht : ∀ k, k < len → σ.1 1 k = tx k) (hT : pf tx len len 0 0 0 0 7 (fun _ => 0) = T) (hQ : ∀ σ2, FrQ pA pB σ σ2 → PS σ2 T m → Q none (svS σ2)) : aCall NC (d + 4) mX0_survey [vr 13, vr 1, vi (len : Int), vi m] σ Q := by
  refine cl_in (own := RX0) (cc := cX0_survey) (rk := 3) (L := [some (vr 13), some (vr 1), some (vi (len : Int)), some (vi m)]) rfl rfl rfl rfl (by decide) (Nat.le_of_ble_eq_true rfl) ?_
  have ok := pf_ok0 (tx := tx) (len := len)
  rw [hT] at ok
  refine wp_aload_n dX0_survey_0 rfl ?_
  refine wp_V0 dX0_survey_1 vlX0_18 (by omega) rfl (Nat.le_of_ble_eq_true rfl) ?_
  refine s0_clear hN ?_
  refine wp_aload_n dX0_survey_4 rfl ?_
  refine wp_aload_n dX0_survey_5 rfl ?_
  refine wp_aload_n dX0_survey_6 rfl ?_
  refine wp_iload_n dX0_survey_7 rfl ?_
  refine wp_V2 dX0_survey_8 vlX0_21 (by omega) rfl (Nat.le_of_ble_eq_true rfl) ?_
  refine s0_spell (tx := tx) (kd := fun _ => 0) hN hl (fun k hk => by rw [clr_fr.1 1 k (fun q => absurd q.1 (by decide))]; exact ht k hk) rfl rfl clr_DG (fun σ3 f3 g3 => ?_)
  rw [hT] at g3 ⊢
  refine wp_putI dX0_survey_11 flX0_25 (by omega) rfl rfl rfl rfl ?_
  refine wp_aload_n dX0_survey_14 rfl ?_
  refine wp_getI dX0_survey_15 flX0_25 (by omega) rfl (Or.inl rfl) ?_
  rw [sI_eq]
  refine wp_iconst dX0_survey_18 (by decide) ?_
  refine wp_ic_eq 26 dX0_survey_19 (by decide) (fun h19 => ?_) (fun h19 => ?_)
  · refine wp_aload_n dX0_survey_26 rfl ?_
    refine wp_iload_n dX0_survey_27 rfl ?_
    refine wp_V1 dX0_survey_28 vlX0_29 (by omega) rfl (Nat.le_of_ble_eq_true rfl) ?_
    obtain ⟨t1, t2, t3⟩ := g3 (by omega)
    obtain ⟨w1, w2, w3, w4⟩ := pf_w hT (by omega)
    refine s0_rows (R := T.2.1.toNat) (w := T.2.2.1.toNat) (m := m) hN (by rw [sI_ne (by decide), t1]; exact (Int.toNat_of_nonneg ok.2.1.1).symm) (by rw [sI_ne (by decide), t2]; exact (Int.toNat_of_nonneg w3).symm) (by have := ok.2.1.2; omega) (fun q => by have := w2 (by omega); omega) ((f3.2 13 7 (by decide)).trans rfl) ((f3.2 13 8 (by decide)).trans rfl) ((f3.2 13 9 (by decide)).trans rfl) (fun σ4 f4 m4 => ?_)
    have e2 : σ4.1 13 2 = T.2.2.1 := by rw [f4.1 13 2 (fun q => q), sI_ne (by decide)]; exact t2
    refine w0_sv (d := d + 1) hN (by omega) (by omega) (hQ _ (((clr_fr.tr (f3.mo (fun _ _ q => ⟨q.1, by omega⟩) (fun _ _ q => ⟨q.1, by omega⟩))).put (by decide)).tr (f4.mo (fun _ _ q => q.elim) (fun _ _ q => ⟨q.1, by omega⟩))) ⟨?_, ?_, ?_, ?_, ?_⟩)
    · rw [f4.1 13 0 (fun q => q)]; exact sI_eq
    · rw [f4.1 13 1 (fun q => q), sI_ne (by decide)]; exact t1
    · rw [← w1]; exact e2
    · exact (t3.i (by decide)).fr f4 (fun q => q) (by decide) (by decide) (by decide)
    · rw [← w1]; exact m4
  · refine wp_aload_n dX0_survey_22 rfl ?_
    refine wp_V0 dX0_survey_23 vlX0_18 (by omega) rfl (Nat.le_of_ble_eq_true rfl) ?_
    refine s0_clear hN ?_
    refine wp_aload_n dX0_survey_26 rfl ?_
    refine wp_iload_n dX0_survey_27 rfl ?_
    refine wp_V1 dX0_survey_28 vlX0_29 (by omega) rfl (Nat.le_of_ble_eq_true rfl) ?_
    obtain ⟨b1, b2⟩ := pf_bad (tx := tx) (len := len) len 0 0 0 0 7 (fun _ => 0) (by rw [hT]; exact h19)
    rw [hT] at b1 b2
    refine s0_rows (R := 0) (w := 0) (m := m) hN rfl rfl (by omega) (fun q => by omega) rfl rfl rfl (fun σ4 f4 m4 => ?_)
    have e2 : σ4.1 13 2 = 0 := by rw [f4.1 13 2 (fun q => q)]; rfl
    refine w0_sv (d := d + 1) hN (by omega) (by omega) (hQ _ ((((clr_fr.tr (f3.mo (fun _ _ q => ⟨q.1, by omega⟩) (fun _ _ q => ⟨q.1, by omega⟩))).put (by decide)).tr clr_fr).tr (f4.mo (fun _ _ q => q.elim) (fun _ _ q => ⟨q.1, by omega⟩))) ⟨?_, ?_, ?_, ?_, ?_⟩)
    · rw [f4.1 13 0 (fun q => q)]; rfl
    · rw [f4.1 13 1 (fun q => q), b1]; rfl
    · rw [if_pos (by omega)]; exact e2
    · rw [b2]; exact clr_DG.fr f4 (fun q => q) (by decide) (by decide) (by decide)
    · rw [if_pos (by omega), b1]; exact m4
