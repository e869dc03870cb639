theorem mr1 {w row i : Nat} (h1 : 1 ≤ w) (h2 : w ≤ 7) : ((i < row * w ∧ i % w = 0) ∨ i = row * w) ↔ (i < (row + 1) * w ∧ i % w = 0) := by
  have : w = 1 ∨ w = 2 ∨ w = 3 ∨ w = 4 ∨ w = 5 ∨ w = 6 ∨ w = 7 := by omega
  rcases this with rfl | rfl | rfl | rfl | rfl | rfl | rfl <;> omega
theorem mr2 {w row i : Nat} (h1 : 1 ≤ w) (h2 : w ≤ 7) : ((i < row * w ∧ i % w = w - 1) ∨ i = row * w + w - 1) ↔ (i < (row + 1) * w ∧ i % w = w - 1) := by
  have : w = 1 ∨ w = 2 ∨ w = 3 ∨ w = 4 ∨ w = 5 ∨ w = 6 ∨ w = 7 := by omega
  rcases this with rfl | rfl | rfl | rfl | rfl | rfl | rfl <;> omega
theorem mr3 {w row i : Nat} {m : Int} (h1 : 1 ≤ w) (h2 : w ≤ 7) (hm : (row : Int) < m) : ((i < row * w ∧ ((i / w : Nat) : Int) < m) ∨ (row * w ≤ i ∧ i < row * w + w)) ↔ (i < (row + 1) * w ∧ ((i / w : Nat) : Int) < m) := by
  have : w = 1 ∨ w = 2 ∨ w = 3 ∨ w = 4 ∨ w = 5 ∨ w = 6 ∨ w = 7 := by omega
  rcases this with rfl | rfl | rfl | rfl | rfl | rfl | rfl <;> omega
theorem mr4 {w row i : Nat} {m : Int} (h1 : 1 ≤ w) (h2 : w ≤ 7) (hm : ¬ (row : Int) < m) : (i < row * w ∧ ((i / w : Nat) : Int) < m) ↔ (i < (row + 1) * w ∧ ((i / w : Nat) : Int) < m) := by
  have : w = 1 ∨ w = 2 ∨ w = 3 ∨ w = 4 ∨ w = 5 ∨ w = 6 ∨ w = 7 := by omega
  rcases this with rfl | rfl | rfl | rfl | rfl | rfl | rfl <;> omega
theorem msk {w j : Nat} (h1 : 1 ≤ w) (h2 : w ≤ 7) : ((1#64 <<< w) - 1#64).getLsbD j = true ↔ j < w := by
  by_cases hj : j < 64
  · have : w = 1 ∨ w = 2 ∨ w = 3 ∨ w = 4 ∨ w = 5 ∨ w = 6 ∨ w = 7 := by omega
    have K : ∀ v : Fin 8, ∀ i : Fin 64, ((1#64 <<< v.val) - 1#64).getLsbD i.val = decide (i.val < v.val) := by decide +kernel
    have e := K ⟨w, by omega⟩ ⟨j, hj⟩
    rw [show ((1#64 <<< w) - 1#64).getLsbD j = decide (j < w) from e, decide_eq_true_eq]
  · rw [BitVec.getLsbD_of_ge _ _ (by omega)]
    exact ⟨fun q => absurd q (by decide), fun q => absurd q (by omega)⟩
theorem msk_at {w f i : Nat} (h1 : 1 ≤ w) (h2 : w ≤ 7) (hf : f + w ≤ 64) : (((1#64 <<< w) - 1#64) <<< f).getLsbD i = true ↔ f ≤ i ∧ i < f + w := by
  rw [BitVec.getLsbD_shiftLeft, Bool.and_eq_true, Bool.and_eq_true, msk h1 h2]
  simp only [Bool.not_eq_true', decide_eq_true_eq, decide_eq_false_iff_not]
  omega
theorem SB.oo {x y : BitVec 64} {p q : Nat → Prop} (h : SB x p) (h' : SB y q) : SB (x ||| y) (fun i => p i ∨ q i) := fun i => by
  rw [BitVec.getLsbD_or, Bool.or_eq_true, h i, h' i]
/-- so many ROWS are marked -/
def MR (σ : aS) (w row : Nat) (m : Int) : Prop := SB (σ.2 13 7) (fun i => i < row * w ∧ i % w = 0) ∧ SB (σ.2 13 8) (fun i => i < row * w ∧ i % w = w - 1) ∧ SB (σ.2 13 9) (fun i => i < row * w ∧ ((i / w : Nat) : Int) < m)
abbrev nA (_ _ : Nat) : Prop := False
abbrev rB (c k : Nat) : Prop := c = 13 ∧ (k = 7 ∨ k = 8 ∨ k = 9)
set_option maxRecDepth 20000 in
theorem l0_rows {d : Nat} {Q : aQ} {σ0 : aS} {R w : Nat} {m : Int} {NC : Nat} (hN : 18 ≤ NC) (h1 : σ0.1 13 1 = R) (h2 : σ0.1 13 2 = w) (hR : R ≤ 5) (hw : 0 < R → 1 ≤ w ∧ w ≤ 7) (hQ : ∀ σ2, FrQ nA rB σ0 σ2 → MR σ2 w R m → Q none σ2) : ∀ (r : Nat) (row : Nat) (σ : aS) (x3 : Option aV), row + r = R → FrQ nA rB σ0 σ → MR σ w row m → Wp RX0 cX0_markRows NC (aCall NC (d + 1)) Q 3 false 0 (fun _ => 0) 2 [some (vr 13), some (vi m), some (vi (row : Int)), x3] [] σ := by
  intro r
  induction r with
  | zero =>
    intro row σ x3 hr hf g
    have q1 : σ.1 13 1 = R := by rw [hf.1 13 1 (fun q => q)]; exact h1
    have q2 : σ.1 13 2 = w := by rw [hf.1 13 2 (fun q => q)]; exact h2
    refine wp_iload_n dX0_markRows_2 rfl ?_
    refine wp_aload_n dX0_markRows_3 rfl ?_
    refine wp_getI dX0_markRows_4 flX0_62 (by omega) rfl (Or.inl rfl) ?_
    refine wp_ic_ge 81 dX0_markRows_7 (by decide) (fun h7 => ?_) (fun h7 => ?_)
    · refine wp_vret dX0_markRows_81 rfl ?_
      have e : row = R := by omega
      subst e
      exact hQ σ hf g
    · exfalso; omega
  | succ r ih =>
    intro row σ x3 hr hf g
    have q1 : σ.1 13 1 = R := by rw [hf.1 13 1 (fun q => q)]; exact h1
    have q2 : σ.1 13 2 = w := by rw [hf.1 13 2 (fun q => q)]; exact h2
    obtain ⟨w1, w2⟩ := hw (by omega)
    have hp : (row : Int) * σ.1 13 2 = ((row * w : Nat) : Int) := by rw [q2]; exact (Int.natCast_mul row w).symm
    have hp2 : row * w ≤ 28 := by
      have : row * w ≤ 4 * 7 := Nat.mul_le_mul (by omega) w2
      omega
    have t1 : (((row * w : Nat) : Int)).toNat = row * w := rfl
    have t2 : (((row * w : Nat) : Int) + σ.1 13 2 - 1).toNat = row * w + w - 1 := by omega
    have t3 : (σ.1 13 2).toNat = w := by omega
    refine wp_iload_n dX0_markRows_2 rfl ?_
    refine wp_aload_n dX0_markRows_3 rfl ?_
    refine wp_getI dX0_markRows_4 flX0_62 (by omega) rfl (Or.inl rfl) ?_
    refine wp_ic_ge 81 dX0_markRows_7 (by decide) (fun h7 => ?_) (fun h7 => ?_)
    · exfalso; omega
    · refine wp_iload_n dX0_markRows_10 rfl ?_
      refine wp_aload_n dX0_markRows_11 rfl ?_
      refine wp_getI dX0_markRows_12 flX0_65 (by omega) rfl (Or.inl rfl) ?_
      refine wp_imulN dX0_markRows_15 (by omega) ?_
      rw [hp]
      refine wp_istN (L' := [some (vr _), some (vi _), some (vi _), some (vi _)]) dX0_markRows_16 (Nat.le_of_ble_eq_true rfl) rfl ?_
      refine wp_aload_n dX0_markRows_17 rfl ?_
      refine wp_dup dX0_markRows_18 rfl ?_
      refine wp_getJ dX0_markRows_19 flX0_71 (by omega) rfl rfl ?_
      refine wp_iload_n dX0_markRows_22 rfl ?_
      refine wp_S1 dX0_markRows_23 zlX0_80 (Nat.le_of_ble_eq_true rfl) ?_
      refine s3_bit (by omega) (by omega) ?_
      rw [t1]
      refine wp_lor dX0_markRows_26 ?_
      refine wp_putJ dX0_markRows_27 flX0_71 (by omega) rfl rfl rfl rfl ?_
      refine wp_aload_n dX0_markRows_30 rfl ?_
      refine wp_dup dX0_markRows_31 rfl ?_
      refine wp_getJ dX0_markRows_32 flX0_74 (by omega) rfl rfl ?_
      rw [sJ_ne (fun q => absurd q.2 (by decide))]
      refine wp_iload_n dX0_markRows_35 rfl ?_
      refine wp_aload_n dX0_markRows_36 rfl ?_
      refine wp_getI dX0_markRows_37 flX0_65 (by omega) rfl (Or.inl rfl) ?_
      rw [sJ_1]
      refine wp_iaddN dX0_markRows_40 (by omega) ?_
      refine wp_iconst dX0_markRows_41 (by decide) ?_
      refine wp_isubN dX0_markRows_42 (by omega) ?_
      refine wp_S1 dX0_markRows_43 zlX0_80 (Nat.le_of_ble_eq_true rfl) ?_
      refine s3_bit (by omega) (by omega) ?_
      rw [t2]
      refine wp_lor dX0_markRows_46 ?_
      refine wp_putJ dX0_markRows_47 flX0_74 (by omega) rfl rfl rfl rfl ?_
      refine wp_iload_n dX0_markRows_50 rfl ?_
      refine wp_iload_n dX0_markRows_51 rfl ?_
      refine wp_ic_ge 75 dX0_markRows_52 (by decide) (fun h52 => ?_) (fun h52 => ?_)
      · refine wp_iincN (L' := [some (vr _), some (vi _), some (vi _), some (vi _)]) dX0_markRows_75 rfl (by omega) rfl ?_
        refine wp_gotoN 2 dX0_markRows_78 (by decide) ?_
        exact ih (row + 1) _ _ (by omega) ((hf.putJ (by decide)).putJ (by decide)) ⟨(g.1.o (by omega)).c (fun i => mr1 w1 w2), (g.2.1.o (by omega)).c (fun i => mr2 w1 w2), g.2.2.c (fun i => mr4 w1 w2 (by omega))⟩
      · refine wp_aload_n dX0_markRows_55 rfl ?_
        refine wp_dup dX0_markRows_56 rfl ?_
        refine wp_getJ dX0_markRows_57 flX0_77 (by omega) rfl rfl ?_
        rw [sJ_ne (fun q => absurd q.2 (by decide))]
        rw [sJ_ne (fun q => absurd q.2 (by decide))]
        refine wp_aload_n dX0_markRows_60 rfl ?_
        refine wp_getI dX0_markRows_61 flX0_65 (by omega) rfl (Or.inl rfl) ?_
        rw [sJ_1]
        rw [sJ_1]
        refine wp_S1 dX0_markRows_64 zlX0_80 (Nat.le_of_ble_eq_true rfl) ?_
        refine s3_bit (by omega) (by omega) ?_
        rw [t3]
        refine wp_lconst1 dX0_markRows_67 ?_
        refine wp_lsub dX0_markRows_68 ?_
        refine wp_iload_n dX0_markRows_69 rfl ?_
        refine wp_lshl dX0_markRows_70 (by omega) (by omega) ?_
        rw [t1]
        refine wp_lor dX0_markRows_71 ?_
        refine wp_putJ dX0_markRows_72 flX0_77 (by omega) rfl rfl rfl rfl ?_
        refine wp_iincN (L' := [some (vr _), some (vi _), some (vi _), some (vi _)]) dX0_markRows_75 rfl (by omega) rfl ?_
        refine wp_gotoN 2 dX0_markRows_78 (by decide) ?_
        exact ih (row + 1) _ _ (by omega) (((hf.putJ (by decide)).putJ (by decide)).putJ (by decide)) ⟨(g.1.o (by omega)).c (fun i => mr1 w1 w2), (g.2.1.o (by omega)).c (fun i => mr2 w1 w2), (SB.oo g.2.2 (fun i => msk_at w1 w2 (by omega))).c (fun i => mr3 w1 w2 (by omega))⟩
set_option maxRecDepth 20000 in
theorem s0_rows {d : Nat} {σ : aS} {Q : aQ} {R w : Nat} {m : Int} {NC : Nat} (hN : 18 ≤ NC) (h1 : σ.1 13 1 = R) (h2 : σ.1 13 2 = w) (hR : R ≤ 5) (hw : 0 < R → 1 ≤ w ∧ w ≤ 7) (z7 : σ.2 13 7 = 0#64) (z8 : σ.2 13 8 = 0#64) (z9 : σ.2 13 9 = 0#64) (hQ : ∀ σ2, FrQ nA rB σ σ2 → MR σ2 w R m → Q none σ2) : aCall NC (d + 2) mX0_markRows [vr 13, vi m] σ Q := by
  refine cl_in (own := RX0) (cc := cX0_markRows) (rk := 3) (L := [some (vr 13), some (vi m), none, none]) rfl rfl rfl rfl (by decide) (Nat.le_of_ble_eq_true rfl) ?_
  refine wp_iconst dX0_markRows_0 (by decide) ?_
  refine wp_istN (L' := [some (vr _), some (vi _), some (vi _), none]) dX0_markRows_1 (Nat.le_of_ble_eq_true rfl) rfl ?_
  exact l0_rows hN h1 h2 hR hw hQ R 0 σ _ (by omega) FrQ.rf ⟨by rw [z7]; exact SB.z.c (fun i => ⟨fun q => q.elim, fun q => absurd q.1 (by rw [Nat.zero_mul]; exact Nat.not_lt_zero _)⟩), by rw [z8]; exact SB.z.c (fun i => ⟨fun q => q.elim, fun q => absurd q.1 (by rw [Nat.zero_mul]; exact Nat.not_lt_zero _)⟩), by rw [z9]; exact SB.z.c (fun i => ⟨fun q => q.elim, fun q => absurd q.1 (by rw [Nat.zero_mul]; exact Nat.not_lt_zero _)⟩)⟩
