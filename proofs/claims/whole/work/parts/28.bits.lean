/-- the bit of a CELL in a set of the class -/
abbrev bt (x : BitVec 64) (c : Int) : Prop := 0 ≤ c ∧ c < 35 ∧ x.getLsbD c.toNat = true
theorem lcm_z {x y : BitVec 64} : lcm x y = 0 ↔ x = y := by
  unfold lcm
  by_cases h1 : y.toInt < x.toInt
  · rw [if_pos h1]
    exact ⟨fun q => absurd q (by decide), fun q => by rw [q] at h1; exact absurd h1 (by omega)⟩
  · rw [if_neg h1]
    by_cases h2 : x = y
    · rw [if_pos h2]; exact ⟨fun _ => h2, fun _ => rfl⟩
    · rw [if_neg h2]; exact ⟨fun q => absurd q (by decide), fun q => absurd q h2⟩
theorem one_bit (i9 : Nat) : (1#64).getLsbD i9 = decide (i9 = 0) := by
  rw [BitVec.getLsbD_one]
  by_cases h : i9 = 0
  · subst h; decide
  · simp [h]
theorem sh_bit {x : BitVec 64} {i9 : Nat} : ((x >>> i9) &&& 1#64) = 0#64 ↔ x.getLsbD i9 = false := by
  constructor
  · intro h
    have e := congrArg (fun (v : BitVec 64) => v.getLsbD 0) h
    simp only [BitVec.getLsbD_and, BitVec.getLsbD_ushiftRight, one_bit, BitVec.getLsbD_zero, decide_true, Bool.and_true, Nat.add_zero] at e
    exact e
  · intro h
    apply BitVec.eq_of_getLsbD_eq
    intro j9 hj
    simp only [BitVec.getLsbD_and, BitVec.getLsbD_ushiftRight, one_bit, BitVec.getLsbD_zero]
    by_cases e : j9 = 0
    · subst e; simp only [Nat.add_zero, h, Bool.false_and]
    · simp only [e, decide_false, Bool.and_false]
set_option maxRecDepth 20000 in
theorem s3_has {d : Nat} {σ : aS} {Q : aQ} {x : BitVec 64} {c : Int} {NC : Nat} (hQ : Q (some (vi (bi (bt x c)))) σ) : aCall NC (d + 1) mX3_has [vl x, vi c] σ Q := by
  refine cl_in (own := RX3) (cc := cX3_has) (rk := 1) (L := [some (vl x), none, some (vi c)]) rfl rfl rfl rfl (by decide) (Nat.le_of_ble_eq_true rfl) ?_
  refine wp_iload_n dX3_has_0 rfl ?_
  refine wp_if_lt 24 dX3_has_1 (by decide) (fun h1 => ?_) (fun h1 => ?_)
  · refine wp_iconst dX3_has_24 (by decide) ?_
    refine wp_iret dX3_has_25 (Or.inr ⟨rfl, by decide⟩) ?_
    exact q_f (fun q => by omega) hQ
  · refine wp_iload_n dX3_has_4 rfl ?_
    refine wp_bipush dX3_has_5 (by decide) ?_
    refine wp_ic_ge 24 dX3_has_7 (by decide) (fun h7 => ?_) (fun h7 => ?_)
    · refine wp_iconst dX3_has_24 (by decide) ?_
      refine wp_iret dX3_has_25 (Or.inr ⟨rfl, by decide⟩) ?_
      exact q_f (fun q => by omega) hQ
    · refine wp_lload_n dX3_has_10 rfl ?_
      refine wp_iload_n dX3_has_11 rfl ?_
      refine wp_lushr dX3_has_12 (by omega) (by omega) ?_
      refine wp_lconst1 dX3_has_13 ?_
      refine wp_land dX3_has_14 ?_
      refine wp_lconst0 dX3_has_15 ?_
      refine wp_lcmp dX3_has_16 ?_
      refine wp_if_eq 24 dX3_has_17 (by decide) (fun h17 => ?_) (fun h17 => ?_)
      · refine wp_iconst dX3_has_24 (by decide) ?_
        refine wp_iret dX3_has_25 (Or.inr ⟨rfl, by decide⟩) ?_
        exact q_f (fun q => by have q2 := q.2.2; rw [sh_bit.mp (lcm_z.mp h17)] at q2; exact absurd q2 (by decide)) hQ
      · refine wp_iconst dX3_has_20 (by decide) ?_
        refine wp_gotoN 25 dX3_has_21 (by decide) ?_
        refine wp_iret dX3_has_25 (Or.inr ⟨rfl, by decide⟩) ?_
        exact q_t ⟨by omega, by omega, by cases e : x.getLsbD c.toNat with
          | true => rfl
          | false => exact absurd (lcm_z.mpr (sh_bit.mpr e)) h17⟩ hQ
set_option maxRecDepth 20000 in
theorem s3_bit {d : Nat} {σ : aS} {Q : aQ} {c : Int} {NC : Nat} (h0 : 0 ≤ c) (h1 : c < 64) (hQ : Q (some (vl (1#64 <<< c.toNat))) σ) : aCall NC (d + 1) mX3_bit [vi c] σ Q := by
  refine cl_in (own := RX3) (cc := cX3_bit) (rk := 2) (L := [some (vi c)]) rfl rfl rfl rfl (by decide) (Nat.le_of_ble_eq_true rfl) ?_
  refine wp_lconst1 dX3_bit_0 ?_
  refine wp_iload_n dX3_bit_1 rfl ?_
  refine wp_lshl dX3_bit_2 (by omega) (by omega) ?_
  refine wp_lret dX3_bit_3 rfl ?_
  exact hQ
