theorem lk4 {b : Int} {off : Int} (h : (if b = 35 then (43 : Int) else if b = 46 then 45 else if b = 108 then 47 else if b = 119 then 49 else 51) = off) : Op.lookupswitch.offset [(35, 43), (46, 45), (108, 47), (119, 49)] 51 b = off := by
  rw [← h]
  by_cases h1 : b = 35
  · subst h1; rfl
  by_cases h2 : b = 46
  · subst h2; rfl
  by_cases h3 : b = 108
  · subst h3; rfl
  by_cases h4 : b = 119
  · subst h4; rfl
  rw [if_neg h1, if_neg h2, if_neg h3, if_neg h4, Op.lookupswitch.offset_cons, if_neg (by omega), Op.lookupswitch.offset_cons, if_neg (by omega), Op.lookupswitch.offset_cons, if_neg (by omega), Op.lookupswitch.offset_cons, if_neg (by omega)]
  rfl
set_option maxRecDepth 20000 in
theorem s0_kindOf {d : Nat} {σ : aS} {Q : aQ} {b : Int} {NC : Nat} (hQ : Q (some (vi (kOf b))) σ) : aCall NC (d + 1) mX0_kindOf [vi b] σ Q := by
  refine cl_in (own := RX0) (cc := cX0_kindOf) (rk := 0) (L := [some (vi b)]) rfl rfl rfl rfl (by decide) (Nat.le_of_ble_eq_true rfl) ?_
  refine wp_iload_n dX0_kindOf_0 rfl ?_
  unfold kOf at hQ
  by_cases k0 : b = 35
  · refine wp_lookup (tgt := 44) dX0_kindOf_1 (by decide) (lk4 (by rw [if_pos k0])) (by decide) ?_
    rw [if_pos k0] at hQ
    refine wp_iconst dX0_kindOf_44 (by decide) ?_
    refine wp_iret dX0_kindOf_45 (Or.inl rfl) ?_
    exact hQ
  by_cases k1 : b = 46
  · refine wp_lookup (tgt := 46) dX0_kindOf_1 (by decide) (lk4 (by rw [if_neg k0, if_pos k1])) (by decide) ?_
    rw [if_neg k0, if_pos k1] at hQ
    refine wp_iconst dX0_kindOf_46 (by decide) ?_
    refine wp_iret dX0_kindOf_47 (Or.inl rfl) ?_
    exact hQ
  by_cases k2 : b = 108
  · refine wp_lookup (tgt := 48) dX0_kindOf_1 (by decide) (lk4 (by rw [if_neg k0, if_neg k1, if_pos k2])) (by decide) ?_
    rw [if_neg k0, if_neg k1, if_pos k2] at hQ
    refine wp_iconst dX0_kindOf_48 (by decide) ?_
    refine wp_iret dX0_kindOf_49 (Or.inl rfl) ?_
    exact hQ
  by_cases k3 : b = 119
  · refine wp_lookup (tgt := 50) dX0_kindOf_1 (by decide) (lk4 (by rw [if_neg k0, if_neg k1, if_neg k2, if_pos k3])) (by decide) ?_
    rw [if_neg k0, if_neg k1, if_neg k2, if_pos k3] at hQ
    refine wp_iconst dX0_kindOf_50 (by decide) ?_
    refine wp_iret dX0_kindOf_51 (Or.inl rfl) ?_
    exact hQ
  · refine wp_lookup (tgt := 52) dX0_kindOf_1 (by decide) (lk4 (by rw [if_neg k0, if_neg k1, if_neg k2, if_neg k3])) (by decide) ?_
    rw [if_neg k0, if_neg k1, if_neg k2, if_neg k3] at hQ
    refine wp_iconst dX0_kindOf_52 (by decide) ?_
    refine wp_iret dX0_kindOf_53 (Or.inl rfl) ?_
    exact hQ
/-- the plan with nothing dug -/
def clr (σ : aS) : aS := sJ (sJ (sJ (sJ (sJ (sJ (sI (sI (sI σ 13 1 0) 13 2 0) 13 3 0) 13 4 0#64) 13 5 0#64) 13 6 0#64) 13 7 0#64) 13 8 0#64) 13 9 0#64
set_option maxRecDepth 20000 in
theorem s0_clear {d : Nat} {σ : aS} {Q : aQ} {NC : Nat} (hN : 18 ≤ NC) (hQ : Q none (clr σ)) : aCall NC (d + 1) mX0_clear [vr 13] σ Q := by
  refine cl_in (own := RX0) (cc := cX0_clear) (rk := 3) (L := [some (vr 13)]) rfl rfl rfl rfl (by decide) (Nat.le_of_ble_eq_true rfl) ?_
  refine wp_aload_n dX0_clear_0 rfl ?_
  refine wp_iconst dX0_clear_1 (by decide) ?_
  refine wp_putI dX0_clear_2 flX0_62 (by omega) rfl rfl rfl rfl ?_
  refine wp_aload_n dX0_clear_5 rfl ?_
  refine wp_iconst dX0_clear_6 (by decide) ?_
  refine wp_putI dX0_clear_7 flX0_65 (by omega) rfl rfl rfl rfl ?_
  refine wp_aload_n dX0_clear_10 rfl ?_
  refine wp_iconst dX0_clear_11 (by decide) ?_
  refine wp_putI dX0_clear_12 flX0_68 (by omega) rfl rfl rfl rfl ?_
  refine wp_aload_n dX0_clear_15 rfl ?_
  refine wp_lconst0 dX0_clear_16 ?_
  refine wp_putJ dX0_clear_17 flX0_33 (by omega) rfl rfl rfl rfl ?_
  refine wp_aload_n dX0_clear_20 rfl ?_
  refine wp_lconst0 dX0_clear_21 ?_
  refine wp_putJ dX0_clear_22 flX0_37 (by omega) rfl rfl rfl rfl ?_
  refine wp_aload_n dX0_clear_25 rfl ?_
  refine wp_lconst0 dX0_clear_26 ?_
  refine wp_putJ dX0_clear_27 flX0_49 (by omega) rfl rfl rfl rfl ?_
  refine wp_aload_n dX0_clear_30 rfl ?_
  refine wp_lconst0 dX0_clear_31 ?_
  refine wp_putJ dX0_clear_32 flX0_71 (by omega) rfl rfl rfl rfl ?_
  refine wp_aload_n dX0_clear_35 rfl ?_
  refine wp_lconst0 dX0_clear_36 ?_
  refine wp_putJ dX0_clear_37 flX0_74 (by omega) rfl rfl rfl rfl ?_
  refine wp_aload_n dX0_clear_40 rfl ?_
  refine wp_lconst0 dX0_clear_41 ?_
  refine wp_putJ dX0_clear_42 flX0_77 (by omega) rfl rfl rfl rfl ?_
  refine wp_vret dX0_clear_45 rfl ?_
  exact hQ
set_option maxRecDepth 20000 in
theorem s0_endsRow {d : Nat} {σ : aS} {Q : aQ} {a : Int} {NC : Nat} (hN : 18 ≤ NC) (hr : 0 ≤ σ.1 13 1) (hr2 : σ.1 13 1 ≤ 10) (hF : (a = 0 ∨ (0 < σ.1 13 1 ∧ a < σ.1 13 2)) → Q (some (vi 0)) σ) (hQ : ¬ (a = 0 ∨ (0 < σ.1 13 1 ∧ a < σ.1 13 2)) → Q (some (vi 1)) (sI (sI σ 13 2 a) 13 1 (σ.1 13 1 + 1))) : aCall NC (d + 1) mX0_endsRow [vr 13, vi a] σ Q := by
  refine cl_in (own := RX0) (cc := cX0_endsRow) (rk := 1) (L := [some (vr 13), some (vi a)]) rfl rfl rfl rfl (by decide) (Nat.le_of_ble_eq_true rfl) ?_
  refine wp_iload_n dX0_endsRow_0 rfl ?_
  refine wp_if_eq 19 dX0_endsRow_1 (by decide) (fun h1 => ?_) (fun h1 => ?_)
  · refine wp_iconst dX0_endsRow_19 (by decide) ?_
    refine wp_iret dX0_endsRow_20 (Or.inr ⟨rfl, by decide⟩) ?_
    exact hF (Or.inl h1)
  · refine wp_aload_n dX0_endsRow_4 rfl ?_
    refine wp_getI dX0_endsRow_5 flX0_62 (by omega) rfl (Or.inl rfl) ?_
    refine wp_if_le 21 dX0_endsRow_8 (by decide) (fun h8 => ?_) (fun h8 => ?_)
    · refine wp_aload_n dX0_endsRow_21 rfl ?_
      refine wp_iload_n dX0_endsRow_22 rfl ?_
      refine wp_putI dX0_endsRow_23 flX0_65 (by omega) rfl rfl rfl rfl ?_
      refine wp_aload_n dX0_endsRow_26 rfl ?_
      refine wp_dup dX0_endsRow_27 rfl ?_
      refine wp_getI dX0_endsRow_28 flX0_62 (by omega) rfl (Or.inl rfl) ?_
      rw [sI_ne (fun q => absurd q.2 (by decide))]
      refine wp_iconst dX0_endsRow_31 (by decide) ?_
      refine wp_iaddN dX0_endsRow_32 (by omega) ?_
      refine wp_putI dX0_endsRow_33 flX0_62 (by omega) rfl rfl rfl rfl ?_
      refine wp_iconst dX0_endsRow_36 (by decide) ?_
      refine wp_iret dX0_endsRow_37 (Or.inr ⟨rfl, by decide⟩) ?_
      exact hQ (by omega)
    · refine wp_iload_n dX0_endsRow_11 rfl ?_
      refine wp_aload_n dX0_endsRow_12 rfl ?_
      refine wp_getI dX0_endsRow_13 flX0_65 (by omega) rfl (Or.inl rfl) ?_
      refine wp_ic_ge 21 dX0_endsRow_16 (by decide) (fun h16 => ?_) (fun h16 => ?_)
      · refine wp_aload_n dX0_endsRow_21 rfl ?_
        refine wp_iload_n dX0_endsRow_22 rfl ?_
        refine wp_putI dX0_endsRow_23 flX0_65 (by omega) rfl rfl rfl rfl ?_
        refine wp_aload_n dX0_endsRow_26 rfl ?_
        refine wp_dup dX0_endsRow_27 rfl ?_
        refine wp_getI dX0_endsRow_28 flX0_62 (by omega) rfl (Or.inl rfl) ?_
        rw [sI_ne (fun q => absurd q.2 (by decide))]
        refine wp_iconst dX0_endsRow_31 (by decide) ?_
        refine wp_iaddN dX0_endsRow_32 (by omega) ?_
        refine wp_putI dX0_endsRow_33 flX0_62 (by omega) rfl rfl rfl rfl ?_
        refine wp_iconst dX0_endsRow_36 (by decide) ?_
        refine wp_iret dX0_endsRow_37 (Or.inr ⟨rfl, by decide⟩) ?_
        exact hQ (by omega)
      · refine wp_iconst dX0_endsRow_19 (by decide) ?_
        refine wp_iret dX0_endsRow_20 (Or.inr ⟨rfl, by decide⟩) ?_
        exact hF (by omega)
/-- a frame: whole numbers change at A only, longs at B only -/
def FrQ (A B : Nat → Nat → Prop) (σ σ' : aS) : Prop := (∀ c k, ¬ A c k → σ'.1 c k = σ.1 c k) ∧ (∀ c k, ¬ B c k → σ'.2 c k = σ.2 c k)
theorem FrQ.rf {A B : Nat → Nat → Prop} {σ : aS} : FrQ A B σ σ := ⟨fun _ _ _ => rfl, fun _ _ _ => rfl⟩
theorem FrQ.tr {A B : Nat → Nat → Prop} {σ σ' σ'' : aS} (h : FrQ A B σ σ') (h' : FrQ A B σ' σ'') : FrQ A B σ σ'' := ⟨fun c k q => (h'.1 c k q).trans (h.1 c k q), fun c k q => (h'.2 c k q).trans (h.2 c k q)⟩
theorem FrQ.mo {A B A' B' : Nat → Nat → Prop} {σ σ' : aS} (h : FrQ A B σ σ') (ha : ∀ c k, A c k → A' c k) (hb : ∀ c k, B c k → B' c k) : FrQ A' B' σ σ' := ⟨fun c k q => h.1 c k (fun e => q (ha c k e)), fun c k q => h.2 c k (fun e => q (hb c k e))⟩
theorem FrQ.put {A B : Nat → Nat → Prop} {σ σ' : aS} {c k : Nat} {x : Int} (h : FrQ A B σ σ') (hA : A c k) : FrQ A B σ (sI σ' c k x) := by
  refine ⟨fun c' k' q => ?_, h.2⟩
  rw [sI_ne (fun e => q (by rw [e.1, e.2]; exact hA))]
  exact h.1 c' k' q
theorem FrQ.putJ {A B : Nat → Nat → Prop} {σ σ' : aS} {c k : Nat} {x : BitVec 64} (h : FrQ A B σ σ') (hB : B c k) : FrQ A B σ (sJ σ' c k x) := by
  refine ⟨h.1, fun c' k' q => ?_⟩
  rw [sJ_ne (fun e => q (by rw [e.1, e.2]; exact hB))]
  exact h.2 c' k' q
/-- a long holds just these bits -/
def SB (x : BitVec 64) (p : Nat → Prop) : Prop := ∀ i, x.getLsbD i = true ↔ p i
theorem SB.c {x : BitVec 64} {p p' : Nat → Prop} (h : SB x p) (e : ∀ i, p i ↔ p' i) : SB x p' := fun i => (h i).trans (e i)
theorem SB.z : SB 0#64 (fun _ => False) := fun i => by rw [BitVec.getLsbD_zero]; exact ⟨fun q => absurd q (by decide), fun q => q.elim⟩
theorem bit_at {n i : Nat} (hn : n < 64) : (1#64 <<< n).getLsbD i = true ↔ i = n := by
  rw [BitVec.getLsbD_shiftLeft, one_bit]
  simp only [Bool.and_eq_true, Bool.not_eq_true', decide_eq_true_eq, decide_eq_false_iff_not]
  omega
theorem SB.o {x : BitVec 64} {p : Nat → Prop} {n : Nat} (h : SB x p) (hn : n < 64) : SB (x ||| 1#64 <<< n) (fun i => p i ∨ i = n) := fun i => by
  rw [BitVec.getLsbD_or, Bool.or_eq_true, h i, bit_at hn]
def dgS (n : Nat) (kd : Nat → Int) (P : Int → Prop) : Nat → Prop := fun i => i < n ∧ P (kd i)
theorem SB_d1 {x : BitVec 64} {n : Nat} {kd : Nat → Int} {P : Int → Prop} {k : Int} (h : SB x (dgS n kd P)) (hk : P k) (hn : n < 64) : SB (x ||| 1#64 <<< n) (dgS (n + 1) (fun i => if i = n then k else kd i) P) := by
  refine (h.o hn).c (fun i => ?_)
  show ((i < n ∧ P (kd i)) ∨ i = n) ↔ (i < n + 1 ∧ P (if i = n then k else kd i))
  by_cases e : i = n
  · rw [if_pos e]; exact ⟨fun _ => ⟨by omega, hk⟩, fun _ => Or.inr e⟩
  · rw [if_neg e]; exact ⟨fun q => q.elim (fun q => ⟨by omega, q.2⟩) (fun q => absurd q e), fun q => Or.inl ⟨by omega, q.2⟩⟩
theorem SB_d0 {x : BitVec 64} {n : Nat} {kd : Nat → Int} {P : Int → Prop} {k : Int} (h : SB x (dgS n kd P)) (hk : ¬ P k) : SB x (dgS (n + 1) (fun i => if i = n then k else kd i) P) := by
  refine h.c (fun i => ?_)
  show (i < n ∧ P (kd i)) ↔ (i < n + 1 ∧ P (if i = n then k else kd i))
  by_cases e : i = n
  · rw [if_pos e]; exact ⟨fun q => absurd q.1 (by omega), fun q => absurd q.2 hk⟩
  · rw [if_neg e]; exact ⟨fun q => ⟨by omega, q.2⟩, fun q => ⟨by omega, q.2⟩⟩
/-- so many CELLS are dug, of these kinds -/
def DG (σ : aS) (n : Nat) (kd : Nat → Int) : Prop := σ.1 13 3 = n ∧ SB (σ.2 13 4) (dgS n kd (fun v => v ≠ 0)) ∧ SB (σ.2 13 5) (dgS n kd (fun v => v = 2)) ∧ SB (σ.2 13 6) (dgS n kd (fun v => v = 3))
abbrev dA (c k : Nat) : Prop := c = 13 ∧ k = 3
abbrev dB (c k : Nat) : Prop := c = 13 ∧ (k = 4 ∨ k = 5 ∨ k = 6)
set_option maxRecDepth 20000 in
theorem s0_dig {d : Nat} {σ : aS} {Q : aQ} {k : Int} {n : Nat} {kd : Nat → Int} {NC : Nat} (hN : 18 ≤ NC) (hn35 : n < 35) (g : DG σ n kd) (hQ : ∀ σ2, FrQ dA dB σ σ2 → DG σ2 (n + 1) (fun i => if i = n then k else kd i) → Q none σ2) : aCall NC (d + 2) mX0_dig [vr 13, vi k] σ Q := by
  refine cl_in (own := RX0) (cc := cX0_dig) (rk := 3) (L := [some (vr 13), some (vi k)]) rfl rfl rfl rfl (by decide) (Nat.le_of_ble_eq_true rfl) ?_
  have g1 := g.1
  have hn : (σ.1 13 3).toNat = n := by omega
  refine wp_iload_n dX0_dig_0 rfl ?_
  refine wp_if_eq 20 dX0_dig_1 (by decide) (fun h1 => ?_) (fun h1 => ?_)
  · refine wp_iload_n dX0_dig_20 rfl ?_
    refine wp_iconst dX0_dig_21 (by decide) ?_
    refine wp_ic_ne 41 dX0_dig_22 (by decide) (fun h22 => ?_) (fun h22 => ?_)
    · refine wp_iload_n dX0_dig_41 rfl ?_
      refine wp_iconst dX0_dig_42 (by decide) ?_
      refine wp_ic_ne 62 dX0_dig_43 (by decide) (fun h43 => ?_) (fun h43 => ?_)
      · refine wp_aload_n dX0_dig_62 rfl ?_
        refine wp_dup dX0_dig_63 rfl ?_
        refine wp_getI dX0_dig_64 flX0_68 (by omega) rfl (Or.inl rfl) ?_
        refine wp_iconst dX0_dig_67 (by decide) ?_
        refine wp_iaddN dX0_dig_68 (by omega) ?_
        refine wp_putI dX0_dig_69 flX0_68 (by omega) rfl rfl rfl rfl ?_
        refine wp_vret dX0_dig_72 rfl ?_
        exact hQ _ ((FrQ.rf).put (by decide)) ⟨by rw [sI_eq]; show σ.1 13 3 + 1 = _; omega, SB_d0 g.2.1 (by omega), SB_d0 g.2.2.1 (by omega), SB_d0 g.2.2.2 (by omega)⟩
      · refine wp_aload_n dX0_dig_46 rfl ?_
        refine wp_dup dX0_dig_47 rfl ?_
        refine wp_getJ dX0_dig_48 flX0_49 (by omega) rfl rfl ?_
        refine wp_aload_n dX0_dig_51 rfl ?_
        refine wp_getI dX0_dig_52 flX0_68 (by omega) rfl (Or.inl rfl) ?_
        refine wp_S1 dX0_dig_55 zlX0_80 (Nat.le_of_ble_eq_true rfl) ?_
        refine s3_bit (by omega) (by omega) ?_
        refine wp_lor dX0_dig_58 ?_
        refine wp_putJ dX0_dig_59 flX0_49 (by omega) rfl rfl rfl rfl ?_
        refine wp_aload_n dX0_dig_62 rfl ?_
        refine wp_dup dX0_dig_63 rfl ?_
        refine wp_getI dX0_dig_64 flX0_68 (by omega) rfl (Or.inl rfl) ?_
        rw [sJ_1]
        refine wp_iconst dX0_dig_67 (by decide) ?_
        refine wp_iaddN dX0_dig_68 (by omega) ?_
        refine wp_putI dX0_dig_69 flX0_68 (by omega) rfl rfl rfl rfl ?_
        refine wp_vret dX0_dig_72 rfl ?_
        exfalso; omega
    · refine wp_aload_n dX0_dig_25 rfl ?_
      refine wp_dup dX0_dig_26 rfl ?_
      refine wp_getJ dX0_dig_27 flX0_37 (by omega) rfl rfl ?_
      refine wp_aload_n dX0_dig_30 rfl ?_
      refine wp_getI dX0_dig_31 flX0_68 (by omega) rfl (Or.inl rfl) ?_
      refine wp_S1 dX0_dig_34 zlX0_80 (Nat.le_of_ble_eq_true rfl) ?_
      refine s3_bit (by omega) (by omega) ?_
      refine wp_lor dX0_dig_37 ?_
      refine wp_putJ dX0_dig_38 flX0_37 (by omega) rfl rfl rfl rfl ?_
      refine wp_iload_n dX0_dig_41 rfl ?_
      refine wp_iconst dX0_dig_42 (by decide) ?_
      refine wp_ic_ne 62 dX0_dig_43 (by decide) (fun h43 => ?_) (fun h43 => ?_)
      · refine wp_aload_n dX0_dig_62 rfl ?_
        refine wp_dup dX0_dig_63 rfl ?_
        refine wp_getI dX0_dig_64 flX0_68 (by omega) rfl (Or.inl rfl) ?_
        rw [sJ_1]
        refine wp_iconst dX0_dig_67 (by decide) ?_
        refine wp_iaddN dX0_dig_68 (by omega) ?_
        refine wp_putI dX0_dig_69 flX0_68 (by omega) rfl rfl rfl rfl ?_
        refine wp_vret dX0_dig_72 rfl ?_
        exfalso; omega
      · refine wp_aload_n dX0_dig_46 rfl ?_
        refine wp_dup dX0_dig_47 rfl ?_
        refine wp_getJ dX0_dig_48 flX0_49 (by omega) rfl rfl ?_
        rw [sJ_ne (fun q => absurd q.2 (by decide))]
        refine wp_aload_n dX0_dig_51 rfl ?_
        refine wp_getI dX0_dig_52 flX0_68 (by omega) rfl (Or.inl rfl) ?_
        rw [sJ_1]
        refine wp_S1 dX0_dig_55 zlX0_80 (Nat.le_of_ble_eq_true rfl) ?_
        refine s3_bit (by omega) (by omega) ?_
        refine wp_lor dX0_dig_58 ?_
        refine wp_putJ dX0_dig_59 flX0_49 (by omega) rfl rfl rfl rfl ?_
        refine wp_aload_n dX0_dig_62 rfl ?_
        refine wp_dup dX0_dig_63 rfl ?_
        refine wp_getI dX0_dig_64 flX0_68 (by omega) rfl (Or.inl rfl) ?_
        rw [sJ_1]
        rw [sJ_1]
        refine wp_iconst dX0_dig_67 (by decide) ?_
        refine wp_iaddN dX0_dig_68 (by omega) ?_
        refine wp_putI dX0_dig_69 flX0_68 (by omega) rfl rfl rfl rfl ?_
        refine wp_vret dX0_dig_72 rfl ?_
        exfalso; omega
  · refine wp_aload_n dX0_dig_4 rfl ?_
    refine wp_dup dX0_dig_5 rfl ?_
    refine wp_getJ dX0_dig_6 flX0_33 (by omega) rfl rfl ?_
    refine wp_aload_n dX0_dig_9 rfl ?_
    refine wp_getI dX0_dig_10 flX0_68 (by omega) rfl (Or.inl rfl) ?_
    refine wp_S1 dX0_dig_13 zlX0_80 (Nat.le_of_ble_eq_true rfl) ?_
    refine s3_bit (by omega) (by omega) ?_
    refine wp_lor dX0_dig_16 ?_
    refine wp_putJ dX0_dig_17 flX0_33 (by omega) rfl rfl rfl rfl ?_
    refine wp_iload_n dX0_dig_20 rfl ?_
    refine wp_iconst dX0_dig_21 (by decide) ?_
    refine wp_ic_ne 41 dX0_dig_22 (by decide) (fun h22 => ?_) (fun h22 => ?_)
    · refine wp_iload_n dX0_dig_41 rfl ?_
      refine wp_iconst dX0_dig_42 (by decide) ?_
      refine wp_ic_ne 62 dX0_dig_43 (by decide) (fun h43 => ?_) (fun h43 => ?_)
      · refine wp_aload_n dX0_dig_62 rfl ?_
        refine wp_dup dX0_dig_63 rfl ?_
        refine wp_getI dX0_dig_64 flX0_68 (by omega) rfl (Or.inl rfl) ?_
        rw [sJ_1]
        refine wp_iconst dX0_dig_67 (by decide) ?_
        refine wp_iaddN dX0_dig_68 (by omega) ?_
        refine wp_putI dX0_dig_69 flX0_68 (by omega) rfl rfl rfl rfl ?_
        refine wp_vret dX0_dig_72 rfl ?_
        rw [hn]
        exact hQ _ (((FrQ.rf).putJ (by decide)).put (by decide)) ⟨by rw [sI_eq]; show σ.1 13 3 + 1 = _; omega, SB_d1 g.2.1 (by omega) (by omega), SB_d0 g.2.2.1 (by omega), SB_d0 g.2.2.2 (by omega)⟩
      · refine wp_aload_n dX0_dig_46 rfl ?_
        refine wp_dup dX0_dig_47 rfl ?_
        refine wp_getJ dX0_dig_48 flX0_49 (by omega) rfl rfl ?_
        rw [sJ_ne (fun q => absurd q.2 (by decide))]
        refine wp_aload_n dX0_dig_51 rfl ?_
        refine wp_getI dX0_dig_52 flX0_68 (by omega) rfl (Or.inl rfl) ?_
        rw [sJ_1]
        refine wp_S1 dX0_dig_55 zlX0_80 (Nat.le_of_ble_eq_true rfl) ?_
        refine s3_bit (by omega) (by omega) ?_
        refine wp_lor dX0_dig_58 ?_
        refine wp_putJ dX0_dig_59 flX0_49 (by omega) rfl rfl rfl rfl ?_
        refine wp_aload_n dX0_dig_62 rfl ?_
        refine wp_dup dX0_dig_63 rfl ?_
        refine wp_getI dX0_dig_64 flX0_68 (by omega) rfl (Or.inl rfl) ?_
        rw [sJ_1]
        rw [sJ_1]
        refine wp_iconst dX0_dig_67 (by decide) ?_
        refine wp_iaddN dX0_dig_68 (by omega) ?_
        refine wp_putI dX0_dig_69 flX0_68 (by omega) rfl rfl rfl rfl ?_
        refine wp_vret dX0_dig_72 rfl ?_
        rw [hn]
        exact hQ _ ((((FrQ.rf).putJ (by decide)).putJ (by decide)).put (by decide)) ⟨by rw [sI_eq]; show σ.1 13 3 + 1 = _; omega, SB_d1 g.2.1 (by omega) (by omega), SB_d0 g.2.2.1 (by omega), SB_d1 g.2.2.2 (by omega) (by omega)⟩
    · refine wp_aload_n dX0_dig_25 rfl ?_
      refine wp_dup dX0_dig_26 rfl ?_
      refine wp_getJ dX0_dig_27 flX0_37 (by omega) rfl rfl ?_
      rw [sJ_ne (fun q => absurd q.2 (by decide))]
      refine wp_aload_n dX0_dig_30 rfl ?_
      refine wp_getI dX0_dig_31 flX0_68 (by omega) rfl (Or.inl rfl) ?_
      rw [sJ_1]
      refine wp_S1 dX0_dig_34 zlX0_80 (Nat.le_of_ble_eq_true rfl) ?_
      refine s3_bit (by omega) (by omega) ?_
      refine wp_lor dX0_dig_37 ?_
      refine wp_putJ dX0_dig_38 flX0_37 (by omega) rfl rfl rfl rfl ?_
      refine wp_iload_n dX0_dig_41 rfl ?_
      refine wp_iconst dX0_dig_42 (by decide) ?_
      refine wp_ic_ne 62 dX0_dig_43 (by decide) (fun h43 => ?_) (fun h43 => ?_)
      · refine wp_aload_n dX0_dig_62 rfl ?_
        refine wp_dup dX0_dig_63 rfl ?_
        refine wp_getI dX0_dig_64 flX0_68 (by omega) rfl (Or.inl rfl) ?_
        rw [sJ_1]
        rw [sJ_1]
        refine wp_iconst dX0_dig_67 (by decide) ?_
        refine wp_iaddN dX0_dig_68 (by omega) ?_
        refine wp_putI dX0_dig_69 flX0_68 (by omega) rfl rfl rfl rfl ?_
        refine wp_vret dX0_dig_72 rfl ?_
        rw [hn]
        exact hQ _ ((((FrQ.rf).putJ (by decide)).putJ (by decide)).put (by decide)) ⟨by rw [sI_eq]; show σ.1 13 3 + 1 = _; omega, SB_d1 g.2.1 (by omega) (by omega), SB_d1 g.2.2.1 (by omega) (by omega), SB_d0 g.2.2.2 (by omega)⟩
      · refine wp_aload_n dX0_dig_46 rfl ?_
        refine wp_dup dX0_dig_47 rfl ?_
        refine wp_getJ dX0_dig_48 flX0_49 (by omega) rfl rfl ?_
        rw [sJ_ne (fun q => absurd q.2 (by decide))]
        rw [sJ_ne (fun q => absurd q.2 (by decide))]
        refine wp_aload_n dX0_dig_51 rfl ?_
        refine wp_getI dX0_dig_52 flX0_68 (by omega) rfl (Or.inl rfl) ?_
        rw [sJ_1]
        rw [sJ_1]
        refine wp_S1 dX0_dig_55 zlX0_80 (Nat.le_of_ble_eq_true rfl) ?_
        refine s3_bit (by omega) (by omega) ?_
        refine wp_lor dX0_dig_58 ?_
        refine wp_putJ dX0_dig_59 flX0_49 (by omega) rfl rfl rfl rfl ?_
        refine wp_aload_n dX0_dig_62 rfl ?_
        refine wp_dup dX0_dig_63 rfl ?_
        refine wp_getI dX0_dig_64 flX0_68 (by omega) rfl (Or.inl rfl) ?_
        rw [sJ_1]
        rw [sJ_1]
        rw [sJ_1]
        refine wp_iconst dX0_dig_67 (by decide) ?_
        refine wp_iaddN dX0_dig_68 (by omega) ?_
        refine wp_putI dX0_dig_69 flX0_68 (by omega) rfl rfl rfl rfl ?_
        refine wp_vret dX0_dig_72 rfl ?_
        exfalso; omega
