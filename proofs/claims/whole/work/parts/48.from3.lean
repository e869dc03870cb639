noncomputable def itF (p : Nat → Prop) (i : Int) : Nat → Int
  | 0 => -1
  | k + 1 => cif (p k ∧ cnt p k = i) (k : Int) (itF p i k)
theorem cnt_st {p : Nat → Prop} {a : Nat} : ∀ m, (∀ i, a ≤ i → i < a + m → ¬ p i) → cnt p (a + m) = cnt p a := by
  intro m
  induction m with
  | zero => intro _; rfl
  | succ m ih => intro h; rw [← ih (fun i h1 h2 => h i h1 (by omega))]; exact cnt_f (h (a + m) (by omega) (by omega))
theorem itF_st {p : Nat → Prop} {i : Int} {a : Nat} : ∀ m, (∀ j, a ≤ j → j < a + m → ¬ p j) → itF p i (a + m) = itF p i a := by
  intro m
  induction m with
  | zero => intro _; rfl
  | succ m ih =>
    intro h
    rw [← ih (fun i h1 h2 => h i h1 (by omega))]
    exact cif_f (fun q => h (a + m) (by omega) (by omega) q.1)
theorem cnt_mo {p : Nat → Prop} {a : Nat} : ∀ m, cnt p a ≤ cnt p (a + m) := by
  intro m
  induction m with
  | zero => exact Int.le_refl _
  | succ m ih =>
    show cnt p a ≤ cnt p (a + m) + bi (p (a + m))
    have := bi_10 (p (a + m))
    omega
theorem itF_gt {p : Nat → Prop} {i : Int} {a : Nat} (h : i < cnt p a) : ∀ m, itF p i (a + m) = itF p i a := by
  intro m
  induction m with
  | zero => rfl
  | succ m ih =>
    rw [← ih]
    refine cif_f (fun q => ?_)
    have := cnt_mo (p := p) (a := a) m
    have w : cnt p (a + m) = i := q.2
    omega
theorem itF_c {p q : Nat → Prop} {i : Int} : ∀ k, (∀ j, j < k → (p j ↔ q j)) → itF p i k = itF q i k := by
  intro k
  induction k with
  | zero => intro _; rfl
  | succ k ih =>
    intro h
    have h1 := ih (fun j hj => h j (by omega))
    have h2 := cnt_c k (fun j hj => h j (by omega))
    show cif (p k ∧ cnt p k = i) (k : Int) (itF p i k) = cif (q k ∧ cnt q k = i) (k : Int) (itF q i k)
    rw [h1, h2]
    by_cases e : q k ∧ cnt q k = i
    · rw [cif_t e, cif_t ⟨(h k (by omega)).mpr e.1, e.2⟩]
    · rw [cif_f e, cif_f (fun w => e ⟨(h k (by omega)).mp w.1, w.2⟩)]
/-- the number of a set's CELLS, or its i-th -/
noncomputable def siv (p : Nat → Prop) (n : Nat) (i : Int) : Int := if i = -1 then cnt p n else itF p i n
theorem siv_c {p q : Nat → Prop} {n m : Nat} {i : Int} (h : ∀ j, p j ↔ (j < n ∧ q j)) (hm : n ≤ m) : siv p m i = siv q n i := by
  have hs : ∀ j, n ≤ j → j < n + (m - n) → ¬ p j := fun j h1 _ q => by have := (h j).mp q; omega
  have hc : ∀ j, j < n → (p j ↔ q j) := fun j hj => ⟨fun w => ((h j).mp w).2, fun w => (h j).mpr ⟨hj, w⟩⟩
  have e : m = n + (m - n) := by omega
  unfold siv
  rw [e, cnt_st _ hs, itF_st _ hs, cnt_c n hc, itF_c n hc]
set_option maxRecDepth 20000 in
theorem l3_soi {d : Nat} {σ : aS} {Q : aQ} {x : BitVec 64} {p : Nat → Prop} {i : Int} {NC : Nat} (hx : SB x p) (hQ : Q (some (vi (itF p i 35))) σ) : ∀ (r : Nat) (k : Nat) (b : Int), k + r = 35 → b = cnt p k → itF p i k = -1 → Wp RX3 cX3_sizeOrItem NC (aCall NC (d + 1)) Q 0 false 0 (fun _ => 0) 15 [some (vl x), none, some (vi i), some (vi b), some (vi (k : Int))] [] σ := by
  intro r
  induction r with
  | zero =>
    intro k b hk hb hF
    refine wp_iload dX3_sizeOrItem_15 rfl ?_
    refine wp_bipush dX3_sizeOrItem_17 (by decide) ?_
    refine wp_ic_ge 48 dX3_sizeOrItem_19 (by decide) (fun hh19 => ?_) (fun hh19 => ?_)
    · refine wp_iconst dX3_sizeOrItem_48 (by decide) ?_
      refine wp_iret dX3_sizeOrItem_49 (Or.inl rfl) ?_
      have e : k = 35 := by omega
      subst e
      exact q_i hF.symm hQ
    · exfalso; omega
  | succ r ih =>
    intro k b hk hb hF
    have hb2 := cnt_in p k
    refine wp_iload dX3_sizeOrItem_15 rfl ?_
    refine wp_bipush dX3_sizeOrItem_17 (by decide) ?_
    refine wp_ic_ge 48 dX3_sizeOrItem_19 (by decide) (fun hh19 => ?_) (fun hh19 => ?_)
    · exfalso; omega
    · refine wp_lload_n dX3_sizeOrItem_22 rfl ?_
      refine wp_iload dX3_sizeOrItem_23 rfl ?_
      refine wp_S2 dX3_sizeOrItem_25 zlX3_76 (Nat.le_of_ble_eq_true rfl) ?_
      refine s3_has ?_
      refine wp_ifB_eq 42 dX3_sizeOrItem_28 (by decide) (fun hh28 => ?_) (fun hh28 => ?_)
      · refine wp_iincN (L' := [some (vl _), none, some (vi _), some (vi _), some (vi _)]) dX3_sizeOrItem_42 rfl (by omega) rfl ?_
        refine wp_gotoN 15 dX3_sizeOrItem_45 (by decide) ?_
        have hpk : ¬ p k := fun q => hh28 ⟨by omega, by omega, (hx k).mpr q⟩
        refine ih (k + 1) _ (by omega) (by rw [cnt_f hpk, ← hb]) ?_
        show cif (p k ∧ cnt p k = i) (k : Int) (itF p i k) = -1
        rw [cif_f (fun q => hpk q.1)]; exact hF
      · have hpk : p k := (hx k).mp hh28.2.2
        refine wp_iload_n dX3_sizeOrItem_31 rfl ?_
        refine wp_iload_n dX3_sizeOrItem_32 rfl ?_
        refine wp_ic_ne 39 dX3_sizeOrItem_33 (by decide) (fun hh33 => ?_) (fun hh33 => ?_)
        · refine wp_iincN (L' := [some (vl _), none, some (vi _), some (vi _), some (vi _)]) dX3_sizeOrItem_39 rfl (by omega) rfl ?_
          refine wp_iincN (L' := [some (vl _), none, some (vi _), some (vi _), some (vi _)]) dX3_sizeOrItem_42 rfl (by omega) rfl ?_
          refine wp_gotoN 15 dX3_sizeOrItem_45 (by decide) ?_
          refine ih (k + 1) _ (by omega) (by rw [cnt_t hpk, ← hb]) ?_
          show cif (p k ∧ cnt p k = i) (k : Int) (itF p i k) = -1
          rw [cif_f (fun q => by have := q.2; omega)]; exact hF
        · refine wp_iload dX3_sizeOrItem_36 rfl ?_
          refine wp_iret dX3_sizeOrItem_38 (Or.inl rfl) ?_
          refine q_i ?_ hQ
          have e1 : itF p i (k + 1) = k := cif_t ⟨hpk, by omega⟩
          have e2 := itF_gt (p := p) (i := i) (a := k + 1) (by rw [cnt_t hpk]; omega) (34 - k)
          rw [show k + 1 + (34 - k) = 35 by omega] at e2
          rw [e2, e1]
theorem frF_it {g : aG} {c s i : Int} : ∀ k, itF (frP g c s) i k = frF g c s i k := by
  intro k
  induction k with
  | zero => rfl
  | succ k ih =>
    show cif (frP g c s k ∧ cnt (frP g c s) k = i) (k : Int) (itF (frP g c s) i k) = cif (frP g c s k ∧ cnt (frP g c s) k = i) (k : Int) (frF g c s i k)
    rw [ih]
set_option maxRecDepth 20000 in
theorem s3_soi {d : Nat} {σ : aS} {Q : aQ} {x : BitVec 64} {p : Nat → Prop} {i : Int} {NC : Nat} (hx : SB x p) (hp : ∀ j, p j → j < 35) (hQ : Q (some (vi (siv p 35 i))) σ) : aCall NC (d + 2) mX3_sizeOrItem [vl x, vi i] σ Q := by
  refine cl_in (own := RX3) (cc := cX3_sizeOrItem) (rk := 0) (L := [some (vl x), none, some (vi i), none, none]) rfl rfl rfl rfl (by decide) (Nat.le_of_ble_eq_true rfl) ?_
  refine wp_iload_n dX3_sizeOrItem_0 rfl ?_
  refine wp_iconst dX3_sizeOrItem_1 (by decide) ?_
  refine wp_ic_ne 10 dX3_sizeOrItem_2 (by decide) (fun hh2 => ?_) (fun hh2 => ?_)
  · refine wp_iconst dX3_sizeOrItem_10 (by decide) ?_
    refine wp_istN (L' := [some (vl _), none, some (vi _), some (vi _), none]) dX3_sizeOrItem_11 (Nat.le_of_ble_eq_true rfl) rfl ?_
    refine wp_iconst dX3_sizeOrItem_12 (by decide) ?_
    refine wp_ist (L' := [some (vl _), none, some (vi _), some (vi _), some (vi _)]) dX3_sizeOrItem_13 (Nat.le_of_ble_eq_true rfl) rfl ?_
    have e : siv p 35 i = itF p i 35 := by unfold siv; rw [if_neg (by omega)]
    rw [e] at hQ
    exact l3_soi hx hQ 35 0 0 (by omega) rfl rfl
  · refine wp_lload_n dX3_sizeOrItem_5 rfl ?_
    refine wp_S1 dX3_sizeOrItem_6 zlX3_179 (Nat.le_of_ble_eq_true rfl) ?_
    refine s_bcL ?_
    refine wp_iret dX3_sizeOrItem_9 (Or.inl rfl) ?_
    refine q_i ?_ hQ
    unfold siv
    rw [if_pos (by omega), cnt_c 64 (fun j _ => hx j)]
    exact cnt_st (a := 35) 29 (fun j h1 _ q => by have := hp j q; omega)
set_option maxRecDepth 20000 in
theorem l3_from {d : Nat} {σ : aS} {Q : aQ} {z : aZ} (hc : CI σ z) (hz : ZV z) {c s i : Int} (c0 : 0 ≤ c) (s0 : 0 ≤ s) (hQ : Q (some (vi (frv (Gz z) c s i))) σ) : ∀ (r : Nat) (k : Nat) (x : BitVec 64), k + r = (ggn (Gz z)).toNat → SB x (fun j => j < k ∧ frP (Gz z) c s j) → Wp RX3 cX3_from 34 (aCall 34 (d + 3)) Q 0 false 0 (fun _ => 0) 41 [some (vr 0), some (vi c), some (vi s), some (vi i), some (vl x), none, some (vi (k : Int))] [] σ := by
  intro r
  induction r with
  | zero =>
    intro k x hk hx
    have hp := hc.pl
    have hn := hp.n
    have hg := hp.gv
    refine wp_iload dX3_from_41 rfl ?_
    refine wp_aload_n dX3_from_43 rfl ?_
    refine wp_getR dX3_from_44 flX3_39 (by decide) rfl rfl ?_
    refine wp_getI dX3_from_47 flX3_135 (by decide) rfl (Or.inl rfl) ?_
    refine wp_ic_ge 83 dX3_from_50 (by decide) (fun hh50 => ?_) (fun hh50 => ?_)
    · refine wp_lload dX3_from_83 rfl ?_
      refine wp_iload_n dX3_from_85 rfl ?_
      refine wp_S2 dX3_from_86 zlX3_147 (Nat.le_of_ble_eq_true rfl) ?_
      refine s3_soi hx (fun j q => by omega) ?_
      refine wp_iret dX3_from_89 (Or.inl rfl) ?_
      have e : k = (ggn (Gz z)).toNat := by omega
      subst e
      refine q_i ?_ hQ
      rw [siv_c (q := frP (Gz z) c s) (n := (ggn (Gz z)).toNat) (fun j => Iff.rfl) (by omega)]
      unfold siv frv
      rw [frF_it]
    · exfalso; omega
  | succ r ih =>
    intro k x hk hx
    have hp := hc.pl
    have hn := hp.n
    have hg := hp.gv
    have hfr : cif (opn (Gz z) k) (fallN (Gz z) (min s.toNat 5) k) (-1) = c ↔ frP (Gz z) c s k := by
      unfold frP
      by_cases ho : opn (Gz z) k
      · rw [cif_t ho, ← fall_m hg hp.g5 ho]; exact ⟨fun q => ⟨ho, q⟩, fun q => q.2⟩
      · rw [cif_f ho]; exact ⟨fun q => by omega, fun q => absurd q.1 ho⟩
    refine wp_iload dX3_from_41 rfl ?_
    refine wp_aload_n dX3_from_43 rfl ?_
    refine wp_getR dX3_from_44 flX3_39 (by decide) rfl rfl ?_
    refine wp_getI dX3_from_47 flX3_135 (by decide) rfl (Or.inl rfl) ?_
    refine wp_ic_ge 83 dX3_from_50 (by decide) (fun hh50 => ?_) (fun hh50 => ?_)
    · exfalso; omega
    · refine wp_aload_n dX3_from_53 rfl ?_
      refine wp_getR dX3_from_54 flX3_39 (by decide) rfl rfl ?_
      refine wp_iload dX3_from_57 rfl ?_
      refine wp_iload_n dX3_from_59 rfl ?_
      refine wp_V2 dX3_from_60 vlX3_113 (by decide) rfl (Nat.le_of_ble_eq_true rfl) ?_
      refine s0_placeBehind hp ?_
      refine wp_iload_n dX3_from_63 rfl ?_
      refine wp_ic_ne 77 dX3_from_64 (by decide) (fun hh64 => ?_) (fun hh64 => ?_)
      · refine wp_iincN (L' := [some (vr _), some (vi _), some (vi _), some (vi _), some (vl _), none, some (vi _)]) dX3_from_77 rfl (by omega) rfl ?_
        refine wp_gotoN 41 dX3_from_80 (by decide) ?_
        refine ih (k + 1) _ (by omega) (hx.c (fun j => ?_))
        have hpk : ¬ frP (Gz z) c s k := fun q => hh64 (hfr.mpr q)
        constructor
        · intro q; exact ⟨by omega, q.2⟩
        · intro q
          by_cases e : j = k
          · rw [e] at q; exact absurd q.2 hpk
          · exact ⟨by omega, q.2⟩
      · refine wp_lload dX3_from_67 rfl ?_
        refine wp_iload dX3_from_69 rfl ?_
        refine wp_S1 dX3_from_71 zlX3_170 (Nat.le_of_ble_eq_true rfl) ?_
        refine s3_bit (by omega) (by omega) ?_
        refine wp_lor dX3_from_74 ?_
        refine wp_lst (L' := [some (vr _), some (vi _), some (vi _), some (vi _), some (vl _), none, some (vi _)]) dX3_from_75 (Nat.le_of_ble_eq_true rfl) rfl ?_
        refine wp_iincN (L' := [some (vr _), some (vi _), some (vi _), some (vi _), some (vl _), none, some (vi _)]) dX3_from_77 rfl (by omega) rfl ?_
        refine wp_gotoN 41 dX3_from_80 (by decide) ?_
        refine ih (k + 1) _ (by omega) ?_
        have hpk := hfr.mp (by omega)
        refine (hx.o (by omega)).c (fun j => ?_)
        constructor
        · rintro (q | q)
          · exact ⟨by omega, q.2⟩
          · rw [show j = k by omega]; exact ⟨by omega, hpk⟩
        · intro q
          by_cases e : j = k
          · right; omega
          · left; exact ⟨by omega, q.2⟩
set_option maxRecDepth 20000 in
theorem p3_from {d : Nat} {σ : aS} {Q : aQ} {c s i : Int} {z : aZ} (hc : CI σ z) (hz : ZV z) (hQ : Q (some (vi (vFrom z c s i))) σ) : aCall 34 (d + 4) mX3_from [vr 0, vi c, vi s, vi i] σ Q := by
  refine cl_in (own := RX3) (cc := cX3_from) (rk := 0) (L := [some (vr 0), some (vi c), some (vi s), some (vi i), none, none, none]) rfl rfl rfl rfl (by decide) (Nat.le_of_ble_eq_true rfl) ?_
  have hp := hc.pl
  have hn := hp.n
  refine wp_aload_n dX3_from_0 rfl ?_
  refine wp_getR dX3_from_1 flX3_39 (by decide) rfl rfl ?_
  refine wp_iload_n dX3_from_4 rfl ?_
  refine wp_V1 dX3_from_5 vlX3_61 (by decide) rfl (Nat.le_of_ble_eq_true rfl) ?_
  refine s0_isCell hp ?_
  refine wp_ifB_eq 32 dX3_from_8 (by decide) (fun hh8 => ?_) (fun hh8 => ?_)
  · refine wp_bipush dX3_from_32 (by decide) ?_
    refine wp_iret dX3_from_34 (Or.inl rfl) ?_
    exact q_i (by unfold vFrom; rw [if_neg (by omega)]) hQ
  · refine wp_iload_n dX3_from_11 rfl ?_
    refine wp_if_lt 32 dX3_from_12 (by decide) (fun hh12 => ?_) (fun hh12 => ?_)
    · refine wp_bipush dX3_from_32 (by decide) ?_
      refine wp_iret dX3_from_34 (Or.inl rfl) ?_
      exact q_i (by unfold vFrom; rw [if_neg (by omega)]) hQ
    · refine wp_iload_n dX3_from_15 rfl ?_
      refine wp_bipush dX3_from_16 (by decide) ?_
      refine wp_ic_gt 32 dX3_from_18 (by decide) (fun hh18 => ?_) (fun hh18 => ?_)
      · refine wp_bipush dX3_from_32 (by decide) ?_
        refine wp_iret dX3_from_34 (Or.inl rfl) ?_
        exact q_i (by unfold vFrom; rw [if_neg (by omega)]) hQ
      · refine wp_iload_n dX3_from_21 rfl ?_
        refine wp_iconst dX3_from_22 (by decide) ?_
        refine wp_ic_lt 32 dX3_from_23 (by decide) (fun hh23 => ?_) (fun hh23 => ?_)
        · refine wp_bipush dX3_from_32 (by decide) ?_
          refine wp_iret dX3_from_34 (Or.inl rfl) ?_
          exact q_i (by unfold vFrom; rw [if_neg (by omega)]) hQ
        · refine wp_iload_n dX3_from_26 rfl ?_
          refine wp_bipush dX3_from_27 (by decide) ?_
          refine wp_ic_lt 35 dX3_from_29 (by decide) (fun hh29 => ?_) (fun hh29 => ?_)
          · refine wp_lconst0 dX3_from_35 ?_
            refine wp_lst (L' := [some (vr _), some (vi _), some (vi _), some (vi _), some (vl _), none, none]) dX3_from_36 (Nat.le_of_ble_eq_true rfl) rfl ?_
            refine wp_iconst dX3_from_38 (by decide) ?_
            refine wp_ist (L' := [some (vr _), some (vi _), some (vi _), some (vi _), some (vl _), none, some (vi _)]) dX3_from_39 (Nat.le_of_ble_eq_true rfl) rfl ?_
            have e : vFrom z c s i = frv (Gz z) c s i := by unfold vFrom; rw [if_pos (by omega)]
            rw [e] at hQ
            exact l3_from hc hz (by omega) (by omega) hQ (ggn (Gz z)).toNat 0 0#64 (by omega) (SB.z.c (fun j => ⟨fun q => q.elim, fun q => absurd q.1 (Nat.not_lt_zero j)⟩))
          · refine wp_bipush dX3_from_32 (by decide) ?_
            refine wp_iret dX3_from_34 (Or.inl rfl) ?_
            exact q_i (by unfold vFrom; rw [if_neg (by omega)]) hQ
set_option maxRecDepth 20000 in
theorem l3_joined {d : Nat} {σ : aS} {Q : aQ} {z : aZ} (hc : CI σ z) (hz : ZV z) (hQ : Q (some (vi (vJoined z))) σ) : ∀ (r : Nat) (k : Nat) (b : Int), k + r = (ggn (Gz z)).toNat → b = cnt (fun c => ggk (Gz z) c ≠ ggk (Gz z) (ggn (Gz z) - 1 - c)) k → Wp RX3 cX3_joined 34 (aCall 34 (d + 2)) Q 0 false 0 (fun _ => 0) 4 [some (vr 0), some (vi b), some (vi (k : Int))] [] σ := by
  intro r
  induction r with
  | zero =>
    intro k b hk hb
    have hp := hc.pl
    have hn := hp.n
    have hb2 := cnt_in (fun c => ggk (Gz z) c ≠ ggk (Gz z) (ggn (Gz z) - 1 - c)) k
    refine wp_iload_n dX3_joined_4 rfl ?_
    refine wp_aload_n dX3_joined_5 rfl ?_
    refine wp_getR dX3_joined_6 flX3_39 (by decide) rfl rfl ?_
    refine wp_getI dX3_joined_9 flX3_135 (by decide) rfl (Or.inl rfl) ?_
    refine wp_ic_ge 53 dX3_joined_12 (by decide) (fun hh12 => ?_) (fun hh12 => ?_)
    · refine wp_iload_n dX3_joined_53 rfl ?_
      refine wp_iret dX3_joined_54 (Or.inl rfl) ?_
      exact q_i (by rw [hb, show k = (ggn (Gz z)).toNat by omega]; rfl) hQ
    · exfalso; omega
  | succ r ih =>
    intro k b hk hb
    have hp := hc.pl
    have hn := hp.n
    have hb2 := cnt_in (fun c => ggk (Gz z) c ≠ ggk (Gz z) (ggn (Gz z) - 1 - c)) k
    refine wp_iload_n dX3_joined_4 rfl ?_
    refine wp_aload_n dX3_joined_5 rfl ?_
    refine wp_getR dX3_joined_6 flX3_39 (by decide) rfl rfl ?_
    refine wp_getI dX3_joined_9 flX3_135 (by decide) rfl (Or.inl rfl) ?_
    refine wp_ic_ge 53 dX3_joined_12 (by decide) (fun hh12 => ?_) (fun hh12 => ?_)
    · exfalso; omega
    · refine wp_aload_n dX3_joined_15 rfl ?_
      refine wp_getR dX3_joined_16 flX3_39 (by decide) rfl rfl ?_
      refine wp_iload_n dX3_joined_19 rfl ?_
      refine wp_V1 dX3_joined_20 vlX3_65 (by decide) rfl (Nat.le_of_ble_eq_true rfl) ?_
      refine s0_kind hp (by omega) (by omega) ?_
      refine wp_aload_n dX3_joined_23 rfl ?_
      refine wp_getR dX3_joined_24 flX3_39 (by decide) rfl rfl ?_
      refine wp_aload_n dX3_joined_27 rfl ?_
      refine wp_getR dX3_joined_28 flX3_39 (by decide) rfl rfl ?_
      refine wp_getI dX3_joined_31 flX3_135 (by decide) rfl (Or.inl rfl) ?_
      refine wp_iconst dX3_joined_34 (by decide) ?_
      refine wp_isubN dX3_joined_35 (by omega) ?_
      refine wp_iload_n dX3_joined_36 rfl ?_
      refine wp_isubN dX3_joined_37 (by omega) ?_
      refine wp_V1 dX3_joined_38 vlX3_65 (by decide) rfl (Nat.le_of_ble_eq_true rfl) ?_
      rw [hn.1]
      refine s0_kind hp (by omega) (by omega) ?_
      refine wp_ic_eq 47 dX3_joined_41 (by decide) (fun hh41 => ?_) (fun hh41 => ?_)
      · refine wp_iincN (L' := [some (vr _), some (vi _), some (vi _)]) dX3_joined_47 rfl (by omega) rfl ?_
        refine wp_gotoN 4 dX3_joined_50 (by decide) ?_
        exact ih (k + 1) _ (by omega) (by rw [cnt_f (p := (fun c => ggk (Gz z) c ≠ ggk (Gz z) (ggn (Gz z) - 1 - c))) (fun q => q hh41), ← hb])
      · refine wp_iincN (L' := [some (vr _), some (vi _), some (vi _)]) dX3_joined_44 rfl (by omega) rfl ?_
        refine wp_iincN (L' := [some (vr _), some (vi _), some (vi _)]) dX3_joined_47 rfl (by omega) rfl ?_
        refine wp_gotoN 4 dX3_joined_50 (by decide) ?_
        exact ih (k + 1) _ (by omega) (by rw [cnt_t (p := (fun c => ggk (Gz z) c ≠ ggk (Gz z) (ggn (Gz z) - 1 - c))) (by first | exact hh41 | omega), ← hb])
set_option maxRecDepth 20000 in
theorem p3_joined {d : Nat} {σ : aS} {Q : aQ} {z : aZ} (hc : CI σ z) (hz : ZV z) (hQ : Q (some (vi (vJoined z))) σ) : aCall 34 (d + 3) mX3_joined [vr 0] σ Q := by
  refine cl_in (own := RX3) (cc := cX3_joined) (rk := 0) (L := [some (vr 0), none, none]) rfl rfl rfl rfl (by decide) (Nat.le_of_ble_eq_true rfl) ?_
  refine wp_iconst dX3_joined_0 (by decide) ?_
  refine wp_istN (L' := [some (vr _), some (vi _), none]) dX3_joined_1 (Nat.le_of_ble_eq_true rfl) rfl ?_
  refine wp_iconst dX3_joined_2 (by decide) ?_
  refine wp_istN (L' := [some (vr _), some (vi _), some (vi _)]) dX3_joined_3 (Nat.le_of_ble_eq_true rfl) rfl ?_
  exact l3_joined hc hz hQ (ggn (Gz z)).toNat 0 0 (by have := hc.pl.n; omega) rfl
set_option maxRecDepth 20000 in
theorem p3_wet {d : Nat} {σ : aS} {Q : aQ} {c : Int} {z : aZ} (hc : CI σ z) (hz : ZV z) (hQ : Q (some (vi (vWet z c))) σ) : aCall 34 (d + 2) mX3_wet [vr 0, vi c] σ Q := by
  refine cl_in (own := RX3) (cc := cX3_wet) (rk := 0) (L := [some (vr 0), some (vi c)]) rfl rfl rfl rfl (by decide) (Nat.le_of_ble_eq_true rfl) ?_
  have hp := hc.pl
  have hn := hp.n
  refine wp_aload_n dX3_wet_0 rfl ?_
  refine wp_getR dX3_wet_1 flX3_39 (by decide) rfl rfl ?_
  refine wp_iload_n dX3_wet_4 rfl ?_
  refine wp_V1 dX3_wet_5 vlX3_61 (by decide) rfl (Nat.le_of_ble_eq_true rfl) ?_
  refine s0_isCell hp ?_
  refine wp_ifB_ne 14 dX3_wet_8 (by decide) (fun hh8 => ?_) (fun hh8 => ?_)
  · refine wp_aload_n dX3_wet_14 rfl ?_
    refine wp_getR dX3_wet_15 flX3_39 (by decide) rfl rfl ?_
    refine wp_getJ dX3_wet_18 flX3_138 (by decide) rfl rfl ?_
    refine wp_iload_n dX3_wet_21 rfl ?_
    refine wp_S2 dX3_wet_22 zlX3_76 (Nat.le_of_ble_eq_true rfl) ?_
    refine s3_has ?_
    refine wp_S1 dX3_wet_25 zlX3_80 (Nat.le_of_ble_eq_true rfl) ?_
    refine s3_asN ?_
    refine wp_iret dX3_wet_28 (Or.inl rfl) ?_
    exact q_i (by unfold vWet wtv; rw [if_pos (by omega)]; exact bi_c (hp.b11 (by omega) (by omega))) hQ
  · refine wp_bipush dX3_wet_11 (by decide) ?_
    refine wp_iret dX3_wet_13 (Or.inl rfl) ?_
    exact q_i (by unfold vWet; rw [if_neg (by omega)]) hQ
