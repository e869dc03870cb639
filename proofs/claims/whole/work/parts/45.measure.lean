/-- no path of r moves is sooner -/
def LEW (g : aG) (a : Int) (f : Nat → Int) (r : Nat) : Prop := ∀ p t : Nat → Int, PN g r p t → p 0 = a → f (p r).toNat ≠ -1 ∧ f (p r).toNat ≤ t r
theorem lew_next {g : aG} (hg : GV g) {a : Int} {f0 f : Nat → Int} {so B : Int} (h : SwW g a f0 f so B (ckS (ggn g).toNat 0)) {r : Nat} (hr : LEW g a f0 r) : LEW g a f (r + 1) := by
  intro p t hp h0
  obtain ⟨y, a1, a2, a3, a4, a5⟩ := hp.2.2 r (by omega)
  have q := hr p t (hp.pre hg) h0
  have ho := opn_g hg (cst_ok hg a3).2.1
  have ec : (((p r).toNat : Nat) : Int) = p r := Int.toNat_of_nonneg ho.1
  have q2 := h.2.1 (p r).toNat y (by omega) a1 a2 (Or.inl (by omega)) (by rw [ec]; exact a3) q.1
  rw [ec] at q2
  rw [a4, a5]
  exact ⟨q2.1, by omega⟩
theorem lew_mono {g : aG} (hg : GV g) {a : Int} {f0 f : Nat → Int} {so B : Int} {k : Nat → Int → Prop} (h : SwW g a f0 f so B k) {r : Nat} (hr : LEW g a f0 r) : LEW g a f r := by
  intro p t hp h0
  have q := hr p t hp h0
  have ho := opn_g hg hp.2.1
  have := (h.1 (p r).toNat (by omega)).2 q.1
  exact ⟨this.1, by omega⟩
theorem lew_all {g : aG} (hg : GV g) {a : Int} {f0 f : Nat → Int} {B : Int} (h : SwW g a f0 f 0 B (ckS (ggn g).toNat 0)) (h0 : LEW g a f0 0) : ∀ r, LEW g a f r := by
  have e : ∀ r, LEW g a f r → LEW g a f0 r := fun r q p t hp hp0 => by
    have ho := opn_g hg hp.2.1
    have e1 := h.2.2.2 rfl (p r).toNat (by omega)
    rw [← e1]; exact q p t hp hp0
  intro r
  induction r with
  | zero => exact lew_mono hg h h0
  | succ r ih => exact lew_next hg h (e r ih)
theorem lew_fin {g : aG} (hg : GV g) {a : Int} {f : Nat → Int} {B : Int} (h1 : ∀ c : Nat, (c : Int) < ggn g → (f c = -1 ∨ (0 ≤ f c ∧ f c ≤ B ∧ Pth g c a (f c)))) (h2 : ∀ r, r ≤ 34 → LEW g a f r) : ∀ c : Nat, (c : Int) < ggn g → f c = wayv g a c := by
  intro c hc
  have key : ∀ k, Pth g c a k → f c ≠ -1 ∧ f c ≤ k := by
    intro k hk
    obtain ⟨r, p, t, k1, k2, k3, k4⟩ := hk.pn
    obtain ⟨r2, p2, t2, m1, m2, m3, m4, m5⟩ := k1.short hg
    have q := h2 r2 m1 p2 t2 m2 (m3.trans k2)
    rw [m4, k3, Int.toNat_natCast] at q
    exact ⟨q.1, by omega⟩
  rcases h1 c hc with q | q
  · rw [q]; exact (wayv_no (fun ⟨k, hk⟩ => (key k hk).1 q)).symm
  · exact (wayv_is ⟨q.2.2, fun k hk => (key k hk).2⟩).symm
set_option maxRecDepth 20000 in
theorem l2_m1 {d : Nat} {σ0 : aS} {Q : aQ} {a : Nat} (ha : a < 35) (hK : ∀ (σ : aS), FrQ (A17 a) nA σ0 σ → (∀ j, j < 35 → rw17 σ a j = -1) → Wp RX2 cX2_measure 34 (aCall 34 (d + 3)) Q 3 false 0 (fun _ => 0) 28 [some (vr 16), some (vi (a : Int)), some (vi (35 * (a : Int))), some (vi 35), none] [] σ) : ∀ (r : Nat) (k : Nat) (σ : aS), k + r = 35 → FrQ (A17 a) nA σ0 σ → (∀ j, j < k → rw17 σ a j = -1) → Wp RX2 cX2_measure 34 (aCall 34 (d + 3)) Q 3 false 0 (fun _ => 0) 7 [some (vr 16), some (vi (a : Int)), some (vi (35 * (a : Int))), some (vi (k : Int)), none] [] σ := by
  intro r
  induction r with
  | zero =>
    intro k σ hk hf hI
    refine wp_iload_n dX2_measure_7 rfl ?_
    refine wp_bipush dX2_measure_8 (by decide) ?_
    refine wp_ic_ge 28 dX2_measure_10 (by decide) (fun hh10 => ?_) (fun hh10 => ?_)
    · have e : k = 35 := by omega
      subst e
      exact hK σ hf hI
    · exfalso; omega
  | succ r ih =>
    intro k σ hk hf hI
    refine wp_iload_n dX2_measure_7 rfl ?_
    refine wp_bipush dX2_measure_8 (by decide) ?_
    refine wp_ic_ge 28 dX2_measure_10 (by decide) (fun hh10 => ?_) (fun hh10 => ?_)
    · exfalso; omega
    · refine wp_aload_n dX2_measure_13 rfl ?_
      refine wp_getR dX2_measure_14 flX2_15 (by decide) rfl rfl ?_
      refine wp_iload_n dX2_measure_17 rfl ?_
      refine wp_iload_n dX2_measure_18 rfl ?_
      refine wp_iaddN dX2_measure_19 (by omega) ?_
      refine wp_iconst dX2_measure_20 (by decide) ?_
      refine wp_iastore dX2_measure_21 (by decide) rfl (by omega) (by omega) (by decide) ?_
      refine wp_iincN (L' := [some (vr _), some (vi _), some (vi _), some (vi _), none]) dX2_measure_22 rfl (by omega) rfl ?_
      refine wp_gotoN 7 dX2_measure_25 (by decide) ?_
      refine ih (k + 1) _ (by omega) (hf.put ⟨rfl, by omega, by omega⟩) ?_
      rw [rw17_put (a := a) (c := k) (by omega)]
      intro j hj
      dsimp only
      by_cases e : j = k
      · rw [if_pos e]
      · rw [if_neg e]; exact hI j (by omega)
set_option maxRecDepth 20000 in
theorem l2_mr {d : Nat} {σ0 : aS} {Q : aQ} {g : aG} {a : Nat} (hp0 : PL σ0 g) (ht0 : σ0.1 16 3 = ggt g) (ha : (a : Int) < ggn g) (hQ : ∀ (σ : aS), FrQ (A17 a) nA σ0 σ → (∀ c : Nat, (c : Int) < ggn g → rw17 σ a c = wayv g a c) → Q none (sJ σ 16 2 (σ.2 16 2 ||| 1#64 <<< a))) : ∀ (r : Nat) (k : Nat) (so : Int) (σ : aS), k + r = 35 → FrQ (A17 a) nA σ0 σ → (∀ c : Nat, (c : Int) < ggn g → (rw17 σ a c = -1 ∨ (0 ≤ rw17 σ a c ∧ rw17 σ a c ≤ 350 * k ∧ Pth g c a (rw17 σ a c)))) → ((so = 1 ∧ ∀ r, r ≤ k → LEW g a (rw17 σ a) r) ∨ (so = 0 ∧ ∀ r, LEW g a (rw17 σ a) r)) → Wp RX2 cX2_measure 34 (aCall 34 (d + 3)) Q 3 false 0 (fun _ => 0) 56 [some (vr 16), some (vi (a : Int)), some (vi (35 * (a : Int))), some (vi so), some (vi (k : Int))] [] σ := by
  intro r
  induction r with
  | zero =>
    intro k so σ hk hf hI hL
    have hp := hp0.a17 hf
    have hg := hp.gv
    have hn := hp.n
    refine wp_iload dX2_measure_56 rfl ?_
    refine wp_bipush dX2_measure_58 (by decide) ?_
    refine wp_ic_ge 79 dX2_measure_60 (by decide) (fun hh60 => ?_) (fun hh60 => ?_)
    · refine wp_aload_n dX2_measure_79 rfl ?_
      refine wp_dup dX2_measure_80 rfl ?_
      refine wp_getJ dX2_measure_81 flX2_23 (by decide) rfl rfl ?_
      refine wp_iload_n dX2_measure_84 rfl ?_
      refine wp_S1 dX2_measure_85 zlX2_47 (Nat.le_of_ble_eq_true rfl) ?_
      refine s3_bit (by omega) (by omega) ?_
      refine wp_lor dX2_measure_88 ?_
      refine wp_putJ dX2_measure_89 flX2_23 (by decide) rfl rfl rfl rfl ?_
      refine wp_vret dX2_measure_92 rfl ?_
      refine hQ σ hf (lew_fin hg hI (fun r hr => ?_))
      rcases hL with q | q
      · exact q.2 r (by omega)
      · exact q.2 r
    · exfalso; omega
  | succ r ih =>
    intro k so σ hk hf hI hL
    have hp := hp0.a17 hf
    have hg := hp.gv
    have hn := hp.n
    refine wp_iload dX2_measure_56 rfl ?_
    refine wp_bipush dX2_measure_58 (by decide) ?_
    refine wp_ic_ge 79 dX2_measure_60 (by decide) (fun hh60 => ?_) (fun hh60 => ?_)
    · exfalso; omega
    · refine wp_iload_n dX2_measure_63 rfl ?_
      refine wp_if_eq 79 dX2_measure_64 (by decide) (fun hh64 => ?_) (fun hh64 => ?_)
      · refine wp_aload_n dX2_measure_79 rfl ?_
        refine wp_dup dX2_measure_80 rfl ?_
        refine wp_getJ dX2_measure_81 flX2_23 (by decide) rfl rfl ?_
        refine wp_iload_n dX2_measure_84 rfl ?_
        refine wp_S1 dX2_measure_85 zlX2_47 (Nat.le_of_ble_eq_true rfl) ?_
        refine s3_bit (by omega) (by omega) ?_
        refine wp_lor dX2_measure_88 ?_
        refine wp_putJ dX2_measure_89 flX2_23 (by decide) rfl rfl rfl rfl ?_
        refine wp_vret dX2_measure_92 rfl ?_
        refine hQ σ hf (lew_fin hg hI (fun r hr => ?_))
        rcases hL with q | q
        · exact absurd q.1 (by omega)
        · exact q.2 r
      · refine wp_aload_n dX2_measure_67 rfl ?_
        refine wp_iload_n dX2_measure_68 rfl ?_
        refine wp_V1 dX2_measure_69 vlX2_44 (by decide) rfl (Nat.le_of_ble_eq_true rfl) ?_
        refine s2_goOn (B := 350 * k) hp (by rw [hf.1 16 3 (fun q => absurd q.1 (by decide))]; exact ht0) (by omega) (by omega) (by omega) hI (fun so2 σ2 f2 w2 => ?_)
        refine wp_istN (L' := [some (vr _), some (vi _), some (vi _), some (vi _), some (vi _)]) dX2_measure_72 (Nat.le_of_ble_eq_true rfl) rfl ?_
        refine wp_iincN (L' := [some (vr _), some (vi _), some (vi _), some (vi _), some (vi _)]) dX2_measure_73 rfl (by omega) rfl ?_
        refine wp_gotoN 56 dX2_measure_76 (by decide) ?_
        have hL := (hL.resolve_right (fun q => hh64 q.1)).2
        refine ih (k + 1) so2 σ2 (by omega) (hf.tr f2) (fun c hc => ?_) ?_
        · exact (w2.1 c hc).1.elim Or.inl (fun q => Or.inr ⟨q.1, by omega, q.2.2⟩)
        · rcases w2.2.2.1 with e | e
          · subst e
            exact Or.inr ⟨rfl, lew_all hg w2 (hL 0 (by omega))⟩
          · refine Or.inl ⟨e, fun r hr => ?_⟩
            cases r with
            | zero => exact lew_mono hg w2 (hL 0 (by omega))
            | succ r => exact lew_next hg w2 (hL r (by omega))
abbrev wA (c _ : Nat) : Prop := c = 17
abbrev wB (c k : Nat) : Prop := c = 16 ∧ k = 2
theorem WY.m {σ0 σ : aS} {g : aG} {a : Nat} (hn : ggn g ≤ 35) (hw : WY σ0 g) (f : FrQ (A17 a) nA σ0 σ) (h : ∀ c : Nat, (c : Int) < ggn g → rw17 σ a c = wayv g a c) (ha : a < 35) : WY (sJ σ 16 2 (σ.2 16 2 ||| 1#64 <<< a)) g := by
  refine ⟨by show σ.1 16 3 = _; rw [f.1 16 3 (fun q => absurd q.1 (by decide))]; exact hw.1, fun a' b hb h1 h2 => ?_⟩
  rw [sJ_eq, BitVec.getLsbD_or, Bool.or_eq_true, bit_at (by omega), f.2 16 2 (fun q => q)] at hb
  show σ.1 17 (35 * a' + b) = _
  by_cases e : a' = a
  · subst e; exact h b h2
  · rw [f.1 17 _ (fun q => by omega)]
    exact hw.2 a' b (hb.resolve_right e) h1 h2
set_option maxRecDepth 20000 in
theorem s2_measure {d : Nat} {σ : aS} {Q : aQ} {g : aG} {a : Nat} (hp : PL σ g) (hw : WY σ g) (ha : (a : Int) < ggn g) (hQ : ∀ σ' : aS, FrQ wA wB σ σ' → WY σ' g → (σ'.2 16 2).getLsbD a = true → Q none σ') : aCall 34 (d + 4) mX2_measure [vr 16, vi (a : Int)] σ Q := by
  refine cl_in (own := RX2) (cc := cX2_measure) (rk := 3) (L := [some (vr 16), some (vi (a : Int)), none, none, none]) rfl rfl rfl rfl (by decide) (Nat.le_of_ble_eq_true rfl) ?_
  have hn := hp.n
  have hg := hp.gv
  refine wp_iload_n dX2_measure_0 rfl ?_
  refine wp_bipush dX2_measure_1 (by decide) ?_
  refine wp_imulN dX2_measure_3 (by omega) ?_
  rw [show (a : Int) * 35 = 35 * (a : Int) by omega]
  refine wp_istN (L' := [some (vr _), some (vi _), some (vi _), none, none]) dX2_measure_4 (Nat.le_of_ble_eq_true rfl) rfl ?_
  refine wp_iconst dX2_measure_5 (by decide) ?_
  refine wp_istN (L' := [some (vr _), some (vi _), some (vi _), some (vi _), none]) dX2_measure_6 (Nat.le_of_ble_eq_true rfl) rfl ?_
  refine l2_m1 (by omega) (fun σ1 f1 i1 => ?_) 35 0 σ (by omega) FrQ.rf (fun j hj => absurd hj (Nat.not_lt_zero j))
  have hp1 := hp.a17 f1
  refine wp_aload_n dX2_measure_28 rfl ?_
  refine wp_getR dX2_measure_29 flX2_9 (by decide) rfl rfl ?_
  refine wp_getJ dX2_measure_32 flX2_41 (by decide) rfl rfl ?_
  refine wp_iload_n dX2_measure_35 rfl ?_
  refine wp_S2 dX2_measure_36 zlX2_33 (Nat.le_of_ble_eq_true rfl) ?_
  refine s3_has ?_
  refine wp_ifB_eq 51 dX2_measure_39 (by decide) (fun hh39 => ?_) (fun hh39 => ?_)
  · try have ho : ¬ opn g (a : Int) := fun q => hh39 (hp1.b4.mpr q)
    refine wp_iconst dX2_measure_51 (by decide) ?_
    refine wp_istN (L' := [some (vr _), some (vi _), some (vi _), some (vi _), none]) dX2_measure_52 (Nat.le_of_ble_eq_true rfl) rfl ?_
    refine wp_iconst dX2_measure_53 (by decide) ?_
    refine wp_ist (L' := [some (vr _), some (vi _), some (vi _), some (vi _), some (vi _)]) dX2_measure_54 (Nat.le_of_ble_eq_true rfl) rfl ?_
    refine l2_mr hp hw.1 ha (fun σ4 f4 h4 => hQ _ ((f4.mo (fun _ _ q => q.1) (fun _ _ q => q.elim)).putJ (by decide)) (hw.m hn.2.2 f4 h4 (by omega)) (by rw [sJ_eq, BitVec.getLsbD_or, (bit_at (by omega)).mpr rfl, Bool.or_true])) 35 0 1 _ (by omega) f1 (fun c hc => Or.inl (i1 c (by omega))) (Or.inl ⟨rfl, fun r hr => ?_⟩)
    have er : r = 0 := by omega
    subst er
    intro p t hpn h0
    have hpo := hpn.2.1
    rw [h0] at hpo
    exact absurd hpo ho
  · have ho := hp1.b4.mp hh39
    refine wp_aload_n dX2_measure_42 rfl ?_
    refine wp_getR dX2_measure_43 flX2_15 (by decide) rfl rfl ?_
    refine wp_iload_n dX2_measure_46 rfl ?_
    refine wp_iload_n dX2_measure_47 rfl ?_
    refine wp_iaddN dX2_measure_48 (by omega) ?_
    refine wp_iconst dX2_measure_49 (by decide) ?_
    refine wp_iastore dX2_measure_50 (by decide) rfl (by omega) (by omega) (by decide) ?_
    try have ho : ¬ opn g (a : Int) := fun q => hh39 (hp1.b4.mpr q)
    refine wp_iconst dX2_measure_51 (by decide) ?_
    refine wp_istN (L' := [some (vr _), some (vi _), some (vi _), some (vi _), none]) dX2_measure_52 (Nat.le_of_ble_eq_true rfl) rfl ?_
    refine wp_iconst dX2_measure_53 (by decide) ?_
    refine wp_ist (L' := [some (vr _), some (vi _), some (vi _), some (vi _), some (vi _)]) dX2_measure_54 (Nat.le_of_ble_eq_true rfl) rfl ?_
    have e0 : (35 * (a : Int) + (a : Int)).toNat = 35 * a + a := by omega
    refine l2_mr hp hw.1 ha (fun σ4 f4 h4 => hQ _ ((f4.mo (fun _ _ q => q.1) (fun _ _ q => q.elim)).putJ (by decide)) (hw.m hn.2.2 f4 h4 (by omega)) (by rw [sJ_eq, BitVec.getLsbD_or, (bit_at (by omega)).mpr rfl, Bool.or_true])) 35 0 1 _ (by omega) (f1.put ⟨rfl, by omega, by omega⟩) (fun c hc => ?_) (Or.inl ⟨rfl, fun r hr => ?_⟩)
    · rw [rw17_put (a := a) (c := a) e0]
      dsimp only
      by_cases e : c = a
      · rw [if_pos e, e]; exact Or.inr ⟨by omega, by omega, Pth.z ho⟩
      · rw [if_neg e]; exact Or.inl (i1 c (by omega))
    · have er : r = 0 := by omega
      subst er
      intro p t hpn h0
      rw [rw17_put (a := a) (c := a) e0]
      dsimp only
      rw [h0, Int.toNat_natCast, if_pos rfl, hpn.1]
      exact ⟨by omega, by omega⟩
noncomputable def btv (g : aG) (a b : Int) : Int := if (0 ≤ a ∧ a ≤ ggn g - 1) ∧ (0 ≤ b ∧ b ≤ ggn g - 1) then wayv g a b else -1
theorem PL.w {σ σ' : aS} {g : aG} (h : PL σ g) (f : FrQ wA wB σ σ') : PL σ' g := h.fr f (fun _ q => absurd (show (13 : Nat) = 17 from q) (by decide)) (fun _ q => absurd q.1 (by decide)) (fun _ q => absurd q.1 (by decide)) (fun _ q => absurd q.1 (by decide))
set_option maxRecDepth 20000 in
theorem s2_between {d : Nat} {σ : aS} {Q : aQ} {g : aG} {a b : Int} (hp : PL σ g) (hw : WY σ g) (hQ : ∀ σ' : aS, FrQ wA wB σ σ' → WY σ' g → Q (some (vi (btv g a b))) σ') : aCall 34 (d + 5) mX2_between [vr 16, vi a, vi b] σ Q := by
  refine cl_in (own := RX2) (cc := cX2_between) (rk := 0) (L := [some (vr 16), some (vi a), some (vi b)]) rfl rfl rfl rfl (by decide) (Nat.le_of_ble_eq_true rfl) ?_
  have hn := hp.n
  refine wp_aload_n dX2_between_0 rfl ?_
  refine wp_getR dX2_between_1 flX2_9 (by decide) rfl rfl ?_
  refine wp_iload_n dX2_between_4 rfl ?_
  refine wp_V1 dX2_between_5 vlX2_27 (by decide) rfl (Nat.le_of_ble_eq_true rfl) ?_
  refine s0_isCell hp ?_
  refine wp_ifB_eq 22 dX2_between_8 (by decide) (fun hh8 => ?_) (fun hh8 => ?_)
  · refine wp_iconst dX2_between_22 (by decide) ?_
    refine wp_iret dX2_between_23 (Or.inl rfl) ?_
    exact q_i (by unfold btv; rw [if_neg (by omega)]) (hQ σ FrQ.rf hw)
  · refine wp_aload_n dX2_between_11 rfl ?_
    refine wp_getR dX2_between_12 flX2_9 (by decide) rfl rfl ?_
    refine wp_iload_n dX2_between_15 rfl ?_
    refine wp_V1 dX2_between_16 vlX2_27 (by decide) rfl (Nat.le_of_ble_eq_true rfl) ?_
    refine s0_isCell hp ?_
    refine wp_ifB_ne 24 dX2_between_19 (by decide) (fun hh19 => ?_) (fun hh19 => ?_)
    · refine wp_aload_n dX2_between_24 rfl ?_
      refine wp_getJ dX2_between_25 flX2_23 (by decide) rfl rfl ?_
      refine wp_iload_n dX2_between_28 rfl ?_
      refine wp_S2 dX2_between_29 zlX2_33 (Nat.le_of_ble_eq_true rfl) ?_
      refine s3_has ?_
      refine wp_ifB_ne 40 dX2_between_32 (by decide) (fun hh32 => ?_) (fun hh32 => ?_)
      · have ev : σ.1 17 (a * 35 + b).toNat = wayv g a b := by
          have := hw.2 a.toNat b.toNat hh32.2.2 (by omega) (by omega)
          rw [Int.toNat_of_nonneg (by omega), Int.toNat_of_nonneg (by omega)] at this
          rw [show (a * 35 + b).toNat = 35 * a.toNat + b.toNat by omega]
          exact this
        refine wp_aload_n dX2_between_40 rfl ?_
        refine wp_getR dX2_between_41 flX2_15 (by decide) rfl rfl ?_
        refine wp_iload_n dX2_between_44 rfl ?_
        refine wp_bipush dX2_between_45 (by decide) ?_
        refine wp_imulN dX2_between_47 (by omega) ?_
        refine wp_iload_n dX2_between_48 rfl ?_
        refine wp_iaddN dX2_between_49 (by omega) ?_
        refine wp_iaload dX2_between_50 (by decide) rfl (by omega) (by omega) (by decide) ?_
        refine wp_iret dX2_between_51 (Or.inl rfl) ?_
        refine q_i (ev.trans (show wayv g a b = btv g a b by unfold btv; rw [if_pos (by omega)])) (hQ σ FrQ.rf hw)
      · refine wp_aload_n dX2_between_35 rfl ?_
        refine wp_iload_n dX2_between_36 rfl ?_
        refine wp_V1 dX2_between_37 vlX2_37 (by decide) rfl (Nat.le_of_ble_eq_true rfl) ?_
        have ea : a = ((a.toNat : Nat) : Int) := by omega
        rw [ea]
        refine s2_measure hp hw (by omega) (fun σ2 f2 w2 b2 => ?_)
        rw [← ea]
        have ev : σ2.1 17 (a * 35 + b).toNat = wayv g a b := by
          have := w2.2 a.toNat b.toNat b2 (by omega) (by omega)
          rw [Int.toNat_of_nonneg (by omega), Int.toNat_of_nonneg (by omega)] at this
          rw [show (a * 35 + b).toNat = 35 * a.toNat + b.toNat by omega]
          exact this
        refine wp_aload_n dX2_between_40 rfl ?_
        refine wp_getR dX2_between_41 flX2_15 (by decide) rfl rfl ?_
        refine wp_iload_n dX2_between_44 rfl ?_
        refine wp_bipush dX2_between_45 (by decide) ?_
        refine wp_imulN dX2_between_47 (by omega) ?_
        refine wp_iload_n dX2_between_48 rfl ?_
        refine wp_iaddN dX2_between_49 (by omega) ?_
        refine wp_iaload dX2_between_50 (by decide) rfl (by omega) (by omega) (by decide) ?_
        refine wp_iret dX2_between_51 (Or.inl rfl) ?_
        refine q_i (ev.trans (show wayv g a b = btv g a b by unfold btv; rw [if_pos (by omega)])) (hQ σ2 f2 w2)
    · refine wp_iconst dX2_between_22 (by decide) ?_
      refine wp_iret dX2_between_23 (Or.inl rfl) ?_
      exact q_i (by unfold btv; rw [if_neg (by omega)]) (hQ σ FrQ.rf hw)
