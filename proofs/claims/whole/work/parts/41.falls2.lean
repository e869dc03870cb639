theorem md_5 {w c : Int} (h1 : 1 ≤ w) (h2 : w ≤ 7) (h0 : 0 ≤ c) (h3 : c < 5 * w) : 0 ≤ c / w ∧ c / w ≤ 4 := by
  have : w = 1 ∨ w = 2 ∨ w = 3 ∨ w = 4 ∨ w = 5 ∨ w = 6 ∨ w = 7 := by omega
  rcases this with rfl | rfl | rfl | rfl | rfl | rfl | rfl <;> omega
theorem fallN_h {g : aG} {c : Int} (h : hld g c) : ∀ r, fallN g r c = c := by
  intro r
  induction r with
  | zero => rfl
  | succ r ih =>
    show fallN g r (fall1 g c) = c
    have e : fall1 g c = c := by unfold fall1; rw [cif_t h]
    rw [e]; exact ih
theorem fallN_s {g : aG} : ∀ (r : Nat) (c : Int), fallN g (r + 1) c = fall1 g (fallN g r c) := by
  intro r
  induction r with
  | zero => intro c; rfl
  | succ r ih => intro c; exact ih (fall1 g c)
theorem fall_up {g : aG} {c : Int} (hg : GV g) (ho : opn g c) (hh : ¬ hld g c) : opn g (blw g c) ∧ (upp g c → blw g c / ggw g = c / ggw g - 1 ∧ upp g (blw g c)) ∧ (¬ upp g c → blw g c / ggw g = c / ggw g + 1 ∧ ¬ upp g (blw g c)) := by
  have hw := opn_w hg ho
  have hm := md_c (c := c) hw.2.2.2.1 hw.2.2.2.2
  refine ⟨(hld_n hh ho.2.2).1, fun hu => ?_, fun hu => ?_⟩
  · have e : blw g c = c - ggw g := by unfold blw; rw [if_pos hu]
    have hu : c / ggw g < ggm g := hu
    unfold upp
    rw [e, hm.1]
    exact ⟨rfl, by omega⟩
  · have e : blw g c = c + ggw g := by unfold blw; rw [if_neg hu]
    have hu : ¬ c / ggw g < ggm g := hu
    unfold upp
    rw [e, hm.2]
    exact ⟨rfl, by omega⟩
theorem fall_row {g : aG} (hg : GV g) : ∀ (r : Nat) (c : Int), opn g c → (upp g c → fallN g r c / ggw g = c / ggw g - flC g r c) ∧ (¬ upp g c → fallN g r c / ggw g = c / ggw g + flC g r c) := by
  intro r
  induction r with
  | zero => intro c _; exact ⟨fun _ => by show c / ggw g = c / ggw g - 0; omega, fun _ => by show c / ggw g = c / ggw g + 0; omega⟩
  | succ r ih =>
    intro c ho
    by_cases hh : hld g c
    · rw [fallN_h hh]
      unfold flC
      rw [cif_f (fun q => q.2 hh)]
      exact ⟨fun _ => by omega, fun _ => by omega⟩
    · obtain ⟨f1, f2, f3⟩ := fall_up hg ho hh
      have e : fallN g (r + 1) c = fallN g r (blw g c) := by
        show fallN g r (fall1 g c) = _
        unfold fall1; rw [cif_f hh]
      have i1 := ih (blw g c) f1
      rw [e]
      unfold flC
      rw [cif_t ⟨ho, hh⟩]
      exact ⟨fun hu => by rw [i1.1 (f2 hu).2, (f2 hu).1]; omega, fun hu => by rw [i1.2 (f3 hu).2, (f3 hu).1]; omega⟩
theorem flC_4 {g : aG} (hg : GV g) (h5 : ggn g ≤ 5 * ggw g) {c : Int} (ho : opn g c) (r : Nat) : flC g r c ≤ 4 := by
  have h1 := fall_row hg r c ho
  have w1 := opn_w hg ho
  have w2 := opn_w hg (fallN_opn r c ho)
  have m1 := md_5 w1.2.2.2.1 w1.2.2.2.2 w1.1 (by omega)
  have m2 := md_5 w1.2.2.2.1 w1.2.2.2.2 w2.1 (by omega)
  by_cases hu : upp g c
  · have := h1.1 hu; omega
  · have := h1.2 hu; omega
theorem flC_h {g : aG} : ∀ (r : Nat) (c : Int), opn g c → flC g r c < r → hld g (fallN g r c) := by
  intro r
  induction r with
  | zero => intro c _ h; exact absurd h (by have := (flC_in (g := g) 0 c).1; omega)
  | succ r ih =>
    intro c ho h
    by_cases hh : hld g c
    · rw [fallN_h hh]; exact hh
    · have e : fallN g (r + 1) c = fallN g r (blw g c) := by
        show fallN g r (fall1 g c) = _
        unfold fall1; rw [cif_f hh]
      unfold flC at h
      rw [cif_t ⟨ho, hh⟩] at h
      rw [e]
      exact ih _ (hld_n hh ho.2.2).1 (by omega)
theorem fall_65 {g : aG} (hg : GV g) (h5 : ggn g ≤ 5 * ggw g) {c : Int} (ho : opn g c) : fallN g 6 c = fallN g 5 c := by
  have h := flC_h 5 c ho (by have := flC_4 hg h5 ho 5; omega)
  rw [fallN_s]
  unfold fall1
  rw [cif_t h]
theorem fall_m {g : aG} (hg : GV g) (h5 : ggn g ≤ 5 * ggw g) {c : Int} (ho : opn g c) (k : Nat) : fallN g (min k 6) c = fallN g (min k 5) c := by
  by_cases h : k ≤ 5
  · rw [Nat.min_eq_left (by omega), Nat.min_eq_left h]
  · rw [Nat.min_eq_right (by omega), Nat.min_eq_right (by omega)]; exact fall_65 hg h5 ho
theorem rsv_1 {z : aZ} (hz : ZV z) {t : Nat} : rsv z t 1 = flC (Gz z) 5 (zc z t) := by
  unfold rsv
  by_cases ho : opn (Gz z) (zc z t)
  · rw [cif_t ho, if_neg (by decide), fall_65 (Gz_ok hz) Gz_5 ho]
    have h1 := fall_row (Gz_ok hz) 5 _ ho
    have h2 := (flC_in (g := Gz z) 5 (zc z t)).1
    by_cases hu : upp (Gz z) (zc z t)
    · rw [h1.1 hu]; omega
    · rw [h1.2 hu]; omega
  · rw [cif_f ho, if_neg (by decide)]
    unfold flC
    rw [cif_f (fun q => ho q.1)]
theorem rsv_0 {z : aZ} (hz : ZV z) {t : Nat} : rsv z t 0 = cif (opn (Gz z) (zc z t)) (fallN (Gz z) 5 (zc z t)) (-1) := by
  unfold rsv
  by_cases ho : opn (Gz z) (zc z t)
  · rw [cif_t ho, cif_t ho, if_pos rfl, fall_65 (Gz_ok hz) Gz_5 ho]
  · rw [cif_f ho, cif_f ho, if_pos rfl]
theorem rsv_n {z : aZ} (hz : ZV z) {t : Nat} : rsv z t 0 ≠ -1 ↔ opn (Gz z) (zc z t) := by
  rw [rsv_0 hz]
  by_cases ho : opn (Gz z) (zc z t)
  · rw [cif_t ho]
    have := (fallN_opn 5 _ ho).1
    exact ⟨fun _ => ho, fun _ => by omega⟩
  · rw [cif_f ho]; exact ⟨fun q => absurd rfl q, fun q => absurd q ho⟩
theorem atv_5 {z : aZ} (hz : ZV z) {t : Nat} {s : Int} : atv z t s = if s < zs z t then -1 else cif (opn (Gz z) (zc z t)) (fallN (Gz z) (min (s - zs z t).toNat 5) (zc z t)) (-1) := by
  unfold atv
  by_cases h : s < zs z t
  · rw [cif_t (Or.inl h), if_pos h]
  · rw [if_neg h]
    by_cases ho : opn (Gz z) (zc z t)
    · rw [cif_f (fun q => q.elim h (fun w => w ho)), cif_t ho, fall_m (Gz_ok hz) Gz_5 ho]
    · rw [cif_t (Or.inr ho), cif_f ho]
theorem ce_h {g : aG} {c y : Int} (hg : GV g) (ho : opn g c) (hh : hld g c) (y0 : 0 ≤ y) (y2 : y < 2) : ceE g c y ↔ opn g (tgt g c y) := by
  rw [ceE_d hg]
  refine ⟨fun q => q.2.1, fun q => ⟨ho, q, fun _ => Or.inl ⟨y2, ?_⟩, fun w => absurd hh w⟩⟩
  have hw := opn_w hg ho
  have hm := md_b (c := c) hw.2.2.2.1 hw.2.2.2.2
  have hy : y = 0 ∨ y = 1 := by omega
  rcases hy with rfl | rfl
  · rw [tgt_0] at q ⊢
    by_cases e : c % ggw g > 0
    · rw [if_pos e]; exact (hm.1 e).1
    · rw [if_neg e] at q; exact absurd q.1 (by decide)
  · rw [tgt_1] at q ⊢
    by_cases e : c % ggw g < ggw g - 1
    · rw [if_pos e]; exact (hm.2 e).1
    · rw [if_neg e] at q; exact absurd q.1 (by decide)
set_option maxRecDepth 20000 in
theorem s0_moveSteps {d : Nat} {σ : aS} {Q : aQ} {c s t : Int} {g : aG} (hp : PL σ g) (s0 : 0 ≤ s) (s4 : s < 4) (ht : t = ggt g) (t0 : 0 ≤ t) (t9 : t ≤ 9) (hQ : ∀ v : Int, (ceE g c (sdY s) → v = cst g c (sdY s)) → 1 ≤ v → v ≤ 10 → Q (some (vi v)) σ) : aCall 34 (d + 2) mX0_moveSteps [vr 13, vi c, vi s, vi t] σ Q := by
  refine cl_in (own := RX0) (cc := cX0_moveSteps) (rk := 0) (L := [some (vr 13), some (vi c), some (vi s), some (vi t)]) rfl rfl rfl rfl (by decide) (Nat.le_of_ble_eq_true rfl) ?_
  have hg := hp.gv
  have hs : s = 0 ∨ s = 1 ∨ s = 2 ∨ s = 3 := by omega
  rcases hs with rfl | rfl | rfl | rfl
  · have ey : sdY 0 = 2 := by decide
    rw [ey] at hQ
    refine wp_iload_n dX0_moveSteps_0 rfl ?_
    refine wp_if_lt 22 dX0_moveSteps_1 (by decide) (fun h1 => ?_) (fun h1 => ?_)
    · exact absurd h1 (by decide)
    · refine wp_iload_n dX0_moveSteps_4 rfl ?_
      refine wp_iconst dX0_moveSteps_5 (by decide) ?_
      refine wp_ic_ge 22 dX0_moveSteps_6 (by decide) (fun h6 => ?_) (fun h6 => ?_)
      · exact absurd h6 (by decide)
      · refine wp_aload_n dX0_moveSteps_9 rfl ?_
        refine wp_getR dX0_moveSteps_10 flX0_15 (by decide) rfl rfl ?_
        refine wp_iload_n dX0_moveSteps_13 rfl ?_
        refine wp_laload dX0_moveSteps_14 (by decide) rfl (by decide) (by decide) (by decide) ?_
        refine wp_iload_n dX0_moveSteps_15 rfl ?_
        refine wp_S2 dX0_moveSteps_16 zlX0_95 (Nat.le_of_ble_eq_true rfl) ?_
        refine s3_has ?_
        refine wp_ifB_ne 24 dX0_moveSteps_19 (by decide) (fun h19 => ?_) (fun h19 => ?_)
        · refine wp_iconst dX0_moveSteps_24 (by decide) ?_
          refine wp_iload_n dX0_moveSteps_25 rfl ?_
          refine wp_iaddN dX0_moveSteps_26 (by omega) ?_
          refine wp_iret dX0_moveSteps_27 (Or.inl rfl) ?_
          have h19 : bt (σ.2 15 0) c := h19
          refine hQ _ (fun hc => ?_) (by omega) (by omega)
          have hw := opn_w hg (ceE_o hg hc).1
          have hv := hp.mv.2.1 c.toNat (by rw [Int.toNat_of_nonneg hw.1]; exact hc)
          rw [Int.toNat_of_nonneg hw.1] at hv
          rw [hv]
          rw [if_pos h19.2.2, ht]
        · refine wp_iconst dX0_moveSteps_22 (by decide) ?_
          refine wp_iret dX0_moveSteps_23 (Or.inl rfl) ?_
          have h19 : ¬ bt (σ.2 15 0) c := h19
          refine hQ _ (fun hc => ?_) (by omega) (by omega)
          have hw := opn_w hg (ceE_o hg hc).1
          have hv := hp.mv.2.1 c.toNat (by rw [Int.toNat_of_nonneg hw.1]; exact hc)
          rw [Int.toNat_of_nonneg hw.1] at hv
          rw [hv]
          rw [if_neg (fun q => h19 ⟨hw.1, by omega, q⟩)]
  · have ey : sdY 1 = 0 := by decide
    rw [ey] at hQ
    refine wp_iload_n dX0_moveSteps_0 rfl ?_
    refine wp_if_lt 22 dX0_moveSteps_1 (by decide) (fun h1 => ?_) (fun h1 => ?_)
    · exact absurd h1 (by decide)
    · refine wp_iload_n dX0_moveSteps_4 rfl ?_
      refine wp_iconst dX0_moveSteps_5 (by decide) ?_
      refine wp_ic_ge 22 dX0_moveSteps_6 (by decide) (fun h6 => ?_) (fun h6 => ?_)
      · exact absurd h6 (by decide)
      · refine wp_aload_n dX0_moveSteps_9 rfl ?_
        refine wp_getR dX0_moveSteps_10 flX0_15 (by decide) rfl rfl ?_
        refine wp_iload_n dX0_moveSteps_13 rfl ?_
        refine wp_laload dX0_moveSteps_14 (by decide) rfl (by decide) (by decide) (by decide) ?_
        refine wp_iload_n dX0_moveSteps_15 rfl ?_
        refine wp_S2 dX0_moveSteps_16 zlX0_95 (Nat.le_of_ble_eq_true rfl) ?_
        refine s3_has ?_
        refine wp_ifB_ne 24 dX0_moveSteps_19 (by decide) (fun h19 => ?_) (fun h19 => ?_)
        · refine wp_iconst dX0_moveSteps_24 (by decide) ?_
          refine wp_iload_n dX0_moveSteps_25 rfl ?_
          refine wp_iaddN dX0_moveSteps_26 (by omega) ?_
          refine wp_iret dX0_moveSteps_27 (Or.inl rfl) ?_
          have h9 := h19.2.2
          rw [show σ.2 15 (1 : Int).toNat = 0#64 from hp.2.2.2.2.2.2.2.2.1.1, BitVec.getLsbD_zero] at h9
          exact absurd h9 (by decide)
        · refine wp_iconst dX0_moveSteps_22 (by decide) ?_
          refine wp_iret dX0_moveSteps_23 (Or.inl rfl) ?_
          refine hQ _ (fun hc => ?_) (by omega) (by omega)
          rw [cst_v hc, cif_f (fun q => q.2.1 (by decide))]
  · have ey : sdY 2 = 1 := by decide
    rw [ey] at hQ
    refine wp_iload_n dX0_moveSteps_0 rfl ?_
    refine wp_if_lt 22 dX0_moveSteps_1 (by decide) (fun h1 => ?_) (fun h1 => ?_)
    · exact absurd h1 (by decide)
    · refine wp_iload_n dX0_moveSteps_4 rfl ?_
      refine wp_iconst dX0_moveSteps_5 (by decide) ?_
      refine wp_ic_ge 22 dX0_moveSteps_6 (by decide) (fun h6 => ?_) (fun h6 => ?_)
      · exact absurd h6 (by decide)
      · refine wp_aload_n dX0_moveSteps_9 rfl ?_
        refine wp_getR dX0_moveSteps_10 flX0_15 (by decide) rfl rfl ?_
        refine wp_iload_n dX0_moveSteps_13 rfl ?_
        refine wp_laload dX0_moveSteps_14 (by decide) rfl (by decide) (by decide) (by decide) ?_
        refine wp_iload_n dX0_moveSteps_15 rfl ?_
        refine wp_S2 dX0_moveSteps_16 zlX0_95 (Nat.le_of_ble_eq_true rfl) ?_
        refine s3_has ?_
        refine wp_ifB_ne 24 dX0_moveSteps_19 (by decide) (fun h19 => ?_) (fun h19 => ?_)
        · refine wp_iconst dX0_moveSteps_24 (by decide) ?_
          refine wp_iload_n dX0_moveSteps_25 rfl ?_
          refine wp_iaddN dX0_moveSteps_26 (by omega) ?_
          refine wp_iret dX0_moveSteps_27 (Or.inl rfl) ?_
          have h9 := h19.2.2
          rw [show σ.2 15 (2 : Int).toNat = 0#64 from hp.2.2.2.2.2.2.2.2.1.2, BitVec.getLsbD_zero] at h9
          exact absurd h9 (by decide)
        · refine wp_iconst dX0_moveSteps_22 (by decide) ?_
          refine wp_iret dX0_moveSteps_23 (Or.inl rfl) ?_
          refine hQ _ (fun hc => ?_) (by omega) (by omega)
          rw [cst_v hc, cif_f (fun q => q.2.1 (by decide))]
  · have ey : sdY 3 = 3 := by decide
    rw [ey] at hQ
    refine wp_iload_n dX0_moveSteps_0 rfl ?_
    refine wp_if_lt 22 dX0_moveSteps_1 (by decide) (fun h1 => ?_) (fun h1 => ?_)
    · exact absurd h1 (by decide)
    · refine wp_iload_n dX0_moveSteps_4 rfl ?_
      refine wp_iconst dX0_moveSteps_5 (by decide) ?_
      refine wp_ic_ge 22 dX0_moveSteps_6 (by decide) (fun h6 => ?_) (fun h6 => ?_)
      · exact absurd h6 (by decide)
      · refine wp_aload_n dX0_moveSteps_9 rfl ?_
        refine wp_getR dX0_moveSteps_10 flX0_15 (by decide) rfl rfl ?_
        refine wp_iload_n dX0_moveSteps_13 rfl ?_
        refine wp_laload dX0_moveSteps_14 (by decide) rfl (by decide) (by decide) (by decide) ?_
        refine wp_iload_n dX0_moveSteps_15 rfl ?_
        refine wp_S2 dX0_moveSteps_16 zlX0_95 (Nat.le_of_ble_eq_true rfl) ?_
        refine s3_has ?_
        refine wp_ifB_ne 24 dX0_moveSteps_19 (by decide) (fun h19 => ?_) (fun h19 => ?_)
        · refine wp_iconst dX0_moveSteps_24 (by decide) ?_
          refine wp_iload_n dX0_moveSteps_25 rfl ?_
          refine wp_iaddN dX0_moveSteps_26 (by omega) ?_
          refine wp_iret dX0_moveSteps_27 (Or.inl rfl) ?_
          have h19 : bt (σ.2 15 3) c := h19
          refine hQ _ (fun hc => ?_) (by omega) (by omega)
          have hw := opn_w hg (ceE_o hg hc).1
          have hv := hp.mv.2.2 c.toNat (by rw [Int.toNat_of_nonneg hw.1]; exact hc)
          rw [Int.toNat_of_nonneg hw.1] at hv
          rw [hv]
          rw [if_pos h19.2.2, ht]
        · refine wp_iconst dX0_moveSteps_22 (by decide) ?_
          refine wp_iret dX0_moveSteps_23 (Or.inl rfl) ?_
          have h19 : ¬ bt (σ.2 15 3) c := h19
          refine hQ _ (fun hc => ?_) (by omega) (by omega)
          have hw := opn_w hg (ceE_o hg hc).1
          have hv := hp.mv.2.2 c.toNat (by rw [Int.toNat_of_nonneg hw.1]; exact hc)
          rw [Int.toNat_of_nonneg hw.1] at hv
          rw [hv]
          rw [if_neg (fun q => h19 ⟨hw.1, by omega, q⟩)]
set_option maxRecDepth 20000 in
theorem s0_kicked {d : Nat} {σ : aS} {Q : aQ} {c l : Int} {g : aG} (hp : PL σ g) (ho : opn g c) (hh : hld g c) (l0 : 0 ≤ l) (l3 : l < 3) (hQ : Q (some (vi (kkS g l c))) σ) : aCall 34 (d + 3) mX0_kicked [vr 13, vi c, vi l] σ Q := by
  refine cl_in (own := RX0) (cc := cX0_kicked) (rk := 0) (L := [some (vr 13), some (vi c), some (vi l), none]) rfl rfl rfl rfl (by decide) (Nat.le_of_ble_eq_true rfl) ?_
  have hg := hp.gv
  have e9 : kkS g l c = cif (opn g (if l = 0 then c else tgt g c (l - 1))) (if l = 0 then c else tgt g c (l - 1)) c := rfl
  refine wp_iload_n dX0_kicked_0 rfl ?_
  refine wp_if_ne 6 dX0_kicked_1 (by decide) (fun h1 => ?_) (fun h1 => ?_)
  · refine wp_aload_n dX0_kicked_6 rfl ?_
    refine wp_iload_n dX0_kicked_7 rfl ?_
    refine wp_iload_n dX0_kicked_8 rfl ?_
    refine wp_iconst dX0_kicked_9 (by decide) ?_
    refine wp_ic_ne 17 dX0_kicked_10 (by decide) (fun h10 => ?_) (fun h10 => ?_)
    · refine wp_iconst dX0_kicked_17 (by decide) ?_
      refine wp_V2 dX0_kicked_18 vlX0_102 (by decide) rfl (Nat.le_of_ble_eq_true rfl) ?_
      refine s0_goneTo hp (by decide) (by decide) ?_
      refine wp_istN (L' := [some (vr _), some (vi _), some (vi _), some (vi _)]) dX0_kicked_21 (Nat.le_of_ble_eq_true rfl) rfl ?_
      refine wp_iload_n dX0_kicked_22 rfl ?_
      refine wp_iconst dX0_kicked_23 (by decide) ?_
      refine wp_ic_ne 31 dX0_kicked_24 (by decide) (fun h24 => ?_) (fun h24 => ?_)
      · refine wp_iload_n dX0_kicked_31 rfl ?_
        refine wp_iret dX0_kicked_32 (Or.inl rfl) ?_
        have ey : sdY 2 = 1 := by decide
        have e1 : l - 1 = 1 := by omega
        have hc : opn g (tgt g c 1) := (ce_h hg ho hh (by decide) (by decide)).mp (Classical.byContradiction (fun q => h24 (by rw [ey, cif_f q])))
        rw [e9, if_neg (by omega), e1, cif_t hc] at hQ
        rw [ey, cif_t ((ce_h hg ho hh (by decide) (by decide)).mpr hc)]
        exact hQ
      · refine wp_iload_n dX0_kicked_27 rfl ?_
        refine wp_gotoN 32 dX0_kicked_28 (by decide) ?_
        refine wp_iret dX0_kicked_32 (Or.inl rfl) ?_
        have ey : sdY 2 = 1 := by decide
        have e1 : l - 1 = 1 := by omega
        have hc : ¬ opn g (tgt g c 1) := fun q => by
          have h24 := Classical.not_not.mp h24
          rw [ey, cif_t ((ce_h hg ho hh (by decide) (by decide)).mpr q)] at h24
          have := q.1
          omega
        rw [e9, if_neg (by omega), e1, cif_f hc] at hQ
        exact hQ
    · refine wp_iconst dX0_kicked_13 (by decide) ?_
      refine wp_gotoN 18 dX0_kicked_14 (by decide) ?_
      refine wp_V2 dX0_kicked_18 vlX0_102 (by decide) rfl (Nat.le_of_ble_eq_true rfl) ?_
      refine s0_goneTo hp (by decide) (by decide) ?_
      refine wp_istN (L' := [some (vr _), some (vi _), some (vi _), some (vi _)]) dX0_kicked_21 (Nat.le_of_ble_eq_true rfl) rfl ?_
      refine wp_iload_n dX0_kicked_22 rfl ?_
      refine wp_iconst dX0_kicked_23 (by decide) ?_
      refine wp_ic_ne 31 dX0_kicked_24 (by decide) (fun h24 => ?_) (fun h24 => ?_)
      · refine wp_iload_n dX0_kicked_31 rfl ?_
        refine wp_iret dX0_kicked_32 (Or.inl rfl) ?_
        have ey : sdY 1 = 0 := by decide
        have e1 : l - 1 = 0 := by omega
        have hc : opn g (tgt g c 0) := (ce_h hg ho hh (by decide) (by decide)).mp (Classical.byContradiction (fun q => h24 (by rw [ey, cif_f q])))
        rw [e9, if_neg (by omega), e1, cif_t hc] at hQ
        rw [ey, cif_t ((ce_h hg ho hh (by decide) (by decide)).mpr hc)]
        exact hQ
      · refine wp_iload_n dX0_kicked_27 rfl ?_
        refine wp_gotoN 32 dX0_kicked_28 (by decide) ?_
        refine wp_iret dX0_kicked_32 (Or.inl rfl) ?_
        have ey : sdY 1 = 0 := by decide
        have e1 : l - 1 = 0 := by omega
        have hc : ¬ opn g (tgt g c 0) := fun q => by
          have h24 := Classical.not_not.mp h24
          rw [ey, cif_t ((ce_h hg ho hh (by decide) (by decide)).mpr q)] at h24
          have := q.1
          omega
        rw [e9, if_neg (by omega), e1, cif_f hc] at hQ
        exact hQ
  · refine wp_iload_n dX0_kicked_4 rfl ?_
    refine wp_iret dX0_kicked_5 (Or.inl rfl) ?_
    rw [e9, if_pos (by omega), cif_t ho] at hQ
    exact hQ
