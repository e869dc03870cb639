theorem CI.fw {σ σ' : aS} {z : aZ} (h : CI σ z) (f : FrQ wA wB σ σ') (w : WY σ' (Gz z)) : CI σ' z := by
  refine ⟨h.1.fr (fun c k hc => f.1 c k (fun q => by omega)), ?_, ?_, h.pl.w f, w⟩
  · rw [f.1 13 0 (fun q => absurd q (by decide))]; exact h.2.1
  · rw [f.1 13 1 (fun q => absurd q (by decide))]; exact h.2.2.1
theorem CI.wy {σ : aS} {z : aZ} (h : CI σ z) : WY σ (Gz z) := h.2.2.2.2
theorem wA_y : ∀ c k : Nat, 18 ≤ c → ¬ wA c k := fun c k h q => by omega
theorem btv_w {g : aG} {a b : Int} (ha : 0 ≤ a ∧ a ≤ ggn g - 1) (hb : 0 ≤ b ∧ b ≤ ggn g - 1) : btv g a b = wayv g a b := by unfold btv; rw [if_pos ⟨ha, hb⟩]
set_option maxRecDepth 20000 in
theorem p3_way {d : Nat} {σ : aS} {Q : aQ} {a b : Int} {z : aZ} (hc : CI σ z) (hz : ZV z) (hQ : ∀ σ', Fry σ σ' → CI σ' z → Q (some (vi (vWay z a b))) σ') : aCall 34 (d + 6) mX3_way [vr 0, vi a, vi b] σ Q := by
  refine cl_in (own := RX3) (cc := cX3_way) (rk := 0) (L := [some (vr 0), some (vi a), some (vi b)]) rfl rfl rfl rfl (by decide) (Nat.le_of_ble_eq_true rfl) ?_
  have hp := hc.pl
  have hn := hp.n
  have hy : Fry σ σ := Fry.rf
  refine wp_aload_n dX3_way_0 rfl ?_
  refine wp_getR dX3_way_1 flX3_39 (by decide) rfl rfl ?_
  refine wp_iload_n dX3_way_4 rfl ?_
  refine wp_V1 dX3_way_5 vlX3_61 (by decide) rfl (Nat.le_of_ble_eq_true rfl) ?_
  refine s0_isCell hp ?_
  refine wp_ifB_eq 22 dX3_way_8 (by decide) (fun hh8 => ?_) (fun hh8 => ?_)
  · refine wp_bipush dX3_way_22 (by decide) ?_
    refine wp_iret dX3_way_24 (Or.inl rfl) ?_
    exact q_i (by unfold vWay; rw [if_neg (by omega)]) (hQ σ hy hc)
  · refine wp_aload_n dX3_way_11 rfl ?_
    refine wp_getR dX3_way_12 flX3_39 (by decide) rfl rfl ?_
    refine wp_iload_n dX3_way_15 rfl ?_
    refine wp_V1 dX3_way_16 vlX3_61 (by decide) rfl (Nat.le_of_ble_eq_true rfl) ?_
    refine s0_isCell hp ?_
    refine wp_ifB_ne 25 dX3_way_19 (by decide) (fun hh19 => ?_) (fun hh19 => ?_)
    · refine wp_aload_n dX3_way_25 rfl ?_
      refine wp_getR dX3_way_26 flX3_48 (by decide) rfl rfl ?_
      refine wp_iload_n dX3_way_29 rfl ?_
      refine wp_iload_n dX3_way_30 rfl ?_
      refine wp_V2 dX3_way_31 vlX3_125 (by decide) rfl (Nat.le_of_ble_eq_true rfl) ?_
      refine s2_between hc.pl hc.wy (fun σ2 f2 w2 => ?_)
      have hc := hc.fw f2 w2
      have hy := hy.tr (f2.y wA_y)
      refine wp_iret dX3_way_34 (Or.inl rfl) ?_
      exact q_i (by unfold vWay; rw [if_pos (by omega), btv_w (by omega) (by omega)]) (hQ σ2 hy hc)
    · refine wp_bipush dX3_way_22 (by decide) ?_
      refine wp_iret dX3_way_24 (Or.inl rfl) ?_
      exact q_i (by unfold vWay; rw [if_neg (by omega)]) (hQ σ hy hc)
set_option maxRecDepth 20000 in
theorem p3_race {d : Nat} {σ : aS} {Q : aQ} {a b t : Int} {z : aZ} (hc : CI σ z) (hz : ZV z) (hQ : ∀ σ', Fry σ σ' → CI σ' z → Q (some (vi (vRace z a b t))) σ') : aCall 34 (d + 6) mX3_race [vr 0, vi a, vi b, vi t] σ Q := by
  refine cl_in (own := RX3) (cc := cX3_race) (rk := 0) (L := [some (vr 0), some (vi a), some (vi b), some (vi t), none, none]) rfl rfl rfl rfl (by decide) (Nat.le_of_ble_eq_true rfl) ?_
  have hp := hc.pl
  have hn := hp.n
  have hy : Fry σ σ := Fry.rf
  refine wp_aload_n dX3_race_0 rfl ?_
  refine wp_getR dX3_race_1 flX3_39 (by decide) rfl rfl ?_
  refine wp_iload_n dX3_race_4 rfl ?_
  refine wp_V1 dX3_race_5 vlX3_61 (by decide) rfl (Nat.le_of_ble_eq_true rfl) ?_
  refine s0_isCell hp ?_
  refine wp_ifB_eq 33 dX3_race_8 (by decide) (fun hh8 => ?_) (fun hh8 => ?_)
  · refine wp_bipush dX3_race_33 (by decide) ?_
    refine wp_iret dX3_race_35 (Or.inl rfl) ?_
    exact q_i (by unfold vRace; rw [if_neg (by omega)]) (hQ σ hy hc)
  · refine wp_aload_n dX3_race_11 rfl ?_
    refine wp_getR dX3_race_12 flX3_39 (by decide) rfl rfl ?_
    refine wp_iload_n dX3_race_15 rfl ?_
    refine wp_V1 dX3_race_16 vlX3_61 (by decide) rfl (Nat.le_of_ble_eq_true rfl) ?_
    refine s0_isCell hp ?_
    refine wp_ifB_eq 33 dX3_race_19 (by decide) (fun hh19 => ?_) (fun hh19 => ?_)
    · refine wp_bipush dX3_race_33 (by decide) ?_
      refine wp_iret dX3_race_35 (Or.inl rfl) ?_
      exact q_i (by unfold vRace; rw [if_neg (by omega)]) (hQ σ hy hc)
    · refine wp_aload_n dX3_race_22 rfl ?_
      refine wp_getR dX3_race_23 flX3_39 (by decide) rfl rfl ?_
      refine wp_iload_n dX3_race_26 rfl ?_
      refine wp_V1 dX3_race_27 vlX3_61 (by decide) rfl (Nat.le_of_ble_eq_true rfl) ?_
      refine s0_isCell hp ?_
      refine wp_ifB_ne 36 dX3_race_30 (by decide) (fun hh30 => ?_) (fun hh30 => ?_)
      · refine wp_aload_n dX3_race_36 rfl ?_
        refine wp_getR dX3_race_37 flX3_48 (by decide) rfl rfl ?_
        refine wp_iload_n dX3_race_40 rfl ?_
        refine wp_iload_n dX3_race_41 rfl ?_
        refine wp_V2 dX3_race_42 vlX3_125 (by decide) rfl (Nat.le_of_ble_eq_true rfl) ?_
        refine s2_between hc.pl hc.wy (fun σ2 f2 w2 => ?_)
        have hc := hc.fw f2 w2
        have hy := hy.tr (f2.y wA_y)
        rw [btv_w (by omega) (by omega)]
        refine wp_ist (L' := [some (vr _), some (vi _), some (vi _), some (vi _), some (vi _), none]) dX3_race_45 (Nat.le_of_ble_eq_true rfl) rfl ?_
        refine wp_aload_n dX3_race_47 rfl ?_
        refine wp_getR dX3_race_48 flX3_48 (by decide) rfl rfl ?_
        refine wp_iload_n dX3_race_51 rfl ?_
        refine wp_iload_n dX3_race_52 rfl ?_
        refine wp_V2 dX3_race_53 vlX3_125 (by decide) rfl (Nat.le_of_ble_eq_true rfl) ?_
        refine s2_between hc.pl hc.wy (fun σ2 f2 w2 => ?_)
        have hc := hc.fw f2 w2
        have hy := hy.tr (f2.y wA_y)
        rw [btv_w (by omega) (by omega)]
        refine wp_ist (L' := [some (vr _), some (vi _), some (vi _), some (vi _), some (vi _), some (vi _)]) dX3_race_56 (Nat.le_of_ble_eq_true rfl) rfl ?_
        refine wp_iload dX3_race_58 rfl ?_
        refine wp_iload dX3_race_60 rfl ?_
        refine wp_ic_ne 77 dX3_race_62 (by decide) (fun hh62 => ?_) (fun hh62 => ?_)
        · refine wp_iload dX3_race_77 rfl ?_
          refine wp_iconst dX3_race_79 (by decide) ?_
          refine wp_ic_ne 85 dX3_race_80 (by decide) (fun hh80 => ?_) (fun hh80 => ?_)
          · refine wp_iload dX3_race_85 rfl ?_
            refine wp_iconst dX3_race_87 (by decide) ?_
            refine wp_ic_ne 93 dX3_race_88 (by decide) (fun hh88 => ?_) (fun hh88 => ?_)
            · refine wp_iload dX3_race_93 rfl ?_
              refine wp_iload dX3_race_95 rfl ?_
              refine wp_ic_ge 104 dX3_race_97 (by decide) (fun hh97 => ?_) (fun hh97 => ?_)
              · refine wp_iconst dX3_race_104 (by decide) ?_
                refine wp_iret dX3_race_105 (Or.inl rfl) ?_
                refine q_i ?_ (hQ _ hy hc)
                unfold vRace rcv
                rw [if_pos (by omega)]
                repeat (first | rw [if_pos (by omega)] | rw [if_neg (by omega)])
              · refine wp_iconst dX3_race_100 (by decide) ?_
                refine wp_gotoN 105 dX3_race_101 (by decide) ?_
                refine wp_iret dX3_race_105 (Or.inl rfl) ?_
                refine q_i ?_ (hQ _ hy hc)
                unfold vRace rcv
                rw [if_pos (by omega)]
                repeat (first | rw [if_pos (by omega)] | rw [if_neg (by omega)])
            · refine wp_iconst dX3_race_91 (by decide) ?_
              refine wp_iret dX3_race_92 (Or.inl rfl) ?_
              refine q_i ?_ (hQ _ hy hc)
              unfold vRace rcv
              rw [if_pos (by omega)]
              repeat (first | rw [if_pos (by omega)] | rw [if_neg (by omega)])
          · refine wp_iconst dX3_race_83 (by decide) ?_
            refine wp_iret dX3_race_84 (Or.inl rfl) ?_
            refine q_i ?_ (hQ _ hy hc)
            unfold vRace rcv
            rw [if_pos (by omega)]
            repeat (first | rw [if_pos (by omega)] | rw [if_neg (by omega)])
        · refine wp_iload dX3_race_65 rfl ?_
          refine wp_iconst dX3_race_67 (by decide) ?_
          refine wp_ic_ne 75 dX3_race_68 (by decide) (fun hh68 => ?_) (fun hh68 => ?_)
          · refine wp_iconst dX3_race_75 (by decide) ?_
            refine wp_iret dX3_race_76 (Or.inl rfl) ?_
            refine q_i ?_ (hQ _ hy hc)
            unfold vRace rcv
            rw [if_pos (by omega)]
            repeat (first | rw [if_pos (by omega)] | rw [if_neg (by omega)])
          · refine wp_iconst dX3_race_71 (by decide) ?_
            refine wp_gotoN 76 dX3_race_72 (by decide) ?_
            refine wp_iret dX3_race_76 (Or.inl rfl) ?_
            refine q_i ?_ (hQ _ hy hc)
            unfold vRace rcv
            rw [if_pos (by omega)]
            repeat (first | rw [if_pos (by omega)] | rw [if_neg (by omega)])
      · refine wp_bipush dX3_race_33 (by decide) ?_
        refine wp_iret dX3_race_35 (Or.inl rfl) ?_
        exact q_i (by unfold vRace; rw [if_neg (by omega)]) (hQ σ hy hc)
noncomputable def nxS (g : aG) (a b : Int) : Nat → Int → Int
  | 0, _ => -1
  | r + 1, s => cif (nxP g a b (sdY s)) (tgt g a (sdY s)) (nxS g a b r (s + 1))
theorem nxP_o {g : aG} (hg : GV g) {a b y : Int} (h : nxP g a b y) : opn g a ∧ opn g (tgt g a y) := ⟨(cst_ok hg h.1).2.1, (cst_ok hg h.1).2.2⟩
theorem nx_4 {g : aG} (hg : GV g) {a b : Int} : nxS g a b 4 0 = nxN g a b 4 := by
  have e0 : nxS g a b 4 0 = cif (nxP g a b 2) (tgt g a 2) (cif (nxP g a b 0) (tgt g a 0) (cif (nxP g a b 1) (tgt g a 1) (cif (nxP g a b 3) (tgt g a 3) (-1)))) := rfl
  have e1 : nxN g a b 1 = cif (nxP g a b 0) (tgt g a 0) (-1) := by
    show cif (nxP g a b 0 ∧ ((-1 : Int) = -1 ∨ tgt g a 0 < -1)) (tgt g a 0) (-1) = _
    by_cases h : nxP g a b 0
    · rw [cif_t h, cif_t ⟨h, Or.inl rfl⟩]
    · rw [cif_f h, cif_f (fun q => h q.1)]
  have e2 : nxN g a b 2 = cif (nxP g a b 1 ∧ (nxN g a b 1 = -1 ∨ tgt g a 1 < nxN g a b 1)) (tgt g a 1) (nxN g a b 1) := rfl
  have e3 : nxN g a b 3 = cif (nxP g a b 2 ∧ (nxN g a b 2 = -1 ∨ tgt g a 2 < nxN g a b 2)) (tgt g a 2) (nxN g a b 2) := rfl
  have e4 : nxN g a b 4 = cif (nxP g a b 3 ∧ (nxN g a b 3 = -1 ∨ tgt g a 3 < nxN g a b 3)) (tgt g a 3) (nxN g a b 3) := rfl
  rw [e0]
  have f0 : nxP g a b 0 → tgt g a 0 = a - 1 ∧ 0 ≤ a - 1 ∧ 2 ≤ ggw g := fun h => by
    have ho := nxP_o hg h
    have hw := opn_w hg ho.1
    have hq := ho.2.1
    rw [tgt_0] at hq ⊢
    by_cases e : a % ggw g > 0
    · rw [if_pos e] at hq ⊢; exact ⟨rfl, hq, ((md_b hw.2.2.2.1 hw.2.2.2.2).1 e).2⟩
    · rw [if_neg e] at hq; omega
  have f1 : nxP g a b 1 → tgt g a 1 = a + 1 ∧ 0 ≤ a + 1 ∧ 2 ≤ ggw g := fun h => by
    have ho := nxP_o hg h
    have hw := opn_w hg ho.1
    have hq := ho.2.1
    rw [tgt_1] at hq ⊢
    by_cases e : a % ggw g < ggw g - 1
    · rw [if_pos e] at hq ⊢; exact ⟨rfl, hq, ((md_b hw.2.2.2.1 hw.2.2.2.2).2 e).2⟩
    · rw [if_neg e] at hq; omega
  have f2 : nxP g a b 2 → tgt g a 2 = a - ggw g ∧ 0 ≤ a - ggw g ∧ 1 ≤ ggw g := fun h => by
    have ho := nxP_o hg h
    have hw := opn_w hg ho.1
    have hq := ho.2.1
    rw [tgt_2] at hq ⊢
    exact ⟨rfl, hq, hw.2.2.2.1⟩
  have f3 : nxP g a b 3 → tgt g a 3 = a + ggw g ∧ 0 ≤ a + ggw g ∧ 1 ≤ ggw g := fun h => by
    have ho := nxP_o hg h
    have hw := opn_w hg ho.1
    have hq := ho.2.1
    rw [tgt_3] at hq ⊢
    exact ⟨rfl, hq, hw.2.2.2.1⟩
  by_cases h0 : nxP g a b 0
  · have q0 := f0 h0
    rw [cif_t h0] at e1 ⊢
    have e2 : nxN g a b 2 = tgt g a 0 := by
      rw [e2]
      by_cases h1 : nxP g a b 1
      · have q1 := f1 h1; rw [cif_f (fun q => by omega)]; exact e1
      · rw [cif_f (fun q => h1 q.1)]; exact e1
    by_cases h2 : nxP g a b 2
    · have q2 := f2 h2
      rw [cif_t h2]
      rw [cif_t ⟨h2, by omega⟩] at e3
      by_cases h3 : nxP g a b 3
      · have q3 := f3 h3; rw [e4, cif_f (fun q => by omega)]; omega
      · rw [e4, cif_f (fun q => h3 q.1)]; omega
    · rw [cif_f h2]
      rw [cif_f (fun q => h2 q.1)] at e3
      by_cases h3 : nxP g a b 3
      · have q3 := f3 h3; rw [e4, cif_f (fun q => by omega)]; omega
      · rw [e4, cif_f (fun q => h3 q.1)]; omega
  · rw [cif_f h0] at e1 ⊢
    by_cases h1 : nxP g a b 1
    · have q1 := f1 h1
      rw [cif_t h1]
      rw [cif_t ⟨h1, by omega⟩] at e2
      by_cases h2 : nxP g a b 2
      · have q2 := f2 h2
        rw [cif_t h2]
        rw [cif_t ⟨h2, by omega⟩] at e3
        by_cases h3 : nxP g a b 3
        · have q3 := f3 h3; rw [e4, cif_f (fun q => by omega)]; omega
        · rw [e4, cif_f (fun q => h3 q.1)]; omega
      · rw [cif_f h2]
        rw [cif_f (fun q => h2 q.1)] at e3
        by_cases h3 : nxP g a b 3
        · have q3 := f3 h3; rw [e4, cif_f (fun q => by omega)]; omega
        · rw [e4, cif_f (fun q => h3 q.1)]; omega
    · rw [cif_f h1]
      rw [cif_f (fun q => h1 q.1)] at e2
      by_cases h2 : nxP g a b 2
      · have q2 := f2 h2
        rw [cif_t h2]
        rw [cif_t ⟨h2, by omega⟩] at e3
        by_cases h3 : nxP g a b 3
        · have q3 := f3 h3; rw [e4, cif_f (fun q => by omega)]; omega
        · rw [e4, cif_f (fun q => h3 q.1)]; omega
      · rw [cif_f h2]
        rw [cif_f (fun q => h2 q.1)] at e3
        by_cases h3 : nxP g a b 3
        · have q3 := f3 h3; rw [cif_t h3, e4, cif_t ⟨h3, by omega⟩]
        · rw [cif_f h3, e4, cif_f (fun q => h3 q.1)]; omega
theorem wayv_in {g : aG} (hg : GV g) {a b : Int} : -1 ≤ wayv g a b ∧ wayv g a b ≤ 340 := by
  by_cases h : ∃ v, IsWay g a b v
  · obtain ⟨v, hv⟩ := h
    rw [wayv_is hv]
    obtain ⟨j, h1, h2, h3, h4⟩ := hv.1.small hg
    have := hv.2 j h1
    omega
  · unfold wayv
    rw [cif_f h]; omega
theorem way_has {g : aG} (hg : GV g) {a b : Int} : ∀ (n : Nat) (k : Int), k ≤ n → Pth g b a k → ∃ v, IsWay g a b v := by
  intro n
  induction n with
  | zero =>
    intro k hk hp
    refine ⟨k, hp, fun j hj => ?_⟩
    obtain ⟨i, h1, h2, h3, h4⟩ := hj.small hg
    omega
  | succ n ih =>
    intro k hk hp
    by_cases h : ∃ j, Pth g b a j ∧ j < k
    · obtain ⟨j, hj, hl⟩ := h
      exact ih j (by omega) hj
    · exact ⟨k, hp, fun j hj => Classical.byContradiction (fun q => h ⟨j, hj, by omega⟩)⟩
theorem way_iff {g : aG} (hg : GV g) {a b : Int} : wayv g a b ≠ -1 ↔ ∃ k, Pth g b a k := by
  constructor
  · intro h
    refine Classical.byContradiction (fun q => h (wayv_no q))
  · rintro ⟨k, hk⟩
    obtain ⟨v, hv⟩ := way_has hg k.toNat k (by omega) hk
    rw [wayv_is hv]
    obtain ⟨i, h1, h2, h3, h4⟩ := hv.1.small hg
    have := hv.2 i h1
    have h0 : 0 ≤ v := by
      obtain ⟨r, p, t, k1, k2, k3, k4⟩ := hv.1.pn
      have := k1.le hg
      omega
    omega
theorem way_rch {g : aG} (hg : GV g) {a b : Int} : wayv g a b ≠ -1 ↔ Rch (ceE g) g (one g a) b := by
  rw [way_iff hg]
  constructor
  · rintro ⟨k, hk⟩
    have h1 : Rch (ceE g) g (one g a) a → Rch (ceE g) g (one g a) b := hk (fun x _ => Rch (ceE g) g (one g a) x → Rch (ceE g) g (one g a) b) (fun _ q => q) (fun x y j y0 y4 hc q w => q (w.go y0 y4 hc))
    have h2 : opn g a := hk (fun x _ => opn g x) (fun q => q) (fun x y j _ _ hc _ => (cst_ok hg hc).2.1)
    exact h1 (Rch.of ⟨rfl, h2⟩)
  · intro h
    refine h (fun x => ∃ k, Pth g x a k) (fun x hx => ?_) (fun x y y0 y4 hx hc => ?_)
    · obtain ⟨e, ho⟩ := hx
      subst e
      exact ⟨0, Pth.z ho⟩
    · obtain ⟨k, hk⟩ := hx
      exact ⟨_, hk.app hg y0 y4 hc⟩
set_option maxRecDepth 20000 in
theorem l3_next {d : Nat} {σ0 : aS} {Q : aQ} {z : aZ} (hz : ZV z) {a b : Int} (ha : 0 ≤ a ∧ a ≤ ggn (Gz z) - 1) (hb : 0 ≤ b ∧ b ≤ ggn (Gz z) - 1) : ∀ (r : Nat) (s : Nat) (σ : aS) (x5 x6 : Option aV), s + r = 4 → CI σ z → Fry σ0 σ → (∀ σ', Fry σ0 σ' → CI σ' z → Q (some (vi (nxS (Gz z) a b r s))) σ') → Wp RX3 cX3_next 34 (aCall 34 (d + 5)) Q 0 false 0 (fun _ => 0) 49 [some (vr 0), some (vi a), some (vi b), some (vi (wayv (Gz z) a b)), some (vi (s : Int)), x5, x6] [] σ := by
  intro r
  induction r with
  | zero =>
    intro s σ x5 x6 hs hc hy hQ
    refine wp_iload dX3_next_49 rfl ?_
    refine wp_iconst dX3_next_51 (by decide) ?_
    refine wp_ic_ge 115 dX3_next_52 (by decide) (fun hh52 => ?_) (fun hh52 => ?_)
    · refine wp_iconst dX3_next_115 (by decide) ?_
      refine wp_iret dX3_next_116 (Or.inl rfl) ?_
      exact hQ σ hy hc
    · exfalso; omega
  | succ r ih =>
    intro s σ x5 x6 hs hc hy hQ
    have hp := hc.pl
    have hg := hp.gv
    have hn := hp.n
    obtain ⟨h1, h2, h3, h4, h5, h6, h7, h8, h9, h10⟩ := id hc.1
    have t9 : 0 ≤ ggt (Gz z) ∧ ggt (Gz z) ≤ 9 := ⟨hg.2.2.2.2.2.1, hg.2.2.2.2.2.2.1⟩
    have t8 : ggt (Gz z) = zt z := rfl
    unfold nxS at hQ
    refine wp_iload dX3_next_49 rfl ?_
    refine wp_iconst dX3_next_51 (by decide) ?_
    refine wp_ic_ge 115 dX3_next_52 (by decide) (fun hh52 => ?_) (fun hh52 => ?_)
    · exfalso; omega
    · refine wp_aload_n dX3_next_55 rfl ?_
      refine wp_getR dX3_next_56 flX3_39 (by decide) rfl rfl ?_
      refine wp_iload_n dX3_next_59 rfl ?_
      refine wp_iload dX3_next_60 rfl ?_
      refine wp_V2 dX3_next_62 vlX3_128 (by decide) rfl (Nat.le_of_ble_eq_true rfl) ?_
      refine s0_goneTo hp (by omega) (by omega) ?_
      refine wp_ist (L' := [some (vr _), some (vi _), some (vi _), some (vi _), some (vi _), some (vi _), _]) dX3_next_65 (Nat.le_of_ble_eq_true rfl) rfl ?_
      refine wp_aload_n dX3_next_67 rfl ?_
      refine wp_getR dX3_next_68 flX3_48 (by decide) rfl rfl ?_
      refine wp_iload dX3_next_71 rfl ?_
      refine wp_iload_n dX3_next_73 rfl ?_
      refine wp_V2 dX3_next_74 vlX3_125 (by decide) rfl (Nat.le_of_ble_eq_true rfl) ?_
      refine s2_between hc.pl hc.wy (fun σ2 f2 w2 => ?_)
      have hc := hc.fw f2 w2
      have hy := hy.tr (f2.y wA_y)
      refine wp_ist (L' := [some (vr _), some (vi _), some (vi _), some (vi _), some (vi _), some (vi _), some (vi _)]) dX3_next_77 (Nat.le_of_ble_eq_true rfl) rfl ?_
      refine wp_iload dX3_next_79 rfl ?_
      refine wp_iconst dX3_next_81 (by decide) ?_
      refine wp_ic_eq 109 dX3_next_82 (by decide) (fun hh82 => ?_) (fun hh82 => ?_)
      · refine wp_iincN (L' := [some (vr _), some (vi _), some (vi _), some (vi _), some (vi _), some (vi _), some (vi _)]) dX3_next_109 rfl (by omega) rfl ?_
        refine wp_gotoN 49 dX3_next_112 (by decide) ?_
        have hne : ¬ nxP (Gz z) a b (sdY s) := fun q => by
          have ho := opn_w hg (nxP_o hg q).2
          have q2 := q.2.1
          rw [cif_t (show ceE (Gz z) a (sdY s) from q.1), btv_w (by omega) (by omega)] at hh82
          exact q2 hh82
        rw [cif_f hne] at hQ
        exact ih (s + 1) _ _ _ (by omega) hc hy hQ
      · have he : ceE (Gz z) a (sdY s) := Classical.byContradiction (fun q => hh82 (by rw [cif_f q]; unfold btv; rw [if_neg (by omega)]))
        have ho := opn_w hg (ceE_o hg he).2
        rw [cif_t he, btv_w (by omega) (by omega)] at hh82 ⊢
        have hp := hc.pl
        have h42 := hc.1.2.2.2.1
        have wb := wayv_in hg (a := tgt (Gz z) a (sdY s)) (b := b)
        refine wp_aload_n dX3_next_85 rfl ?_
        refine wp_getR dX3_next_86 flX3_39 (by decide) rfl rfl ?_
        refine wp_iload_n dX3_next_89 rfl ?_
        refine wp_iload dX3_next_90 rfl ?_
        refine wp_aload_n dX3_next_92 rfl ?_
        refine wp_getI dX3_next_93 flX3_17 (by decide) rfl (Or.inl rfl) ?_
        refine wp_V3 dX3_next_96 vlX3_131 (by decide) rfl (Nat.le_of_ble_eq_true rfl) ?_
        refine s0_moveSteps hp (by omega) (by omega) (by omega) (by omega) (by omega) (fun mv hmv m1 m10 => ?_)
        refine wp_iload dX3_next_99 rfl ?_
        refine wp_iaddN dX3_next_101 (by omega) ?_
        refine wp_iload_n dX3_next_102 rfl ?_
        refine wp_ic_ne 109 dX3_next_103 (by decide) (fun hh103 => ?_) (fun hh103 => ?_)
        · refine wp_iincN (L' := [some (vr _), some (vi _), some (vi _), some (vi _), some (vi _), some (vi _), some (vi _)]) dX3_next_109 rfl (by omega) rfl ?_
          refine wp_gotoN 49 dX3_next_112 (by decide) ?_
          have hne : ¬ nxP (Gz z) a b (sdY s) := fun q => hh103 (by have := hmv he; have := q.2.2; omega)
          rw [cif_f hne] at hQ
          exact ih (s + 1) _ _ _ (by omega) hc hy hQ
        · refine wp_iload dX3_next_106 rfl ?_
          refine wp_iret dX3_next_108 (Or.inl rfl) ?_
          have hx : nxP (Gz z) a b (sdY s) := ⟨he, hh82, by have := hmv he; omega⟩
          rw [cif_t hx] at hQ
          exact hQ σ2 hy hc
set_option maxRecDepth 20000 in
theorem p3_next {d : Nat} {σ : aS} {Q : aQ} {a b : Int} {z : aZ} (hc : CI σ z) (hz : ZV z) (hQ : ∀ σ', Fry σ σ' → CI σ' z → Q (some (vi (vNext z a b))) σ') : aCall 34 (d + 6) mX3_next [vr 0, vi a, vi b] σ Q := by
  refine cl_in (own := RX3) (cc := cX3_next) (rk := 0) (L := [some (vr 0), some (vi a), some (vi b), none, none, none, none]) rfl rfl rfl rfl (by decide) (Nat.le_of_ble_eq_true rfl) ?_
  have hp := hc.pl
  have hn := hp.n
  have hy : Fry σ σ := Fry.rf
  have hg := hp.gv
  have wb := wayv_in hg (a := a) (b := b)
  refine wp_aload_n dX3_next_0 rfl ?_
  refine wp_getR dX3_next_1 flX3_39 (by decide) rfl rfl ?_
  refine wp_iload_n dX3_next_4 rfl ?_
  refine wp_V1 dX3_next_5 vlX3_61 (by decide) rfl (Nat.le_of_ble_eq_true rfl) ?_
  refine s0_isCell hp ?_
  refine wp_ifB_eq 22 dX3_next_8 (by decide) (fun hh8 => ?_) (fun hh8 => ?_)
  · refine wp_bipush dX3_next_22 (by decide) ?_
    refine wp_iret dX3_next_24 (Or.inl rfl) ?_
    exact q_i (by unfold vNext; rw [if_neg (by omega)]) (hQ σ hy hc)
  · refine wp_aload_n dX3_next_11 rfl ?_
    refine wp_getR dX3_next_12 flX3_39 (by decide) rfl rfl ?_
    refine wp_iload_n dX3_next_15 rfl ?_
    refine wp_V1 dX3_next_16 vlX3_61 (by decide) rfl (Nat.le_of_ble_eq_true rfl) ?_
    refine s0_isCell hp ?_
    refine wp_ifB_ne 25 dX3_next_19 (by decide) (fun hh19 => ?_) (fun hh19 => ?_)
    · refine wp_aload_n dX3_next_25 rfl ?_
      refine wp_getR dX3_next_26 flX3_48 (by decide) rfl rfl ?_
      refine wp_iload_n dX3_next_29 rfl ?_
      refine wp_iload_n dX3_next_30 rfl ?_
      refine wp_V2 dX3_next_31 vlX3_125 (by decide) rfl (Nat.le_of_ble_eq_true rfl) ?_
      refine s2_between hc.pl hc.wy (fun σ2 f2 w2 => ?_)
      have hc := hc.fw f2 w2
      have hy := hy.tr (f2.y wA_y)
      rw [btv_w (by omega) (by omega)]
      refine wp_istN (L' := [some (vr _), some (vi _), some (vi _), some (vi _), none, none, none]) dX3_next_34 (Nat.le_of_ble_eq_true rfl) rfl ?_
      refine wp_iload_n dX3_next_35 rfl ?_
      refine wp_iconst dX3_next_36 (by decide) ?_
      refine wp_ic_eq 44 dX3_next_37 (by decide) (fun hh37 => ?_) (fun hh37 => ?_)
      · refine wp_iconst dX3_next_44 (by decide) ?_
        refine wp_iret dX3_next_45 (Or.inl rfl) ?_
        exact q_i (by unfold vNext nxv; rw [if_pos (by omega), if_neg (by omega)]) (hQ σ2 hy hc)
      · refine wp_iload_n dX3_next_40 rfl ?_
        refine wp_if_ne 46 dX3_next_41 (by decide) (fun hh41 => ?_) (fun hh41 => ?_)
        · refine wp_iconst dX3_next_46 (by decide) ?_
          refine wp_ist (L' := [some (vr _), some (vi _), some (vi _), some (vi _), some (vi _), none, none]) dX3_next_47 (Nat.le_of_ble_eq_true rfl) rfl ?_
          have e : vNext z a b = nxS (Gz z) a b 4 0 := by unfold vNext nxv; rw [if_pos (by omega), if_pos (by omega), nx_4 hg]
          rw [e] at hQ
          exact l3_next hz (by omega) (by omega) 4 0 σ2 _ _ (by omega) hc hy hQ
        · refine wp_iconst dX3_next_44 (by decide) ?_
          refine wp_iret dX3_next_45 (Or.inl rfl) ?_
          exact q_i (by unfold vNext nxv; rw [if_pos (by omega), if_neg (by omega)]) (hQ σ2 hy hc)
    · refine wp_bipush dX3_next_22 (by decide) ?_
      refine wp_iret dX3_next_24 (Or.inl rfl) ?_
      exact q_i (by unfold vNext; rw [if_neg (by omega)]) (hQ σ hy hc)
set_option maxRecDepth 20000 in
theorem l3_reach {d : Nat} {σ0 : aS} {Q : aQ} {z : aZ} (hz : ZV z) {a : Int} (ha : 0 ≤ a ∧ a ≤ ggn (Gz z) - 1) (hQ : ∀ σ', Fry σ0 σ' → CI σ' z → Q (some (vi (rhv (Gz z) a))) σ') : ∀ (r : Nat) (k : Nat) (b : Int) (σ : aS), k + r = (ggn (Gz z)).toNat → b = cnt (fun c => Rch (ceE (Gz z)) (Gz z) (one (Gz z) a) c) k → CI σ z → Fry σ0 σ → Wp RX3 cX3_reach 34 (aCall 34 (d + 5)) Q 0 false 0 (fun _ => 0) 18 [some (vr 0), some (vi a), some (vi b), some (vi (k : Int))] [] σ := by
  intro r
  induction r with
  | zero =>
    intro k b σ hk hb hc hy
    have hp := hc.pl
    have hg := hp.gv
    have hn := hp.n
    have hb2 := cnt_in (fun c => Rch (ceE (Gz z)) (Gz z) (one (Gz z) a) c) k
    refine wp_iload_n dX3_reach_18 rfl ?_
    refine wp_aload_n dX3_reach_19 rfl ?_
    refine wp_getR dX3_reach_20 flX3_39 (by decide) rfl rfl ?_
    refine wp_getI dX3_reach_23 flX3_135 (by decide) rfl (Or.inl rfl) ?_
    refine wp_ic_ge 51 dX3_reach_26 (by decide) (fun hh26 => ?_) (fun hh26 => ?_)
    · refine wp_iload_n dX3_reach_51 rfl ?_
      refine wp_iret dX3_reach_52 (Or.inl rfl) ?_
      exact q_i (by rw [hb, show k = (ggn (Gz z)).toNat by omega]; rfl) (hQ σ hy hc)
    · exfalso; omega
  | succ r ih =>
    intro k b σ hk hb hc hy
    have hp := hc.pl
    have hg := hp.gv
    have hn := hp.n
    have hb2 := cnt_in (fun c => Rch (ceE (Gz z)) (Gz z) (one (Gz z) a) c) k
    refine wp_iload_n dX3_reach_18 rfl ?_
    refine wp_aload_n dX3_reach_19 rfl ?_
    refine wp_getR dX3_reach_20 flX3_39 (by decide) rfl rfl ?_
    refine wp_getI dX3_reach_23 flX3_135 (by decide) rfl (Or.inl rfl) ?_
    refine wp_ic_ge 51 dX3_reach_26 (by decide) (fun hh26 => ?_) (fun hh26 => ?_)
    · exfalso; omega
    · refine wp_aload_n dX3_reach_29 rfl ?_
      refine wp_getR dX3_reach_30 flX3_48 (by decide) rfl rfl ?_
      refine wp_iload_n dX3_reach_33 rfl ?_
      refine wp_iload_n dX3_reach_34 rfl ?_
      refine wp_V2 dX3_reach_35 vlX3_125 (by decide) rfl (Nat.le_of_ble_eq_true rfl) ?_
      refine s2_between hc.pl hc.wy (fun σ2 f2 w2 => ?_)
      have hc := hc.fw f2 w2
      have hy := hy.tr (f2.y wA_y)
      rw [btv_w (by omega) (by omega)]
      refine wp_iconst dX3_reach_38 (by decide) ?_
      refine wp_ic_eq 45 dX3_reach_39 (by decide) (fun hh39 => ?_) (fun hh39 => ?_)
      · refine wp_iincN (L' := [some (vr _), some (vi _), some (vi _), some (vi _)]) dX3_reach_45 rfl (by omega) rfl ?_
        refine wp_gotoN 18 dX3_reach_48 (by decide) ?_
        refine ih (k + 1) _ _ (by omega) ?_ hc hy
        rw [cnt_f (fun q => (way_rch hg).mpr q (by omega)), ← hb]
      · refine wp_iincN (L' := [some (vr _), some (vi _), some (vi _), some (vi _)]) dX3_reach_42 rfl (by omega) rfl ?_
        refine wp_iincN (L' := [some (vr _), some (vi _), some (vi _), some (vi _)]) dX3_reach_45 rfl (by omega) rfl ?_
        refine wp_gotoN 18 dX3_reach_48 (by decide) ?_
        refine ih (k + 1) _ _ (by omega) ?_ hc hy
        rw [cnt_t ((way_rch hg).mp (by omega)), ← hb]
set_option maxRecDepth 20000 in
theorem p3_reach {d : Nat} {σ : aS} {Q : aQ} {a : Int} {z : aZ} (hc : CI σ z) (hz : ZV z) (hQ : ∀ σ', Fry σ σ' → CI σ' z → Q (some (vi (vReach z a))) σ') : aCall 34 (d + 6) mX3_reach [vr 0, vi a] σ Q := by
  refine cl_in (own := RX3) (cc := cX3_reach) (rk := 0) (L := [some (vr 0), some (vi a), none, none]) rfl rfl rfl rfl (by decide) (Nat.le_of_ble_eq_true rfl) ?_
  have hp := hc.pl
  have hn := hp.n
  have hy : Fry σ σ := Fry.rf
  refine wp_aload_n dX3_reach_0 rfl ?_
  refine wp_getR dX3_reach_1 flX3_39 (by decide) rfl rfl ?_
  refine wp_iload_n dX3_reach_4 rfl ?_
  refine wp_V1 dX3_reach_5 vlX3_61 (by decide) rfl (Nat.le_of_ble_eq_true rfl) ?_
  refine s0_isCell hp ?_
  refine wp_ifB_ne 14 dX3_reach_8 (by decide) (fun hh8 => ?_) (fun hh8 => ?_)
  · refine wp_iconst dX3_reach_14 (by decide) ?_
    refine wp_istN (L' := [some (vr _), some (vi _), some (vi _), none]) dX3_reach_15 (Nat.le_of_ble_eq_true rfl) rfl ?_
    refine wp_iconst dX3_reach_16 (by decide) ?_
    refine wp_istN (L' := [some (vr _), some (vi _), some (vi _), some (vi _)]) dX3_reach_17 (Nat.le_of_ble_eq_true rfl) rfl ?_
    have e : vReach z a = rhv (Gz z) a := by unfold vReach; rw [if_pos (by omega)]
    rw [e] at hQ
    exact l3_reach hz (by omega) hQ (ggn (Gz z)).toNat 0 0 σ (by omega) rfl hc hy
  · refine wp_bipush dX3_reach_11 (by decide) ?_
    refine wp_iret dX3_reach_13 (Or.inl rfl) ?_
    exact q_i (by unfold vReach; rw [if_neg (by omega)]) (hQ σ hy hc)
