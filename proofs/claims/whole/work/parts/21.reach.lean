theorem one_in {g : aG} (hg : GV g) {a c : Int} (h : one g a c) : 0 ≤ c ∧ c < ggn g := ⟨(opn_g hg h.2).1, (opn_g hg h.2).2.1⟩
theorem ce_in {g : aG} (hg : GV g) {c : Nat} {y : Int} (h : ceE g c y) : 0 ≤ tgt g c y ∧ tgt g c y < ggn g := ⟨(opn_g hg (cst_ok hg h).2.2).1, (opn_g hg (cst_ok hg h).2.2).2.1⟩
set_option maxRecDepth 20000 in
theorem l4_ry {d : Nat} {σ0 : aS} {Q : aQ} {g : aG} {a : Int} (hg : GV g) (he0 : gOf σ0 = g) {c : Nat} {f0 : Nat → Int} (hc : (c : Int) < ggn g) : ∀ (r : Nat) (y : Nat) (goes : Int) (σ : aS), y + r = 4 → F1 24 σ0 σ → SwI (ceE g) g (one g a) f0 (σ.1 24) goes (ck c y) → (∀ (goes : Int) (y : Int) (σ : aS), F1 24 σ0 σ → SwI (ceE g) g (one g a) f0 (σ.1 24) goes (ck (c + 1) 0) → Wp RX4 cX4_reachOf 34 (aCall 34 (d + 4)) Q 0 false 0 (fun _ => 0) 124 [some (vr 18), some (vi a), some (vi goes), some (vi c), some (vi y)] [] σ) → Wp RX4 cX4_reachOf 34 (aCall 34 (d + 4)) Q 0 false 0 (fun _ => 0) 61 [some (vr 18), some (vi a), some (vi goes), some (vi c), some (vi y)] [] σ := by
  intro r
  induction r with
  | zero =>
    intro y goes σ hy hF hI hK
    have he := hF.g (by decide) he0
    have hn4 := gn_g he
    have hn35 := hg.2.1
    refine wp_iload dX4_reachOf_61 rfl ?_
    refine wp_iconst dX4_reachOf_63 (by decide) ?_
    refine wp_ic_ge 124 dX4_reachOf_64 (by decide) (fun hh64 => ?_) (fun hh64 => ?_)
    · refine hK goes _ σ hF (hI.mono (fun c9 y9 a1 a2 a3 hk h1 q => Or.inl ?_))
      unfold ck at hk ⊢
      omega
    · exact absurd hy (by omega)
  | succ r ih =>
    intro y goes σ hy hF hI hK
    have he := hF.g (by decide) he0
    have hn4 := gn_g he
    have hn35 := hg.2.1
    refine wp_iload dX4_reachOf_61 rfl ?_
    refine wp_iconst dX4_reachOf_63 (by decide) ?_
    refine wp_ic_ge 124 dX4_reachOf_64 (by decide) (fun hh64 => ?_) (fun hh64 => ?_)
    · exact absurd hy (by omega)
    · refine wp_aload_n dX4_reachOf_67 rfl ?_
      refine wp_getR dX4_reachOf_68 flX4_25 (by decide) rfl rfl ?_
      refine wp_iload_n dX4_reachOf_71 rfl ?_
      refine wp_baload dX4_reachOf_72 (by decide) rfl (by omega) (by omega) (by decide) ?_
      refine wp_if_eq 124 dX4_reachOf_73 (by decide) (fun hh73 => ?_) (fun hh73 => ?_)
      · refine hK goes _ σ hF (hI.mono (fun c9 y9 a1 a2 a3 hk h1 q => Or.inl ?_))
        unfold ck at hk ⊢
        by_cases hcc : c9 = c
        · rw [hcc] at h1; rw [Int.toNat_natCast] at hh73; omega
        · omega
      · refine wp_aload_n dX4_reachOf_76 rfl ?_
        refine wp_iload_n dX4_reachOf_77 rfl ?_
        refine wp_iload dX4_reachOf_78 rfl ?_
        refine wp_V2 dX4_reachOf_80 vlX4_143 (by decide) rfl (Nat.le_of_ble_eq_true rfl) ?_
        refine s4_cost_g he hg (by omega) (by omega) ?_
        refine wp_ldc dX4_reachOf_83 klX4_142 ?_
        refine wp_ic_ge 118 dX4_reachOf_85 (by decide) (fun hh85 => ?_) (fun hh85 => ?_)
        · refine wp_iincN (L' := [some (vr _), some (vi _), some (vi _), some (vi _), some (vi _)]) dX4_reachOf_118 rfl (by omega) rfl ?_
          refine wp_gotoN 61 dX4_reachOf_121 (by decide) ?_
          refine ih (y + 1) goes σ (by omega) hF (hI.mono (fun c9 y9 a1 a2 a3 hk h1 q => ?_)) hK
          by_cases hcy : c9 = c ∧ y9 = (y : Int)
          · rw [hcy.1, hcy.2] at q
            exact absurd q (by unfold ceE; omega)
          · left; unfold ck at hk ⊢; omega
        · have hce : ceE g c y := by unfold ceE; omega
          have hto := opn_g hg (cst_ok hg hce).2.2
          refine wp_aload_n dX4_reachOf_88 rfl ?_
          refine wp_getR dX4_reachOf_89 flX4_25 (by decide) rfl rfl ?_
          refine wp_aload_n dX4_reachOf_92 rfl ?_
          refine wp_iload_n dX4_reachOf_93 rfl ?_
          refine wp_iload dX4_reachOf_94 rfl ?_
          refine wp_V2 dX4_reachOf_96 vlX4_139 (by decide) rfl (Nat.le_of_ble_eq_true rfl) ?_
          refine s4_target_g he hg (by omega) (by omega) (by omega) ?_
          refine wp_baload dX4_reachOf_99 (by decide) rfl (by omega) (by omega) (by decide) ?_
          refine wp_if_ne 118 dX4_reachOf_100 (by decide) (fun hh100 => ?_) (fun hh100 => ?_)
          · refine wp_iincN (L' := [some (vr _), some (vi _), some (vi _), some (vi _), some (vi _)]) dX4_reachOf_118 rfl (by omega) rfl ?_
            refine wp_gotoN 61 dX4_reachOf_121 (by decide) ?_
            refine ih (y + 1) goes σ (by omega) hF (hI.mono (fun c9 y9 a1 a2 a3 hk h1 q => ?_)) hK
            by_cases hcy : c9 = c ∧ y9 = (y : Int)
            · right
              rw [hcy.1, hcy.2]
              have := (hI.1 (tgt g c y).toNat (by omega)).1
              omega
            · left; unfold ck at hk ⊢; omega
          · refine wp_aload_n dX4_reachOf_103 rfl ?_
            refine wp_getR dX4_reachOf_104 flX4_25 (by decide) rfl rfl ?_
            refine wp_aload_n dX4_reachOf_107 rfl ?_
            refine wp_iload_n dX4_reachOf_108 rfl ?_
            refine wp_iload dX4_reachOf_109 rfl ?_
            refine wp_V2 dX4_reachOf_111 vlX4_139 (by decide) rfl (Nat.le_of_ble_eq_true rfl) ?_
            refine s4_target_g he hg (by omega) (by omega) (by omega) ?_
            refine wp_iconst dX4_reachOf_114 (by decide) ?_
            refine wp_bastore dX4_reachOf_115 (by decide) rfl (by omega) (by omega) (by decide) (by omega) ?_
            refine wp_iconst dX4_reachOf_116 (by decide) ?_
            refine wp_istN (L' := [some (vr _), some (vi _), some (vi _), some (vi _), some (vi _)]) dX4_reachOf_117 (Nat.le_of_ble_eq_true rfl) rfl ?_
            refine wp_iincN (L' := [some (vr _), some (vi _), some (vi _), some (vi _), some (vi _)]) dX4_reachOf_118 rfl (by omega) rfl ?_
            refine wp_gotoN 61 dX4_reachOf_121 (by decide) ?_
            refine ih (y + 1) 1 _ (by omega) hF.put ?_ hK
            have hw := hI.set (y := (y : Int)) (k' := ck c ((y + 1 : Nat) : Int)) hc (by omega) (by omega) (by rw [Int.toNat_natCast] at hh73; have := (hI.1 c hc).1; omega) hce (by omega) (by have := (hI.1 (tgt g c y).toNat (by omega)).1; omega)
            refine (show (sI σ 24 (tgt g c y).toNat 1).1 24 = (fun j => if j = (tgt g c y).toNat then 1 else σ.1 24 j) from ?_) ▸ hw
            funext j
            rw [sI_at]
            by_cases hj : j = (tgt g c y).toNat
            · rw [if_pos ⟨rfl, hj⟩, if_pos hj]
            · rw [if_neg (fun q => hj q.2), if_neg hj]
set_option maxRecDepth 20000 in
theorem l4_rc {d : Nat} {σ0 : aS} {Q : aQ} {g : aG} {a : Int} (hg : GV g) (he0 : gOf σ0 = g) {f0 : Nat → Int} : ∀ (r : Nat) (c : Nat) (goes : Int) (σ : aS) (u4 : Option aV), c + r = (ggn g).toNat → F1 24 σ0 σ → SwI (ceE g) g (one g a) f0 (σ.1 24) goes (ck c 0) → (∀ (goes cq : Int) (σ : aS) (u4 : Option aV), F1 24 σ0 σ → SwI (ceE g) g (one g a) f0 (σ.1 24) goes (ck (ggn g).toNat 0) → Wp RX4 cX4_reachOf 34 (aCall 34 (d + 4)) Q 0 false 0 (fun _ => 0) 130 [some (vr 18), some (vi a), some (vi goes), some (vi cq), u4] [] σ) → Wp RX4 cX4_reachOf 34 (aCall 34 (d + 4)) Q 0 false 0 (fun _ => 0) 50 [some (vr 18), some (vi a), some (vi goes), some (vi c), u4] [] σ := by
  intro r
  induction r with
  | zero =>
    intro c goes σ u4 hc hF hI hK
    have he := hF.g (by decide) he0
    have hn4 := gn_g he
    have hn35 := hg.2.1
    refine wp_iload_n dX4_reachOf_50 rfl ?_
    refine wp_aload_n dX4_reachOf_51 rfl ?_
    refine wp_getI dX4_reachOf_52 flX4_72 (by decide) rfl (Or.inl rfl) ?_
    refine wp_ic_ge 130 dX4_reachOf_55 (by decide) (fun hh55 => ?_) (fun hh55 => ?_)
    · have e : c = (ggn g).toNat := by omega
      subst e
      exact hK goes _ σ _ hF hI
    · exact absurd hc (by omega)
  | succ r ih =>
    intro c goes σ u4 hc hF hI hK
    have he := hF.g (by decide) he0
    have hn4 := gn_g he
    have hn35 := hg.2.1
    refine wp_iload_n dX4_reachOf_50 rfl ?_
    refine wp_aload_n dX4_reachOf_51 rfl ?_
    refine wp_getI dX4_reachOf_52 flX4_72 (by decide) rfl (Or.inl rfl) ?_
    refine wp_ic_ge 130 dX4_reachOf_55 (by decide) (fun hh55 => ?_) (fun hh55 => ?_)
    · exact absurd hc (by omega)
    · refine wp_iconst dX4_reachOf_58 (by decide) ?_
      refine wp_ist (L' := [some (vr _), some (vi _), some (vi _), some (vi _), some (vi _)]) dX4_reachOf_59 (Nat.le_of_ble_eq_true rfl) rfl ?_
      refine l4_ry hg he0 (by omega) 4 0 goes σ (by omega) hF hI (fun goes2 y2 σ2 hF2 hI2 => ?_)
      refine wp_iincN (L' := [some (vr _), some (vi _), some (vi _), some (vi _), some (vi _)]) dX4_reachOf_124 rfl (by omega) rfl ?_
      refine wp_gotoN 50 dX4_reachOf_127 (by decide) ?_
      exact ih (c + 1) goes2 σ2 _ (by omega) hF2 hI2 hK
set_option maxRecDepth 20000 in
theorem l4_rw {d : Nat} {σ0 : aS} {Q : aQ} {g : aG} {a : Int} (hg : GV g) (he0 : gOf σ0 = g) : ∀ (r : Nat) (σ : aS) (u3 u4 : Option aV), (ggn g - cnt (fun c => σ.1 24 c = 1) (ggn g).toNat).toNat < r → F1 24 σ0 σ → WI (ceE g) g (one g a) (σ.1 24) → (∀ (σ : aS) (x2 : Int) (u3 u4 : Option aV), F1 24 σ0 σ → (∀ c : Nat, (c : Int) < ggn g → σ.1 24 c = bi (Rch (ceE g) g (one g a) c)) → Wp RX4 cX4_reachOf 34 (aCall 34 (d + 4)) Q 0 false 0 (fun _ => 0) 133 [some (vr 18), some (vi a), some (vi x2), u3, u4] [] σ) → Wp RX4 cX4_reachOf 34 (aCall 34 (d + 4)) Q 0 false 0 (fun _ => 0) 42 [some (vr 18), some (vi a), some (vi 1), u3, u4] [] σ := by
  intro r
  induction r with
  | zero =>
    intro σ u3 u4 hm hF hI hK
    exact absurd hm (Nat.not_lt_zero _)
  | succ r ih =>
    intro σ u3 u4 hm hF hI hK
    have he := hF.g (by decide) he0
    have hn4 := gn_g he
    have hn35 := hg.2.1
    refine wp_iload_n dX4_reachOf_42 rfl ?_
    refine wp_if_eq 133 dX4_reachOf_43 (by decide) (fun hh43 => ?_) (fun hh43 => ?_)
    · exact absurd hh43 (by decide)
    · refine wp_iconst dX4_reachOf_46 (by decide) ?_
      refine wp_istN (L' := [some (vr _), some (vi _), some (vi _), _, _]) dX4_reachOf_47 (Nat.le_of_ble_eq_true rfl) rfl ?_
      refine wp_iconst dX4_reachOf_48 (by decide) ?_
      refine wp_istN (L' := [some (vr _), some (vi _), some (vi _), some (vi _), _]) dX4_reachOf_49 (Nat.le_of_ble_eq_true rfl) rfl ?_
      refine l4_rc hg he0 (ggn g).toNat 0 0 σ _ (by omega) hF hI.sw (fun goes2 c2 σ2 v4 hF2 hI2 => ?_)
      refine wp_gotoN 42 dX4_reachOf_130 (by decide) ?_
      rcases hI2.2 with q | q
      · obtain ⟨e0, -, -⟩ := q
        subst e0
        refine wp_iload_n dX4_reachOf_42 rfl ?_
        refine wp_if_eq 133 dX4_reachOf_43 (by decide) (fun hw43 => ?_) (fun hw43 => ?_)
        · exact hK σ2 _ _ _ hF2 (hI2.fin (fun c y h1 h2 h3 => Or.inl (by omega)) (fun c h => one_in hg h) (fun c y _ h => ce_in hg h))
        · exact absurd hw43 (by decide)
      · obtain ⟨e1, -⟩ := q
        subst e1
        have hls := hI2.less
        have hcn := cnt_in (fun c => σ2.1 24 c = 1) (ggn g).toNat
        have hcf := cnt_in (fun c => σ.1 24 c = 1) (ggn g).toNat
        exact ih σ2 _ _ (by omega) hF2 hI2.wi hK
set_option maxRecDepth 20000 in
theorem l4_ri {d : Nat} {σ0 : aS} {Q : aQ} {g : aG} {a : Int} (hg : GV g) (he0 : gOf σ0 = g) : ∀ (r : Nat) (c : Nat) (σ : aS) (u3 u4 : Option aV), c + r = (ggn g).toNat → F1 24 σ0 σ → (∀ j : Nat, j < c → σ.1 24 j = bi (one g a j)) → (∀ (σ : aS), F1 24 σ0 σ → (∀ j : Nat, j < (ggn g).toNat → σ.1 24 j = bi (one g a j)) → Wp RX4 cX4_reachOf 34 (aCall 34 (d + 4)) Q 0 false 0 (fun _ => 0) 40 [some (vr 18), some (vi a), some (vi ((ggn g).toNat : Int)), u3, u4] [] σ) → Wp RX4 cX4_reachOf 34 (aCall 34 (d + 4)) Q 0 false 0 (fun _ => 0) 2 [some (vr 18), some (vi a), some (vi c), u3, u4] [] σ := by
  intro r
  induction r with
  | zero =>
    intro c σ u3 u4 hc hF hI hK
    have he := hF.g (by decide) he0
    have hn4 := gn_g he
    have hn35 := hg.2.1
    refine wp_iload_n dX4_reachOf_2 rfl ?_
    refine wp_aload_n dX4_reachOf_3 rfl ?_
    refine wp_getI dX4_reachOf_4 flX4_72 (by decide) rfl (Or.inl rfl) ?_
    refine wp_ic_ge 40 dX4_reachOf_7 (by decide) (fun hh7 => ?_) (fun hh7 => ?_)
    · have e : c = (ggn g).toNat := by omega
      subst e
      exact hK σ hF hI
    · exact absurd hc (by omega)
  | succ r ih =>
    intro c σ u3 u4 hc hF hI hK
    have he := hF.g (by decide) he0
    have hn4 := gn_g he
    have hn35 := hg.2.1
    refine wp_iload_n dX4_reachOf_2 rfl ?_
    refine wp_aload_n dX4_reachOf_3 rfl ?_
    refine wp_getI dX4_reachOf_4 flX4_72 (by decide) rfl (Or.inl rfl) ?_
    refine wp_ic_ge 40 dX4_reachOf_7 (by decide) (fun hh7 => ?_) (fun hh7 => ?_)
    · exact absurd hc (by omega)
    · refine wp_aload_n dX4_reachOf_10 rfl ?_
      refine wp_getR dX4_reachOf_11 flX4_25 (by decide) rfl rfl ?_
      refine wp_iload_n dX4_reachOf_14 rfl ?_
      refine wp_iload_n dX4_reachOf_15 rfl ?_
      refine wp_iload_n dX4_reachOf_16 rfl ?_
      refine wp_ic_ne 32 dX4_reachOf_17 (by decide) (fun hh17 => ?_) (fun hh17 => ?_)
      · refine wp_iconst dX4_reachOf_32 (by decide) ?_
        refine wp_bastore dX4_reachOf_33 (by decide) rfl (by omega) (by omega) (by decide) (by decide) ?_
        refine wp_iincN (L' := [some (vr _), some (vi _), some (vi _), _, _]) dX4_reachOf_34 rfl (by omega) rfl ?_
        refine wp_gotoN 2 dX4_reachOf_37 (by decide) ?_
        refine ih (c + 1) _ _ _ (by omega) hF.put (fun j hj => ?_) hK
        rw [sI_at, Int.toNat_natCast]
        by_cases hjc : j = c
        · rw [if_pos ⟨rfl, hjc⟩, hjc]; exact (bi_f (P := one g a c) (fun q => hh17 q.1)).symm
        · rw [if_neg (fun q => hjc q.2)]; exact hI j (by omega)
      · refine wp_aload_n dX4_reachOf_20 rfl ?_
        refine wp_iload_n dX4_reachOf_21 rfl ?_
        refine wp_V1 dX4_reachOf_22 vlX4_99 (by decide) rfl (Nat.le_of_ble_eq_true rfl) ?_
        refine s4_isOpen_g he hg ?_
        refine wp_ifB_eq 32 dX4_reachOf_25 (by decide) (fun hh25 => ?_) (fun hh25 => ?_)
        · refine wp_iconst dX4_reachOf_32 (by decide) ?_
          refine wp_bastore dX4_reachOf_33 (by decide) rfl (by omega) (by omega) (by decide) (by decide) ?_
          refine wp_iincN (L' := [some (vr _), some (vi _), some (vi _), _, _]) dX4_reachOf_34 rfl (by omega) rfl ?_
          refine wp_gotoN 2 dX4_reachOf_37 (by decide) ?_
          refine ih (c + 1) _ _ _ (by omega) hF.put (fun j hj => ?_) hK
          rw [sI_at, Int.toNat_natCast]
          by_cases hjc : j = c
          · rw [if_pos ⟨rfl, hjc⟩, hjc]; exact (bi_f (P := one g a c) (fun q => hh25 q.2)).symm
          · rw [if_neg (fun q => hjc q.2)]; exact hI j (by omega)
        · refine wp_iconst dX4_reachOf_28 (by decide) ?_
          refine wp_gotoN 33 dX4_reachOf_29 (by decide) ?_
          refine wp_bastore dX4_reachOf_33 (by decide) rfl (by omega) (by omega) (by decide) (by decide) ?_
          refine wp_iincN (L' := [some (vr _), some (vi _), some (vi _), _, _]) dX4_reachOf_34 rfl (by omega) rfl ?_
          refine wp_gotoN 2 dX4_reachOf_37 (by decide) ?_
          refine ih (c + 1) _ _ _ (by omega) hF.put (fun j hj => ?_) hK
          rw [sI_at, Int.toNat_natCast]
          by_cases hjc : j = c
          · rw [if_pos ⟨rfl, hjc⟩, hjc]; exact (bi_t (P := one g a c) ⟨by omega, hh25⟩).symm
          · rw [if_neg (fun q => hjc q.2)]; exact hI j (by omega)
set_option maxRecDepth 20000 in
theorem l4_rn {d : Nat} {σ : aS} {Q : aQ} {g : aG} {a x2 : Int} (he : gOf σ = g) (hg : GV g) (hI : ∀ c : Nat, (c : Int) < ggn g → σ.1 24 c = bi (Rch (ceE g) g (one g a) c)) : ∀ (r : Nat) (c : Nat) (x : Int), c + r = (ggn g).toNat → x = cnt (fun c => Rch (ceE g) g (one g a) c) c → Q (some (vi (rhv g a))) σ → Wp RX4 cX4_reachOf 34 (aCall 34 (d + 4)) Q 0 false 0 (fun _ => 0) 138 [some (vr 18), some (vi a), some (vi x2), some (vi x), some (vi c)] [] σ := by
  intro r
  induction r with
  | zero =>
    intro c x hc hx hQ
    have hn4 := gn_g he
    have hn35 := hg.2.1
    refine wp_iload dX4_reachOf_138 rfl ?_
    refine wp_aload_n dX4_reachOf_140 rfl ?_
    refine wp_getI dX4_reachOf_141 flX4_72 (by decide) rfl (Or.inl rfl) ?_
    refine wp_ic_ge 171 dX4_reachOf_144 (by decide) (fun hh144 => ?_) (fun hh144 => ?_)
    · refine wp_iload_n dX4_reachOf_171 rfl ?_
      refine wp_iret dX4_reachOf_172 (Or.inl rfl) ?_
      have e : c = (ggn g).toNat := by omega
      subst e
      exact q_i hx hQ
    · exact absurd hc (by omega)
  | succ r ih =>
    intro c x hc hx hQ
    have hn4 := gn_g he
    have hn35 := hg.2.1
    have hci := cnt_in (fun c => Rch (ceE g) g (one g a) c) c
    refine wp_iload dX4_reachOf_138 rfl ?_
    refine wp_aload_n dX4_reachOf_140 rfl ?_
    refine wp_getI dX4_reachOf_141 flX4_72 (by decide) rfl (Or.inl rfl) ?_
    refine wp_ic_ge 171 dX4_reachOf_144 (by decide) (fun hh144 => ?_) (fun hh144 => ?_)
    · exact absurd hc (by omega)
    · refine wp_iload_n dX4_reachOf_147 rfl ?_
      refine wp_aload_n dX4_reachOf_148 rfl ?_
      refine wp_getR dX4_reachOf_149 flX4_25 (by decide) rfl rfl ?_
      refine wp_iload dX4_reachOf_152 rfl ?_
      refine wp_baload dX4_reachOf_154 (by decide) rfl (by omega) (by omega) (by decide) ?_
      rw [Int.toNat_natCast, hI c (by omega)]
      refine wp_if_eq 162 dX4_reachOf_155 (by decide) (fun hh155 => ?_) (fun hh155 => ?_)
      · refine wp_iconst dX4_reachOf_162 (by decide) ?_
        refine wp_iaddN dX4_reachOf_163 (by omega) ?_
        refine wp_istN (L' := [some (vr _), some (vi _), some (vi _), some (vi _), some (vi _)]) dX4_reachOf_164 (Nat.le_of_ble_eq_true rfl) rfl ?_
        refine wp_iincN (L' := [some (vr _), some (vi _), some (vi _), some (vi _), some (vi _)]) dX4_reachOf_165 rfl (by omega) rfl ?_
        refine wp_gotoN 138 dX4_reachOf_168 (by decide) ?_
        exact ih (c + 1) _ (by omega) (by rw [cnt_f (p := (fun c => Rch (ceE g) g (one g a) c)) (bi_0.mp hh155)]; omega) hQ
      · refine wp_iconst dX4_reachOf_158 (by decide) ?_
        refine wp_gotoN 163 dX4_reachOf_159 (by decide) ?_
        refine wp_iaddN dX4_reachOf_163 (by omega) ?_
        refine wp_istN (L' := [some (vr _), some (vi _), some (vi _), some (vi _), some (vi _)]) dX4_reachOf_164 (Nat.le_of_ble_eq_true rfl) rfl ?_
        refine wp_iincN (L' := [some (vr _), some (vi _), some (vi _), some (vi _), some (vi _)]) dX4_reachOf_165 rfl (by omega) rfl ?_
        refine wp_gotoN 138 dX4_reachOf_168 (by decide) ?_
        exact ih (c + 1) _ (by omega) (by rw [cnt_t (p := (fun c => Rch (ceE g) g (one g a) c)) (Classical.byContradiction fun q => hh155 (bi_f q))]; omega) hQ
set_option maxRecDepth 20000 in
theorem s4_reachOf {d : Nat} {σ : aS} {Q : aQ} {a : Int} {g : aG} (he : gOf σ = g) (hg : GV g) (hQ : ∀ σq, F1 24 σ σq → Q (some (vi (rhv g a))) σq) : aCall 34 (d + 5) mX4_reachOf [vr 18, vi a] σ Q := by
  refine cl_in (own := RX4) (cc := cX4_reachOf) (rk := 0) (L := [some (vr 18), some (vi a), none, none, none]) rfl rfl rfl rfl (by decide) (Nat.le_of_ble_eq_true rfl) ?_
  refine wp_iconst dX4_reachOf_0 (by decide) ?_
  refine wp_istN (L' := [some (vr _), some (vi _), some (vi _), none, none]) dX4_reachOf_1 (Nat.le_of_ble_eq_true rfl) rfl ?_
  refine l4_ri hg he (ggn g).toNat 0 σ _ _ (by omega) F1.rf (fun j hj => absurd hj (Nat.not_lt_zero j)) (fun σ2 hF2 hI2 => ?_)
  refine wp_iconst dX4_reachOf_40 (by decide) ?_
  refine wp_istN (L' := [some (vr _), some (vi _), some (vi _), _, _]) dX4_reachOf_41 (Nat.le_of_ble_eq_true rfl) rfl ?_
  refine l4_rw hg he _ σ2 _ _ (Nat.lt_succ_self _) hF2 (fun c hc => by rw [hI2 c (by omega)]; exact ⟨bi_01 _, fun q => bi_t q, fun q => Rch.of (bi_1.mp q)⟩) (fun σ3 v2 v3 v4 hF3 hI3 => ?_)
  refine wp_iconst dX4_reachOf_133 (by decide) ?_
  refine wp_istN (L' := [some (vr _), some (vi _), some (vi _), some (vi _), _]) dX4_reachOf_134 (Nat.le_of_ble_eq_true rfl) rfl ?_
  refine wp_iconst dX4_reachOf_135 (by decide) ?_
  refine wp_ist (L' := [some (vr _), some (vi _), some (vi _), some (vi _), some (vi _)]) dX4_reachOf_136 (Nat.le_of_ble_eq_true rfl) rfl ?_
  exact l4_rn (hF3.g (by decide) he) hg hI3 (ggn g).toNat 0 _ (by omega) rfl (hQ σ3 hF3)
set_option maxRecDepth 20000 in
theorem p4_reach {d : Nat} {σ : aS} {Q : aQ} {a : Int} {z : aZ} (hm : MI σ z) (hz : ZV z) (hQ : ∀ σ', Frm σ σ' → MI σ' z → Q (some (vi (vReach z a))) σ') : aCall 34 (d + 6) mX4_reach [vr 18, vi a] σ Q := by
  refine cl_in (own := RX4) (cc := cX4_reach) (rk := 0) (L := [some (vr 18), some (vi a)]) rfl rfl rfl rfl (by decide) (Nat.le_of_ble_eq_true rfl) ?_
  refine wp_aload_n dX4_reach_0 rfl ?_
  refine wp_iload_n dX4_reach_1 rfl ?_
  refine wp_V1 dX4_reach_2 vlX4_102 (by decide) rfl (Nat.le_of_ble_eq_true rfl) ?_
  refine s4_isCell hm hz (fun σ1 hf1 hr1 => ?_)
  refine wp_ifB_eq 16 dX4_reach_5 (by decide) (fun hh5 => ?_) (fun hh5 => ?_)
  · refine wp_bipush dX4_reach_16 (by decide) ?_
    refine wp_iret dX4_reach_18 (Or.inl rfl) ?_
    first
    | exact q_i (by unfold vReach; rw [if_neg (by omega)]) (hQ σ1 hf1 hr1.1)
    | exact q_i (by unfold vReach; rw [if_pos (by omega)]) (hQ σ2 (hf1.tr (hF2.m (by decide))) (hr1.f1 hF2 (by decide)).1)
  · refine wp_aload_n dX4_reach_8 rfl ?_
    refine wp_iload_n dX4_reach_9 rfl ?_
    refine wp_V1 dX4_reach_10 vlX4_160 (by decide) rfl (Nat.le_of_ble_eq_true rfl) ?_
    refine s4_reachOf hr1.2.2.1 (Gz_ok hz) (fun σ2 hF2 => ?_)
    refine wp_gotoN 18 dX4_reach_13 (by decide) ?_
    refine wp_iret dX4_reach_18 (Or.inl rfl) ?_
    first
    | exact q_i (by unfold vReach; rw [if_neg (by omega)]) (hQ σ1 hf1 hr1.1)
    | exact q_i (by unfold vReach; rw [if_pos (by omega)]) (hQ σ2 (hf1.tr (hF2.m (by decide))) (hr1.f1 hF2 (by decide)).1)
noncomputable def suv (g : aG) (w : Int) : Int := cnt (fun c => if w = 6 then Rch (flW g) g (spS g (-1)) c else hld g c) (ggn g).toNat
noncomputable def smv (z : aZ) (w : Int) : Int := if w = 0 then ggn (Gz z) else if w = 1 then (PF z).2.1 else if w = 5 then cnt (fun c => ggk (Gz z) c = 3) (ggn (Gz z)).toNat else suv (Gz z) w
noncomputable def vCount (z : aZ) (w : Int) : Int := if w = 0 ∨ w = 1 ∨ w = 5 ∨ w = 6 ∨ w = 7 then smv z w else if w = 2 then zl z else if w = 3 then zn z else if w = 4 then zp z else if w = 8 then zg z else -2
set_option maxRecDepth 20000 in
theorem l4_sum {d : Nat} {σ : aS} {Q : aQ} {g : aG} {w : Int} (he : gOf σ = g) (hg : GV g) (hI : ∀ c : Nat, (c : Int) < ggn g → σ.1 25 c = bi (Rch (flW g) g (spS g (-1)) c)) : ∀ (r : Nat) (c : Nat) (x : Int), c + r = (ggn g).toNat → x = cnt (fun c => if w = 6 then Rch (flW g) g (spS g (-1)) c else hld g c) c → (∀ x, x = suv g w → Wp RX4 cX4_sumOf 34 (aCall 34 (d + 3)) Q 0 false 0 (fun _ => 0) 61 [some (vr 18), some (vi w), some (vi x), some (vi ((ggn g).toNat : Int))] [] σ) → Wp RX4 cX4_sumOf 34 (aCall 34 (d + 3)) Q 0 false 0 (fun _ => 0) 13 [some (vr 18), some (vi w), some (vi x), some (vi c)] [] σ := by
  intro r
  induction r with
  | zero =>
    intro c x hc hx hK
    have hn4 := gn_g he
    have hn35 := hg.2.1
    refine wp_iload_n dX4_sumOf_13 rfl ?_
    refine wp_aload_n dX4_sumOf_14 rfl ?_
    refine wp_getI dX4_sumOf_15 flX4_72 (by decide) rfl (Or.inl rfl) ?_
    refine wp_ic_ge 61 dX4_sumOf_18 (by decide) (fun hh18 => ?_) (fun hh18 => ?_)
    · have e : c = (ggn g).toNat := by omega
      subst e
      exact hK x hx
    · exact absurd hc (by omega)
  | succ r ih =>
    intro c x hc hx hK
    have hn4 := gn_g he
    have hn35 := hg.2.1
    have hci := cnt_in (fun c => if w = 6 then Rch (flW g) g (spS g (-1)) c else hld g c) c
    refine wp_iload_n dX4_sumOf_13 rfl ?_
    refine wp_aload_n dX4_sumOf_14 rfl ?_
    refine wp_getI dX4_sumOf_15 flX4_72 (by decide) rfl (Or.inl rfl) ?_
    refine wp_ic_ge 61 dX4_sumOf_18 (by decide) (fun hh18 => ?_) (fun hh18 => ?_)
    · exact absurd hc (by omega)
    · refine wp_iload_n dX4_sumOf_21 rfl ?_
      refine wp_iload_n dX4_sumOf_22 rfl ?_
      refine wp_bipush dX4_sumOf_23 (by decide) ?_
      refine wp_ic_ne 40 dX4_sumOf_25 (by decide) (fun hh25 => ?_) (fun hh25 => ?_)
      · refine wp_aload_n dX4_sumOf_40 rfl ?_
        refine wp_iload_n dX4_sumOf_41 rfl ?_
        refine wp_V1 dX4_sumOf_42 vlX4_105 (by decide) rfl (Nat.le_of_ble_eq_true rfl) ?_
        refine s4_isHeld_g he hg (by omega) (by omega) ?_
        refine wp_ifB_eq 52 dX4_sumOf_45 (by decide) (fun hh45 => ?_) (fun hh45 => ?_)
        · refine wp_iconst dX4_sumOf_52 (by decide) ?_
          refine wp_iaddN dX4_sumOf_53 (by omega) ?_
          refine wp_istN (L' := [some (vr _), some (vi _), some (vi _), some (vi _)]) dX4_sumOf_54 (Nat.le_of_ble_eq_true rfl) rfl ?_
          refine wp_iincN (L' := [some (vr _), some (vi _), some (vi _), some (vi _)]) dX4_sumOf_55 rfl (by omega) rfl ?_
          refine wp_gotoN 13 dX4_sumOf_58 (by decide) ?_
          exact ih (c + 1) _ (by omega) (by rw [cnt_f (p := (fun c => if w = 6 then Rch (flW g) g (spS g (-1)) c else hld g c)) (show ¬ (if w = 6 then Rch (flW g) g (spS g (-1)) c else hld g c) by rw [if_neg (by omega)]; exact hh45)]; omega) hK
        · refine wp_iconst dX4_sumOf_48 (by decide) ?_
          refine wp_gotoN 53 dX4_sumOf_49 (by decide) ?_
          refine wp_iaddN dX4_sumOf_53 (by omega) ?_
          refine wp_istN (L' := [some (vr _), some (vi _), some (vi _), some (vi _)]) dX4_sumOf_54 (Nat.le_of_ble_eq_true rfl) rfl ?_
          refine wp_iincN (L' := [some (vr _), some (vi _), some (vi _), some (vi _)]) dX4_sumOf_55 rfl (by omega) rfl ?_
          refine wp_gotoN 13 dX4_sumOf_58 (by decide) ?_
          exact ih (c + 1) _ (by omega) (by rw [cnt_t (p := (fun c => if w = 6 then Rch (flW g) g (spS g (-1)) c else hld g c)) (show (if w = 6 then Rch (flW g) g (spS g (-1)) c else hld g c) by rw [if_neg (by omega)]; exact hh45)]; omega) hK
      · refine wp_aload_n dX4_sumOf_28 rfl ?_
        refine wp_getR dX4_sumOf_29 flX4_29 (by decide) rfl rfl ?_
        refine wp_iload_n dX4_sumOf_32 rfl ?_
        refine wp_baload dX4_sumOf_33 (by decide) rfl (by omega) (by omega) (by decide) ?_
        rw [Int.toNat_natCast, hI c (by omega)]
        refine wp_if_eq 52 dX4_sumOf_34 (by decide) (fun hh34 => ?_) (fun hh34 => ?_)
        · refine wp_iconst dX4_sumOf_52 (by decide) ?_
          refine wp_iaddN dX4_sumOf_53 (by omega) ?_
          refine wp_istN (L' := [some (vr _), some (vi _), some (vi _), some (vi _)]) dX4_sumOf_54 (Nat.le_of_ble_eq_true rfl) rfl ?_
          refine wp_iincN (L' := [some (vr _), some (vi _), some (vi _), some (vi _)]) dX4_sumOf_55 rfl (by omega) rfl ?_
          refine wp_gotoN 13 dX4_sumOf_58 (by decide) ?_
          exact ih (c + 1) _ (by omega) (by rw [cnt_f (p := (fun c => if w = 6 then Rch (flW g) g (spS g (-1)) c else hld g c)) (show ¬ (if w = 6 then Rch (flW g) g (spS g (-1)) c else hld g c) by rw [if_pos (by omega)]; exact (bi_0.mp hh34))]; omega) hK
        · refine wp_gotoN 48 dX4_sumOf_37 (by decide) ?_
          refine wp_iconst dX4_sumOf_48 (by decide) ?_
          refine wp_gotoN 53 dX4_sumOf_49 (by decide) ?_
          refine wp_iaddN dX4_sumOf_53 (by omega) ?_
          refine wp_istN (L' := [some (vr _), some (vi _), some (vi _), some (vi _)]) dX4_sumOf_54 (Nat.le_of_ble_eq_true rfl) rfl ?_
          refine wp_iincN (L' := [some (vr _), some (vi _), some (vi _), some (vi _)]) dX4_sumOf_55 rfl (by omega) rfl ?_
          refine wp_gotoN 13 dX4_sumOf_58 (by decide) ?_
          exact ih (c + 1) _ (by omega) (by rw [cnt_t (p := (fun c => if w = 6 then Rch (flW g) g (spS g (-1)) c else hld g c)) (show (if w = 6 then Rch (flW g) g (spS g (-1)) c else hld g c) by rw [if_pos (by omega)]; exact (Classical.byContradiction fun q => hh34 (bi_f q)))]; omega) hK
set_option maxRecDepth 20000 in
theorem s4_sumOf {d : Nat} {σ : aS} {Q : aQ} {w : Int} {z : aZ} (hm : MI σ z) (hz : ZV z) (hQ : ∀ σ', Frm σ σ' → MI σ' z → Q (some (vi (smv z w))) σ') : aCall 34 (d + 4) mX4_sumOf [vr 18, vi w] σ Q := by
  refine cl_in (own := RX4) (cc := cX4_sumOf) (rk := 0) (L := [some (vr 18), some (vi w), none, none]) rfl rfl rfl rfl (by decide) (Nat.le_of_ble_eq_true rfl) ?_
  refine wp_aload_n dX4_sumOf_0 rfl ?_
  refine wp_V0 dX4_sumOf_1 vlX4_89 (by decide) rfl (Nat.le_of_ble_eq_true rfl) ?_
  refine s4_reads hm hz (fun σ' hf hr => ?_)
  refine wp_aload_n dX4_sumOf_4 rfl ?_
  refine wp_iconst dX4_sumOf_5 (by decide) ?_
  refine wp_V1 dX4_sumOf_6 vlX4_167 (by decide) rfl (Nat.le_of_ble_eq_true rfl) ?_
  refine s4_flows hr.2.2.1 (Gz_ok hz) (fun σ2 hF2 hwet => ?_)
  have hr2 := hr.f1 hF2 (by decide)
  have hg2 := hr2.gv
  have hn2 := hr2.n
  refine wp_iconst dX4_sumOf_9 (by decide) ?_
  refine wp_istN (L' := [some (vr _), some (vi _), some (vi _), none]) dX4_sumOf_10 (Nat.le_of_ble_eq_true rfl) rfl ?_
  refine wp_iconst dX4_sumOf_11 (by decide) ?_
  refine wp_istN (L' := [some (vr _), some (vi _), some (vi _), some (vi _)]) dX4_sumOf_12 (Nat.le_of_ble_eq_true rfl) rfl ?_
  refine l4_sum hr2.2.2.1 (Gz_ok hz) hwet (ggn (Gz z)).toNat 0 0 (by omega) rfl (fun x hx => ?_)
  refine wp_iload_n dX4_sumOf_61 rfl ?_
  refine wp_if_ne 72 dX4_sumOf_62 (by decide) (fun hh62 => ?_) (fun hh62 => ?_)
  · refine wp_iload_n dX4_sumOf_72 rfl ?_
    refine wp_iconst dX4_sumOf_73 (by decide) ?_
    refine wp_ic_ne 84 dX4_sumOf_74 (by decide) (fun hh74 => ?_) (fun hh74 => ?_)
    · refine wp_iload_n dX4_sumOf_84 rfl ?_
      refine wp_iconst dX4_sumOf_85 (by decide) ?_
      refine wp_ic_ne 96 dX4_sumOf_86 (by decide) (fun hh86 => ?_) (fun hh86 => ?_)
      · refine wp_iload_n dX4_sumOf_96 rfl ?_
        
        refine wp_iret dX4_sumOf_97 (Or.inl rfl) ?_
        first
        | exact q_i (by unfold smv; rw [if_pos (by omega)]; omega) (hQ σ2 (hf.tr (hF2.m (by decide))) hr2.1)
        | exact q_i (by unfold smv; rw [if_neg (by omega), if_pos (by omega)]; exact hr2.2.2.2) (hQ σ2 (hf.tr (hF2.m (by decide))) hr2.1)
        | exact q_i (by unfold smv; rw [if_neg (by omega), if_neg (by omega), if_pos (by omega)]) (hQ σ2 (hf.tr (hF2.m (by decide))) hr2.1)
        | exact q_i (by unfold smv; rw [if_neg (by omega), if_neg (by omega), if_neg (by omega)]; exact hx) (hQ σ2 (hf.tr (hF2.m (by decide))) hr2.1)
      · refine wp_aload_n dX4_sumOf_89 rfl ?_
        refine wp_V0 dX4_sumOf_90 vlX4_203 (by decide) rfl (Nat.le_of_ble_eq_true rfl) ?_
        refine s4_springs hg2 ?_
        rw [hr2.2.2.1, hn2]
        refine wp_gotoN 97 dX4_sumOf_93 (by decide) ?_
        
        refine wp_iret dX4_sumOf_97 (Or.inl rfl) ?_
        first
        | exact q_i (by unfold smv; rw [if_pos (by omega)]; omega) (hQ σ2 (hf.tr (hF2.m (by decide))) hr2.1)
        | exact q_i (by unfold smv; rw [if_neg (by omega), if_pos (by omega)]; exact hr2.2.2.2) (hQ σ2 (hf.tr (hF2.m (by decide))) hr2.1)
        | exact q_i (by unfold smv; rw [if_neg (by omega), if_neg (by omega), if_pos (by omega)]) (hQ σ2 (hf.tr (hF2.m (by decide))) hr2.1)
        | exact q_i (by unfold smv; rw [if_neg (by omega), if_neg (by omega), if_neg (by omega)]; exact hx) (hQ σ2 (hf.tr (hF2.m (by decide))) hr2.1)
    · refine wp_aload_n dX4_sumOf_77 rfl ?_
      refine wp_getI dX4_sumOf_78 flX4_75 (by decide) rfl (Or.inl rfl) ?_
      refine wp_gotoN 97 dX4_sumOf_81 (by decide) ?_
      
      refine wp_iret dX4_sumOf_97 (Or.inl rfl) ?_
      first
      | exact q_i (by unfold smv; rw [if_pos (by omega)]; omega) (hQ σ2 (hf.tr (hF2.m (by decide))) hr2.1)
      | exact q_i (by unfold smv; rw [if_neg (by omega), if_pos (by omega)]; exact hr2.2.2.2) (hQ σ2 (hf.tr (hF2.m (by decide))) hr2.1)
      | exact q_i (by unfold smv; rw [if_neg (by omega), if_neg (by omega), if_pos (by omega)]) (hQ σ2 (hf.tr (hF2.m (by decide))) hr2.1)
      | exact q_i (by unfold smv; rw [if_neg (by omega), if_neg (by omega), if_neg (by omega)]; exact hx) (hQ σ2 (hf.tr (hF2.m (by decide))) hr2.1)
  · refine wp_aload_n dX4_sumOf_65 rfl ?_
    refine wp_getI dX4_sumOf_66 flX4_72 (by decide) rfl (Or.inl rfl) ?_
    refine wp_gotoN 97 dX4_sumOf_69 (by decide) ?_
    
    refine wp_iret dX4_sumOf_97 (Or.inl rfl) ?_
    first
    | exact q_i (by unfold smv; rw [if_pos (by omega)]; omega) (hQ σ2 (hf.tr (hF2.m (by decide))) hr2.1)
    | exact q_i (by unfold smv; rw [if_neg (by omega), if_pos (by omega)]; exact hr2.2.2.2) (hQ σ2 (hf.tr (hF2.m (by decide))) hr2.1)
    | exact q_i (by unfold smv; rw [if_neg (by omega), if_neg (by omega), if_pos (by omega)]) (hQ σ2 (hf.tr (hF2.m (by decide))) hr2.1)
    | exact q_i (by unfold smv; rw [if_neg (by omega), if_neg (by omega), if_neg (by omega)]; exact hx) (hQ σ2 (hf.tr (hF2.m (by decide))) hr2.1)
