theorem s0_ends {d : Nat} {σ : aS} {Q : aQ} {a : Int} {NC : Nat} (hN : 18 ≤ NC) (hr : 0 ≤ σ.1 13 1) (hr2 : σ.1 13 1 ≤ 10) (hQ : ∀ σ3, ((a = 0 ∨ (0 < σ.1 13 1 ∧ a < σ.1 13 2)) → σ3 = σ) → (¬ (a = 0 ∨ (0 < σ.1 13 1 ∧ a < σ.1 13 2)) → σ3 = sI (sI σ 13 2 a) 13 1 (σ.1 13 1 + 1)) → Q (some (vi (bi (¬ (a = 0 ∨ (0 < σ.1 13 1 ∧ a < σ.1 13 2)))))) σ3) : aCall NC (d + 1) mX0_endsRow [vr 13, vi a] σ Q := by
  refine s0_endsRow hN hr hr2 (fun hf => ?_) (fun hf => ?_)
  · exact q_f (fun q => q hf) (hQ _ (fun _ => rfl) (fun q => absurd hf q))
  · exact q_t hf (hQ _ (fun q => absurd q hf) (fun _ => rfl))
abbrev sA (c k : Nat) : Prop := c = 13 ∧ (k = 1 ∨ k = 2 ∨ k = 3)
theorem DG.i {σ : aS} {n : Nat} {kd : Nat → Int} {k : Nat} {x : Int} (g : DG σ n kd) (hk : k ≠ 3) : DG (sI σ 13 k x) n kd := ⟨by rw [sI_ne (fun q => hk q.2.symm)]; exact g.1, g.2⟩
theorem DG.e {σ : aS} {n : Nat} {kd kd' : Nat → Int} (g : DG σ n kd) (h : kd = kd') : DG σ n kd' := h ▸ g
set_option maxRecDepth 20000 in
theorem l0_spell {d : Nat} {Q : aQ} {σ0 : aS} {tx : Nat → Int} {len : Nat} {NC : Nat} (hN : 18 ≤ NC) (hl : len ≤ 39) (hl0 : 0 < len) (ht : ∀ k, k < len → σ0.1 1 k = tx k) {T : Int × Int × Int × Int × (Nat → Int)} (hQ : ∀ σ2, FrQ sA dB σ0 σ2 → (T.1 = -1 → σ2.1 13 1 = T.2.1 ∧ σ2.1 13 2 = T.2.2.1 ∧ DG σ2 T.2.2.2.1.toNat T.2.2.2.2) → Q (some (vi T.1)) σ2) : ∀ (r : Nat) (k : Nat) (row col w : Int) (n : Nat) (kd : Nat → Int) (σ : aS) (x5 x6 : Option aV), k + r = len → FrQ sA dB σ0 σ → σ.1 13 1 = row → 0 ≤ row → row ≤ 5 → 0 ≤ col → col ≤ w → w ≤ 7 → (row = 0 → w = 7 ∧ (n : Int) = col) → (0 < row → σ.1 13 2 = w ∧ row * w = (n : Int) - col) → DG σ n kd → pf tx len r k row col n w kd = T → Wp RX0 cX0_spell NC (aCall NC (d + 2)) Q 0 false 0 (fun _ => 0) 11 [some (vr 13), some (vr 1), some (vi (len : Int)), some (vi col), some (vi (k : Int)), x5, x6] [] σ := by
  intro r
  induction r with
  | zero =>
    intro k row col w n kd σ x5 x6 hk hf hrow r0 r5 c0 cw w7 a0 a1 g eT
    have hw : 0 < row → σ.1 13 2 = w := fun e => (a1 e).1
    have hlen : ((k : Nat) : Int) = len := by omega
    unfold pf at eT
    refine wp_iload dX0_spell_11 rfl ?_
    refine wp_iload_n dX0_spell_13 rfl ?_
    refine wp_ic_ge 115 dX0_spell_14 (by decide) (fun h14 => ?_) (fun h14 => ?_)
    · refine wp_aload_n dX0_spell_115 rfl ?_
      refine wp_iload_n dX0_spell_116 rfl ?_
      refine wp_V1 dX0_spell_117 vlX0_84 (by omega) rfl (Nat.le_of_ble_eq_true rfl) ?_
      refine s0_ends hN (by omega) (by omega) (fun σ3 e1 e2 => ?_)
      refine wp_ifB_eq 127 dX0_spell_120 (by decide) (fun h120 => ?_) (fun h120 => ?_)
      · refine wp_iload_n dX0_spell_127 rfl ?_
        refine wp_iret dX0_spell_128 (Or.inl rfl) ?_
        have hF : col = 0 ∨ (0 < row ∧ col < w) := by omega
        rw [e1 (by omega)]
        rw [if_pos ⟨hl0, hF⟩] at eT
        subst eT
        refine hQ _ hf (fun q => absurd q ?_)
        show ¬ ((len : Int) = -1)
        omega
      · refine wp_iconst dX0_spell_123 (by decide) ?_
        refine wp_gotoN 128 dX0_spell_124 (by decide) ?_
        refine wp_iret dX0_spell_128 (Or.inl rfl) ?_
        have hF : ¬ (col = 0 ∨ (0 < row ∧ col < w)) := by omega
        rw [if_neg (fun q => hF q.2), if_neg (by omega)] at eT
        rw [e2 h120]
        subst eT
        refine hQ _ ((hf.put (by decide)).put (by decide)) (fun _ => ⟨by rw [sI_eq, hrow], ?_, (g.i (by decide)).i (by decide)⟩)
        rw [sI_ne (by decide), sI_eq]
        show col = if row = 0 then col else w
        by_cases e : row = 0
        · rw [if_pos e]
        · rw [if_neg e]; omega
    · exfalso; omega
  | succ r ih =>
    intro k row col w n kd σ x5 x6 hk hf hrow r0 r5 c0 cw w7 a0 a1 g eT
    have hk2 : k < len := by omega
    have hx : σ.1 1 k = tx k := by rw [hf.1 1 k (by omega)]; exact ht k hk2
    have hw : 0 < row → σ.1 13 2 = w := fun e => (a1 e).1
    unfold pf at eT
    refine wp_iload dX0_spell_11 rfl ?_
    refine wp_iload_n dX0_spell_13 rfl ?_
    refine wp_ic_ge 115 dX0_spell_14 (by decide) (fun h14 => ?_) (fun h14 => ?_)
    · exfalso; omega
    · refine wp_iload dX0_spell_17 rfl ?_
      refine wp_aload_n dX0_spell_19 rfl ?_
      refine wp_alen dX0_spell_20 (by omega) rfl (by decide) (by decide) ?_
      refine wp_ic_ge 115 dX0_spell_21 (by decide) (fun h21 => ?_) (fun h21 => ?_)
      · exfalso; omega
      · refine wp_aload_n dX0_spell_24 rfl ?_
        refine wp_iload dX0_spell_25 rfl ?_
        refine wp_iaload dX0_spell_27 (by omega) rfl (by omega) (by omega) (by decide) ?_
        rw [show σ.1 1 (k : Int).toNat = tx k from hx]
        refine wp_ist (L' := [some (vr _), some (vr _), some (vi _), some (vi _), some (vi _), some (vi _), _]) dX0_spell_28 (Nat.le_of_ble_eq_true rfl) rfl ?_
        refine wp_aload_n dX0_spell_30 rfl ?_
        refine wp_getI dX0_spell_31 flX0_62 (by omega) rfl (Or.inl rfl) ?_
        refine wp_iconst dX0_spell_34 (by decide) ?_
        refine wp_ic_lt 41 dX0_spell_35 (by decide) (fun h35 => ?_) (fun h35 => ?_)
        · refine wp_iload dX0_spell_41 rfl ?_
          refine wp_bipush dX0_spell_43 (by decide) ?_
          refine wp_ic_ne 64 dX0_spell_45 (by decide) (fun h45 => ?_) (fun h45 => ?_)
          · refine wp_iload dX0_spell_64 rfl ?_
            refine wp_S1 dX0_spell_66 zlX0_88 (Nat.le_of_ble_eq_true rfl) ?_
            refine s0_kindOf ?_
            refine wp_ist (L' := [some (vr _), some (vr _), some (vi _), some (vi _), some (vi _), some (vi _), some (vi _)]) dX0_spell_69 (Nat.le_of_ble_eq_true rfl) rfl ?_
            refine wp_iload dX0_spell_71 rfl ?_
            refine wp_iconst dX0_spell_73 (by decide) ?_
            refine wp_ic_eq 97 dX0_spell_74 (by decide) (fun h74 => ?_) (fun h74 => ?_)
            · refine wp_iload dX0_spell_97 rfl ?_
              refine wp_iret dX0_spell_99 (Or.inl rfl) ?_
              rw [if_neg (by omega), if_neg h45, if_pos (Or.inl h74)] at eT
              subst eT
              refine hQ _ hf (fun q => absurd q ?_)
              show ¬ ((k : Int) = -1)
              omega
            · refine wp_iload_n dX0_spell_77 rfl ?_
              refine wp_aload_n dX0_spell_78 rfl ?_
              refine wp_getI dX0_spell_79 flX0_62 (by omega) rfl (Or.inl rfl) ?_
              refine wp_if_ne 90 dX0_spell_82 (by decide) (fun h82 => ?_) (fun h82 => ?_)
              · refine wp_aload_n dX0_spell_90 rfl ?_
                refine wp_getI dX0_spell_91 flX0_65 (by omega) rfl (Or.inl rfl) ?_
                refine wp_ic_lt 100 dX0_spell_94 (by decide) (fun h94 => ?_) (fun h94 => ?_)
                · refine wp_aload_n dX0_spell_100 rfl ?_
                  refine wp_iload dX0_spell_101 rfl ?_
                  refine wp_V1 dX0_spell_103 vlX0_92 (by omega) rfl (Nat.le_of_ble_eq_true rfl) ?_
                  have hn35 : n < 35 := by
                    by_cases e : row = 0
                    · have := a0 e; omega
                    · have q := (a1 (by omega)).2
                      rw [mul_c r0 r5] at q
                      have := hw (by omega)
                      omega
                  refine s0_dig hN hn35 g (fun σ4 f4 g4 => ?_)
                  refine wp_iincN (L' := [some (vr _), some (vr _), some (vi _), some (vi _), some (vi _), some (vi _), some (vi _)]) dX0_spell_106 rfl (by omega) rfl ?_
                  refine wp_iincN (L' := [some (vr _), some (vr _), some (vi _), some (vi _), some (vi _), some (vi _), some (vi _)]) dX0_spell_109 rfl (by omega) rfl ?_
                  refine wp_gotoN 11 dX0_spell_112 (by decide) ?_
                  rw [if_neg (by omega), if_neg h45, if_neg (by omega)] at eT
                  exact ih (k + 1) row (col + 1) w (n + 1) _ σ4 _ _ (by omega) (hf.tr (f4.mo (fun _ _ q => ⟨q.1, Or.inr (Or.inr q.2)⟩) (fun _ _ q => q))) (by rw [f4.1 13 1 (by decide)]; exact hrow) r0 r5 (by omega) (by omega) w7 (fun e => by have := a0 e; omega) (fun e => ⟨by rw [f4.1 13 2 (by decide)]; exact (a1 e).1, by rw [(a1 e).2]; omega⟩) g4 eT
                · refine wp_iload dX0_spell_97 rfl ?_
                  refine wp_iret dX0_spell_99 (Or.inl rfl) ?_
                  rw [if_neg (by omega), if_neg h45, if_pos (Or.inr (by omega))] at eT
                  subst eT
                  refine hQ _ hf (fun q => absurd q ?_)
                  show ¬ ((k : Int) = -1)
                  omega
              · refine wp_bipush dX0_spell_85 (by decide) ?_
                refine wp_gotoN 94 dX0_spell_87 (by decide) ?_
                refine wp_ic_lt 100 dX0_spell_94 (by decide) (fun h94 => ?_) (fun h94 => ?_)
                · refine wp_aload_n dX0_spell_100 rfl ?_
                  refine wp_iload dX0_spell_101 rfl ?_
                  refine wp_V1 dX0_spell_103 vlX0_92 (by omega) rfl (Nat.le_of_ble_eq_true rfl) ?_
                  have hn35 : n < 35 := by
                    by_cases e : row = 0
                    · have := a0 e; omega
                    · have q := (a1 (by omega)).2
                      rw [mul_c r0 r5] at q
                      have := hw (by omega)
                      omega
                  refine s0_dig hN hn35 g (fun σ4 f4 g4 => ?_)
                  refine wp_iincN (L' := [some (vr _), some (vr _), some (vi _), some (vi _), some (vi _), some (vi _), some (vi _)]) dX0_spell_106 rfl (by omega) rfl ?_
                  refine wp_iincN (L' := [some (vr _), some (vr _), some (vi _), some (vi _), some (vi _), some (vi _), some (vi _)]) dX0_spell_109 rfl (by omega) rfl ?_
                  refine wp_gotoN 11 dX0_spell_112 (by decide) ?_
                  rw [if_neg (by omega), if_neg h45, if_neg (by omega)] at eT
                  exact ih (k + 1) row (col + 1) w (n + 1) _ σ4 _ _ (by omega) (hf.tr (f4.mo (fun _ _ q => ⟨q.1, Or.inr (Or.inr q.2)⟩) (fun _ _ q => q))) (by rw [f4.1 13 1 (by decide)]; exact hrow) r0 r5 (by omega) (by omega) w7 (fun e => by have := a0 e; omega) (fun e => ⟨by rw [f4.1 13 2 (by decide)]; exact (a1 e).1, by rw [(a1 e).2]; omega⟩) g4 eT
                · refine wp_iload dX0_spell_97 rfl ?_
                  refine wp_iret dX0_spell_99 (Or.inl rfl) ?_
                  have := a0 (by omega)
                  rw [if_neg (by omega), if_neg h45, if_pos (Or.inr (by omega))] at eT
                  subst eT
                  refine hQ _ hf (fun q => absurd q ?_)
                  show ¬ ((k : Int) = -1)
                  omega
          · refine wp_aload_n dX0_spell_48 rfl ?_
            refine wp_iload_n dX0_spell_49 rfl ?_
            refine wp_V1 dX0_spell_50 vlX0_84 (by omega) rfl (Nat.le_of_ble_eq_true rfl) ?_
            refine s0_ends hN (by omega) (by omega) (fun σ3 e1 e2 => ?_)
            refine wp_ifB_ne 59 dX0_spell_53 (by decide) (fun h53 => ?_) (fun h53 => ?_)
            · refine wp_iconst dX0_spell_59 (by decide) ?_
              refine wp_istN (L' := [some (vr _), some (vr _), some (vi _), some (vi _), some (vi _), some (vi _), _]) dX0_spell_60 (Nat.le_of_ble_eq_true rfl) rfl ?_
              refine wp_gotoN 109 dX0_spell_61 (by decide) ?_
              refine wp_iincN (L' := [some (vr _), some (vr _), some (vi _), some (vi _), some (vi _), some (vi _), _]) dX0_spell_109 rfl (by omega) rfl ?_
              refine wp_gotoN 11 dX0_spell_112 (by decide) ?_
              rw [if_neg (by omega), if_pos (by omega), if_neg (by omega)] at eT
              rw [e2 h53]
              have hw2 : (if row = 0 then col else w) = col := by
                by_cases e : row = 0
                · rw [if_pos e]
                · rw [if_neg e]; omega
              rw [hw2] at eT
              have hm : (row + 1) * col = (n : Int) - 0 := by
                by_cases e : row = 0
                · have := a0 e; rw [e]; omega
                · have q := a1 (by omega)
                  have e3 : col = w := by omega
                  rw [Int.add_mul, e3, q.2]; omega
              exact ih (k + 1) (row + 1) 0 col n kd _ _ _ (by omega) ((hf.put (by decide)).put (by decide)) (by rw [sI_eq, hrow]) (by omega) (by omega) (by omega) (by omega) (by omega) (fun e => by omega) (fun _ => ⟨by rw [sI_ne (by decide), sI_eq], hm⟩) ((g.i (by decide)).i (by decide)) eT
            · refine wp_iload dX0_spell_56 rfl ?_
              refine wp_iret dX0_spell_58 (Or.inl rfl) ?_
              have hF : col = 0 ∨ (0 < row ∧ col < w) := by omega
              rw [if_neg (by omega), if_pos (by omega), if_pos hF] at eT
              rw [e1 (by omega)]
              subst eT
              refine hQ _ hf (fun q => absurd q ?_)
              show ¬ ((k : Int) = -1)
              omega
        · refine wp_iload dX0_spell_38 rfl ?_
          refine wp_iret dX0_spell_40 (Or.inl rfl) ?_
          rw [if_pos (by omega)] at eT
          subst eT
          refine hQ _ hf (fun q => absurd q ?_)
          show ¬ ((k : Int) = -1)
          omega
set_option maxRecDepth 20000 in
theorem s0_spell {d : Nat} {σ : aS} {Q : aQ} {tx : Nat → Int} {len : Nat} {NC : Nat} {kd : Nat → Int} (hN : 18 ≤ NC) (hl : len ≤ 39) (ht : ∀ k, k < len → σ.1 1 k = tx k) (h1 : σ.1 13 1 = 0) (h2 : σ.1 13 2 = 0) (g : DG σ 0 kd) (hQ : ∀ σ2, FrQ sA dB σ σ2 → ((pf tx len len 0 0 0 0 7 kd).1 = -1 → σ2.1 13 1 = (pf tx len len 0 0 0 0 7 kd).2.1 ∧ σ2.1 13 2 = (pf tx len len 0 0 0 0 7 kd).2.2.1 ∧ DG σ2 (pf tx len len 0 0 0 0 7 kd).2.2.2.1.toNat (pf tx len len 0 0 0 0 7 kd).2.2.2.2) → Q (some (vi (pf tx len len 0 0 0 0 7 kd).1)) σ2) : aCall NC (d + 3) mX0_spell [vr 13, vr 1, vi (len : Int)] σ Q := by
  refine cl_in (own := RX0) (cc := cX0_spell) (rk := 0) (L := [some (vr 13), some (vr 1), some (vi (len : Int)), none, none, none, none]) rfl rfl rfl rfl (by decide) (Nat.le_of_ble_eq_true rfl) ?_
  have hb9 := h1
  refine wp_iload_n dX0_spell_0 rfl ?_
  refine wp_if_ne 6 dX0_spell_1 (by decide) (fun g1 => ?_) (fun g1 => ?_)
  · refine wp_iconst dX0_spell_6 (by decide) ?_
    refine wp_istN (L' := [some (vr _), some (vr _), some (vi _), some (vi _), none, none, none]) dX0_spell_7 (Nat.le_of_ble_eq_true rfl) rfl ?_
    refine wp_iconst dX0_spell_8 (by decide) ?_
    refine wp_ist (L' := [some (vr _), some (vr _), some (vi _), some (vi _), some (vi _), none, none]) dX0_spell_9 (Nat.le_of_ble_eq_true rfl) rfl ?_
    exact l0_spell hN hl (by omega) ht hQ len 0 0 0 7 0 kd σ _ _ (by omega) FrQ.rf h1 (by omega) (by omega) (by omega) (by omega) (by omega) (fun _ => ⟨rfl, rfl⟩) (fun e => absurd e (by omega)) g rfl
  · refine wp_iconst dX0_spell_4 (by decide) ?_
    refine wp_iret dX0_spell_5 (Or.inl rfl) ?_
    have e : len = 0 := by omega
    subst e
    exact hQ σ FrQ.rf (fun _ => ⟨h1, h2, g⟩)
