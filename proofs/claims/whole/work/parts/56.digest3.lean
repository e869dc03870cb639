set_option maxRecDepth 20000 in
theorem s3_mixed {d : Nat} {σ : aS} {Q : aQ} {h m : BitVec 64} {NC : Nat} (hQ : Q (some (vl (31#64 * h + m))) σ) : aCall NC (d + 1) mX3_mixed [vl h, vl m] σ Q := by
  refine cl_in (own := RX3) (cc := cX3_mixed) (rk := 2) (L := [some (vl h), none, some (vl m), none]) rfl rfl rfl rfl (by decide) (Nat.le_of_ble_eq_true rfl) ?_
  refine wp_ldc2 dX3_mixed_0 llX3_296 ?_
  refine wp_lload_n dX3_mixed_3 rfl ?_
  refine wp_lmul dX3_mixed_4 ?_
  refine wp_lload_n dX3_mixed_5 rfl ?_
  refine wp_ladd dX3_mixed_6 ?_
  refine wp_lret dX3_mixed_7 rfl ?_
  exact hQ
set_option maxRecDepth 20000 in
theorem l3_d1 {d : Nat} {σ : aS} {Q : aQ} {z : aZ} (hc : CI σ z) (hz : ZV z) (hK : ∀ h : BitVec 64, h = ctN z 8 → Wp RX3 cX3_digest 34 (aCall 34 (d + 6)) Q 2 false 0 (fun _ => 0) 29 [some (vr 0), some (vl h), none, some (vi ((8 : Nat) : Int))] [] σ) : ∀ (r : Nat) (k : Nat) (h : BitVec 64), k + r = 8 → h = ctN z k → Wp RX3 cX3_digest 34 (aCall 34 (d + 6)) Q 2 false 0 (fun _ => 0) 6 [some (vr 0), some (vl h), none, some (vi (k : Int))] [] σ := by
  intro r
  induction r with
  | zero =>
    intro k h hk hh8
    refine wp_iload_n dX3_digest_6 rfl ?_
    refine wp_bipush dX3_digest_7 (by decide) ?_
    refine wp_ic_ge 29 dX3_digest_9 (by decide) (fun hh9 => ?_) (fun hh9 => ?_)
    · have e : k = 8 := by omega
      subst e
      exact hK _ hh8
    · exfalso; omega
  | succ r ih =>
    intro k h hk hh8
    refine wp_iload_n dX3_digest_6 rfl ?_
    refine wp_bipush dX3_digest_7 (by decide) ?_
    refine wp_ic_ge 29 dX3_digest_9 (by decide) (fun hh9 => ?_) (fun hh9 => ?_)
    · exfalso; omega
    · refine wp_lload_n dX3_digest_12 rfl ?_
      refine wp_aload_n dX3_digest_13 rfl ?_
      refine wp_iload_n dX3_digest_14 rfl ?_
      refine wp_V1 dX3_digest_15 vlX3_233 (by decide) rfl (Nat.le_of_ble_eq_true rfl) ?_
      refine p3_count hc hz ?_
      refine wp_i2l dX3_digest_18 ?_
      refine wp_S2 dX3_digest_19 zlX3_236 (Nat.le_of_ble_eq_true rfl) ?_
      refine s3_mixed ?_
      refine wp_lstN (L' := [some (vr _), some (vl _), none, some (vi _)]) dX3_digest_22 (Nat.le_of_ble_eq_true rfl) rfl ?_
      refine wp_iincN (L' := [some (vr _), some (vl _), none, some (vi _)]) dX3_digest_23 rfl (by omega) rfl ?_
      refine wp_gotoN 6 dX3_digest_26 (by decide) ?_
      exact ih (k + 1) _ (by omega) (by rw [hh8]; rfl)
set_option maxRecDepth 20000 in
theorem l3_d2 {d : Nat} {σ0 : aS} {Q : aQ} {z : aZ} {h0 : BitVec 64} (hz : ZV z) (hK : ∀ (h : BitVec 64) (σ : aS) (x3 : Option aV), Fry σ0 σ → CI σ z → h = cdN (Gz z) h0 (ggn (Gz z)).toNat → Wp RX3 cX3_digest 34 (aCall 34 (d + 6)) Q 2 false 0 (fun _ => 0) 166 [some (vr 0), some (vl h), none, x3] [] σ) : ∀ (r : Nat) (k : Nat) (h : BitVec 64) (σ : aS), k + r = (ggn (Gz z)).toNat → CI σ z → Fry σ0 σ → h = cdN (Gz z) h0 k → Wp RX3 cX3_digest 34 (aCall 34 (d + 6)) Q 2 false 0 (fun _ => 0) 41 [some (vr 0), some (vl h), none, some (vi (k : Int))] [] σ := by
  intro r
  induction r with
  | zero =>
    intro k h σ hk hc hy hh8
    have hn := hc.pl.n
    refine wp_iload_n dX3_digest_41 rfl ?_
    refine wp_aload_n dX3_digest_42 rfl ?_
    refine wp_getR dX3_digest_43 flX3_39 (by decide) rfl rfl ?_
    refine wp_getI dX3_digest_46 flX3_135 (by decide) rfl (Or.inl rfl) ?_
    refine wp_ic_ge 166 dX3_digest_49 (by decide) (fun hh49 => ?_) (fun hh49 => ?_)
    · have e : k = (ggn (Gz z)).toNat := by omega
      subst e
      exact hK _ _ _ hy hc hh8
    · exfalso; omega
  | succ r ih =>
    intro k h σ hk hc hy hh8
    have hn := hc.pl.n
    have v1 : vCell z k 0 = clv (Gz z) k 0 := by unfold vCell; rw [if_pos ⟨by omega, by omega⟩]
    have v2 : vCell z k 1 = clv (Gz z) k 1 := by unfold vCell; rw [if_pos ⟨by omega, by omega⟩]
    have v3 : vCell z k 2 = clv (Gz z) k 2 := by unfold vCell; rw [if_pos ⟨by omega, by omega⟩]
    have v4 : vReach z k = rhv (Gz z) k := by unfold vReach; rw [if_pos (by omega)]
    have v5 : vWet z k = wtv (Gz z) k := by unfold vWet; rw [if_pos (by omega)]
    have v6 : vWay z k 0 = wayv (Gz z) k 0 := by unfold vWay; rw [if_pos ⟨by omega, by omega⟩]
    have v7 : vNext z 0 k = nxv (Gz z) 0 k := by unfold vNext; rw [if_pos ⟨by omega, by omega⟩]
    have v8 : vFrom z k 2 (-1) = frv (Gz z) k 2 (-1) := by unfold vFrom; rw [if_pos ⟨by omega, by omega, by omega⟩]
    have v9 : vFrom z k 2 0 = frv (Gz z) k 2 0 := by unfold vFrom; rw [if_pos ⟨by omega, by omega, by omega⟩]
    refine wp_iload_n dX3_digest_41 rfl ?_
    refine wp_aload_n dX3_digest_42 rfl ?_
    refine wp_getR dX3_digest_43 flX3_39 (by decide) rfl rfl ?_
    refine wp_getI dX3_digest_46 flX3_135 (by decide) rfl (Or.inl rfl) ?_
    refine wp_ic_ge 166 dX3_digest_49 (by decide) (fun hh49 => ?_) (fun hh49 => ?_)
    · exfalso; omega
    · refine wp_lload_n dX3_digest_52 rfl ?_
      refine wp_aload_n dX3_digest_53 rfl ?_
      refine wp_iload_n dX3_digest_54 rfl ?_
      refine wp_iconst dX3_digest_55 (by decide) ?_
      refine wp_V2 dX3_digest_56 vlX3_244 (by decide) rfl (Nat.le_of_ble_eq_true rfl) ?_
      refine p3_cell hc hz ?_
      refine wp_i2l dX3_digest_59 ?_
      refine wp_S2 dX3_digest_60 zlX3_236 (Nat.le_of_ble_eq_true rfl) ?_
      refine s3_mixed ?_
      refine wp_lstN (L' := [some (vr _), some (vl _), none, some (vi _)]) dX3_digest_63 (Nat.le_of_ble_eq_true rfl) rfl ?_
      refine wp_lload_n dX3_digest_64 rfl ?_
      refine wp_aload_n dX3_digest_65 rfl ?_
      refine wp_iload_n dX3_digest_66 rfl ?_
      refine wp_iconst dX3_digest_67 (by decide) ?_
      refine wp_V2 dX3_digest_68 vlX3_244 (by decide) rfl (Nat.le_of_ble_eq_true rfl) ?_
      refine p3_cell hc hz ?_
      refine wp_i2l dX3_digest_71 ?_
      refine wp_S2 dX3_digest_72 zlX3_236 (Nat.le_of_ble_eq_true rfl) ?_
      refine s3_mixed ?_
      refine wp_lstN (L' := [some (vr _), some (vl _), none, some (vi _)]) dX3_digest_75 (Nat.le_of_ble_eq_true rfl) rfl ?_
      refine wp_lload_n dX3_digest_76 rfl ?_
      refine wp_aload_n dX3_digest_77 rfl ?_
      refine wp_iload_n dX3_digest_78 rfl ?_
      refine wp_iconst dX3_digest_79 (by decide) ?_
      refine wp_V2 dX3_digest_80 vlX3_244 (by decide) rfl (Nat.le_of_ble_eq_true rfl) ?_
      refine p3_cell hc hz ?_
      refine wp_i2l dX3_digest_83 ?_
      refine wp_S2 dX3_digest_84 zlX3_236 (Nat.le_of_ble_eq_true rfl) ?_
      refine s3_mixed ?_
      refine wp_lstN (L' := [some (vr _), some (vl _), none, some (vi _)]) dX3_digest_87 (Nat.le_of_ble_eq_true rfl) rfl ?_
      refine wp_lload_n dX3_digest_88 rfl ?_
      refine wp_aload_n dX3_digest_89 rfl ?_
      refine wp_iload_n dX3_digest_90 rfl ?_
      refine wp_V1 dX3_digest_91 vlX3_247 (by decide) rfl (Nat.le_of_ble_eq_true rfl) ?_
      refine p3_reach hc hz (fun σ2 y2 c2 => ?_)
      have hc := c2
      have hy := hy.tr y2
      refine wp_i2l dX3_digest_94 ?_
      refine wp_S2 dX3_digest_95 zlX3_236 (Nat.le_of_ble_eq_true rfl) ?_
      refine s3_mixed ?_
      refine wp_lstN (L' := [some (vr _), some (vl _), none, some (vi _)]) dX3_digest_98 (Nat.le_of_ble_eq_true rfl) rfl ?_
      refine wp_lload_n dX3_digest_99 rfl ?_
      refine wp_aload_n dX3_digest_100 rfl ?_
      refine wp_iload_n dX3_digest_101 rfl ?_
      refine wp_V1 dX3_digest_102 vlX3_250 (by decide) rfl (Nat.le_of_ble_eq_true rfl) ?_
      refine p3_wet hc hz ?_
      refine wp_i2l dX3_digest_105 ?_
      refine wp_S2 dX3_digest_106 zlX3_236 (Nat.le_of_ble_eq_true rfl) ?_
      refine s3_mixed ?_
      refine wp_lstN (L' := [some (vr _), some (vl _), none, some (vi _)]) dX3_digest_109 (Nat.le_of_ble_eq_true rfl) rfl ?_
      refine wp_lload_n dX3_digest_110 rfl ?_
      refine wp_aload_n dX3_digest_111 rfl ?_
      refine wp_iload_n dX3_digest_112 rfl ?_
      refine wp_iconst dX3_digest_113 (by decide) ?_
      refine wp_V2 dX3_digest_114 vlX3_253 (by decide) rfl (Nat.le_of_ble_eq_true rfl) ?_
      refine p3_way hc hz (fun σ2 y2 c2 => ?_)
      have hc := c2
      have hy := hy.tr y2
      refine wp_i2l dX3_digest_117 ?_
      refine wp_S2 dX3_digest_118 zlX3_236 (Nat.le_of_ble_eq_true rfl) ?_
      refine s3_mixed ?_
      refine wp_lstN (L' := [some (vr _), some (vl _), none, some (vi _)]) dX3_digest_121 (Nat.le_of_ble_eq_true rfl) rfl ?_
      refine wp_lload_n dX3_digest_122 rfl ?_
      refine wp_aload_n dX3_digest_123 rfl ?_
      refine wp_iconst dX3_digest_124 (by decide) ?_
      refine wp_iload_n dX3_digest_125 rfl ?_
      refine wp_V2 dX3_digest_126 vlX3_256 (by decide) rfl (Nat.le_of_ble_eq_true rfl) ?_
      refine p3_next hc hz (fun σ2 y2 c2 => ?_)
      have hc := c2
      have hy := hy.tr y2
      refine wp_i2l dX3_digest_129 ?_
      refine wp_S2 dX3_digest_130 zlX3_236 (Nat.le_of_ble_eq_true rfl) ?_
      refine s3_mixed ?_
      refine wp_lstN (L' := [some (vr _), some (vl _), none, some (vi _)]) dX3_digest_133 (Nat.le_of_ble_eq_true rfl) rfl ?_
      refine wp_lload_n dX3_digest_134 rfl ?_
      refine wp_aload_n dX3_digest_135 rfl ?_
      refine wp_iload_n dX3_digest_136 rfl ?_
      refine wp_iconst dX3_digest_137 (by decide) ?_
      refine wp_iconst dX3_digest_138 (by decide) ?_
      refine wp_V3 dX3_digest_139 vlX3_259 (by decide) rfl (Nat.le_of_ble_eq_true rfl) ?_
      refine p3_from hc hz ?_
      refine wp_i2l dX3_digest_142 ?_
      refine wp_S2 dX3_digest_143 zlX3_236 (Nat.le_of_ble_eq_true rfl) ?_
      refine s3_mixed ?_
      refine wp_lstN (L' := [some (vr _), some (vl _), none, some (vi _)]) dX3_digest_146 (Nat.le_of_ble_eq_true rfl) rfl ?_
      refine wp_lload_n dX3_digest_147 rfl ?_
      refine wp_aload_n dX3_digest_148 rfl ?_
      refine wp_iload_n dX3_digest_149 rfl ?_
      refine wp_iconst dX3_digest_150 (by decide) ?_
      refine wp_iconst dX3_digest_151 (by decide) ?_
      refine wp_V3 dX3_digest_152 vlX3_259 (by decide) rfl (Nat.le_of_ble_eq_true rfl) ?_
      refine p3_from hc hz ?_
      refine wp_i2l dX3_digest_155 ?_
      refine wp_S2 dX3_digest_156 zlX3_236 (Nat.le_of_ble_eq_true rfl) ?_
      refine s3_mixed ?_
      refine wp_lstN (L' := [some (vr _), some (vl _), none, some (vi _)]) dX3_digest_159 (Nat.le_of_ble_eq_true rfl) rfl ?_
      refine wp_iincN (L' := [some (vr _), some (vl _), none, some (vi _)]) dX3_digest_160 rfl (by omega) rfl ?_
      refine wp_gotoN 41 dX3_digest_163 (by decide) ?_
      exact ih (k + 1) _ _ (by omega) hc hy (by rw [v1, v2, v3, v4, v5, v6, v7, v8, v9, hh8]; rfl)
set_option maxRecDepth 20000 in
theorem l3_d3 {d : Nat} {σ : aS} {Q : aQ} {z : aZ} {h0 : BitVec 64} (hc : CI σ z) (hz : ZV z) (hK : ∀ (h : BitVec 64) (x3 : Option aV), h = tdN z h0 (zn z) → Wp RX3 cX3_digest 34 (aCall 34 (d + 6)) Q 2 false 0 (fun _ => 0) 218 [some (vr 0), some (vl h), none, x3] [] σ) : ∀ (r : Nat) (k : Nat) (h : BitVec 64), k + r = zn z → h = tdN z h0 k → Wp RX3 cX3_digest 34 (aCall 34 (d + 6)) Q 2 false 0 (fun _ => 0) 168 [some (vr 0), some (vl h), none, some (vi (k : Int))] [] σ := by
  intro r
  induction r with
  | zero =>
    intro k h hk hh8
    have hl := hz.2.2.2.1
    have h5 := hc.1.2.2.2.2.1
    refine wp_iload_n dX3_digest_168 rfl ?_
    refine wp_aload_n dX3_digest_169 rfl ?_
    refine wp_getI dX3_digest_170 flX3_87 (by decide) rfl (Or.inl rfl) ?_
    refine wp_ic_ge 218 dX3_digest_173 (by decide) (fun hh173 => ?_) (fun hh173 => ?_)
    · have e : k = zn z := by omega
      subst e
      exact hK _ _ hh8
    · exfalso; omega
  | succ r ih =>
    intro k h hk hh8
    have hl := hz.2.2.2.1
    have h5 := hc.1.2.2.2.2.1
    have v1 : vAt z k 5 = atv z k 5 := by unfold vAt; rw [if_pos ⟨by omega, by omega⟩]; rfl
    have v2 : vRests z k 0 = rsv z k 0 := by unfold vRests; rw [if_pos ⟨by omega, by omega⟩]; rfl
    have v3 : vRests z k 1 = rsv z k 1 := by unfold vRests; rw [if_pos ⟨by omega, by omega⟩]; rfl
    refine wp_iload_n dX3_digest_168 rfl ?_
    refine wp_aload_n dX3_digest_169 rfl ?_
    refine wp_getI dX3_digest_170 flX3_87 (by decide) rfl (Or.inl rfl) ?_
    refine wp_ic_ge 218 dX3_digest_173 (by decide) (fun hh173 => ?_) (fun hh173 => ?_)
    · exfalso; omega
    · refine wp_lload_n dX3_digest_176 rfl ?_
      refine wp_aload_n dX3_digest_177 rfl ?_
      refine wp_iload_n dX3_digest_178 rfl ?_
      refine wp_iconst dX3_digest_179 (by decide) ?_
      refine wp_V2 dX3_digest_180 vlX3_122 (by decide) rfl (Nat.le_of_ble_eq_true rfl) ?_
      refine p3_at hc hz ?_
      refine wp_i2l dX3_digest_183 ?_
      refine wp_S2 dX3_digest_184 zlX3_236 (Nat.le_of_ble_eq_true rfl) ?_
      refine s3_mixed ?_
      refine wp_lstN (L' := [some (vr _), some (vl _), none, some (vi _)]) dX3_digest_187 (Nat.le_of_ble_eq_true rfl) rfl ?_
      refine wp_lload_n dX3_digest_188 rfl ?_
      refine wp_aload_n dX3_digest_189 rfl ?_
      refine wp_iload_n dX3_digest_190 rfl ?_
      refine wp_iconst dX3_digest_191 (by decide) ?_
      refine wp_V2 dX3_digest_192 vlX3_262 (by decide) rfl (Nat.le_of_ble_eq_true rfl) ?_
      refine p3_rests hc hz ?_
      refine wp_i2l dX3_digest_195 ?_
      refine wp_S2 dX3_digest_196 zlX3_236 (Nat.le_of_ble_eq_true rfl) ?_
      refine s3_mixed ?_
      refine wp_lstN (L' := [some (vr _), some (vl _), none, some (vi _)]) dX3_digest_199 (Nat.le_of_ble_eq_true rfl) rfl ?_
      refine wp_lload_n dX3_digest_200 rfl ?_
      refine wp_aload_n dX3_digest_201 rfl ?_
      refine wp_iload_n dX3_digest_202 rfl ?_
      refine wp_iconst dX3_digest_203 (by decide) ?_
      refine wp_V2 dX3_digest_204 vlX3_262 (by decide) rfl (Nat.le_of_ble_eq_true rfl) ?_
      refine p3_rests hc hz ?_
      refine wp_i2l dX3_digest_207 ?_
      refine wp_S2 dX3_digest_208 zlX3_236 (Nat.le_of_ble_eq_true rfl) ?_
      refine s3_mixed ?_
      refine wp_lstN (L' := [some (vr _), some (vl _), none, some (vi _)]) dX3_digest_211 (Nat.le_of_ble_eq_true rfl) rfl ?_
      refine wp_iincN (L' := [some (vr _), some (vl _), none, some (vi _)]) dX3_digest_212 rfl (by omega) rfl ?_
      refine wp_gotoN 168 dX3_digest_215 (by decide) ?_
      exact ih (k + 1) _ (by omega) (by rw [v1, v2, v3, hh8]; rfl)
set_option maxRecDepth 20000 in
theorem p3_digest {d : Nat} {σ : aS} {Q : aQ} {z : aZ} (hc : CI σ z) (hz : ZV z) (hQ : ∀ σ', Fry σ σ' → CI σ' z → Q (some (vl (dgv z))) σ') : aCall 34 (d + 7) mX3_digest [vr 0] σ Q := by
  refine cl_in (own := RX3) (cc := cX3_digest) (rk := 2) (L := [some (vr 0), none, none, none]) rfl rfl rfl rfl (by decide) (Nat.le_of_ble_eq_true rfl) ?_
  refine wp_ldc2 dX3_digest_0 llX3_231 ?_
  refine wp_lstN (L' := [some (vr _), some (vl _), none, none]) dX3_digest_3 (Nat.le_of_ble_eq_true rfl) rfl ?_
  refine wp_iconst dX3_digest_4 (by decide) ?_
  refine wp_istN (L' := [some (vr _), some (vl _), none, some (vi _)]) dX3_digest_5 (Nat.le_of_ble_eq_true rfl) rfl ?_
  refine l3_d1 hc hz (fun h1 hh1 => ?_) 8 0 _ (by omega) rfl
  refine wp_lload_n dX3_digest_29 rfl ?_
  refine wp_aload_n dX3_digest_30 rfl ?_
  refine wp_V0 dX3_digest_31 vlX3_240 (by decide) rfl (Nat.le_of_ble_eq_true rfl) ?_
  refine p3_fault hc hz ?_
  refine wp_i2l dX3_digest_34 ?_
  refine wp_S2 dX3_digest_35 zlX3_236 (Nat.le_of_ble_eq_true rfl) ?_
  refine s3_mixed ?_
  refine wp_lstN (L' := [some (vr _), some (vl _), none, some (vi _)]) dX3_digest_38 (Nat.le_of_ble_eq_true rfl) rfl ?_
  refine wp_iconst dX3_digest_39 (by decide) ?_
  refine wp_istN (L' := [some (vr _), some (vl _), none, some (vi _)]) dX3_digest_40 (Nat.le_of_ble_eq_true rfl) rfl ?_
  refine l3_d2 (σ0 := σ) hz (fun h2 σ2 x3 hy hc hh2 => ?_) (ggn (Gz z)).toNat 0 _ _ (by have := hc.pl.n; omega) hc Fry.rf rfl
  refine wp_iconst dX3_digest_166 (by decide) ?_
  refine wp_istN (L' := [some (vr _), some (vl _), none, some (vi _)]) dX3_digest_167 (Nat.le_of_ble_eq_true rfl) rfl ?_
  refine l3_d3 hc hz (fun h3 x3 hh3 => ?_) (zn z) 0 _ (by omega) rfl
  refine wp_lload_n dX3_digest_218 rfl ?_
  refine wp_aload_n dX3_digest_219 rfl ?_
  refine wp_V0 dX3_digest_220 vlX3_265 (by decide) rfl (Nat.le_of_ble_eq_true rfl) ?_
  refine p3_longest hc hz ?_
  refine wp_i2l dX3_digest_223 ?_
  refine wp_S2 dX3_digest_224 zlX3_236 (Nat.le_of_ble_eq_true rfl) ?_
  refine s3_mixed ?_
  refine wp_lstN (L' := [some (vr _), some (vl _), none, _]) dX3_digest_227 (Nat.le_of_ble_eq_true rfl) rfl ?_
  refine wp_lload_n dX3_digest_228 rfl ?_
  refine wp_aload_n dX3_digest_229 rfl ?_
  refine wp_iconst dX3_digest_230 (by decide) ?_
  refine wp_iconst dX3_digest_231 (by decide) ?_
  refine wp_V2 dX3_digest_232 vlX3_268 (by decide) rfl (Nat.le_of_ble_eq_true rfl) ?_
  refine p3_meet hc hz ?_
  refine wp_i2l dX3_digest_235 ?_
  refine wp_S2 dX3_digest_236 zlX3_236 (Nat.le_of_ble_eq_true rfl) ?_
  refine s3_mixed ?_
  refine wp_lstN (L' := [some (vr _), some (vl _), none, _]) dX3_digest_239 (Nat.le_of_ble_eq_true rfl) rfl ?_
  refine wp_lload_n dX3_digest_240 rfl ?_
  refine wp_aload_n dX3_digest_241 rfl ?_
  refine wp_iconst dX3_digest_242 (by decide) ?_
  refine wp_iconst dX3_digest_243 (by decide) ?_
  refine wp_iconst dX3_digest_244 (by decide) ?_
  refine wp_V3 dX3_digest_245 vlX3_271 (by decide) rfl (Nat.le_of_ble_eq_true rfl) ?_
  refine p3_race hc hz (fun σ2 y2 c2 => ?_)
  have hc := c2
  have hy := hy.tr y2
  refine wp_i2l dX3_digest_248 ?_
  refine wp_S2 dX3_digest_249 zlX3_236 (Nat.le_of_ble_eq_true rfl) ?_
  refine s3_mixed ?_
  refine wp_lstN (L' := [some (vr _), some (vl _), none, _]) dX3_digest_252 (Nat.le_of_ble_eq_true rfl) rfl ?_
  refine wp_lload_n dX3_digest_253 rfl ?_
  refine wp_aload_n dX3_digest_254 rfl ?_
  refine wp_iconst dX3_digest_255 (by decide) ?_
  refine wp_iconst dX3_digest_256 (by decide) ?_
  refine wp_V2 dX3_digest_257 vlX3_274 (by decide) rfl (Nat.le_of_ble_eq_true rfl) ?_
  refine p3_plug hc hz ?_
  refine wp_i2l dX3_digest_260 ?_
  refine wp_S2 dX3_digest_261 zlX3_236 (Nat.le_of_ble_eq_true rfl) ?_
  refine s3_mixed ?_
  refine wp_lstN (L' := [some (vr _), some (vl _), none, _]) dX3_digest_264 (Nat.le_of_ble_eq_true rfl) rfl ?_
  refine wp_lload_n dX3_digest_265 rfl ?_
  refine wp_aload_n dX3_digest_266 rfl ?_
  refine wp_iconst dX3_digest_267 (by decide) ?_
  refine wp_iconst dX3_digest_268 (by decide) ?_
  refine wp_V2 dX3_digest_269 vlX3_274 (by decide) rfl (Nat.le_of_ble_eq_true rfl) ?_
  refine p3_plug hc hz ?_
  refine wp_i2l dX3_digest_272 ?_
  refine wp_S2 dX3_digest_273 zlX3_236 (Nat.le_of_ble_eq_true rfl) ?_
  refine s3_mixed ?_
  refine wp_lstN (L' := [some (vr _), some (vl _), none, _]) dX3_digest_276 (Nat.le_of_ble_eq_true rfl) rfl ?_
  refine wp_lload_n dX3_digest_277 rfl ?_
  refine wp_aload_n dX3_digest_278 rfl ?_
  refine wp_V0 dX3_digest_279 vlX3_277 (by decide) rfl (Nat.le_of_ble_eq_true rfl) ?_
  refine p3_where hc hz ?_
  refine wp_i2l dX3_digest_282 ?_
  refine wp_S2 dX3_digest_283 zlX3_236 (Nat.le_of_ble_eq_true rfl) ?_
  refine s3_mixed ?_
  refine wp_lstN (L' := [some (vr _), some (vl _), none, _]) dX3_digest_286 (Nat.le_of_ble_eq_true rfl) rfl ?_
  refine wp_lload_n dX3_digest_287 rfl ?_
  refine wp_aload_n dX3_digest_288 rfl ?_
  refine wp_V0 dX3_digest_289 vlX3_280 (by decide) rfl (Nat.le_of_ble_eq_true rfl) ?_
  refine p3_hang hc hz ?_
  refine wp_i2l dX3_digest_292 ?_
  refine wp_S2 dX3_digest_293 zlX3_236 (Nat.le_of_ble_eq_true rfl) ?_
  refine s3_mixed ?_
  refine wp_lstN (L' := [some (vr _), some (vl _), none, _]) dX3_digest_296 (Nat.le_of_ble_eq_true rfl) rfl ?_
  refine wp_lload_n dX3_digest_297 rfl ?_
  refine wp_aload_n dX3_digest_298 rfl ?_
  refine wp_V0 dX3_digest_299 vlX3_283 (by decide) rfl (Nat.le_of_ble_eq_true rfl) ?_
  refine p3_joined hc hz ?_
  refine wp_i2l dX3_digest_302 ?_
  refine wp_S2 dX3_digest_303 zlX3_236 (Nat.le_of_ble_eq_true rfl) ?_
  refine s3_mixed ?_
  refine wp_lstN (L' := [some (vr _), some (vl _), none, _]) dX3_digest_306 (Nat.le_of_ble_eq_true rfl) rfl ?_
  refine wp_lload_n dX3_digest_307 rfl ?_
  refine wp_aload_n dX3_digest_308 rfl ?_
  refine wp_iconst dX3_digest_309 (by decide) ?_
  refine wp_V1 dX3_digest_310 vlX3_286 (by decide) rfl (Nat.le_of_ble_eq_true rfl) ?_
  refine p3_like hc hz ?_
  refine wp_i2l dX3_digest_313 ?_
  refine wp_S2 dX3_digest_314 zlX3_236 (Nat.le_of_ble_eq_true rfl) ?_
  refine s3_mixed ?_
  refine wp_lstN (L' := [some (vr _), some (vl _), none, _]) dX3_digest_317 (Nat.le_of_ble_eq_true rfl) rfl ?_
  refine wp_lload_n dX3_digest_318 rfl ?_
  refine wp_aload_n dX3_digest_319 rfl ?_
  refine wp_iconst dX3_digest_320 (by decide) ?_
  refine wp_iconst dX3_digest_321 (by decide) ?_
  refine wp_iconst dX3_digest_322 (by decide) ?_
  refine wp_V3 dX3_digest_323 vlX3_289 (by decide) rfl (Nat.le_of_ble_eq_true rfl) ?_
  refine p3_flood hc hz ?_
  refine wp_S2 dX3_digest_326 zlX3_236 (Nat.le_of_ble_eq_true rfl) ?_
  refine s3_mixed ?_
  refine wp_lstN (L' := [some (vr _), some (vl _), none, _]) dX3_digest_329 (Nat.le_of_ble_eq_true rfl) rfl ?_
  refine wp_lload_n dX3_digest_330 rfl ?_
  refine wp_aload_n dX3_digest_331 rfl ?_
  refine wp_iconst dX3_digest_332 (by decide) ?_
  refine wp_iconst dX3_digest_333 (by decide) ?_
  refine wp_iconst dX3_digest_334 (by decide) ?_
  refine wp_V3 dX3_digest_335 vlX3_289 (by decide) rfl (Nat.le_of_ble_eq_true rfl) ?_
  refine p3_flood hc hz ?_
  refine wp_S2 dX3_digest_338 zlX3_236 (Nat.le_of_ble_eq_true rfl) ?_
  refine s3_mixed ?_
  refine wp_lstN (L' := [some (vr _), some (vl _), none, _]) dX3_digest_341 (Nat.le_of_ble_eq_true rfl) rfl ?_
  refine wp_lload_n dX3_digest_342 rfl ?_
  refine wp_aload_n dX3_digest_343 rfl ?_
  refine wp_bipush dX3_digest_344 (by decide) ?_
  refine wp_iconst dX3_digest_346 (by decide) ?_
  refine wp_bipush dX3_digest_347 (by decide) ?_
  refine wp_V3 dX3_digest_349 vlX3_293 (by decide) rfl (Nat.le_of_ble_eq_true rfl) ?_
  refine p3_kicks hc hz ?_
  refine wp_i2l dX3_digest_352 ?_
  refine wp_S2 dX3_digest_353 zlX3_236 (Nat.le_of_ble_eq_true rfl) ?_
  refine s3_mixed ?_
  refine wp_lret dX3_digest_356 rfl ?_
  refine q_l ?_ (hQ _ hy hc)
  rw [show vLike z 1 = lkv z 1 by unfold vLike; rw [if_pos ⟨by decide, by decide⟩], hh3, hh2, hh1]
  rfl
