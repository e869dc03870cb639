def okCp (z : aZ) (s t : Nat) (i j n : Int) : Prop := 0 ≤ i ∧ 0 ≤ j ∧ 0 ≤ n ∧ i + n ≤ zz z s ∧ j + n ≤ zz z t
def cpK (z : aZ) (s t : Nat) (i j n : Nat) : aZ := mkS z (zh z) (zf z) (zz z) (up2 (zi z) t (fun k => if j ≤ k ∧ k < j + n then zi z s (i + (k - j)) else zi z t k)) (zg z)
noncomputable def vCopy (z : aZ) (s i t j n : Int) : Int := if isSh s ∧ isSh t then (if zh z s.toNat = 0 ∨ zh z t.toNat = 0 then -11 else if zf z s.toNat ≠ zf z t.toNat then -14 else cif (okCp z s.toNat t.toNat i j n) 1 (-12)) else -2
noncomputable def uCopy (z : aZ) (s i t j n : Int) : aZ := if isSh s ∧ isSh t then (if zh z s.toNat = 0 ∨ zh z t.toNat = 0 then zFind z 1 else if zf z s.toNat ≠ zf z t.toNat then zFind z 4 else cif (okCp z s.toNat t.toNat i j n) (cpK z s.toNat t.toNat i.toNat j.toNat n.toNat) (zFind z 2)) else z
theorem bv_i {x : Int} (h1 : -9223372036854775808 ≤ x) (h2 : x < 9223372036854775808) : (BitVec.ofInt 64 x).toInt = x := by
  rw [BitVec.toInt_ofInt]
  rw [Int.bmod_def]
  have e : ((2 ^ 64 : Nat) : Int) = 18446744073709551616 := by decide
  rw [e]
  split <;> omega
theorem lc_gt {a b s : Int} (ha : in32 a) (hb : in32 b) (hs : in32 s) : 0 < lcm (BitVec.ofInt 64 a + BitVec.ofInt 64 b) (BitVec.ofInt 64 s) ↔ s < a + b := by
  unfold in32 at ha hb hs
  have e1 : (BitVec.ofInt 64 a + BitVec.ofInt 64 b).toInt = a + b := by rw [← BitVec.ofInt_add]; exact bv_i (by omega) (by omega)
  have e2 : (BitVec.ofInt 64 s).toInt = s := bv_i (by omega) (by omega)
  unfold lcm
  rw [e1, e2]
  by_cases h : s < a + b
  · rw [if_pos h]; omega
  · rw [if_neg h]
    constructor
    · intro q
      split at q <;> omega
    · intro q; exact absurd q h
theorem MI_S {σ : aS} {z : aZ} {h f s : Nat → Int} {i : Nat → Nat → Int} {g : Int} : MI σ (mkS z h f s i g) ↔ (σ.1 18 1 = zl z ∧ (∀ k, k < zl z → σ.1 19 k = zx z k) ∧ σ.1 18 6 = zm z ∧ σ.1 18 7 = zt z ∧ σ.1 18 8 = zn z ∧ (∀ k, k < zn z → σ.1 21 k = zc z k ∧ σ.1 22 k = zs z k) ∧ σ.1 18 15 = zp z ∧ (∀ k, k < zp z → σ.1 27 k = zr z k ∧ σ.1 28 k = zu z k) ∧ (∀ q, q < 4 → σ.1 29 q = h q ∧ σ.1 30 q = f q ∧ σ.1 31 q = s q ∧ ∀ j, j < 48 → σ.1 32 (48 * q + j) = i q j) ∧ σ.1 18 23 = g) := Iff.rfl
theorem MI_cp {σ : aS} {z : aZ} {s t : Nat} {i j k k2 p : Nat} {x : Int} (hm : MI σ (cpK z s t i j k)) (ht : t < 4) (hj : j + k < 48) (hx : x = zi z s (i + k)) (hp : p = 48 * t + (j + k)) (hk2 : k2 = k + 1) : MI (sI σ 32 p x) (cpK z s t i j k2) := by
  unfold cpK at hm ⊢
  rw [MI_S] at hm ⊢
  obtain ⟨h1, h2, h3, h4, h5, h6, h7, h8, h9, h10⟩ := hm
  refine ⟨h1, h2, h3, h4, h5, h6, h7, h8, fun u hu => ⟨(h9 u hu).1, (h9 u hu).2.1, (h9 u hu).2.2.1, fun q hq => ?_⟩, h10⟩
  have h := (h9 u hu).2.2.2 q hq
  show (sI σ 32 p x).1 32 (48 * u + q) = up2 (zi z) t (fun k9 => if j ≤ k9 ∧ k9 < j + k2 then zi z s (i + (k9 - j)) else zi z t k9) u q
  rw [sI_at]
  unfold up2 at h ⊢
  by_cases hut : u = t
  · rw [if_pos hut] at h ⊢
    by_cases hqk : q = j + k
    · rw [if_pos ⟨rfl, by omega⟩]
      show x = if j ≤ q ∧ q < j + k2 then zi z s (i + (q - j)) else zi z t q
      rw [if_pos (by omega), hx, show i + (q - j) = i + k by omega]
    · rw [if_neg (fun w => by omega), h]
      show (if j ≤ q ∧ q < j + k then zi z s (i + (q - j)) else zi z t q) = if j ≤ q ∧ q < j + k2 then zi z s (i + (q - j)) else zi z t q
      by_cases hin : j ≤ q ∧ q < j + k
      · rw [if_pos hin, if_pos (by omega)]
      · rw [if_neg hin, if_neg (by omega)]
  · rw [if_neg hut] at h ⊢
    rw [if_neg (fun w => by omega)]
    exact h
theorem cp_0 {σ : aS} {z : aZ} {s t : Nat} {i j : Nat} (hm : MI σ z) : MI σ (cpK z s t i j 0) := by
  unfold cpK
  rw [MI_S]
  obtain ⟨h1, h2, h3, h4, h5, h6, h7, h8, h9, h10⟩ := hm
  refine ⟨h1, h2, h3, h4, h5, h6, h7, h8, fun u hu => ⟨(h9 u hu).1, (h9 u hu).2.1, (h9 u hu).2.2.1, fun q hq => ?_⟩, h10⟩
  show σ.1 32 (48 * u + q) = up2 (zi z) t (fun k9 => if j ≤ k9 ∧ k9 < j + 0 then zi z s (i + (k9 - j)) else zi z t k9) u q
  unfold up2
  by_cases hut : u = t
  · rw [if_pos hut]
    show _ = if j ≤ q ∧ q < j + 0 then zi z s (i + (q - j)) else zi z t q
    rw [if_neg (by omega), ← hut]
    exact (h9 u hu).2.2.2 q hq
  · rw [if_neg hut]; exact (h9 u hu).2.2.2 q hq
set_option maxRecDepth 20000 in
theorem l4_cp1 {d : Nat} {σ0 : aS} {Q : aQ} {z : aZ} {s i t j n : Int} (hz : ZV z) (hm0 : MI σ0 z) (hs : isSh s) (ht : isSh t) (hok : okCp z s.toNat t.toNat i j n) : ∀ (r : Nat) (k : Nat) (σ : aS), k + r = n.toNat → F1 33 σ0 σ → (∀ q, q < k → σ.1 33 q = zi z s.toNat (i.toNat + q)) → (∀ σ, F1 33 σ0 σ → (∀ q, q < n.toNat → σ.1 33 q = zi z s.toNat (i.toNat + q)) → Wp RX4 cX4_copy 34 (aCall 34 (d + 2)) Q 0 false 0 (fun _ => 0) 154 [some (vr 18), some (vi s), some (vi i), some (vi t), some (vi j), some (vi n), some (vi (n.toNat : Int))] [] σ) → Wp RX4 cX4_copy 34 (aCall 34 (d + 2)) Q 0 false 0 (fun _ => 0) 120 [some (vr 18), some (vi s), some (vi i), some (vi t), some (vi j), some (vi n), some (vi k)] [] σ := by
  intro r
  induction r with
  | zero =>
    intro k σ hk hF hI hK
    have hq0 := hm0.2.2.2.2.2.2.2.2.1 s.toNat (by omega)
    have hs48 := hz.2.2.2.2.2.2.2 s.toNat (by omega)
    have ht48 := hz.2.2.2.2.2.2.2 t.toNat (by omega)
    obtain ⟨o1, o2, o3, o4, o5⟩ := id hok
    refine wp_iload dX4_copy_120 rfl ?_
    refine wp_iload dX4_copy_122 rfl ?_
    refine wp_ic_ge 154 dX4_copy_124 (by decide) (fun hh124 => ?_) (fun hh124 => ?_)
    · have e : k = n.toNat := by omega
      subst e
      exact hK σ hF hI
    · exact absurd hk (by omega)
  | succ r ih =>
    intro k σ hk hF hI hK
    have hq0 := hm0.2.2.2.2.2.2.2.2.1 s.toNat (by omega)
    have hs48 := hz.2.2.2.2.2.2.2 s.toNat (by omega)
    have ht48 := hz.2.2.2.2.2.2.2 t.toNat (by omega)
    obtain ⟨o1, o2, o3, o4, o5⟩ := id hok
    refine wp_iload dX4_copy_120 rfl ?_
    refine wp_iload dX4_copy_122 rfl ?_
    refine wp_ic_ge 154 dX4_copy_124 (by decide) (fun hh124 => ?_) (fun hh124 => ?_)
    · exact absurd hk (by omega)
    · refine wp_aload_n dX4_copy_127 rfl ?_
      refine wp_getR dX4_copy_128 flX4_53 (by decide) rfl rfl ?_
      refine wp_iload dX4_copy_131 rfl ?_
      refine wp_aload_n dX4_copy_133 rfl ?_
      refine wp_getR dX4_copy_134 flX4_50 (by decide) rfl rfl ?_
      refine wp_bipush dX4_copy_137 (by decide) ?_
      refine wp_iload_n dX4_copy_139 rfl ?_
      refine wp_imulN dX4_copy_140 (by omega) ?_
      refine wp_iload_n dX4_copy_141 rfl ?_
      refine wp_iaddN dX4_copy_142 (by omega) ?_
      refine wp_iload dX4_copy_143 rfl ?_
      refine wp_iaddN dX4_copy_145 (by omega) ?_
      refine wp_iaload dX4_copy_146 (by decide) rfl (by omega) (by omega) (by decide) ?_
      rw [show (48 * s + i + (k : Int)).toNat = 48 * s.toNat + (i.toNat + k) by omega, hF.1 32 _ (by decide), hq0.2.2.2 (i.toNat + k) (by omega)]
      refine wp_iastore dX4_copy_147 (by decide) rfl (by omega) (by omega) (by decide) ?_
      refine wp_iincN (L' := [some (vr _), some (vi _), some (vi _), some (vi _), some (vi _), some (vi _), some (vi _)]) dX4_copy_148 rfl (by omega) rfl ?_
      refine wp_gotoN 120 dX4_copy_151 (by decide) ?_
      refine ih (k + 1) _ (by omega) hF.put (fun q hq => ?_) hK
      rw [sI_at, Int.toNat_natCast]
      by_cases e : q = k
      · rw [if_pos ⟨rfl, e⟩, e]
      · rw [if_neg (fun w => e w.2)]; exact hI q (by omega)
set_option maxRecDepth 20000 in
theorem l4_cp2 {d : Nat} {σ0 : aS} {Q : aQ} {z : aZ} {s i t j n : Int} (hz : ZV z) (hm0 : MI σ0 z) (hs : isSh s) (ht : isSh t) (hok : okCp z s.toNat t.toNat i j n) : ∀ (r : Nat) (k : Nat) (σ : aS), k + r = n.toNat → Frx σ0 σ → MI σ (cpK z s.toNat t.toNat i.toNat j.toNat k) → (∀ q, q < n.toNat → σ.1 33 q = zi z s.toNat (i.toNat + q)) → (∀ σ, Frx σ0 σ → MI σ (cpK z s.toNat t.toNat i.toNat j.toNat n.toNat) → Q (some (vi 1)) σ) → Wp RX4 cX4_copy 34 (aCall 34 (d + 2)) Q 0 false 0 (fun _ => 0) 157 [some (vr 18), some (vi s), some (vi i), some (vi t), some (vi j), some (vi n), some (vi k)] [] σ := by
  intro r
  induction r with
  | zero =>
    intro k σ hk hF hm hI hQ
    have hq0 := hm0.2.2.2.2.2.2.2.2.1 s.toNat (by omega)
    have hs48 := hz.2.2.2.2.2.2.2 s.toNat (by omega)
    have ht48 := hz.2.2.2.2.2.2.2 t.toNat (by omega)
    obtain ⟨o1, o2, o3, o4, o5⟩ := id hok
    refine wp_iload dX4_copy_157 rfl ?_
    refine wp_iload dX4_copy_159 rfl ?_
    refine wp_ic_ge 192 dX4_copy_161 (by decide) (fun hh161 => ?_) (fun hh161 => ?_)
    · refine wp_iconst dX4_copy_192 (by decide) ?_
      refine wp_iret dX4_copy_193 (Or.inl rfl) ?_
      have e : k = n.toNat := by omega
      subst e
      exact hQ σ hF hm
    · exact absurd hk (by omega)
  | succ r ih =>
    intro k σ hk hF hm hI hQ
    have hq0 := hm0.2.2.2.2.2.2.2.2.1 s.toNat (by omega)
    have hs48 := hz.2.2.2.2.2.2.2 s.toNat (by omega)
    have ht48 := hz.2.2.2.2.2.2.2 t.toNat (by omega)
    obtain ⟨o1, o2, o3, o4, o5⟩ := id hok
    refine wp_iload dX4_copy_157 rfl ?_
    refine wp_iload dX4_copy_159 rfl ?_
    refine wp_ic_ge 192 dX4_copy_161 (by decide) (fun hh161 => ?_) (fun hh161 => ?_)
    · exact absurd hk (by omega)
    · refine wp_aload_n dX4_copy_164 rfl ?_
      refine wp_getR dX4_copy_165 flX4_50 (by decide) rfl rfl ?_
      refine wp_bipush dX4_copy_168 (by decide) ?_
      refine wp_iload_n dX4_copy_170 rfl ?_
      refine wp_imulN dX4_copy_171 (by omega) ?_
      refine wp_iload dX4_copy_172 rfl ?_
      refine wp_iaddN dX4_copy_174 (by omega) ?_
      refine wp_iload dX4_copy_175 rfl ?_
      refine wp_iaddN dX4_copy_177 (by omega) ?_
      refine wp_aload_n dX4_copy_178 rfl ?_
      refine wp_getR dX4_copy_179 flX4_53 (by decide) rfl rfl ?_
      refine wp_iload dX4_copy_182 rfl ?_
      refine wp_iaload dX4_copy_184 (by decide) rfl (by omega) (by omega) (by decide) ?_
      rw [Int.toNat_natCast, hI k (by omega)]
      refine wp_iastore dX4_copy_185 (by decide) rfl (by omega) (by omega) (by decide) ?_
      refine wp_iincN (L' := [some (vr _), some (vi _), some (vi _), some (vi _), some (vi _), some (vi _), some (vi _)]) dX4_copy_186 rfl (by omega) rfl ?_
      refine wp_gotoN 157 dX4_copy_189 (by decide) ?_
      refine ih (k + 1) _ (by omega) (hF.put (by decide)) ?_ (fun q hq => by rw [sI_ne (fun w => absurd w.1 (by decide))]; exact hI q hq) hQ
      exact MI_cp (x := zi z s.toNat (i.toNat + k)) hm (show t.toNat < 4 by omega) (show j.toNat + k < 48 by omega) rfl (by omega) rfl
theorem F1.s33 {σ σ' : aS} (h : F1 33 σ σ') : Frm σ σ' := ⟨fun c k q => h.1 c k (fun e => q (by unfold scr; omega)), h.2⟩
set_option maxRecDepth 20000 in
theorem p4_copy {d : Nat} {σ : aS} {Q : aQ} {s i t j n : Int} {z : aZ} (hm : MI σ z) (hz : ZV z) (hi : in32 i) (hj : in32 j) (hn : in32 n) (hQ : ∀ σ', Frx σ σ' → MI σ' (uCopy z s i t j n) → Q (some (vi (vCopy z s i t j n))) σ') : aCall 34 (d + 3) mX4_copy [vr 18, vi s, vi i, vi t, vi j, vi n] σ Q := by
  refine cl_in (own := RX4) (cc := cX4_copy) (rk := 0) (L := [some (vr 18), some (vi s), some (vi i), some (vi t), some (vi j), some (vi n), none]) rfl rfl rfl rfl (by decide) (Nat.le_of_ble_eq_true rfl) ?_
  obtain ⟨h1, h2, h3, h4, h5, h6, h7, h8, h9, h10⟩ := id hm
  refine wp_iload_n dX4_copy_0 rfl ?_
  refine wp_S1 dX4_copy_1 zlX4_111 (Nat.le_of_ble_eq_true rfl) ?_
  refine s4_isSheet ?_
  refine wp_ifB_eq 14 dX4_copy_4 (by decide) (fun hh4 => ?_) (fun hh4 => ?_)
  · refine wp_bipush dX4_copy_14 (by decide) ?_
    refine wp_iret dX4_copy_16 (Or.inl rfl) ?_
    have e0 : vCopy z s i t j n = -2 := by unfold vCopy; rw [if_neg (by omega)]
    have e1 : uCopy z s i t j n = z := by unfold uCopy; rw [if_neg (by omega)]
    rw [e0, e1] at hQ
    exact hQ σ Frx.rf hm
  · refine wp_iload_n dX4_copy_7 rfl ?_
    refine wp_S1 dX4_copy_8 zlX4_111 (Nat.le_of_ble_eq_true rfl) ?_
    refine s4_isSheet ?_
    refine wp_ifB_ne 17 dX4_copy_11 (by decide) (fun hh11 => ?_) (fun hh11 => ?_)
    · have hq := h9 s.toNat (by omega)
      have hq2 := h9 t.toNat (by omega)
      have hs48 := hz.2.2.2.2.2.2.2 s.toNat (by omega)
      have ht48 := hz.2.2.2.2.2.2.2 t.toNat (by omega)
      refine wp_aload_n dX4_copy_17 rfl ?_
      refine wp_getR dX4_copy_18 flX4_41 (by decide) rfl rfl ?_
      refine wp_iload_n dX4_copy_21 rfl ?_
      refine wp_baload dX4_copy_22 (by decide) rfl (by omega) (by omega) (by decide) ?_
      refine wp_if_eq 35 dX4_copy_23 (by decide) (fun hh23 => ?_) (fun hh23 => ?_)
      · refine wp_aload_n dX4_copy_35 rfl ?_
        refine wp_iconst dX4_copy_36 (by decide) ?_
        refine wp_V1 dX4_copy_37 vlX4_114 (by decide) rfl (Nat.le_of_ble_eq_true rfl) ?_
        refine s4_meets (by omega) (by omega) ?_
        refine wp_iret dX4_copy_40 (Or.inl rfl) ?_
        have e0 : vCopy z s i t j n = -11 := by unfold vCopy; rw [if_pos (by omega), if_pos (by omega)]
        have e1 : uCopy z s i t j n = zFind z 1 := by unfold uCopy; rw [if_pos (by omega), if_pos (by omega)]
        rw [e0, e1] at hQ
        exact hQ _ (Frx.rf.put (by decide)) ⟨h1, h2, h3, h4, h5, h6, h7, h8, h9, rfl⟩
      · refine wp_aload_n dX4_copy_26 rfl ?_
        refine wp_getR dX4_copy_27 flX4_41 (by decide) rfl rfl ?_
        refine wp_iload_n dX4_copy_30 rfl ?_
        refine wp_baload dX4_copy_31 (by decide) rfl (by omega) (by omega) (by decide) ?_
        refine wp_if_ne 41 dX4_copy_32 (by decide) (fun hh32 => ?_) (fun hh32 => ?_)
        · refine wp_aload_n dX4_copy_41 rfl ?_
          refine wp_getR dX4_copy_42 flX4_44 (by decide) rfl rfl ?_
          refine wp_iload_n dX4_copy_45 rfl ?_
          refine wp_iaload dX4_copy_46 (by decide) rfl (by omega) (by omega) (by decide) ?_
          refine wp_aload_n dX4_copy_47 rfl ?_
          refine wp_getR dX4_copy_48 flX4_44 (by decide) rfl rfl ?_
          refine wp_iload_n dX4_copy_51 rfl ?_
          refine wp_iaload dX4_copy_52 (by decide) rfl (by omega) (by omega) (by decide) ?_
          refine wp_ic_eq 62 dX4_copy_53 (by decide) (fun hh53 => ?_) (fun hh53 => ?_)
          · refine wp_iload_n dX4_copy_62 rfl ?_
            refine wp_if_lt 111 dX4_copy_63 (by decide) (fun hh63 => ?_) (fun hh63 => ?_)
            · refine wp_aload_n dX4_copy_111 rfl ?_
              refine wp_iconst dX4_copy_112 (by decide) ?_
              refine wp_V1 dX4_copy_113 vlX4_114 (by decide) rfl (Nat.le_of_ble_eq_true rfl) ?_
              refine s4_meets (by omega) (by omega) ?_
              refine wp_iret dX4_copy_116 (Or.inl rfl) ?_
              have hno : ¬ okCp z s.toNat t.toNat i j n := by
                unfold okCp
                first
                | omega
                | (have := (lc_gt hi hn (show in32 (σ.1 31 s.toNat) from ⟨by omega, by omega⟩)).mp hh90; omega)
                | (have := (lc_gt hj hn (show in32 (σ.1 31 t.toNat) from ⟨by omega, by omega⟩)).mp (by omega); omega)
              have e0 : vCopy z s i t j n = -12 := by unfold vCopy; rw [if_pos (by omega), if_neg (by omega), if_neg (by omega), cif_f hno]
              have e1 : uCopy z s i t j n = zFind z 2 := by unfold uCopy; rw [if_pos (by omega), if_neg (by omega), if_neg (by omega), cif_f hno]
              rw [e0, e1] at hQ
              exact hQ _ (Frx.rf.put (by decide)) ⟨h1, h2, h3, h4, h5, h6, h7, h8, h9, rfl⟩
            · refine wp_iload dX4_copy_66 rfl ?_
              refine wp_if_lt 111 dX4_copy_68 (by decide) (fun hh68 => ?_) (fun hh68 => ?_)
              · refine wp_aload_n dX4_copy_111 rfl ?_
                refine wp_iconst dX4_copy_112 (by decide) ?_
                refine wp_V1 dX4_copy_113 vlX4_114 (by decide) rfl (Nat.le_of_ble_eq_true rfl) ?_
                refine s4_meets (by omega) (by omega) ?_
                refine wp_iret dX4_copy_116 (Or.inl rfl) ?_
                have hno : ¬ okCp z s.toNat t.toNat i j n := by
                  unfold okCp
                  first
                  | omega
                  | (have := (lc_gt hi hn (show in32 (σ.1 31 s.toNat) from ⟨by omega, by omega⟩)).mp hh90; omega)
                  | (have := (lc_gt hj hn (show in32 (σ.1 31 t.toNat) from ⟨by omega, by omega⟩)).mp (by omega); omega)
                have e0 : vCopy z s i t j n = -12 := by unfold vCopy; rw [if_pos (by omega), if_neg (by omega), if_neg (by omega), cif_f hno]
                have e1 : uCopy z s i t j n = zFind z 2 := by unfold uCopy; rw [if_pos (by omega), if_neg (by omega), if_neg (by omega), cif_f hno]
                rw [e0, e1] at hQ
                exact hQ _ (Frx.rf.put (by decide)) ⟨h1, h2, h3, h4, h5, h6, h7, h8, h9, rfl⟩
              · refine wp_iload dX4_copy_71 rfl ?_
                refine wp_if_lt 111 dX4_copy_73 (by decide) (fun hh73 => ?_) (fun hh73 => ?_)
                · refine wp_aload_n dX4_copy_111 rfl ?_
                  refine wp_iconst dX4_copy_112 (by decide) ?_
                  refine wp_V1 dX4_copy_113 vlX4_114 (by decide) rfl (Nat.le_of_ble_eq_true rfl) ?_
                  refine s4_meets (by omega) (by omega) ?_
                  refine wp_iret dX4_copy_116 (Or.inl rfl) ?_
                  have hno : ¬ okCp z s.toNat t.toNat i j n := by
                    unfold okCp
                    first
                    | omega
                    | (have := (lc_gt hi hn (show in32 (σ.1 31 s.toNat) from ⟨by omega, by omega⟩)).mp hh90; omega)
                    | (have := (lc_gt hj hn (show in32 (σ.1 31 t.toNat) from ⟨by omega, by omega⟩)).mp (by omega); omega)
                  have e0 : vCopy z s i t j n = -12 := by unfold vCopy; rw [if_pos (by omega), if_neg (by omega), if_neg (by omega), cif_f hno]
                  have e1 : uCopy z s i t j n = zFind z 2 := by unfold uCopy; rw [if_pos (by omega), if_neg (by omega), if_neg (by omega), cif_f hno]
                  rw [e0, e1] at hQ
                  exact hQ _ (Frx.rf.put (by decide)) ⟨h1, h2, h3, h4, h5, h6, h7, h8, h9, rfl⟩
                · refine wp_iload_n dX4_copy_76 rfl ?_
                  refine wp_i2l dX4_copy_77 ?_
                  refine wp_iload dX4_copy_78 rfl ?_
                  refine wp_i2l dX4_copy_80 ?_
                  refine wp_ladd dX4_copy_81 ?_
                  refine wp_aload_n dX4_copy_82 rfl ?_
                  refine wp_getR dX4_copy_83 flX4_47 (by decide) rfl rfl ?_
                  refine wp_iload_n dX4_copy_86 rfl ?_
                  refine wp_iaload dX4_copy_87 (by decide) rfl (by omega) (by omega) (by decide) ?_
                  refine wp_i2l dX4_copy_88 ?_
                  refine wp_lcmp dX4_copy_89 ?_
                  refine wp_if_gt 111 dX4_copy_90 (by decide) (fun hh90 => ?_) (fun hh90 => ?_)
                  · refine wp_aload_n dX4_copy_111 rfl ?_
                    refine wp_iconst dX4_copy_112 (by decide) ?_
                    refine wp_V1 dX4_copy_113 vlX4_114 (by decide) rfl (Nat.le_of_ble_eq_true rfl) ?_
                    refine s4_meets (by omega) (by omega) ?_
                    refine wp_iret dX4_copy_116 (Or.inl rfl) ?_
                    have hno : ¬ okCp z s.toNat t.toNat i j n := by
                      unfold okCp
                      first
                      | omega
                      | (have := (lc_gt hi hn (show in32 (σ.1 31 s.toNat) from ⟨by omega, by omega⟩)).mp hh90; omega)
                      | (have := (lc_gt hj hn (show in32 (σ.1 31 t.toNat) from ⟨by omega, by omega⟩)).mp (by omega); omega)
                    have e0 : vCopy z s i t j n = -12 := by unfold vCopy; rw [if_pos (by omega), if_neg (by omega), if_neg (by omega), cif_f hno]
                    have e1 : uCopy z s i t j n = zFind z 2 := by unfold uCopy; rw [if_pos (by omega), if_neg (by omega), if_neg (by omega), cif_f hno]
                    rw [e0, e1] at hQ
                    exact hQ _ (Frx.rf.put (by decide)) ⟨h1, h2, h3, h4, h5, h6, h7, h8, h9, rfl⟩
                  · have hh90 : σ.1 31 s.toNat < i + n → False := fun w => hh90 ((lc_gt hi hn (show in32 (σ.1 31 s.toNat) from ⟨by omega, by omega⟩)).mpr w)
                    refine wp_iload dX4_copy_93 rfl ?_
                    refine wp_i2l dX4_copy_95 ?_
                    refine wp_iload dX4_copy_96 rfl ?_
                    refine wp_i2l dX4_copy_98 ?_
                    refine wp_ladd dX4_copy_99 ?_
                    refine wp_aload_n dX4_copy_100 rfl ?_
                    refine wp_getR dX4_copy_101 flX4_47 (by decide) rfl rfl ?_
                    refine wp_iload_n dX4_copy_104 rfl ?_
                    refine wp_iaload dX4_copy_105 (by decide) rfl (by omega) (by omega) (by decide) ?_
                    refine wp_i2l dX4_copy_106 ?_
                    refine wp_lcmp dX4_copy_107 ?_
                    refine wp_if_le 117 dX4_copy_108 (by decide) (fun hh108 => ?_) (fun hh108 => ?_)
                    · have hh108 : σ.1 31 t.toNat < j + n → False := fun w => absurd ((lc_gt hj hn (show in32 (σ.1 31 t.toNat) from ⟨by omega, by omega⟩)).mpr w) (by omega)
                      have hle1 : i + n ≤ σ.1 31 s.toNat := by by_cases w : σ.1 31 s.toNat < i + n; exact (hh90 w).elim; omega
                      have hle2 : j + n ≤ σ.1 31 t.toNat := by by_cases w : σ.1 31 t.toNat < j + n; exact (hh108 w).elim; omega
                      refine wp_iconst dX4_copy_117 (by decide) ?_
                      refine wp_ist (L' := [some (vr _), some (vi _), some (vi _), some (vi _), some (vi _), some (vi _), some (vi _)]) dX4_copy_118 (Nat.le_of_ble_eq_true rfl) rfl ?_
                      have e0 : vCopy z s i t j n = 1 := by unfold vCopy; rw [if_pos (by omega), if_neg (by omega), if_neg (by omega), cif_t (show okCp z s.toNat t.toNat i j n from ⟨by omega, by omega, by omega, by omega, by omega⟩)]
                      have e1 : uCopy z s i t j n = cpK z s.toNat t.toNat i.toNat j.toNat n.toNat := by unfold uCopy; rw [if_pos (by omega), if_neg (by omega), if_neg (by omega), cif_t (show okCp z s.toNat t.toNat i j n from ⟨by omega, by omega, by omega, by omega, by omega⟩)]
                      rw [e0, e1] at hQ
                      refine l4_cp1 hz hm (by omega) (by omega) (show okCp z s.toNat t.toNat i j n from ⟨by omega, by omega, by omega, by omega, by omega⟩) n.toNat 0 σ (Nat.zero_add _) F1.rf (fun q hq => absurd hq (Nat.not_lt_zero q)) (fun σ2 hF2 hI2 => ?_)
                      refine wp_iconst dX4_copy_154 (by decide) ?_
                      refine wp_ist (L' := [some (vr _), some (vi _), some (vi _), some (vi _), some (vi _), some (vi _), some (vi _)]) dX4_copy_155 (Nat.le_of_ble_eq_true rfl) rfl ?_
                      exact l4_cp2 hz hm (by omega) (by omega) (show okCp z s.toNat t.toNat i j n from ⟨by omega, by omega, by omega, by omega, by omega⟩) n.toNat 0 σ2 (Nat.zero_add _) hF2.s33.x (cp_0 (hm.frm hF2.s33)) hI2 hQ
                    · refine wp_aload_n dX4_copy_111 rfl ?_
                      refine wp_iconst dX4_copy_112 (by decide) ?_
                      refine wp_V1 dX4_copy_113 vlX4_114 (by decide) rfl (Nat.le_of_ble_eq_true rfl) ?_
                      refine s4_meets (by omega) (by omega) ?_
                      refine wp_iret dX4_copy_116 (Or.inl rfl) ?_
                      have hno : ¬ okCp z s.toNat t.toNat i j n := by
                        unfold okCp
                        first
                        | omega
                        | (have := (lc_gt hi hn (show in32 (σ.1 31 s.toNat) from ⟨by omega, by omega⟩)).mp hh90; omega)
                        | (have := (lc_gt hj hn (show in32 (σ.1 31 t.toNat) from ⟨by omega, by omega⟩)).mp (by omega); omega)
                      have e0 : vCopy z s i t j n = -12 := by unfold vCopy; rw [if_pos (by omega), if_neg (by omega), if_neg (by omega), cif_f hno]
                      have e1 : uCopy z s i t j n = zFind z 2 := by unfold uCopy; rw [if_pos (by omega), if_neg (by omega), if_neg (by omega), cif_f hno]
                      rw [e0, e1] at hQ
                      exact hQ _ (Frx.rf.put (by decide)) ⟨h1, h2, h3, h4, h5, h6, h7, h8, h9, rfl⟩
          · refine wp_aload_n dX4_copy_56 rfl ?_
            refine wp_iconst dX4_copy_57 (by decide) ?_
            refine wp_V1 dX4_copy_58 vlX4_114 (by decide) rfl (Nat.le_of_ble_eq_true rfl) ?_
            refine s4_meets (by omega) (by omega) ?_
            refine wp_iret dX4_copy_61 (Or.inl rfl) ?_
            have e0 : vCopy z s i t j n = -14 := by unfold vCopy; rw [if_pos (by omega), if_neg (by omega), if_pos (by omega)]
            have e1 : uCopy z s i t j n = zFind z 4 := by unfold uCopy; rw [if_pos (by omega), if_neg (by omega), if_pos (by omega)]
            rw [e0, e1] at hQ
            exact hQ _ (Frx.rf.put (by decide)) ⟨h1, h2, h3, h4, h5, h6, h7, h8, h9, rfl⟩
        · refine wp_aload_n dX4_copy_35 rfl ?_
          refine wp_iconst dX4_copy_36 (by decide) ?_
          refine wp_V1 dX4_copy_37 vlX4_114 (by decide) rfl (Nat.le_of_ble_eq_true rfl) ?_
          refine s4_meets (by omega) (by omega) ?_
          refine wp_iret dX4_copy_40 (Or.inl rfl) ?_
          have e0 : vCopy z s i t j n = -11 := by unfold vCopy; rw [if_pos (by omega), if_pos (by omega)]
          have e1 : uCopy z s i t j n = zFind z 1 := by unfold uCopy; rw [if_pos (by omega), if_pos (by omega)]
          rw [e0, e1] at hQ
          exact hQ _ (Frx.rf.put (by decide)) ⟨h1, h2, h3, h4, h5, h6, h7, h8, h9, rfl⟩
    · refine wp_bipush dX4_copy_14 (by decide) ?_
      refine wp_iret dX4_copy_16 (Or.inl rfl) ?_
      have e0 : vCopy z s i t j n = -2 := by unfold vCopy; rw [if_neg (by omega)]
      have e1 : uCopy z s i t j n = z := by unfold uCopy; rw [if_neg (by omega)]
      rw [e0, e1] at hQ
      exact hQ σ Frx.rf hm
