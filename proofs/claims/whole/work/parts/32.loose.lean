theorem SB.an {x y : BitVec 64} {p q : Nat → Prop} (h : SB x p) (h' : SB y q) : SB (x &&& y) (fun i => p i ∧ q i) := fun i => by
  rw [BitVec.getLsbD_and, Bool.and_eq_true, h i, h' i]
theorem SB.sr {x : BitVec 64} {p : Nat → Prop} {w : Nat} (h : SB x p) : SB (x >>> w) (fun i => p (w + i)) := fun i => by
  rw [BitVec.getLsbD_ushiftRight]; exact h _
theorem SB.sl {x : BitVec 64} {p : Nat → Prop} {w : Nat} (h : SB x p) : SB (x <<< w) (fun i => i < 64 ∧ w ≤ i ∧ p (i - w)) := fun i => by
  rw [BitVec.getLsbD_shiftLeft, Bool.and_eq_true, Bool.and_eq_true, h (i - w)]
  simp only [Bool.not_eq_true', decide_eq_true_eq, decide_eq_false_iff_not, Nat.not_lt, and_assoc]
theorem SB.nt {x : BitVec 64} {p : Nat → Prop} (h : SB x p) : SB (x ^^^ 18446744073709551615#64) (fun i => i < 64 ∧ ¬ p i) := fun i => by
  have e : 18446744073709551615#64 = BitVec.allOnes 64 := by decide
  rw [e, BitVec.getLsbD_xor, BitVec.getLsbD_allOnes]
  show _ ↔ (i < 64 ∧ ¬ p i)
  rw [← h i]
  by_cases hi : i < 64
  · rw [decide_eq_true hi]
    cases x.getLsbD i <;> simp [hi]
  · rw [BitVec.getLsbD_of_ge _ _ (by omega), decide_eq_false hi]
    simp [hi]
/-- the CELLS below which one of them lies -/
def lsx (σ : aS) (x : BitVec 64) : BitVec 64 := x &&& ((σ.2 13 9 &&& (x <<< (σ.1 13 2).toNat)) ||| ((σ.2 13 9 ^^^ 18446744073709551615#64) &&& (x >>> (σ.1 13 2).toNat)))
set_option maxRecDepth 20000 in
theorem s0_loose {d : Nat} {σ : aS} {Q : aQ} {x : BitVec 64} {NC : Nat} (hN : 18 ≤ NC) (w0 : 0 ≤ σ.1 13 2) (w7 : σ.1 13 2 ≤ 7) (hQ : Q (some (vl (lsx σ x))) σ) : aCall NC (d + 1) mX0_loose [vr 13, vl x] σ Q := by
  refine cl_in (own := RX0) (cc := cX0_loose) (rk := 2) (L := [some (vr 13), some (vl x), none]) rfl rfl rfl rfl (by decide) (Nat.le_of_ble_eq_true rfl) ?_
  refine wp_lload_n dX0_loose_0 rfl ?_
  refine wp_aload_n dX0_loose_1 rfl ?_
  refine wp_getJ dX0_loose_2 flX0_77 (by omega) rfl rfl ?_
  refine wp_lload_n dX0_loose_5 rfl ?_
  refine wp_aload_n dX0_loose_6 rfl ?_
  refine wp_getI dX0_loose_7 flX0_65 (by omega) rfl (Or.inl rfl) ?_
  refine wp_lshl dX0_loose_10 (by omega) (by omega) ?_
  refine wp_land dX0_loose_11 ?_
  refine wp_aload_n dX0_loose_12 rfl ?_
  refine wp_getJ dX0_loose_13 flX0_77 (by omega) rfl rfl ?_
  refine wp_ldc2 dX0_loose_16 llX0_44 ?_
  refine wp_lxor dX0_loose_19 ?_
  refine wp_lload_n dX0_loose_20 rfl ?_
  refine wp_aload_n dX0_loose_21 rfl ?_
  refine wp_getI dX0_loose_22 flX0_65 (by omega) rfl (Or.inl rfl) ?_
  refine wp_lushr dX0_loose_25 (by omega) (by omega) ?_
  refine wp_land dX0_loose_26 ?_
  refine wp_lor dX0_loose_27 ?_
  refine wp_land dX0_loose_28 ?_
  refine wp_lret dX0_loose_29 rfl ?_
  exact hQ
abbrev nt (x : BitVec 64) : BitVec 64 := x ^^^ 18446744073709551615#64
abbrev wd (σ : aS) : Nat := (σ.1 13 2).toNat
abbrev mvF (σ : aS) : BitVec 64 := σ.2 13 4 &&& nt (σ.2 13 10)
abbrev mvO (σ : aS) : BitVec 64 := (σ.2 13 10 &&& (σ.2 13 4 <<< wd σ)) &&& (σ.2 13 5 ||| (σ.2 13 5 <<< wd σ))
abbrev mvU (σ : aS) : BitVec 64 := (σ.2 13 10 &&& (σ.2 13 4 >>> wd σ)) &&& (σ.2 13 5 ||| (σ.2 13 5 >>> wd σ))
/-- where a man goes from each CELL, as the plan marks it -/
def mvS (σ : aS) : aS := sJ (sJ (sJ (sJ (sJ (sJ σ 14 0 (mvO σ ||| (mvF σ &&& σ.2 13 9))) 14 1 ((σ.2 13 10 &&& nt (σ.2 13 7)) &&& (σ.2 13 4 <<< 1))) 14 2 ((σ.2 13 10 &&& nt (σ.2 13 8)) &&& (σ.2 13 4 >>> 1))) 14 3 (mvU σ ||| (mvF σ &&& nt (σ.2 13 9)))) 15 0 (nt (σ.2 13 9) &&& (σ.2 13 9 <<< wd σ))) 15 3 (σ.2 13 9 &&& nt (σ.2 13 9 >>> wd σ))
set_option maxRecDepth 20000 in
theorem s0_moves {d : Nat} {σ : aS} {Q : aQ} {NC : Nat} (hN : 18 ≤ NC) (w0 : 0 ≤ σ.1 13 2) (w7 : σ.1 13 2 ≤ 7) (hQ : Q none (mvS σ)) : aCall NC (d + 1) mX0_markMoves [vr 13] σ Q := by
  refine cl_in (own := RX0) (cc := cX0_markMoves) (rk := 3) (L := [some (vr 13), none, none, none, none, none, none]) rfl rfl rfl rfl (by decide) (Nat.le_of_ble_eq_true rfl) ?_
  refine wp_aload_n dX0_markMoves_0 rfl ?_
  refine wp_getJ dX0_markMoves_1 flX0_33 (by omega) rfl rfl ?_
  refine wp_aload_n dX0_markMoves_4 rfl ?_
  refine wp_getJ dX0_markMoves_5 flX0_46 (by omega) rfl rfl ?_
  refine wp_ldc2 dX0_markMoves_8 llX0_44 ?_
  refine wp_lxor dX0_markMoves_11 ?_
  refine wp_land dX0_markMoves_12 ?_
  refine wp_lstN (L' := [some (vr _), some (vl _), none, none, none, none, none]) dX0_markMoves_13 (Nat.le_of_ble_eq_true rfl) rfl ?_
  refine wp_aload_n dX0_markMoves_14 rfl ?_
  refine wp_getJ dX0_markMoves_15 flX0_46 (by omega) rfl rfl ?_
  refine wp_aload_n dX0_markMoves_18 rfl ?_
  refine wp_getJ dX0_markMoves_19 flX0_33 (by omega) rfl rfl ?_
  refine wp_aload_n dX0_markMoves_22 rfl ?_
  refine wp_getI dX0_markMoves_23 flX0_65 (by omega) rfl (Or.inl rfl) ?_
  refine wp_lshl dX0_markMoves_26 (by omega) (by omega) ?_
  refine wp_land dX0_markMoves_27 ?_
  refine wp_aload_n dX0_markMoves_28 rfl ?_
  refine wp_getJ dX0_markMoves_29 flX0_37 (by omega) rfl rfl ?_
  refine wp_aload_n dX0_markMoves_32 rfl ?_
  refine wp_getJ dX0_markMoves_33 flX0_37 (by omega) rfl rfl ?_
  refine wp_aload_n dX0_markMoves_36 rfl ?_
  refine wp_getI dX0_markMoves_37 flX0_65 (by omega) rfl (Or.inl rfl) ?_
  refine wp_lshl dX0_markMoves_40 (by omega) (by omega) ?_
  refine wp_lor dX0_markMoves_41 ?_
  refine wp_land dX0_markMoves_42 ?_
  refine wp_lstN (L' := [some (vr _), some (vl _), none, some (vl _), none, none, none]) dX0_markMoves_43 (Nat.le_of_ble_eq_true rfl) rfl ?_
  refine wp_aload_n dX0_markMoves_44 rfl ?_
  refine wp_getJ dX0_markMoves_45 flX0_46 (by omega) rfl rfl ?_
  refine wp_aload_n dX0_markMoves_48 rfl ?_
  refine wp_getJ dX0_markMoves_49 flX0_33 (by omega) rfl rfl ?_
  refine wp_aload_n dX0_markMoves_52 rfl ?_
  refine wp_getI dX0_markMoves_53 flX0_65 (by omega) rfl (Or.inl rfl) ?_
  refine wp_lushr dX0_markMoves_56 (by omega) (by omega) ?_
  refine wp_land dX0_markMoves_57 ?_
  refine wp_aload_n dX0_markMoves_58 rfl ?_
  refine wp_getJ dX0_markMoves_59 flX0_37 (by omega) rfl rfl ?_
  refine wp_aload_n dX0_markMoves_62 rfl ?_
  refine wp_getJ dX0_markMoves_63 flX0_37 (by omega) rfl rfl ?_
  refine wp_aload_n dX0_markMoves_66 rfl ?_
  refine wp_getI dX0_markMoves_67 flX0_65 (by omega) rfl (Or.inl rfl) ?_
  refine wp_lushr dX0_markMoves_70 (by omega) (by omega) ?_
  refine wp_lor dX0_markMoves_71 ?_
  refine wp_land dX0_markMoves_72 ?_
  refine wp_lst (L' := [some (vr _), some (vl _), none, some (vl _), none, some (vl _), none]) dX0_markMoves_73 (Nat.le_of_ble_eq_true rfl) rfl ?_
  refine wp_aload_n dX0_markMoves_75 rfl ?_
  refine wp_getR dX0_markMoves_76 flX0_9 (by omega) rfl rfl ?_
  refine wp_iconst dX0_markMoves_79 (by decide) ?_
  refine wp_lload_n dX0_markMoves_80 rfl ?_
  refine wp_lload_n dX0_markMoves_81 rfl ?_
  refine wp_aload_n dX0_markMoves_82 rfl ?_
  refine wp_getJ dX0_markMoves_83 flX0_77 (by omega) rfl rfl ?_
  refine wp_land dX0_markMoves_86 ?_
  refine wp_lor dX0_markMoves_87 ?_
  refine wp_lastore dX0_markMoves_88 (by omega) rfl (by omega) (by omega) (by decide) ?_
  refine wp_aload_n dX0_markMoves_89 rfl ?_
  refine wp_getR dX0_markMoves_90 flX0_9 (by omega) rfl rfl ?_
  refine wp_iconst dX0_markMoves_93 (by decide) ?_
  refine wp_aload_n dX0_markMoves_94 rfl ?_
  refine wp_getJ dX0_markMoves_95 flX0_46 (by omega) rfl rfl ?_
  rw [sJ_ne (fun q => absurd q.1 (by decide))]
  refine wp_aload_n dX0_markMoves_98 rfl ?_
  refine wp_getJ dX0_markMoves_99 flX0_71 (by omega) rfl rfl ?_
  rw [sJ_ne (fun q => absurd q.1 (by decide))]
  refine wp_ldc2 dX0_markMoves_102 llX0_44 ?_
  refine wp_lxor dX0_markMoves_105 ?_
  refine wp_land dX0_markMoves_106 ?_
  refine wp_aload_n dX0_markMoves_107 rfl ?_
  refine wp_getJ dX0_markMoves_108 flX0_33 (by omega) rfl rfl ?_
  rw [sJ_ne (fun q => absurd q.1 (by decide))]
  refine wp_iconst dX0_markMoves_111 (by decide) ?_
  refine wp_lshl dX0_markMoves_112 (by omega) (by omega) ?_
  refine wp_land dX0_markMoves_113 ?_
  refine wp_lastore dX0_markMoves_114 (by omega) rfl (by omega) (by omega) (by decide) ?_
  refine wp_aload_n dX0_markMoves_115 rfl ?_
  refine wp_getR dX0_markMoves_116 flX0_9 (by omega) rfl rfl ?_
  refine wp_iconst dX0_markMoves_119 (by decide) ?_
  refine wp_aload_n dX0_markMoves_120 rfl ?_
  refine wp_getJ dX0_markMoves_121 flX0_46 (by omega) rfl rfl ?_
  rw [sJ_ne (fun q => absurd q.1 (by decide))]
  rw [sJ_ne (fun q => absurd q.1 (by decide))]
  refine wp_aload_n dX0_markMoves_124 rfl ?_
  refine wp_getJ dX0_markMoves_125 flX0_74 (by omega) rfl rfl ?_
  rw [sJ_ne (fun q => absurd q.1 (by decide))]
  rw [sJ_ne (fun q => absurd q.1 (by decide))]
  refine wp_ldc2 dX0_markMoves_128 llX0_44 ?_
  refine wp_lxor dX0_markMoves_131 ?_
  refine wp_land dX0_markMoves_132 ?_
  refine wp_aload_n dX0_markMoves_133 rfl ?_
  refine wp_getJ dX0_markMoves_134 flX0_33 (by omega) rfl rfl ?_
  rw [sJ_ne (fun q => absurd q.1 (by decide))]
  rw [sJ_ne (fun q => absurd q.1 (by decide))]
  refine wp_iconst dX0_markMoves_137 (by decide) ?_
  refine wp_lushr dX0_markMoves_138 (by omega) (by omega) ?_
  refine wp_land dX0_markMoves_139 ?_
  refine wp_lastore dX0_markMoves_140 (by omega) rfl (by omega) (by omega) (by decide) ?_
  refine wp_aload_n dX0_markMoves_141 rfl ?_
  refine wp_getR dX0_markMoves_142 flX0_9 (by omega) rfl rfl ?_
  refine wp_iconst dX0_markMoves_145 (by decide) ?_
  refine wp_lload dX0_markMoves_146 rfl ?_
  refine wp_lload_n dX0_markMoves_148 rfl ?_
  refine wp_aload_n dX0_markMoves_149 rfl ?_
  refine wp_getJ dX0_markMoves_150 flX0_77 (by omega) rfl rfl ?_
  rw [sJ_ne (fun q => absurd q.1 (by decide))]
  rw [sJ_ne (fun q => absurd q.1 (by decide))]
  rw [sJ_ne (fun q => absurd q.1 (by decide))]
  refine wp_ldc2 dX0_markMoves_153 llX0_44 ?_
  refine wp_lxor dX0_markMoves_156 ?_
  refine wp_land dX0_markMoves_157 ?_
  refine wp_lor dX0_markMoves_158 ?_
  refine wp_lastore dX0_markMoves_159 (by omega) rfl (by omega) (by omega) (by decide) ?_
  refine wp_aload_n dX0_markMoves_160 rfl ?_
  refine wp_getR dX0_markMoves_161 flX0_15 (by omega) rfl rfl ?_
  refine wp_iconst dX0_markMoves_164 (by decide) ?_
  refine wp_aload_n dX0_markMoves_165 rfl ?_
  refine wp_getJ dX0_markMoves_166 flX0_77 (by omega) rfl rfl ?_
  rw [sJ_ne (fun q => absurd q.1 (by decide))]
  rw [sJ_ne (fun q => absurd q.1 (by decide))]
  rw [sJ_ne (fun q => absurd q.1 (by decide))]
  rw [sJ_ne (fun q => absurd q.1 (by decide))]
  refine wp_ldc2 dX0_markMoves_169 llX0_44 ?_
  refine wp_lxor dX0_markMoves_172 ?_
  refine wp_aload_n dX0_markMoves_173 rfl ?_
  refine wp_getJ dX0_markMoves_174 flX0_77 (by omega) rfl rfl ?_
  rw [sJ_ne (fun q => absurd q.1 (by decide))]
  rw [sJ_ne (fun q => absurd q.1 (by decide))]
  rw [sJ_ne (fun q => absurd q.1 (by decide))]
  rw [sJ_ne (fun q => absurd q.1 (by decide))]
  refine wp_aload_n dX0_markMoves_177 rfl ?_
  refine wp_getI dX0_markMoves_178 flX0_65 (by omega) rfl (Or.inl rfl) ?_
  rw [sJ_1]
  rw [sJ_1]
  rw [sJ_1]
  rw [sJ_1]
  refine wp_lshl dX0_markMoves_181 (by omega) (by omega) ?_
  refine wp_land dX0_markMoves_182 ?_
  refine wp_lastore dX0_markMoves_183 (by omega) rfl (by omega) (by omega) (by decide) ?_
  refine wp_aload_n dX0_markMoves_184 rfl ?_
  refine wp_getR dX0_markMoves_185 flX0_15 (by omega) rfl rfl ?_
  refine wp_iconst dX0_markMoves_188 (by decide) ?_
  refine wp_aload_n dX0_markMoves_189 rfl ?_
  refine wp_getJ dX0_markMoves_190 flX0_77 (by omega) rfl rfl ?_
  rw [sJ_ne (fun q => absurd q.1 (by decide))]
  rw [sJ_ne (fun q => absurd q.1 (by decide))]
  rw [sJ_ne (fun q => absurd q.1 (by decide))]
  rw [sJ_ne (fun q => absurd q.1 (by decide))]
  rw [sJ_ne (fun q => absurd q.1 (by decide))]
  refine wp_aload_n dX0_markMoves_193 rfl ?_
  refine wp_getJ dX0_markMoves_194 flX0_77 (by omega) rfl rfl ?_
  rw [sJ_ne (fun q => absurd q.1 (by decide))]
  rw [sJ_ne (fun q => absurd q.1 (by decide))]
  rw [sJ_ne (fun q => absurd q.1 (by decide))]
  rw [sJ_ne (fun q => absurd q.1 (by decide))]
  rw [sJ_ne (fun q => absurd q.1 (by decide))]
  refine wp_aload_n dX0_markMoves_197 rfl ?_
  refine wp_getI dX0_markMoves_198 flX0_65 (by omega) rfl (Or.inl rfl) ?_
  rw [sJ_1]
  rw [sJ_1]
  rw [sJ_1]
  rw [sJ_1]
  rw [sJ_1]
  refine wp_lushr dX0_markMoves_201 (by omega) (by omega) ?_
  refine wp_ldc2 dX0_markMoves_202 llX0_44 ?_
  refine wp_lxor dX0_markMoves_205 ?_
  refine wp_land dX0_markMoves_206 ?_
  refine wp_lastore dX0_markMoves_207 (by omega) rfl (by omega) (by omega) (by decide) ?_
  refine wp_vret dX0_markMoves_208 rfl ?_
  exact hQ
