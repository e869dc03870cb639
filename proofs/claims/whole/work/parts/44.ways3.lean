theorem Pth.app {g : aG} {a c y k : Int} (hg : GV g) (h : Pth g c a k) (y0 : 0 ≤ y) (y4 : y < 4) (hc : cst g c y < 1000000) : Pth g (tgt g c y) a (k + cst g c y) := by
  have ho := (cst_ok hg hc).2.2
  refine h (fun x j => Pth g (tgt g c y) x (j + cst g c y)) (fun _ => ?_) (fun x w j w0 w4 hx q => ?_)
  · rw [show (0 : Int) + cst g c y = cst g c y + 0 by omega]
    exact (Pth.z ho).s y0 y4 hc
  · rw [show cst g x w + j + cst g c y = cst g x w + (j + cst g c y) by omega]
    exact Pth.s q w0 w4 hx
theorem PN.pre {g : aG} (hg : GV g) {r : Nat} {p t : Nat → Int} (h : PN g (r + 1) p t) : PN g r p t := by
  obtain ⟨y, a1, a2, a3, a4, a5⟩ := h.2.2 r (by omega)
  exact ⟨h.1, (cst_ok hg a3).2.1, fun i hi => h.2.2 i (by omega)⟩
/-- a sweep of goOn: f0 at its beginning, f now -/
def SwW (g : aG) (a : Int) (f0 f : Nat → Int) (so B : Int) (chk : Nat → Int → Prop) : Prop :=
  (∀ c : Nat, (c : Int) < ggn g → (f c = -1 ∨ (0 ≤ f c ∧ f c ≤ B ∧ Pth g c a (f c))) ∧ (f0 c ≠ -1 → f c ≠ -1 ∧ f c ≤ f0 c)) ∧ (∀ (c : Nat) (y : Int), (c : Int) < ggn g → 0 ≤ y → y < 4 → chk c y → ceE g c y → f0 c ≠ -1 → f (tgt g c y).toNat ≠ -1 ∧ f (tgt g c y).toNat ≤ f0 c + cst g c y) ∧ (so = 0 ∨ so = 1) ∧ (so = 0 → ∀ c : Nat, (c : Int) < ggn g → f c = f0 c)
def ckS (c : Nat) (s : Int) (c' : Nat) (y' : Int) : Prop := c' < c ∨ (c' = c ∧ ∃ s' : Int, 0 ≤ s' ∧ s' < s ∧ sdY s' = y')
theorem SwW.mono {g : aG} {a : Int} {f0 f : Nat → Int} {so B B' : Int} {k k' : Nat → Int → Prop} (h : SwW g a f0 f so B k) (hB : B ≤ B') (hk : ∀ (c : Nat) (y : Int), (c : Int) < ggn g → 0 ≤ y → y < 4 → k' c y → ceE g c y → f0 c ≠ -1 → k c y ∨ (f (tgt g c y).toNat ≠ -1 ∧ f (tgt g c y).toNat ≤ f0 c + cst g c y)) : SwW g a f0 f so B' k' := by
  refine ⟨fun c hc => ⟨(h.1 c hc).1.elim Or.inl (fun q => Or.inr ⟨q.1, by omega, q.2.2⟩), (h.1 c hc).2⟩, fun c y hc y0 y4 q he h0 => ?_, h.2.2⟩
  rcases hk c y hc y0 y4 q he h0 with w | w
  · exact h.2.1 c y hc y0 y4 w he h0
  · exact w
theorem sdY_in {s : Int} : 0 ≤ sdY s ∧ sdY s < 4 := by
  unfold sdY
  repeat' split
  all_goals omega
theorem SwW.skip {g : aG} {a : Int} {f0 f : Nat → Int} {so B : Int} {c : Nat} {s : Int} (h : SwW g a f0 f so B (ckS c s)) (hk : ceE g c (sdY s) → f0 c ≠ -1 → f (tgt g c (sdY s)).toNat ≠ -1 ∧ f (tgt g c (sdY s)).toNat ≤ f0 c + cst g c (sdY s)) : SwW g a f0 f so B (ckS c (s + 1)) := h.mono (Int.le_refl _) (fun c' y' _ _ _ q he h0 => by
  rcases q with q | ⟨q1, s', q2, q3, q4⟩
  · exact Or.inl (Or.inl q)
  · by_cases e : s' = s
    · rw [e] at q4; subst q4; subst q1; exact Or.inr (hk he h0)
    · exact Or.inl (Or.inr ⟨q1, s', q2, by omega, q4⟩))
theorem SwW.row {g : aG} {a : Int} {f0 f : Nat → Int} {so B B' : Int} {c : Nat} (h : SwW g a f0 f so B (ckS c 4)) (hB : B ≤ B') : SwW g a f0 f so B' (ckS (c + 1) 0) := h.mono hB (fun c' y' _ y0 y4 q _ _ => Or.inl (by
  rcases q with q | ⟨-, s', q2, q3, -⟩
  · by_cases e : c' = c
    · refine Or.inr ⟨e, ?_⟩
      have : y' = 0 ∨ y' = 1 ∨ y' = 2 ∨ y' = 3 := by omega
      rcases this with rfl | rfl | rfl | rfl
      · exact ⟨1, by decide, by decide, by decide⟩
      · exact ⟨2, by decide, by decide, by decide⟩
      · exact ⟨0, by decide, by decide, by decide⟩
      · exact ⟨3, by decide, by decide, by decide⟩
    · exact Or.inl (by omega)
  · omega))
theorem SwW.none {g : aG} {a : Int} {f0 f : Nat → Int} {so B B' : Int} {c : Nat} (h : SwW g a f0 f so B (ckS c 0)) (hc : (c : Int) < ggn g) (hB : B ≤ B') (hf : f c = -1) : SwW g a f0 f so B' (ckS (c + 1) 0) := h.mono hB (fun c' y' _ y0 y4 q _ h0 => by
  rcases q with q | ⟨-, s', q2, q3, -⟩
  · by_cases e : c' = c
    · subst e; exact absurd hf ((h.1 c' hc).2 h0).1
    · exact Or.inl (Or.inl (by omega))
  · omega)
theorem SwW.set {g : aG} (hg : GV g) {a : Int} {f0 f : Nat → Int} {so B sp v : Int} {c : Nat} {s : Int} (h : SwW g a f0 f so B (ckS c s)) (hc : (c : Int) < ggn g) (he : ceE g c (sdY s)) (hp : Pth g c a sp) (s0 : 0 ≤ sp) (sB : sp + 10 ≤ B) (h0 : f0 c ≠ -1 → sp ≤ f0 c) (hv : v = sp + cst g c (sdY s)) (hl : f (tgt g c (sdY s)).toNat = -1 ∨ v < f (tgt g c (sdY s)).toNat) : SwW g a f0 (fun j => if j = (tgt g c (sdY s)).toNat then v else f j) 1 B (ckS c (s + 1)) := by
  have hco := cst_ok hg he
  have hto := opn_g hg hco.2.2
  have hy := sdY_in (s := s)
  have hpt := hp.app hg hy.1 hy.2 he
  refine ⟨fun c' hc' => ?_, fun c' y' hc' y0 y4 q he' hf0 => ?_, Or.inr rfl, fun q => absurd q (by decide)⟩
  · obtain ⟨a1, a2⟩ := h.1 c' hc'
    dsimp only
    by_cases e : c' = (tgt g c (sdY s)).toNat
    · rw [if_pos e]
      refine ⟨Or.inr ⟨by omega, by omega, ?_⟩, fun w => ⟨by omega, ?_⟩⟩
      · rw [show (c' : Int) = tgt g c (sdY s) by omega, hv]; exact hpt
      · have := a2 w
        rw [e] at this ⊢
        omega
    · rw [if_neg e]; exact ⟨a1, a2⟩
  · dsimp only
    by_cases e : (tgt g c' y').toNat = (tgt g c (sdY s)).toNat
    · rw [if_pos e]
      rcases q with q | ⟨q1, s', q2, q3, q4⟩
      · have := h.2.1 c' y' hc' y0 y4 (Or.inl q) he' hf0
        rw [e] at this
        omega
      · by_cases e2 : s' = s
        · rw [e2] at q4; subst q4; subst q1
          have := h0 hf0
          exact ⟨by omega, by omega⟩
        · have := h.2.1 c' y' hc' y0 y4 (Or.inr ⟨q1, s', q2, by omega, q4⟩) he' hf0
          rw [e] at this
          omega
    · rw [if_neg e]
      rcases q with q | ⟨q1, s', q2, q3, q4⟩
      · exact h.2.1 c' y' hc' y0 y4 (Or.inl q) he' hf0
      · by_cases e2 : s' = s
        · rw [e2] at q4; subst q4; subst q1; exact absurd rfl e
        · exact h.2.1 c' y' hc' y0 y4 (Or.inr ⟨q1, s', q2, by omega, q4⟩) he' hf0
/-- the row of a CELL in steps -/
abbrev rw17 (σ : aS) (a : Nat) : Nat → Int := fun j => σ.1 17 (35 * a + j)
abbrev A17 (a : Nat) (c k : Nat) : Prop := c = 17 ∧ 35 * a ≤ k ∧ k < 35 * a + 35
theorem rw17_put {σ : aS} {a c i : Nat} {x : Int} (h : i = 35 * a + c) : rw17 (sI σ 17 i x) a = fun j => if j = c then x else rw17 σ a j := by
  funext j
  show (if 17 = 17 ∧ 35 * a + j = i then x else σ.1 17 (35 * a + j)) = _
  by_cases e : j = c
  · rw [if_pos e, if_pos ⟨rfl, by omega⟩]
  · rw [if_neg e, if_neg (fun q => by omega)]
theorem PL.a17 {σ σ' : aS} {g : aG} {a : Nat} (h : PL σ g) (f : FrQ (A17 a) nA σ σ') : PL σ' g := h.fr f (fun _ q => absurd q.1 (by decide)) (fun _ q => q) (fun _ q => q) (fun _ q => q)
set_option maxRecDepth 20000 in
theorem s2_isSooner {d : Nat} {σ : aS} {Q : aQ} {a b : Int} {NC : Nat} (hQ : Q (some (vi (bi (b = -1 ∨ a < b)))) σ) : aCall NC (d + 1) mX2_isSooner [vi a, vi b] σ Q := by
  refine cl_in (own := RX2) (cc := cX2_isSooner) (rk := 1) (L := [some (vi a), some (vi b)]) rfl rfl rfl rfl (by decide) (Nat.le_of_ble_eq_true rfl) ?_
  refine wp_iload_n dX2_isSooner_0 rfl ?_
  refine wp_iconst dX2_isSooner_1 (by decide) ?_
  refine wp_ic_eq 10 dX2_isSooner_2 (by decide) (fun h2 => ?_) (fun h2 => ?_)
  · refine wp_iconst dX2_isSooner_10 (by decide) ?_
    refine wp_gotoN 15 dX2_isSooner_11 (by decide) ?_
    refine wp_iret dX2_isSooner_15 (Or.inr ⟨rfl, by decide⟩) ?_
    exact q_t (by omega) hQ
  · refine wp_iload_n dX2_isSooner_5 rfl ?_
    refine wp_iload_n dX2_isSooner_6 rfl ?_
    refine wp_ic_ge 14 dX2_isSooner_7 (by decide) (fun h7 => ?_) (fun h7 => ?_)
    · refine wp_iconst dX2_isSooner_14 (by decide) ?_
      refine wp_iret dX2_isSooner_15 (Or.inr ⟨rfl, by decide⟩) ?_
      exact q_f (by omega) hQ
    · refine wp_iconst dX2_isSooner_10 (by decide) ?_
      refine wp_gotoN 15 dX2_isSooner_11 (by decide) ?_
      refine wp_iret dX2_isSooner_15 (Or.inr ⟨rfl, by decide⟩) ?_
      exact q_t (by omega) hQ
set_option maxRecDepth 20000 in
theorem l2_gi {d : Nat} {σ0 : aS} {Q : aQ} {g : aG} {a : Nat} {f0 : Nat → Int} {B sp : Int} {k : Nat} (hp0 : PL σ0 g) (ht0 : σ0.1 16 3 = ggt g) (ha : a < 35) (hk : (k : Int) < ggn g) (s0 : 0 ≤ sp) (sB : sp + 10 ≤ B) (hB : B ≤ 100000) (hpt : Pth g k a sp) (h0 : f0 k ≠ -1 → sp ≤ f0 k) (hK : ∀ (so : Int) (σ : aS) (x5 x6 x7 : Option aV), FrQ (A17 a) nA σ0 σ → SwW g a f0 (rw17 σ a) so B (ckS k 4) → Wp RX2 cX2_goOn 34 (aCall 34 (d + 2)) Q 1 false 0 (fun _ => 0) 119 [some (vr 16), some (vi (35 * (a : Int))), some (vi so), some (vi (k : Int)), some (vi sp), x5, x6, x7] [] σ) : ∀ (r : Nat) (s : Nat) (so : Int) (σ : aS) (x6 x7 : Option aV), s + r = 4 → FrQ (A17 a) nA σ0 σ → SwW g a f0 (rw17 σ a) so B (ckS k s) → Wp RX2 cX2_goOn 34 (aCall 34 (d + 2)) Q 1 false 0 (fun _ => 0) 34 [some (vr 16), some (vi (35 * (a : Int))), some (vi so), some (vi (k : Int)), some (vi sp), some (vi (s : Int)), x6, x7] [] σ := by
  intro r
  induction r with
  | zero =>
    intro s so σ x6 x7 hs hf hI
    refine wp_iload dX2_goOn_34 rfl ?_
    refine wp_iconst dX2_goOn_36 (by decide) ?_
    refine wp_ic_ge 119 dX2_goOn_37 (by decide) (fun hh37 => ?_) (fun hh37 => ?_)
    · have e4 : s = 4 := by omega
      subst e4
      exact hK _ _ _ _ _ hf hI
    · exfalso; omega
  | succ r ih =>
    intro s so σ x6 x7 hs hf hI
    have hp := hp0.a17 hf
    have hg := hp.gv
    have hn := hp.n
    have ht : σ.1 16 3 = ggt g := by rw [hf.1 16 3 (fun q => absurd q.1 (by decide))]; exact ht0
    have t9 := hg.2.2.2.2.2.1
    have t10 := hg.2.2.2.2.2.2.1
    refine wp_iload dX2_goOn_34 rfl ?_
    refine wp_iconst dX2_goOn_36 (by decide) ?_
    refine wp_ic_ge 119 dX2_goOn_37 (by decide) (fun hh37 => ?_) (fun hh37 => ?_)
    · exfalso; omega
    · refine wp_iload dX2_goOn_40 rfl ?_
      refine wp_iconst dX2_goOn_42 (by decide) ?_
      refine wp_ic_eq 119 dX2_goOn_43 (by decide) (fun hh43 => ?_) (fun hh43 => ?_)
      · exfalso; omega
      · refine wp_aload_n dX2_goOn_46 rfl ?_
        refine wp_getR dX2_goOn_47 flX2_9 (by decide) rfl rfl ?_
        refine wp_iload_n dX2_goOn_50 rfl ?_
        refine wp_iload dX2_goOn_51 rfl ?_
        refine wp_V2 dX2_goOn_53 vlX2_54 (by decide) rfl (Nat.le_of_ble_eq_true rfl) ?_
        refine s0_goneTo hp (by omega) (by omega) ?_
        refine wp_ist (L' := [some (vr _), some (vi _), some (vi _), some (vi _), some (vi _), some (vi _), some (vi _), _]) dX2_goOn_56 (Nat.le_of_ble_eq_true rfl) rfl ?_
        refine wp_iload dX2_goOn_58 rfl ?_
        refine wp_aload_n dX2_goOn_60 rfl ?_
        refine wp_getR dX2_goOn_61 flX2_9 (by decide) rfl rfl ?_
        refine wp_iload_n dX2_goOn_64 rfl ?_
        refine wp_iload dX2_goOn_65 rfl ?_
        refine wp_aload_n dX2_goOn_67 rfl ?_
        refine wp_getI dX2_goOn_68 flX2_19 (by decide) rfl (Or.inl rfl) ?_
        refine wp_V3 dX2_goOn_71 vlX2_58 (by decide) rfl (Nat.le_of_ble_eq_true rfl) ?_
        refine s0_moveSteps hp (by omega) (by omega) (by omega) (by omega) (by omega) (fun mv hmv m1 m10 => ?_)
        refine wp_iaddN dX2_goOn_74 (by omega) ?_
        refine wp_ist (L' := [some (vr _), some (vi _), some (vi _), some (vi _), some (vi _), some (vi _), some (vi _), some (vi _)]) dX2_goOn_75 (Nat.le_of_ble_eq_true rfl) rfl ?_
        refine wp_iload dX2_goOn_77 rfl ?_
        refine wp_iconst dX2_goOn_79 (by decide) ?_
        refine wp_ic_eq 113 dX2_goOn_80 (by decide) (fun hh80 => ?_) (fun hh80 => ?_)
        · refine wp_iincN (L' := [some (vr _), some (vi _), some (vi _), some (vi _), some (vi _), some (vi _), some (vi _), some (vi _)]) dX2_goOn_113 rfl (by omega) rfl ?_
          refine wp_gotoN 34 dX2_goOn_116 (by decide) ?_
          refine ih (s + 1) so _ _ _ (by omega) hf (hI.skip (fun he _ => ?_))
          rw [cif_t he] at hh80
          have := (ceE_o hg he).2.1
          omega
        · have he : ceE g k (sdY s) := Classical.byContradiction (fun q => hh80 (by rw [cif_f q]))
          rw [cif_t he]
          have hto := opn_w hg (ceE_o hg he).2
          refine wp_iload dX2_goOn_83 rfl ?_
          refine wp_aload_n dX2_goOn_85 rfl ?_
          refine wp_getR dX2_goOn_86 flX2_15 (by decide) rfl rfl ?_
          refine wp_iload_n dX2_goOn_89 rfl ?_
          refine wp_iload dX2_goOn_90 rfl ?_
          refine wp_iaddN dX2_goOn_92 (by omega) ?_
          refine wp_iaload dX2_goOn_93 (by decide) rfl (by omega) (by omega) (by decide) ?_
          refine wp_S2 dX2_goOn_94 zlX2_62 (Nat.le_of_ble_eq_true rfl) ?_
          refine s2_isSooner ?_
          refine wp_ifB_eq 113 dX2_goOn_97 (by decide) (fun hh97 => ?_) (fun hh97 => ?_)
          · refine wp_iincN (L' := [some (vr _), some (vi _), some (vi _), some (vi _), some (vi _), some (vi _), some (vi _), some (vi _)]) dX2_goOn_113 rfl (by omega) rfl ?_
            refine wp_gotoN 34 dX2_goOn_116 (by decide) ?_
            refine ih (s + 1) so _ _ _ (by omega) hf (hI.skip (fun _ w => ?_))
            have := h0 w
            have := hmv he
            have en : (35 * (a : Int) + tgt g k (sdY s)).toNat = 35 * a + (tgt g k (sdY s)).toNat := by omega
            have e17 : σ.1 17 (35 * (a : Int) + tgt g k (sdY s)).toNat = rw17 σ a (tgt g k (sdY s)).toNat := by rw [en]
            omega
          · have hsn : rw17 σ a (tgt g k (sdY s)).toNat = -1 ∨ sp + mv < rw17 σ a (tgt g k (sdY s)).toNat := by
              have en : (35 * (a : Int) + tgt g k (sdY s)).toNat = 35 * a + (tgt g k (sdY s)).toNat := by omega
              rw [en] at hh97
              exact hh97
            refine wp_aload_n dX2_goOn_100 rfl ?_
            refine wp_getR dX2_goOn_101 flX2_15 (by decide) rfl rfl ?_
            refine wp_iload_n dX2_goOn_104 rfl ?_
            refine wp_iload dX2_goOn_105 rfl ?_
            refine wp_iaddN dX2_goOn_107 (by omega) ?_
            refine wp_iload dX2_goOn_108 rfl ?_
            refine wp_iastore dX2_goOn_110 (by decide) rfl (by omega) (by omega) (by decide) ?_
            refine wp_iconst dX2_goOn_111 (by decide) ?_
            refine wp_istN (L' := [some (vr _), some (vi _), some (vi _), some (vi _), some (vi _), some (vi _), some (vi _), some (vi _)]) dX2_goOn_112 (Nat.le_of_ble_eq_true rfl) rfl ?_
            refine wp_iincN (L' := [some (vr _), some (vi _), some (vi _), some (vi _), some (vi _), some (vi _), some (vi _), some (vi _)]) dX2_goOn_113 rfl (by omega) rfl ?_
            refine wp_gotoN 34 dX2_goOn_116 (by decide) ?_
            refine ih (s + 1) 1 _ _ _ (by omega) (hf.put ⟨rfl, by omega, by omega⟩) ?_
            rw [rw17_put (a := a) (c := (tgt g k (sdY s)).toNat) (by omega)]
            exact hI.set hg hk he hpt s0 sB h0 (by rw [hmv he]) hsn
set_option maxRecDepth 20000 in
theorem l2_go {d : Nat} {σ0 : aS} {Q : aQ} {g : aG} {a : Nat} {f0 : Nat → Int} {B : Int} (hp0 : PL σ0 g) (ht0 : σ0.1 16 3 = ggt g) (ha : a < 35) (hB0 : 0 ≤ B) (hB : B ≤ 90000) (hQ : ∀ (so : Int) (σ : aS), FrQ (A17 a) nA σ0 σ → SwW g a f0 (rw17 σ a) so (B + 350) (ckS (ggn g).toNat 0) → Q (some (vi so)) σ) : ∀ (r : Nat) (k : Nat) (so : Int) (σ : aS) (x4 x5 x6 x7 : Option aV), k + r = (ggn g).toNat → FrQ (A17 a) nA σ0 σ → SwW g a f0 (rw17 σ a) so (B + 10 * k) (ckS k 0) → Wp RX2 cX2_goOn 34 (aCall 34 (d + 2)) Q 1 false 0 (fun _ => 0) 4 [some (vr 16), some (vi (35 * (a : Int))), some (vi so), some (vi (k : Int)), x4, x5, x6, x7] [] σ := by
  intro r
  induction r with
  | zero =>
    intro k so σ x4 x5 x6 x7 hk hf hI
    have hp := hp0.a17 hf
    have hg := hp.gv
    have hn := hp.n
    have hso := hI.2.2.1
    refine wp_iload_n dX2_goOn_4 rfl ?_
    refine wp_aload_n dX2_goOn_5 rfl ?_
    refine wp_getR dX2_goOn_6 flX2_9 (by decide) rfl rfl ?_
    refine wp_getI dX2_goOn_9 flX2_51 (by decide) rfl (Or.inl rfl) ?_
    refine wp_ic_ge 125 dX2_goOn_12 (by decide) (fun hh12 => ?_) (fun hh12 => ?_)
    · refine wp_iload_n dX2_goOn_125 rfl ?_
      refine wp_iret dX2_goOn_126 (Or.inr ⟨rfl, by omega⟩) ?_
      have ek : k = (ggn g).toNat := by omega
      subst ek
      exact hQ _ _ hf (hI.mono (by omega) (fun _ _ _ _ _ q _ _ => Or.inl q))
    · exfalso; omega
  | succ r ih =>
    intro k so σ x4 x5 x6 x7 hk hf hI
    have hp := hp0.a17 hf
    have hg := hp.gv
    have hn := hp.n
    have e17 : σ.1 17 (35 * (a : Int) + (k : Int)).toNat = rw17 σ a k := by rw [show (35 * (a : Int) + (k : Int)).toNat = 35 * a + k by omega]
    refine wp_iload_n dX2_goOn_4 rfl ?_
    refine wp_aload_n dX2_goOn_5 rfl ?_
    refine wp_getR dX2_goOn_6 flX2_9 (by decide) rfl rfl ?_
    refine wp_getI dX2_goOn_9 flX2_51 (by decide) rfl (Or.inl rfl) ?_
    refine wp_ic_ge 125 dX2_goOn_12 (by decide) (fun hh12 => ?_) (fun hh12 => ?_)
    · exfalso; omega
    · refine wp_iload_n dX2_goOn_15 rfl ?_
      refine wp_bipush dX2_goOn_16 (by decide) ?_
      refine wp_ic_ge 125 dX2_goOn_18 (by decide) (fun hh18 => ?_) (fun hh18 => ?_)
      · exfalso; omega
      · refine wp_aload_n dX2_goOn_21 rfl ?_
        refine wp_getR dX2_goOn_22 flX2_15 (by decide) rfl rfl ?_
        refine wp_iload_n dX2_goOn_25 rfl ?_
        refine wp_iload_n dX2_goOn_26 rfl ?_
        refine wp_iaddN dX2_goOn_27 (by omega) ?_
        refine wp_iaload dX2_goOn_28 (by decide) rfl (by omega) (by omega) (by decide) ?_
        refine wp_ist (L' := [some (vr _), some (vi _), some (vi _), some (vi _), some (vi _), _, _, _]) dX2_goOn_29 (Nat.le_of_ble_eq_true rfl) rfl ?_
        refine wp_iconst dX2_goOn_31 (by decide) ?_
        refine wp_ist (L' := [some (vr _), some (vi _), some (vi _), some (vi _), some (vi _), some (vi _), _, _]) dX2_goOn_32 (Nat.le_of_ble_eq_true rfl) rfl ?_
        rw [e17]
        by_cases hs : rw17 σ a k = -1
        · refine wp_iload dX2_goOn_34 rfl ?_
          refine wp_iconst dX2_goOn_36 (by decide) ?_
          refine wp_ic_ge 119 dX2_goOn_37 (by decide) (fun hh37 => ?_) (fun hh37 => ?_)
          · exact absurd hh37 (by decide)
          · refine wp_iload dX2_goOn_40 rfl ?_
            refine wp_iconst dX2_goOn_42 (by decide) ?_
            refine wp_ic_eq 119 dX2_goOn_43 (by decide) (fun hh43 => ?_) (fun hh43 => ?_)
            · refine wp_iincN (L' := [some (vr _), some (vi _), some (vi _), some (vi _), some (vi _), some (vi _), _, _]) dX2_goOn_119 rfl (by omega) rfl ?_
              refine wp_gotoN 4 dX2_goOn_122 (by decide) ?_
              exact ih (k + 1) so _ _ _ _ _ (by omega) hf (hI.none (by omega) (by omega) hs)
            · exfalso; omega
        · obtain ⟨q1, q2⟩ := hI.1 k (by omega)
          have q1 := q1.resolve_left hs
          refine l2_gi (d := d) (B := B + 10 * k + 10) hp0 ht0 ha (by omega) q1.1 (by omega) (by omega) q1.2.2 (fun w => (q2 w).2) (fun so2 σ2 x5 x6 x7 hf2 hI2 => ?_) 4 0 so σ _ _ (by omega) hf (hI.mono (by omega) (fun _ _ _ _ _ q _ _ => Or.inl q))
          refine wp_iincN (L' := [some (vr _), some (vi _), some (vi _), some (vi _), some (vi _), _, _, _]) dX2_goOn_119 rfl (by omega) rfl ?_
          refine wp_gotoN 4 dX2_goOn_122 (by decide) ?_
          exact ih (k + 1) so2 _ _ _ _ _ (by omega) hf2 (hI2.row (by omega))
set_option maxRecDepth 20000 in
theorem s2_goOn {d : Nat} {σ : aS} {Q : aQ} {g : aG} {a : Nat} {B : Int} (hp : PL σ g) (ht : σ.1 16 3 = ggt g) (ha : a < 35) (hB0 : 0 ≤ B) (hB : B ≤ 90000) (hI : ∀ c : Nat, (c : Int) < ggn g → (rw17 σ a c = -1 ∨ (0 ≤ rw17 σ a c ∧ rw17 σ a c ≤ B ∧ Pth g c a (rw17 σ a c)))) (hQ : ∀ (so : Int) (σ' : aS), FrQ (A17 a) nA σ σ' → SwW g a (rw17 σ a) (rw17 σ' a) so (B + 350) (ckS (ggn g).toNat 0) → Q (some (vi so)) σ') : aCall 34 (d + 3) mX2_goOn [vr 16, vi (35 * (a : Int))] σ Q := by
  refine cl_in (own := RX2) (cc := cX2_goOn) (rk := 1) (L := [some (vr 16), some (vi (35 * (a : Int))), none, none, none, none, none, none]) rfl rfl rfl rfl (by decide) (Nat.le_of_ble_eq_true rfl) ?_
  refine wp_iconst dX2_goOn_0 (by decide) ?_
  refine wp_istN (L' := [some (vr _), some (vi _), some (vi _), none, none, none, none, none]) dX2_goOn_1 (Nat.le_of_ble_eq_true rfl) rfl ?_
  refine wp_iconst dX2_goOn_2 (by decide) ?_
  refine wp_istN (L' := [some (vr _), some (vi _), some (vi _), some (vi _), none, none, none, none]) dX2_goOn_3 (Nat.le_of_ble_eq_true rfl) rfl ?_
  refine l2_go hp ht ha hB0 hB hQ (ggn g).toNat 0 0 σ _ _ _ _ (by omega) FrQ.rf ⟨fun c hc => ⟨?_, fun w => ⟨w, Int.le_refl _⟩⟩, fun c y _ _ _ q => ?_, Or.inl rfl, fun _ _ _ => rfl⟩
  · exact (hI c hc).elim Or.inl (fun q => Or.inr ⟨q.1, by omega, q.2.2⟩)
  · rcases q with q | ⟨-, s', q2, q3, -⟩
    · exact absurd q (Nat.not_lt_zero c)
    · omega
