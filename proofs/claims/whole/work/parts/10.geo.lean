set_option maxRecDepth 20000 in
theorem s4_in {d : Nat} {σ : aS} {Q : aQ} {v a b : Int} {NC : Nat} (hQ : Q (some (vi (bi (a ≤ v ∧ v ≤ b)))) σ) : aCall NC (d + 1) mX4_in [vi v, vi a, vi b] σ Q := by
  refine cl_in (own := RX4) (cc := cX4_in) (rk := 1) (L := [some (vi v), some (vi a), some (vi b)]) rfl rfl rfl rfl (by decide) (Nat.le_of_ble_eq_true rfl) ?_
  refine wp_iload_n dX4_in_0 rfl ?_
  refine wp_iload_n dX4_in_1 rfl ?_
  refine wp_ic_lt 14 dX4_in_2 (by decide) (fun h2 => ?_) (fun h2 => ?_)
  · refine wp_iconst dX4_in_14 (by decide) ?_
    refine wp_iret dX4_in_15 (Or.inr ⟨rfl, by decide⟩) ?_
    exact q_f (by omega) hQ
  · refine wp_iload_n dX4_in_5 rfl ?_
    refine wp_iload_n dX4_in_6 rfl ?_
    refine wp_ic_gt 14 dX4_in_7 (by decide) (fun h7 => ?_) (fun h7 => ?_)
    · refine wp_iconst dX4_in_14 (by decide) ?_
      refine wp_iret dX4_in_15 (Or.inr ⟨rfl, by decide⟩) ?_
      exact q_f (by omega) hQ
    · refine wp_iconst dX4_in_10 (by decide) ?_
      refine wp_gotoN 15 dX4_in_11 (by decide) ?_
      refine wp_iret dX4_in_15 (Or.inr ⟨rfl, by decide⟩) ?_
      exact q_t (by omega) hQ
/-- the mine as the model sees it: width, cells, MIDDLE, TURN, kinds -/
abbrev aG : Type := Int × Int × Int × Int × (Nat → Int)
def gOf (σ : aS) : aG := (if σ.1 18 4 ≤ 0 then 0 else σ.1 18 2, σ.1 18 4, σ.1 18 6, σ.1 18 7, fun i => if (i : Int) < σ.1 18 4 then σ.1 20 i else 0)
abbrev ggw (g : aG) : Int := g.1
abbrev ggn (g : aG) : Int := g.2.1
abbrev ggm (g : aG) : Int := g.2.2.1
abbrev ggt (g : aG) : Int := g.2.2.2.1
abbrev ggk (g : aG) (c : Int) : Int := g.2.2.2.2 c.toNat
/-- what every mine keeps to -/
def GV (g : aG) : Prop := 0 ≤ ggn g ∧ ggn g ≤ 35 ∧ (0 < ggn g → 1 ≤ ggw g ∧ ggw g ≤ 7 ∧ ggn g % ggw g = 0) ∧ 0 ≤ ggm g ∧ ggm g ≤ 5 ∧ 0 ≤ ggt g ∧ ggt g ≤ 9 ∧ ∀ c : Nat, 0 ≤ g.2.2.2.2 c ∧ g.2.2.2.2 c ≤ 3
def opn (g : aG) (c : Int) : Prop := 0 ≤ c ∧ c ≤ ggn g - 1 ∧ ggk g c ≠ 0
abbrev upp (g : aG) (c : Int) : Prop := c / ggw g < ggm g
def blw (g : aG) (c : Int) : Int := if upp g c then c - ggw g else c + ggw g
def hld (g : aG) (c : Int) : Prop := ggk g c ≠ 0 ∧ (ggk g c = 2 ∨ ¬ opn g (blw g c))
def tgt (g : aG) (c y : Int) : Int := if y = 0 then (if c % ggw g > 0 then c - 1 else -1) else if y = 1 then (if c % ggw g < ggw g - 1 then c + 1 else -1) else if y = 2 then c - ggw g else c + ggw g
theorem gk_of {σ : aS} {c : Int} (h0 : 0 ≤ c) (h1 : c < σ.1 18 4) : ggk (gOf σ) c = σ.1 20 c.toNat := by
  show (if ((c.toNat : Nat) : Int) < σ.1 18 4 then σ.1 20 c.toNat else 0) = _
  rw [if_pos (by rw [Int.toNat_of_nonneg h0]; exact h1)]
theorem gw_of {σ : aS} (h : 0 < σ.1 18 4) : ggw (gOf σ) = σ.1 18 2 := by
  show (if σ.1 18 4 ≤ 0 then 0 else σ.1 18 2) = _
  rw [if_neg (by omega)]
theorem GVn {σ : aS} (h : GV (gOf σ)) : 0 ≤ σ.1 18 4 ∧ σ.1 18 4 ≤ 35 ∧ 0 ≤ σ.1 18 6 ∧ σ.1 18 6 ≤ 5 ∧ 0 ≤ σ.1 18 7 ∧ σ.1 18 7 ≤ 9 := ⟨h.1, h.2.1, h.2.2.2.1, h.2.2.2.2.1, h.2.2.2.2.2.1, h.2.2.2.2.2.2.1⟩
theorem GVw {σ : aS} (h : GV (gOf σ)) (h0 : 0 < σ.1 18 4) : 1 ≤ σ.1 18 2 ∧ σ.1 18 2 ≤ 7 ∧ σ.1 18 4 % σ.1 18 2 = 0 := by
  have h1 := h.2.2.1 h0
  rw [gw_of h0] at h1
  exact h1
set_option maxRecDepth 20000 in
theorem s4_isOpen {d : Nat} {σ : aS} {Q : aQ} {c : Int} (hg : GV (gOf σ)) (hQ : Q (some (vi (bi (opn (gOf σ) c)))) σ) : aCall 34 (d + 2) mX4_isOpen [vr 18, vi c] σ Q := by
  refine cl_in (own := RX4) (cc := cX4_isOpen) (rk := 1) (L := [some (vr 18), some (vi c)]) rfl rfl rfl rfl (by decide) (Nat.le_of_ble_eq_true rfl) ?_
  have hn := GVn hg
  refine wp_iload_n dX4_isOpen_0 rfl ?_
  refine wp_iconst dX4_isOpen_1 (by decide) ?_
  refine wp_aload_n dX4_isOpen_2 rfl ?_
  refine wp_getI dX4_isOpen_3 flX4_72 (by decide) rfl (Or.inl rfl) ?_
  refine wp_iconst dX4_isOpen_6 (by decide) ?_
  refine wp_isubN dX4_isOpen_7 (by omega) ?_
  refine wp_S3 dX4_isOpen_8 zlX4_65 (Nat.le_of_ble_eq_true rfl) ?_
  refine s4_in ?_
  refine wp_ifB_eq 27 dX4_isOpen_11 (by decide) (fun h11 => ?_) (fun h11 => ?_)
  · refine wp_iconst dX4_isOpen_27 (by decide) ?_
    refine wp_iret dX4_isOpen_28 (Or.inr ⟨rfl, by decide⟩) ?_
    exact q_f (fun h => h11 ⟨h.1, h.2.1⟩) hQ
  · refine wp_aload_n dX4_isOpen_14 rfl ?_
    refine wp_getR dX4_isOpen_15 flX4_13 (by decide) rfl rfl ?_
    refine wp_iload_n dX4_isOpen_18 rfl ?_
    refine wp_iaload dX4_isOpen_19 (by decide) rfl (by omega) (by omega) (by decide) ?_
    refine wp_if_eq 27 dX4_isOpen_20 (by decide) (fun h20 => ?_) (fun h20 => ?_)
    · refine wp_iconst dX4_isOpen_27 (by decide) ?_
      refine wp_iret dX4_isOpen_28 (Or.inr ⟨rfl, by decide⟩) ?_
      exact q_f (fun h => h.2.2 (by rw [gk_of (by omega) (by omega)]; exact h20)) hQ
    · refine wp_iconst dX4_isOpen_23 (by decide) ?_
      refine wp_gotoN 28 dX4_isOpen_24 (by decide) ?_
      refine wp_iret dX4_isOpen_28 (Or.inr ⟨rfl, by decide⟩) ?_
      exact q_t ⟨h11.1, h11.2, by rw [gk_of (by omega) (by omega)]; exact h20⟩ hQ
set_option maxRecDepth 20000 in
theorem s4_isUp {d : Nat} {σ : aS} {Q : aQ} {c : Int} (hg : GV (gOf σ)) (h0 : 0 ≤ c) (hp : 0 < σ.1 18 4) (hQ : Q (some (vi (bi (upp (gOf σ) c)))) σ) : aCall 34 (d + 1) mX4_isUp [vr 18, vi c] σ Q := by
  refine cl_in (own := RX4) (cc := cX4_isUp) (rk := 1) (L := [some (vr 18), some (vi c)]) rfl rfl rfl rfl (by decide) (Nat.le_of_ble_eq_true rfl) ?_
  have hw := GVw hg hp
  refine wp_iload_n dX4_isUp_0 rfl ?_
  refine wp_aload_n dX4_isUp_1 rfl ?_
  refine wp_getI dX4_isUp_2 flX4_78 (by decide) rfl (Or.inl rfl) ?_
  refine wp_idiv dX4_isUp_5 (by omega) (by omega) ?_
  refine wp_aload_n dX4_isUp_6 rfl ?_
  refine wp_getI dX4_isUp_7 flX4_56 (by decide) rfl (Or.inl rfl) ?_
  refine wp_ic_ge 17 dX4_isUp_10 (by decide) (fun h10 => ?_) (fun h10 => ?_)
  · refine wp_iconst dX4_isUp_17 (by decide) ?_
    refine wp_iret dX4_isUp_18 (Or.inr ⟨rfl, by decide⟩) ?_
    exact q_f (by show ¬ c / ggw (gOf σ) < σ.1 18 6; rw [gw_of hp]; omega) hQ
  · refine wp_iconst dX4_isUp_13 (by decide) ?_
    refine wp_gotoN 18 dX4_isUp_14 (by decide) ?_
    refine wp_iret dX4_isUp_18 (Or.inr ⟨rfl, by decide⟩) ?_
    exact q_t (by show c / ggw (gOf σ) < σ.1 18 6; rw [gw_of hp]; omega) hQ
set_option maxRecDepth 20000 in
theorem s4_below {d : Nat} {σ : aS} {Q : aQ} {c : Int} (hg : GV (gOf σ)) (h0 : 0 ≤ c) (h1 : c ≤ 1000) (hp : 0 < σ.1 18 4) (hQ : Q (some (vi (blw (gOf σ) c))) σ) : aCall 34 (d + 2) mX4_below [vr 18, vi c] σ Q := by
  refine cl_in (own := RX4) (cc := cX4_below) (rk := 0) (L := [some (vr 18), some (vi c)]) rfl rfl rfl rfl (by decide) (Nat.le_of_ble_eq_true rfl) ?_
  have hw := GVw hg hp
  refine wp_aload_n dX4_below_0 rfl ?_
  refine wp_iload_n dX4_below_1 rfl ?_
  refine wp_V1 dX4_below_2 vlX4_92 (by decide) rfl (Nat.le_of_ble_eq_true rfl) ?_
  refine s4_isUp hg (by omega) (by omega) ?_
  refine wp_ifB_eq 17 dX4_below_5 (by decide) (fun h5 => ?_) (fun h5 => ?_)
  · refine wp_iload_n dX4_below_17 rfl ?_
    refine wp_aload_n dX4_below_18 rfl ?_
    refine wp_getI dX4_below_19 flX4_78 (by decide) rfl (Or.inl rfl) ?_
    refine wp_iaddN dX4_below_22 (by omega) ?_
    refine wp_iret dX4_below_23 (Or.inl rfl) ?_
    exact q_i (by unfold blw; rw [if_neg h5, gw_of hp]) hQ
  · refine wp_iload_n dX4_below_8 rfl ?_
    refine wp_aload_n dX4_below_9 rfl ?_
    refine wp_getI dX4_below_10 flX4_78 (by decide) rfl (Or.inl rfl) ?_
    refine wp_isubN dX4_below_13 (by omega) ?_
    refine wp_gotoN 23 dX4_below_14 (by decide) ?_
    refine wp_iret dX4_below_23 (Or.inl rfl) ?_
    exact q_i (by unfold blw; rw [if_pos h5, gw_of hp]) hQ
