theorem ceE_d {g : aG} {c y : Int} (hg : GV g) : ceE g c y ↔ opn g c ∧ opn g (tgt g c y) ∧ (hld g c → (y < 2 ∧ tgt g c y / ggw g = c / ggw g) ∨ (¬ y < 2 ∧ ¬ (ggk g c ≠ 2 ∧ ggk g (tgt g c y) ≠ 2))) ∧ (¬ hld g c → tgt g c y = blw g c) := by
  have ht : ggt g ≤ 9 := hg.2.2.2.2.2.2.1
  unfold ceE cst
  by_cases h1 : opn g c ∧ opn g (tgt g c y)
  · rw [cif_t h1]
    by_cases h2 : hld g c
    · rw [cif_t h2]
      by_cases h3 : y < 2
      · rw [cif_t h3]
        by_cases h4 : tgt g c y / ggw g = c / ggw g
        · rw [cif_t h4]; exact ⟨fun _ => ⟨h1.1, h1.2, fun _ => Or.inl ⟨h3, h4⟩, fun q => absurd h2 q⟩, fun _ => by decide⟩
        · rw [cif_f h4]; exact ⟨fun q => absurd q (by decide), fun q => (q.2.2.1 h2).elim (fun w => absurd w.2 h4) (fun w => absurd h3 w.1)⟩
      · rw [cif_f h3]
        by_cases h4 : ggk g c ≠ 2 ∧ ggk g (tgt g c y) ≠ 2
        · rw [cif_t h4]; exact ⟨fun q => absurd q (by decide), fun q => (q.2.2.1 h2).elim (fun w => absurd w.1 h3) (fun w => absurd h4 w.2)⟩
        · rw [cif_f h4]
          refine ⟨fun _ => ⟨h1.1, h1.2, fun _ => Or.inr ⟨h3, h4⟩, fun q => absurd h2 q⟩, fun _ => ?_⟩
          by_cases h5 : upp g c ↔ upp g (tgt g c y)
          · rw [cif_t h5]; decide
          · rw [cif_f h5]; omega
    · rw [cif_f h2]
      by_cases h3 : tgt g c y = blw g c
      · rw [cif_t h3]; exact ⟨fun _ => ⟨h1.1, h1.2, fun q => absurd q h2, fun _ => h3⟩, fun _ => by decide⟩
      · rw [cif_f h3]; exact ⟨fun q => absurd q (by decide), fun q => absurd (q.2.2.2 h2) h3⟩
  · rw [cif_f h1]; exact ⟨fun q => absurd q (by decide), fun q => absurd ⟨q.1, q.2.1⟩ h1⟩
theorem cst_v {g : aG} {c y : Int} (he : ceE g c y) : cst g c y = cif (hld g c ∧ ¬ y < 2 ∧ ¬ (upp g c ↔ upp g (tgt g c y))) (1 + ggt g) 1 := by
  unfold ceE at he
  unfold cst at he ⊢
  by_cases h1 : opn g c ∧ opn g (tgt g c y)
  · rw [cif_t h1] at he ⊢
    by_cases h2 : hld g c
    · rw [cif_t h2] at he ⊢
      by_cases h3 : y < 2
      · rw [cif_t h3] at he ⊢
        by_cases h4 : tgt g c y / ggw g = c / ggw g
        · rw [cif_t h4, cif_f (fun q => q.2.1 h3)]
        · rw [cif_f h4] at he; exact absurd he (by decide)
      · rw [cif_f h3] at he ⊢
        by_cases h4 : ggk g c ≠ 2 ∧ ggk g (tgt g c y) ≠ 2
        · rw [cif_t h4] at he; exact absurd he (by decide)
        · rw [cif_f h4]
          by_cases h5 : upp g c ↔ upp g (tgt g c y)
          · rw [cif_t h5, cif_f (fun q => q.2.2 h5)]
          · rw [cif_f h5, cif_t ⟨h2, h3, h5⟩]
    · rw [cif_f h2] at he ⊢
      by_cases h3 : tgt g c y = blw g c
      · rw [cif_t h3, cif_f (fun q => h2 q.1)]
      · rw [cif_f h3] at he; exact absurd he (by decide)
  · rw [cif_f h1] at he; exact absurd he (by decide)
theorem tgt_0 {g : aG} {c : Int} : tgt g c 0 = if c % ggw g > 0 then c - 1 else -1 := by unfold tgt; rw [if_pos rfl]
theorem tgt_1 {g : aG} {c : Int} : tgt g c 1 = if c % ggw g < ggw g - 1 then c + 1 else -1 := by unfold tgt; rw [if_neg (by decide), if_pos rfl]
theorem tgt_2 {g : aG} {c : Int} : tgt g c 2 = c - ggw g := by unfold tgt; rw [if_neg (by decide), if_neg (by decide), if_pos rfl]
theorem tgt_3 {g : aG} {c : Int} : tgt g c 3 = c + ggw g := by unfold tgt; rw [if_neg (by decide), if_neg (by decide), if_neg (by decide)]
theorem md_b {w c : Int} (h1 : 1 ≤ w) (h2 : w ≤ 7) : (c % w > 0 → (c - 1) / w = c / w ∧ 2 ≤ w) ∧ (c % w < w - 1 → (c + 1) / w = c / w ∧ 2 ≤ w) := by
  have : w = 1 ∨ w = 2 ∨ w = 3 ∨ w = 4 ∨ w = 5 ∨ w = 6 ∨ w = 7 := by omega
  rcases this with rfl | rfl | rfl | rfl | rfl | rfl | rfl <;> omega
theorem md_c {w c : Int} (h1 : 1 ≤ w) (h2 : w ≤ 7) : (c - w) / w = c / w - 1 ∧ (c + w) / w = c / w + 1 := by
  have : w = 1 ∨ w = 2 ∨ w = 3 ∨ w = 4 ∨ w = 5 ∨ w = 6 ∨ w = 7 := by omega
  rcases this with rfl | rfl | rfl | rfl | rfl | rfl | rfl <;> omega
theorem md_d {w c : Int} (h1 : 1 ≤ w) (h2 : w ≤ 7) : (c % w > 0 ↔ ¬ c % w = 0) ∧ (c % w < w - 1 ↔ ¬ c % w = w - 1) := by
  have : w = 1 ∨ w = 2 ∨ w = 3 ∨ w = 4 ∨ w = 5 ∨ w = 6 ∨ w = 7 := by omega
  rcases this with rfl | rfl | rfl | rfl | rfl | rfl | rfl <;> omega
theorem mv_2 {σ : aS} {g : aG} (hg : GV g) (hk : KZ g) (e2 : σ.1 13 2 = ggw g) (i : Nat) : (((hld g i ∧ (i < 64 ∧ wd σ ≤ i ∧ opn g ((i - wd σ : Nat) : Int))) ∧ (ggk g i = 2 ∨ (i < 64 ∧ wd σ ≤ i ∧ ggk g ((i - wd σ : Nat) : Int) = 2))) ∨ ((opn g i ∧ (i < 64 ∧ ¬ hld g i)) ∧ ((i : Int) < ggn g ∧ upp g i))) ↔ ceE g i 2 := by
  unfold wd
  rw [ceE_d hg, tgt_2]
  constructor
  · rintro (⟨⟨a1, a2, a3, a4⟩, a5⟩ | ⟨⟨a1, a2, a3⟩, a4, a5⟩)
    · have ho := (opn_i hk).mpr a1.1
      have hw := opn_w hg ho
      have e : ((i - (σ.1 13 2).toNat : Nat) : Int) = (i : Int) - ggw g := by omega
      rw [e] at a4 a5
      exact ⟨ho, a4, fun _ => Or.inr ⟨by decide, fun q => a5.elim (fun w => q.1 w) (fun w => q.2 w.2.2)⟩, fun q => absurd a1 q⟩
    · have hb := hld_n a3 a1.2.2
      have e : blw g i = (i : Int) - ggw g := by unfold blw; rw [if_pos a5]
      exact ⟨a1, by rw [← e]; exact hb.1, fun q => absurd q a3, fun _ => e.symm⟩
  · rintro ⟨a1, a2, a3, a4⟩
    have hw := opn_w hg a1
    have h0 := a2.1
    have e : ((i - (σ.1 13 2).toNat : Nat) : Int) = (i : Int) - ggw g := by omega
    by_cases hh : hld g i
    · refine Or.inl ⟨⟨hh, by omega, by omega, by rw [e]; exact a2⟩, ?_⟩
      rw [e]
      by_cases k2 : ggk g i = 2
      · exact Or.inl k2
      · refine Or.inr ⟨by omega, by omega, ?_⟩
        rcases a3 hh with w | w
        · exact absurd w.1 (by decide)
        · exact Classical.byContradiction (fun q => w.2 ⟨k2, q⟩)
    · refine Or.inr ⟨⟨a1, by omega, hh⟩, hw.2.1, ?_⟩
      have := a4 hh
      unfold blw at this
      by_cases hu : upp g i
      · exact hu
      · rw [if_neg hu] at this; exfalso; omega
theorem mv_3 {σ : aS} {g : aG} (hg : GV g) (hk : KZ g) (e2 : σ.1 13 2 = ggw g) (i : Nat) : (((hld g i ∧ opn g ((wd σ + i : Nat) : Int)) ∧ (ggk g i = 2 ∨ ggk g ((wd σ + i : Nat) : Int) = 2)) ∨ ((opn g i ∧ (i < 64 ∧ ¬ hld g i)) ∧ (i < 64 ∧ ¬ ((i : Int) < ggn g ∧ upp g i)))) ↔ ceE g i 3 := by
  unfold wd
  rw [ceE_d hg, tgt_3]
  constructor
  · rintro (⟨⟨a1, a4⟩, a5⟩ | ⟨⟨a1, a2, a3⟩, a4, a5⟩)
    · have ho := (opn_i hk).mpr a1.1
      have hw := opn_w hg ho
      have e : (((σ.1 13 2).toNat + i : Nat) : Int) = (i : Int) + ggw g := by omega
      rw [e] at a4 a5
      exact ⟨ho, a4, fun _ => Or.inr ⟨by decide, fun q => a5.elim (fun w => q.1 w) (fun w => q.2 w)⟩, fun q => absurd a1 q⟩
    · have hb := hld_n a3 a1.2.2
      have hw := opn_w hg a1
      have e : blw g i = (i : Int) + ggw g := by unfold blw; rw [if_neg (fun q => a5 ⟨hw.2.1, q⟩)]
      exact ⟨a1, by rw [← e]; exact hb.1, fun q => absurd q a3, fun _ => e.symm⟩
  · rintro ⟨a1, a2, a3, a4⟩
    have hw := opn_w hg a1
    have e : (((σ.1 13 2).toNat + i : Nat) : Int) = (i : Int) + ggw g := by omega
    by_cases hh : hld g i
    · refine Or.inl ⟨⟨hh, by rw [e]; exact a2⟩, ?_⟩
      rw [e]
      by_cases k2 : ggk g i = 2
      · exact Or.inl k2
      · refine Or.inr ?_
        rcases a3 hh with w | w
        · exact absurd w.1 (by decide)
        · exact Classical.byContradiction (fun q => w.2 ⟨k2, q⟩)
    · refine Or.inr ⟨⟨a1, by omega, hh⟩, by omega, fun q => ?_⟩
      have := a4 hh
      unfold blw at this
      rw [if_pos q.2] at this
      omega
theorem mv_0 {g : aG} (hg : GV g) (hk : KZ g) (i : Nat) : ((hld g i ∧ (i < 64 ∧ ¬ ((i : Int) < ggn g ∧ (i : Int) % ggw g = 0))) ∧ (i < 64 ∧ 1 ≤ i ∧ opn g ((i - 1 : Nat) : Int))) ↔ ceE g i 0 := by
  rw [ceE_d hg, tgt_0]
  constructor
  · rintro ⟨⟨a1, a2, a3⟩, a4, a5, a6⟩
    have ho := (opn_i hk).mpr a1.1
    have hw := opn_w hg ho
    have hm := (md_d (c := (i : Int)) hw.2.2.2.1 hw.2.2.2.2).1.mpr (fun q => a3 ⟨hw.2.1, q⟩)
    rw [if_pos hm]
    have e : ((i - 1 : Nat) : Int) = (i : Int) - 1 := by omega
    rw [e] at a6
    exact ⟨ho, a6, fun _ => Or.inl ⟨by decide, ((md_b hw.2.2.2.1 hw.2.2.2.2).1 hm).1⟩, fun q => absurd a1 q⟩
  · rintro ⟨a1, a2, a3, a4⟩
    have hw := opn_w hg a1
    by_cases hm : (i : Int) % ggw g > 0
    · rw [if_pos hm] at a2 a3 a4
      have h0 := a2.1
      have e : ((i - 1 : Nat) : Int) = (i : Int) - 1 := by omega
      have hh : hld g i := by
        refine Classical.byContradiction (fun q => ?_)
        have h2 := a4 q
        have h3 := ((md_b hw.2.2.2.1 hw.2.2.2.2).1 hm).2
        unfold blw at h2
        by_cases hu : upp g i
        · rw [if_pos hu] at h2; omega
        · rw [if_neg hu] at h2; omega
      exact ⟨⟨hh, by omega, fun q => by have := q.2; omega⟩, by omega, by omega, by rw [e]; exact a2⟩
    · rw [if_neg hm] at a2; exact absurd a2.1 (by decide)
theorem mv_1 {g : aG} (hg : GV g) (hk : KZ g) (i : Nat) : ((hld g i ∧ (i < 64 ∧ ¬ ((i : Int) < ggn g ∧ (i : Int) % ggw g = ggw g - 1))) ∧ opn g ((1 + i : Nat) : Int)) ↔ ceE g i 1 := by
  rw [ceE_d hg, tgt_1]
  have e : ((1 + i : Nat) : Int) = (i : Int) + 1 := by omega
  rw [e]
  constructor
  · rintro ⟨⟨a1, a2, a3⟩, a6⟩
    have ho := (opn_i hk).mpr a1.1
    have hw := opn_w hg ho
    have hm := (md_d (c := (i : Int)) hw.2.2.2.1 hw.2.2.2.2).2.mpr (fun q => a3 ⟨hw.2.1, q⟩)
    rw [if_pos hm]
    exact ⟨ho, a6, fun _ => Or.inl ⟨by decide, ((md_b hw.2.2.2.1 hw.2.2.2.2).2 hm).1⟩, fun q => absurd a1 q⟩
  · rintro ⟨a1, a2, a3, a4⟩
    have hw := opn_w hg a1
    by_cases hm : (i : Int) % ggw g < ggw g - 1
    · rw [if_pos hm] at a2 a3 a4
      have hh : hld g i := by
        refine Classical.byContradiction (fun q => ?_)
        have h2 := a4 q
        have h3 := ((md_b hw.2.2.2.1 hw.2.2.2.2).2 hm).2
        unfold blw at h2
        by_cases hu : upp g i
        · rw [if_pos hu] at h2; omega
        · rw [if_neg hu] at h2; omega
      exact ⟨⟨hh, by omega, fun q => by have := q.2; omega⟩, a2⟩
    · rw [if_neg hm] at a2; exact absurd a2.1 (by decide)
/-- what the plan marks of a man's moves -/
def MV (σ : aS) (g : aG) : Prop := (SB (σ.2 14 0) (fun i => ceE g i 2) ∧ SB (σ.2 14 1) (fun i => ceE g i 0) ∧ SB (σ.2 14 2) (fun i => ceE g i 1) ∧ SB (σ.2 14 3) (fun i => ceE g i 3)) ∧ (∀ i : Nat, ceE g i 2 → cst g i 2 = if (σ.2 15 0).getLsbD i = true then 1 + ggt g else 1) ∧ (∀ i : Nat, ceE g i 3 → cst g i 3 = if (σ.2 15 3).getLsbD i = true then 1 + ggt g else 1)
theorem mv_g {σ : aS} {g : aG} (hg : GV g) (hk : KZ g) (ge : GE σ g) (h4 : SB (σ.2 13 4) (fun i => opn g i)) (h5 : SB (σ.2 13 5) (fun i => ggk g i = 2)) (h10 : SB (σ.2 13 10) (fun i => hld g i)) : MV (mvS σ) g := by
  have e2 := ge.1
  refine ⟨⟨?_, ?_, ?_, ?_⟩, fun i hc => ?_, fun i hc => ?_⟩
  · exact ((((h10.an h4.sl).an (h5.oo h5.sl)).oo ((h4.an h10.nt).an ge.2.2.2))).c (mv_2 hg hk e2)
  · exact (((h10.an ge.2.1.nt).an h4.sl)).c (mv_0 hg hk)
  · exact (((h10.an ge.2.2.1.nt).an h4.sr)).c (mv_1 hg hk)
  · exact ((((h10.an h4.sr).an (h5.oo h5.sr)).oo ((h4.an h10.nt).an ge.2.2.2.nt))).c (mv_3 hg hk e2)
  · have hb : ((mvS σ).2 15 0).getLsbD i = true ↔ _ := (ge.2.2.2.nt.an (ge.2.2.2.sl (w := wd σ))) i
    rw [cst_v hc, tgt_2]
    obtain ⟨o1, o2, o3, o4⟩ := (ceE_d hg).mp hc
    rw [tgt_2] at o2 o4
    have w1 := opn_w hg o1
    have w2 := opn_w hg o2
    have e : ((i - wd σ : Nat) : Int) = (i : Int) - ggw g := by unfold wd; omega
    have em := (md_c (c := (i : Int)) w1.2.2.2.1 w1.2.2.2.2).1
    have em2 : upp g i → upp g ((i : Int) - ggw g) := fun q => by
      show ((i : Int) - ggw g) / ggw g < ggm g
      rw [em]
      have q : (i : Int) / ggw g < ggm g := q
      omega
    by_cases q : ((mvS σ).2 15 0).getLsbD i = true
    · rw [if_pos q]
      obtain ⟨⟨-, b1⟩, -, -, b2⟩ := hb.mp q
      rw [e] at b2
      have nu : ¬ upp g i := fun w => b1 ⟨w1.2.1, w⟩
      refine cif_t ⟨Classical.byContradiction (fun w => ?_), by decide, fun w => nu (w.mpr b2.2)⟩
      have := o4 w
      unfold blw at this
      rw [if_neg nu] at this
      omega
    · rw [if_neg q]
      refine cif_f (fun w => w.2.2 ⟨em2, fun w2' => Classical.byContradiction (fun nu => q (hb.mpr ?_))⟩)
      refine ⟨⟨by omega, fun w => nu w.2⟩, by omega, by unfold wd; omega, ?_⟩
      rw [e]; exact ⟨w2.2.1, w2'⟩
  · have hb : ((mvS σ).2 15 3).getLsbD i = true ↔ _ := (ge.2.2.2.an (ge.2.2.2.sr (w := wd σ)).nt) i
    rw [cst_v hc, tgt_3]
    obtain ⟨o1, o2, o3, o4⟩ := (ceE_d hg).mp hc
    rw [tgt_3] at o2 o4
    have w1 := opn_w hg o1
    have w2 := opn_w hg o2
    have e : ((wd σ + i : Nat) : Int) = (i : Int) + ggw g := by unfold wd; omega
    have em := (md_c (c := (i : Int)) w1.2.2.2.1 w1.2.2.2.2).2
    have em2 : upp g ((i : Int) + ggw g) → upp g i := fun q => by
      have q : ((i : Int) + ggw g) / ggw g < ggm g := q
      rw [em] at q
      show (i : Int) / ggw g < ggm g
      omega
    by_cases q : ((mvS σ).2 15 3).getLsbD i = true
    · rw [if_pos q]
      obtain ⟨b1, -, b2⟩ := hb.mp q
      rw [e] at b2
      refine cif_t ⟨Classical.byContradiction (fun w => ?_), by decide, fun w => b2 ⟨w2.2.1, w.mp b1.2⟩⟩
      have := o4 w
      unfold blw at this
      rw [if_pos b1.2] at this
      omega
    · rw [if_neg q]
      refine cif_f (fun w => w.2.2 ⟨fun u1 => Classical.byContradiction (fun nu => q (hb.mpr ?_)), em2⟩)
      refine ⟨⟨w1.2.1, u1⟩, by omega, fun w => nu ?_⟩
      rw [e] at w; exact w.2
