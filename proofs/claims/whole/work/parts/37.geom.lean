/-- the plan's marks of its ROWS tell of g -/
def GE (σ : aS) (g : aG) : Prop := σ.1 13 2 = ggw g ∧ SB (σ.2 13 7) (fun i => (i : Int) < ggn g ∧ (i : Int) % ggw g = 0) ∧ SB (σ.2 13 8) (fun i => (i : Int) < ggn g ∧ (i : Int) % ggw g = ggw g - 1) ∧ SB (σ.2 13 9) (fun i => (i : Int) < ggn g ∧ upp g i)
/-- beyond the CELLS all is rock -/
def KZ (g : aG) : Prop := ∀ i : Nat, ggn g ≤ i → g.2.2.2.2 i = 0
theorem opn_i {g : aG} {i : Nat} (hk : KZ g) : opn g i ↔ ggk g i ≠ 0 := by
  refine ⟨fun h => h.2.2, fun h => ⟨by omega, ?_, h⟩⟩
  by_cases e : ggn g ≤ i
  · exact absurd (hk i e) h
  · omega
theorem opn_w {g : aG} {c : Int} (hg : GV g) (h : opn g c) : 0 ≤ c ∧ c < ggn g ∧ c < 35 ∧ 1 ≤ ggw g ∧ ggw g ≤ 7 := by
  have h1 := h.1
  have h2 := h.2.1
  have h3 := hg.2.1
  have h4 := hg.2.2.1 (by omega)
  omega
theorem lsx_g {σ : aS} {g : aG} {x : BitVec 64} (hg : GV g) (ge : GE σ g) (hx : SB x (fun i => opn g i)) : SB (lsx σ x) (fun i => opn g i ∧ opn g (blw g i)) := by
  unfold lsx
  refine ((hx.an ((ge.2.2.2.an hx.sl).oo (ge.2.2.2.nt.an hx.sr)))).c (fun i => ?_)
  have e2 := ge.1
  refine and_congr_right (fun ho => ?_)
  have hw := opn_w hg ho
  unfold blw
  by_cases hu : upp g i
  · rw [if_pos hu]
    constructor
    · rintro (⟨-, -, q1, q2⟩ | ⟨⟨-, q⟩, -⟩)
      · rw [show (i : Int) - ggw g = ((i - (σ.1 13 2).toNat : Nat) : Int) by omega]; exact q2
      · exact absurd ⟨hw.2.1, hu⟩ q
    · intro q
      have q0 := q.1
      refine Or.inl ⟨⟨hw.2.1, hu⟩, by omega, by omega, ?_⟩
      rw [show ((i - (σ.1 13 2).toNat : Nat) : Int) = (i : Int) - ggw g by omega]; exact q
  · rw [if_neg hu]
    constructor
    · rintro (⟨⟨-, q⟩, -⟩ | ⟨-, q⟩)
      · exact absurd q hu
      · rw [show (i : Int) + ggw g = (((σ.1 13 2).toNat + i : Nat) : Int) by omega]; exact q
    · intro q
      refine Or.inr ⟨⟨by omega, fun w => hu w.2⟩, ?_⟩
      rw [show (((σ.1 13 2).toNat + i : Nat) : Int) = (i : Int) + ggw g by omega]; exact q
theorem md_a {w c : Int} (h1 : 1 ≤ w) (h2 : w ≤ 7) : ((c + 1) % w > 0 ↔ ¬ (c + 1) % w = 0) ∧ (c % w < w - 1 ↔ ¬ c % w = w - 1) := by
  have : w = 1 ∨ w = 2 ∨ w = 3 ∨ w = 4 ∨ w = 5 ∨ w = 6 ∨ w = 7 := by omega
  rcases this with rfl | rfl | rfl | rfl | rfl | rfl | rfl <;> omega
/-- one step of the water, by its bits -/
theorem stp_g {σ : aS} {h l x : BitVec 64} {p q r : Nat → Prop} (hh : SB h p) (hl : SB l q) (hx : SB x r) {a b c : Nat → Prop} (h7 : SB (σ.2 13 7) a) (h8 : SB (σ.2 13 8) b) (h9 : SB (σ.2 13 9) c) : SB (stp σ h l x) (fun i => p i ∧ (((((r (wd σ + i) ∧ q (wd σ + i)) ∧ c (wd σ + i)) ∨ (i < 64 ∧ wd σ ≤ i ∧ (r (i - wd σ) ∧ q (i - wd σ)) ∧ (i - wd σ < 64 ∧ ¬ c (i - wd σ)))) ∨ ((r (1 + i) ∧ (1 + i < 64 ∧ ¬ q (1 + i))) ∧ (1 + i < 64 ∧ ¬ a (1 + i)))) ∨ (i < 64 ∧ 1 ≤ i ∧ (r (i - 1) ∧ (i - 1 < 64 ∧ ¬ q (i - 1))) ∧ (i - 1 < 64 ∧ ¬ b (i - 1))))) :=
  hh.an (((((hx.an hl).an h9).sr.oo ((hx.an hl).an h9.nt).sl).oo ((hx.an hl.nt).an h7.nt).sr).oo ((hx.an hl.nt).an h8.nt).sl)
/-- where the water comes from -/
theorem stp_a {σ : aS} {g : aG} {h x : BitVec 64} {r : Nat → Prop} (hg : GV g) (ge : GE σ g) (hh : SB h (fun i => opn g i)) (hx : SB x r) (hr : ∀ i, r i → opn g i) {i : Nat} (hi : (stp σ h (lsx σ h) x).getLsbD i = true) : ∃ (c : Nat) (y : Int), 0 ≤ y ∧ y < 4 ∧ r c ∧ flW g c y ∧ tgt g c y = i := by
  have e2 := ge.1
  obtain ⟨ho, hc⟩ := (stp_g hh (lsx_g hg ge hh) hx ge.2.1 ge.2.2.1 ge.2.2.2 i).mp hi
  have hw := opn_w hg ho
  rcases hc with ((⟨⟨r1, -, r3⟩, -, r4⟩ | ⟨-, r0, ⟨r1, -, r3⟩, -, r4⟩) | ⟨⟨r1, -, r3⟩, -, r4⟩) | ⟨-, r0, ⟨r1, -, r3⟩, -, r4⟩
  · have et : tgt g ((wd σ + i : Nat) : Int) 2 = i := by
      unfold tgt
      rw [if_neg (by decide), if_neg (by decide), if_pos rfl]
      show ((wd σ + i : Nat) : Int) - ggw g = i
      unfold wd; omega
    refine ⟨wd σ + i, 2, by omega, by omega, r1, ⟨by rw [et]; exact ho, Or.inl ⟨r3, by omega, ?_⟩⟩, et⟩
    rw [et]; unfold blw; rw [if_pos r4]
    unfold wd; omega
  · have r5 := opn_w hg (hr _ r1)
    have et : tgt g ((i - wd σ : Nat) : Int) 3 = i := by
      unfold tgt
      rw [if_neg (by decide), if_neg (by decide), if_neg (by decide)]
      unfold wd at r0 ⊢; omega
    refine ⟨i - wd σ, 3, by omega, by omega, r1, ⟨by rw [et]; exact ho, Or.inl ⟨r3, by omega, ?_⟩⟩, et⟩
    rw [et]; unfold blw; rw [if_neg (fun w => r4 ⟨r5.2.1, w⟩)]
    unfold wd at r0 ⊢; omega
  · have r5 := opn_w hg (hr _ r1)
    have m1 := (md_a (c := (i : Int)) hw.2.2.2.1 hw.2.2.2.2).1
    have e1 : ((1 + i : Nat) : Int) = (i : Int) + 1 := by omega
    rw [e1] at r5 r4
    have et : tgt g ((1 + i : Nat) : Int) 0 = i := by
      unfold tgt
      rw [if_pos rfl, e1, if_pos (m1.mpr (fun w => r4 ⟨r5.2.1, w⟩))]
      omega
    exact ⟨1 + i, 0, by omega, by omega, r1, ⟨by rw [et]; exact ho, Or.inr ⟨fun w => r3 ⟨hr _ r1, w⟩, by omega⟩⟩, et⟩
  · have r5 := opn_w hg (hr _ r1)
    have m1 := (md_a (c := ((i - 1 : Nat) : Int)) hw.2.2.2.1 hw.2.2.2.2).2
    have et : tgt g ((i - 1 : Nat) : Int) 1 = i := by
      unfold tgt
      rw [if_neg (by decide), if_pos rfl, if_pos (m1.mpr (fun w => r4 ⟨r5.2.1, w⟩))]
      omega
    exact ⟨i - 1, 1, by omega, by omega, r1, ⟨by rw [et]; exact ho, Or.inr ⟨fun w => r3 ⟨hr _ r1, w⟩, by omega⟩⟩, et⟩
theorem stp_b {σ : aS} {g : aG} {h x : BitVec 64} {r : Nat → Prop} (hg : GV g) (ge : GE σ g) (hh : SB h (fun i => opn g i)) (hx : SB x r) (hr : ∀ i, r i → opn g i) {c y : Int} (h0 : 0 ≤ c) (y0 : 0 ≤ y) (y4 : y < 4) (hc : r c.toNat) (hf : flW g c y) : (stp σ h (lsx σ h) x).getLsbD (tgt g c y).toNat = true := by
  have e2 := ge.1
  have ec : ((c.toNat : Nat) : Int) = c := Int.toNat_of_nonneg h0
  have hco := hr _ hc
  have hcw := opn_w hg hco
  have ht := hf.1
  have htw := opn_w hg ht
  have et : (((tgt g c y).toNat : Nat) : Int) = tgt g c y := Int.toNat_of_nonneg htw.1
  refine (stp_g hh (lsx_g hg ge hh) hx ge.2.1 ge.2.2.1 ge.2.2.2 _).mpr ⟨by rw [et]; exact ht, ?_⟩
  rcases hf.2 with ⟨f1, f2, f3⟩ | ⟨f1, f2⟩
  · rw [f3] at ht htw ⊢
    by_cases hu : upp g c
    · have eb : blw g c = c - ggw g := by unfold blw; rw [if_pos hu]
      have en : wd σ + (blw g c).toNat = c.toNat := by unfold wd; omega
      refine Or.inl (Or.inl (Or.inl ?_))
      rw [en, ec]
      exact ⟨⟨hc, by rw [← ec]; exact hco, f1⟩, by omega, hu⟩
    · have eb : blw g c = c + ggw g := by unfold blw; rw [if_neg hu]
      have en : (blw g c).toNat - wd σ = c.toNat := by unfold wd; omega
      refine Or.inl (Or.inl (Or.inr ⟨by omega, by unfold wd; omega, ?_⟩))
      rw [en, ec]
      exact ⟨⟨hc, by rw [← ec]; exact hco, f1⟩, by omega, fun q => hu q.2⟩
  · have hy : y = 0 ∨ y = 1 := by omega
    rcases hy with rfl | rfl
    · have ev : c % ggw g > 0 ∧ tgt g c 0 = c - 1 := by
        unfold tgt at ht ⊢
        rw [if_pos rfl] at ht ⊢
        by_cases q : c % ggw g > 0
        · rw [if_pos q]; exact ⟨q, rfl⟩
        · rw [if_neg q] at ht; exact absurd ht.1 (by decide)
      have en : 1 + (tgt g c 0).toNat = c.toNat := by omega
      refine Or.inl (Or.inr ?_)
      rw [en, ec]
      exact ⟨⟨hc, by omega, fun q => f1 q.2⟩, by omega, fun q => by have := q.2; omega⟩
    · have ev : c % ggw g < ggw g - 1 ∧ tgt g c 1 = c + 1 := by
        unfold tgt at ht ⊢
        rw [if_neg (by decide), if_pos rfl] at ht ⊢
        by_cases q : c % ggw g < ggw g - 1
        · rw [if_pos q]; exact ⟨q, rfl⟩
        · rw [if_neg q] at ht; exact absurd ht.1 (by decide)
      have en : (tgt g c 1).toNat - 1 = c.toNat := by omega
      refine Or.inr ⟨by omega, by omega, ?_⟩
      rw [en, ec]
      exact ⟨⟨hc, by omega, fun q => f1 q.2⟩, by omega, fun q => by have := q.2; omega⟩
theorem sub_0 {x y : BitVec 64} (h : (y &&& nt x) = 0#64) {i : Nat} (hi : y.getLsbD i = true) : x.getLsbD i = true := by
  refine Classical.byContradiction (fun q => ?_)
  have e := congrArg (fun (v : BitVec 64) => v.getLsbD i) h
  simp only [BitVec.getLsbD_and, BitVec.getLsbD_zero, hi, Bool.true_and] at e
  have h64 : i < 64 := by
    refine Classical.byContradiction (fun w => ?_)
    rw [BitVec.getLsbD_of_ge _ _ (by omega)] at hi
    exact absurd hi (by decide)
  rw [nt_at.mpr ⟨h64, q⟩] at e
  exact absurd e (by decide)
/-- the water stands where it can get -/
theorem soak_g {σ : aS} {g : aG} {h x : BitVec 64} {S : Int → Prop} (hg : GV g) (ge : GE σ g) (hh : SB h (fun i => opn g i)) (hx : SB x (fun i => S i)) (hS : ∀ c, S c → opn g c) : SB (soak σ h (lsx σ h) 35 x) (fun i => Rch (flW g) g S i) := by
  have hcl := soak_cl (σ := σ) (h := h) (l := lsx σ h) (fun i hi => by have := opn_w hg ((hh i).mp hi); omega) 35 x (by have := (cnt_in (fun i => x.getLsbD i = true) 35).1; omega)
  have hin : ∀ i, (soak σ h (lsx σ h) 35 x).getLsbD i = true → Rch (flW g) g S i ∧ opn g i := by
    refine soak_le (p := fun i => Rch (flW g) g S i ∧ opn g i) (fun y hy i hi => ?_) 35 x (fun i hi => ⟨Rch.of ((hx i).mp hi), hS _ ((hx i).mp hi)⟩)
    obtain ⟨c, t, t0, t4, hc, hf, e⟩ := stp_a (r := fun i => y.getLsbD i = true) hg ge hh (fun _ => Iff.rfl) (fun i hi => (hy i hi).2) hi
    have := (hy c hc).1.go t0 t4 hf
    rw [e] at this
    exact ⟨this, by rw [← e]; exact hf.1⟩
  intro i
  refine ⟨fun q => (hin i q).1, fun q => ?_⟩
  have := q (fun c => 0 ≤ c ∧ (soak σ h (lsx σ h) 35 x).getLsbD c.toNat = true) (fun c hc => ?_) (fun c y y0 y4 hc hf => ?_)
  · exact this.2
  · have h0 := (hS c hc).1
    refine ⟨h0, soak_in 35 x _ ((hx _).mpr ?_)⟩
    show S ((c.toNat : Nat) : Int)
    rw [Int.toNat_of_nonneg h0]; exact hc
  · refine ⟨hf.1.1, ?_⟩
    exact sub_0 hcl (stp_b (r := fun i => (soak σ h (lsx σ h) 35 x).getLsbD i = true) hg ge hh (fun _ => Iff.rfl) (fun i hi => (hin i hi).2) hc.1 y0 y4 hc.2 hf)
