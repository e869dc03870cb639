/-- the state that both sides tell of: text, its length, MIDDLE, TURN, THINGS (number, cells, steps), PLUMBS (number, rows, ups), SHEETS (there, form, size, items), the latest FINDING -/
abbrev aZ : Type := (Nat → Int) × Nat × Int × Int × Nat × (Nat → Int) × (Nat → Int) × Nat × (Nat → Int) × (Nat → Int) × (Nat → Int) × (Nat → Int) × (Nat → Int) × (Nat → Nat → Int) × Int
abbrev zx (z : aZ) : Nat → Int := z.1
abbrev zl (z : aZ) : Nat := z.2.1
abbrev zm (z : aZ) : Int := z.2.2.1
abbrev zt (z : aZ) : Int := z.2.2.2.1
abbrev zn (z : aZ) : Nat := z.2.2.2.2.1
abbrev zc (z : aZ) : Nat → Int := z.2.2.2.2.2.1
abbrev zs (z : aZ) : Nat → Int := z.2.2.2.2.2.2.1
abbrev zp (z : aZ) : Nat := z.2.2.2.2.2.2.2.1
abbrev zr (z : aZ) : Nat → Int := z.2.2.2.2.2.2.2.2.1
abbrev zu (z : aZ) : Nat → Int := z.2.2.2.2.2.2.2.2.2.1
abbrev zh (z : aZ) : Nat → Int := z.2.2.2.2.2.2.2.2.2.2.1
abbrev zf (z : aZ) : Nat → Int := z.2.2.2.2.2.2.2.2.2.2.2.1
abbrev zz (z : aZ) : Nat → Int := z.2.2.2.2.2.2.2.2.2.2.2.2.1
abbrev zi (z : aZ) : Nat → Nat → Int := z.2.2.2.2.2.2.2.2.2.2.2.2.2.1
abbrev zg (z : aZ) : Int := z.2.2.2.2.2.2.2.2.2.2.2.2.2.2
def PF (z : aZ) : Int × Int × Int × Int × (Nat → Int) := pf (zx z) (zl z) (zl z) 0 0 0 0 7 (fun _ => 0)
def Gz (z : aZ) : aG := (if (PF z).2.2.2.1 ≤ 0 then 0 else (PF z).2.2.1, (PF z).2.2.2.1, zm z, zt z, fun i => if (i : Int) < (PF z).2.2.2.1 then (PF z).2.2.2.2 i else 0)
def ZV (z : aZ) : Prop := zl z ≤ 39 ∧ (0 ≤ zm z ∧ zm z ≤ 5) ∧ (0 ≤ zt z ∧ zt z ≤ 9) ∧ zn z ≤ 8 ∧ (∀ k, k < zn z → 0 ≤ zc z k ∧ zc z k ≤ 34 ∧ 0 ≤ zs z k ∧ zs z k ≤ 99) ∧ zp z ≤ 8 ∧ (∀ k, k < zp z → 0 ≤ zr z k ∧ zr z k ≤ 4 ∧ (zu z k = 0 ∨ zu z k = 1)) ∧ (∀ s, s < 4 → (zh z s = 0 ∨ zh z s = 1) ∧ 0 ≤ zf z s ∧ zf z s ≤ 2 ∧ 0 ≤ zz z s ∧ zz z s ≤ 48)
/-- the model's cells tell of z -/
def MI (σ : aS) (z : aZ) : Prop := σ.1 18 1 = zl z ∧ (∀ k, k < zl z → σ.1 19 k = zx z k) ∧ σ.1 18 6 = zm z ∧ σ.1 18 7 = zt z ∧ σ.1 18 8 = zn z ∧ (∀ k, k < zn z → σ.1 21 k = zc z k ∧ σ.1 22 k = zs z k) ∧ σ.1 18 15 = zp z ∧ (∀ k, k < zp z → σ.1 27 k = zr z k ∧ σ.1 28 k = zu z k) ∧ (∀ s, s < 4 → σ.1 29 s = zh z s ∧ σ.1 30 s = zf z s ∧ σ.1 31 s = zz z s ∧ ∀ i, i < 48 → σ.1 32 (48 * s + i) = zi z s i) ∧ σ.1 18 23 = zg z
/-- the model's own scratch -/
def scr (c k : Nat) : Prop := (c = 18 ∧ (k = 2 ∨ k = 3 ∨ k = 4)) ∨ c = 20 ∨ c = 23 ∨ c = 24 ∨ c = 25 ∨ c = 26 ∨ c = 33
def Frm (σ σ' : aS) : Prop := (∀ c k, ¬ scr c k → σ'.1 c k = σ.1 c k) ∧ σ'.2 = σ.2
/-- as Frm, and the mine as it was read stays -/
def Fr2 (σ σ' : aS) : Prop := (∀ c k, c ≠ 23 → c ≠ 24 → c ≠ 25 → c ≠ 26 → c ≠ 33 → σ'.1 c k = σ.1 c k) ∧ σ'.2 = σ.2
theorem Frm.rf {σ : aS} : Frm σ σ := ⟨fun _ _ _ => rfl, rfl⟩
theorem Fr2.rf {σ : aS} : Fr2 σ σ := ⟨fun _ _ _ _ _ _ _ => rfl, rfl⟩
theorem Frm.tr {σ σ' σ'' : aS} (h : Frm σ σ') (h' : Frm σ' σ'') : Frm σ σ'' := ⟨fun c k q => (h'.1 c k q).trans (h.1 c k q), h'.2.trans h.2⟩
theorem Fr2.tr {σ σ' σ'' : aS} (h : Fr2 σ σ') (h' : Fr2 σ' σ'') : Fr2 σ σ'' := ⟨fun c k a1 a2 a3 a4 a5 => (h'.1 c k a1 a2 a3 a4 a5).trans (h.1 c k a1 a2 a3 a4 a5), h'.2.trans h.2⟩
theorem Fr2.m {σ σ' : aS} (h : Fr2 σ σ') : Frm σ σ' := ⟨fun c k q => h.1 c k (fun e => q (by unfold scr; omega)) (fun e => q (by unfold scr; omega)) (fun e => q (by unfold scr; omega)) (fun e => q (by unfold scr; omega)) (fun e => q (by unfold scr; omega)), h.2⟩
theorem Fr0.m {σ σ' : aS} (h : Fr0 σ σ') : Frm σ σ' := ⟨fun c k q => h.1 c k (fun e => q (Or.inl e)) (fun e => q (Or.inr (Or.inl e))), h.2⟩
theorem Fr2.put {σ σ' : aS} {c k : Nat} {x : Int} (h : Fr2 σ σ') (hc : c = 23 ∨ c = 24 ∨ c = 25 ∨ c = 26 ∨ c = 33) : Fr2 σ (sI σ' c k x) := by
  refine ⟨fun c' k' a1 a2 a3 a4 a5 => ?_, h.2⟩
  rw [sI_ne (fun q => by omega)]
  exact h.1 c' k' a1 a2 a3 a4 a5
theorem Fr2.g {σ σ' : aS} (h : Fr2 σ σ') : gOf σ' = gOf σ := by
  have e : ∀ c k, c = 18 ∨ c = 20 → σ'.1 c k = σ.1 c k := fun c k hc => h.1 c k (by omega) (by omega) (by omega) (by omega) (by omega)
  unfold gOf
  rw [e 18 4 (by decide), e 18 2 (by decide), e 18 6 (by decide), e 18 7 (by decide)]
  have e2 : σ'.1 20 = σ.1 20 := funext fun k => e 20 k (by decide)
  rw [e2]
theorem MI.frm {σ σ' : aS} {z : aZ} (h : MI σ z) (f : Frm σ σ') : MI σ' z := by
  obtain ⟨h1, h2, h3, h4, h5, h6, h7, h8, h9, h10⟩ := h
  have e : ∀ c k, ¬ scr c k → σ'.1 c k = σ.1 c k := f.1
  refine ⟨by rw [e 18 1 (by unfold scr; omega)]; exact h1, fun k hk => by rw [e 19 k (by unfold scr; omega)]; exact h2 k hk, by rw [e 18 6 (by unfold scr; omega)]; exact h3, by rw [e 18 7 (by unfold scr; omega)]; exact h4, by rw [e 18 8 (by unfold scr; omega)]; exact h5, fun k hk => ?_, by rw [e 18 15 (by unfold scr; omega)]; exact h7, fun k hk => ?_, fun s hs => ?_, by rw [e 18 23 (by unfold scr; omega)]; exact h10⟩
  · rw [e 21 k (by unfold scr; omega), e 22 k (by unfold scr; omega)]; exact h6 k hk
  · rw [e 27 k (by unfold scr; omega), e 28 k (by unfold scr; omega)]; exact h8 k hk
  · rw [e 29 s (by unfold scr; omega), e 30 s (by unfold scr; omega), e 31 s (by unfold scr; omega)]
    refine ⟨(h9 s hs).1, (h9 s hs).2.1, (h9 s hs).2.2.1, fun i hi => ?_⟩
    rw [e 32 _ (by unfold scr; omega)]
    exact (h9 s hs).2.2.2 i hi
theorem pf_kd {tx : Nat → Int} {len : Nat} : ∀ (r k : Nat) (row col n w : Int) (kd kd' : Nat → Int), 0 ≤ n → (∀ i : Nat, (i : Int) < n → kd i = kd' i) →
    (pf tx len r k row col n w kd).1 = (pf tx len r k row col n w kd').1 ∧ (pf tx len r k row col n w kd).2.1 = (pf tx len r k row col n w kd').2.1 ∧ (pf tx len r k row col n w kd).2.2.1 = (pf tx len r k row col n w kd').2.2.1 ∧ (pf tx len r k row col n w kd).2.2.2.1 = (pf tx len r k row col n w kd').2.2.2.1 ∧ ∀ i : Nat, (i : Int) < (pf tx len r k row col n w kd').2.2.2.1 → (pf tx len r k row col n w kd).2.2.2.2 i = (pf tx len r k row col n w kd').2.2.2.2 i := by
  intro r
  induction r with
  | zero =>
    intro k row col n w kd kd' h0 h
    unfold pf
    by_cases c1 : 0 < len ∧ (col = 0 ∨ (0 < row ∧ col < w))
    · rw [if_pos c1, if_pos c1]
      exact ⟨rfl, rfl, rfl, rfl, fun i hi => absurd hi (by simp only []; omega)⟩
    · rw [if_neg c1, if_neg c1]
      exact ⟨rfl, rfl, rfl, rfl, h⟩
  | succ r ih =>
    intro k row col n w kd kd' h0 h
    have fin : ∀ a : Int × Int × Int × Int, a.2.2.2 = 0 → ((a.1, a.2.1, a.2.2.1, a.2.2.2, kd).1 = (a.1, a.2.1, a.2.2.1, a.2.2.2, kd').1 ∧ (a.1, a.2.1, a.2.2.1, a.2.2.2, kd).2.1 = (a.1, a.2.1, a.2.2.1, a.2.2.2, kd').2.1 ∧ (a.1, a.2.1, a.2.2.1, a.2.2.2, kd).2.2.1 = (a.1, a.2.1, a.2.2.1, a.2.2.2, kd').2.2.1 ∧ (a.1, a.2.1, a.2.2.1, a.2.2.2, kd).2.2.2.1 = (a.1, a.2.1, a.2.2.1, a.2.2.2, kd').2.2.2.1 ∧ ∀ i : Nat, (i : Int) < (a.1, a.2.1, a.2.2.1, a.2.2.2, kd').2.2.2.1 → kd i = kd' i) := fun a ha => ⟨rfl, rfl, rfl, rfl, fun i hi => absurd hi (by simp only [ha]; omega)⟩
    unfold pf
    by_cases c1 : row = 5
    · rw [if_pos c1, if_pos c1]; exact fin (k, 0, w, 0) rfl
    · rw [if_neg c1, if_neg c1]
      by_cases c2 : tx k = 59
      · rw [if_pos c2, if_pos c2]
        by_cases c3 : col = 0 ∨ (0 < row ∧ col < w)
        · rw [if_pos c3, if_pos c3]; exact fin (k, 0, w, 0) rfl
        · rw [if_neg c3, if_neg c3]; exact ih _ _ _ _ _ _ _ h0 h
      · rw [if_neg c2, if_neg c2]
        by_cases c3 : kOf (tx k) = -1 ∨ col = w
        · rw [if_pos c3, if_pos c3]; exact fin (k, 0, w, 0) rfl
        · rw [if_neg c3, if_neg c3]
          refine ih _ _ _ _ _ _ _ (by omega) (fun i hi => ?_)
          by_cases hi2 : i = n.toNat
          · rw [if_pos hi2, if_pos hi2]
          · rw [if_neg hi2, if_neg hi2]; exact h i (by omega)
theorem kOf_in (b : Int) : -1 ≤ kOf b ∧ kOf b ≤ 3 := by
  unfold kOf
  repeat' split
  all_goals omega
theorem mul_c {row w n : Int} (h : 0 ≤ row) (h2 : row ≤ 5) : row * w = n ↔ (row = 0 ∧ n = 0) ∨ (row = 1 ∧ n = w) ∨ (row = 2 ∧ n = 2 * w) ∨ (row = 3 ∧ n = 3 * w) ∨ (row = 4 ∧ n = 4 * w) ∨ (row = 5 ∧ n = 5 * w) := by
  have : row = 0 ∨ row = 1 ∨ row = 2 ∨ row = 3 ∨ row = 4 ∨ row = 5 := by omega
  rcases this with rfl | rfl | rfl | rfl | rfl | rfl <;> omega
/-- what the reading keeps to -/
def okP (t : Int × Int × Int × Int × (Nat → Int)) : Prop := (0 ≤ t.2.2.2.1 ∧ t.2.2.2.1 ≤ 35) ∧ (0 ≤ t.2.1 ∧ t.2.1 ≤ 5) ∧ t.2.1 * t.2.2.1 = t.2.2.2.1 ∧ (0 < t.2.2.2.1 → 1 ≤ t.2.2.1 ∧ t.2.2.1 ≤ 7) ∧ (∀ i : Nat, (i : Int) < t.2.2.2.1 → 0 ≤ t.2.2.2.2 i ∧ t.2.2.2.2 i ≤ 3)
theorem okP_f {a w : Int} {kd : Nat → Int} : okP (a, 0, w, 0, kd) := ⟨⟨by simp only []; omega, by simp only []; omega⟩, ⟨by simp only []; omega, by simp only []; omega⟩, by simp only []; omega, fun h => absurd h (by simp only []; omega), fun i hi => absurd hi (by simp only []; omega)⟩
theorem pf_ok {tx : Nat → Int} {len : Nat} : ∀ (r k : Nat) (row col n w : Int) (kd : Nat → Int), k + r = len → 0 ≤ row → row ≤ 5 → 0 ≤ col → col ≤ w → w ≤ 7 → (row = 0 → n = col) → (0 < row → 1 ≤ w ∧ row * w = n - col) → (k = 0 → n = 0 ∧ row = 0) → (row = 5 → col = 0) → 0 ≤ n → (∀ i : Nat, (i : Int) < n → 0 ≤ kd i ∧ kd i ≤ 3) → okP (pf tx len r k row col n w kd) := by
  intro r
  induction r with
  | zero =>
    intro k row col n w kd hk g1 g2 g3 g4 g5 g6 g7 g8 g8b g9 hkd
    unfold pf
    by_cases c1 : 0 < len ∧ (col = 0 ∨ (0 < row ∧ col < w))
    · rw [if_pos c1]; exact okP_f
    · rw [if_neg c1]
      by_cases cl : len = 0
      · rw [if_pos cl]
        have e := g8 (by omega)
        have e2 := g6 e.2
        obtain ⟨e1, e3⟩ := e
        subst e1; subst e3
        rw [if_pos rfl, ← e2]
        exact okP_f
      · rw [if_neg cl]
        have hc : 0 < col := by omega
        have hr : row ≤ 4 := by omega
        by_cases c2 : row = 0
        · have := g6 c2
          rw [if_pos c2]
          subst c2
          refine ⟨⟨by simp only []; omega, by simp only []; omega⟩, ⟨by simp only []; omega, by simp only []; omega⟩, by simp only []; omega, fun _ => ⟨by simp only []; omega, by simp only []; omega⟩, hkd⟩
        · rw [if_neg c2]
          obtain ⟨w1, w2⟩ := g7 (by omega)
          have hcw : col = w := by omega
          rw [mul_c g1 g2] at w2
          refine ⟨⟨by simp only []; omega, by simp only []; omega⟩, ⟨by simp only []; omega, by simp only []; omega⟩, (mul_c (by simp only []; omega) (by simp only []; omega)).mpr (by simp only []; omega), fun _ => ⟨by simp only []; omega, by simp only []; omega⟩, hkd⟩
  | succ r ih =>
    intro k row col n w kd hk g1 g2 g3 g4 g5 g6 g7 g8 g8b g9 hkd
    unfold pf
    by_cases c1 : row = 5
    · rw [if_pos c1]; exact okP_f
    · rw [if_neg c1]
      by_cases c2 : tx k = 59
      · rw [if_pos c2]
        by_cases c3 : col = 0 ∨ (0 < row ∧ col < w)
        · rw [if_pos c3]; exact okP_f
        · rw [if_neg c3]
          by_cases c4 : row = 0
          · have := g6 c4
            rw [if_pos c4]
            subst c4
            exact ih _ _ _ _ _ _ (by omega) (by omega) (by omega) (by omega) (by omega) (by omega) (fun h => by omega) (fun _ => ⟨by omega, by omega⟩) (fun h => by omega) (fun _ => rfl) g9 hkd
          · rw [if_neg c4]
            obtain ⟨w1, w2⟩ := g7 (by omega)
            rw [mul_c g1 g2] at w2
            exact ih _ _ _ _ _ _ (by omega) (by omega) (by omega) (by omega) (by omega) (by omega) (fun h => by omega) (fun _ => ⟨by omega, (mul_c (by omega) (by omega)).mpr (by omega)⟩) (fun h => by omega) (fun _ => rfl) g9 hkd
      · rw [if_neg c2]
        by_cases c3 : kOf (tx k) = -1 ∨ col = w
        · rw [if_pos c3]; exact okP_f
        · rw [if_neg c3]
          refine ih _ _ _ _ _ _ (by omega) (by omega) (by omega) (by omega) (by omega) (by omega) (fun h => by have := g6 h; omega) (fun h => ⟨(g7 h).1, by have := (g7 h).2; omega⟩) (fun h => by omega) (fun h => by omega) (by omega) (fun i hi => ?_)
          by_cases hi2 : i = n.toNat
          · rw [if_pos hi2]; have := kOf_in (tx k); omega
          · rw [if_neg hi2]; exact hkd i (by omega)
theorem PF_ok (z : aZ) : okP (PF z) := pf_ok _ _ _ _ _ _ _ (by omega) (by omega) (by omega) (by omega) (by omega) (by omega) (fun _ => rfl) (fun h => by omega) (fun _ => ⟨rfl, rfl⟩) (fun h => by omega) (by omega) (fun i hi => by omega)
theorem Gz_ok {z : aZ} (h : ZV z) : GV (Gz z) := by
  obtain ⟨h1, h2, h3, h4, h5⟩ := PF_ok z
  refine ⟨h1.1, h1.2, fun hp => ?_, h.2.1.1, h.2.1.2, h.2.2.1.1, h.2.2.1.2, fun c => ?_⟩
  · have hp : 0 < (PF z).2.2.2.1 := hp
    show 1 ≤ (if (PF z).2.2.2.1 ≤ 0 then 0 else (PF z).2.2.1) ∧ (if (PF z).2.2.2.1 ≤ 0 then 0 else (PF z).2.2.1) ≤ 7 ∧ (PF z).2.2.2.1 % (if (PF z).2.2.2.1 ≤ 0 then 0 else (PF z).2.2.1) = 0
    rw [if_neg (by omega)]
    refine ⟨(h4 hp).1, (h4 hp).2, ?_⟩
    rw [← h3]
    exact Int.mul_emod_left _ _
  · show 0 ≤ (if (c : Int) < (PF z).2.2.2.1 then (PF z).2.2.2.2 c else 0) ∧ (if (c : Int) < (PF z).2.2.2.1 then (PF z).2.2.2.2 c else 0) ≤ 3
    by_cases hc : (c : Int) < (PF z).2.2.2.1
    · rw [if_pos hc]; exact h5 c hc
    · rw [if_neg hc]; omega
/-- behind a reading -/
def Rd (σ : aS) (z : aZ) : Prop := MI σ z ∧ ZV z ∧ gOf σ = Gz z ∧ σ.1 18 3 = (PF z).2.1
theorem Rd.gv {σ : aS} {z : aZ} (h : Rd σ z) : GV (gOf σ) := by rw [h.2.2.1]; exact Gz_ok h.2.1
theorem Rd.fr2 {σ σ' : aS} {z : aZ} (h : Rd σ z) (f : Fr2 σ σ') : Rd σ' z := ⟨h.1.frm f.m, h.2.1, f.g.trans h.2.2.1, (f.1 18 3 (by omega) (by omega) (by omega) (by omega) (by omega)).trans h.2.2.2⟩
theorem pf_rd {σ σ' : aS} {z : aZ} (hm : MI σ z) (hz : ZV z) (h0 : Fr0 σ σ') (h1 : σ'.1 18 2 = (pf (zx z) (zl z) (zl z) 0 0 0 0 7 (σ.1 20)).2.2.1) (h2 : σ'.1 18 3 = (pf (zx z) (zl z) (zl z) 0 0 0 0 7 (σ.1 20)).2.1) (h3 : σ'.1 18 4 = (pf (zx z) (zl z) (zl z) 0 0 0 0 7 (σ.1 20)).2.2.2.1) (h4 : σ'.1 20 = (pf (zx z) (zl z) (zl z) 0 0 0 0 7 (σ.1 20)).2.2.2.2) : Frm σ σ' ∧ Rd σ' z := by
  refine ⟨h0.m, hm.frm h0.m, hz, ?_, ?_⟩
  · obtain ⟨e1, e2, e3, e4, e5⟩ := pf_kd (tx := zx z) (len := zl z) (zl z) 0 0 0 0 7 (σ.1 20) (fun _ => 0) (by omega) (fun i hi => by omega)
    unfold gOf Gz PF
    rw [h3, h1, e4, e3, h4, (hm.frm h0.m).2.2.1, (hm.frm h0.m).2.2.2.1]
    refine congrArg _ (congrArg _ (congrArg _ (congrArg _ ?_)))
    funext i
    by_cases hi : (i : Int) < (pf (zx z) (zl z) (zl z) 0 0 0 0 7 (fun _ => 0)).2.2.2.1
    · rw [if_pos hi, if_pos hi, e5 i hi]
    · rw [if_neg hi, if_neg hi]
  · obtain ⟨e1, e2, e3, e4, e5⟩ := pf_kd (tx := zx z) (len := zl z) (zl z) 0 0 0 0 7 (σ.1 20) (fun _ => 0) (by omega) (fun i hi => by omega)
    rw [h2, e2]; rfl
theorem pf_f {z : aZ} {kd : Nat → Int} : (pf (zx z) (zl z) (zl z) 0 0 0 0 7 kd).1 = (PF z).1 := (pf_kd (tx := zx z) (len := zl z) (zl z) 0 0 0 0 7 kd (fun _ => 0) (by omega) (fun i hi => by omega)).1
set_option maxRecDepth 20000 in
theorem s4_reads {d : Nat} {σ : aS} {Q : aQ} {z : aZ} (hm : MI σ z) (hz : ZV z) (hQ : ∀ σ', Frm σ σ' → Rd σ' z → Q none σ') : aCall 34 (d + 3) mX4_reads [vr 18] σ Q := by
  refine cl_in (own := RX4) (cc := cX4_reads) (rk := 3) (L := [some (vr 18), none]) rfl rfl rfl rfl (by decide) (Nat.le_of_ble_eq_true rfl) ?_
  refine wp_aload_n dX4_reads_0 rfl ?_
  refine wp_V0 dX4_reads_1 vlX4_85 (by decide) rfl (Nat.le_of_ble_eq_true rfl) ?_
  refine s4_faultNow hz.1 hm.2.1 hm.1 (fun σ' f0 f1 f2 f3 f4 => ?_)
  rw [pf_f]
  obtain ⟨hf, hr⟩ := pf_rd hm hz f0 f1 f2 f3 f4
  refine wp_istN (L' := [some (vr _), some (vi _)]) dX4_reads_4 (Nat.le_of_ble_eq_true rfl) rfl ?_
  refine wp_vret dX4_reads_5 rfl ?_
  exact hQ σ' hf hr
set_option maxRecDepth 20000 in
theorem s4_fault {d : Nat} {σ : aS} {Q : aQ} {z : aZ} (hm : MI σ z) (hz : ZV z) (hQ : ∀ σ', Frm σ σ' → Rd σ' z → Q (some (vi (PF z).1)) σ') : aCall 34 (d + 3) mX4_fault [vr 18] σ Q := by
  refine cl_in (own := RX4) (cc := cX4_fault) (rk := 0) (L := [some (vr 18)]) rfl rfl rfl rfl (by decide) (Nat.le_of_ble_eq_true rfl) ?_
  refine wp_aload_n dX4_fault_0 rfl ?_
  refine wp_V0 dX4_fault_1 vlX4_85 (by decide) rfl (Nat.le_of_ble_eq_true rfl) ?_
  refine s4_faultNow hz.1 hm.2.1 hm.1 (fun σ' f0 f1 f2 f3 f4 => ?_)
  rw [pf_f]
  obtain ⟨hf, hr⟩ := pf_rd hm hz f0 f1 f2 f3 f4
  refine wp_iret dX4_fault_4 (Or.inl rfl) ?_
  exact hQ σ' hf hr
theorem Rd.n {σ : aS} {z : aZ} (h : Rd σ z) : σ.1 18 4 = ggn (Gz z) := by rw [← h.2.2.1]; rfl
set_option maxRecDepth 20000 in
theorem s4_isCell {d : Nat} {σ : aS} {Q : aQ} {c : Int} {z : aZ} (hm : MI σ z) (hz : ZV z) (hQ : ∀ σ', Frm σ σ' → Rd σ' z → Q (some (vi (bi (0 ≤ c ∧ c ≤ ggn (Gz z) - 1)))) σ') : aCall 34 (d + 4) mX4_isCell [vr 18, vi c] σ Q := by
  refine cl_in (own := RX4) (cc := cX4_isCell) (rk := 1) (L := [some (vr 18), some (vi c)]) rfl rfl rfl rfl (by decide) (Nat.le_of_ble_eq_true rfl) ?_
  refine wp_aload_n dX4_isCell_0 rfl ?_
  refine wp_V0 dX4_isCell_1 vlX4_89 (by decide) rfl (Nat.le_of_ble_eq_true rfl) ?_
  refine s4_reads hm hz (fun σ' hf hr => ?_)
  have hn := GVn hr.gv
  refine wp_iload_n dX4_isCell_4 rfl ?_
  refine wp_iconst dX4_isCell_5 (by decide) ?_
  refine wp_aload_n dX4_isCell_6 rfl ?_
  refine wp_getI dX4_isCell_7 flX4_72 (by decide) rfl (Or.inl rfl) ?_
  refine wp_iconst dX4_isCell_10 (by decide) ?_
  refine wp_isubN dX4_isCell_11 (by omega) ?_
  refine wp_S3 dX4_isCell_12 zlX4_65 (Nat.le_of_ble_eq_true rfl) ?_
  refine s4_in ?_
  refine wp_iret dX4_isCell_15 (Or.inr ⟨rfl, bi_01 _⟩) ?_
  rw [hr.n]
  exact hQ σ' hf hr
