theorem soak_in {σ : aS} {h l : BitVec 64} : ∀ (r : Nat) (x : BitVec 64) (i : Nat), x.getLsbD i = true → (soak σ h l r x).getLsbD i = true := by
  intro r
  induction r with
  | zero => intro x i hi; exact hi
  | succ r ih =>
    intro x i hi
    unfold soak
    by_cases e : (stp σ h l x &&& nt x) = 0#64
    · rw [if_pos e]; exact hi
    · rw [if_neg e]
      exact ih _ i (by rw [BitVec.getLsbD_or, hi, Bool.true_or])
theorem soak_le {σ : aS} {h l : BitVec 64} {p : Nat → Prop} (hp : ∀ x : BitVec 64, (∀ i, x.getLsbD i = true → p i) → ∀ i, (stp σ h l x).getLsbD i = true → p i) : ∀ (r : Nat) (x : BitVec 64), (∀ i, x.getLsbD i = true → p i) → ∀ i, (soak σ h l r x).getLsbD i = true → p i := by
  intro r
  induction r with
  | zero => intro x hx i hi; exact hx i hi
  | succ r ih =>
    intro x hx i hi
    unfold soak at hi
    by_cases e : (stp σ h l x &&& nt x) = 0#64
    · rw [if_pos e] at hi; exact hx i hi
    · rw [if_neg e] at hi
      refine ih _ (fun j hj => ?_) i hi
      rw [BitVec.getLsbD_or, Bool.or_eq_true] at hj
      exact hj.elim (hx j) (hp x hx j)
theorem nt_at {x : BitVec 64} {i : Nat} : (nt x).getLsbD i = true ↔ i < 64 ∧ ¬ x.getLsbD i = true := (SB.nt (x := x) (p := fun j => x.getLsbD j = true) (fun _ => Iff.rfl)) i
theorem new_bit {x y : BitVec 64} (h : ¬ (y &&& nt x) = 0#64) : ∃ i, y.getLsbD i = true ∧ ¬ x.getLsbD i = true := by
  refine Classical.byContradiction (fun q => h ?_)
  apply BitVec.eq_of_getLsbD_eq
  intro j9 hj
  rw [BitVec.getLsbD_zero, BitVec.getLsbD_and]
  cases e : y.getLsbD j9 with
  | false => rw [Bool.false_and]
  | true =>
    rw [Bool.true_and]
    cases e2 : (nt x).getLsbD j9 with
    | false => rfl
    | true => exact absurd ⟨j9, e, (nt_at.mp e2).2⟩ q
theorem stp_h {σ : aS} {h l x : BitVec 64} {i : Nat} (q : (stp σ h l x).getLsbD i = true) : h.getLsbD i = true := by
  unfold stp at q
  rw [BitVec.getLsbD_and, Bool.and_eq_true] at q
  exact q.1
/-- as many rounds as there are CELLS suffice -/
theorem soak_cl {σ : aS} {h l : BitVec 64} (hh : ∀ i, h.getLsbD i = true → i < 35) : ∀ (r : Nat) (x : BitVec 64), 35 ≤ cnt (fun i => x.getLsbD i = true) 35 + r → (stp σ h l (soak σ h l r x) &&& nt (soak σ h l r x)) = 0#64 := by
  intro r
  induction r with
  | zero =>
    intro x hx
    refine Classical.byContradiction (fun q => ?_)
    obtain ⟨i, h1, h2⟩ := new_bit q
    have := cnt_lt (p := fun i => x.getLsbD i = true) (q := fun _ => True) 35 (fun _ _ _ => trivial) ⟨i, hh i (stp_h h1), h2, trivial⟩
    have := (cnt_in (fun _ => True) 35).2
    omega
  | succ r ih =>
    intro x hx
    unfold soak
    by_cases e : (stp σ h l x &&& nt x) = 0#64
    · rw [if_pos e]; exact e
    · rw [if_neg e]
      refine ih _ ?_
      obtain ⟨i, h1, h2⟩ := new_bit e
      have := cnt_lt (p := fun i => x.getLsbD i = true) (q := fun i => (x ||| stp σ h l x).getLsbD i = true) 35 (fun j _ hj => by rw [BitVec.getLsbD_or, hj, Bool.true_or]) ⟨i, hh i (stp_h h1), h2, by rw [BitVec.getLsbD_or, h1, Bool.or_true]⟩
      omega
theorem pf_bad {tx : Nat → Int} {len : Nat} : ∀ (r k : Nat) (row col n w : Int) (kd : Nat → Int), (pf tx len r k row col n w kd).1 ≠ -1 → (pf tx len r k row col n w kd).2.1 = 0 ∧ (pf tx len r k row col n w kd).2.2.2.1 = 0 := by
  intro r
  induction r with
  | zero =>
    intro k row col n w kd h
    unfold pf at h ⊢
    by_cases c1 : 0 < len ∧ (col = 0 ∨ (0 < row ∧ col < w))
    · rw [if_pos c1]; exact ⟨rfl, rfl⟩
    · rw [if_neg c1] at h; exact absurd rfl h
  | succ r ih =>
    intro k row col n w kd h
    unfold pf at h ⊢
    by_cases c1 : row = 5
    · rw [if_pos c1]; exact ⟨rfl, rfl⟩
    · rw [if_neg c1] at h ⊢
      by_cases c2 : tx k = 59
      · rw [if_pos c2] at h ⊢
        by_cases c3 : col = 0 ∨ (0 < row ∧ col < w)
        · rw [if_pos c3]; exact ⟨rfl, rfl⟩
        · rw [if_neg c3] at h ⊢; exact ih _ _ _ _ _ _ h
      · rw [if_neg c2] at h ⊢
        by_cases c3 : kOf (tx k) = -1 ∨ col = w
        · rw [if_pos c3]; exact ⟨rfl, rfl⟩
        · rw [if_neg c3] at h ⊢; exact ih _ _ _ _ _ _ h
