theorem soak_in {σ : aS} {h l : BitVec 64} : ∀ (r : Nat) (x : BitVec 64) (i : Nat), x.getLsbD i = true → (soak σ h l r x).getLsbD i = true := by
  intro r
  induction r with
  | zero => intro x i hi; exact hi
  | succ r ih =>
    intro x i hi
    unfold soak
    by_cases e : (stp σ h l x &&& nt x) = 0#64
    · rw [if_pos e]; exact hi
    · rw [if_neg e]
      exact ih _ i (by rw [BitVec.getLsbD_or, hi, Bool.true_or])
theorem soak_le {σ : aS} {h l : BitVec 64} {p : Nat → Prop} (hp : ∀ x : BitVec 64, (∀ i, x.getLsbD i = true → p i) → ∀ i, (stp σ h l x).getLsbD i = true → p i) : ∀ (r : Nat) (x : BitVec 64), (∀ i, x.getLsbD i = true → p i) → ∀ i, (soak σ h l r x).getLsbD i = true → p i := by
  intro r
  induction r with
  | zero => intro x hx i hi; exact hx i hi
  | succ r ih =>
    intro x hx i hi
    unfold soak at hi
    by_cases e : (stp σ h l x &&& nt x) = 0#64
    · rw [if_pos e] at hi; exact hx i hi
    · rw [if_neg e] at hi
      refine ih _ (fun j hj => ?_) i hi
      rw [BitVec.getLsbD_or, Bool.or_eq_true] at hj
      exact hj.elim (hx j) (hp x hx j)
