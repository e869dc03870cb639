abbrev pA (c k : Nat) : Prop := c = 13 ∧ k ≤ 3
abbrev pB (c k : Nat) : Prop := c = 13 ∧ 4 ≤ k ∧ k ≤ 9
theorem clr_fr {σ : aS} : FrQ pA pB σ (clr σ) := ((((((((FrQ.rf.put (by decide)).put (by decide)).put (by decide)).putJ (by decide)).putJ (by decide)).putJ (by decide)).putJ (by decide)).putJ (by decide)).putJ (by decide)
theorem clr_DG {σ : aS} {kd : Nat → Int} : DG (clr σ) 0 kd := ⟨rfl, SB.z.c (fun i => ⟨fun q => q.elim, fun q => absurd q.1 (Nat.not_lt_zero i)⟩), SB.z.c (fun i => ⟨fun q => q.elim, fun q => absurd q.1 (Nat.not_lt_zero i)⟩), SB.z.c (fun i => ⟨fun q => q.elim, fun q => absurd q.1 (Nat.not_lt_zero i)⟩)⟩
/-- what survey does once the ROWS are marked -/
def svS (σ : aS) : aS := mvS (sJ (sJ σ 13 10 (σ.2 13 4 &&& (σ.2 13 5 ||| nt (lsx σ (σ.2 13 4))))) 13 11 (soak (sJ σ 13 10 (σ.2 13 4 &&& (σ.2 13 5 ||| nt (lsx σ (σ.2 13 4))))) (σ.2 13 4) (lsx (sJ σ 13 10 (σ.2 13 4 &&& (σ.2 13 5 ||| nt (lsx σ (σ.2 13 4))))) (σ.2 13 4)) 35 (σ.2 13 6 &&& σ.2 13 4)))
