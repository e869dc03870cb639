theorem ZV_back {z : aZ} (hz : ZV z) : ZV (uBack z) := by
  obtain ⟨a1, a2, a3, a4, a5, a6⟩ := hz
  exact ⟨a1, a2, a3, by show zn z - 1 ≤ 8; omega, fun k hk => a5 k (by have hk : k < zn z - 1 := hk; omega), a6⟩
theorem ZV_plumb {z : aZ} (hz : ZV z) {r u : Int} : ZV (uPlumb z r u) := by
  unfold uPlumb
  by_cases h : okPlumb r u ∧ zp z ≠ 8
  · rw [cif_t h]
    obtain ⟨a1, a2, a3, a4, a5, a6, a7, a8⟩ := hz
    have h0 := h.1
    unfold okPlumb at h0
    refine ⟨a1, a2, a3, a4, a5, by show zp z + 1 ≤ 8; have := h.2; omega, fun k hk => ?_, a8⟩
    have hk : k < zp z + 1 := hk
    show 0 ≤ up1 (zr z) (zp z) r k ∧ up1 (zr z) (zp z) r k ≤ 4 ∧ (up1 (zu z) (zp z) u k = 0 ∨ up1 (zu z) (zp z) u k = 1)
    unfold up1
    by_cases e : k = zp z
    · rw [if_pos e, if_pos e]; omega
    · rw [if_neg e, if_neg e]; exact a7 k (by omega)
  · rw [cif_f h]; exact hz
theorem ZV_forget {z : aZ} (hz : ZV z) : ZV (uForget z) := by
  obtain ⟨a1, a2, a3, a4, a5, a6, a7, a8⟩ := hz
  exact ⟨a1, a2, a3, a4, a5, by show 0 ≤ 8; decide, fun k hk => absurd hk (Nat.not_lt_zero k), a8⟩
theorem ZV_S {z : aZ} (hz : ZV z) {h f n : Nat → Int} {it : Nat → Nat → Int} {g : Int} (hs : ∀ s, s < 4 → (h s = 0 ∨ h s = 1) ∧ 0 ≤ f s ∧ f s ≤ 2 ∧ 0 ≤ n s ∧ n s ≤ 48) : ZV (mkS z h f n it g) := by
  obtain ⟨a1, a2, a3, a4, a5, a6, a7, a8⟩ := hz
  exact ⟨a1, a2, a3, a4, a5, a6, a7, hs⟩
theorem ZV_sheet {z : aZ} (hz : ZV z) {s f n : Int} : ZV (uSheet z s f n) := by
  unfold uSheet
  by_cases h : isSh s ∧ (0 ≤ f ∧ f ≤ 2) ∧ n ≤ 48
  · rw [if_pos h]
    by_cases h2 : n < 0
    · rw [if_pos h2]; exact ZV_find hz _
    · rw [if_neg h2]
      refine ZV_S hz (fun u hu => ?_)
      have := hz.2.2.2.2.2.2.2 u hu
      have h1 := h.2
      unfold up1
      by_cases e : u = s.toNat
      · rw [if_pos e, if_pos e, if_pos e]; omega
      · rw [if_neg e, if_neg e, if_neg e]; exact this
  · rw [if_neg h]; exact hz
theorem ZV_lose {z : aZ} (hz : ZV z) {s : Int} : ZV (uLose z s) := by
  unfold uLose
  by_cases h : isSh s
  · rw [if_pos h]
    by_cases h2 : zh z s.toNat = 0
    · rw [if_pos h2]; exact ZV_find hz _
    · rw [if_neg h2]
      refine ZV_S hz (fun u hu => ?_)
      have := hz.2.2.2.2.2.2.2 u hu
      unfold up1
      by_cases e : u = s.toNat
      · rw [if_pos e]; exact ⟨Or.inl rfl, this.2⟩
      · rw [if_neg e]; exact this
  · rw [if_neg h]; exact hz
theorem ZV_put {z : aZ} (hz : ZV z) {s f i v : Int} : ZV (uPut z s f i v) := by
  unfold uPut
  by_cases h : isSh s ∧ (0 ≤ f ∧ f ≤ 2)
  · rw [if_pos h]
    by_cases h2 : 0 < lack z s.toNat f i
    · rw [if_pos h2]; exact ZV_find hz _
    · rw [if_neg h2]; exact ZV_keep hz _ _ _
  · rw [if_neg h]; exact hz
theorem ZV_get {z : aZ} (hz : ZV z) {s f i : Int} : ZV (uGet z s f i) := by
  unfold uGet
  by_cases h : isSh s ∧ (0 ≤ f ∧ f ≤ 2)
  · rw [if_pos h]
    by_cases h2 : 0 < lack z s.toNat f i
    · rw [if_pos h2]; exact ZV_find hz _
    · rw [if_neg h2]; exact hz
  · rw [if_neg h]; exact hz
theorem ZV_copy {z : aZ} (hz : ZV z) {s i t j n : Int} : ZV (uCopy z s i t j n) := by
  unfold uCopy
  by_cases h : isSh s ∧ isSh t
  · rw [if_pos h]
    by_cases h2 : zh z s.toNat = 0 ∨ zh z t.toNat = 0
    · rw [if_pos h2]; exact ZV_find hz _
    · rw [if_neg h2]
      by_cases h3 : zf z s.toNat ≠ zf z t.toNat
      · rw [if_pos h3]; exact ZV_find hz _
      · rw [if_neg h3]
        by_cases h4 : okCp z s.toNat t.toNat i j n
        · rw [cif_t h4]; exact ZV_S hz hz.2.2.2.2.2.2.2
        · rw [cif_f h4]; exact ZV_find hz _
  · rw [if_neg h]; exact hz
theorem ZV_write {z : aZ} (hz : ZV z) {c s : Int} : ZV (uWrite z c s) := by
  unfold uWrite
  by_cases h : (0 ≤ c ∧ c ≤ ggn (Gz z) - 1) ∧ isSh s
  · rw [if_pos h]
    by_cases h2 : zh z s.toNat = 0
    · rw [if_pos h2]; exact ZV_find hz _
    · rw [if_neg h2]; exact (uwN_V hz c s.toNat _).1
  · rw [if_neg h]; exact hz
theorem ZV_rdN {s : Nat} : ∀ (r n : Nat) (z : aZ), ZV z → ZV (rdN s r n z).1 := by
  intro r
  induction r with
  | zero => intro n z h; exact h
  | succ r ih =>
    intro n z h
    unfold rdN
    by_cases q : 2 * (n : Int) + 1 < zz z s ∧ 0 < vThing z (zi z s (2 * n)) (zi z s (2 * n + 1))
    · rw [cif_t q]; exact ih _ _ (ZV_thing h _ _)
    · rw [cif_f q]; exact h
theorem ZV_read {z : aZ} (hz : ZV z) {s : Int} : ZV (uRead z s) := by
  unfold uRead
  by_cases h : isSh s
  · rw [if_pos h]
    by_cases h2 : zh z s.toNat = 0
    · rw [if_pos h2]; exact ZV_find hz _
    · rw [if_neg h2]; exact ZV_rdN _ _ _ hz
  · rw [if_neg h]; exact hz
/-- both tell of one state -/
def LI (σ : aS) : Prop := ∃ z, CI σ z ∧ MI σ z ∧ ZV z
