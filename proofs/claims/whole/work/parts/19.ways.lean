def ceE (g : aG) (c y : Int) : Prop := cst g c y < 1000000
theorem cst_ok {g : aG} (hg : GV g) {c y : Int} (h : cst g c y < 1000000) : (1 ≤ cst g c y ∧ cst g c y ≤ 10) ∧ opn g c ∧ opn g (tgt g c y) := by
  have ht := hg.2.2.2.2.2
  by_cases h1 : opn g c ∧ opn g (tgt g c y)
  · refine ⟨?_, h1.1, h1.2⟩
    unfold cst at h ⊢
    rw [cif_t h1] at h ⊢
    by_cases h2 : hld g c
    · rw [cif_t h2] at h ⊢
      by_cases h3 : y < 2
      · rw [cif_t h3] at h ⊢
        by_cases h4 : tgt g c y / ggw g = c / ggw g
        · rw [cif_t h4]; omega
        · rw [cif_f h4] at h; omega
      · rw [cif_f h3] at h ⊢
        by_cases h4 : ggk g c ≠ 2 ∧ ggk g (tgt g c y) ≠ 2
        · rw [cif_t h4] at h; omega
        · rw [cif_f h4] at h ⊢
          by_cases h5 : upp g c ↔ upp g (tgt g c y)
          · rw [cif_t h5]; omega
          · rw [cif_f h5]
            have h6 := ht.1
            have h7 := ht.2.1
            omega
    · rw [cif_f h2] at h ⊢
      by_cases h3 : tgt g c y = blw g c
      · rw [cif_t h3]; omega
      · rw [cif_f h3] at h; omega
  · unfold cst at h; rw [cif_f h1] at h; omega
theorem fb_ho : ∀ (m n : Nat) (f : Nat → Nat), (∀ i, i < n → f i < m) → (∀ i j, i < j → j < n → f i ≠ f j) → n ≤ m := by
  intro m
  induction m with
  | zero =>
    intro n f h _
    rcases Nat.eq_zero_or_pos n with e | e
    · omega
    · exact absurd (h 0 e) (Nat.not_lt_zero _)
  | succ m ih =>
    intro n f h hd
    by_cases hx : ∃ k, k < n ∧ f k = m
    · obtain ⟨k, hk, ek⟩ := hx
      have := ih (n - 1) (fun i => if i < k then f i else f (i + 1)) (fun i hi => ?_) (fun i j hij hj => ?_)
      · omega
      · show (if i < k then f i else f (i + 1)) < m
        by_cases hi2 : i < k
        · rw [if_pos hi2]
          have h1 := h i (by omega)
          have h2 := hd i k hi2 hk
          omega
        · rw [if_neg hi2]
          have h1 := h (i + 1) (by omega)
          have h2 := hd k (i + 1) (by omega) (by omega)
          omega
      · show (if i < k then f i else f (i + 1)) ≠ (if j < k then f j else f (j + 1))
        by_cases hi2 : i < k
        · rw [if_pos hi2]
          by_cases hj2 : j < k
          · rw [if_pos hj2]; exact hd i j hij (by omega)
          · rw [if_neg hj2]; exact hd i (j + 1) (by omega) (by omega)
        · rw [if_neg hi2, if_neg (by omega)]; exact hd (i + 1) (j + 1) (by omega) (by omega)
    · have := ih n f (fun i hi => by
        have h1 := h i hi
        have h2 : f i ≠ m := fun e => hx ⟨i, hi, e⟩
        omega) hd
      omega
theorem fb_tw {m n : Nat} {f : Nat → Nat} (h : ∀ i, i < n → f i < m) (hm : m < n) : ∃ i j, i < j ∧ j < n ∧ f i = f j := by
  refine Classical.byContradiction fun q => ?_
  have := fb_ho m n f h (fun i j hij hj e => q ⟨i, j, hij, hj, e⟩)
  omega
/-- there is a path from a to b that costs k -/
def Pth (g : aG) (b a k : Int) : Prop := ∀ p : Int → Int → Prop, (opn g b → p b 0) → (∀ x y j, 0 ≤ y → y < 4 → cst g x y < 1000000 → p (tgt g x y) j → p x (cst g x y + j)) → p a k
theorem Pth.z {g : aG} {b : Int} (h : opn g b) : Pth g b b 0 := fun p h1 _ => h1 h
theorem Pth.s {g : aG} {b x y j : Int} (h : Pth g b (tgt g x y) j) (h0 : 0 ≤ y) (h4 : y < 4) (hc : cst g x y < 1000000) : Pth g b x (cst g x y + j) := fun p h1 h2 => h2 x y j h0 h4 hc (h p h1 h2)
def IsWay (g : aG) (a b v : Int) : Prop := Pth g b a v ∧ ∀ k, Pth g b a k → v ≤ k
noncomputable def wayv (g : aG) (a b : Int) : Int := cif (∃ v, IsWay g a b v) (Classical.epsilon (IsWay g a b)) (-1)
theorem wayv_is {g : aG} {a b v : Int} (h : IsWay g a b v) : wayv g a b = v := by
  unfold wayv
  rw [cif_t ⟨v, h⟩]
  have h2 := Classical.epsilon_spec (p := IsWay g a b) ⟨v, h⟩
  have h3 := h.2 _ h2.1
  have h4 := h2.2 _ h.1
  omega
theorem wayv_no {g : aG} {a b : Int} (h : ¬ ∃ k, Pth g b a k) : wayv g a b = -1 := by
  unfold wayv
  rw [cif_f (fun ⟨v, hv⟩ => h ⟨v, hv.1⟩)]
/-- paths by their edges: cells p 0 .. p r, costs so far t 0 .. t r -/
def PN (g : aG) (r : Nat) (p t : Nat → Int) : Prop := t 0 = 0 ∧ opn g (p r) ∧ ∀ i, i < r → ∃ y, 0 ≤ y ∧ y < 4 ∧ cst g (p i) y < 1000000 ∧ p (i + 1) = tgt g (p i) y ∧ t (i + 1) = t i + cst g (p i) y
theorem Pth.pn {g : aG} {a b k : Int} (h : Pth g b a k) : ∃ r p t, PN g r p t ∧ p 0 = a ∧ p r = b ∧ t r = k := by
  refine h (fun a k => ∃ r p t, PN g r p t ∧ p 0 = a ∧ p r = b ∧ t r = k) (fun ho => ⟨0, fun _ => b, fun _ => 0, ⟨rfl, ho, fun i hi => absurd hi (Nat.not_lt_zero i)⟩, rfl, rfl, rfl⟩) ?_
  rintro x y j h0 h4 hc ⟨r, p, t, ⟨h1, h2, h3⟩, e1, e2, e3⟩
  refine ⟨r + 1, fun i => match i with | 0 => x | i + 1 => p i, fun i => match i with | 0 => 0 | i + 1 => cst g x y + t i, ⟨rfl, h2, fun i hi => ?_⟩, rfl, e2, by show cst g x y + t r = _; rw [e3]⟩
  match i, hi with
  | 0, _ => exact ⟨y, h0, h4, hc, e1, by show cst g x y + t 0 = 0 + cst g x y; rw [h1]; omega⟩
  | i + 1, hi =>
    obtain ⟨y2, a1, a2, a3, a4, a5⟩ := h3 i (by omega)
    exact ⟨y2, a1, a2, a3, a4, by show cst g x y + t (i + 1) = cst g x y + t i + cst g (p i) y2; rw [a5]; omega⟩
theorem PN.drop {g : aG} {p t : Nat → Int} : ∀ (r : Nat), PN g r p t → Pth g (p r) (p 0) (t r) := by
  intro r h
  have key : ∀ n i, i + n = r → Pth g (p r) (p i) (t r - t i) := by
    intro n
    induction n with
    | zero =>
      intro i hi
      have e : i = r := by omega
      subst e
      rw [Int.sub_self]
      exact Pth.z h.2.1
    | succ n ih =>
      intro i hi
      obtain ⟨y, a1, a2, a3, a4, a5⟩ := h.2.2 i (by omega)
      have h2 := ih (i + 1) (by omega)
      rw [a4] at h2
      have h3 := h2.s a1 a2 a3
      rw [show t r - t i = cst g (p i) y + (t r - t (i + 1)) by omega]
      exact h3
  have := key r 0 (by omega)
  rw [h.1] at this
  rwa [Int.sub_zero] at this
/-- no place twice: more than 34 moves can be cut -/
theorem PN.cut {g : aG} (hg : GV g) {r : Nat} {p t : Nat → Int} (h : PN g r p t) (hr : 34 < r) : ∃ r2 p2 t2, r2 < r ∧ PN g r2 p2 t2 ∧ p2 0 = p 0 ∧ p2 r2 = p r ∧ t2 r2 ≤ t r := by
  have hin : ∀ i, i ≤ r → opn g (p i) := by
    intro i hi
    by_cases e : i = r
    · rw [e]; exact h.2.1
    · obtain ⟨y, a1, a2, a3, a4, a5⟩ := h.2.2 i (by omega)
      exact (cst_ok hg a3).2.1
  have hmono : ∀ n i, i + n ≤ r → t i ≤ t (i + n) := by
    intro n
    induction n with
    | zero => intro i _; exact Int.le_refl _
    | succ n ih =>
      intro i hi
      have h1 := ih i (by omega)
      obtain ⟨y, a1, a2, a3, a4, a5⟩ := h.2.2 (i + n) (by omega)
      have := (cst_ok hg a3).1
      rw [show i + (n + 1) = i + n + 1 by omega]
      omega
  obtain ⟨i, j, hij, hj, e⟩ : ∃ i j, i < j ∧ j < r + 1 ∧ (p i).toNat = (p j).toNat := by
    refine fb_tw (m := 35) (f := fun i => (p i).toNat) (fun i hi => ?_) (by omega)
    have := opn_g hg (hin i (by omega))
    show (p i).toNat < 35
    omega
  have eij : p i = p j := by
    have h1 := opn_g hg (hin i (by omega))
    have h2 := opn_g hg (hin j (by omega))
    omega
  refine ⟨r - (j - i), fun q => if q ≤ i then p q else p (q + (j - i)), fun q => if q ≤ i then t q else t (q + (j - i)) - (t j - t i), by omega, ⟨?_, ?_, fun q hq => ?_⟩, ?_, ?_, ?_⟩
  · show (if 0 ≤ i then t 0 else _) = 0
    rw [if_pos (Nat.zero_le i)]; exact h.1
  · show opn g (if r - (j - i) ≤ i then p (r - (j - i)) else p (r - (j - i) + (j - i)))
    split
    · exact hin _ (by omega)
    · exact hin _ (by omega)
  · show ∃ y, 0 ≤ y ∧ y < 4 ∧ cst g (if q ≤ i then p q else p (q + (j - i))) y < 1000000 ∧ (if q + 1 ≤ i then p (q + 1) else p (q + 1 + (j - i))) = tgt g (if q ≤ i then p q else p (q + (j - i))) y ∧ (if q + 1 ≤ i then t (q + 1) else t (q + 1 + (j - i)) - (t j - t i)) = (if q ≤ i then t q else t (q + (j - i)) - (t j - t i)) + cst g (if q ≤ i then p q else p (q + (j - i))) y
    by_cases h1 : q + 1 ≤ i
    · rw [if_pos (show q ≤ i by omega), if_pos h1, if_pos (show q ≤ i by omega), if_pos h1]
      exact h.2.2 q (by omega)
    · rw [if_neg h1, if_neg h1]
      by_cases h2 : q ≤ i
      · have eq : q = i := by omega
        rw [if_pos h2, if_pos h2]
        obtain ⟨y, a1, a2, a3, a4, a5⟩ := h.2.2 j (by omega)
        rw [eq, eij]
        refine ⟨y, a1, a2, a3, ?_, ?_⟩
        · rw [show i + 1 + (j - i) = j + 1 by omega]; exact a4
        · rw [show i + 1 + (j - i) = j + 1 by omega]; omega
      · rw [if_neg h2, if_neg h2]
        obtain ⟨y, a1, a2, a3, a4, a5⟩ := h.2.2 (q + (j - i)) (by omega)
        refine ⟨y, a1, a2, a3, ?_, ?_⟩
        · rw [show q + 1 + (j - i) = q + (j - i) + 1 by omega]; exact a4
        · rw [show q + 1 + (j - i) = q + (j - i) + 1 by omega]; omega
  · show (if 0 ≤ i then p 0 else _) = p 0
    rw [if_pos (Nat.zero_le i)]
  · show (if r - (j - i) ≤ i then p (r - (j - i)) else p (r - (j - i) + (j - i))) = p r
    by_cases h1 : r - (j - i) ≤ i
    · rw [if_pos h1]
      have : j = r := by omega
      rw [show r - (j - i) = i by omega, eij, this]
    · rw [if_neg h1, show r - (j - i) + (j - i) = r by omega]
  · show (if r - (j - i) ≤ i then t (r - (j - i)) else t (r - (j - i) + (j - i)) - (t j - t i)) ≤ t r
    have h3 := hmono (j - i) i (by omega)
    rw [show i + (j - i) = j by omega] at h3
    by_cases h1 : r - (j - i) ≤ i
    · rw [if_pos h1]
      have : j = r := by omega
      rw [show r - (j - i) = i by omega, ← this]; exact h3
    · rw [if_neg h1, show r - (j - i) + (j - i) = r by omega]; omega
theorem PN.short {g : aG} (hg : GV g) : ∀ (r : Nat) {p t : Nat → Int}, PN g r p t → ∃ r2 p2 t2, r2 ≤ 34 ∧ PN g r2 p2 t2 ∧ p2 0 = p 0 ∧ p2 r2 = p r ∧ t2 r2 ≤ t r := by
  intro r
  induction r using Nat.strongRecOn with
  | _ r ih =>
    intro p t h
    by_cases hr : 34 < r
    · obtain ⟨r2, p2, t2, h1, h2, h3, h4, h5⟩ := h.cut hg hr
      obtain ⟨r3, p3, t3, k1, k2, k3, k4, k5⟩ := ih r2 h1 h2
      exact ⟨r3, p3, t3, k1, k2, k3.trans h3, k4.trans h4, by omega⟩
    · exact ⟨r, p, t, by omega, h, rfl, rfl, Int.le_refl _⟩
theorem PN.le {g : aG} (hg : GV g) {p t : Nat → Int} : ∀ (r : Nat), PN g r p t → 0 ≤ t r ∧ t r ≤ 10 * r := by
  intro r h
  have key : ∀ i, i ≤ r → 0 ≤ t i ∧ t i ≤ 10 * i := by
    intro i
    induction i with
    | zero => intro _; have := h.1; omega
    | succ i ih =>
      intro hi
      have h1 := ih (by omega)
      obtain ⟨y, a1, a2, a3, a4, a5⟩ := h.2.2 i (by omega)
      have := (cst_ok hg a3).1
      omega
  exact key r (Nat.le_refl r)
theorem Pth.small {g : aG} (hg : GV g) {a b k : Int} (h : Pth g b a k) : ∃ j, Pth g b a j ∧ 0 ≤ j ∧ j ≤ 340 ∧ j ≤ k := by
  obtain ⟨r, p, t, h1, h2, h3, h4⟩ := h.pn
  obtain ⟨r2, p2, t2, k1, k2, k3, k4, k5⟩ := h1.short hg
  have := k2.le hg
  refine ⟨t2 r2, ?_, this.1, by omega, by omega⟩
  have := k2.drop
  rwa [k3, k4, h2, h3] at this
/-- what far holds of a cell while paths to b are sought -/
def DI (g : aG) (b : Int) (f : Nat → Int) (c : Nat) : Prop := (f c = 1000000 ∨ (0 ≤ f c ∧ f c < 1000000 ∧ Pth g b c (f c))) ∧ ((c : Int) = b → opn g b → f c = 0)
def SwD (g : aG) (b : Int) (f0 f : Nat → Int) (goes : Int) (chk : Nat → Int → Prop) : Prop :=
  (∀ c : Nat, (c : Int) < ggn g → DI g b f c ∧ f c ≤ f0 c ∧ 0 ≤ f0 c) ∧ ((goes = 0 ∧ (∀ c : Nat, (c : Int) < ggn g → f c = f0 c) ∧ (∀ (c : Nat) (y : Int), (c : Int) < ggn g → 0 ≤ y → y < 4 → chk c y → cst g c y < 1000000 → f c ≤ cst g c y + f (tgt g c y).toNat)) ∨ (goes = 1 ∧ ∃ c : Nat, (c : Int) < ggn g ∧ f c < f0 c))
theorem SwD.mono {g : aG} {b : Int} {f0 f : Nat → Int} {goes : Int} {k k' : Nat → Int → Prop} (h : SwD g b f0 f goes k) (hk : ∀ (c : Nat) (y : Int), (c : Int) < ggn g → 0 ≤ y → y < 4 → k' c y → cst g c y < 1000000 → k c y ∨ f c ≤ cst g c y + f (tgt g c y).toNat) : SwD g b f0 f goes k' := by
  refine ⟨h.1, h.2.elim (fun q => Or.inl ⟨q.1, q.2.1, fun c y hc h0 h4 hk' he => ?_⟩) Or.inr⟩
  rcases hk c y hc h0 h4 hk' he with w | w
  · exact q.2.2 c y hc h0 h4 w he
  · exact w
theorem SwD.set {g : aG} (hg : GV g) {b : Int} {f0 f : Nat → Int} {goes : Int} {k k' : Nat → Int → Prop} {c : Nat} {y : Int} (h : SwD g b f0 f goes k) (hc : (c : Int) < ggn g) (h0 : 0 ≤ y) (h4 : y < 4) (he : cst g c y < 1000000) (hl : cst g c y + f (tgt g c y).toNat < f c) : SwD g b f0 (fun j => if j = c then cst g c y + f (tgt g c y).toNat else f j) 1 k' := by
  have hco := cst_ok hg he
  have hto := opn_g hg hco.2.2
  obtain ⟨⟨d1, d2⟩, d3, d4⟩ := h.1 c hc
  obtain ⟨⟨e1, e2⟩, e3, e4⟩ := h.1 (tgt g c y).toNat (by omega)
  have etn : (((tgt g c y).toNat : Nat) : Int) = tgt g c y := Int.toNat_of_nonneg hto.1
  rw [etn] at e1
  have hft : 0 ≤ f (tgt g c y).toNat ∧ f (tgt g c y).toNat < 1000000 ∧ Pth g b (tgt g c y) (f (tgt g c y).toNat) := by
    rcases e1 with e1 | e1
    · exfalso; omega
    · exact e1
  refine ⟨fun c9 hc9 => ?_, Or.inr ⟨rfl, c, hc, ?_⟩⟩
  · obtain ⟨⟨a1, a2⟩, a3, a4⟩ := h.1 c9 hc9
    unfold DI
    dsimp only
    by_cases e : c9 = c
    · rw [if_pos e, e]
      refine ⟨⟨Or.inr ⟨by omega, by omega, hft.2.2.s h0 h4 he⟩, fun q1 q2 => ?_⟩, by omega, d4⟩
      have := d2 q1 q2
      omega
    · rw [if_neg e]; exact ⟨⟨a1, a2⟩, a3, a4⟩
  · dsimp only
    rw [if_pos rfl]; omega
/-- the sum of what far holds: it falls -/
def sumF (f : Nat → Int) : Nat → Int
  | 0 => 0
  | k + 1 => sumF f k + f k
theorem sumF_0 {f : Nat → Int} : ∀ k, (∀ i, i < k → 0 ≤ f i) → 0 ≤ sumF f k := by
  intro k
  induction k with
  | zero => intro _; exact Int.le_refl _
  | succ k ih => intro h; have h1 := ih (fun i hi => h i (by omega)); have h2 := h k (by omega); show 0 ≤ sumF f k + f k; omega
theorem sumF_le {f f2 : Nat → Int} : ∀ k, (∀ i, i < k → f i ≤ f2 i) → sumF f k ≤ sumF f2 k := by
  intro k
  induction k with
  | zero => intro _; exact Int.le_refl _
  | succ k ih => intro h; have h1 := ih (fun i hi => h i (by omega)); have h2 := h k (by omega); show sumF f k + f k ≤ sumF f2 k + f2 k; omega
theorem sumF_lt {f f2 : Nat → Int} : ∀ k, (∀ i, i < k → f i ≤ f2 i) → (∃ i, i < k ∧ f i < f2 i) → sumF f k < sumF f2 k := by
  intro k
  induction k with
  | zero => rintro _ ⟨i, hi, -⟩; exact absurd hi (Nat.not_lt_zero i)
  | succ k ih =>
    rintro h ⟨i, hi, h1⟩
    show sumF f k + f k < sumF f2 k + f2 k
    have h3 := h k (by omega)
    by_cases e : i = k
    · have := sumF_le k (fun j hj => h j (by omega)); rw [e] at h1; omega
    · have := ih (fun j hj => h j (by omega)) ⟨i, by omega, h1⟩; omega
theorem SwD.less {g : aG} {b : Int} {f0 f : Nat → Int} {k : Nat → Int → Prop} (h : SwD g b f0 f 1 k) : sumF f (ggn g).toNat < sumF f0 (ggn g).toNat ∧ 0 ≤ sumF f (ggn g).toNat := by
  refine ⟨sumF_lt _ (fun i hi => (h.1 i (by omega)).2.1) ?_, sumF_0 _ (fun i hi => ?_)⟩
  · rcases h.2 with q | ⟨-, c, hc, h1⟩
    · exact absurd q.1 (by omega)
    · exact ⟨c, by omega, h1⟩
  · rcases (h.1 i (by omega)).1.1 with w | w <;> omega
/-- far at the end -/
def FarOk (g : aG) (b : Int) (f : Nat → Int) : Prop := ∀ c : Nat, (c : Int) < ggn g → (f c = 1000000 ∧ ¬ ∃ k, Pth g b c k) ∨ (IsWay g c b (f c) ∧ 0 ≤ f c ∧ f c ≤ 340)
theorem SwD.fin {g : aG} (hg : GV g) {b : Int} {f0 f : Nat → Int} {k : Nat → Int → Prop} (h : SwD g b f0 f 0 k) (hk : ∀ (c : Nat) (y : Int), (c : Int) < ggn g → 0 ≤ y → y < 4 → k c y) : FarOk g b f := by
  have hle : ∀ a j, Pth g b a j → 0 ≤ a ∧ a < ggn g ∧ f a.toNat ≤ j := by
    intro a j hp
    refine hp (fun a j => 0 ≤ a ∧ a < ggn g ∧ f a.toNat ≤ j) (fun ho => ?_) (fun x y i h0 h4 hc q => ?_)
    · have hb := opn_g hg ho
      have := (h.1 b.toNat (by omega)).1.2 (Int.toNat_of_nonneg hb.1) ho
      exact ⟨hb.1, hb.2.1, by omega⟩
    · have hco := cst_ok hg hc
      have hx := opn_g hg hco.2.1
      have ex : ((x.toNat : Nat) : Int) = x := Int.toNat_of_nonneg hx.1
      refine ⟨hx.1, hx.2.1, ?_⟩
      rcases h.2 with w | w
      · have := w.2.2 x.toNat y (by omega) h0 h4 (hk _ _ (by omega) h0 h4) (by rw [ex]; exact hc)
        rw [ex] at this
        have := q.2.2
        omega
      · exact absurd w.1 (by omega)
  intro c hc
  by_cases hp : ∃ j, Pth g b c j
  · right
    obtain ⟨j, hj⟩ := hp
    obtain ⟨j2, k1, k2, k3, k4⟩ := hj.small hg
    have h1 := (hle c j2 k1).2.2
    rw [Int.toNat_natCast] at h1
    rcases (h.1 c hc).1.1 with w | w
    · omega
    · refine ⟨⟨w.2.2, fun i hi => ?_⟩, w.1, by omega⟩
      have := (hle c i hi).2.2
      rwa [Int.toNat_natCast] at this
  · left
    rcases (h.1 c hc).1.1 with w | w
    · exact ⟨w, hp⟩
    · exact absurd ⟨_, w.2.2⟩ hp
theorem far_val {g : aG} {b : Int} {f : Nat → Int} (h : FarOk g b f) {c : Nat} (hc : (c : Int) < ggn g) : (f c = 1000000 ∧ wayv g c b = -1) ∨ (f c = wayv g c b ∧ 0 ≤ f c ∧ f c ≤ 340) := by
  rcases h c hc with w | w
  · exact Or.inl ⟨w.1, wayv_no w.2⟩
  · exact Or.inr ⟨(wayv_is w.1).symm, w.2⟩
set_option maxRecDepth 20000 in
theorem l4_ly {d : Nat} {σ0 : aS} {Q : aQ} {g : aG} {b : Int} (hg : GV g) (he0 : gOf σ0 = g) {c : Nat} {f0 : Nat → Int} (hc : (c : Int) < ggn g) : ∀ (r : Nat) (y : Nat) (goes : Int) (σ : aS) (u5 : Option aV), y + r = 4 → F1 23 σ0 σ → SwD g b f0 (σ.1 23) goes (ck c y) → (∀ (goes : Int) (y : Int) (σ : aS) (u5 : Option aV), F1 23 σ0 σ → SwD g b f0 (σ.1 23) goes (ck (c + 1) 0) → Wp RX4 cX4_laysFar 34 (aCall 34 (d + 4)) Q 3 false 0 (fun _ => 0) 137 [some (vr 18), some (vi b), some (vi goes), some (vi c), some (vi y), u5] [] σ) → Wp RX4 cX4_laysFar 34 (aCall 34 (d + 4)) Q 3 false 0 (fun _ => 0) 62 [some (vr 18), some (vi b), some (vi goes), some (vi c), some (vi y), u5] [] σ := by
  intro r
  induction r with
  | zero =>
    intro y goes σ u5 hy hF hI hK
    have he := hF.g (by decide) he0
    have hn4 := gn_g he
    have hn35 := hg.2.1
    refine wp_iload dX4_laysFar_62 rfl ?_
    refine wp_iconst dX4_laysFar_64 (by decide) ?_
    refine wp_ic_ge 137 dX4_laysFar_65 (by decide) (fun hh65 => ?_) (fun hh65 => ?_)
    · refine hK goes _ σ _ hF (hI.mono (fun c9 y9 a1 a2 a3 hk q => Or.inl ?_))
      unfold ck at hk ⊢
      omega
    · exact absurd hy (by omega)
  | succ r ih =>
    intro y goes σ u5 hy hF hI hK
    have he := hF.g (by decide) he0
    have hn4 := gn_g he
    have hn35 := hg.2.1
    refine wp_iload dX4_laysFar_62 rfl ?_
    refine wp_iconst dX4_laysFar_64 (by decide) ?_
    refine wp_ic_ge 137 dX4_laysFar_65 (by decide) (fun hh65 => ?_) (fun hh65 => ?_)
    · exact absurd hy (by omega)
    · refine wp_aload_n dX4_laysFar_68 rfl ?_
      refine wp_iload_n dX4_laysFar_69 rfl ?_
      refine wp_iload dX4_laysFar_70 rfl ?_
      refine wp_V2 dX4_laysFar_72 vlX4_143 (by decide) rfl (Nat.le_of_ble_eq_true rfl) ?_
      refine s4_cost_g he hg (by omega) (by omega) ?_
      refine wp_ist (L' := [some (vr _), some (vi _), some (vi _), some (vi _), some (vi _), some (vi _)]) dX4_laysFar_75 (Nat.le_of_ble_eq_true rfl) rfl ?_
      refine wp_iload dX4_laysFar_77 rfl ?_
      refine wp_ldc dX4_laysFar_79 klX4_142 ?_
      refine wp_ic_ge 131 dX4_laysFar_81 (by decide) (fun hh81 => ?_) (fun hh81 => ?_)
      · refine wp_iincN (L' := [some (vr _), some (vi _), some (vi _), some (vi _), some (vi _), some (vi _)]) dX4_laysFar_131 rfl (by omega) rfl ?_
        refine wp_gotoN 62 dX4_laysFar_134 (by decide) ?_
        refine ih (y + 1) goes σ _ (by omega) hF (hI.mono (fun c9 y9 a1 a2 a3 hk q => ?_)) hK
        by_cases hcy : c9 = c ∧ y9 = (y : Int)
        · rw [hcy.1, hcy.2] at q
          exact absurd q (by omega)
        · left; unfold ck at hk ⊢; omega
      · have hh81 : cst g c y < 1000000 := by omega
        have hco := cst_ok hg hh81
        have hto := opn_g hg hco.2.2
        have hdt := (hI.1 (tgt g c y).toNat (by omega)).1.1
        have hft : 0 ≤ σ.1 23 (tgt g c y).toNat ∧ σ.1 23 (tgt g c y).toNat ≤ 1000000 := by rcases hdt with w | w <;> omega
        refine wp_iload dX4_laysFar_84 rfl ?_
        refine wp_aload_n dX4_laysFar_86 rfl ?_
        refine wp_getR dX4_laysFar_87 flX4_22 (by decide) rfl rfl ?_
        refine wp_aload_n dX4_laysFar_90 rfl ?_
        refine wp_iload_n dX4_laysFar_91 rfl ?_
        refine wp_iload dX4_laysFar_92 rfl ?_
        refine wp_V2 dX4_laysFar_94 vlX4_139 (by decide) rfl (Nat.le_of_ble_eq_true rfl) ?_
        refine s4_target_g he hg (by omega) (by omega) (by omega) ?_
        refine wp_iaload dX4_laysFar_97 (by decide) rfl (by omega) (by omega) (by decide) ?_
        refine wp_iaddN dX4_laysFar_98 (by omega) ?_
        refine wp_aload_n dX4_laysFar_99 rfl ?_
        refine wp_getR dX4_laysFar_100 flX4_22 (by decide) rfl rfl ?_
        refine wp_iload_n dX4_laysFar_103 rfl ?_
        refine wp_iaload dX4_laysFar_104 (by decide) rfl (by omega) (by omega) (by decide) ?_
        refine wp_ic_ge 131 dX4_laysFar_105 (by decide) (fun hh105 => ?_) (fun hh105 => ?_)
        · refine wp_iincN (L' := [some (vr _), some (vi _), some (vi _), some (vi _), some (vi _), some (vi _)]) dX4_laysFar_131 rfl (by omega) rfl ?_
          refine wp_gotoN 62 dX4_laysFar_134 (by decide) ?_
          refine ih (y + 1) goes σ _ (by omega) hF (hI.mono (fun c9 y9 a1 a2 a3 hk q => ?_)) hK
          by_cases hcy : c9 = c ∧ y9 = (y : Int)
          · right
            rw [hcy.1, hcy.2]
            rw [Int.toNat_natCast] at hh105
            omega
          · left; unfold ck at hk ⊢; omega
        · refine wp_aload_n dX4_laysFar_108 rfl ?_
          refine wp_getR dX4_laysFar_109 flX4_22 (by decide) rfl rfl ?_
          refine wp_iload_n dX4_laysFar_112 rfl ?_
          refine wp_iload dX4_laysFar_113 rfl ?_
          refine wp_aload_n dX4_laysFar_115 rfl ?_
          refine wp_getR dX4_laysFar_116 flX4_22 (by decide) rfl rfl ?_
          refine wp_aload_n dX4_laysFar_119 rfl ?_
          refine wp_iload_n dX4_laysFar_120 rfl ?_
          refine wp_iload dX4_laysFar_121 rfl ?_
          refine wp_V2 dX4_laysFar_123 vlX4_139 (by decide) rfl (Nat.le_of_ble_eq_true rfl) ?_
          refine s4_target_g he hg (by omega) (by omega) (by omega) ?_
          refine wp_iaload dX4_laysFar_126 (by decide) rfl (by omega) (by omega) (by decide) ?_
          refine wp_iaddN dX4_laysFar_127 (by omega) ?_
          refine wp_iastore dX4_laysFar_128 (by decide) rfl (by omega) (by omega) (by decide) ?_
          refine wp_iconst dX4_laysFar_129 (by decide) ?_
          refine wp_istN (L' := [some (vr _), some (vi _), some (vi _), some (vi _), some (vi _), some (vi _)]) dX4_laysFar_130 (Nat.le_of_ble_eq_true rfl) rfl ?_
          refine wp_iincN (L' := [some (vr _), some (vi _), some (vi _), some (vi _), some (vi _), some (vi _)]) dX4_laysFar_131 rfl (by omega) rfl ?_
          refine wp_gotoN 62 dX4_laysFar_134 (by decide) ?_
          refine ih (y + 1) 1 _ _ (by omega) hF.put ?_ hK
          have hw := hI.set hg (y := (y : Int)) (k' := ck c ((y + 1 : Nat) : Int)) hc (by omega) (by omega) hh81 (by rw [Int.toNat_natCast] at hh105; omega)
          refine (show (sI σ 23 (c : Int).toNat (cst g c y + σ.1 23 (tgt g c y).toNat)).1 23 = (fun j => if j = c then cst g c y + σ.1 23 (tgt g c y).toNat else σ.1 23 j) from ?_) ▸ hw
          funext j
          rw [sI_at, Int.toNat_natCast]
          by_cases hj : j = c
          · rw [if_pos ⟨rfl, hj⟩, if_pos hj]
          · rw [if_neg (fun q => hj q.2), if_neg hj]
set_option maxRecDepth 20000 in
theorem l4_lc {d : Nat} {σ0 : aS} {Q : aQ} {g : aG} {b : Int} (hg : GV g) (he0 : gOf σ0 = g) {f0 : Nat → Int} : ∀ (r : Nat) (c : Nat) (goes : Int) (σ : aS) (u4 u5 : Option aV), c + r = (ggn g).toNat → F1 23 σ0 σ → SwD g b f0 (σ.1 23) goes (ck c 0) → (∀ (goes cq : Int) (σ : aS) (u4 u5 : Option aV), F1 23 σ0 σ → SwD g b f0 (σ.1 23) goes (ck (ggn g).toNat 0) → Wp RX4 cX4_laysFar 34 (aCall 34 (d + 4)) Q 3 false 0 (fun _ => 0) 143 [some (vr 18), some (vi b), some (vi goes), some (vi cq), u4, u5] [] σ) → Wp RX4 cX4_laysFar 34 (aCall 34 (d + 4)) Q 3 false 0 (fun _ => 0) 51 [some (vr 18), some (vi b), some (vi goes), some (vi c), u4, u5] [] σ := by
  intro r
  induction r with
  | zero =>
    intro c goes σ u4 u5 hc hF hI hK
    have he := hF.g (by decide) he0
    have hn4 := gn_g he
    have hn35 := hg.2.1
    refine wp_iload_n dX4_laysFar_51 rfl ?_
    refine wp_aload_n dX4_laysFar_52 rfl ?_
    refine wp_getI dX4_laysFar_53 flX4_72 (by decide) rfl (Or.inl rfl) ?_
    refine wp_ic_ge 143 dX4_laysFar_56 (by decide) (fun hh56 => ?_) (fun hh56 => ?_)
    · have e : c = (ggn g).toNat := by omega
      subst e
      exact hK goes _ σ _ _ hF hI
    · exact absurd hc (by omega)
  | succ r ih =>
    intro c goes σ u4 u5 hc hF hI hK
    have he := hF.g (by decide) he0
    have hn4 := gn_g he
    have hn35 := hg.2.1
    refine wp_iload_n dX4_laysFar_51 rfl ?_
    refine wp_aload_n dX4_laysFar_52 rfl ?_
    refine wp_getI dX4_laysFar_53 flX4_72 (by decide) rfl (Or.inl rfl) ?_
    refine wp_ic_ge 143 dX4_laysFar_56 (by decide) (fun hh56 => ?_) (fun hh56 => ?_)
    · exact absurd hc (by omega)
    · refine wp_iconst dX4_laysFar_59 (by decide) ?_
      refine wp_ist (L' := [some (vr _), some (vi _), some (vi _), some (vi _), some (vi _), _]) dX4_laysFar_60 (Nat.le_of_ble_eq_true rfl) rfl ?_
      refine l4_ly hg he0 (by omega) 4 0 goes σ _ (by omega) hF hI (fun goes2 y2 σ2 v5 hF2 hI2 => ?_)
      refine wp_iincN (L' := [some (vr _), some (vi _), some (vi _), some (vi _), some (vi _), _]) dX4_laysFar_137 rfl (by omega) rfl ?_
      refine wp_gotoN 51 dX4_laysFar_140 (by decide) ?_
      exact ih (c + 1) goes2 σ2 _ _ (by omega) hF2 hI2 hK
theorem DI.sw {g : aG} {b : Int} {f : Nat → Int} (h : ∀ c : Nat, (c : Int) < ggn g → DI g b f c) : SwD g b f f 0 (ck 0 0) := ⟨fun c hc => ⟨h c hc, Int.le_refl _, by rcases (h c hc).1 with w | w <;> omega⟩, Or.inl ⟨rfl, fun _ _ => rfl, fun c y _ h0 _ hk => by unfold ck at hk; omega⟩⟩
set_option maxRecDepth 20000 in
theorem l4_lw {d : Nat} {σ0 : aS} {Q : aQ} {g : aG} {b : Int} (hg : GV g) (he0 : gOf σ0 = g) : ∀ (r : Nat) (σ : aS) (u3 u4 u5 : Option aV), (sumF (σ.1 23) (ggn g).toNat).toNat < r → F1 23 σ0 σ → (∀ c : Nat, (c : Int) < ggn g → DI g b (σ.1 23) c) → (hQ : ∀ σq, F1 23 σ0 σq → FarOk g b (σq.1 23) → Q none σq) → Wp RX4 cX4_laysFar 34 (aCall 34 (d + 4)) Q 3 false 0 (fun _ => 0) 43 [some (vr 18), some (vi b), some (vi 1), u3, u4, u5] [] σ := by
  intro r
  induction r with
  | zero =>
    intro σ u3 u4 u5 hm hF hI hQ
    exact absurd hm (Nat.not_lt_zero _)
  | succ r ih =>
    intro σ u3 u4 u5 hm hF hI hQ
    have he := hF.g (by decide) he0
    have hn4 := gn_g he
    have hn35 := hg.2.1
    refine wp_iload_n dX4_laysFar_43 rfl ?_
    refine wp_if_eq 146 dX4_laysFar_44 (by decide) (fun hh44 => ?_) (fun hh44 => ?_)
    · exact absurd hh44 (by decide)
    · refine wp_iconst dX4_laysFar_47 (by decide) ?_
      refine wp_istN (L' := [some (vr _), some (vi _), some (vi _), _, _, _]) dX4_laysFar_48 (Nat.le_of_ble_eq_true rfl) rfl ?_
      refine wp_iconst dX4_laysFar_49 (by decide) ?_
      refine wp_istN (L' := [some (vr _), some (vi _), some (vi _), some (vi _), _, _]) dX4_laysFar_50 (Nat.le_of_ble_eq_true rfl) rfl ?_
      refine l4_lc hg he0 (ggn g).toNat 0 0 σ _ _ (by omega) hF (DI.sw hI) (fun goes2 c2 σ2 v4 v5 hF2 hI2 => ?_)
      refine wp_gotoN 43 dX4_laysFar_143 (by decide) ?_
      rcases hI2.2 with q | q
      · obtain ⟨e0, -, -⟩ := q
        subst e0
        refine wp_iload_n dX4_laysFar_43 rfl ?_
        refine wp_if_eq 146 dX4_laysFar_44 (by decide) (fun hw44 => ?_) (fun hw44 => ?_)
        · refine wp_vret dX4_laysFar_146 rfl ?_
          exact hQ σ2 hF2 (hI2.fin hg (fun c y h1 h2 h3 => Or.inl (by omega)))
        · exact absurd hw44 (by decide)
      · obtain ⟨e1, -⟩ := q
        subst e1
        have hls := hI2.less
        exact ih σ2 _ _ _ (by omega) hF2 (fun c hc => (hI2.1 c hc).1) hQ
set_option maxRecDepth 20000 in
theorem l4_li {d : Nat} {σ0 : aS} {Q : aQ} {g : aG} {b : Int} (hg : GV g) (he0 : gOf σ0 = g) : ∀ (r : Nat) (c : Nat) (σ : aS) (u3 u4 u5 : Option aV), c + r = (ggn g).toNat → F1 23 σ0 σ → (∀ j : Nat, j < c → DI g b (σ.1 23) j) → (∀ (σ : aS), F1 23 σ0 σ → (∀ j : Nat, j < (ggn g).toNat → DI g b (σ.1 23) j) → Wp RX4 cX4_laysFar 34 (aCall 34 (d + 4)) Q 3 false 0 (fun _ => 0) 41 [some (vr 18), some (vi b), some (vi ((ggn g).toNat : Int)), u3, u4, u5] [] σ) → Wp RX4 cX4_laysFar 34 (aCall 34 (d + 4)) Q 3 false 0 (fun _ => 0) 2 [some (vr 18), some (vi b), some (vi c), u3, u4, u5] [] σ := by
  intro r
  induction r with
  | zero =>
    intro c σ u3 u4 u5 hc hF hI hK
    have he := hF.g (by decide) he0
    have hn4 := gn_g he
    have hn35 := hg.2.1
    refine wp_iload_n dX4_laysFar_2 rfl ?_
    refine wp_aload_n dX4_laysFar_3 rfl ?_
    refine wp_getI dX4_laysFar_4 flX4_72 (by decide) rfl (Or.inl rfl) ?_
    refine wp_ic_ge 41 dX4_laysFar_7 (by decide) (fun hh7 => ?_) (fun hh7 => ?_)
    · have e : c = (ggn g).toNat := by omega
      subst e
      exact hK σ hF hI
    · exact absurd hc (by omega)
  | succ r ih =>
    intro c σ u3 u4 u5 hc hF hI hK
    have he := hF.g (by decide) he0
    have hn4 := gn_g he
    have hn35 := hg.2.1
    refine wp_iload_n dX4_laysFar_2 rfl ?_
    refine wp_aload_n dX4_laysFar_3 rfl ?_
    refine wp_getI dX4_laysFar_4 flX4_72 (by decide) rfl (Or.inl rfl) ?_
    refine wp_ic_ge 41 dX4_laysFar_7 (by decide) (fun hh7 => ?_) (fun hh7 => ?_)
    · exact absurd hc (by omega)
    · refine wp_aload_n dX4_laysFar_10 rfl ?_
      refine wp_getR dX4_laysFar_11 flX4_22 (by decide) rfl rfl ?_
      refine wp_iload_n dX4_laysFar_14 rfl ?_
      refine wp_iload_n dX4_laysFar_15 rfl ?_
      refine wp_iload_n dX4_laysFar_16 rfl ?_
      refine wp_ic_ne 32 dX4_laysFar_17 (by decide) (fun hh17 => ?_) (fun hh17 => ?_)
      · refine wp_ldc dX4_laysFar_32 klX4_142 ?_
        refine wp_iastore dX4_laysFar_34 (by decide) rfl (by omega) (by omega) (by decide) ?_
        refine wp_iincN (L' := [some (vr _), some (vi _), some (vi _), _, _, _]) dX4_laysFar_35 rfl (by omega) rfl ?_
        refine wp_gotoN 2 dX4_laysFar_38 (by decide) ?_
        refine ih (c + 1) _ _ _ _ (by omega) hF.put (fun j hj => ?_) hK
        unfold DI
        rw [sI_at, Int.toNat_natCast]
        by_cases hjc : j = c
        · rw [if_pos ⟨rfl, hjc⟩, hjc]; exact ⟨Or.inl rfl, fun q1 q2 => absurd q1 hh17⟩
        · rw [if_neg (fun q => hjc q.2)]; exact hI j (by omega)
      · refine wp_aload_n dX4_laysFar_20 rfl ?_
        refine wp_iload_n dX4_laysFar_21 rfl ?_
        refine wp_V1 dX4_laysFar_22 vlX4_99 (by decide) rfl (Nat.le_of_ble_eq_true rfl) ?_
        refine s4_isOpen_g he hg ?_
        refine wp_ifB_eq 32 dX4_laysFar_25 (by decide) (fun hh25 => ?_) (fun hh25 => ?_)
        · refine wp_ldc dX4_laysFar_32 klX4_142 ?_
          refine wp_iastore dX4_laysFar_34 (by decide) rfl (by omega) (by omega) (by decide) ?_
          refine wp_iincN (L' := [some (vr _), some (vi _), some (vi _), _, _, _]) dX4_laysFar_35 rfl (by omega) rfl ?_
          refine wp_gotoN 2 dX4_laysFar_38 (by decide) ?_
          refine ih (c + 1) _ _ _ _ (by omega) hF.put (fun j hj => ?_) hK
          unfold DI
          rw [sI_at, Int.toNat_natCast]
          by_cases hjc : j = c
          · rw [if_pos ⟨rfl, hjc⟩, hjc]; exact ⟨Or.inl rfl, fun q1 q2 => absurd q2 (by rw [← q1]; exact hh25)⟩
          · rw [if_neg (fun q => hjc q.2)]; exact hI j (by omega)
        · refine wp_iconst dX4_laysFar_28 (by decide) ?_
          refine wp_gotoN 34 dX4_laysFar_29 (by decide) ?_
          refine wp_iastore dX4_laysFar_34 (by decide) rfl (by omega) (by omega) (by decide) ?_
          refine wp_iincN (L' := [some (vr _), some (vi _), some (vi _), _, _, _]) dX4_laysFar_35 rfl (by omega) rfl ?_
          refine wp_gotoN 2 dX4_laysFar_38 (by decide) ?_
          refine ih (c + 1) _ _ _ _ (by omega) hF.put (fun j hj => ?_) hK
          unfold DI
          rw [sI_at, Int.toNat_natCast]
          by_cases hjc : j = c
          · rw [if_pos ⟨rfl, hjc⟩, hjc]; exact ⟨Or.inr ⟨by omega, by omega, by rw [show (c : Int) = b by omega] at hh25 ⊢; exact Pth.z hh25⟩, fun _ _ => rfl⟩
          · rw [if_neg (fun q => hjc q.2)]; exact hI j (by omega)
set_option maxRecDepth 20000 in
theorem s4_laysFar {d : Nat} {σ : aS} {Q : aQ} {b : Int} {g : aG} (he : gOf σ = g) (hg : GV g) (hQ : ∀ σq, F1 23 σ σq → FarOk g b (σq.1 23) → Q none σq) : aCall 34 (d + 5) mX4_laysFar [vr 18, vi b] σ Q := by
  refine cl_in (own := RX4) (cc := cX4_laysFar) (rk := 3) (L := [some (vr 18), some (vi b), none, none, none, none]) rfl rfl rfl rfl (by decide) (Nat.le_of_ble_eq_true rfl) ?_
  refine wp_iconst dX4_laysFar_0 (by decide) ?_
  refine wp_istN (L' := [some (vr _), some (vi _), some (vi _), none, none, none]) dX4_laysFar_1 (Nat.le_of_ble_eq_true rfl) rfl ?_
  refine l4_li hg he (ggn g).toNat 0 σ _ _ _ (by omega) F1.rf (fun j hj => absurd hj (Nat.not_lt_zero j)) (fun σ2 hF2 hI2 => ?_)
  refine wp_iconst dX4_laysFar_41 (by decide) ?_
  refine wp_istN (L' := [some (vr _), some (vi _), some (vi _), _, _, _]) dX4_laysFar_42 (Nat.le_of_ble_eq_true rfl) rfl ?_
  exact l4_lw hg he _ σ2 _ _ _ (Nat.lt_succ_self _) hF2 (fun c hc => hI2 c (by omega)) hQ
