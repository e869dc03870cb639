/-! floods: the sum over all sets of springs -/
def smF (f : Nat → Int) : Nat → Int
  | 0 => 0
  | s + 1 => smF f s + f s
theorem smF_ad {f : Nat → Int} {a : Nat} : ∀ b, smF f (a + b) = smF f a + smF (fun i => f (a + i)) b := by
  intro b
  induction b with
  | zero => show smF f a = smF f a + 0; omega
  | succ b ih =>
    show smF f (a + b) + f (a + b) = smF f a + (smF (fun i => f (a + i)) b + f (a + b))
    omega
theorem smF_c {f h : Nat → Int} : ∀ n, (∀ i, i < n → f i = h i) → smF f n = smF h n := by
  intro n
  induction n with
  | zero => intro _; rfl
  | succ n ih =>
    intro q
    show smF f n + f n = smF h n + h n
    rw [ih (fun i hi => q i (by omega)), q n (by omega)]
theorem smF_m {f : Nat → Int} {x : Int} : ∀ n, smF (fun i => f i * x) n = smF f n * x := by
  intro n
  induction n with
  | zero => show (0 : Int) = 0 * x; rw [Int.zero_mul]
  | succ n ih =>
    show smF (fun i => f i * x) n + f n * x = (smF f n + f n) * x
    rw [ih, Int.add_mul]
theorem smF_0 : ∀ n, smF (fun _ => 0) n = 0 := by
  intro n
  induction n with
  | zero => rfl
  | succ n ih => show smF (fun _ => 0) n + 0 = 0; rw [ih]; rfl
theorem smF_s {f h : Nat → Int} : ∀ n, smF (fun i => f i + h i) n = smF f n + smF h n := by
  intro n
  induction n with
  | zero => rfl
  | succ n ih =>
    show smF (fun i => f i + h i) n + (f n + h n) = (smF f n + f n) + (smF h n + h n)
    omega
/-- the weight of a set -/
noncomputable def wgt (c : Int) (s : Nat) : Nat → Int
  | 0 => 1
  | k + 1 => wgt c s k * cif (s.testBit k = true) c (16 - c)
def hit (R : Nat → Prop) (s m : Nat) : Prop := ∃ k, k < m ∧ s.testBit k = true ∧ R k
theorem wgt_c {c : Int} {s t : Nat} : ∀ m, (∀ k, k < m → s.testBit k = t.testBit k) → wgt c s m = wgt c t m := by
  intro m
  induction m with
  | zero => intro _; rfl
  | succ m ih =>
    intro h
    show wgt c s m * cif (s.testBit m = true) c (16 - c) = wgt c t m * cif (t.testBit m = true) c (16 - c)
    rw [ih (fun k hk => h k (by omega)), h m (by omega)]
theorem hit_c {R : Nat → Prop} {s t m : Nat} (h : ∀ k, k < m → s.testBit k = t.testBit k) : hit R s m ↔ hit R t m := by
  constructor
  · rintro ⟨k, h1, h2, h3⟩; exact ⟨k, h1, by rw [← h k h1]; exact h2, h3⟩
  · rintro ⟨k, h1, h2, h3⟩; exact ⟨k, h1, by rw [h k h1]; exact h2, h3⟩
theorem tb_lo {m i : Nat} (h : i < 2 ^ m) : i.testBit m = false := Nat.testBit_lt_two_pow h
theorem tb_hi {m i : Nat} (h : i < 2 ^ m) : (2 ^ m + i).testBit m = true := by
  rw [Nat.testBit_two_pow_add_eq, tb_lo h]; rfl
theorem tb_k {m i k : Nat} (h : k < m) : (2 ^ m + i).testBit k = i.testBit k := Nat.testBit_two_pow_add_gt h i
noncomputable def dpr (R : Nat → Prop) (c : Int) : Nat → Int
  | 0 => 1
  | m + 1 => dpr R c m * cif (R m) (16 - c) 16
theorem dry_s {R : Nat → Prop} {c : Int} : ∀ m, smF (fun s => cif (hit R s m) 0 (wgt c s m)) (2 ^ m) = dpr R c m := by
  intro m
  induction m with
  | zero =>
    show (0 : Int) + cif (hit R 0 0) 0 1 = 1
    rw [cif_f (fun q => by obtain ⟨k, h, -⟩ := q; exact absurd h (Nat.not_lt_zero k))]; rfl
  | succ m ih =>
    rw [show (2 : Nat) ^ (m + 1) = 2 ^ m + 2 ^ m by rw [Nat.pow_succ]; omega, smF_ad]
    have e1 : smF (fun s => cif (hit R s (m + 1)) 0 (wgt c s (m + 1))) (2 ^ m) = dpr R c m * (16 - c) := by
      rw [← ih, ← smF_m]
      refine smF_c _ (fun i hi => ?_)
      have hw : wgt c i (m + 1) = wgt c i m * (16 - c) := by
        show wgt c i m * cif (i.testBit m = true) c (16 - c) = _
        rw [cif_f (by rw [tb_lo hi]; decide)]
      have hh : hit R i (m + 1) ↔ hit R i m := by
        constructor
        · rintro ⟨k, h1, h2, h3⟩
          by_cases e : k = m
          · rw [e, tb_lo hi] at h2; exact absurd h2 (by decide)
          · exact ⟨k, by omega, h2, h3⟩
        · rintro ⟨k, h1, h2, h3⟩; exact ⟨k, by omega, h2, h3⟩
      by_cases q : hit R i m
      · rw [cif_t (hh.mpr q), cif_t q, Int.zero_mul]
      · rw [cif_f (fun w => q (hh.mp w)), cif_f q, hw]
    have e2 : smF (fun i => cif (hit R (2 ^ m + i) (m + 1)) 0 (wgt c (2 ^ m + i) (m + 1))) (2 ^ m) = cif (R m) 0 (dpr R c m * c) := by
      by_cases r : R m
      · rw [cif_t r]
        refine Eq.trans (smF_c (h := fun _ => 0) _ (fun i hi => ?_)) (smF_0 _)
        exact cif_t (show hit R (2 ^ m + i) (m + 1) from ⟨m, by omega, tb_hi hi, r⟩)
      · rw [cif_f r, ← ih, ← smF_m]
        refine smF_c _ (fun i hi => ?_)
        have hw : wgt c (2 ^ m + i) (m + 1) = wgt c i m * c := by
          show wgt c (2 ^ m + i) m * cif ((2 ^ m + i).testBit m = true) c (16 - c) = _
          rw [cif_t (tb_hi hi), wgt_c m (fun k hk => tb_k hk)]
        have hh : hit R (2 ^ m + i) (m + 1) ↔ hit R i m := by
          rw [← hit_c (s := 2 ^ m + i) (t := i) (fun k hk => tb_k hk)]
          constructor
          · rintro ⟨k, h1, h2, h3⟩
            by_cases e : k = m
            · rw [e] at h3; exact absurd h3 r
            · exact ⟨k, by omega, h2, h3⟩
          · rintro ⟨k, h1, h2, h3⟩; exact ⟨k, by omega, h2, h3⟩
        by_cases q : hit R i m
        · rw [cif_t (hh.mpr q), cif_t q, Int.zero_mul]
        · rw [cif_f (fun w => q (hh.mp w)), cif_f q, hw]
    rw [e1, e2]
    show _ = dpr R c m * cif (R m) (16 - c) 16
    by_cases r : R m
    · rw [cif_t r, cif_t r]; omega
    · rw [cif_f r, cif_f r, ← Int.mul_add, show (16 : Int) - c + c = 16 by omega]
theorem tot_s {c : Int} (m : Nat) : smF (fun s => wgt c s m) (2 ^ m) = 16 ^ m := by
  have h := dry_s (R := fun _ => False) (c := c) m
  have e1 : smF (fun s => cif (hit (fun _ => False) s m) 0 (wgt c s m)) (2 ^ m) = smF (fun s => wgt c s m) (2 ^ m) := smF_c _ (fun i _ => cif_f (fun ⟨_, _, _, q⟩ => q))
  have e2 : ∀ k, dpr (fun _ => False) c k = 16 ^ k := by
    intro k
    induction k with
    | zero => rfl
    | succ k ih =>
      show dpr (fun _ => False) c k * cif False (16 - c) 16 = 16 ^ (k + 1)
      rw [ih, cif_f (fun q => q), Int.pow_succ]
  rw [← e1, h, e2]
theorem hit_s {R : Nat → Prop} {c : Int} (m : Nat) : smF (fun s => cif (hit R s m) (wgt c s m) 0) (2 ^ m) = 16 ^ m - dpr R c m := by
  have h1 := dry_s (R := R) (c := c) m
  have h2 := tot_s (c := c) m
  have h3 := smF_s (f := fun s => cif (hit R s m) (wgt c s m) 0) (h := fun s => cif (hit R s m) 0 (wgt c s m)) (2 ^ m)
  have h4 : smF (fun s => cif (hit R s m) (wgt c s m) 0 + cif (hit R s m) 0 (wgt c s m)) (2 ^ m) = smF (fun s => wgt c s m) (2 ^ m) := smF_c _ (fun i _ => by
    by_cases q : hit R i m
    · rw [cif_t q, cif_t q]; omega
    · rw [cif_f q, cif_f q]; omega)
  omega
theorem dpr_p {R : Nat → Prop} {c : Int} : ∀ m, dpr R c m = (16 - c) ^ (cnt R m).toNat * 16 ^ (m - (cnt R m).toNat) := by
  intro m
  induction m with
  | zero =>
    show (1 : Int) = (16 - c) ^ (0 : Nat) * 16 ^ (0 - 0)
    rw [Int.pow_zero]; rfl
  | succ m ih =>
    have hc := cnt_in R m
    show dpr R c m * cif (R m) (16 - c) 16 = _
    rw [ih]
    by_cases r : R m
    · rw [cif_t r, cnt_t r, show (cnt R m + 1).toNat = (cnt R m).toNat + 1 by omega, show m + 1 - ((cnt R m).toNat + 1) = m - (cnt R m).toNat by omega, Int.pow_succ]
      rw [Int.mul_assoc, Int.mul_assoc, Int.mul_comm (16 ^ _)]
    · rw [cif_f r, cnt_f r, show m + 1 - (cnt R m).toNat = (m - (cnt R m).toNat) + 1 by omega, Int.pow_succ, Int.mul_assoc]
/-! springs by their rank -/
abbrev spr (g : aG) (k : Nat) : Prop := ggk g k = 3
noncomputable abbrev rnk (g : aG) (k : Nat) : Int := cnt (spr g) k
def sR (g : aG) (P : Nat → Prop) (k : Nat) : Prop := ∃ c : Nat, (c : Int) < ggn g ∧ spr g c ∧ rnk g c = k ∧ P c
theorem rnk_lt {g : aG} {a b : Nat} (h : a < b) (ha : spr g a) : rnk g a < rnk g b := by
  have h1 : rnk g (a + 1) = rnk g a + 1 := cnt_t ha
  have h2 := cnt_mo (p := spr g) (a := a + 1) (b - (a + 1))
  rw [show a + 1 + (b - (a + 1)) = b by omega] at h2
  have h2 : rnk g (a + 1) ≤ rnk g b := h2
  omega
theorem rnk_cnt {g : aG} {P : Nat → Prop} : ∀ m : Nat, (m : Int) ≤ ggn g → cnt (fun s => spr g s ∧ P s) m = cnt (sR g P) (rnk g m).toNat := by
  intro m
  induction m with
  | zero => intro _; rfl
  | succ m ih =>
    intro hm
    have i := ih (by omega)
    have hc := cnt_in (spr g) m
    by_cases hs : spr g m
    · have er : rnk g (m + 1) = rnk g m + 1 := cnt_t hs
      rw [er, show (rnk g m + 1).toNat = (rnk g m).toNat + 1 by have : 0 ≤ rnk g m := hc.1; omega]
      have hR : sR g P (rnk g m).toNat ↔ P m := by
        constructor
        · rintro ⟨c, c1, c2, c3, c4⟩
          have c3 : rnk g c = rnk g m := by rw [c3]; exact Int.toNat_of_nonneg hc.1
          by_cases e : c = m
          · rw [← e]; exact c4
          · by_cases l : c < m
            · have := rnk_lt l c2; omega
            · have := rnk_lt (show m < c by omega) hs; omega
        · intro q
          exact ⟨m, by omega, hs, (Int.toNat_of_nonneg hc.1).symm, q⟩
      by_cases q : P m
      · rw [cnt_t (p := fun s => spr g s ∧ P s) ⟨hs, q⟩, cnt_t (hR.mpr q), i]
      · rw [cnt_f (p := fun s => spr g s ∧ P s) (fun w => q w.2), cnt_f (fun w => q (hR.mp w)), i]
    · have er : rnk g (m + 1) = rnk g m := cnt_f hs
      rw [er, cnt_f (p := fun s => spr g s ∧ P s) (fun w => hs w.1), i]
theorem isB_k : ∀ s : Fin 512, ∀ k : Fin 9, (bi32 (· &&& ·) ((s.val : Int) / 2 ^ (((k.val : Int)) % 32).toNat) 1 = 1 ↔ s.val.testBit k.val = true) := by decide +kernel
theorem isB_t {s k : Nat} (hs : s < 512) (hk : k < 9) : isB s k ↔ s.testBit k = true := isB_k ⟨s, hs⟩ ⟨k, hk⟩
theorem Rch_u {g : aG} {S : Int → Prop} (hS : ∀ x, S x → opn g x) {c : Int} : Rch (flW g) g S c ↔ ∃ s, S s ∧ Rch (flW g) g (one g s) c := by
  constructor
  · intro h
    refine h (fun c => ∃ s, S s ∧ Rch (flW g) g (one g s) c) (fun x hx => ⟨x, hx, Rch.of ⟨rfl, hS x hx⟩⟩) (fun x y y0 y4 hx he => ?_)
    obtain ⟨s, h1, h2⟩ := hx
    exact ⟨s, h1, h2.go y0 y4 he⟩
  · rintro ⟨s, h1, h2⟩
    refine h2 (fun c => Rch (flW g) g S c) (fun x hx => ?_) (fun x y y0 y4 hx he => hx.go y0 y4 he)
    rw [hx.1]; exact Rch.of h1
def wsP (g : aG) (cell : Int) (s : Nat) : Prop := Rch (flW g) g (one g s) cell
theorem Rch_h {g : aG} {cell : Int} {s : Nat} (hg : GV g) (hn : spn g ≤ 9) (hs : s < 2 ^ spn g) : Rch (flW g) g (spS g s) cell ↔ hit (sR g (wsP g cell)) s (spn g) := by
  have h512 : 2 ^ spn g ≤ 2 ^ 9 := Nat.pow_le_pow_right (by decide) hn
  have hs5 : s < 512 := Nat.lt_of_lt_of_le hs h512
  rw [Rch_u (fun x hx => spS_o hx)]
  constructor
  · rintro ⟨x, ⟨x0, x1, x2, x3⟩, hx⟩
    obtain ⟨k, rfl⟩ := Int.eq_ofNat_of_zero_le x0
    rw [Int.toNat_natCast] at x3
    have hk := cnt_in (spr g) k
    have hl : rnk g k < rnk g (ggn g).toNat := rnk_lt (by omega) x2
    have hl2 : (rnk g k).toNat < spn g := by unfold spn; show (rnk g k).toNat < (rnk g (ggn g).toNat).toNat; have : 0 ≤ rnk g k := hk.1; omega
    have ek : (((rnk g k).toNat : Nat) : Int) = rnk g k := Int.toNat_of_nonneg hk.1
    refine ⟨(rnk g k).toNat, hl2, ?_, k, x1, x2, ek.symm, hx⟩
    have x3 : isB s (rnk g k) := x3
    rw [← ek] at x3
    exact (isB_t hs5 (by omega)).mp x3
  · rintro ⟨k, h1, h2, c, c1, c2, c3, c4⟩
    refine ⟨c, ⟨by omega, c1, c2, ?_⟩, c4⟩
    rw [Int.toNat_natCast]
    show isB s (rnk g c)
    rw [c3]
    exact (isB_t hs5 (by omega)).mpr h2
theorem wt_w {c : Int} {s : Nat} (hs : s < 512) : ∀ n, n ≤ 9 → wtN c s n = wgt c s n := by
  intro n
  induction n with
  | zero => intro _; rfl
  | succ n ih =>
    intro hn
    show wtN c s n * cif (isB s n) c (16 - c) = wgt c s n * cif (s.testBit n = true) c (16 - c)
    rw [ih (by omega), propext (isB_t hs (show n < 9 by omega))]
theorem sm_f {g : aG} {c cell : Int} (hg : GV g) (hn : spn g ≤ 9) : ∀ m, m ≤ 2 ^ spn g → smN g c cell (spn g) m = smF (fun s => cif (hit (sR g (wsP g cell)) s (spn g)) (wgt c s (spn g)) 0) m := by
  have h512 : 2 ^ spn g ≤ 2 ^ 9 := Nat.pow_le_pow_right (by decide) hn
  intro m
  induction m with
  | zero => intro _; rfl
  | succ m ih =>
    intro hm
    show smN g c cell (spn g) m + cif (Rch (flW g) g (spS g m) cell) (wtN c m (spn g)) 0 = smF _ m + cif (hit (sR g (wsP g cell)) m (spn g)) (wgt c m (spn g)) 0
    rw [ih (by omega), propext (Rch_h (s := m) hg hn (by omega)), wt_w (show m < 512 by omega) _ hn]
/-- how many springs wet a CELL -/
noncomputable def jwt (g : aG) (cell : Int) : Nat := (cnt (fun s => spr g s ∧ wsP g cell s) (ggn g).toNat).toNat
theorem jwt_le {g : aG} {cell : Int} : jwt g cell ≤ spn g := by
  have := cnt_le (p := fun s => spr g s ∧ wsP g cell s) (q := spr g) (ggn g).toNat (fun i _ q => q.1)
  unfold jwt spn
  show _ ≤ (cnt (spr g) (ggn g).toNat).toNat
  omega
theorem sm_v {g : aG} {c cell : Int} (hg : GV g) (hn : spn g ≤ 9) : smN g c cell (spn g) (2 ^ spn g) = 16 ^ spn g - (16 - c) ^ jwt g cell * 16 ^ (spn g - jwt g cell) := by
  have e : cnt (sR g (wsP g cell)) (spn g) = cnt (fun s => spr g s ∧ wsP g cell s) (ggn g).toNat := (rnk_cnt (g := g) (P := wsP g cell) (ggn g).toNat (by have := hg.1; omega)).symm
  rw [sm_f hg hn _ (Nat.le_refl _), hit_s, dpr_p, e]
  rfl
theorem gcd_2 {a : Nat} (h : a % 2 = 1) : ∀ f, Nat.gcd a (2 ^ f) = 1 := by
  intro f
  have h1 : Nat.Coprime a 2 := by
    show Nat.gcd a 2 = 1
    rw [Nat.gcd_comm, Nat.gcd_rec, h]
    rfl
  exact Nat.Coprime.pow_right f h1
/-- the numbers at the end of the halving -/
theorem low_v {n J : Nat} {A : Nat} {a b i f : Nat} (hJ : J ≤ n) (ha : A = a * 2 ^ i) (hb : b = 2 ^ f) (hf : f + i = 4 * J) (h1 : a % 2 = 1 ∨ f = 0) {t B : Nat} (ht : t = 16 ^ (n - J) * A) (hB : B = 2 ^ (4 * n)) : t / Nat.gcd t B = a ∧ B / Nat.gcd t B = b := by
  have e1 : B = 16 ^ (n - J) * (b * 2 ^ i) := by
    rw [hB, hb, ← Nat.pow_add, hf, show (16 : Nat) = 2 ^ 4 from rfl, ← Nat.pow_mul, ← Nat.pow_add]
    congr 1
    omega
  have g1 : Nat.gcd a b = 1 := by
    rw [hb]
    rcases h1 with q | q
    · exact gcd_2 q f
    · rw [q]; exact Nat.gcd_one_right a
  have hp : 0 < 16 ^ (n - J) * 2 ^ i := Nat.mul_pos (Nat.pow_pos (by decide)) (Nat.pow_pos (by decide))
  have e2 : t = (16 ^ (n - J) * 2 ^ i) * a := by rw [ht, ha, Nat.mul_comm a, Nat.mul_assoc]
  have e3 : B = (16 ^ (n - J) * 2 ^ i) * b := by rw [e1, Nat.mul_comm b, Nat.mul_assoc]
  rw [e2, e3, Nat.gcd_mul_left, g1, Nat.mul_one, Nat.mul_div_cancel_left _ hp, Nat.mul_div_cancel_left _ hp]
  exact ⟨rfl, rfl⟩
