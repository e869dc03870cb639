theorem s4_isOpen_g {d : Nat} {σ : aS} {Q : aQ} {c : Int} {g : aG} (he : gOf σ = g) (hg : GV g) (hQ : Q (some (vi (bi (opn g c)))) σ) : aCall 34 (d + 2) mX4_isOpen [vr 18, vi c] σ Q := by
  subst he; exact s4_isOpen hg hQ
theorem s4_below_g {d : Nat} {σ : aS} {Q : aQ} {c : Int} {g : aG} (he : gOf σ = g) (hg : GV g) (h0 : 0 ≤ c) (h1 : c ≤ 1000) (hp : 0 < σ.1 18 4) (hQ : Q (some (vi (blw g c))) σ) : aCall 34 (d + 2) mX4_below [vr 18, vi c] σ Q := by
  subst he; exact s4_below hg h0 h1 hp hQ
theorem s4_target_g {d : Nat} {σ : aS} {Q : aQ} {c y : Int} {g : aG} (he : gOf σ = g) (hg : GV g) (h0 : 0 ≤ c) (h1 : c ≤ 1000) (hp : 0 < σ.1 18 4) (hQ : Q (some (vi (tgt g c y))) σ) : aCall 34 (d + 1) mX4_target [vr 18, vi c, vi y] σ Q := by
  subst he; exact s4_target hg h0 h1 hp hQ
theorem s4_cost_g {d : Nat} {σ : aS} {Q : aQ} {c y : Int} {g : aG} (he : gOf σ = g) (hg : GV g) (h0 : 0 ≤ c) (h1 : c < σ.1 18 4) (hQ : Q (some (vi (cst g c y))) σ) : aCall 34 (d + 4) mX4_cost [vr 18, vi c, vi y] σ Q := by
  subst he; exact s4_cost hg h0 h1 hQ
theorem s4_isHeld_g {d : Nat} {σ : aS} {Q : aQ} {c : Int} {g : aG} (he : gOf σ = g) (hg : GV g) (h0 : 0 ≤ c) (h1 : c < σ.1 18 4) (hQ : Q (some (vi (bi (hld g c)))) σ) : aCall 34 (d + 3) mX4_isHeld [vr 18, vi c] σ Q := by
  subst he; exact s4_isHeld hg h0 h1 hQ
theorem gk_g {σ : aS} {g : aG} {k : Nat} (he : gOf σ = g) (h1 : (k : Int) < σ.1 18 4) : ggk g k = σ.1 20 (k : Int).toNat := by subst he; exact gk_n h1
theorem gn_g {σ : aS} {g : aG} (he : gOf σ = g) : σ.1 18 4 = ggn g := by subst he; rfl
theorem opn_g {g : aG} {c : Int} (hg : GV g) (h : opn g c) : 0 ≤ c ∧ c < ggn g ∧ c ≤ 34 ∧ ggn g ≤ 35 := by
  have h1 := h.1
  have h2 := h.2.1
  have := hg.2.1
  omega
/-- only one cell's slots change -/
def F1 (q : Nat) (σ σ' : aS) : Prop := (∀ c k, c ≠ q → σ'.1 c k = σ.1 c k) ∧ σ'.2 = σ.2
theorem F1.rf {q : Nat} {σ : aS} : F1 q σ σ := ⟨fun _ _ _ => rfl, rfl⟩
theorem F1.put {q : Nat} {σ σ' : aS} {k : Nat} {x : Int} (h : F1 q σ σ') : F1 q σ (sI σ' q k x) := ⟨fun c k' hc => by rw [sI_ne (fun w => hc w.1)]; exact h.1 c k' hc, h.2⟩
theorem F1.tr {q : Nat} {σ σ' σ'' : aS} (h : F1 q σ σ') (h' : F1 q σ' σ'') : F1 q σ σ'' := ⟨fun c k hc => (h'.1 c k hc).trans (h.1 c k hc), h'.2.trans h.2⟩
theorem F1.f2 {q : Nat} {σ σ' : aS} (h : F1 q σ σ') (hq : q = 23 ∨ q = 24 ∨ q = 25) : Fr2 σ σ' := ⟨fun c k a1 a2 a3 _ _ => h.1 c k (by omega), h.2⟩
theorem F1.g {q : Nat} {σ σ' : aS} {g : aG} (h : F1 q σ σ') (hq : q = 23 ∨ q = 24 ∨ q = 25) (he : gOf σ = g) : gOf σ' = g := (h.f2 hq).g.trans he
/-- water goes from c by the way y -/
def flW (g : aG) (c y : Int) : Prop := opn g (tgt g c y) ∧ ((opn g (blw g c) ∧ 1 < y ∧ tgt g c y = blw g c) ∨ (¬ opn g (blw g c) ∧ y < 2))
/-- the least set that holds S and is closed under E -/
def Rch (E : Int → Int → Prop) (g : aG) (S : Int → Prop) (c : Int) : Prop := ∀ p : Int → Prop, (∀ x, S x → p x) → (∀ x y, 0 ≤ y → y < 4 → p x → E x y → p (tgt g x y)) → p c
theorem Rch.of {E : Int → Int → Prop} {g : aG} {S : Int → Prop} {c : Int} (h : S c) : Rch E g S c := fun p h1 _ => h1 c h
theorem Rch.go {E : Int → Int → Prop} {g : aG} {S : Int → Prop} {c y : Int} (h : Rch E g S c) (h0 : 0 ≤ y) (h4 : y < 4) (he : E c y) : Rch E g S (tgt g c y) := fun p h1 h2 => h2 c y h0 h4 (h p h1 h2) he
def spS (g : aG) (b : Int) (c : Int) : Prop := 0 ≤ c ∧ c < ggn g ∧ ggk g c = 3 ∧ isB b (cnt (fun k => ggk g k = 3) c.toNat)
/-- a sweep over the cells, as far as chk: f0 at its beginning, f now -/
def SwI (E : Int → Int → Prop) (g : aG) (S : Int → Prop) (f0 f : Nat → Int) (goes : Int) (chk : Nat → Int → Prop) : Prop :=
  (∀ c : Nat, (c : Int) < ggn g → (f c = 0 ∨ f c = 1) ∧ (f0 c = 0 ∨ f0 c = 1) ∧ (S c → f c = 1) ∧ (f c = 1 → Rch E g S c) ∧ (f0 c = 1 → f c = 1)) ∧ ((goes = 0 ∧ (∀ c : Nat, (c : Int) < ggn g → f c = f0 c) ∧ (∀ (c : Nat) (y : Int), (c : Int) < ggn g → 0 ≤ y → y < 4 → chk c y → f c = 1 → E c y → f (tgt g c y).toNat = 1)) ∨ (goes = 1 ∧ ∃ c : Nat, (c : Int) < ggn g ∧ f0 c = 0 ∧ f c = 1))
def ck (c : Nat) (y : Int) (c' : Nat) (y' : Int) : Prop := c' < c ∨ (c' = c ∧ y' < y)
theorem SwI.mono {E : Int → Int → Prop} {g : aG} {S : Int → Prop} {f0 f : Nat → Int} {goes : Int} {k k' : Nat → Int → Prop} (h : SwI E g S f0 f goes k) (hk : ∀ (c : Nat) (y : Int), (c : Int) < ggn g → 0 ≤ y → y < 4 → k' c y → f c = 1 → E c y → k c y ∨ f (tgt g c y).toNat = 1) : SwI E g S f0 f goes k' := by
  refine ⟨h.1, h.2.elim (fun q => Or.inl ⟨q.1, q.2.1, fun c y hc h0 h4 hk' h1 he => ?_⟩) Or.inr⟩
  rcases hk c y hc h0 h4 hk' h1 he with w | w
  · exact q.2.2 c y hc h0 h4 w h1 he
  · exact w
theorem SwI.set {E : Int → Int → Prop} {g : aG} {S : Int → Prop} {f0 f : Nat → Int} {goes : Int} {k k' : Nat → Int → Prop} {c : Nat} {y : Int} (h : SwI E g S f0 f goes k) (hc : (c : Int) < ggn g) (h0 : 0 ≤ y) (h4 : y < 4) (h1 : f c = 1) (he : E c y) (ht : 0 ≤ tgt g c y ∧ tgt g c y < ggn g) (hz : f (tgt g c y).toNat = 0) : SwI E g S f0 (fun j => if j = (tgt g c y).toNat then 1 else f j) 1 k' := by
  refine ⟨fun c' hc' => ?_, Or.inr ⟨rfl, (tgt g c y).toNat, by omega, ?_, by simp⟩⟩
  · obtain ⟨a1, a2, a3, a4, a5⟩ := h.1 c' hc'
    dsimp only
    by_cases e : c' = (tgt g c y).toNat
    · rw [if_pos e]
      refine ⟨Or.inr rfl, a2, fun _ => rfl, fun _ => ?_, fun _ => rfl⟩
      rw [show (c' : Int) = tgt g c y by omega]
      exact ((h.1 c hc).2.2.2.1 h1).go h0 h4 he
    · rw [if_neg e]; exact ⟨a1, a2, a3, a4, a5⟩
  · have := h.1 (tgt g c y).toNat (by omega)
    omega
theorem cnt_le {p q : Nat → Prop} : ∀ k, (∀ i, i < k → p i → q i) → cnt p k ≤ cnt q k := by
  intro k
  induction k with
  | zero => intro _; exact Int.le_refl _
  | succ k ih =>
    intro h
    have h1 := ih (fun i hi => h i (by omega))
    show cnt p k + bi (p k) ≤ cnt q k + bi (q k)
    by_cases hp : p k
    · rw [bi_t hp, bi_t (h k (by omega) hp)]; omega
    · rw [bi_f hp]; have := bi_10 (q k); omega
theorem cnt_lt {p q : Nat → Prop} : ∀ k, (∀ i, i < k → p i → q i) → (∃ i, i < k ∧ ¬ p i ∧ q i) → cnt p k < cnt q k := by
  intro k
  induction k with
  | zero => rintro _ ⟨i, hi, -⟩; exact absurd hi (Nat.not_lt_zero i)
  | succ k ih =>
    rintro h ⟨i, hi, h1, h2⟩
    show cnt p k + bi (p k) < cnt q k + bi (q k)
    by_cases e : i = k
    · subst e
      have := cnt_le i (fun j hj => h j (by omega))
      rw [bi_f h1, bi_t h2]; omega
    · have := ih (fun j hj => h j (by omega)) ⟨i, by omega, h1, h2⟩
      by_cases hp : p k
      · rw [bi_t hp, bi_t (h k (by omega) hp)]; omega
      · rw [bi_f hp]; have := bi_10 (q k); omega
/-- the sweep that changes nothing ends the work -/
theorem SwI.fin {E : Int → Int → Prop} {g : aG} {S : Int → Prop} {f0 f : Nat → Int} {k : Nat → Int → Prop} (h : SwI E g S f0 f 0 k) (hk : ∀ (c : Nat) (y : Int), (c : Int) < ggn g → 0 ≤ y → y < 4 → k c y) (hS : ∀ c, S c → 0 ≤ c ∧ c < ggn g) (hE : ∀ (c : Nat) (y : Int), (c : Int) < ggn g → E c y → 0 ≤ tgt g c y ∧ tgt g c y < ggn g) : ∀ c : Nat, (c : Int) < ggn g → f c = bi (Rch E g S c) := by
  intro c hc
  have hcl : ∀ x : Int, Rch E g S x → 0 ≤ x ∧ x < ggn g ∧ f x.toNat = 1 := by
    intro x hx
    refine hx (fun x => 0 ≤ x ∧ x < ggn g ∧ f x.toNat = 1) (fun x hs => ?_) (fun x y h0 h4 hp he => ?_)
    · have := hS x hs
      refine ⟨this.1, this.2, (h.1 x.toNat (by omega)).2.2.1 ?_⟩
      rw [Int.toNat_of_nonneg this.1]; exact hs
    · have e1 : ((x.toNat : Nat) : Int) = x := Int.toNat_of_nonneg hp.1
      have ht := hE x.toNat y (by omega) (by rw [e1]; exact he)
      rw [e1] at ht
      refine ⟨ht.1, ht.2, ?_⟩
      rcases h.2 with q | q
      · have := q.2.2 x.toNat y (by omega) h0 h4 (hk _ _ (by omega) h0 h4) hp.2.2 (by rw [e1]; exact he)
        rwa [e1] at this
      · exact absurd q.1 (by omega)
  obtain ⟨a1, a2, a3, a4, a5⟩ := h.1 c hc
  rcases a1 with a1 | a1
  · rw [a1, bi_f (fun q => by have := (hcl c q).2.2; rw [Int.toNat_natCast] at this; omega)]
  · rw [a1, bi_t (a4 a1)]
set_option maxRecDepth 20000 in
theorem l4_fy {d : Nat} {σ0 : aS} {Q : aQ} {g : aG} {b n : Int} (hg : GV g) (he0 : gOf σ0 = g) {c : Nat} {f0 : Nat → Int} (hc : (c : Int) < ggn g) : ∀ (r : Nat) (y : Nat) (goes : Int) (σ : aS) (u6 u7 u8 : Option aV), y + r = 4 → F1 25 σ0 σ → SwI (flW g) g (spS g b) f0 (σ.1 25) goes (ck c y) → (∀ (goes : Int) (y : Int) (σ : aS) (u6 u7 u8 : Option aV), F1 25 σ0 σ → SwI (flW g) g (spS g b) f0 (σ.1 25) goes (ck (c + 1) 0) → Wp RX4 cX4_flows 34 (aCall 34 (d + 2)) Q 3 false 0 (fun _ => 0) 204 [some (vr 18), some (vi b), some (vi n), some (vi goes), some (vi c), some (vi y), u6, u7, u8] [] σ) → Wp RX4 cX4_flows 34 (aCall 34 (d + 2)) Q 3 false 0 (fun _ => 0) 88 [some (vr 18), some (vi b), some (vi n), some (vi goes), some (vi c), some (vi y), u6, u7, u8] [] σ := by
  intro r
  induction r with
  | zero =>
    intro y goes σ u6 u7 u8 hy hF hI hK
    have he := hF.g (by decide) he0
    have hn4 := gn_g he
    have hn35 := hg.2.1
    refine wp_iload dX4_flows_88 rfl ?_
    refine wp_iconst dX4_flows_90 (by decide) ?_
    refine wp_ic_ge 204 dX4_flows_91 (by decide) (fun hh91 => ?_) (fun hh91 => ?_)
    · refine hK goes _ σ _ _ _ hF (hI.mono (fun c9 y9 a1 a2 a3 hk h1 q => Or.inl ?_))
      unfold ck at hk ⊢
      omega
    · exact absurd hy (by omega)
  | succ r ih =>
    intro y goes σ u6 u7 u8 hy hF hI hK
    have he := hF.g (by decide) he0
    have hn4 := gn_g he
    have hn35 := hg.2.1
    refine wp_iload dX4_flows_88 rfl ?_
    refine wp_iconst dX4_flows_90 (by decide) ?_
    refine wp_ic_ge 204 dX4_flows_91 (by decide) (fun hh91 => ?_) (fun hh91 => ?_)
    · exact absurd hy (by omega)
    · refine wp_aload_n dX4_flows_94 rfl ?_
      refine wp_getR dX4_flows_95 flX4_29 (by decide) rfl rfl ?_
      refine wp_iload dX4_flows_98 rfl ?_
      refine wp_baload dX4_flows_100 (by decide) rfl (by omega) (by omega) (by decide) ?_
      refine wp_if_eq 204 dX4_flows_101 (by decide) (fun hh101 => ?_) (fun hh101 => ?_)
      · refine hK goes _ σ _ _ _ hF (hI.mono (fun c9 y9 a1 a2 a3 hk h1 q => Or.inl ?_))
        unfold ck at hk ⊢
        by_cases hcc : c9 = c
        · rw [hcc] at h1; rw [Int.toNat_natCast] at hh101; omega
        · omega
      · refine wp_aload_n dX4_flows_104 rfl ?_
        refine wp_iload dX4_flows_105 rfl ?_
        refine wp_iload dX4_flows_107 rfl ?_
        refine wp_V2 dX4_flows_109 vlX4_139 (by decide) rfl (Nat.le_of_ble_eq_true rfl) ?_
        refine s4_target_g he hg (by omega) (by omega) (by omega) ?_
        refine wp_ist (L' := [some (vr _), some (vi _), some (vi _), some (vi _), some (vi _), some (vi _), some (vi _), _, _]) dX4_flows_112 (Nat.le_of_ble_eq_true rfl) rfl ?_
        refine wp_aload_n dX4_flows_114 rfl ?_
        refine wp_aload_n dX4_flows_115 rfl ?_
        refine wp_iload dX4_flows_116 rfl ?_
        refine wp_V1 dX4_flows_118 vlX4_96 (by decide) rfl (Nat.le_of_ble_eq_true rfl) ?_
        refine s4_below_g he hg (by omega) (by omega) (by omega) ?_
        refine wp_V1 dX4_flows_121 vlX4_99 (by decide) rfl (Nat.le_of_ble_eq_true rfl) ?_
        refine s4_isOpen_g he hg ?_
        refine wp_ist (L' := [some (vr _), some (vi _), some (vi _), some (vi _), some (vi _), some (vi _), some (vi _), some (vi _), _]) dX4_flows_124 (Nat.le_of_ble_eq_true rfl) rfl ?_
        refine wp_aload_n dX4_flows_126 rfl ?_
        refine wp_iload dX4_flows_127 rfl ?_
        refine wp_V1 dX4_flows_129 vlX4_99 (by decide) rfl (Nat.le_of_ble_eq_true rfl) ?_
        refine s4_isOpen_g he hg ?_
        refine wp_ifB_eq 170 dX4_flows_132 (by decide) (fun hh132 => ?_) (fun hh132 => ?_)
        · refine wp_iconst dX4_flows_170 (by decide) ?_
          refine wp_ist (L' := [some (vr _), some (vi _), some (vi _), some (vi _), some (vi _), some (vi _), some (vi _), some (vi _), some (vi _)]) dX4_flows_171 (Nat.le_of_ble_eq_true rfl) rfl ?_
          refine wp_iload dX4_flows_173 rfl ?_
          refine wp_if_eq 198 dX4_flows_175 (by decide) (fun hh175 => ?_) (fun hh175 => ?_)
          · refine wp_iincN (L' := [some (vr _), some (vi _), some (vi _), some (vi _), some (vi _), some (vi _), some (vi _), some (vi _), some (vi _)]) dX4_flows_198 rfl (by omega) rfl ?_
            refine wp_gotoN 88 dX4_flows_201 (by decide) ?_
            refine ih (y + 1) goes σ _ _ _ (by omega) hF (hI.mono (fun c9 y9 a1 a2 a3 hk h1 q => ?_)) hK
            by_cases hcy : c9 = c ∧ y9 = (y : Int)
            · rw [hcy.1, hcy.2] at q
              exact absurd q.1 hh132
            · left; unfold ck at hk ⊢; omega
          · exact absurd hh175 (by decide)
        · refine wp_iload dX4_flows_135 rfl ?_
          refine wp_ifB_eq 160 dX4_flows_137 (by decide) (fun hh137 => ?_) (fun hh137 => ?_)
          · refine wp_iload dX4_flows_160 rfl ?_
            refine wp_iconst dX4_flows_162 (by decide) ?_
            refine wp_ic_ge 170 dX4_flows_163 (by decide) (fun hh163 => ?_) (fun hh163 => ?_)
            · refine wp_iconst dX4_flows_170 (by decide) ?_
              refine wp_ist (L' := [some (vr _), some (vi _), some (vi _), some (vi _), some (vi _), some (vi _), some (vi _), some (vi _), some (vi _)]) dX4_flows_171 (Nat.le_of_ble_eq_true rfl) rfl ?_
              refine wp_iload dX4_flows_173 rfl ?_
              refine wp_if_eq 198 dX4_flows_175 (by decide) (fun hh175 => ?_) (fun hh175 => ?_)
              · refine wp_iincN (L' := [some (vr _), some (vi _), some (vi _), some (vi _), some (vi _), some (vi _), some (vi _), some (vi _), some (vi _)]) dX4_flows_198 rfl (by omega) rfl ?_
                refine wp_gotoN 88 dX4_flows_201 (by decide) ?_
                refine ih (y + 1) goes σ _ _ _ (by omega) hF (hI.mono (fun c9 y9 a1 a2 a3 hk h1 q => ?_)) hK
                by_cases hcy : c9 = c ∧ y9 = (y : Int)
                · rw [hcy.1, hcy.2] at q
                  exact absurd q.2 (fun w => w.elim (fun w => hh137 w.1) (fun w => by have h1 := w.2; omega))
                · left; unfold ck at hk ⊢; omega
              · exact absurd hh175 (by decide)
            · refine wp_iconst dX4_flows_166 (by decide) ?_
              refine wp_gotoN 171 dX4_flows_167 (by decide) ?_
              refine wp_ist (L' := [some (vr _), some (vi _), some (vi _), some (vi _), some (vi _), some (vi _), some (vi _), some (vi _), some (vi _)]) dX4_flows_171 (Nat.le_of_ble_eq_true rfl) rfl ?_
              refine wp_iload dX4_flows_173 rfl ?_
              refine wp_if_eq 198 dX4_flows_175 (by decide) (fun hh175 => ?_) (fun hh175 => ?_)
              · exact absurd hh175 (by decide)
              · have hto := opn_g hg hh132
                refine wp_aload_n dX4_flows_178 rfl ?_
                refine wp_getR dX4_flows_179 flX4_29 (by decide) rfl rfl ?_
                refine wp_iload dX4_flows_182 rfl ?_
                refine wp_baload dX4_flows_184 (by decide) rfl (by omega) (by omega) (by decide) ?_
                refine wp_if_ne 198 dX4_flows_185 (by decide) (fun hh185 => ?_) (fun hh185 => ?_)
                · refine wp_iincN (L' := [some (vr _), some (vi _), some (vi _), some (vi _), some (vi _), some (vi _), some (vi _), some (vi _), some (vi _)]) dX4_flows_198 rfl (by omega) rfl ?_
                  refine wp_gotoN 88 dX4_flows_201 (by decide) ?_
                  refine ih (y + 1) goes σ _ _ _ (by omega) hF (hI.mono (fun c9 y9 a1 a2 a3 hk h1 q => ?_)) hK
                  by_cases hcy : c9 = c ∧ y9 = (y : Int)
                  · right
                    rw [hcy.1, hcy.2]
                    have := (hI.1 (tgt g c y).toNat (by omega)).1
                    omega
                  · left; unfold ck at hk ⊢; omega
                · refine wp_aload_n dX4_flows_188 rfl ?_
                  refine wp_getR dX4_flows_189 flX4_29 (by decide) rfl rfl ?_
                  refine wp_iload dX4_flows_192 rfl ?_
                  refine wp_iconst dX4_flows_194 (by decide) ?_
                  refine wp_bastore dX4_flows_195 (by decide) rfl (by omega) (by omega) (by decide) (by omega) ?_
                  refine wp_iconst dX4_flows_196 (by decide) ?_
                  refine wp_istN (L' := [some (vr _), some (vi _), some (vi _), some (vi _), some (vi _), some (vi _), some (vi _), some (vi _), some (vi _)]) dX4_flows_197 (Nat.le_of_ble_eq_true rfl) rfl ?_
                  refine wp_iincN (L' := [some (vr _), some (vi _), some (vi _), some (vi _), some (vi _), some (vi _), some (vi _), some (vi _), some (vi _)]) dX4_flows_198 rfl (by omega) rfl ?_
                  refine wp_gotoN 88 dX4_flows_201 (by decide) ?_
                  refine ih (y + 1) 1 _ _ _ _ (by omega) hF.put ?_ hK
                  have hw := hI.set (y := (y : Int)) (k' := ck c ((y + 1 : Nat) : Int)) (by omega) (by omega) (by omega) (by rw [Int.toNat_natCast] at hh101; have := (hI.1 c (by omega)).1; omega) (show flW g c y from ⟨hh132, (Or.inr ⟨hh137, by omega⟩)⟩) (by omega) (by have := (hI.1 (tgt g c y).toNat (by omega)).1; omega)
                  refine (show (sI σ 25 (tgt g c y).toNat 1).1 25 = (fun j => if j = (tgt g c y).toNat then 1 else σ.1 25 j) from ?_) ▸ hw
                  funext j
                  rw [sI_at]
                  by_cases hj : j = (tgt g c y).toNat
                  · rw [if_pos ⟨rfl, hj⟩, if_pos hj]
                  · rw [if_neg (fun q => hj q.2), if_neg hj]
          · refine wp_iload dX4_flows_140 rfl ?_
            refine wp_iconst dX4_flows_142 (by decide) ?_
            refine wp_ic_le 170 dX4_flows_143 (by decide) (fun hh143 => ?_) (fun hh143 => ?_)
            · refine wp_iconst dX4_flows_170 (by decide) ?_
              refine wp_ist (L' := [some (vr _), some (vi _), some (vi _), some (vi _), some (vi _), some (vi _), some (vi _), some (vi _), some (vi _)]) dX4_flows_171 (Nat.le_of_ble_eq_true rfl) rfl ?_
              refine wp_iload dX4_flows_173 rfl ?_
              refine wp_if_eq 198 dX4_flows_175 (by decide) (fun hh175 => ?_) (fun hh175 => ?_)
              · refine wp_iincN (L' := [some (vr _), some (vi _), some (vi _), some (vi _), some (vi _), some (vi _), some (vi _), some (vi _), some (vi _)]) dX4_flows_198 rfl (by omega) rfl ?_
                refine wp_gotoN 88 dX4_flows_201 (by decide) ?_
                refine ih (y + 1) goes σ _ _ _ (by omega) hF (hI.mono (fun c9 y9 a1 a2 a3 hk h1 q => ?_)) hK
                by_cases hcy : c9 = c ∧ y9 = (y : Int)
                · rw [hcy.1, hcy.2] at q
                  exact absurd q.2 (fun w => w.elim (fun w => by have h1 := w.2.1; have h2 := w.2.2; omega) (fun w => w.1 hh137))
                · left; unfold ck at hk ⊢; omega
              · exact absurd hh175 (by decide)
            · refine wp_iload dX4_flows_146 rfl ?_
              refine wp_aload_n dX4_flows_148 rfl ?_
              refine wp_iload dX4_flows_149 rfl ?_
              refine wp_V1 dX4_flows_151 vlX4_96 (by decide) rfl (Nat.le_of_ble_eq_true rfl) ?_
              refine s4_below_g he hg (by omega) (by omega) (by omega) ?_
              refine wp_ic_ne 170 dX4_flows_154 (by decide) (fun hh154 => ?_) (fun hh154 => ?_)
              · refine wp_iconst dX4_flows_170 (by decide) ?_
                refine wp_ist (L' := [some (vr _), some (vi _), some (vi _), some (vi _), some (vi _), some (vi _), some (vi _), some (vi _), some (vi _)]) dX4_flows_171 (Nat.le_of_ble_eq_true rfl) rfl ?_
                refine wp_iload dX4_flows_173 rfl ?_
                refine wp_if_eq 198 dX4_flows_175 (by decide) (fun hh175 => ?_) (fun hh175 => ?_)
                · refine wp_iincN (L' := [some (vr _), some (vi _), some (vi _), some (vi _), some (vi _), some (vi _), some (vi _), some (vi _), some (vi _)]) dX4_flows_198 rfl (by omega) rfl ?_
                  refine wp_gotoN 88 dX4_flows_201 (by decide) ?_
                  refine ih (y + 1) goes σ _ _ _ (by omega) hF (hI.mono (fun c9 y9 a1 a2 a3 hk h1 q => ?_)) hK
                  by_cases hcy : c9 = c ∧ y9 = (y : Int)
                  · rw [hcy.1, hcy.2] at q
                    exact absurd q.2 (fun w => w.elim (fun w => by have h1 := w.2.1; have h2 := w.2.2; omega) (fun w => w.1 hh137))
                  · left; unfold ck at hk ⊢; omega
                · exact absurd hh175 (by decide)
              · refine wp_gotoN 166 dX4_flows_157 (by decide) ?_
                refine wp_iconst dX4_flows_166 (by decide) ?_
                refine wp_gotoN 171 dX4_flows_167 (by decide) ?_
                refine wp_ist (L' := [some (vr _), some (vi _), some (vi _), some (vi _), some (vi _), some (vi _), some (vi _), some (vi _), some (vi _)]) dX4_flows_171 (Nat.le_of_ble_eq_true rfl) rfl ?_
                refine wp_iload dX4_flows_173 rfl ?_
                refine wp_if_eq 198 dX4_flows_175 (by decide) (fun hh175 => ?_) (fun hh175 => ?_)
                · exact absurd hh175 (by decide)
                · have hto := opn_g hg hh132
                  refine wp_aload_n dX4_flows_178 rfl ?_
                  refine wp_getR dX4_flows_179 flX4_29 (by decide) rfl rfl ?_
                  refine wp_iload dX4_flows_182 rfl ?_
                  refine wp_baload dX4_flows_184 (by decide) rfl (by omega) (by omega) (by decide) ?_
                  refine wp_if_ne 198 dX4_flows_185 (by decide) (fun hh185 => ?_) (fun hh185 => ?_)
                  · refine wp_iincN (L' := [some (vr _), some (vi _), some (vi _), some (vi _), some (vi _), some (vi _), some (vi _), some (vi _), some (vi _)]) dX4_flows_198 rfl (by omega) rfl ?_
                    refine wp_gotoN 88 dX4_flows_201 (by decide) ?_
                    refine ih (y + 1) goes σ _ _ _ (by omega) hF (hI.mono (fun c9 y9 a1 a2 a3 hk h1 q => ?_)) hK
                    by_cases hcy : c9 = c ∧ y9 = (y : Int)
                    · right
                      rw [hcy.1, hcy.2]
                      have := (hI.1 (tgt g c y).toNat (by omega)).1
                      omega
                    · left; unfold ck at hk ⊢; omega
                  · refine wp_aload_n dX4_flows_188 rfl ?_
                    refine wp_getR dX4_flows_189 flX4_29 (by decide) rfl rfl ?_
                    refine wp_iload dX4_flows_192 rfl ?_
                    refine wp_iconst dX4_flows_194 (by decide) ?_
                    refine wp_bastore dX4_flows_195 (by decide) rfl (by omega) (by omega) (by decide) (by omega) ?_
                    refine wp_iconst dX4_flows_196 (by decide) ?_
                    refine wp_istN (L' := [some (vr _), some (vi _), some (vi _), some (vi _), some (vi _), some (vi _), some (vi _), some (vi _), some (vi _)]) dX4_flows_197 (Nat.le_of_ble_eq_true rfl) rfl ?_
                    refine wp_iincN (L' := [some (vr _), some (vi _), some (vi _), some (vi _), some (vi _), some (vi _), some (vi _), some (vi _), some (vi _)]) dX4_flows_198 rfl (by omega) rfl ?_
                    refine wp_gotoN 88 dX4_flows_201 (by decide) ?_
                    refine ih (y + 1) 1 _ _ _ _ (by omega) hF.put ?_ hK
                    have hw := hI.set (y := (y : Int)) (k' := ck c ((y + 1 : Nat) : Int)) (by omega) (by omega) (by omega) (by rw [Int.toNat_natCast] at hh101; have := (hI.1 c (by omega)).1; omega) (show flW g c y from ⟨hh132, (Or.inl ⟨hh137, by omega, by omega⟩)⟩) (by omega) (by have := (hI.1 (tgt g c y).toNat (by omega)).1; omega)
                    refine (show (sI σ 25 (tgt g c y).toNat 1).1 25 = (fun j => if j = (tgt g c y).toNat then 1 else σ.1 25 j) from ?_) ▸ hw
                    funext j
                    rw [sI_at]
                    by_cases hj : j = (tgt g c y).toNat
                    · rw [if_pos ⟨rfl, hj⟩, if_pos hj]
                    · rw [if_neg (fun q => hj q.2), if_neg hj]
set_option maxRecDepth 20000 in
theorem l4_fc {d : Nat} {σ0 : aS} {Q : aQ} {g : aG} {b n : Int} (hg : GV g) (he0 : gOf σ0 = g) {f0 : Nat → Int} : ∀ (r : Nat) (c : Nat) (goes : Int) (σ : aS) (u5 u6 u7 u8 : Option aV), c + r = (ggn g).toNat → F1 25 σ0 σ → SwI (flW g) g (spS g b) f0 (σ.1 25) goes (ck c 0) → (∀ (goes cq : Int) (σ : aS) (u5 u6 u7 u8 : Option aV), F1 25 σ0 σ → SwI (flW g) g (spS g b) f0 (σ.1 25) goes (ck (ggn g).toNat 0) → Wp RX4 cX4_flows 34 (aCall 34 (d + 2)) Q 3 false 0 (fun _ => 0) 210 [some (vr 18), some (vi b), some (vi n), some (vi goes), some (vi cq), u5, u6, u7, u8] [] σ) → Wp RX4 cX4_flows 34 (aCall 34 (d + 2)) Q 3 false 0 (fun _ => 0) 76 [some (vr 18), some (vi b), some (vi n), some (vi goes), some (vi c), u5, u6, u7, u8] [] σ := by
  intro r
  induction r with
  | zero =>
    intro c goes σ u5 u6 u7 u8 hc hF hI hK
    have he := hF.g (by decide) he0
    have hn4 := gn_g he
    have hn35 := hg.2.1
    refine wp_iload dX4_flows_76 rfl ?_
    refine wp_aload_n dX4_flows_78 rfl ?_
    refine wp_getI dX4_flows_79 flX4_72 (by decide) rfl (Or.inl rfl) ?_
    refine wp_ic_ge 210 dX4_flows_82 (by decide) (fun hh82 => ?_) (fun hh82 => ?_)
    · have e : c = (ggn g).toNat := by omega
      subst e
      exact hK goes _ σ _ _ _ _ hF hI
    · exact absurd hc (by omega)
  | succ r ih =>
    intro c goes σ u5 u6 u7 u8 hc hF hI hK
    have he := hF.g (by decide) he0
    have hn4 := gn_g he
    have hn35 := hg.2.1
    refine wp_iload dX4_flows_76 rfl ?_
    refine wp_aload_n dX4_flows_78 rfl ?_
    refine wp_getI dX4_flows_79 flX4_72 (by decide) rfl (Or.inl rfl) ?_
    refine wp_ic_ge 210 dX4_flows_82 (by decide) (fun hh82 => ?_) (fun hh82 => ?_)
    · exact absurd hc (by omega)
    · refine wp_iconst dX4_flows_85 (by decide) ?_
      refine wp_ist (L' := [some (vr _), some (vi _), some (vi _), some (vi _), some (vi _), some (vi _), _, _, _]) dX4_flows_86 (Nat.le_of_ble_eq_true rfl) rfl ?_
      refine l4_fy hg he0 (by omega) 4 0 goes σ _ _ _ (by omega) hF hI (fun goes2 y2 σ2 v6 v7 v8 hF2 hI2 => ?_)
      refine wp_iincN (L' := [some (vr _), some (vi _), some (vi _), some (vi _), some (vi _), some (vi _), _, _, _]) dX4_flows_204 rfl (by omega) rfl ?_
      refine wp_gotoN 76 dX4_flows_207 (by decide) ?_
      exact ih (c + 1) goes2 σ2 _ _ _ _ (by omega) hF2 hI2 hK
def WI (E : Int → Int → Prop) (g : aG) (S : Int → Prop) (f : Nat → Int) : Prop := ∀ c : Nat, (c : Int) < ggn g → (f c = 0 ∨ f c = 1) ∧ (S c → f c = 1) ∧ (f c = 1 → Rch E g S c)
theorem WI.sw {E : Int → Int → Prop} {g : aG} {S : Int → Prop} {f : Nat → Int} (h : WI E g S f) : SwI E g S f f 0 (ck 0 0) := ⟨fun c hc => ⟨(h c hc).1, (h c hc).1, (h c hc).2.1, (h c hc).2.2, fun q => q⟩, Or.inl ⟨rfl, fun _ _ => rfl, fun c y _ h0 _ hk => by unfold ck at hk; omega⟩⟩
theorem SwI.wi {E : Int → Int → Prop} {g : aG} {S : Int → Prop} {f0 f : Nat → Int} {goes : Int} {k : Nat → Int → Prop} (h : SwI E g S f0 f goes k) : WI E g S f := fun c hc => ⟨(h.1 c hc).1, (h.1 c hc).2.2.1, (h.1 c hc).2.2.2.1⟩
theorem SwI.less {E : Int → Int → Prop} {g : aG} {S : Int → Prop} {f0 f : Nat → Int} {k : Nat → Int → Prop} (h : SwI E g S f0 f 1 k) : cnt (fun c => f0 c = 1) (ggn g).toNat < cnt (fun c => f c = 1) (ggn g).toNat := by
  refine cnt_lt _ (fun i hi h1 => (h.1 i (by omega)).2.2.2.2 h1) ?_
  rcases h.2 with q | ⟨-, c, hc, h1, h2⟩
  · exact absurd q.1 (by omega)
  · exact ⟨c, by omega, by omega, h2⟩
theorem sp_in {g : aG} {b c : Int} (h : spS g b c) : 0 ≤ c ∧ c < ggn g := ⟨h.1, h.2.1⟩
theorem fl_in {g : aG} (hg : GV g) {c : Nat} {y : Int} (h : flW g c y) : 0 ≤ tgt g c y ∧ tgt g c y < ggn g := ⟨(opn_g hg h.1).1, (opn_g hg h.1).2.1⟩
set_option maxRecDepth 20000 in
theorem l4_fw {d : Nat} {σ0 : aS} {Q : aQ} {g : aG} {b n : Int} (hg : GV g) (he0 : gOf σ0 = g) : ∀ (r : Nat) (σ : aS) (u4 u5 u6 u7 u8 : Option aV), (ggn g - cnt (fun c => σ.1 25 c = 1) (ggn g).toNat).toNat < r → F1 25 σ0 σ → WI (flW g) g (spS g b) (σ.1 25) → (hQ : ∀ σq, F1 25 σ0 σq → (∀ c : Nat, (c : Int) < ggn g → σq.1 25 c = bi (Rch (flW g) g (spS g b) c)) → Q none σq) → Wp RX4 cX4_flows 34 (aCall 34 (d + 2)) Q 3 false 0 (fun _ => 0) 67 [some (vr 18), some (vi b), some (vi n), some (vi 1), u4, u5, u6, u7, u8] [] σ := by
  intro r
  induction r with
  | zero =>
    intro σ u4 u5 u6 u7 u8 hm hF hI hQ
    exact absurd hm (Nat.not_lt_zero _)
  | succ r ih =>
    intro σ u4 u5 u6 u7 u8 hm hF hI hQ
    have he := hF.g (by decide) he0
    have hn4 := gn_g he
    have hn35 := hg.2.1
    refine wp_iload_n dX4_flows_67 rfl ?_
    refine wp_if_eq 213 dX4_flows_68 (by decide) (fun hh68 => ?_) (fun hh68 => ?_)
    · exact absurd hh68 (by decide)
    · refine wp_iconst dX4_flows_71 (by decide) ?_
      refine wp_istN (L' := [some (vr _), some (vi _), some (vi _), some (vi _), _, _, _, _, _]) dX4_flows_72 (Nat.le_of_ble_eq_true rfl) rfl ?_
      refine wp_iconst dX4_flows_73 (by decide) ?_
      refine wp_ist (L' := [some (vr _), some (vi _), some (vi _), some (vi _), some (vi _), _, _, _, _]) dX4_flows_74 (Nat.le_of_ble_eq_true rfl) rfl ?_
      refine l4_fc hg he0 (ggn g).toNat 0 0 σ _ _ _ _ (by omega) hF hI.sw (fun goes2 c2 σ2 v5 v6 v7 v8 hF2 hI2 => ?_)
      refine wp_gotoN 67 dX4_flows_210 (by decide) ?_
      rcases hI2.2 with q | q
      · obtain ⟨e0, -, -⟩ := q
        subst e0
        refine wp_iload_n dX4_flows_67 rfl ?_
        refine wp_if_eq 213 dX4_flows_68 (by decide) (fun hw68 => ?_) (fun hw68 => ?_)
        · refine wp_vret dX4_flows_213 rfl ?_
          exact hQ σ2 hF2 (hI2.fin (fun c y h1 h2 h3 => Or.inl (by omega)) (fun c h => sp_in h) (fun c y _ h => fl_in hg h))
        · exact absurd hw68 (by decide)
      · obtain ⟨e1, -⟩ := q
        subst e1
        have hls := hI2.less
        have hcn := cnt_in (fun c => σ2.1 25 c = 1) (ggn g).toNat
        have hcf := cnt_in (fun c => σ.1 25 c = 1) (ggn g).toNat
        exact ih σ2 _ _ _ _ _ (by omega) hF2 hI2.wi hQ
set_option maxRecDepth 20000 in
theorem l4_fi {d : Nat} {σ0 : aS} {Q : aQ} {g : aG} {b : Int} (hg : GV g) (he0 : gOf σ0 = g) : ∀ (r : Nat) (c : Nat) (m : Int) (σ : aS) (u4 u5 u6 u7 u8 : Option aV), c + r = (ggn g).toNat → F1 25 σ0 σ → m = (cnt (fun k => ggk g k = 3) c) → (∀ j : Nat, j < c → σ.1 25 j = bi (spS g b j)) → (∀ (m : Int) (σ : aS), F1 25 σ0 σ → (∀ j : Nat, j < (ggn g).toNat → σ.1 25 j = bi (spS g b j)) → Wp RX4 cX4_flows 34 (aCall 34 (d + 2)) Q 3 false 0 (fun _ => 0) 65 [some (vr 18), some (vi b), some (vi m), some (vi ((ggn g).toNat : Int)), u4, u5, u6, u7, u8] [] σ) → Wp RX4 cX4_flows 34 (aCall 34 (d + 2)) Q 3 false 0 (fun _ => 0) 4 [some (vr 18), some (vi b), some (vi m), some (vi c), u4, u5, u6, u7, u8] [] σ := by
  intro r
  induction r with
  | zero =>
    intro c m σ u4 u5 u6 u7 u8 hc hF hm hI hK
    have he := hF.g (by decide) he0
    have hn4 := gn_g he
    have hn35 := hg.2.1
    refine wp_iload_n dX4_flows_4 rfl ?_
    refine wp_aload_n dX4_flows_5 rfl ?_
    refine wp_getI dX4_flows_6 flX4_72 (by decide) rfl (Or.inl rfl) ?_
    refine wp_ic_ge 65 dX4_flows_9 (by decide) (fun hh9 => ?_) (fun hh9 => ?_)
    · have e : c = (ggn g).toNat := by omega
      subst e
      exact hK m σ hF hI
    · exact absurd hc (by omega)
  | succ r ih =>
    intro c m σ u4 u5 u6 u7 u8 hc hF hm hI hK
    have he := hF.g (by decide) he0
    have hn4 := gn_g he
    have hn35 := hg.2.1
    refine wp_iload_n dX4_flows_4 rfl ?_
    refine wp_aload_n dX4_flows_5 rfl ?_
    refine wp_getI dX4_flows_6 flX4_72 (by decide) rfl (Or.inl rfl) ?_
    refine wp_ic_ge 65 dX4_flows_9 (by decide) (fun hh9 => ?_) (fun hh9 => ?_)
    · exact absurd hc (by omega)
    · have ek := gk_g (k := c) he (by omega)
      have hci := cnt_in (fun k => ggk g k = 3) c
      refine wp_aload_n dX4_flows_12 rfl ?_
      refine wp_getR dX4_flows_13 flX4_29 (by decide) rfl rfl ?_
      refine wp_iload_n dX4_flows_16 rfl ?_
      refine wp_aload_n dX4_flows_17 rfl ?_
      refine wp_getR dX4_flows_18 flX4_13 (by decide) rfl rfl ?_
      refine wp_iload_n dX4_flows_21 rfl ?_
      refine wp_iaload dX4_flows_22 (by decide) rfl (by omega) (by omega) (by decide) ?_
      refine wp_iconst dX4_flows_23 (by decide) ?_
      refine wp_ic_ne 39 dX4_flows_24 (by decide) (fun hh24 => ?_) (fun hh24 => ?_)
      · refine wp_iconst dX4_flows_39 (by decide) ?_
        refine wp_bastore dX4_flows_40 (by decide) rfl (by omega) (by omega) (by decide) (by decide) ?_
        refine wp_iload_n dX4_flows_41 rfl ?_
        refine wp_aload_n dX4_flows_42 rfl ?_
        refine wp_getR dX4_flows_43 flX4_13 (by decide) rfl rfl ?_
        refine wp_iload_n dX4_flows_46 rfl ?_
        refine wp_iaload dX4_flows_47 (by decide) rfl (by omega) (by omega) (by decide) ?_
        rw [sI_ne (fun q => absurd q.1 (by decide))]
        refine wp_iconst dX4_flows_48 (by decide) ?_
        refine wp_ic_ne 56 dX4_flows_49 (by decide) (fun hh49 => ?_) (fun hh49 => ?_)
        · refine wp_iconst dX4_flows_56 (by decide) ?_
          refine wp_iaddN dX4_flows_57 (by omega) ?_
          refine wp_istN (L' := [some (vr _), some (vi _), some (vi _), some (vi _), _, _, _, _, _]) dX4_flows_58 (Nat.le_of_ble_eq_true rfl) rfl ?_
          refine wp_iincN (L' := [some (vr _), some (vi _), some (vi _), some (vi _), _, _, _, _, _]) dX4_flows_59 rfl (by omega) rfl ?_
          refine wp_gotoN 4 dX4_flows_62 (by decide) ?_
          refine ih (c + 1) _ _ _ _ _ _ _ (by omega) hF.put (by rw [cnt_f (p := fun k => ggk g k = 3) (fun q => hh24 (by rw [← ek]; exact q))]; omega) (fun j hj => ?_) hK
          rw [sI_at]
          by_cases hjc : j = c
          · rw [if_pos ⟨rfl, by omega⟩, hjc]; exact (bi_f (P := spS g b c) (fun q => hh24 (by rw [← ek]; exact q.2.2.1))).symm
          · rw [if_neg (fun q => by omega)]; exact hI j (by omega)
        · refine wp_iconst dX4_flows_52 (by decide) ?_
          refine wp_gotoN 57 dX4_flows_53 (by decide) ?_
          refine wp_iaddN dX4_flows_57 (by omega) ?_
          refine wp_istN (L' := [some (vr _), some (vi _), some (vi _), some (vi _), _, _, _, _, _]) dX4_flows_58 (Nat.le_of_ble_eq_true rfl) rfl ?_
          refine wp_iincN (L' := [some (vr _), some (vi _), some (vi _), some (vi _), _, _, _, _, _]) dX4_flows_59 rfl (by omega) rfl ?_
          refine wp_gotoN 4 dX4_flows_62 (by decide) ?_
          exact absurd hh49 (by omega)
      · refine wp_iload_n dX4_flows_27 rfl ?_
        refine wp_iload_n dX4_flows_28 rfl ?_
        refine wp_S2 dX4_flows_29 zlX4_163 (Nat.le_of_ble_eq_true rfl) ?_
        refine s4_isIn (by omega) (by omega) ?_
        refine wp_ifB_eq 39 dX4_flows_32 (by decide) (fun hh32 => ?_) (fun hh32 => ?_)
        · refine wp_iconst dX4_flows_39 (by decide) ?_
          refine wp_bastore dX4_flows_40 (by decide) rfl (by omega) (by omega) (by decide) (by decide) ?_
          refine wp_iload_n dX4_flows_41 rfl ?_
          refine wp_aload_n dX4_flows_42 rfl ?_
          refine wp_getR dX4_flows_43 flX4_13 (by decide) rfl rfl ?_
          refine wp_iload_n dX4_flows_46 rfl ?_
          refine wp_iaload dX4_flows_47 (by decide) rfl (by omega) (by omega) (by decide) ?_
          rw [sI_ne (fun q => absurd q.1 (by decide))]
          refine wp_iconst dX4_flows_48 (by decide) ?_
          refine wp_ic_ne 56 dX4_flows_49 (by decide) (fun hh49 => ?_) (fun hh49 => ?_)
          · refine wp_iconst dX4_flows_56 (by decide) ?_
            refine wp_iaddN dX4_flows_57 (by omega) ?_
            refine wp_istN (L' := [some (vr _), some (vi _), some (vi _), some (vi _), _, _, _, _, _]) dX4_flows_58 (Nat.le_of_ble_eq_true rfl) rfl ?_
            refine wp_iincN (L' := [some (vr _), some (vi _), some (vi _), some (vi _), _, _, _, _, _]) dX4_flows_59 rfl (by omega) rfl ?_
            refine wp_gotoN 4 dX4_flows_62 (by decide) ?_
            exact absurd hh49 (by omega)
          · refine wp_iconst dX4_flows_52 (by decide) ?_
            refine wp_gotoN 57 dX4_flows_53 (by decide) ?_
            refine wp_iaddN dX4_flows_57 (by omega) ?_
            refine wp_istN (L' := [some (vr _), some (vi _), some (vi _), some (vi _), _, _, _, _, _]) dX4_flows_58 (Nat.le_of_ble_eq_true rfl) rfl ?_
            refine wp_iincN (L' := [some (vr _), some (vi _), some (vi _), some (vi _), _, _, _, _, _]) dX4_flows_59 rfl (by omega) rfl ?_
            refine wp_gotoN 4 dX4_flows_62 (by decide) ?_
            refine ih (c + 1) _ _ _ _ _ _ _ (by omega) hF.put (by rw [cnt_t (p := fun k => ggk g k = 3) (by show ggk g c = 3; rw [ek]; omega)]; omega) (fun j hj => ?_) hK
            rw [sI_at]
            by_cases hjc : j = c
            · rw [if_pos ⟨rfl, by omega⟩, hjc]; exact (bi_f (P := spS g b c) (fun q => hh32 (by have := q.2.2.2; rw [Int.toNat_natCast, ← hm] at this; exact this))).symm
            · rw [if_neg (fun q => by omega)]; exact hI j (by omega)
        · refine wp_iconst dX4_flows_35 (by decide) ?_
          refine wp_gotoN 40 dX4_flows_36 (by decide) ?_
          refine wp_bastore dX4_flows_40 (by decide) rfl (by omega) (by omega) (by decide) (by decide) ?_
          refine wp_iload_n dX4_flows_41 rfl ?_
          refine wp_aload_n dX4_flows_42 rfl ?_
          refine wp_getR dX4_flows_43 flX4_13 (by decide) rfl rfl ?_
          refine wp_iload_n dX4_flows_46 rfl ?_
          refine wp_iaload dX4_flows_47 (by decide) rfl (by omega) (by omega) (by decide) ?_
          rw [sI_ne (fun q => absurd q.1 (by decide))]
          refine wp_iconst dX4_flows_48 (by decide) ?_
          refine wp_ic_ne 56 dX4_flows_49 (by decide) (fun hh49 => ?_) (fun hh49 => ?_)
          · refine wp_iconst dX4_flows_56 (by decide) ?_
            refine wp_iaddN dX4_flows_57 (by omega) ?_
            refine wp_istN (L' := [some (vr _), some (vi _), some (vi _), some (vi _), _, _, _, _, _]) dX4_flows_58 (Nat.le_of_ble_eq_true rfl) rfl ?_
            refine wp_iincN (L' := [some (vr _), some (vi _), some (vi _), some (vi _), _, _, _, _, _]) dX4_flows_59 rfl (by omega) rfl ?_
            refine wp_gotoN 4 dX4_flows_62 (by decide) ?_
            exact absurd hh49 (by omega)
          · refine wp_iconst dX4_flows_52 (by decide) ?_
            refine wp_gotoN 57 dX4_flows_53 (by decide) ?_
            refine wp_iaddN dX4_flows_57 (by omega) ?_
            refine wp_istN (L' := [some (vr _), some (vi _), some (vi _), some (vi _), _, _, _, _, _]) dX4_flows_58 (Nat.le_of_ble_eq_true rfl) rfl ?_
            refine wp_iincN (L' := [some (vr _), some (vi _), some (vi _), some (vi _), _, _, _, _, _]) dX4_flows_59 rfl (by omega) rfl ?_
            refine wp_gotoN 4 dX4_flows_62 (by decide) ?_
            refine ih (c + 1) _ _ _ _ _ _ _ (by omega) hF.put (by rw [cnt_t (p := fun k => ggk g k = 3) (by show ggk g c = 3; rw [ek]; omega)]; omega) (fun j hj => ?_) hK
            rw [sI_at]
            by_cases hjc : j = c
            · rw [if_pos ⟨rfl, by omega⟩, hjc]; exact (bi_t (P := spS g b c) ⟨by omega, by omega, by rw [ek]; omega, by rw [Int.toNat_natCast, ← hm]; exact hh32⟩).symm
            · rw [if_neg (fun q => by omega)]; exact hI j (by omega)
set_option maxRecDepth 20000 in
theorem s4_flows {d : Nat} {σ : aS} {Q : aQ} {b : Int} {g : aG} (he : gOf σ = g) (hg : GV g) (hQ : ∀ σq, F1 25 σ σq → (∀ c : Nat, (c : Int) < ggn g → σq.1 25 c = bi (Rch (flW g) g (spS g b) c)) → Q none σq) : aCall 34 (d + 3) mX4_flows [vr 18, vi b] σ Q := by
  refine cl_in (own := RX4) (cc := cX4_flows) (rk := 3) (L := [some (vr 18), some (vi b), none, none, none, none, none, none, none]) rfl rfl rfl rfl (by decide) (Nat.le_of_ble_eq_true rfl) ?_
  refine wp_iconst dX4_flows_0 (by decide) ?_
  refine wp_istN (L' := [some (vr _), some (vi _), some (vi _), none, none, none, none, none, none]) dX4_flows_1 (Nat.le_of_ble_eq_true rfl) rfl ?_
  refine wp_iconst dX4_flows_2 (by decide) ?_
  refine wp_istN (L' := [some (vr _), some (vi _), some (vi _), some (vi _), none, none, none, none, none]) dX4_flows_3 (Nat.le_of_ble_eq_true rfl) rfl ?_
  refine l4_fi hg he (ggn g).toNat 0 0 σ _ _ _ _ _ (by omega) F1.rf rfl (fun j hj => absurd hj (Nat.not_lt_zero j)) (fun m2 σ2 hF2 hI2 => ?_)
  refine wp_iconst dX4_flows_65 (by decide) ?_
  refine wp_istN (L' := [some (vr _), some (vi _), some (vi _), some (vi _), _, _, _, _, _]) dX4_flows_66 (Nat.le_of_ble_eq_true rfl) rfl ?_
  exact l4_fw hg he _ σ2 _ _ _ _ _ (Nat.lt_succ_self _) hF2 (fun c hc => by rw [hI2 c (by omega)]; exact ⟨bi_01 _, fun q => bi_t q, fun q => Rch.of (bi_1.mp q)⟩) hQ
