/-! how a state of the abstract machine lies in the heap -/
def tr (ad : Nat → Nat) (v : aV) : Value := match v with
  | .inl x => .int (Int32.ofInt x)
  | .inr (.inl x) => .long (Int64.ofBitVec x)
  | .inr (.inr c) => .ref (ad c)
def fv (ad : Nat → Nat) (σ : aS) (c k t : Nat) : Value := match t with
  | 0 => .int (Int32.ofInt (σ.1 c k))
  | 1 => .long (Int64.ofBitVec (σ.2 c k))
  | 2 => .int (Int32.ofInt (σ.1 c k))
  | r + 3 => .ref (ad r)
def fvs (ad : Nat → Nat) (σ : aS) (c : Nat) (fk : List Nat) : List Value := (List.range fk.length).map (fun k => fv ad σ c k (fk.getD k 0))
def entA (cA : Nat → ClassId) (ad : Nat → Nat) (σ : aS) (c t n : Nat) : va_E := match t with
  | 1 => .inl (cA 1, n, .inr (.inl (fun k => Int64.ofBitVec (σ.2 c k))))
  | 3 => .inl (cA 3, n, .inr (.inr (.inr (.inr (fun k => some (ad (5 + k)))))))
  | t => .inl (cA t, n, .inl (fun k => Int32.ofInt (σ.1 c k)))
def ent (cA : Nat → ClassId) (ad : Nat → Nat) (σ : aS) (c : Nat) : va_E := match cd c with
  | .inl (ci, fk) => .inr (ci, fvs ad σ c fk)
  | .inr (t, n) => entA cA ad σ c t n
def aw (NC : Nat) (cA : Nat → ClassId) (ad : Nat → Nat) (σ : aS) : va_W := (List.range NC).map (fun c => (ad c, ent cA ad σ c))
theorem aw_at {NC c : Nat} {cA : Nat → ClassId} {ad : Nat → Nat} {σ : aS} (h : c < NC) : (aw NC cA ad σ)[c]? = some (ad c, ent cA ad σ c) := by
  simp [aw, h]
theorem aw_len {NC : Nat} {cA : Nat → ClassId} {ad : Nat → Nat} {σ : aS} : (aw NC cA ad σ).length = NC := by simp [aw]
theorem aw_set {NC c : Nat} {cA : Nat → ClassId} {ad : Nat → Nat} {σ σ' : aS} (he : ∀ c', c' ≠ c → ent cA ad σ' c' = ent cA ad σ c') : (aw NC cA ad σ).set c (ad c, ent cA ad σ' c) = aw NC cA ad σ' := by
  apply List.ext_getElem?
  intro i
  rw [List.getElem?_set]
  by_cases hi : i < NC
  · by_cases hc : c = i
    · subst hc
      simp [aw, hi]
    · rw [if_neg hc, aw_at hi, aw_at hi, he i (fun h => hc h.symm)]
  · by_cases hc : c = i
    · subst hc
      simp [aw, hi]
    · rw [if_neg hc]
      simp [aw, hi]
theorem sI_at (σ : aS) (c k : Nat) (x : Int) (c' k' : Nat) : (sI σ c k x).1 c' k' = if c' = c ∧ k' = k then x else σ.1 c' k' := rfl
theorem sI_2 (σ : aS) (c k : Nat) (x : Int) : (sI σ c k x).2 = σ.2 := rfl
theorem sJ_at (σ : aS) (c k : Nat) (x : BitVec 64) (c' k' : Nat) : (sJ σ c k x).2 c' k' = if c' = c ∧ k' = k then x else σ.2 c' k' := rfl
theorem sJ_1 (σ : aS) (c k : Nat) (x : BitVec 64) : (sJ σ c k x).1 = σ.1 := rfl
theorem sC_at (σ : aS) (s i t j n c' k' : Nat) : (sC σ s i t j n).1 c' k' = if c' = t ∧ (j ≤ k' ∧ k' < j + n) then σ.1 s (i + (k' - j)) else σ.1 c' k' := rfl
theorem sC_2 (σ : aS) (s i t j n : Nat) : (sC σ s i t j n).2 = σ.2 := rfl
theorem ent_cong {cA : Nat → ClassId} {ad : Nat → Nat} {σ σ' : aS} {c : Nat} (h1 : ∀ k, σ'.1 c k = σ.1 c k) (h2 : ∀ k, σ'.2 c k = σ.2 c k) : ent cA ad σ' c = ent cA ad σ c := by
  unfold ent
  split
  · unfold fvs
    congr 2
    apply List.map_congr_left
    intro k _
    unfold fv
    split <;> simp [h1, h2]
  · unfold entA
    split <;> simp [h1, h2]
theorem fvs_at {ad : Nat → Nat} {σ : aS} {c k t : Nat} {fk : List Nat} (h : fk[k]? = some t) : (fvs ad σ c fk)[k]? = some (fv ad σ c k t) := by
  have hl : k < fk.length := (List.getElem?_eq_some_iff.mp h).1
  have hg : fk.getD k 0 = t := by rw [List.getD_eq_getElem?_getD, h]; rfl
  simp only [fvs, List.getElem?_map, List.getElem?_range hl, Option.map_some, hg]
theorem fvs_len {ad : Nat → Nat} {σ : aS} {c : Nat} {fk : List Nat} : (fvs ad σ c fk).length = fk.length := by simp [fvs]
theorem fvs_sI {ad : Nat → Nat} {σ : aS} {c k t : Nat} {fk : List Nat} {x : Int} (h : fk[k]? = some t) (ht : t = 0 ∨ t = 2) : (fvs ad σ c fk).set k (.int (Int32.ofInt x)) = fvs ad (sI σ c k x) c fk := by
  apply List.ext_getElem?
  intro i
  rw [List.getElem?_set]
  have hl : k < fk.length := (List.getElem?_eq_some_iff.mp h).1
  by_cases hi : i < fk.length
  · by_cases hk : k = i
    · subst hk
      rw [if_pos rfl, fvs_len, if_pos hl, fvs_at h]
      rcases ht with rfl | rfl <;> simp [fv, sI]
    · rw [if_neg hk, fvs_at (t := fk[i]) (List.getElem?_eq_getElem hi), fvs_at (t := fk[i]) (List.getElem?_eq_getElem hi)]
      unfold fv
      have : ¬ i = k := fun h => hk h.symm
      split <;> simp [sI, this]
  · have e1 : (fvs ad σ c fk)[i]? = none := List.getElem?_eq_none (by rw [fvs_len]; omega)
    have e2 : (fvs ad (sI σ c k x) c fk)[i]? = none := List.getElem?_eq_none (by rw [fvs_len]; omega)
    rw [e1, e2, fvs_len]
    rw [if_neg (by omega)]
theorem fvs_sJ {ad : Nat → Nat} {σ : aS} {c k : Nat} {fk : List Nat} {x : BitVec 64} (h : fk[k]? = some 1) : (fvs ad σ c fk).set k (.long (Int64.ofBitVec x)) = fvs ad (sJ σ c k x) c fk := by
  apply List.ext_getElem?
  intro i
  rw [List.getElem?_set]
  have hl : k < fk.length := (List.getElem?_eq_some_iff.mp h).1
  by_cases hi : i < fk.length
  · by_cases hk : k = i
    · subst hk
      rw [if_pos rfl, fvs_len, if_pos hl, fvs_at h]
      simp [fv, sJ]
    · rw [if_neg hk, fvs_at (t := fk[i]) (List.getElem?_eq_getElem hi), fvs_at (t := fk[i]) (List.getElem?_eq_getElem hi)]
      unfold fv
      have : ¬ i = k := fun h => hk h.symm
      split <;> simp [sJ, this]
  · have e1 : (fvs ad σ c fk)[i]? = none := List.getElem?_eq_none (by rw [fvs_len]; omega)
    have e2 : (fvs ad (sJ σ c k x) c fk)[i]? = none := List.getElem?_eq_none (by rw [fvs_len]; omega)
    rw [e1, e2, fvs_len]
    rw [if_neg (by omega)]
theorem ent_o {cA : Nat → ClassId} {ad : Nat → Nat} {σ : aS} {c ci : Nat} {fk : List Nat} (h : cd c = .inl (ci, fk)) : ent cA ad σ c = .inr (ci, fvs ad σ c fk) := by
  unfold ent; rw [h]
theorem ent_a {cA : Nat → ClassId} {ad : Nat → Nat} {σ : aS} {c t n : Nat} (h : cd c = .inr (t, n)) : ent cA ad σ c = entA cA ad σ c t n := by
  unfold ent; rw [h]
theorem ent_sI_ne {cA : Nat → ClassId} {ad : Nat → Nat} {σ : aS} {c k : Nat} {x : Int} (c' : Nat) (h : c' ≠ c) : ent cA ad (sI σ c k x) c' = ent cA ad σ c' :=
  ent_cong (fun j => by rw [sI_at, if_neg (fun q => h q.1)]) (fun _ => rfl)
theorem ent_sJ_ne {cA : Nat → ClassId} {ad : Nat → Nat} {σ : aS} {c k : Nat} {x : BitVec 64} (c' : Nat) (h : c' ≠ c) : ent cA ad (sJ σ c k x) c' = ent cA ad σ c' :=
  ent_cong (fun _ => rfl) (fun j => by rw [sJ_at, if_neg (fun q => h q.1)])
theorem ent_sC_ne {cA : Nat → ClassId} {ad : Nat → Nat} {σ : aS} {s i c j n : Nat} (c' : Nat) (h : c' ≠ c) : ent cA ad (sC σ s i c j n) c' = ent cA ad σ c' :=
  ent_cong (fun k => by rw [sC_at, if_neg (fun q => h q.1)]) (fun _ => rfl)
def InS (σ : aS) : Prop := ∀ c k, in32 (σ.1 c k)
theorem InS_sI {σ : aS} {c k : Nat} {x : Int} (h : InS σ) (hx : in32 x) : InS (sI σ c k x) := by
  intro c' k'
  rw [sI_at]
  split
  · exact hx
  · exact h c' k'
theorem InS_sJ {σ : aS} {c k : Nat} {x : BitVec 64} (h : InS σ) : InS (sJ σ c k x) := h
theorem InS_sC {σ : aS} {s i t j n : Nat} (h : InS σ) : InS (sC σ s i t j n) := by
  intro c' k'
  rw [sC_at]
  split
  · exact h _ _
  · exact h c' k'
def OkV (v : aV) : Prop := match v with
  | .inl x => in32 x
  | _ => True
def OkL (L : aL) : Prop := ∀ (k : Nat) (v : aV), L[k]? = some (some v) → OkV v
def OkT (st : List aV) : Prop := ∀ v ∈ st, OkV v
theorem OkT_cons {v : aV} {st : List aV} (h : OkV v) (hs : OkT st) : OkT (v :: st) := fun w hw => (List.mem_cons.mp hw).elim (fun e => e ▸ h) (hs w)
theorem OkT_tail {v : aV} {st : List aV} (hs : OkT (v :: st)) : OkT st := fun w hw => hs w (List.mem_cons_of_mem _ hw)
theorem OkT_head {v : aV} {st : List aV} (hs : OkT (v :: st)) : OkV v := hs v List.mem_cons_self
theorem tr_cat (ad : Nat → Nat) (v : aV) : (tr ad v).category = catV v := by
  rcases v with x | x | x <;> rfl
def hasL (ad : Nat → Nat) (ls : Array Slot) (nL : Nat) (L : aL) : Prop := ls.size = nL ∧ L.length = nL ∧ lv_wf ls ∧ ∀ (k : Nat) (v : aV), L[k]? = some (some v) → ls[k]? = some (.val (tr ad v))
def prs (ad : Nat → Nat) (L : aL) : List (Nat × Value) := (List.range L.length).filterMap (fun k => match L[k]? with
  | some (some v) => some (k, tr ad v)
  | _ => none)
theorem prs_mem {ad : Nat → Nat} {L : aL} {q : Nat × Value} : q ∈ prs ad L ↔ ∃ v, L[q.1]? = some (some v) ∧ q.2 = tr ad v := by
  unfold prs
  rw [List.mem_filterMap]
  constructor
  · rintro ⟨k, -, hk⟩
    split at hk
    · rename_i v hv
      cases hk
      exact ⟨v, hv, rfl⟩
    · cases hk
  · rintro ⟨v, hv, e⟩
    refine ⟨q.1, List.mem_range.mpr (List.getElem?_eq_some_iff.mp hv).1, ?_⟩
    rw [hv]
    simp only []
    rw [← e]
theorem hasL_lv {ad : Nat → Nat} {ls : Array Slot} {nL : Nat} {L : aL} (h : hasL ad ls nL L) : lv_has ls nL (prs ad L) := by
  refine ⟨h.1, h.2.2.1, fun q hq => ?_⟩
  obtain ⟨v, hv, e⟩ := prs_mem.mp hq
  rw [e]
  exact h.2.2.2 _ v hv
theorem clrL_len (L : aL) (i : Nat) : (clrL L i).length = L.length := by
  unfold clrL
  split
  · rfl
  · split
    · simp
    · rfl
theorem clrL_get {L : aL} {i k : Nat} {w : aV} (h : (clrL L i)[k]? = some (some w)) : L[k]? = some (some w) ∧ ¬ (k + 1 = i ∧ isL w = true) := by
  unfold clrL at h
  split at h
  · exact ⟨h, fun q => by omega⟩
  · rename_i j
    split at h
    · rename_i x hx
      rw [List.getElem?_set] at h
      by_cases hj : j = k
      · rw [if_pos hj] at h
        split at h <;> cases h
      · rw [if_neg hj] at h
        exact ⟨h, fun q => by omega⟩
    · rename_i hn
      refine ⟨h, fun q => ?_⟩
      have hk : k = j := by omega
      subst hk
      rcases w with x | x | x
      · exact Bool.noConfusion q.2
      · exact hn x h
      · exact Bool.noConfusion q.2
theorem isL_cat {w : aV} : catV w = 2 ↔ isL w = true := by rcases w with x | x | x <;> simp [catV, isL]
theorem hasL_st1 {ad : Nat → Nat} {ls' : Array Slot} {nL i : Nat} {L : aL} {v : aV} (hn : L.length = nL) (h : lv_has ls' nL ((i, tr ad v) :: (prs ad L).filter (fun q => !(q.1 == i) && !(q.1 + 1 == i && q.2.category == 2)))) : hasL ad ls' nL (st1 L i v) := by
  refine ⟨h.1, by unfold st1; rw [List.length_set, clrL_len, hn], h.2.1, fun k w hw => ?_⟩
  unfold st1 at hw
  rw [List.getElem?_set] at hw
  by_cases hk : i = k
  · subst hk
    rw [if_pos rfl] at hw
    split at hw
    · cases hw
      exact h.2.2 (i, tr ad v) List.mem_cons_self
    · cases hw
  · rw [if_neg hk] at hw
    obtain ⟨h1, h2⟩ := clrL_get hw
    refine h.2.2 (k, tr ad w) (List.mem_cons_of_mem _ (List.mem_filter.mpr ⟨prs_mem.mpr ⟨w, h1, rfl⟩, ?_⟩))
    have hk' : ¬ k = i := fun q => hk q.symm
    simp only [tr_cat, Bool.and_eq_true, Bool.not_eq_true', beq_eq_false_iff_ne, ne_eq, Bool.and_eq_false_iff]
    refine ⟨hk', ?_⟩
    by_cases hx : k + 1 = i
    · exact Or.inr fun q => h2 ⟨hx, isL_cat.mp q⟩
    · exact Or.inl hx
theorem hasL_st2 {ad : Nat → Nat} {ls' : Array Slot} {nL i : Nat} {L : aL} {v : aV} (hn : L.length = nL) (h : lv_has ls' nL ((i, tr ad v) :: (prs ad L).filter (fun q => !(q.1 == i) && (!(q.1 == i + 1) && !(q.1 + 1 == i && q.2.category == 2))))) : hasL ad ls' nL (st2 L i v) := by
  refine ⟨h.1, by unfold st2; rw [List.length_set, List.length_set, clrL_len, hn], h.2.1, fun k w hw => ?_⟩
  unfold st2 at hw
  rw [List.getElem?_set] at hw
  by_cases hk1 : i + 1 = k
  · rw [if_pos hk1] at hw
    split at hw <;> cases hw
  · rw [if_neg hk1, List.getElem?_set] at hw
    by_cases hk : i = k
    · subst hk
      rw [if_pos rfl] at hw
      split at hw
      · cases hw
        exact h.2.2 (i, tr ad v) List.mem_cons_self
      · cases hw
    · rw [if_neg hk] at hw
      obtain ⟨h1, h2⟩ := clrL_get hw
      refine h.2.2 (k, tr ad w) (List.mem_cons_of_mem _ (List.mem_filter.mpr ⟨prs_mem.mpr ⟨w, h1, rfl⟩, ?_⟩))
      have hk' : ¬ k = i := fun q => hk q.symm
      have hk1' : ¬ k = i + 1 := fun q => hk1 q.symm
      simp only [tr_cat, Bool.and_eq_true, Bool.not_eq_true', beq_eq_false_iff_ne, ne_eq, Bool.and_eq_false_iff]
      refine ⟨hk', hk1', ?_⟩
      by_cases hx : k + 1 = i
      · exact Or.inr fun q => h2 ⟨hx, isL_cat.mp q⟩
      · exact Or.inl hx
theorem OkL_st1 {L : aL} {i : Nat} {v : aV} (h : OkL L) (hv : OkV v) : OkL (st1 L i v) := by
  intro k w hw
  unfold st1 at hw
  rw [List.getElem?_set] at hw
  split at hw
  · split at hw
    · cases hw; exact hv
    · cases hw
  · exact h k w (clrL_get hw).1
theorem OkL_st2 {L : aL} {i : Nat} {v : aV} (h : OkL L) (hv : OkV v) : OkL (st2 L i v) := by
  intro k w hw
  unfold st2 at hw
  rw [List.getElem?_set] at hw
  split at hw
  · split at hw <;> cases hw
  · rw [List.getElem?_set] at hw
    split at hw
    · split at hw
      · cases hw; exact hv
      · cases hw
    · exact h k w (clrL_get hw).1
theorem kpL_get {k : Nat} {w : aV} : ∀ {ms : List Bool} {L : aL}, (kpL ms L)[k]? = some (some w) → L[k]? = some (some w) := by
  intro ms
  induction ms generalizing k with
  | nil => intro L h; simpa [kpL] using h
  | cons b ms ih =>
    intro L h
    cases L with
    | nil => simp [kpL] at h
    | cons v L =>
      cases k with
      | zero =>
        cases b
        · simp [kpL] at h
        · simpa [kpL] using h
      | succ k =>
        simp only [kpL, List.getElem?_cons_succ] at h ⊢
        exact ih h
theorem kpL_len : ∀ (ms : List Bool) (L : aL), (kpL ms L).length = L.length := by
  intro ms
  induction ms with
  | nil => intro L; simp [kpL]
  | cons b ms ih =>
    intro L
    cases L with
    | nil => simp [kpL]
    | cons v L => simp [kpL, ih]
