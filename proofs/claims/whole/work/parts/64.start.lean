theorem ent_mv {cA : Nat → ClassId} {ad ad2 : Nat → Nat} {σ σ2 : aS} (ha : ∀ c, c < 18 → ad2 c = ad c) (hs : ∀ c k, c < 18 → σ2.1 c k = σ.1 c k ∧ σ2.2 c k = σ.2 c k) (c : Nat) (hc : c < 18) (h4 : c ≠ 4) : ent cA ad2 σ2 c = ent cA ad σ c := by
  match c, hc, h4 with
  | 0, _, _ =>
    have e1 : σ2.1 0 = σ.1 0 := funext (fun k => (hs 0 k (by decide)).1)
    have e2 : σ2.2 0 = σ.2 0 := funext (fun k => (hs 0 k (by decide)).2)
    show (Sum.inr (3, [.ref (ad2 1), .int (Int32.ofInt (σ2.1 0 1)), .int (Int32.ofInt (σ2.1 0 2)), .int (Int32.ofInt (σ2.1 0 3)), .ref (ad2 2), .ref (ad2 3), .int (Int32.ofInt (σ2.1 0 6)), .int (Int32.ofInt (σ2.1 0 7)), .int (Int32.ofInt (σ2.1 0 8)), .ref (ad2 4), .int (Int32.ofInt (σ2.1 0 10)), .ref (ad2 13), .ref (ad2 16)]) : va_E) = (Sum.inr (3, [.ref (ad 1), .int (Int32.ofInt (σ.1 0 1)), .int (Int32.ofInt (σ.1 0 2)), .int (Int32.ofInt (σ.1 0 3)), .ref (ad 2), .ref (ad 3), .int (Int32.ofInt (σ.1 0 6)), .int (Int32.ofInt (σ.1 0 7)), .int (Int32.ofInt (σ.1 0 8)), .ref (ad 4), .int (Int32.ofInt (σ.1 0 10)), .ref (ad 13), .ref (ad 16)]) : va_E)
    rw [e1, ha 1 (by decide), ha 2 (by decide), ha 3 (by decide), ha 4 (by decide), ha 13 (by decide), ha 16 (by decide)]
  | 1, _, _ =>
    have e1 : σ2.1 1 = σ.1 1 := funext (fun k => (hs 1 k (by decide)).1)
    have e2 : σ2.2 1 = σ.2 1 := funext (fun k => (hs 1 k (by decide)).2)
    show (Sum.inl (cA 0, 39, .inl (fun k => Int32.ofInt (σ2.1 1 k))) : va_E) = (Sum.inl (cA 0, 39, .inl (fun k => Int32.ofInt (σ.1 1 k))) : va_E)
    rw [e1]
  | 2, _, _ =>
    have e1 : σ2.1 2 = σ.1 2 := funext (fun k => (hs 2 k (by decide)).1)
    have e2 : σ2.2 2 = σ.2 2 := funext (fun k => (hs 2 k (by decide)).2)
    show (Sum.inl (cA 0, 8, .inl (fun k => Int32.ofInt (σ2.1 2 k))) : va_E) = (Sum.inl (cA 0, 8, .inl (fun k => Int32.ofInt (σ.1 2 k))) : va_E)
    rw [e1]
  | 3, _, _ =>
    have e1 : σ2.1 3 = σ.1 3 := funext (fun k => (hs 3 k (by decide)).1)
    have e2 : σ2.2 3 = σ.2 3 := funext (fun k => (hs 3 k (by decide)).2)
    show (Sum.inl (cA 0, 8, .inl (fun k => Int32.ofInt (σ2.1 3 k))) : va_E) = (Sum.inl (cA 0, 8, .inl (fun k => Int32.ofInt (σ.1 3 k))) : va_E)
    rw [e1]
  | 4, _, h4 => exact absurd rfl h4
  | 5, _, _ =>
    have e1 : σ2.1 5 = σ.1 5 := funext (fun k => (hs 5 k (by decide)).1)
    have e2 : σ2.2 5 = σ.2 5 := funext (fun k => (hs 5 k (by decide)).2)
    show (Sum.inr (1, [.int (Int32.ofInt (σ2.1 5 0)), .int (Int32.ofInt (σ2.1 5 1)), .int (Int32.ofInt (σ2.1 5 2)), .ref (ad2 9)]) : va_E) = (Sum.inr (1, [.int (Int32.ofInt (σ.1 5 0)), .int (Int32.ofInt (σ.1 5 1)), .int (Int32.ofInt (σ.1 5 2)), .ref (ad 9)]) : va_E)
    rw [e1, ha 9 (by decide)]
  | 6, _, _ =>
    have e1 : σ2.1 6 = σ.1 6 := funext (fun k => (hs 6 k (by decide)).1)
    have e2 : σ2.2 6 = σ.2 6 := funext (fun k => (hs 6 k (by decide)).2)
    show (Sum.inr (1, [.int (Int32.ofInt (σ2.1 6 0)), .int (Int32.ofInt (σ2.1 6 1)), .int (Int32.ofInt (σ2.1 6 2)), .ref (ad2 10)]) : va_E) = (Sum.inr (1, [.int (Int32.ofInt (σ.1 6 0)), .int (Int32.ofInt (σ.1 6 1)), .int (Int32.ofInt (σ.1 6 2)), .ref (ad 10)]) : va_E)
    rw [e1, ha 10 (by decide)]
  | 7, _, _ =>
    have e1 : σ2.1 7 = σ.1 7 := funext (fun k => (hs 7 k (by decide)).1)
    have e2 : σ2.2 7 = σ.2 7 := funext (fun k => (hs 7 k (by decide)).2)
    show (Sum.inr (1, [.int (Int32.ofInt (σ2.1 7 0)), .int (Int32.ofInt (σ2.1 7 1)), .int (Int32.ofInt (σ2.1 7 2)), .ref (ad2 11)]) : va_E) = (Sum.inr (1, [.int (Int32.ofInt (σ.1 7 0)), .int (Int32.ofInt (σ.1 7 1)), .int (Int32.ofInt (σ.1 7 2)), .ref (ad 11)]) : va_E)
    rw [e1, ha 11 (by decide)]
  | 8, _, _ =>
    have e1 : σ2.1 8 = σ.1 8 := funext (fun k => (hs 8 k (by decide)).1)
    have e2 : σ2.2 8 = σ.2 8 := funext (fun k => (hs 8 k (by decide)).2)
    show (Sum.inr (1, [.int (Int32.ofInt (σ2.1 8 0)), .int (Int32.ofInt (σ2.1 8 1)), .int (Int32.ofInt (σ2.1 8 2)), .ref (ad2 12)]) : va_E) = (Sum.inr (1, [.int (Int32.ofInt (σ.1 8 0)), .int (Int32.ofInt (σ.1 8 1)), .int (Int32.ofInt (σ.1 8 2)), .ref (ad 12)]) : va_E)
    rw [e1, ha 12 (by decide)]
  | 9, _, _ =>
    have e1 : σ2.1 9 = σ.1 9 := funext (fun k => (hs 9 k (by decide)).1)
    have e2 : σ2.2 9 = σ.2 9 := funext (fun k => (hs 9 k (by decide)).2)
    show (Sum.inl (cA 0, 48, .inl (fun k => Int32.ofInt (σ2.1 9 k))) : va_E) = (Sum.inl (cA 0, 48, .inl (fun k => Int32.ofInt (σ.1 9 k))) : va_E)
    rw [e1]
  | 10, _, _ =>
    have e1 : σ2.1 10 = σ.1 10 := funext (fun k => (hs 10 k (by decide)).1)
    have e2 : σ2.2 10 = σ.2 10 := funext (fun k => (hs 10 k (by decide)).2)
    show (Sum.inl (cA 0, 48, .inl (fun k => Int32.ofInt (σ2.1 10 k))) : va_E) = (Sum.inl (cA 0, 48, .inl (fun k => Int32.ofInt (σ.1 10 k))) : va_E)
    rw [e1]
  | 11, _, _ =>
    have e1 : σ2.1 11 = σ.1 11 := funext (fun k => (hs 11 k (by decide)).1)
    have e2 : σ2.2 11 = σ.2 11 := funext (fun k => (hs 11 k (by decide)).2)
    show (Sum.inl (cA 0, 48, .inl (fun k => Int32.ofInt (σ2.1 11 k))) : va_E) = (Sum.inl (cA 0, 48, .inl (fun k => Int32.ofInt (σ.1 11 k))) : va_E)
    rw [e1]
  | 12, _, _ =>
    have e1 : σ2.1 12 = σ.1 12 := funext (fun k => (hs 12 k (by decide)).1)
    have e2 : σ2.2 12 = σ.2 12 := funext (fun k => (hs 12 k (by decide)).2)
    show (Sum.inl (cA 0, 48, .inl (fun k => Int32.ofInt (σ2.1 12 k))) : va_E) = (Sum.inl (cA 0, 48, .inl (fun k => Int32.ofInt (σ.1 12 k))) : va_E)
    rw [e1]
  | 13, _, _ =>
    have e1 : σ2.1 13 = σ.1 13 := funext (fun k => (hs 13 k (by decide)).1)
    have e2 : σ2.2 13 = σ.2 13 := funext (fun k => (hs 13 k (by decide)).2)
    show (Sum.inr (0, [.int (Int32.ofInt (σ2.1 13 0)), .int (Int32.ofInt (σ2.1 13 1)), .int (Int32.ofInt (σ2.1 13 2)), .int (Int32.ofInt (σ2.1 13 3)), .long (Int64.ofBitVec (σ2.2 13 4)), .long (Int64.ofBitVec (σ2.2 13 5)), .long (Int64.ofBitVec (σ2.2 13 6)), .long (Int64.ofBitVec (σ2.2 13 7)), .long (Int64.ofBitVec (σ2.2 13 8)), .long (Int64.ofBitVec (σ2.2 13 9)), .long (Int64.ofBitVec (σ2.2 13 10)), .long (Int64.ofBitVec (σ2.2 13 11)), .ref (ad2 14), .ref (ad2 15)]) : va_E) = (Sum.inr (0, [.int (Int32.ofInt (σ.1 13 0)), .int (Int32.ofInt (σ.1 13 1)), .int (Int32.ofInt (σ.1 13 2)), .int (Int32.ofInt (σ.1 13 3)), .long (Int64.ofBitVec (σ.2 13 4)), .long (Int64.ofBitVec (σ.2 13 5)), .long (Int64.ofBitVec (σ.2 13 6)), .long (Int64.ofBitVec (σ.2 13 7)), .long (Int64.ofBitVec (σ.2 13 8)), .long (Int64.ofBitVec (σ.2 13 9)), .long (Int64.ofBitVec (σ.2 13 10)), .long (Int64.ofBitVec (σ.2 13 11)), .ref (ad 14), .ref (ad 15)]) : va_E)
    rw [e1, e2, ha 14 (by decide), ha 15 (by decide)]
  | 14, _, _ =>
    have e1 : σ2.1 14 = σ.1 14 := funext (fun k => (hs 14 k (by decide)).1)
    have e2 : σ2.2 14 = σ.2 14 := funext (fun k => (hs 14 k (by decide)).2)
    show (Sum.inl (cA 1, 4, .inr (.inl (fun k => Int64.ofBitVec (σ2.2 14 k)))) : va_E) = (Sum.inl (cA 1, 4, .inr (.inl (fun k => Int64.ofBitVec (σ.2 14 k)))) : va_E)
    rw [e2]
  | 15, _, _ =>
    have e1 : σ2.1 15 = σ.1 15 := funext (fun k => (hs 15 k (by decide)).1)
    have e2 : σ2.2 15 = σ.2 15 := funext (fun k => (hs 15 k (by decide)).2)
    show (Sum.inl (cA 1, 4, .inr (.inl (fun k => Int64.ofBitVec (σ2.2 15 k)))) : va_E) = (Sum.inl (cA 1, 4, .inr (.inl (fun k => Int64.ofBitVec (σ.2 15 k)))) : va_E)
    rw [e2]
  | 16, _, _ =>
    have e1 : σ2.1 16 = σ.1 16 := funext (fun k => (hs 16 k (by decide)).1)
    have e2 : σ2.2 16 = σ.2 16 := funext (fun k => (hs 16 k (by decide)).2)
    show (Sum.inr (2, [.ref (ad2 13), .ref (ad2 17), .long (Int64.ofBitVec (σ2.2 16 2)), .int (Int32.ofInt (σ2.1 16 3))]) : va_E) = (Sum.inr (2, [.ref (ad 13), .ref (ad 17), .long (Int64.ofBitVec (σ.2 16 2)), .int (Int32.ofInt (σ.1 16 3))]) : va_E)
    rw [e1, e2, ha 13 (by decide), ha 17 (by decide)]
  | 17, _, _ =>
    have e1 : σ2.1 17 = σ.1 17 := funext (fun k => (hs 17 k (by decide)).1)
    have e2 : σ2.2 17 = σ.2 17 := funext (fun k => (hs 17 k (by decide)).2)
    show (Sum.inl (cA 0, 1225, .inl (fun k => Int32.ofInt (σ2.1 17 k))) : va_E) = (Sum.inl (cA 0, 1225, .inl (fun k => Int32.ofInt (σ.1 17 k))) : va_E)
    rw [e1]
  | c + 18, hc, _ => exact absurd hc (by omega)
theorem aw_mv {D : va_G} {cA : Nat → ClassId} {ad ad2 : Nat → Nat} {σ σ2 : aS} {H : Heap} (h : va_P D vwCl (aw 18 cA ad σ) H) (ha : ∀ c, c < 18 → ad2 c = ad c) (hs : ∀ c k, c < 18 → σ2.1 c k = σ.1 c k ∧ σ2.2 c k = σ.2 c k) : va_P D vwCl (aw 18 cA ad2 σ2) H := by
  intro k q hq
  have hk : k < 18 := by
    have := (List.getElem?_eq_some_iff.mp hq).1
    rw [aw_len] at this
    exact this
  have h1 := h k _ (aw_at hk)
  rw [aw_at hk] at hq
  cases hq
  by_cases h4 : k = 4
  · subst h4
    have h1 : H[ad 4]? = some (vp_cell (cA 3) (4, .inr (.inr (.inr (.inr (fun k => some (ad (5 + k)))))))) := h1
    show H[ad2 4]? = some (vp_cell (cA 3) (4, .inr (.inr (.inr (.inr (fun k => some (ad2 (5 + k))))))))
    rw [ha 4 (by decide), h1, vq_cell (g := fun k => some (ad2 (5 + k))) (fun j hj => by show some (ad (5 + j)) = some (ad2 (5 + j)); rw [ha (5 + j) (by omega)])]
  · rw [ent_mv ha hs k hk h4, ha k hk]
    exact h1
theorem va_D_fst {A : Nat → Prop} {ws ws2 : va_W} (h : va_D A ws) (e : ws.map Prod.fst = ws2.map Prod.fst) : va_D A ws2 := by
  have key : ∀ (i : Nat) (q : Nat × va_E), ws2[i]? = some q → ∃ x, ws[i]? = some (q.1, x) := fun i q hq => by
    have h1 : (ws2.map Prod.fst)[i]? = some q.1 := by rw [List.getElem?_map, hq]; rfl
    rw [← e, List.getElem?_map] at h1
    cases h2 : ws[i]? with
    | none => rw [h2] at h1; cases h1
    | some y =>
      rw [h2] at h1
      have h3 : y.1 = q.1 := Option.some.inj h1
      exact ⟨y.2, by rw [← h3]⟩
  refine ⟨fun i j p q hp hq hpq => ?_, fun k q hq => ?_⟩
  · obtain ⟨x, hx⟩ := key i p hp
    obtain ⟨y, hy⟩ := key j q hq
    exact h.1 i j _ _ hx hy hpq
  · obtain ⟨x, hx⟩ := key k q hq
    exact h.2 k (q.1, x) hx
theorem arr_of {s : State} {A : Array Value} {ty : FieldType} (h : (Cond.arrayClass ty).before A s = true) : ∃ cB, ArrOfT s cB ty ∧ s.vm.findClass ("[" ++ ty.toString) = some cB := by
  obtain ⟨cB, k, comp, h1, h2, h3⟩ := Cond.arrayClass_spec h
  exact ⟨cB, fun n z => ⟨fun k h => (by cases h), k, h2, comp, h3⟩, h1⟩
theorem arr_ov {s : State} {A : Array Value} (h : (Cond.arrayOver (.object RX1)).before A s = true) : ∃ cB, ArrOfT s cB (.object RX1) ∧ va_RA s cB (.object RX1) := by
  obtain ⟨comp, cB, k, h1, h2, h3, h4, h5⟩ := Cond.arrayOver_spec h
  exact ⟨cB, fun n z => ⟨fun k h => (by cases h), k, h3, comp, h4⟩, k, comp, h3, h4, h1, h5⟩
