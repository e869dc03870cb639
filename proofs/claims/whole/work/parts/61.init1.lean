set_option maxHeartbeats 4000000 in
set_option maxRecDepth 100000 in
theorem c_X1_init (l : Launch) (D : va_G) (cA : Nat → ClassId) (h0 sz : Nat) : Met l (mY mX1_init) (mW mX1_init) ({ frames := 1, cells := 1, slots := 48, locals := 12 }) (va_Pc [.ref h0] (fun U => U.heap.size = sz ∧ va_P D vwCl [(h0, .inr (1, [.int 0, .int 0, .int 0, .null]))] U.heap ∧ va_K D vwCl (aT cA) U ∧ va_D (fun _ => True) [(h0, .inr (1, [.int 0, .int 0, .int 0, .null]))] ∧ (∀ w ∈ nestW, va_Nw w U))) (va_Qv (fun u : Nat => True) (fun u t => va_P D vwCl [(h0, .inr (1, [.int 1, .int 0, .int 0, .ref u])), (u, .inl (cA 0, 48, .inl (fun _ => 0)))] t.heap ∧ va_K D vwCl (aT cA) t ∧ va_D (va_A [(h0, .inr (1, [.int 0, .int 0, .int 0, .null]))] sz) [(h0, .inr (1, [.int 1, .int 0, .int 0, .ref u])), (u, .inl (cA 0, 48, .inl (fun _ => 0)))]) (va_A [(h0, .inr (1, [.int 0, .int 0, .int 0, .null]))] sz)) 1 48 (va_A [(h0, .inr (1, [.int 0, .int 0, .int 0, .null]))] sz) := by
  refine Met.ofW (cc := cX1_init) (maxL := 1) (ret := none) (m_plain mX1_init (by decide)) rfl ?_
  intro p e s m args below meth c s₁ B hml hv
  obtain ⟨rfl, hsz, hP, hK, hD0, hN⟩ := hv
  have hts := atoms_spec (ws := mW mX1_init) B.pre
  have hg : ∀ w ∈ lw_good, w.before ([.ref h0] : List Value).toArray s = true := fun w h => hts w (List.mem_cons_of_mem _ h)
  have hown : s.vm.findClass RX1 = some m.cls := findClass_of_methodNamed B.named
  have F : aFx p s m ([.ref h0] : List Value).toArray c cX1_init RX1 1 D cA := ⟨B.exec, B.bytes, hml, hown, hg, hK, hN⟩
  have hin : meth.name = "<init>" := (name_of_methodNamed B.named B.method).1
  have hr : meth.sig.returnType = none := B.returns
  subst hsz
  have hD := hD0.self (sz := s.heap.size)
  generalize hAe : va_A [(h0, .inr (1, [.int 0, .int 0, .int 0, .null]))] s.heap.size = A at hD ⊢
  have hA : ∀ q : Nat, s.heap.size ≤ q → A q := fun q h => by rw [← hAe]; exact Or.inr h
  have hS : va_S A s.heap s.heap [] := va_S.rf
  have hl := lv_entry ([.ref h0]) (n := 1) (Nat.le_of_ble_eq_true rfl)
  rw [lg_entry_eq]
  generalize (lg_sl ([.ref h0]) ++ List.replicate (1 - (lg_sl ([.ref h0])).length) Slot.unset).toArray = ls at hl ⊢
  have hl : lv_has ls 1 [(0, .ref h0)] := hl
  have hP : va_P D vwCl [(h0, .inr (1, [.int 0, .int 0, .int 0, .null]))] s.heap := hP
  refine lv_aload_n F.1 F.2.1 dX1_init_0 rfl (lv_at hl 0 rfl) ?_
  refine W.objInit F.1 F.2.1 hown (hg _ (gw_in gw_oi1)) (hg _ (gw_in gw_ioi)) (hg _ (gw_in gw_coi)) rfl (by rw [hml]; exact hl.1) rfl dX1_init_1 (Nat.le_of_ble_eq_true rfl) (Nat.le_of_ble_eq_true rfl) ?_
  refine W.eq (g2 := F0 m 4 ls []) rfl ?_
  refine lv_aload_n F.1 F.2.1 dX1_init_4 rfl (lv_at hl 0 rfl) ?_
  refine lv_iconst (v := 1) F.1 F.2.1 dX1_init_5 (by decide) ?_
  refine k_put F hP hD hS 0 rfl flX1_9 rfl (v := .int 1) (by decide) (by decide) (Nat.le_of_ble_eq_true rfl) dX1_init_6 (fun H locs hP hD hS => ?_)
  have hP : va_P D vwCl [(h0, .inr (1, [.int 1, .int 0, .int 0, .null]))] H := hP
  have hD : va_D A [(h0, .inr (1, [.int 1, .int 0, .int 0, .null]))] := hD
  refine lv_aload_n F.1 F.2.1 dX1_init_9 rfl (lv_at hl 0 rfl) ?_
  refine lv_bipush (v := 48) F.1 F.2.1 dX1_init_10 (by decide) ?_
  refine k_newI F hP hD hS hA (n := 48) (N' := 48) (by decide) (by decide) (by decide) (Nat.le_of_ble_eq_true rfl) (Nat.le_of_ble_eq_true rfl) dX1_init_12 (fun q1 H hP hD hS => ?_)
  have hP : va_P D vwCl [(h0, .inr (1, [.int 1, .int 0, .int 0, .null])), (q1, .inl (cA 0, 48, .inl (fun _ => 0)))] H := hP
  have hD : va_D A [(h0, .inr (1, [.int 1, .int 0, .int 0, .null])), (q1, .inl (cA 0, 48, .inl (fun _ => 0)))] := hD
  refine k_putF F hP hD hS 0 rfl flX1_15 rfl hin rfl (v := .ref q1) rfl rfl (Nat.le_of_ble_eq_true rfl) dX1_init_14 (fun H locs hP hD hS => ?_)
  have hP : va_P D vwCl [(h0, .inr (1, [.int 1, .int 0, .int 0, .ref q1])), (q1, .inl (cA 0, 48, .inl (fun _ => 0)))] H := hP
  have hD : va_D A [(h0, .inr (1, [.int 1, .int 0, .int 0, .ref q1])), (q1, .inl (cA 0, 48, .inl (fun _ => 0)))] := hD
  have hK9 := va_K.sub (tys' := aT cA) hK [0, 1, 2, 3] rfl
  refine W.widen (k := 1) (n := 48) (Nat.le_of_ble_eq_true rfl) (Nat.le_of_ble_eq_true rfl) ?_
  exact W.vret F.1 F.2.1 hr (fun t ht hW => ⟨⟨q1, rfl, trivial, by rw [ht]; exact hP, va_K.moved hW.alike hK9, hD⟩, hS.F ht⟩) hS.2.2 dX1_init_17
set_option maxHeartbeats 4000000 in
set_option maxRecDepth 100000 in
theorem c_X0_init (l : Launch) (D : va_G) (cA : Nat → ClassId) (h0 sz : Nat) : Met l (mY mX0_init) (mW mX0_init) ({ frames := 1, cells := 2, slots := 8, locals := 12 }) (va_Pc [.ref h0] (fun U => U.heap.size = sz ∧ va_P D vwCl [(h0, .inr (0, [.int 0, .int 0, .int 0, .int 0, .long 0, .long 0, .long 0, .long 0, .long 0, .long 0, .long 0, .long 0, .null, .null]))] U.heap ∧ va_K D vwCl (aT cA) U ∧ va_D (fun _ => True) [(h0, .inr (0, [.int 0, .int 0, .int 0, .int 0, .long 0, .long 0, .long 0, .long 0, .long 0, .long 0, .long 0, .long 0, .null, .null]))] ∧ (∀ w ∈ nestW, va_Nw w U))) (va_Qv (fun u : Nat × Nat => True) (fun u t => va_P D vwCl [(h0, .inr (0, [.int 0, .int 0, .int 0, .int 0, .long 0, .long 0, .long 0, .long 0, .long 0, .long 0, .long 0, .long 0, .ref u.1, .ref u.2])), (u.1, .inl (cA 1, 4, .inr (.inl (fun _ => 0)))), (u.2, .inl (cA 1, 4, .inr (.inl (fun _ => 0))))] t.heap ∧ va_K D vwCl (aT cA) t ∧ va_D (va_A [(h0, .inr (0, [.int 0, .int 0, .int 0, .int 0, .long 0, .long 0, .long 0, .long 0, .long 0, .long 0, .long 0, .long 0, .null, .null]))] sz) [(h0, .inr (0, [.int 0, .int 0, .int 0, .int 0, .long 0, .long 0, .long 0, .long 0, .long 0, .long 0, .long 0, .long 0, .ref u.1, .ref u.2])), (u.1, .inl (cA 1, 4, .inr (.inl (fun _ => 0)))), (u.2, .inl (cA 1, 4, .inr (.inl (fun _ => 0))))]) (va_A [(h0, .inr (0, [.int 0, .int 0, .int 0, .int 0, .long 0, .long 0, .long 0, .long 0, .long 0, .long 0, .long 0, .long 0, .null, .null]))] sz)) 2 8 (va_A [(h0, .inr (0, [.int 0, .int 0, .int 0, .int 0, .long 0, .long 0, .long 0, .long 0, .long 0, .long 0, .long 0, .long 0, .null, .null]))] sz) := by
  refine Met.ofW (cc := cX0_init) (maxL := 1) (ret := none) (m_plain mX0_init (by decide)) rfl ?_
  intro p e s m args below meth c s₁ B hml hv
  obtain ⟨rfl, hsz, hP, hK, hD0, hN⟩ := hv
  have hts := atoms_spec (ws := mW mX0_init) B.pre
  have hg : ∀ w ∈ lw_good, w.before ([.ref h0] : List Value).toArray s = true := fun w h => hts w (List.mem_cons_of_mem _ h)
  have hown : s.vm.findClass RX0 = some m.cls := findClass_of_methodNamed B.named
  have F : aFx p s m ([.ref h0] : List Value).toArray c cX0_init RX0 1 D cA := ⟨B.exec, B.bytes, hml, hown, hg, hK, hN⟩
  have hin : meth.name = "<init>" := (name_of_methodNamed B.named B.method).1
  have hr : meth.sig.returnType = none := B.returns
  subst hsz
  have hD := hD0.self (sz := s.heap.size)
  generalize hAe : va_A [(h0, .inr (0, [.int 0, .int 0, .int 0, .int 0, .long 0, .long 0, .long 0, .long 0, .long 0, .long 0, .long 0, .long 0, .null, .null]))] s.heap.size = A at hD ⊢
  have hA : ∀ q : Nat, s.heap.size ≤ q → A q := fun q h => by rw [← hAe]; exact Or.inr h
  have hS : va_S A s.heap s.heap [] := va_S.rf
  have hl := lv_entry ([.ref h0]) (n := 1) (Nat.le_of_ble_eq_true rfl)
  rw [lg_entry_eq]
  generalize (lg_sl ([.ref h0]) ++ List.replicate (1 - (lg_sl ([.ref h0])).length) Slot.unset).toArray = ls at hl ⊢
  have hl : lv_has ls 1 [(0, .ref h0)] := hl
  have hP : va_P D vwCl [(h0, .inr (0, [.int 0, .int 0, .int 0, .int 0, .long 0, .long 0, .long 0, .long 0, .long 0, .long 0, .long 0, .long 0, .null, .null]))] s.heap := hP
  refine lv_aload_n F.1 F.2.1 dX0_init_0 rfl (lv_at hl 0 rfl) ?_
  refine W.objInit F.1 F.2.1 hown (hg _ (gw_in gw_oi0)) (hg _ (gw_in gw_ioi)) (hg _ (gw_in gw_coi)) rfl (by rw [hml]; exact hl.1) rfl dX0_init_1 (Nat.le_of_ble_eq_true rfl) (Nat.le_of_ble_eq_true rfl) ?_
  refine W.eq (g2 := F0 m 4 ls []) rfl ?_
  refine lv_aload_n F.1 F.2.1 dX0_init_4 rfl (lv_at hl 0 rfl) ?_
  refine lv_iconst (v := 4) F.1 F.2.1 dX0_init_5 (by decide) ?_
  refine k_newJ F hP hD hS hA (n := 4) (N' := 4) (by decide) (by decide) (by decide) (Nat.le_of_ble_eq_true rfl) (Nat.le_of_ble_eq_true rfl) dX0_init_6 (fun q1 H hP hD hS => ?_)
  have hP : va_P D vwCl [(h0, .inr (0, [.int 0, .int 0, .int 0, .int 0, .long 0, .long 0, .long 0, .long 0, .long 0, .long 0, .long 0, .long 0, .null, .null])), (q1, .inl (cA 1, 4, .inr (.inl (fun _ => 0))))] H := hP
  have hD : va_D A [(h0, .inr (0, [.int 0, .int 0, .int 0, .int 0, .long 0, .long 0, .long 0, .long 0, .long 0, .long 0, .long 0, .long 0, .null, .null])), (q1, .inl (cA 1, 4, .inr (.inl (fun _ => 0))))] := hD
  refine k_putF F hP hD hS 0 rfl flX0_9 rfl hin rfl (v := .ref q1) rfl rfl (Nat.le_of_ble_eq_true rfl) dX0_init_8 (fun H locs hP hD hS => ?_)
  have hP : va_P D vwCl [(h0, .inr (0, [.int 0, .int 0, .int 0, .int 0, .long 0, .long 0, .long 0, .long 0, .long 0, .long 0, .long 0, .long 0, .ref q1, .null])), (q1, .inl (cA 1, 4, .inr (.inl (fun _ => 0))))] H := hP
  have hD : va_D A [(h0, .inr (0, [.int 0, .int 0, .int 0, .int 0, .long 0, .long 0, .long 0, .long 0, .long 0, .long 0, .long 0, .long 0, .ref q1, .null])), (q1, .inl (cA 1, 4, .inr (.inl (fun _ => 0))))] := hD
  refine lv_aload_n F.1 F.2.1 dX0_init_11 rfl (lv_at hl 0 rfl) ?_
  refine lv_iconst (v := 4) F.1 F.2.1 dX0_init_12 (by decide) ?_
  refine k_newJ F hP hD hS hA (n := 4) (N' := 4) (by decide) (by decide) (by decide) (Nat.le_of_ble_eq_true rfl) (Nat.le_of_ble_eq_true rfl) dX0_init_13 (fun q2 H hP hD hS => ?_)
  have hP : va_P D vwCl [(h0, .inr (0, [.int 0, .int 0, .int 0, .int 0, .long 0, .long 0, .long 0, .long 0, .long 0, .long 0, .long 0, .long 0, .ref q1, .null])), (q1, .inl (cA 1, 4, .inr (.inl (fun _ => 0)))), (q2, .inl (cA 1, 4, .inr (.inl (fun _ => 0))))] H := hP
  have hD : va_D A [(h0, .inr (0, [.int 0, .int 0, .int 0, .int 0, .long 0, .long 0, .long 0, .long 0, .long 0, .long 0, .long 0, .long 0, .ref q1, .null])), (q1, .inl (cA 1, 4, .inr (.inl (fun _ => 0)))), (q2, .inl (cA 1, 4, .inr (.inl (fun _ => 0))))] := hD
  refine k_putF F hP hD hS 0 rfl flX0_15 rfl hin rfl (v := .ref q2) rfl rfl (Nat.le_of_ble_eq_true rfl) dX0_init_15 (fun H locs hP hD hS => ?_)
  have hP : va_P D vwCl [(h0, .inr (0, [.int 0, .int 0, .int 0, .int 0, .long 0, .long 0, .long 0, .long 0, .long 0, .long 0, .long 0, .long 0, .ref q1, .ref q2])), (q1, .inl (cA 1, 4, .inr (.inl (fun _ => 0)))), (q2, .inl (cA 1, 4, .inr (.inl (fun _ => 0))))] H := hP
  have hD : va_D A [(h0, .inr (0, [.int 0, .int 0, .int 0, .int 0, .long 0, .long 0, .long 0, .long 0, .long 0, .long 0, .long 0, .long 0, .ref q1, .ref q2])), (q1, .inl (cA 1, 4, .inr (.inl (fun _ => 0)))), (q2, .inl (cA 1, 4, .inr (.inl (fun _ => 0))))] := hD
  have hK9 := va_K.sub (tys' := aT cA) hK [0, 1, 2, 3] rfl
  refine W.widen (k := 2) (n := 8) (Nat.le_of_ble_eq_true rfl) (Nat.le_of_ble_eq_true rfl) ?_
  exact W.vret F.1 F.2.1 hr (fun t ht hW => ⟨⟨(q1, q2), rfl, trivial, by rw [ht]; exact hP, va_K.moved hW.alike hK9, hD⟩, hS.F ht⟩) hS.2.2 dX0_init_18
set_option maxHeartbeats 4000000 in
set_option maxRecDepth 100000 in
theorem c_X2_init (l : Launch) (D : va_G) (cA : Nat → ClassId) (h0 h1 sz : Nat) : Met l (mY mX2_init) (mW mX2_init) ({ frames := 1, cells := 1, slots := 1225, locals := 12 }) (va_Pc [.ref h0, .ref h1] (fun U => U.heap.size = sz ∧ va_P D vwCl [(h0, .inr (2, [.null, .null, .long 0, .int 0]))] U.heap ∧ va_K D vwCl (aT cA) U ∧ va_D (fun _ => True) [(h0, .inr (2, [.null, .null, .long 0, .int 0]))] ∧ (∀ w ∈ nestW, va_Nw w U))) (va_Qv (fun u : Nat => True) (fun u t => va_P D vwCl [(h0, .inr (2, [.ref h1, .ref u, .long 0, .int 0])), (u, .inl (cA 0, 1225, .inl (fun _ => 0)))] t.heap ∧ va_K D vwCl (aT cA) t ∧ va_D (va_A [(h0, .inr (2, [.null, .null, .long 0, .int 0]))] sz) [(h0, .inr (2, [.ref h1, .ref u, .long 0, .int 0])), (u, .inl (cA 0, 1225, .inl (fun _ => 0)))]) (va_A [(h0, .inr (2, [.null, .null, .long 0, .int 0]))] sz)) 1 1225 (va_A [(h0, .inr (2, [.null, .null, .long 0, .int 0]))] sz) := by
  refine Met.ofW (cc := cX2_init) (maxL := 2) (ret := none) (m_plain mX2_init (by decide)) rfl ?_
  intro p e s m args below meth c s₁ B hml hv
  obtain ⟨rfl, hsz, hP, hK, hD0, hN⟩ := hv
  have hts := atoms_spec (ws := mW mX2_init) B.pre
  have hg : ∀ w ∈ lw_good, w.before ([.ref h0, .ref h1] : List Value).toArray s = true := fun w h => hts w (List.mem_cons_of_mem _ h)
  have hown : s.vm.findClass RX2 = some m.cls := findClass_of_methodNamed B.named
  have F : aFx p s m ([.ref h0, .ref h1] : List Value).toArray c cX2_init RX2 2 D cA := ⟨B.exec, B.bytes, hml, hown, hg, hK, hN⟩
  have hin : meth.name = "<init>" := (name_of_methodNamed B.named B.method).1
  have hr : meth.sig.returnType = none := B.returns
  subst hsz
  have hD := hD0.self (sz := s.heap.size)
  generalize hAe : va_A [(h0, .inr (2, [.null, .null, .long 0, .int 0]))] s.heap.size = A at hD ⊢
  have hA : ∀ q : Nat, s.heap.size ≤ q → A q := fun q h => by rw [← hAe]; exact Or.inr h
  have hS : va_S A s.heap s.heap [] := va_S.rf
  have hl := lv_entry ([.ref h0, .ref h1]) (n := 2) (Nat.le_of_ble_eq_true rfl)
  rw [lg_entry_eq]
  generalize (lg_sl ([.ref h0, .ref h1]) ++ List.replicate (2 - (lg_sl ([.ref h0, .ref h1])).length) Slot.unset).toArray = ls at hl ⊢
  have hl : lv_has ls 2 [(0, .ref h0), (1, .ref h1)] := hl
  have hP : va_P D vwCl [(h0, .inr (2, [.null, .null, .long 0, .int 0]))] s.heap := hP
  refine lv_aload_n F.1 F.2.1 dX2_init_0 rfl (lv_at hl 0 rfl) ?_
  refine W.objInit F.1 F.2.1 hown (hg _ (gw_in gw_oi2)) (hg _ (gw_in gw_ioi)) (hg _ (gw_in gw_coi)) rfl (by rw [hml]; exact hl.1) rfl dX2_init_1 (Nat.le_of_ble_eq_true rfl) (Nat.le_of_ble_eq_true rfl) ?_
  refine W.eq (g2 := F0 m 4 ls []) rfl ?_
  refine lv_aload_n F.1 F.2.1 dX2_init_4 rfl (lv_at hl 0 rfl) ?_
  refine lv_aload_n F.1 F.2.1 dX2_init_5 rfl (lv_at hl 1 rfl) ?_
  refine k_putF F hP hD hS 0 rfl flX2_9 rfl hin rfl (v := .ref h1) rfl rfl (Nat.le_of_ble_eq_true rfl) dX2_init_6 (fun H locs hP hD hS => ?_)
  have hP : va_P D vwCl [(h0, .inr (2, [.ref h1, .null, .long 0, .int 0]))] H := hP
  have hD : va_D A [(h0, .inr (2, [.ref h1, .null, .long 0, .int 0]))] := hD
  refine lv_aload_n F.1 F.2.1 dX2_init_9 rfl (lv_at hl 0 rfl) ?_
  refine lv_sipush (v := 1225) F.1 F.2.1 dX2_init_10 (by decide) ?_
  refine k_newI F hP hD hS hA (n := 1225) (N' := 1225) (by decide) (by decide) (by decide) (Nat.le_of_ble_eq_true rfl) (Nat.le_of_ble_eq_true rfl) dX2_init_13 (fun q1 H hP hD hS => ?_)
  have hP : va_P D vwCl [(h0, .inr (2, [.ref h1, .null, .long 0, .int 0])), (q1, .inl (cA 0, 1225, .inl (fun _ => 0)))] H := hP
  have hD : va_D A [(h0, .inr (2, [.ref h1, .null, .long 0, .int 0])), (q1, .inl (cA 0, 1225, .inl (fun _ => 0)))] := hD
  refine k_putF F hP hD hS 0 rfl flX2_15 rfl hin rfl (v := .ref q1) rfl rfl (Nat.le_of_ble_eq_true rfl) dX2_init_15 (fun H locs hP hD hS => ?_)
  have hP : va_P D vwCl [(h0, .inr (2, [.ref h1, .ref q1, .long 0, .int 0])), (q1, .inl (cA 0, 1225, .inl (fun _ => 0)))] H := hP
  have hD : va_D A [(h0, .inr (2, [.ref h1, .ref q1, .long 0, .int 0])), (q1, .inl (cA 0, 1225, .inl (fun _ => 0)))] := hD
  have hK9 := va_K.sub (tys' := aT cA) hK [0, 1, 2, 3] rfl
  refine W.widen (k := 1) (n := 1225) (Nat.le_of_ble_eq_true rfl) (Nat.le_of_ble_eq_true rfl) ?_
  exact W.vret F.1 F.2.1 hr (fun t ht hW => ⟨⟨q1, rfl, trivial, by rw [ht]; exact hP, va_K.moved hW.alike hK9, hD⟩, hS.F ht⟩) hS.2.2 dX2_init_18
