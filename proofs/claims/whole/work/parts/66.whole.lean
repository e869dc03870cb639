set_option maxHeartbeats 4000000 in
set_option maxRecDepth 100000 in
theorem whole_start {p : Program} {e : Env} {s : State} {m : MethodId} {below : List Frame} {meth : Method} {c : Code} (l : Launch) {b L : Nat} {xs : Nat → Int32} (hL : L ≤ 384) (C0 : lw_At p s m meth c b L xs) : W p l e room_1 s m #[Value.ref b] below meth c s.heap [] 0 0 (lw_Z below #[Value.ref b] s) (entryFrame m ([Value.ref b] : List Value).toArray 4) := by
  obtain ⟨hx, hb, hr, hml, hown, hts, hX, hbl, hlocks, hgv⟩ := id C0
  obtain ⟨A, hAe⟩ : ∃ A : Nat → Prop, A = fun q : Nat => s.heap.size ≤ q := ⟨_, rfl⟩
  have hA : ∀ q : Nat, s.heap.size ≤ q → A q := fun q h => by rw [hAe]; exact h
  have hA2 : ∀ q : Nat, A q → s.heap.size ≤ q := fun q h => by rw [hAe] at h; exact h
  have hbA : ¬ A b := fun h => absurd (hA2 b h) (Nat.not_le.mpr hbl)
  clear hAe
  obtain ⟨c0, i0, hKn0⟩ := u_known (C := RX0) (T := TX0) (N := 14) (n := 14) hts (fun w h => (cls_in0 w h).1) (hts _ (gw_n 0 (by decide)).1.1)
  obtain ⟨c1, i1, hKn1⟩ := u_known (C := RX1) (T := TX1) (N := 4) (n := 4) hts (fun w h => (cls_in1 w h).1) (hts _ (gw_n 1 (by decide)).1.1)
  obtain ⟨c2, i2, hKn2⟩ := u_known (C := RX2) (T := TX2) (N := 4) (n := 4) hts (fun w h => (cls_in2 w h).1) (hts _ (gw_n 2 (by decide)).1.1)
  obtain ⟨c3, i3, hKn3⟩ := u_known (C := RX3) (T := TX3) (N := 13) (n := 13) hts (fun w h => (cls_in3 w h).1) (hts _ (gw_n 3 (by decide)).1.1)
  obtain ⟨c4, i4, hKn4⟩ := u_known (C := RX4) (T := TX4) (N := 24) (n := 24) hts (fun w h => (cls_in4 w h).1) (hts _ (gw_n 4 (by decide)).1.1)
  obtain ⟨D, hKc⟩ : ∃ D : va_G, ∀ (k : Nat) (q : vw_C), vwCl[k]? = some q → u_Kn s q.1 q.2.1 q.2.2 (D.1 k) (D.2 k) := by
    refine ⟨(fun k => if k = 0 then c0 else if k = 1 then c1 else if k = 2 then c2 else if k = 3 then c3 else c4, fun k => if k = 0 then i0 else if k = 1 then i1 else if k = 2 then i2 else if k = 3 then i3 else i4), ?_⟩
    intro k q hq
    match k, hq with
    | 0, hq => cases hq; exact hKn0
    | 1, hq => cases hq; exact hKn1
    | 2, hq => cases hq; exact hKn2
    | 3, hq => cases hq; exact hKn3
    | 4, hq => cases hq; exact hKn4
    | k + 5, hq => cases hq
  obtain ⟨cI, kI1, kI2⟩ := arr_of (hts _ gw_ai.1)
  obtain ⟨cJ, kJ1, kJ2⟩ := arr_of (hts _ gw_aj.1)
  obtain ⟨cZ, kZ1, kZ2⟩ := arr_of (hts _ gw_az.1)
  obtain ⟨cS, kS1, kS2⟩ := arr_ov (hts _ in_ao)
  obtain ⟨cA, hK⟩ : ∃ cA : Nat → ClassId, va_K D vwCl (aT cA) s := by
    refine ⟨fun t => if t = 0 then cI else if t = 1 then cJ else if t = 2 then cZ else cS, hKc, ?_⟩
    intro k q hq
    match k, hq with
    | 0, hq => cases hq; exact ⟨kI1, kI2⟩
    | 1, hq => cases hq; exact ⟨kJ1, kJ2⟩
    | 2, hq => cases hq; exact ⟨kZ1, kZ2⟩
    | 3, hq => cases hq; exact ⟨kS1, kS2⟩
    | k + 4, hq => cases hq
  have hN : ∀ w ∈ nestW, va_Nw w s := fun w h => va_Nw.of (nest_tbl w h).2 (hts w (nest_tbl w h).1)
  have hao : va_AO RX1 s := va_AO.of (hts _ in_ao)
  have hg : ∀ w ∈ lw_good, w.before #[Value.ref b] s = true := fun w h => hts w (lw_good_gw h).1
  have F : aFx p s m #[Value.ref b] c cL_law RL 4 D cA := ⟨hx, hb, hml, hown, hg, hK, hN⟩
  have hS : va_S A s.heap s.heap [] := va_S.rf
  have hP : va_P D vwCl [] s.heap := fun k q h => by cases h
  have hD : va_D A [] := ⟨fun i j p q h => (by cases h), fun k q h => (by cases h)⟩
  have hl := lv_entry ([.ref b]) (n := 4) (Nat.le_of_ble_eq_true rfl)
  rw [lg_entry_eq]
  generalize (lg_sl ([.ref b]) ++ List.replicate (4 - (lg_sl ([.ref b])).length) Slot.unset).toArray = ls at hl ⊢
  have hl : lv_has ls 4 [(0, .ref b)] := hl
  refine k_new F hP hD hS hA (ci := 3) (by decide) gw_cl3 (fs := [.null, .int 0, .int 0, .int 0, .null, .null, .int 0, .int 0, .int 0, .null, .int 0, .null, .null]) (fun j hj => by
      have hj : j < 13 := hj
      rcases (show j = 0 ∨ j = 1 ∨ j = 2 ∨ j = 3 ∨ j = 4 ∨ j = 5 ∨ j = 6 ∨ j = 7 ∨ j = 8 ∨ j = 9 ∨ j = 10 ∨ j = 11 ∨ j = 12 by omega) with rfl | rfl | rfl | rfl | rfl | rfl | rfl | rfl | rfl | rfl | rfl | rfl | rfl <;> rfl) (Nat.le_of_ble_eq_true rfl) (Nat.le_of_ble_eq_true rfl) dL_law_0 (fun q0 H hP hD hS => ?_)
  have hP : va_P D vwCl [(q0, .inr (3, [.null, .int 0, .int 0, .int 0, .null, .null, .int 0, .int 0, .int 0, .null, .int 0, .null, .null]))] H := hP
  have hD : va_D A [(q0, .inr (3, [.null, .int 0, .int 0, .int 0, .null, .null, .int 0, .int 0, .int 0, .null, .int 0, .null, .null]))] := hD
  refine lv_dup F.1 F.2.1 dL_law_3 rfl ?_
  have hPc := hP.sub (ws' := [(q0, .inr (3, [.null, .int 0, .int 0, .int 0, .null, .null, .int 0, .int 0, .int 0, .null, .int 0, .null, .null]))]) [0] rfl
  have hDc := hD.sub (ws' := [(q0, .inr (3, [.null, .int 0, .int 0, .int 0, .null, .null, .int 0, .int 0, .int 0, .null, .int 0, .null, .null]))]) [0] (by decide) rfl
  have hFc := va_free (wc := [(q0, .inr (3, [.null, .int 0, .int 0, .int 0, .null, .null, .int 0, .int 0, .int 0, .null, .int 0, .null, .null]))]) hD hS hA [0] rfl
  refine va_callv (va_runI (As := []) (rest := [.ref q0]) ⟨F.1, F.2.1, hml, hown, hg⟩ (c_X3_init l D cA q0 H.size) (cwI 0 hg (mW_good ilL_9.2.2.2.1) rfl rfl rfl (hg _ (gw_in ilL_9.2.2.1)) (hg _ (gw_in ilL_9.1)) (hg _ (gw_in ilL_9.2.1)) rfl ilL_9.2.2.2.2.1 ⟨(Nat.le_of_ble_eq_true rfl), (Nat.le_of_ble_eq_true rfl)⟩) ⟨fun a U g mk q => by obtain ⟨q0, q1, qP, qK, qD, qN, qA⟩ := q; exact ⟨q0, q1, qP, va_K.moved (u := U) (U := U.calling g mk a) (Vm.Alike.refl U.vm) qK, qD, nw_same qN rfl, va_AO.moved (u := U) (U := U.calling g mk a) (Vm.Alike.refl U.vm) qA⟩, fun U hU hW => ⟨rfl, by rw [hU], by rw [hU]; exact hPc, va_K.moved hW.alike hK, hDc.weaken (fun _ _ _ _ => trivial), nw_warm hN hW, va_AO.moved hW.alike hao⟩⟩ rfl rfl hl.1 rfl (lv_room (Nat.le_of_ble_eq_true rfl)) dL_law_4 ⟨(Nat.le_of_ble_eq_true rfl), (Nat.le_of_ble_eq_true rfl)⟩) hS (fun q _ h => hFc q h) hFc (fun u t H1 locs ht hvm hw hB hz1 hk1 hS => ?_)
  obtain ⟨ad, σ1⟩ := u
  obtain ⟨had, hcz⟩ := hw
  have had : ad 0 = q0 := had
  have hcz : CI σ1 z0 := hcz
  obtain ⟨hI1, hP1, hK1, hD1⟩ := hB
  rw [ht] at hP1
  obtain ⟨hP, hD⟩ := va_join (wr := []) (w1 := aw 18 cA ad σ1) hP hD [0] [] rfl rfl (by decide) (by decide) hk1 hFc hP1 hD1
  generalize H1 = H at hP hS ⊢
  have hP : va_P D vwCl (aw 18 cA ad σ1) H := hP
  have hD : va_D A (aw 18 cA ad σ1) := hD
  refine lv_astore_n (lv' := [(1, .ref q0), (0, .ref b)]) F.1 F.2.1 dL_law_7 rfl hl (by decide) rfl (fun ls hl => ?_)
  refine k_new F hP hD hS hA (ci := 4) (by decide) gw_cl4 (fs := [.null, .int 0, .int 0, .int 0, .int 0, .null, .int 0, .int 0, .int 0, .null, .null, .null, .null, .null, .null, .int 0, .null, .null, .null, .null, .null, .null, .null, .int 0]) (fun j hj => by
      have hj : j < 24 := hj
      rcases (show j = 0 ∨ j = 1 ∨ j = 2 ∨ j = 3 ∨ j = 4 ∨ j = 5 ∨ j = 6 ∨ j = 7 ∨ j = 8 ∨ j = 9 ∨ j = 10 ∨ j = 11 ∨ j = 12 ∨ j = 13 ∨ j = 14 ∨ j = 15 ∨ j = 16 ∨ j = 17 ∨ j = 18 ∨ j = 19 ∨ j = 20 ∨ j = 21 ∨ j = 22 ∨ j = 23 by omega) with rfl | rfl | rfl | rfl | rfl | rfl | rfl | rfl | rfl | rfl | rfl | rfl | rfl | rfl | rfl | rfl | rfl | rfl | rfl | rfl | rfl | rfl | rfl | rfl <;> rfl) (Nat.le_of_ble_eq_true rfl) (Nat.le_of_ble_eq_true rfl) dL_law_8 (fun p18 H hP hD hS => ?_)
  refine lv_dup F.1 F.2.1 dL_law_11 rfl ?_
  have hPc := hP.sub (ws' := [(p18, .inr (4, [.null, .int 0, .int 0, .int 0, .int 0, .null, .int 0, .int 0, .int 0, .null, .null, .null, .null, .null, .null, .int 0, .null, .null, .null, .null, .null, .null, .null, .int 0]))]) [18] rfl
  have hDc := hD.sub (ws' := [(p18, .inr (4, [.null, .int 0, .int 0, .int 0, .int 0, .null, .int 0, .int 0, .int 0, .null, .null, .null, .null, .null, .null, .int 0, .null, .null, .null, .null, .null, .null, .null, .int 0]))]) [18] (by decide) rfl
  have hFc := va_free (wc := [(p18, .inr (4, [.null, .int 0, .int 0, .int 0, .int 0, .null, .int 0, .int 0, .int 0, .null, .null, .null, .null, .null, .null, .int 0, .null, .null, .null, .null, .null, .null, .null, .int 0]))]) hD hS hA [18] rfl
  refine va_callv (va_runI (As := []) (rest := [.ref p18]) ⟨F.1, F.2.1, hml, hown, hg⟩ (c_X4_init l D cA p18 H.size) (cwI 0 hg (mW_good ilL_12.2.2.2.1) rfl rfl rfl (hg _ (gw_in ilL_12.2.2.1)) (hg _ (gw_in ilL_12.1)) (hg _ (gw_in ilL_12.2.1)) rfl ilL_12.2.2.2.2.1 ⟨(Nat.le_of_ble_eq_true rfl), (Nat.le_of_ble_eq_true rfl)⟩) ⟨fun a U g mk q => by obtain ⟨q0, q1, qP, qK, qD, qN⟩ := q; exact ⟨q0, q1, qP, va_K.moved (u := U) (U := U.calling g mk a) (Vm.Alike.refl U.vm) qK, qD, nw_same qN rfl⟩, fun U hU hW => ⟨rfl, by rw [hU], by rw [hU]; exact hPc, va_K.moved hW.alike hK, hDc.weaken (fun _ _ _ _ => trivial), nw_warm hN hW⟩⟩ rfl rfl hl.1 rfl (lv_room (Nat.le_of_ble_eq_true rfl)) dL_law_12 ⟨(Nat.le_of_ble_eq_true rfl), (Nat.le_of_ble_eq_true rfl)⟩) hS (fun q _ h => hFc q h) hFc (fun u t H1 locs ht hvm hw hB hz1 hk1 hS => ?_)
  have hw9 := hw
  obtain ⟨hP1, hK1, hD1⟩ := hB
  rw [ht] at hP1
  obtain ⟨hP, hD⟩ := va_join (wr := aw 18 cA ad σ1) (w1 := [(p18, .inr (4, [.ref (u 19), .int 0, .int 0, .int 0, .int 0, .ref (u 20), .int 2, .int 2, .int 0, .ref (u 21), .ref (u 22), .ref (u 23), .ref (u 24), .ref (u 25), .ref (u 26), .int 0, .ref (u 27), .ref (u 28), .ref (u 29), .ref (u 30), .ref (u 31), .ref (u 32), .ref (u 33), .int 0])), ((u 19), .inl (cA 0, 39, .inl (fun _ => 0))), ((u 20), .inl (cA 0, 36, .inl (fun _ => 0))), ((u 21), .inl (cA 0, 8, .inl (fun _ => 0))), ((u 22), .inl (cA 0, 8, .inl (fun _ => 0))), ((u 23), .inl (cA 0, 36, .inl (fun _ => 0))), ((u 24), .inl (cA 2, 36, .inl (fun _ => 0))), ((u 25), .inl (cA 2, 36, .inl (fun _ => 0))), ((u 26), .inl (cA 0, 2, .inl (fun _ => 0))), ((u 27), .inl (cA 0, 8, .inl (fun _ => 0))), ((u 28), .inl (cA 0, 8, .inl (fun _ => 0))), ((u 29), .inl (cA 2, 4, .inl (fun _ => 0))), ((u 30), .inl (cA 0, 4, .inl (fun _ => 0))), ((u 31), .inl (cA 0, 4, .inl (fun _ => 0))), ((u 32), .inl (cA 0, 192, .inl (fun _ => 0))), ((u 33), .inl (cA 0, 48, .inl (fun _ => 0)))]) hP hD [18] [0, 1, 2, 3, 4, 5, 6, 7, 8, 9, 10, 11, 12, 13, 14, 15, 16, 17] rfl rfl (by decide) (by decide) hk1 hFc hP1 hD1
  generalize H1 = H at hP hS ⊢
  have hP18 := hP.sub (ws' := aw 18 cA ad σ1) [0, 1, 2, 3, 4, 5, 6, 7, 8, 9, 10, 11, 12, 13, 14, 15, 16, 17] rfl
  have hPM := hP.sub (ws' := [(p18, .inr (4, [.ref (u 19), .int 0, .int 0, .int 0, .int 0, .ref (u 20), .int 2, .int 2, .int 0, .ref (u 21), .ref (u 22), .ref (u 23), .ref (u 24), .ref (u 25), .ref (u 26), .int 0, .ref (u 27), .ref (u 28), .ref (u 29), .ref (u 30), .ref (u 31), .ref (u 32), .ref (u 33), .int 0])), ((u 19), .inl (cA 0, 39, .inl (fun _ => 0))), ((u 20), .inl (cA 0, 36, .inl (fun _ => 0))), ((u 21), .inl (cA 0, 8, .inl (fun _ => 0))), ((u 22), .inl (cA 0, 8, .inl (fun _ => 0))), ((u 23), .inl (cA 0, 36, .inl (fun _ => 0))), ((u 24), .inl (cA 2, 36, .inl (fun _ => 0))), ((u 25), .inl (cA 2, 36, .inl (fun _ => 0))), ((u 26), .inl (cA 0, 2, .inl (fun _ => 0))), ((u 27), .inl (cA 0, 8, .inl (fun _ => 0))), ((u 28), .inl (cA 0, 8, .inl (fun _ => 0))), ((u 29), .inl (cA 2, 4, .inl (fun _ => 0))), ((u 30), .inl (cA 0, 4, .inl (fun _ => 0))), ((u 31), .inl (cA 0, 4, .inl (fun _ => 0))), ((u 32), .inl (cA 0, 192, .inl (fun _ => 0))), ((u 33), .inl (cA 0, 48, .inl (fun _ => 0)))]) [18, 19, 20, 21, 22, 23, 24, 25, 26, 27, 28, 29, 30, 31, 32, 33] rfl
  have hP2 := (aw_mv (ad2 := (fun c : Nat => if c < 18 then ad c else if c = 18 then p18 else if c = 99 then b else u c)) (σ2 := ((fun c k => if c < 18 then σ1.1 c k else if c = 18 ∧ (k = 6 ∨ k = 7) then 2 else 0, σ1.2) : aS)) hP18 (fun c hc => if_pos hc) (fun c k hc => ⟨if_pos hc, rfl⟩)).app hPM
  have hP34 : va_P D vwCl (aw 34 cA (fun c : Nat => if c < 18 then ad c else if c = 18 then p18 else if c = 99 then b else u c) ((fun c k => if c < 18 then σ1.1 c k else if c = 18 ∧ (k = 6 ∨ k = 7) then 2 else 0, σ1.2) : aS)) H := hP2
  have hD34 : va_D A (aw 34 cA (fun c : Nat => if c < 18 then ad c else if c = 18 then p18 else if c = 99 then b else u c) ((fun c k => if c < 18 then σ1.1 c k else if c = 18 ∧ (k = 6 ∨ k = 7) then 2 else 0, σ1.2) : aS)) := va_D_fst hD rfl
  have hc2 : CI ((fun c k => if c < 18 then σ1.1 c k else if c = 18 ∧ (k = 6 ∨ k = 7) then 2 else 0, σ1.2) : aS) z0 := hcz.frx ⟨fun c k h => if_pos h, rfl⟩
  have hm2 : MI ((fun c k => if c < 18 then σ1.1 c k else if c = 18 ∧ (k = 6 ∨ k = 7) then 2 else 0, σ1.2) : aS) z0 := ⟨rfl, fun k hk => absurd hk (Nat.not_lt_zero k), rfl, rfl, rfl, fun k hk => absurd hk (Nat.not_lt_zero k), rfl, fun k hk => absurd hk (Nat.not_lt_zero k), fun s hs => ⟨rfl, rfl, rfl, fun i hi => rfl⟩, rfl⟩
  have hi2 : InS ((fun c k => if c < 18 then σ1.1 c k else if c = 18 ∧ (k = 6 ∨ k = 7) then 2 else 0, σ1.2) : aS) := fun c k => by
    show in32 (if c < 18 then σ1.1 c k else if c = 18 ∧ (k = 6 ∨ k = 7) then 2 else 0)
    split
    · exact hI1 c k
    · unfold in32; split <;> omega
  obtain ⟨ad2, ead⟩ : ∃ ad2 : Nat → Nat, ad2 = (fun c : Nat => if c < 18 then ad c else if c = 18 then p18 else if c = 99 then b else u c) := ⟨_, rfl⟩
  obtain ⟨σ2, eσ⟩ : ∃ σ2 : aS, σ2 = ((fun c k => if c < 18 then σ1.1 c k else if c = 18 ∧ (k = 6 ∨ k = 7) then 2 else 0, σ1.2) : aS) := ⟨_, rfl⟩
  have a99 : ad2 99 = b := by rw [ead]; rfl
  have a0 : ad2 0 = q0 := by rw [ead]; exact had
  have a18 : ad2 18 = p18 := by rw [ead]; rfl
  rw [← eσ] at hc2 hm2 hi2
  rw [← ead, ← eσ] at hP34 hD34
  clear hP18 hPM hP2 hP hD ead eσ
  refine lv_astore_n (lv' := [(2, .ref p18), (1, .ref q0), (0, .ref b)]) F.1 F.2.1 dL_law_15 rfl hl (by decide) rfl (fun ls hl => ?_)
  refine lv_iconst (v := 0) F.1 F.2.1 dL_law_16 (by decide) ?_
  refine lv_istore_n (lv' := [(3, .int 0), (2, .ref p18), (1, .ref q0), (0, .ref b)]) F.1 F.2.1 dL_law_17 rfl hl (by decide) rfl (fun ls hl => ?_)
  refine W.widen (k := 600000) (n := 7302250) (Nat.le_of_ble_eq_true rfl) (Nat.le_of_ble_eq_true rfl) ?_
  have S := law_w (Q := fun r _ => r = some (vi 1)) (xl := L) (xs := fun j => (xs j).toInt) (by omega) hL (fun j => ⟨by have := Int32.le_toInt (xs j); simpa using this, by have := Int32.toInt_lt (xs j); simpa using this⟩) (fun σ _ => rfl) 64 0 σ2 (by omega) (by omega) ⟨z0, hc2, hm2, z0_V⟩ (aI p l e room_1 s m #[Value.ref b] below meth c 600000 7302250 4 34 D cA ad2 A (lw_Z below #[Value.ref b] s)) (sound (d := 9) F (fun m' as σ K h hok => aCall_met 9 m' as σ K h hok) ⟨⟨(Nat.le_of_ble_eq_true rfl), (Nat.le_of_ble_eq_true rfl)⟩, (Nat.le_of_ble_eq_true rfl), (Nat.le_of_ble_eq_true rfl)⟩ (fun _ => ⟨xs, by rw [a99]; exact hX, by rw [a99]; exact hbl, by rw [a99]; exact hbA, fun j => ⟨(Int32.ofInt_toInt _).symm, ⟨by have := Int32.le_toInt (xs j); simpa using this, by have := Int32.toInt_lt (xs j); simpa using this⟩⟩⟩) ?_ ?_ ?_)
  · refine S H locs ls hi2 hP34 hD34 hS ⟨hl.1, rfl, hl.2.1, fun k v h => ?_⟩ (fun k v h => ?_) (fun v h => absurd h List.not_mem_nil)
    · match k, h with
      | 0, h => cases h; rw [show tr ad2 (vr 99) = .ref b by show Value.ref (ad2 99) = _; rw [a99]]; exact lv_at hl 3 rfl
      | 1, h => cases h; rw [show tr ad2 (vr 0) = .ref q0 by show Value.ref (ad2 0) = _; rw [a0]]; exact lv_at hl 2 rfl
      | 2, h => cases h; rw [show tr ad2 (vr 18) = .ref p18 by show Value.ref (ad2 18) = _; rw [a18]]; exact lv_at hl 1 rfl
      | 3, h => cases h; exact lv_at hl 0 rfl
      | k + 4, h => cases h
    · match k, h with
      | 0, h => cases h; trivial
      | 1, h => cases h; trivial
      | 2, h => cases h; trivial
      | 3, h => cases h; exact ⟨by decide, by decide⟩
      | k + 4, h => cases h
  · intro pc L9 σ9 x9 hd h9 h1 H locs ls hI hP hD hS hl hL9 hT
    have e9 : x9 = 1 := by
      have h1 : some (vi x9) = some (vi 1) := h1
      exact Sum.inl.inj (Option.some.inj h1)
    subst e9
    refine va_forget (fun q hq => hA2 _ (hS.2.2 q hq)) ?_
    exact lw_ret hx hb hr hlocks hd
  · intro pc L9 σ9 x9 hd h9
    exact absurd h9 (by omega)
  · intro pc L9 σ9 hd h9
    exact absurd h9 (by omega)
