theorem cdS {s : Nat} (h : s < 4) : cd (5 + s) = .inl (1, [2, 0, 0, 9 + s + 3]) := by
  have : s = 0 ∨ s = 1 ∨ s = 2 ∨ s = 3 := by omega
  rcases this with rfl | rfl | rfl | rfl <;> rfl
theorem cdT {s : Nat} (h : s < 4) : cd (9 + s) = .inr (0, 48) := by
  have : s = 0 ∨ s = 1 ∨ s = 2 ∨ s = 3 := by omega
  rcases this with rfl | rfl | rfl | rfl <;> rfl
theorem PV.lo {σ σ' : aS} {z : aZ} (h : PV σ z) (f : ∀ c k, 13 ≤ c → σ'.1 c k = σ.1 c k) (f2 : σ'.2 = σ.2) : PV σ' z := by
  obtain ⟨p1, p2, p3, p4⟩ := h
  refine ⟨by rw [f 13 0 (by decide)]; exact p1, by rw [f 13 1 (by decide)]; exact p2, ?_, by rw [f 16 3 (by decide)]; exact p4.1, fun a b => by rw [f2, f 17 _ (by decide)]; exact p4.2 a b⟩
  exact p3.fr (A := fun c _ => c < 13) (B := fun _ _ => False) ⟨fun c k q => f c k (by omega), fun c k _ => by rw [f2]⟩ (fun _ q => absurd (show (13 : Nat) < 13 from q) (by decide)) (fun _ q => q) (fun _ q => q) (fun _ q => q)
theorem PV.put {σ : aS} {z : aZ} {c k : Nat} {x : Int} (h : PV σ z) (hc : c < 13) : PV (sI σ c k x) z := h.lo (fun c' k' q => sI_ne (fun e => by omega)) rfl
theorem CI.S {σ : aS} {z : aZ} {h f n : Nat → Int} {it : Nat → Nat → Int} {g : Int} {σ' : aS} (hc : CI σ z) (lo : ∀ c k, ¬ (5 ≤ c ∧ c ≤ 12) → ¬ (c = 0 ∧ k = 10) → σ'.1 c k = σ.1 c k) (l2 : σ'.2 = σ.2) (hs : SH σ' h f n it) (hg : σ'.1 0 10 = g) : CI σ' (mkS z h f n it g) := by
  obtain ⟨⟨h1, h2, h3, h4, h5, h6, h7, h8, h9, h10⟩, hv⟩ := hc
  refine ⟨⟨(lo 0 1 (by decide) (by decide)).trans h1, fun k hk => (lo 1 k (by omega) (by omega)).trans (h2 k hk), (lo 0 2 (by decide) (by decide)).trans h3, (lo 0 3 (by decide) (by decide)).trans h4, (lo 0 6 (by decide) (by decide)).trans h5, fun k hk => ⟨(lo 2 k (by omega) (by omega)).trans (h6 k hk).1, (lo 3 k (by omega) (by omega)).trans (h6 k hk).2⟩, (lo 0 7 (by decide) (by decide)).trans h7, (lo 0 8 (by decide) (by decide)).trans h8, hs, hg⟩, ?_⟩
  exact PV.lo hv (fun c k q => lo c k (by omega) (by omega)) l2
theorem CI.find {σ : aS} {z : aZ} {g : Int} (hc : CI σ z) : CI (sI σ 0 10 g) (zFind z g) := hc.S (fun c k _ q => sI_ne q) rfl (hc.1.2.2.2.2.2.2.2.2.1.put (by decide)) sI_eq
theorem SH.it {σ : aS} {h f n : Nat → Int} {it : Nat → Nat → Int} {s i : Nat} {x : Int} (q : SH σ h f n it) (hs : s < 4) : SH (sI σ (9 + s) i x) h f n (up2 it s (up1 (it s) i x)) := fun u hu => by
  rw [sI_ne (fun e => by omega), sI_ne (fun e => by omega), sI_ne (fun e => by omega)]
  refine ⟨(q u hu).1, (q u hu).2.1, (q u hu).2.2.1, fun j hj => ?_⟩
  have := (q u hu).2.2.2 j hj
  rw [sI_at]
  unfold up2 up1
  by_cases e : u = s
  · rw [if_pos e]
    subst e
    by_cases e2 : j = i
    · rw [if_pos e2, if_pos ⟨rfl, e2⟩]
    · rw [if_neg e2, if_neg (fun w => e2 w.2)]; exact this
  · rw [if_neg e, if_neg (fun w => by omega)]; exact this
theorem CI.keep {σ : aS} {z : aZ} {s i : Nat} {v : Int} (hc : CI σ z) (hs : s < 4) : CI (sI σ (9 + s) i (nrw (zf z s) v)) (zKeep z s i v) := hc.S (fun c k q _ => sI_ne (fun e => by omega)) rfl (hc.1.2.2.2.2.2.2.2.2.1.it hs) (by rw [sI_ne (fun e => by omega)]; exact hc.1.2.2.2.2.2.2.2.2.2)
theorem CI.sh {σ : aS} {z : aZ} (hc : CI σ z) : SH σ (zh z) (zf z) (zz z) (zi z) := hc.1.2.2.2.2.2.2.2.2.1
theorem isSh_n {s : Int} (h : isSh s) : s.toNat < 4 ∧ 0 ≤ s ∧ s ≤ 3 := by unfold isSh at h; omega
set_option maxRecDepth 20000 in
theorem s3_isSheet {d : Nat} {σ : aS} {Q : aQ} {s : Int} {NC : Nat} (hQ : Q (some (vi (bi (isSh s)))) σ) : aCall NC (d + 1) mX3_isSheet [vi s] σ Q := by
  refine cl_in (own := RX3) (cc := cX3_isSheet) (rk := 1) (L := [some (vi s)]) rfl rfl rfl rfl (by decide) (Nat.le_of_ble_eq_true rfl) ?_
  refine wp_iload_n dX3_isSheet_0 rfl ?_
  refine wp_if_lt 13 dX3_isSheet_1 (by decide) (fun h1 => ?_) (fun h1 => ?_)
  · refine wp_iconst dX3_isSheet_13 (by decide) ?_
    refine wp_iret dX3_isSheet_14 (Or.inr ⟨rfl, by decide⟩) ?_
    first
    | exact q_t (by unfold isSh; omega) hQ
    | exact q_f (by unfold isSh; omega) hQ
  · refine wp_iload_n dX3_isSheet_4 rfl ?_
    refine wp_iconst dX3_isSheet_5 (by decide) ?_
    refine wp_ic_ge 13 dX3_isSheet_6 (by decide) (fun h6 => ?_) (fun h6 => ?_)
    · refine wp_iconst dX3_isSheet_13 (by decide) ?_
      refine wp_iret dX3_isSheet_14 (Or.inr ⟨rfl, by decide⟩) ?_
      first
      | exact q_t (by unfold isSh; omega) hQ
      | exact q_f (by unfold isSh; omega) hQ
    · refine wp_iconst dX3_isSheet_9 (by decide) ?_
      refine wp_gotoN 14 dX3_isSheet_10 (by decide) ?_
      refine wp_iret dX3_isSheet_14 (Or.inr ⟨rfl, by decide⟩) ?_
      first
      | exact q_t (by unfold isSh; omega) hQ
      | exact q_f (by unfold isSh; omega) hQ
set_option maxRecDepth 20000 in
theorem s3_isForm {d : Nat} {σ : aS} {Q : aQ} {s : Int} {NC : Nat} (hQ : Q (some (vi (bi (0 ≤ s ∧ s ≤ 2)))) σ) : aCall NC (d + 1) mX3_isForm [vi s] σ Q := by
  refine cl_in (own := RX3) (cc := cX3_isForm) (rk := 1) (L := [some (vi s)]) rfl rfl rfl rfl (by decide) (Nat.le_of_ble_eq_true rfl) ?_
  refine wp_iload_n dX3_isForm_0 rfl ?_
  refine wp_if_lt 13 dX3_isForm_1 (by decide) (fun h1 => ?_) (fun h1 => ?_)
  · refine wp_iconst dX3_isForm_13 (by decide) ?_
    refine wp_iret dX3_isForm_14 (Or.inr ⟨rfl, by decide⟩) ?_
    exact q_f (by omega) hQ
  · refine wp_iload_n dX3_isForm_4 rfl ?_
    refine wp_iconst dX3_isForm_5 (by decide) ?_
    refine wp_ic_gt 13 dX3_isForm_6 (by decide) (fun h6 => ?_) (fun h6 => ?_)
    · refine wp_iconst dX3_isForm_13 (by decide) ?_
      refine wp_iret dX3_isForm_14 (Or.inr ⟨rfl, by decide⟩) ?_
      exact q_f (by omega) hQ
    · refine wp_iconst dX3_isForm_9 (by decide) ?_
      refine wp_gotoN 14 dX3_isForm_10 (by decide) ?_
      refine wp_iret dX3_isForm_14 (Or.inr ⟨rfl, by decide⟩) ?_
      exact q_t (by omega) hQ
set_option maxRecDepth 20000 in
theorem s3_found {d : Nat} {σ : aS} {Q : aQ} {n : Int} (n0 : 0 ≤ n) (n9 : n ≤ 9) (hQ : Q (some (vi (-10 - n))) (sI σ 0 10 n)) : aCall 34 (d + 1) mX3_found [vr 0, vi n] σ Q := by
  refine cl_in (own := RX3) (cc := cX3_found) (rk := 0) (L := [some (vr 0), some (vi n)]) rfl rfl rfl rfl (by decide) (Nat.le_of_ble_eq_true rfl) ?_
  refine wp_aload_n dX3_found_0 rfl ?_
  refine wp_iload_n dX3_found_1 rfl ?_
  refine wp_putI dX3_found_2 flX3_228 (by omega) rfl rfl rfl rfl ?_
  refine wp_bipush dX3_found_5 (by decide) ?_
  refine wp_iload_n dX3_found_7 rfl ?_
  refine wp_isubN dX3_found_8 (by omega) ?_
  refine wp_iret dX3_found_9 (Or.inl rfl) ?_
  exact hQ
set_option maxRecDepth 20000 in
theorem s1_holds {d : Nat} {σ : aS} {Q : aQ} {s : Nat} {i n z : Int} (hs : s < 4) (hz : σ.1 (5 + s) 2 = z) (z0 : 0 ≤ z) (z48 : z ≤ 48) (hQ : Q (some (vi (bi (0 ≤ i ∧ 0 ≤ n ∧ i + n ≤ z)))) σ) : aCall 34 (d + 1) mX1_holds [vr (5 + s), vi i, vi n] σ Q := by
  refine cl_in (own := RX1) (cc := cX1_holds) (rk := 1) (L := [some (vr (5 + s)), some (vi i), some (vi n)]) rfl rfl rfl rfl (by decide) (Nat.le_of_ble_eq_true rfl) ?_
  refine wp_iload_n dX1_holds_0 rfl ?_
  refine wp_if_lt 30 dX1_holds_1 (by decide) (fun h1 => ?_) (fun h1 => ?_)
  · refine wp_iconst dX1_holds_30 (by decide) ?_
    refine wp_iret dX1_holds_31 (Or.inr ⟨rfl, by decide⟩) ?_
    exact q_f (by omega) hQ
  · refine wp_iload_n dX1_holds_4 rfl ?_
    refine wp_if_lt 30 dX1_holds_5 (by decide) (fun h5 => ?_) (fun h5 => ?_)
    · refine wp_iconst dX1_holds_30 (by decide) ?_
      refine wp_iret dX1_holds_31 (Or.inr ⟨rfl, by decide⟩) ?_
      exact q_f (by omega) hQ
    · refine wp_iload_n dX1_holds_8 rfl ?_
      refine wp_aload_n dX1_holds_9 rfl ?_
      refine wp_getI dX1_holds_10 flX1_23 (by omega) (cdS (by omega)) (Or.inl rfl) ?_
      refine wp_ic_gt 30 dX1_holds_13 (by decide) (fun h13 => ?_) (fun h13 => ?_)
      · refine wp_iconst dX1_holds_30 (by decide) ?_
        refine wp_iret dX1_holds_31 (Or.inr ⟨rfl, by decide⟩) ?_
        exact q_f (by omega) hQ
      · refine wp_iload_n dX1_holds_16 rfl ?_
        refine wp_aload_n dX1_holds_17 rfl ?_
        refine wp_getI dX1_holds_18 flX1_23 (by omega) (cdS (by omega)) (Or.inl rfl) ?_
        refine wp_iload_n dX1_holds_21 rfl ?_
        refine wp_isubN dX1_holds_22 (by omega) ?_
        refine wp_ic_gt 30 dX1_holds_23 (by decide) (fun h23 => ?_) (fun h23 => ?_)
        · refine wp_iconst dX1_holds_30 (by decide) ?_
          refine wp_iret dX1_holds_31 (Or.inr ⟨rfl, by decide⟩) ?_
          exact q_f (by omega) hQ
        · refine wp_iconst dX1_holds_26 (by decide) ?_
          refine wp_gotoN 31 dX1_holds_27 (by decide) ?_
          refine wp_iret dX1_holds_31 (Or.inr ⟨rfl, by decide⟩) ?_
          exact q_t (by omega) hQ
set_option maxRecDepth 20000 in
theorem s1_store {d : Nat} {σ : aS} {Q : aQ} {s : Nat} {i v z f : Int} (hs : s < 4) (hz : σ.1 (5 + s) 2 = z) (z48 : z ≤ 48) (hf : σ.1 (5 + s) 1 = f) (i0 : 0 ≤ i) (i1 : i < z) (hQ : Q none (sI σ (9 + s) i.toNat (nrw f v))) : aCall 34 (d + 2) mX1_store [vr (5 + s), vi i, vi v] σ Q := by
  refine cl_in (own := RX1) (cc := cX1_store) (rk := 3) (L := [some (vr (5 + s)), some (vi i), some (vi v)]) rfl rfl rfl rfl (by decide) (Nat.le_of_ble_eq_true rfl) ?_
  refine wp_aload_n dX1_store_0 rfl ?_
  refine wp_iload_n dX1_store_1 rfl ?_
  refine wp_iconst dX1_store_2 (by decide) ?_
  refine wp_V2 dX1_store_3 vlX1_26 (by omega) (cdS (by omega)) (Nat.le_of_ble_eq_true rfl) ?_
  refine s1_holds hs hz (by omega) z48 ?_
  refine wp_ifB_ne 10 dX1_store_6 (by decide) (fun h6 => ?_) (fun h6 => ?_)
  · refine wp_aload_n dX1_store_10 rfl ?_
    refine wp_getI dX1_store_11 flX1_19 (by omega) (cdS (by omega)) (Or.inl rfl) ?_
    refine wp_if_ne 28 dX1_store_14 (by decide) (fun h14 => ?_) (fun h14 => ?_)
    · refine wp_aload_n dX1_store_28 rfl ?_
      refine wp_getI dX1_store_29 flX1_19 (by omega) (cdS (by omega)) (Or.inl rfl) ?_
      refine wp_iconst dX1_store_32 (by decide) ?_
      refine wp_ic_ne 47 dX1_store_33 (by decide) (fun h33 => ?_) (fun h33 => ?_)
      · refine wp_aload_n dX1_store_47 rfl ?_
        refine wp_getR dX1_store_48 flX1_15 (by omega) (cdS (by omega)) rfl ?_
        refine wp_iload_n dX1_store_51 rfl ?_
        refine wp_iload_n dX1_store_52 rfl ?_
        refine wp_iastore dX1_store_53 (by omega) (cdT (by omega)) (by omega) (by omega) (by decide) ?_
        refine wp_vret dX1_store_54 rfl ?_
        rw [show nrw f v = v by unfold nrw; rw [if_neg (by omega), if_neg (by omega)]] at hQ
        exact hQ
      · refine wp_aload_n dX1_store_36 rfl ?_
        refine wp_getR dX1_store_37 flX1_15 (by omega) (cdS (by omega)) rfl ?_
        refine wp_iload_n dX1_store_40 rfl ?_
        refine wp_iload_n dX1_store_41 rfl ?_
        refine wp_i2s dX1_store_42 ?_
        refine wp_iastore dX1_store_43 (by omega) (cdT (by omega)) (by omega) (by omega) (by decide) ?_
        refine wp_gotoN 54 dX1_store_44 (by decide) ?_
        refine wp_vret dX1_store_54 rfl ?_
        rw [show nrw f v = (v + 32768) % 65536 - 32768 by unfold nrw; rw [if_neg (by omega), if_pos (by omega)]] at hQ
        exact hQ
    · refine wp_aload_n dX1_store_17 rfl ?_
      refine wp_getR dX1_store_18 flX1_15 (by omega) (cdS (by omega)) rfl ?_
      refine wp_iload_n dX1_store_21 rfl ?_
      refine wp_iload_n dX1_store_22 rfl ?_
      refine wp_i2b dX1_store_23 ?_
      refine wp_iastore dX1_store_24 (by omega) (cdT (by omega)) (by omega) (by omega) (by decide) ?_
      refine wp_gotoN 54 dX1_store_25 (by decide) ?_
      refine wp_vret dX1_store_54 rfl ?_
      rw [show nrw f v = (v + 128) % 256 - 128 by unfold nrw; rw [if_pos (by omega)]] at hQ
      exact hQ
  · refine wp_vret dX1_store_9 rfl ?_
    exfalso; exact h6 ⟨i0, by omega, by omega⟩
set_option maxRecDepth 20000 in
theorem l1_begin {d : Nat} {σ0 : aS} {Q : aQ} {s : Nat} {f n : Int} (hs : s < 4) (hQ : ∀ σ', FrQ (fun c k => (c = 5 + s ∧ k ≤ 2) ∨ c = 9 + s) nA σ0 σ' → σ'.1 (5 + s) 0 = 0 → σ'.1 (5 + s) 1 = f → σ'.1 (5 + s) 2 = n → (∀ i, i < 48 → σ'.1 (9 + s) i = 0) → Q none σ') : ∀ (r : Nat) (k : Nat) (σ : aS), k + r = 48 → FrQ (fun c k => (c = 5 + s ∧ k ≤ 2) ∨ c = 9 + s) nA σ0 σ → σ.1 (5 + s) 0 = 0 → σ.1 (5 + s) 1 = f → σ.1 (5 + s) 2 = n → (∀ i, i < k → σ.1 (9 + s) i = 0) → Wp RX1 cX1_begin 34 (aCall 34 (d + 1)) Q 3 false 0 (fun _ => 0) 17 [some (vr (5 + s)), some (vi f), some (vi n), some (vi (k : Int))] [] σ := by
  intro r
  induction r with
  | zero =>
    intro k σ hk hf e0 e1 e2 hI
    refine wp_iload_n dX1_begin_17 rfl ?_
    refine wp_bipush dX1_begin_18 (by decide) ?_
    refine wp_ic_ge 36 dX1_begin_20 (by decide) (fun hh20 => ?_) (fun hh20 => ?_)
    · refine wp_vret dX1_begin_36 rfl ?_
      have e : k = 48 := by omega
      subst e
      exact hQ σ hf e0 e1 e2 hI
    · exfalso; omega
  | succ r ih =>
    intro k σ hk hf e0 e1 e2 hI
    refine wp_iload_n dX1_begin_17 rfl ?_
    refine wp_bipush dX1_begin_18 (by decide) ?_
    refine wp_ic_ge 36 dX1_begin_20 (by decide) (fun hh20 => ?_) (fun hh20 => ?_)
    · exfalso; omega
    · refine wp_aload_n dX1_begin_23 rfl ?_
      refine wp_getR dX1_begin_24 flX1_15 (by omega) (cdS (by omega)) rfl ?_
      refine wp_iload_n dX1_begin_27 rfl ?_
      refine wp_iconst dX1_begin_28 (by decide) ?_
      refine wp_iastore dX1_begin_29 (by omega) (cdT (by omega)) (by omega) (by omega) (by decide) ?_
      refine wp_iincN (L' := [some (vr _), some (vi _), some (vi _), some (vi _)]) dX1_begin_30 rfl (by omega) rfl ?_
      refine wp_gotoN 17 dX1_begin_33 (by decide) ?_
      refine ih (k + 1) _ (by omega) (hf.put (Or.inr rfl)) (by rw [sI_ne (fun e => by omega)]; exact e0) (by rw [sI_ne (fun e => by omega)]; exact e1) (by rw [sI_ne (fun e => by omega)]; exact e2) (fun j hj => ?_)
      rw [sI_at]
      by_cases e : j = k
      · rw [if_pos ⟨rfl, by omega⟩]
      · rw [if_neg (fun q => by omega)]; exact hI j (by omega)
set_option maxRecDepth 20000 in
theorem s1_begin {d : Nat} {σ : aS} {Q : aQ} {s : Nat} {f n : Int} (hs : s < 4) (hQ : ∀ σ', FrQ (fun c k => (c = 5 + s ∧ k ≤ 2) ∨ c = 9 + s) nA σ σ' → σ'.1 (5 + s) 0 = 0 → σ'.1 (5 + s) 1 = f → σ'.1 (5 + s) 2 = n → (∀ i, i < 48 → σ'.1 (9 + s) i = 0) → Q none σ') : aCall 34 (d + 2) mX1_begin [vr (5 + s), vi f, vi n] σ Q := by
  refine cl_in (own := RX1) (cc := cX1_begin) (rk := 3) (L := [some (vr (5 + s)), some (vi f), some (vi n), none]) rfl rfl rfl rfl (by decide) (Nat.le_of_ble_eq_true rfl) ?_
  refine wp_aload_n dX1_begin_0 rfl ?_
  refine wp_iconst dX1_begin_1 (by decide) ?_
  refine wp_putZ dX1_begin_2 flX1_9 (by omega) (cdS (by omega)) rfl rfl rfl (by omega) ?_
  refine wp_aload_n dX1_begin_5 rfl ?_
  refine wp_iload_n dX1_begin_6 rfl ?_
  refine wp_putI dX1_begin_7 flX1_19 (by omega) (cdS (by omega)) rfl rfl rfl ?_
  refine wp_aload_n dX1_begin_10 rfl ?_
  refine wp_iload_n dX1_begin_11 rfl ?_
  refine wp_putI dX1_begin_12 flX1_23 (by omega) (cdS (by omega)) rfl rfl rfl ?_
  refine wp_iconst dX1_begin_15 (by decide) ?_
  refine wp_istN (L' := [some (vr _), some (vi _), some (vi _), some (vi _)]) dX1_begin_16 (Nat.le_of_ble_eq_true rfl) rfl ?_
  exact l1_begin hs hQ 48 0 _ (by omega) (((FrQ.rf.put (Or.inl ⟨rfl, by decide⟩)).put (Or.inl ⟨rfl, by decide⟩)).put (Or.inl ⟨rfl, by decide⟩)) (by rw [sI_ne (fun e => absurd e.2 (by decide)), sI_ne (fun e => absurd e.2 (by decide)), sI_eq]) (by rw [sI_ne (fun e => absurd e.2 (by decide)), sI_eq]) sI_eq (fun j hj => absurd hj (Nat.not_lt_zero j))
set_option maxRecDepth 20000 in
theorem p3_sheet {d : Nat} {σ : aS} {Q : aQ} {s f n : Int} {z : aZ} (hc : CI σ z) (hz : ZV z) (hQ : ∀ σ', Fry σ σ' → CI σ' (uSheet z s f n) → Q (some (vi (vSheet z s f n))) σ') : aCall 34 (d + 3) mX3_sheet [vr 0, vi s, vi f, vi n] σ Q := by
  refine cl_in (own := RX3) (cc := cX3_sheet) (rk := 0) (L := [some (vr 0), some (vi s), some (vi f), some (vi n)]) rfl rfl rfl rfl (by decide) (Nat.le_of_ble_eq_true rfl) ?_
  have hs4 := hc.sh
  refine wp_iload_n dX3_sheet_0 rfl ?_
  refine wp_S1 dX3_sheet_1 zlX3_90 (Nat.le_of_ble_eq_true rfl) ?_
  refine s3_isSheet ?_
  refine wp_ifB_eq 20 dX3_sheet_4 (by decide) (fun hh4 => ?_) (fun hh4 => ?_)
  · refine wp_bipush dX3_sheet_20 (by decide) ?_
    refine wp_iret dX3_sheet_22 (Or.inl rfl) ?_
    have hno : ¬ (isSh s ∧ (0 ≤ f ∧ f ≤ 2) ∧ n ≤ 48) := fun q => by first | exact hh4 q.1 | (have := q.2; omega)
    have e0 : vSheet z s f n = -2 := by unfold vSheet; rw [if_neg hno]
    have e1 : uSheet z s f n = z := by unfold uSheet; rw [if_neg hno]
    rw [e0, e1] at hQ
    exact hQ σ Fry.rf hc
  · refine wp_iload_n dX3_sheet_7 rfl ?_
    refine wp_S1 dX3_sheet_8 zlX3_198 (Nat.le_of_ble_eq_true rfl) ?_
    refine s3_isForm ?_
    refine wp_ifB_eq 20 dX3_sheet_11 (by decide) (fun hh11 => ?_) (fun hh11 => ?_)
    · refine wp_bipush dX3_sheet_20 (by decide) ?_
      refine wp_iret dX3_sheet_22 (Or.inl rfl) ?_
      have hno : ¬ (isSh s ∧ (0 ≤ f ∧ f ≤ 2) ∧ n ≤ 48) := fun q => by first | exact hh4 q.1 | (have := q.2; omega)
      have e0 : vSheet z s f n = -2 := by unfold vSheet; rw [if_neg hno]
      have e1 : uSheet z s f n = z := by unfold uSheet; rw [if_neg hno]
      rw [e0, e1] at hQ
      exact hQ σ Fry.rf hc
    · refine wp_iload_n dX3_sheet_14 rfl ?_
      refine wp_bipush dX3_sheet_15 (by decide) ?_
      refine wp_ic_le 23 dX3_sheet_17 (by decide) (fun hh17 => ?_) (fun hh17 => ?_)
      · refine wp_iload_n dX3_sheet_23 rfl ?_
        refine wp_if_ge 33 dX3_sheet_24 (by decide) (fun hh24 => ?_) (fun hh24 => ?_)
        · have hsn := isSh_n hh4
          refine wp_aload_n dX3_sheet_33 rfl ?_
          refine wp_getR dX3_sheet_34 flX3_31 (by omega) rfl rfl ?_
          refine wp_iload_n dX3_sheet_37 rfl ?_
          refine wp_aaload dX3_sheet_38 (by omega) rfl (by omega) (by omega) (by decide) ?_
          refine wp_iload_n dX3_sheet_39 rfl ?_
          refine wp_iload_n dX3_sheet_40 rfl ?_
          refine wp_V2 dX3_sheet_41 vlX3_201 (by omega) (cdS (by omega)) (Nat.le_of_ble_eq_true rfl) ?_
          refine s1_begin hsn.1 (fun σ2 f2 g0 g1 g2 g3 => ?_)
          refine wp_iload_n dX3_sheet_44 rfl ?_
          refine wp_iret dX3_sheet_45 (Or.inl rfl) ?_
          have hok : isSh s ∧ (0 ≤ f ∧ f ≤ 2) ∧ n ≤ 48 := ⟨hh4, hh11, by omega⟩
          have e0 : vSheet z s f n = n := by unfold vSheet; rw [if_pos hok, if_neg (by omega)]
          have e1 : uSheet z s f n = mkS z (up1 (zh z) s.toNat 1) (up1 (zf z) s.toNat f) (up1 (zz z) s.toNat n) (up2 (zi z) s.toNat (fun _ => 0)) (zg z) := by unfold uSheet; rw [if_pos hok, if_neg (by omega)]
          rw [e0, e1] at hQ
          refine hQ σ2 (f2.y (fun c k h q => by omega)) (hc.S (fun c k q _ => f2.1 c k (fun w => by omega)) (funext fun c => funext fun k => f2.2 c k (fun q => q)) (fun u hu => ?_) (by rw [f2.1 0 10 (fun q => by omega)]; exact hc.1.2.2.2.2.2.2.2.2.2))
          unfold up1 up2
          by_cases e : u = s.toNat
          · rw [if_pos e, if_pos e, if_pos e, if_pos e, e]
            exact ⟨by rw [g0]; rfl, g1, g2, g3⟩
          · rw [if_neg e, if_neg e, if_neg e, if_neg e, f2.1 (5 + u) 0 (fun q => by omega), f2.1 (5 + u) 1 (fun q => by omega), f2.1 (5 + u) 2 (fun q => by omega)]
            exact ⟨(hs4 u hu).1, (hs4 u hu).2.1, (hs4 u hu).2.2.1, fun i hi => by rw [f2.1 (9 + u) i (fun q => by omega)]; exact (hs4 u hu).2.2.2 i hi⟩
        · refine wp_aload_n dX3_sheet_27 rfl ?_
          refine wp_iconst dX3_sheet_28 (by decide) ?_
          refine wp_V1 dX3_sheet_29 vlX3_97 (by omega) rfl (Nat.le_of_ble_eq_true rfl) ?_
          refine s3_found (by omega) (by omega) ?_
          refine wp_iret dX3_sheet_32 (Or.inl rfl) ?_
          have hok : isSh s ∧ (0 ≤ f ∧ f ≤ 2) ∧ n ≤ 48 := ⟨hh4, hh11, by omega⟩
          have e0 : vSheet z s f n = -15 := by unfold vSheet; rw [if_pos hok, if_pos (by omega)]
          have e1 : uSheet z s f n = zFind z 5 := by unfold uSheet; rw [if_pos hok, if_pos (by omega)]
          rw [e0, e1] at hQ
          exact hQ _ (Fry.rf.put (by decide)) hc.find
      · refine wp_bipush dX3_sheet_20 (by decide) ?_
        refine wp_iret dX3_sheet_22 (Or.inl rfl) ?_
        have hno : ¬ (isSh s ∧ (0 ≤ f ∧ f ≤ 2) ∧ n ≤ 48) := fun q => by first | exact hh4 q.1 | (have := q.2; omega)
        have e0 : vSheet z s f n = -2 := by unfold vSheet; rw [if_neg hno]
        have e1 : uSheet z s f n = z := by unfold uSheet; rw [if_neg hno]
        rw [e0, e1] at hQ
        exact hQ σ Fry.rf hc
set_option maxRecDepth 20000 in
theorem p3_lose {d : Nat} {σ : aS} {Q : aQ} {s : Int} {z : aZ} (hc : CI σ z) (hz : ZV z) (hQ : ∀ σ', Fry σ σ' → CI σ' (uLose z s) → Q (some (vi (vLose z s))) σ') : aCall 34 (d + 2) mX3_lose [vr 0, vi s] σ Q := by
  refine cl_in (own := RX3) (cc := cX3_lose) (rk := 0) (L := [some (vr 0), some (vi s)]) rfl rfl rfl rfl (by decide) (Nat.le_of_ble_eq_true rfl) ?_
  have hs4 := hc.sh
  refine wp_iload_n dX3_lose_0 rfl ?_
  refine wp_S1 dX3_lose_1 zlX3_90 (Nat.le_of_ble_eq_true rfl) ?_
  refine s3_isSheet ?_
  refine wp_ifB_ne 10 dX3_lose_4 (by decide) (fun hh4 => ?_) (fun hh4 => ?_)
  · have hsn := isSh_n hh4
    obtain ⟨a1, a2, a3, a4⟩ := hs4 s.toNat hsn.1
    have hz1 := (hz.2.2.2.2.2.2.2 s.toNat hsn.1).1
    refine wp_aload_n dX3_lose_10 rfl ?_
    refine wp_getR dX3_lose_11 flX3_31 (by omega) rfl rfl ?_
    refine wp_iload_n dX3_lose_14 rfl ?_
    refine wp_aaload dX3_lose_15 (by omega) rfl (by omega) (by omega) (by decide) ?_
    refine wp_getI dX3_lose_16 flX3_93 (by omega) (cdS (by omega)) (Or.inr rfl) ?_
    refine wp_if_eq 28 dX3_lose_19 (by decide) (fun hh19 => ?_) (fun hh19 => ?_)
    · refine wp_aload_n dX3_lose_28 rfl ?_
      refine wp_getR dX3_lose_29 flX3_31 (by omega) rfl rfl ?_
      refine wp_iload_n dX3_lose_32 rfl ?_
      refine wp_aaload dX3_lose_33 (by omega) rfl (by omega) (by omega) (by decide) ?_
      refine wp_iconst dX3_lose_34 (by decide) ?_
      refine wp_putZ dX3_lose_35 flX3_93 (by omega) (cdS (by omega)) rfl rfl rfl (by omega) ?_
      refine wp_aload_n dX3_lose_38 rfl ?_
      refine wp_getR dX3_lose_39 flX3_31 (by omega) rfl rfl ?_
      refine wp_iload_n dX3_lose_42 rfl ?_
      refine wp_aaload dX3_lose_43 (by omega) rfl (by omega) (by omega) (by decide) ?_
      refine wp_getI dX3_lose_44 flX3_100 (by omega) (cdS (by omega)) (Or.inl rfl) ?_
      refine wp_iret dX3_lose_47 (Or.inl rfl) ?_
      have e0 : vLose z s = zz z s.toNat := by unfold vLose; rw [if_pos hh4, if_neg (by omega)]
      have e1 : uLose z s = mkS z (up1 (zh z) s.toNat 0) (zf z) (zz z) (zi z) (zg z) := by unfold uLose; rw [if_pos hh4, if_neg (by omega)]
      rw [e0, e1] at hQ
      refine q_i (by rw [sI_ne (fun e => absurd e.2 (by decide))]; exact a3) (hQ _ (Fry.rf.put (by omega)) (hc.S (fun c k q _ => sI_ne (fun e => by omega)) rfl (fun u hu => ?_) (by rw [sI_ne (fun e => by omega)]; exact hc.1.2.2.2.2.2.2.2.2.2)))
      refine ⟨?_, by rw [sI_ne (fun e => absurd e.2 (by decide))]; exact (hs4 u hu).2.1, by rw [sI_ne (fun e => absurd e.2 (by decide))]; exact (hs4 u hu).2.2.1, fun i hi => by rw [sI_ne (fun e => by omega)]; exact (hs4 u hu).2.2.2 i hi⟩
      rw [sI_at]
      unfold up1
      by_cases e : u = s.toNat
      · rw [if_pos e, if_pos ⟨by omega, rfl⟩]; rfl
      · rw [if_neg e, if_neg (fun q => by omega)]; exact (hs4 u hu).1
    · refine wp_aload_n dX3_lose_22 rfl ?_
      refine wp_iconst dX3_lose_23 (by decide) ?_
      refine wp_V1 dX3_lose_24 vlX3_97 (by omega) rfl (Nat.le_of_ble_eq_true rfl) ?_
      refine s3_found (by omega) (by omega) ?_
      refine wp_iret dX3_lose_27 (Or.inl rfl) ?_
      have e0 : vLose z s = -11 := by unfold vLose; rw [if_pos hh4, if_pos (by omega)]
      have e1 : uLose z s = zFind z 1 := by unfold uLose; rw [if_pos hh4, if_pos (by omega)]
      rw [e0, e1] at hQ
      exact hQ _ (Fry.rf.put (by decide)) hc.find
  · refine wp_bipush dX3_lose_7 (by decide) ?_
    refine wp_iret dX3_lose_9 (Or.inl rfl) ?_
    have e0 : vLose z s = -2 := by unfold vLose; rw [if_neg hh4]
    have e1 : uLose z s = z := by unfold uLose; rw [if_neg hh4]
    rw [e0, e1] at hQ
    exact hQ σ Fry.rf hc
def rfC (z : aZ) (s f i v : Int) (σ σ' : aS) : Prop := (¬ (isSh s ∧ (0 ≤ f ∧ f ≤ 2)) ∧ v = -2 ∧ σ' = σ) ∨ ((isSh s ∧ (0 ≤ f ∧ f ≤ 2)) ∧ 0 < lack z s.toNat f i ∧ v = -10 - lack z s.toNat f i ∧ σ' = sI σ 0 10 (lack z s.toNat f i)) ∨ ((isSh s ∧ (0 ≤ f ∧ f ≤ 2)) ∧ lack z s.toNat f i = 0 ∧ v = 0 ∧ σ' = σ)
set_option maxRecDepth 20000 in
theorem s3_refusal {d : Nat} {σ : aS} {Q : aQ} {s f i : Int} {z : aZ} (hc : CI σ z) (hz : ZV z) (hQ : ∀ (v : Int) (σ' : aS), rfC z s f i v σ σ' → Q (some (vi v)) σ') : aCall 34 (d + 2) mX3_refusalOfItem [vr 0, vi s, vi f, vi i] σ Q := by
  refine cl_in (own := RX3) (cc := cX3_refusalOfItem) (rk := 0) (L := [some (vr 0), some (vi s), some (vi f), some (vi i)]) rfl rfl rfl rfl (by decide) (Nat.le_of_ble_eq_true rfl) ?_
  have hs4 := hc.sh
  refine wp_iload_n dX3_refusalOfItem_0 rfl ?_
  refine wp_S1 dX3_refusalOfItem_1 zlX3_90 (Nat.le_of_ble_eq_true rfl) ?_
  refine s3_isSheet ?_
  refine wp_ifB_eq 14 dX3_refusalOfItem_4 (by decide) (fun hh4 => ?_) (fun hh4 => ?_)
  · refine wp_bipush dX3_refusalOfItem_14 (by decide) ?_
    refine wp_iret dX3_refusalOfItem_16 (Or.inl rfl) ?_
    exact hQ _ _ (Or.inl ⟨fun q => by first | exact hh4 q.1 | exact hh11 q.2, rfl, rfl⟩)
  · refine wp_iload_n dX3_refusalOfItem_7 rfl ?_
    refine wp_S1 dX3_refusalOfItem_8 zlX3_198 (Nat.le_of_ble_eq_true rfl) ?_
    refine s3_isForm ?_
    refine wp_ifB_ne 17 dX3_refusalOfItem_11 (by decide) (fun hh11 => ?_) (fun hh11 => ?_)
    · have hsn := isSh_n hh4
      obtain ⟨a1, a2, a3, a4⟩ := hs4 s.toNat hsn.1
      obtain ⟨b1, b2, b3, b4, b5⟩ := hz.2.2.2.2.2.2.2 s.toNat hsn.1
      refine wp_aload_n dX3_refusalOfItem_17 rfl ?_
      refine wp_getR dX3_refusalOfItem_18 flX3_31 (by omega) rfl rfl ?_
      refine wp_iload_n dX3_refusalOfItem_21 rfl ?_
      refine wp_aaload dX3_refusalOfItem_22 (by omega) rfl (by omega) (by omega) (by decide) ?_
      refine wp_getI dX3_refusalOfItem_23 flX3_93 (by omega) (cdS (by omega)) (Or.inr rfl) ?_
      refine wp_if_eq 35 dX3_refusalOfItem_26 (by decide) (fun hh26 => ?_) (fun hh26 => ?_)
      · refine wp_aload_n dX3_refusalOfItem_35 rfl ?_
        refine wp_getR dX3_refusalOfItem_36 flX3_31 (by omega) rfl rfl ?_
        refine wp_iload_n dX3_refusalOfItem_39 rfl ?_
        refine wp_aaload dX3_refusalOfItem_40 (by omega) rfl (by omega) (by omega) (by decide) ?_
        refine wp_getI dX3_refusalOfItem_41 flX3_212 (by omega) (cdS (by omega)) (Or.inl rfl) ?_
        refine wp_iload_n dX3_refusalOfItem_44 rfl ?_
        refine wp_ic_eq 54 dX3_refusalOfItem_45 (by decide) (fun hh45 => ?_) (fun hh45 => ?_)
        · refine wp_aload_n dX3_refusalOfItem_54 rfl ?_
          refine wp_getR dX3_refusalOfItem_55 flX3_31 (by omega) rfl rfl ?_
          refine wp_iload_n dX3_refusalOfItem_58 rfl ?_
          refine wp_aaload dX3_refusalOfItem_59 (by omega) rfl (by omega) (by omega) (by decide) ?_
          refine wp_iload_n dX3_refusalOfItem_60 rfl ?_
          refine wp_iconst dX3_refusalOfItem_61 (by decide) ?_
          refine wp_V2 dX3_refusalOfItem_62 vlX3_215 (by omega) (cdS (by omega)) (Nat.le_of_ble_eq_true rfl) ?_
          refine s1_holds hsn.1 a3 b4 b5 ?_
          refine wp_ifB_eq 72 dX3_refusalOfItem_65 (by decide) (fun hh65 => ?_) (fun hh65 => ?_)
          · refine wp_aload_n dX3_refusalOfItem_72 rfl ?_
            refine wp_iconst dX3_refusalOfItem_73 (by decide) ?_
            refine wp_V1 dX3_refusalOfItem_74 vlX3_97 (by omega) rfl (Nat.le_of_ble_eq_true rfl) ?_
            refine s3_found (by omega) (by omega) ?_
            refine wp_iret dX3_refusalOfItem_77 (Or.inl rfl) ?_
            first
            | (
              have el : lack z s.toNat f i = 2 := by unfold lack; rw [if_neg (by omega), if_neg (by omega), if_neg (by omega)]
              exact hQ _ _ (Or.inr (Or.inl ⟨⟨hh4, hh11⟩, by omega, by rw [el], by rw [el]⟩)))
            | (
              have el : lack z s.toNat f i = 0 := by unfold lack; rw [if_neg (by omega), if_neg (by omega), if_pos (by omega)]
              exact hQ _ _ (Or.inr (Or.inr ⟨⟨hh4, hh11⟩, el, rfl, rfl⟩)))
          · refine wp_iconst dX3_refusalOfItem_68 (by decide) ?_
            refine wp_gotoN 77 dX3_refusalOfItem_69 (by decide) ?_
            refine wp_iret dX3_refusalOfItem_77 (Or.inl rfl) ?_
            first
            | (
              have el : lack z s.toNat f i = 2 := by unfold lack; rw [if_neg (by omega), if_neg (by omega), if_neg (by omega)]
              exact hQ _ _ (Or.inr (Or.inl ⟨⟨hh4, hh11⟩, by omega, by rw [el], by rw [el]⟩)))
            | (
              have el : lack z s.toNat f i = 0 := by unfold lack; rw [if_neg (by omega), if_neg (by omega), if_pos (by omega)]
              exact hQ _ _ (Or.inr (Or.inr ⟨⟨hh4, hh11⟩, el, rfl, rfl⟩)))
        · refine wp_aload_n dX3_refusalOfItem_48 rfl ?_
          refine wp_iconst dX3_refusalOfItem_49 (by decide) ?_
          refine wp_V1 dX3_refusalOfItem_50 vlX3_97 (by omega) rfl (Nat.le_of_ble_eq_true rfl) ?_
          refine s3_found (by omega) (by omega) ?_
          refine wp_iret dX3_refusalOfItem_53 (Or.inl rfl) ?_
          have el : lack z s.toNat f i = 3 := by unfold lack; rw [if_neg (by omega), if_pos (by omega)]
          exact hQ _ _ (Or.inr (Or.inl ⟨⟨hh4, hh11⟩, by omega, by rw [el], by rw [el]⟩))
      · refine wp_aload_n dX3_refusalOfItem_29 rfl ?_
        refine wp_iconst dX3_refusalOfItem_30 (by decide) ?_
        refine wp_V1 dX3_refusalOfItem_31 vlX3_97 (by omega) rfl (Nat.le_of_ble_eq_true rfl) ?_
        refine s3_found (by omega) (by omega) ?_
        refine wp_iret dX3_refusalOfItem_34 (Or.inl rfl) ?_
        have el : lack z s.toNat f i = 1 := by unfold lack; rw [if_pos (by omega)]
        exact hQ _ _ (Or.inr (Or.inl ⟨⟨hh4, hh11⟩, by omega, by rw [el], by rw [el]⟩))
    · refine wp_bipush dX3_refusalOfItem_14 (by decide) ?_
      refine wp_iret dX3_refusalOfItem_16 (Or.inl rfl) ?_
      exact hQ _ _ (Or.inl ⟨fun q => by first | exact hh4 q.1 | exact hh11 q.2, rfl, rfl⟩)
set_option maxRecDepth 20000 in
theorem p3_put {d : Nat} {σ : aS} {Q : aQ} {s f i v : Int} {z : aZ} (hc : CI σ z) (hz : ZV z) (hQ : ∀ σ', Fry σ σ' → CI σ' (uPut z s f i v) → Q (some (vi (vPut z s f i))) σ') : aCall 34 (d + 3) mX3_put [vr 0, vi s, vi f, vi i, vi v] σ Q := by
  refine cl_in (own := RX3) (cc := cX3_put) (rk := 0) (L := [some (vr 0), some (vi s), some (vi f), some (vi i), some (vi v), none]) rfl rfl rfl rfl (by decide) (Nat.le_of_ble_eq_true rfl) ?_
  have hs4 := hc.sh
  refine wp_aload_n dX3_put_0 rfl ?_
  refine wp_iload_n dX3_put_1 rfl ?_
  refine wp_iload_n dX3_put_2 rfl ?_
  refine wp_iload_n dX3_put_3 rfl ?_
  refine wp_V3 dX3_put_4 vlX3_205 (by omega) rfl (Nat.le_of_ble_eq_true rfl) ?_
  refine s3_refusal hc hz (fun v9 σ2 h9 => ?_)
  refine wp_ist (L' := [some (vr _), some (vi _), some (vi _), some (vi _), some (vi _), some (vi _)]) dX3_put_7 (Nat.le_of_ble_eq_true rfl) rfl ?_
  refine wp_iload dX3_put_9 rfl ?_
  refine wp_if_eq 17 dX3_put_11 (by decide) (fun hh11 => ?_) (fun hh11 => ?_)
  · rcases h9 with ⟨q1, q2, q3⟩ | ⟨q1, q2, q3, q4⟩ | ⟨q1, q2, q3, q4⟩
    · exfalso; omega
    · exfalso; omega
    · rw [q4]
      have hsn := isSh_n q1.1
      obtain ⟨a1, a2, a3, a4⟩ := hs4 s.toNat hsn.1
      obtain ⟨b1, b2, b3, b4, b5⟩ := hz.2.2.2.2.2.2.2 s.toNat hsn.1
      have hl := q2
      unfold lack at hl
      have hi : 0 ≤ i ∧ i ≤ zz z s.toNat - 1 := by
        by_cases c1 : zh z s.toNat = 0
        · rw [if_pos c1] at hl; omega
        · rw [if_neg c1] at hl
          by_cases c2 : zf z s.toNat ≠ f
          · rw [if_pos c2] at hl; omega
          · rw [if_neg c2] at hl
            by_cases c3 : 0 ≤ i ∧ i ≤ zz z s.toNat - 1
            · exact c3
            · rw [if_neg c3] at hl; omega
      refine wp_aload_n dX3_put_17 rfl ?_
      refine wp_getR dX3_put_18 flX3_31 (by omega) rfl rfl ?_
      refine wp_iload_n dX3_put_21 rfl ?_
      refine wp_aaload dX3_put_22 (by omega) rfl (by omega) (by omega) (by decide) ?_
      refine wp_iload_n dX3_put_23 rfl ?_
      refine wp_iload dX3_put_24 rfl ?_
      refine wp_V2 dX3_put_26 vlX3_208 (by omega) (cdS (by omega)) (Nat.le_of_ble_eq_true rfl) ?_
      refine s1_store hsn.1 a3 b5 a2 hi.1 (by omega) ?_
      refine wp_iconst dX3_put_29 (by decide) ?_
      refine wp_iret dX3_put_30 (Or.inl rfl) ?_
      have e0 : vPut z s f i = 1 := by unfold vPut; rw [if_pos q1, if_neg (by omega)]
      have e1 : uPut z s f i v = zKeep z s.toNat i.toNat v := by unfold uPut; rw [if_pos q1, if_neg (by omega)]
      rw [e0, e1] at hQ
      exact hQ _ (Fry.rf.put (by omega)) (hc.keep hsn.1)
      
  · refine wp_iload dX3_put_14 rfl ?_
    refine wp_iret dX3_put_16 (Or.inl rfl) ?_
    rcases h9 with ⟨q1, q2, q3⟩ | ⟨q1, q2, q3, q4⟩ | ⟨q1, q2, q3, q4⟩
    · have e0 : vPut z s f i = -2 := by unfold vPut; rw [if_neg q1]
      have e1 : uPut z s f i v = z := by unfold uPut; rw [if_neg q1]
      rw [e0, e1] at hQ
      rw [q3]
      exact q_i q2 (hQ σ Fry.rf hc)
    · have e0 : vPut z s f i = -10 - lack z s.toNat f i := by unfold vPut; rw [if_pos q1, if_pos q2]
      have e1 : uPut z s f i v = zFind z (lack z s.toNat f i) := by unfold uPut; rw [if_pos q1, if_pos q2]
      rw [e0, e1] at hQ
      rw [q4]
      exact q_i q3 (hQ _ (Fry.rf.put (by decide)) hc.find)
    · exact absurd q3 hh11
set_option maxRecDepth 20000 in
theorem p3_get {d : Nat} {σ : aS} {Q : aQ} {s f i : Int} {z : aZ} (hc : CI σ z) (hz : ZV z) (hQ : ∀ σ', Fry σ σ' → CI σ' (uGet z s f i) → Q (some (vi (vGet z s f i))) σ') : aCall 34 (d + 3) mX3_get [vr 0, vi s, vi f, vi i] σ Q := by
  refine cl_in (own := RX3) (cc := cX3_get) (rk := 0) (L := [some (vr 0), some (vi s), some (vi f), some (vi i)]) rfl rfl rfl rfl (by decide) (Nat.le_of_ble_eq_true rfl) ?_
  have hs4 := hc.sh
  refine wp_aload_n dX3_get_0 rfl ?_
  refine wp_iload_n dX3_get_1 rfl ?_
  refine wp_iload_n dX3_get_2 rfl ?_
  refine wp_iload_n dX3_get_3 rfl ?_
  refine wp_V3 dX3_get_4 vlX3_205 (by omega) rfl (Nat.le_of_ble_eq_true rfl) ?_
  refine s3_refusal hc hz (fun v9 σ2 h9 => ?_)
  refine wp_if_eq 13 dX3_get_7 (by decide) (fun hh7 => ?_) (fun hh7 => ?_)
  · rcases h9 with ⟨q1, q2, q3⟩ | ⟨q1, q2, q3, q4⟩ | ⟨q1, q2, q3, q4⟩
    · exfalso; omega
    · exfalso; omega
    · rw [q4]
      have hsn := isSh_n q1.1
      obtain ⟨a1, a2, a3, a4⟩ := hs4 s.toNat hsn.1
      obtain ⟨b1, b2, b3, b4, b5⟩ := hz.2.2.2.2.2.2.2 s.toNat hsn.1
      have hl := q2
      unfold lack at hl
      have hi : 0 ≤ i ∧ i ≤ zz z s.toNat - 1 := by
        by_cases c1 : zh z s.toNat = 0
        · rw [if_pos c1] at hl; omega
        · rw [if_neg c1] at hl
          by_cases c2 : zf z s.toNat ≠ f
          · rw [if_pos c2] at hl; omega
          · rw [if_neg c2] at hl
            by_cases c3 : 0 ≤ i ∧ i ≤ zz z s.toNat - 1
            · exact c3
            · rw [if_neg c3] at hl; omega
      refine wp_aload_n dX3_get_13 rfl ?_
      refine wp_getR dX3_get_14 flX3_31 (by omega) rfl rfl ?_
      refine wp_iload_n dX3_get_17 rfl ?_
      refine wp_aaload dX3_get_18 (by omega) rfl (by omega) (by omega) (by decide) ?_
      refine wp_getR dX3_get_19 flX3_103 (by omega) (cdS (by omega)) rfl ?_
      refine wp_iload_n dX3_get_22 rfl ?_
      refine wp_iaload dX3_get_23 (by omega) (cdT (by omega)) (by omega) (by omega) (by decide) ?_
      refine wp_iret dX3_get_24 (Or.inl rfl) ?_
      have e0 : vGet z s f i = zi z s.toNat i.toNat := by unfold vGet; rw [if_pos q1, if_neg (by omega)]
      have e1 : uGet z s f i = z := by unfold uGet; rw [if_pos q1, if_neg (by omega)]
      rw [e0, e1] at hQ
      exact q_i (a4 i.toNat (by omega)) (hQ σ Fry.rf hc)
      
  · refine wp_ldc dX3_get_10 klX3_211 ?_
    refine wp_iret dX3_get_12 (Or.inl rfl) ?_
    rcases h9 with ⟨q1, q2, q3⟩ | ⟨q1, q2, q3, q4⟩ | ⟨q1, q2, q3, q4⟩
    · have e0 : vGet z s f i = -2147483648 := by unfold vGet; rw [if_neg q1]
      have e1 : uGet z s f i = z := by unfold uGet; rw [if_neg q1]
      rw [e0, e1] at hQ
      rw [q3]
      exact hQ σ Fry.rf hc
    · have e0 : vGet z s f i = -2147483648 := by unfold vGet; rw [if_pos q1, if_pos q2]
      have e1 : uGet z s f i = zFind z (lack z s.toNat f i) := by unfold uGet; rw [if_pos q1, if_pos q2]
      rw [e0, e1] at hQ
      rw [q4]
      exact hQ _ (Fry.rf.put (by decide)) hc.find
    · exact absurd q3 hh7
