abbrev isSh (s : Int) : Prop := 0 ≤ s ∧ s ≤ 3
def zFind (z : aZ) (g : Int) : aZ := mkS z (zh z) (zf z) (zz z) (zi z) g
def nrw (f v : Int) : Int := if f = 0 then (v + 128) % 256 - 128 else if f = 1 then (v + 32768) % 65536 - 32768 else v
def lack (z : aZ) (s : Nat) (f i : Int) : Int := if zh z s = 0 then 1 else if zf z s ≠ f then 3 else if 0 ≤ i ∧ i ≤ zz z s - 1 then 0 else 2
theorem lack_in (z : aZ) (s : Nat) (f i : Int) : 0 ≤ lack z s f i ∧ lack z s f i ≤ 3 := by
  unfold lack
  repeat' split
  all_goals omega
def vSheet (z : aZ) (s f n : Int) : Int := if isSh s ∧ (0 ≤ f ∧ f ≤ 2) ∧ n ≤ 48 then (if n < 0 then -15 else n) else -2
def uSheet (z : aZ) (s f n : Int) : aZ := if isSh s ∧ (0 ≤ f ∧ f ≤ 2) ∧ n ≤ 48 then (if n < 0 then zFind z 5 else mkS z (up1 (zh z) s.toNat 1) (up1 (zf z) s.toNat f) (up1 (zz z) s.toNat n) (up2 (zi z) s.toNat (fun _ => 0)) (zg z)) else z
def vLose (z : aZ) (s : Int) : Int := if isSh s then (if zh z s.toNat = 0 then -11 else zz z s.toNat) else -2
def uLose (z : aZ) (s : Int) : aZ := if isSh s then (if zh z s.toNat = 0 then zFind z 1 else mkS z (up1 (zh z) s.toNat 0) (zf z) (zz z) (zi z) (zg z)) else z
def vPut (z : aZ) (s f i : Int) : Int := if isSh s ∧ (0 ≤ f ∧ f ≤ 2) then (if 0 < lack z s.toNat f i then -10 - lack z s.toNat f i else 1) else -2
def zKeep (z : aZ) (s i : Nat) (v : Int) : aZ := mkS z (zh z) (zf z) (zz z) (up2 (zi z) s (up1 (zi z s) i (nrw (zf z s) v))) (zg z)
def uPut (z : aZ) (s f i v : Int) : aZ := if isSh s ∧ (0 ≤ f ∧ f ≤ 2) then (if 0 < lack z s.toNat f i then zFind z (lack z s.toNat f i) else zKeep z s.toNat i.toNat v) else z
def vGet (z : aZ) (s f i : Int) : Int := if isSh s ∧ (0 ≤ f ∧ f ≤ 2) then (if 0 < lack z s.toNat f i then -2147483648 else zi z s.toNat i.toNat) else -2147483648
def uGet (z : aZ) (s f i : Int) : aZ := if isSh s ∧ (0 ≤ f ∧ f ≤ 2) then (if 0 < lack z s.toNat f i then zFind z (lack z s.toNat f i) else z) else z
set_option maxRecDepth 20000 in
theorem s4_meets {d : Nat} {σ : aS} {Q : aQ} {x : Int} (h1 : 0 ≤ x) (h2 : x ≤ 100) (hQ : Q (some (vi (-10 - x))) (sI σ 18 23 x)) : aCall 34 (d + 1) mX4_meets [vr 18, vi x] σ Q := by
  refine cl_in (own := RX4) (cc := cX4_meets) (rk := 0) (L := [some (vr 18), some (vi x)]) rfl rfl rfl rfl (by decide) (Nat.le_of_ble_eq_true rfl) ?_
  refine wp_aload_n dX4_meets_0 rfl ?_
  refine wp_iload_n dX4_meets_1 rfl ?_
  refine wp_putI dX4_meets_2 flX4_222 (by decide) rfl rfl rfl rfl ?_
  refine wp_bipush dX4_meets_5 (by decide) ?_
  refine wp_iload_n dX4_meets_7 rfl ?_
  refine wp_isubN dX4_meets_8 (by omega) ?_
  refine wp_iret dX4_meets_9 (Or.inl rfl) ?_
  exact hQ
set_option maxRecDepth 20000 in
theorem s4_isSheet {d : Nat} {σ : aS} {Q : aQ} {s : Int} {NC : Nat} (hQ : Q (some (vi (bi (isSh s)))) σ) : aCall NC (d + 2) mX4_isSheet [vi s] σ Q := by
  refine cl_in (own := RX4) (cc := cX4_isSheet) (rk := 1) (L := [some (vi s)]) rfl rfl rfl rfl (by decide) (Nat.le_of_ble_eq_true rfl) ?_
  refine wp_iload_n dX4_isSheet_0 rfl ?_
  refine wp_iconst dX4_isSheet_1 (by decide) ?_
  refine wp_iconst dX4_isSheet_2 (by decide) ?_
  refine wp_S3 dX4_isSheet_3 zlX4_65 (Nat.le_of_ble_eq_true rfl) ?_
  refine s4_in ?_
  refine wp_iret dX4_isSheet_6 (Or.inr ⟨rfl, bi_01 _⟩) ?_
  exact hQ
/-- items of a SHEET become 0 -/
def zer (σ σ' : aS) (s i : Nat) : Prop := (∀ c k, ¬ (c = 32 ∧ 48 * s ≤ k ∧ k < 48 * s + 48) → σ'.1 c k = σ.1 c k) ∧ (∀ j, j < i → σ'.1 32 (48 * s + j) = 0) ∧ σ'.2 = σ.2
set_option maxRecDepth 20000 in
theorem l4_sheet {d : Nat} {σ0 : aS} {Q : aQ} {s f n : Int} (hs : isSh s) (hQ : ∀ σ', zer σ0 σ' s.toNat 48 → Q (some (vi n)) σ') : ∀ (r i : Nat) (σ : aS), i + r = 48 → zer σ0 σ s.toNat i → Wp RX4 cX4_sheet 34 (aCall 34 d) Q 0 false 0 (fun _ => 0) 59 [some (vr 18), some (vi s), some (vi f), some (vi n), some (vi i)] [] σ := by
  intro r
  induction r with
  | zero =>
    intro i σ hi hI
    refine wp_iload dX4_sheet_59 rfl ?_
    refine wp_bipush dX4_sheet_61 (by decide) ?_
    refine wp_ic_ge 85 dX4_sheet_63 (by decide) (fun hh63 => ?_) (fun hh63 => ?_)
    · refine wp_iload_n dX4_sheet_85 rfl ?_
      refine wp_iret dX4_sheet_86 (Or.inl rfl) ?_
      have e : i = 48 := by omega
      subst e
      exact hQ σ hI
    · exact absurd hi (by omega)
  | succ r ih =>
    intro i σ hi hI
    refine wp_iload dX4_sheet_59 rfl ?_
    refine wp_bipush dX4_sheet_61 (by decide) ?_
    refine wp_ic_ge 85 dX4_sheet_63 (by decide) (fun hh63 => ?_) (fun hh63 => ?_)
    · exact absurd hi (by omega)
    · refine wp_aload_n dX4_sheet_66 rfl ?_
      refine wp_getR dX4_sheet_67 flX4_50 (by decide) rfl rfl ?_
      refine wp_bipush dX4_sheet_70 (by decide) ?_
      refine wp_iload_n dX4_sheet_72 rfl ?_
      refine wp_imulN dX4_sheet_73 (by omega) ?_
      refine wp_iload dX4_sheet_74 rfl ?_
      refine wp_iaddN dX4_sheet_76 (by omega) ?_
      refine wp_iconst dX4_sheet_77 (by decide) ?_
      refine wp_iastore dX4_sheet_78 (by decide) rfl (by omega) (by omega) (by decide) ?_
      refine wp_iincN (L' := [some (vr _), some (vi _), some (vi _), some (vi _), some (vi _)]) dX4_sheet_79 rfl (by omega) rfl ?_
      refine wp_gotoN 59 dX4_sheet_82 (by decide) ?_
      refine ih (i + 1) _ (by omega) ⟨fun c k hc => ?_, fun j hj => ?_, hI.2.2⟩
      · rw [sI_ne (fun q => hc ⟨q.1, by omega, by omega⟩)]; exact hI.1 c k hc
      · rw [sI_at]
        by_cases hj2 : 48 * s.toNat + j = (48 * s + (i : Int)).toNat
        · rw [if_pos ⟨rfl, hj2⟩]
        · rw [if_neg (fun q => hj2 q.2)]; exact hI.2.1 j (by omega)
set_option maxRecDepth 20000 in
theorem p4_sheet {d : Nat} {σ : aS} {Q : aQ} {s f n : Int} {z : aZ} (hm : MI σ z) (hz : ZV z) (hQ : ∀ σ', Frx σ σ' → MI σ' (uSheet z s f n) → Q (some (vi (vSheet z s f n))) σ') : aCall 34 (d + 3) mX4_sheet [vr 18, vi s, vi f, vi n] σ Q := by
  refine cl_in (own := RX4) (cc := cX4_sheet) (rk := 0) (L := [some (vr 18), some (vi s), some (vi f), some (vi n), none]) rfl rfl rfl rfl (by decide) (Nat.le_of_ble_eq_true rfl) ?_
  obtain ⟨h1, h2, h3, h4, h5, h6, h7, h8, h9, h10⟩ := id hm
  refine wp_iload_n dX4_sheet_0 rfl ?_
  refine wp_S1 dX4_sheet_1 zlX4_111 (Nat.le_of_ble_eq_true rfl) ?_
  refine s4_isSheet ?_
  refine wp_ifB_eq 22 dX4_sheet_4 (by decide) (fun hh4 => ?_) (fun hh4 => ?_)
  · refine wp_bipush dX4_sheet_22 (by decide) ?_
    refine wp_iret dX4_sheet_24 (Or.inl rfl) ?_
    have e0 : vSheet z s f n = -2 := by unfold vSheet; rw [if_neg (by omega)]
    have e1 : uSheet z s f n = z := by unfold uSheet; rw [if_neg (by omega)]
    rw [e0, e1] at hQ
    exact hQ σ Frx.rf hm
  · refine wp_iload_n dX4_sheet_7 rfl ?_
    refine wp_iconst dX4_sheet_8 (by decide) ?_
    refine wp_iconst dX4_sheet_9 (by decide) ?_
    refine wp_S3 dX4_sheet_10 zlX4_65 (Nat.le_of_ble_eq_true rfl) ?_
    refine s4_in ?_
    refine wp_ifB_eq 22 dX4_sheet_13 (by decide) (fun hh13 => ?_) (fun hh13 => ?_)
    · refine wp_bipush dX4_sheet_22 (by decide) ?_
      refine wp_iret dX4_sheet_24 (Or.inl rfl) ?_
      have e0 : vSheet z s f n = -2 := by unfold vSheet; rw [if_neg (by omega)]
      have e1 : uSheet z s f n = z := by unfold uSheet; rw [if_neg (by omega)]
      rw [e0, e1] at hQ
      exact hQ σ Frx.rf hm
    · refine wp_iload_n dX4_sheet_16 rfl ?_
      refine wp_bipush dX4_sheet_17 (by decide) ?_
      refine wp_ic_le 25 dX4_sheet_19 (by decide) (fun hh19 => ?_) (fun hh19 => ?_)
      · refine wp_iload_n dX4_sheet_25 rfl ?_
        refine wp_if_ge 35 dX4_sheet_26 (by decide) (fun hh26 => ?_) (fun hh26 => ?_)
        · refine wp_aload_n dX4_sheet_35 rfl ?_
          refine wp_getR dX4_sheet_36 flX4_41 (by decide) rfl rfl ?_
          refine wp_iload_n dX4_sheet_39 rfl ?_
          refine wp_iconst dX4_sheet_40 (by decide) ?_
          refine wp_bastore dX4_sheet_41 (by decide) rfl (by omega) (by omega) (by decide) (Or.inr rfl) ?_
          refine wp_aload_n dX4_sheet_42 rfl ?_
          refine wp_getR dX4_sheet_43 flX4_44 (by decide) rfl rfl ?_
          refine wp_iload_n dX4_sheet_46 rfl ?_
          refine wp_iload_n dX4_sheet_47 rfl ?_
          refine wp_iastore dX4_sheet_48 (by decide) rfl (by omega) (by omega) (by decide) ?_
          refine wp_aload_n dX4_sheet_49 rfl ?_
          refine wp_getR dX4_sheet_50 flX4_47 (by decide) rfl rfl ?_
          refine wp_iload_n dX4_sheet_53 rfl ?_
          refine wp_iload_n dX4_sheet_54 rfl ?_
          refine wp_iastore dX4_sheet_55 (by decide) rfl (by omega) (by omega) (by decide) ?_
          refine wp_iconst dX4_sheet_56 (by decide) ?_
          refine wp_ist (L' := [some (vr _), some (vi _), some (vi _), some (vi _), some (vi _)]) dX4_sheet_57 (Nat.le_of_ble_eq_true rfl) rfl ?_
          have e0 : vSheet z s f n = n := by unfold vSheet; rw [if_pos (by omega), if_neg (by omega)]
          have e1 : uSheet z s f n = mkS z (up1 (zh z) s.toNat 1) (up1 (zf z) s.toNat f) (up1 (zz z) s.toNat n) (up2 (zi z) s.toNat (fun _ => 0)) (zg z) := by unfold uSheet; rw [if_pos (by omega), if_neg (by omega)]
          rw [e0, e1] at hQ
          refine l4_sheet (by omega) (fun σ' hI => hQ σ' ⟨fun c k hc => ?_, ?_⟩ ⟨?_, fun k hk => ?_, ?_, ?_, ?_, fun k hk => ?_, ?_, fun k hk => ?_, fun t ht => ?_, ?_⟩) 48 0 _ (by omega) ⟨fun _ _ _ => rfl, fun j hj => absurd hj (Nat.not_lt_zero j), rfl⟩
          · rw [hI.1 c k (by omega)]; exact (((Frx.rf (σ := σ)).put (c := 29) (by decide)).put (c := 30) (by decide)).put (c := 31) (by decide) |>.1 c k hc
          · exact hI.2.2
          · rw [hI.1 18 1 (by omega)]; exact h1
          · rw [hI.1 19 k (by omega)]; exact h2 k hk
          · rw [hI.1 18 6 (by omega)]; exact h3
          · rw [hI.1 18 7 (by omega)]; exact h4
          · rw [hI.1 18 8 (by omega)]; exact h5
          · rw [hI.1 21 k (by omega), hI.1 22 k (by omega)]; exact h6 k hk
          · rw [hI.1 18 15 (by omega)]; exact h7
          · rw [hI.1 27 k (by omega), hI.1 28 k (by omega)]; exact h8 k hk
          · rw [hI.1 29 t (by omega), hI.1 30 t (by omega), hI.1 31 t (by omega)]
            show (if 29 = 29 ∧ t = s.toNat then (1 : Int) else σ.1 29 t) = up1 (zh z) s.toNat 1 t ∧ (if 30 = 30 ∧ t = s.toNat then f else σ.1 30 t) = up1 (zf z) s.toNat f t ∧ (if 31 = 31 ∧ t = s.toNat then n else σ.1 31 t) = up1 (zz z) s.toNat n t ∧ ∀ i, i < 48 → σ'.1 32 (48 * t + i) = up2 (zi z) s.toNat (fun _ => 0) t i
            unfold up1 up2
            by_cases hts : t = s.toNat
            · rw [if_pos ⟨rfl, hts⟩, if_pos hts, if_pos ⟨rfl, hts⟩, if_pos hts, if_pos ⟨rfl, hts⟩, if_pos hts]
              refine ⟨rfl, rfl, rfl, fun i hi => ?_⟩
              rw [if_pos hts, hts]; exact hI.2.1 i hi
            · rw [if_neg (fun q => hts q.2), if_neg hts, if_neg (fun q => hts q.2), if_neg hts, if_neg (fun q => hts q.2), if_neg hts]
              refine ⟨(h9 t ht).1, (h9 t ht).2.1, (h9 t ht).2.2.1, fun i hi => ?_⟩
              rw [if_neg hts, hI.1 32 _ (by omega)]; exact (h9 t ht).2.2.2 i hi
          · rw [hI.1 18 23 (by omega)]; exact h10
        · refine wp_aload_n dX4_sheet_29 rfl ?_
          refine wp_iconst dX4_sheet_30 (by decide) ?_
          refine wp_V1 dX4_sheet_31 vlX4_114 (by decide) rfl (Nat.le_of_ble_eq_true rfl) ?_
          refine s4_meets (by omega) (by omega) ?_
          refine wp_iret dX4_sheet_34 (Or.inl rfl) ?_
          have e0 : vSheet z s f n = -15 := by unfold vSheet; rw [if_pos (by omega), if_pos (by omega)]
          have e1 : uSheet z s f n = zFind z 5 := by unfold uSheet; rw [if_pos (by omega), if_pos (by omega)]
          rw [e0, e1] at hQ
          exact hQ _ (Frx.rf.put (by decide)) ⟨h1, h2, h3, h4, h5, h6, h7, h8, h9, rfl⟩
      · refine wp_bipush dX4_sheet_22 (by decide) ?_
        refine wp_iret dX4_sheet_24 (Or.inl rfl) ?_
        have e0 : vSheet z s f n = -2 := by unfold vSheet; rw [if_neg (by omega)]
        have e1 : uSheet z s f n = z := by unfold uSheet; rw [if_neg (by omega)]
        rw [e0, e1] at hQ
        exact hQ σ Frx.rf hm
set_option maxRecDepth 20000 in
theorem p4_lose {d : Nat} {σ : aS} {Q : aQ} {s : Int} {z : aZ} (hm : MI σ z) (hz : ZV z) (hQ : ∀ σ', Frx σ σ' → MI σ' (uLose z s) → Q (some (vi (vLose z s))) σ') : aCall 34 (d + 3) mX4_lose [vr 18, vi s] σ Q := by
  refine cl_in (own := RX4) (cc := cX4_lose) (rk := 0) (L := [some (vr 18), some (vi s)]) rfl rfl rfl rfl (by decide) (Nat.le_of_ble_eq_true rfl) ?_
  obtain ⟨h1, h2, h3, h4, h5, h6, h7, h8, h9, h10⟩ := id hm
  refine wp_iload_n dX4_lose_0 rfl ?_
  refine wp_S1 dX4_lose_1 zlX4_111 (Nat.le_of_ble_eq_true rfl) ?_
  refine s4_isSheet ?_
  refine wp_ifB_ne 10 dX4_lose_4 (by decide) (fun hh4 => ?_) (fun hh4 => ?_)
  · have hq := h9 s.toNat (by omega)
    refine wp_aload_n dX4_lose_10 rfl ?_
    refine wp_getR dX4_lose_11 flX4_41 (by decide) rfl rfl ?_
    refine wp_iload_n dX4_lose_14 rfl ?_
    refine wp_baload dX4_lose_15 (by decide) rfl (by omega) (by omega) (by decide) ?_
    refine wp_if_ne 25 dX4_lose_16 (by decide) (fun hh16 => ?_) (fun hh16 => ?_)
    · refine wp_aload_n dX4_lose_25 rfl ?_
      refine wp_getR dX4_lose_26 flX4_41 (by decide) rfl rfl ?_
      refine wp_iload_n dX4_lose_29 rfl ?_
      refine wp_iconst dX4_lose_30 (by decide) ?_
      refine wp_bastore dX4_lose_31 (by decide) rfl (by omega) (by omega) (by decide) (Or.inl rfl) ?_
      refine wp_aload_n dX4_lose_32 rfl ?_
      refine wp_getR dX4_lose_33 flX4_47 (by decide) rfl rfl ?_
      refine wp_iload_n dX4_lose_36 rfl ?_
      refine wp_iaload dX4_lose_37 (by decide) rfl (by omega) (by omega) (by decide) ?_
      rw [sI_ne (fun q => absurd q.1 (by decide))]
      refine wp_iret dX4_lose_38 (Or.inl rfl) ?_
      have e0 : vLose z s = zz z s.toNat := by unfold vLose; rw [if_pos (by omega), if_neg (by omega)]
      have e1 : uLose z s = mkS z (up1 (zh z) s.toNat 0) (zf z) (zz z) (zi z) (zg z) := by unfold uLose; rw [if_pos (by omega), if_neg (by omega)]
      rw [e0, e1] at hQ
      refine q_i hq.2.2.1 (hQ _ (Frx.rf.put (by decide)) ⟨h1, h2, h3, h4, h5, h6, h7, h8, fun t ht => ⟨?_, (h9 t ht).2⟩, h10⟩)
      show (if 29 = 29 ∧ t = s.toNat then (0 : Int) else σ.1 29 t) = up1 (zh z) s.toNat 0 t
      unfold up1
      by_cases hts : t = s.toNat
      · rw [if_pos ⟨rfl, hts⟩, if_pos hts]
      · rw [if_neg (fun q => hts q.2), if_neg hts]; exact (h9 t ht).1
    · refine wp_aload_n dX4_lose_19 rfl ?_
      refine wp_iconst dX4_lose_20 (by decide) ?_
      refine wp_V1 dX4_lose_21 vlX4_114 (by decide) rfl (Nat.le_of_ble_eq_true rfl) ?_
      refine s4_meets (by omega) (by omega) ?_
      refine wp_iret dX4_lose_24 (Or.inl rfl) ?_
      have e0 : vLose z s = -11 := by unfold vLose; rw [if_pos (by omega), if_pos (by omega)]
      have e1 : uLose z s = zFind z 1 := by unfold uLose; rw [if_pos (by omega), if_pos (by omega)]
      rw [e0, e1] at hQ
      exact hQ _ (Frx.rf.put (by decide)) ⟨h1, h2, h3, h4, h5, h6, h7, h8, h9, rfl⟩
  · refine wp_bipush dX4_lose_7 (by decide) ?_
    refine wp_iret dX4_lose_9 (Or.inl rfl) ?_
    have e0 : vLose z s = -2 := by unfold vLose; rw [if_neg (by omega)]
    have e1 : uLose z s = z := by unfold uLose; rw [if_neg (by omega)]
    rw [e0, e1] at hQ
    exact hQ σ Frx.rf hm
set_option maxRecDepth 20000 in
theorem s4_lacks {d : Nat} {σ : aS} {Q : aQ} {s f i : Int} {z : aZ} (hm : MI σ z) (hz : ZV z) (hs : isSh s) (hQ : Q (some (vi (lack z s.toNat f i))) σ) : aCall 34 (d + 2) mX4_lacks [vr 18, vi s, vi f, vi i] σ Q := by
  refine cl_in (own := RX4) (cc := cX4_lacks) (rk := 0) (L := [some (vr 18), some (vi s), some (vi f), some (vi i)]) rfl rfl rfl rfl (by decide) (Nat.le_of_ble_eq_true rfl) ?_
  obtain ⟨h1, h2, h3, h4, h5, h6, h7, h8, h9, h10⟩ := id hm
  have hq := h9 s.toNat (by omega)
  have hv := hz.2.2.2.2.2.2.2 s.toNat (by omega)
  refine wp_aload_n dX4_lacks_0 rfl ?_
  refine wp_getR dX4_lacks_1 flX4_41 (by decide) rfl rfl ?_
  refine wp_iload_n dX4_lacks_4 rfl ?_
  refine wp_baload dX4_lacks_5 (by decide) rfl (by omega) (by omega) (by decide) ?_
  refine wp_if_ne 13 dX4_lacks_6 (by decide) (fun hh6 => ?_) (fun hh6 => ?_)
  · refine wp_aload_n dX4_lacks_13 rfl ?_
    refine wp_getR dX4_lacks_14 flX4_44 (by decide) rfl rfl ?_
    refine wp_iload_n dX4_lacks_17 rfl ?_
    refine wp_iaload dX4_lacks_18 (by decide) rfl (by omega) (by omega) (by decide) ?_
    refine wp_iload_n dX4_lacks_19 rfl ?_
    refine wp_ic_eq 27 dX4_lacks_20 (by decide) (fun hh20 => ?_) (fun hh20 => ?_)
    · refine wp_iload_n dX4_lacks_27 rfl ?_
      refine wp_iconst dX4_lacks_28 (by decide) ?_
      refine wp_aload_n dX4_lacks_29 rfl ?_
      refine wp_getR dX4_lacks_30 flX4_47 (by decide) rfl rfl ?_
      refine wp_iload_n dX4_lacks_33 rfl ?_
      refine wp_iaload dX4_lacks_34 (by decide) rfl (by omega) (by omega) (by decide) ?_
      refine wp_iconst dX4_lacks_35 (by decide) ?_
      refine wp_isubN dX4_lacks_36 (by omega) ?_
      refine wp_S3 dX4_lacks_37 zlX4_65 (Nat.le_of_ble_eq_true rfl) ?_
      refine s4_in ?_
      refine wp_ifB_eq 47 dX4_lacks_40 (by decide) (fun hh40 => ?_) (fun hh40 => ?_)
      · refine wp_iconst dX4_lacks_47 (by decide) ?_
        refine wp_iret dX4_lacks_48 (Or.inl rfl) ?_
        exact q_i (by unfold lack; rw [← hq.1, ← hq.2.1, ← hq.2.2.1]; repeat (first | rw [if_pos (by omega)] | rw [if_neg (by omega)])) hQ
      · refine wp_iconst dX4_lacks_43 (by decide) ?_
        refine wp_gotoN 48 dX4_lacks_44 (by decide) ?_
        refine wp_iret dX4_lacks_48 (Or.inl rfl) ?_
        exact q_i (by unfold lack; rw [← hq.1, ← hq.2.1, ← hq.2.2.1]; repeat (first | rw [if_pos (by omega)] | rw [if_neg (by omega)])) hQ
    · refine wp_iconst dX4_lacks_23 (by decide) ?_
      refine wp_gotoN 48 dX4_lacks_24 (by decide) ?_
      refine wp_iret dX4_lacks_48 (Or.inl rfl) ?_
      exact q_i (by unfold lack; rw [← hq.1, ← hq.2.1, ← hq.2.2.1]; repeat (first | rw [if_pos (by omega)] | rw [if_neg (by omega)])) hQ
  · refine wp_iconst dX4_lacks_9 (by decide) ?_
    refine wp_gotoN 48 dX4_lacks_10 (by decide) ?_
    refine wp_iret dX4_lacks_48 (Or.inl rfl) ?_
    exact q_i (by unfold lack; rw [← hq.1, ← hq.2.1, ← hq.2.2.1]; repeat (first | rw [if_pos (by omega)] | rw [if_neg (by omega)])) hQ
set_option maxRecDepth 20000 in
theorem s4_keep {d : Nat} {σ : aS} {Q : aQ} {s i v : Int} {z : aZ} (hm : MI σ z) (hz : ZV z) (hs : isSh s) (hi : 0 ≤ i ∧ i < 48) (hQ : Q none (sI σ 32 (48 * s + i).toNat (nrw (zf z s.toNat) v))) : aCall 34 (d + 1) mX4_keep [vr 18, vi s, vi i, vi v] σ Q := by
  refine cl_in (own := RX4) (cc := cX4_keep) (rk := 3) (L := [some (vr 18), some (vi s), some (vi i), some (vi v)]) rfl rfl rfl rfl (by decide) (Nat.le_of_ble_eq_true rfl) ?_
  obtain ⟨h1, h2, h3, h4, h5, h6, h7, h8, h9, h10⟩ := id hm
  have hq := h9 s.toNat (by omega)
  refine wp_aload_n dX4_keep_0 rfl ?_
  refine wp_getR dX4_keep_1 flX4_50 (by decide) rfl rfl ?_
  refine wp_bipush dX4_keep_4 (by decide) ?_
  refine wp_iload_n dX4_keep_6 rfl ?_
  refine wp_imulN dX4_keep_7 (by omega) ?_
  refine wp_iload_n dX4_keep_8 rfl ?_
  refine wp_iaddN dX4_keep_9 (by omega) ?_
  refine wp_aload_n dX4_keep_10 rfl ?_
  refine wp_getR dX4_keep_11 flX4_44 (by decide) rfl rfl ?_
  refine wp_iload_n dX4_keep_14 rfl ?_
  refine wp_iaload dX4_keep_15 (by decide) rfl (by omega) (by omega) (by decide) ?_
  refine wp_if_ne 24 dX4_keep_16 (by decide) (fun hh16 => ?_) (fun hh16 => ?_)
  · refine wp_aload_n dX4_keep_24 rfl ?_
    refine wp_getR dX4_keep_25 flX4_44 (by decide) rfl rfl ?_
    refine wp_iload_n dX4_keep_28 rfl ?_
    refine wp_iaload dX4_keep_29 (by decide) rfl (by omega) (by omega) (by decide) ?_
    refine wp_iconst dX4_keep_30 (by decide) ?_
    refine wp_ic_ne 39 dX4_keep_31 (by decide) (fun hh31 => ?_) (fun hh31 => ?_)
    · refine wp_iload_n dX4_keep_39 rfl ?_
      refine wp_iastore dX4_keep_40 (by decide) rfl (by omega) (by omega) (by decide) ?_
      refine wp_vret dX4_keep_41 rfl ?_
      unfold nrw at hQ
      rw [← hq.2.1] at hQ
      first | (rw [if_pos (by omega)] at hQ; exact hQ) | (rw [if_neg (by omega), if_pos (by omega)] at hQ; exact hQ) | (rw [if_neg (by omega), if_neg (by omega)] at hQ; exact hQ)
    · refine wp_iload_n dX4_keep_34 rfl ?_
      refine wp_i2s dX4_keep_35 ?_
      refine wp_gotoN 40 dX4_keep_36 (by decide) ?_
      refine wp_iastore dX4_keep_40 (by decide) rfl (by omega) (by omega) (by decide) ?_
      refine wp_vret dX4_keep_41 rfl ?_
      unfold nrw at hQ
      rw [← hq.2.1] at hQ
      first | (rw [if_pos (by omega)] at hQ; exact hQ) | (rw [if_neg (by omega), if_pos (by omega)] at hQ; exact hQ) | (rw [if_neg (by omega), if_neg (by omega)] at hQ; exact hQ)
  · refine wp_iload_n dX4_keep_19 rfl ?_
    refine wp_i2b dX4_keep_20 ?_
    refine wp_gotoN 40 dX4_keep_21 (by decide) ?_
    refine wp_iastore dX4_keep_40 (by decide) rfl (by omega) (by omega) (by decide) ?_
    refine wp_vret dX4_keep_41 rfl ?_
    unfold nrw at hQ
    rw [← hq.2.1] at hQ
    first | (rw [if_pos (by omega)] at hQ; exact hQ) | (rw [if_neg (by omega), if_pos (by omega)] at hQ; exact hQ) | (rw [if_neg (by omega), if_neg (by omega)] at hQ; exact hQ)
/-- an item is kept -/
theorem MI_keep {σ : aS} {z : aZ} {s i v : Int} (hm : MI σ z) (hs : isSh s) (hi : 0 ≤ i ∧ i < 48) : MI (sI σ 32 (48 * s + i).toNat (nrw (zf z s.toNat) v)) (zKeep z s.toNat i.toNat v) := by
  obtain ⟨h1, h2, h3, h4, h5, h6, h7, h8, h9, h10⟩ := hm
  refine ⟨h1, h2, h3, h4, h5, h6, h7, h8, fun t ht => ⟨(h9 t ht).1, (h9 t ht).2.1, (h9 t ht).2.2.1, fun j hj => ?_⟩, h10⟩
  show (sI σ 32 (48 * s + i).toNat (nrw (zf z s.toNat) v)).1 32 (48 * t + j) = up2 (zi z) s.toNat (up1 (zi z s.toNat) i.toNat (nrw (zf z s.toNat) v)) t j
  rw [sI_at]
  unfold up2 up1
  by_cases hts : t = s.toNat
  · by_cases hji : j = i.toNat
    · rw [if_pos ⟨rfl, by omega⟩, if_pos hts, if_pos hji]
    · rw [if_neg (fun q => by omega), if_pos hts, if_neg hji, hts]; exact (h9 s.toNat (by omega)).2.2.2 j hj
  · rw [if_neg (fun q => by omega), if_neg hts]; exact (h9 t ht).2.2.2 j hj
set_option maxRecDepth 20000 in
theorem p4_put {d : Nat} {σ : aS} {Q : aQ} {s f i v : Int} {z : aZ} (hm : MI σ z) (hz : ZV z) (hQ : ∀ σ', Frx σ σ' → MI σ' (uPut z s f i v) → Q (some (vi (vPut z s f i))) σ') : aCall 34 (d + 3) mX4_put [vr 18, vi s, vi f, vi i, vi v] σ Q := by
  refine cl_in (own := RX4) (cc := cX4_put) (rk := 0) (L := [some (vr 18), some (vi s), some (vi f), some (vi i), some (vi v), none]) rfl rfl rfl rfl (by decide) (Nat.le_of_ble_eq_true rfl) ?_
  obtain ⟨h1, h2, h3, h4, h5, h6, h7, h8, h9, h10⟩ := id hm
  refine wp_iload_n dX4_put_0 rfl ?_
  refine wp_S1 dX4_put_1 zlX4_111 (Nat.le_of_ble_eq_true rfl) ?_
  refine s4_isSheet ?_
  refine wp_ifB_eq 16 dX4_put_4 (by decide) (fun hh4 => ?_) (fun hh4 => ?_)
  · refine wp_bipush dX4_put_16 (by decide) ?_
    refine wp_iret dX4_put_18 (Or.inl rfl) ?_
    have e0 : vPut z s f i = -2 := by unfold vPut; rw [if_neg (by omega)]
    have e1 : uPut z s f i v = z := by unfold uPut; rw [if_neg (by omega)]
    rw [e0, e1] at hQ
    exact hQ σ Frx.rf hm
  · refine wp_iload_n dX4_put_7 rfl ?_
    refine wp_iconst dX4_put_8 (by decide) ?_
    refine wp_iconst dX4_put_9 (by decide) ?_
    refine wp_S3 dX4_put_10 zlX4_65 (Nat.le_of_ble_eq_true rfl) ?_
    refine s4_in ?_
    refine wp_ifB_ne 19 dX4_put_13 (by decide) (fun hh13 => ?_) (fun hh13 => ?_)
    · have hlk := lack_in z s.toNat f i
      refine wp_aload_n dX4_put_19 rfl ?_
      refine wp_iload_n dX4_put_20 rfl ?_
      refine wp_iload_n dX4_put_21 rfl ?_
      refine wp_iload_n dX4_put_22 rfl ?_
      refine wp_V3 dX4_put_23 vlX4_225 (by decide) rfl (Nat.le_of_ble_eq_true rfl) ?_
      refine s4_lacks hm hz (by omega) ?_
      refine wp_ist (L' := [some (vr _), some (vi _), some (vi _), some (vi _), some (vi _), some (vi _)]) dX4_put_26 (Nat.le_of_ble_eq_true rfl) rfl ?_
      refine wp_iload dX4_put_28 rfl ?_
      refine wp_if_le 40 dX4_put_30 (by decide) (fun hh30 => ?_) (fun hh30 => ?_)
      · have hv := hz.2.2.2.2.2.2.2 s.toNat (by omega)
        have hi : 0 ≤ i ∧ i < 48 := by
          have e : lack z s.toNat f i = 0 := by omega
          unfold lack at e
          split at e
          · omega
          · split at e
            · omega
            · split at e <;> omega
        refine wp_aload_n dX4_put_40 rfl ?_
        refine wp_iload_n dX4_put_41 rfl ?_
        refine wp_iload_n dX4_put_42 rfl ?_
        refine wp_iload dX4_put_43 rfl ?_
        refine wp_V3 dX4_put_45 vlX4_228 (by decide) rfl (Nat.le_of_ble_eq_true rfl) ?_
        refine s4_keep hm hz (by omega) (by omega) ?_
        refine wp_iconst dX4_put_48 (by decide) ?_
        refine wp_iret dX4_put_49 (Or.inl rfl) ?_
        have e0 : vPut z s f i = 1 := by unfold vPut; rw [if_pos (by omega), if_neg (by omega)]
        have e1 : uPut z s f i v = zKeep z s.toNat i.toNat v := by unfold uPut; rw [if_pos (by omega), if_neg (by omega)]
        rw [e0, e1] at hQ
        exact hQ _ (Frx.rf.put (by decide)) (MI_keep hm (by omega) hi)
      · refine wp_aload_n dX4_put_33 rfl ?_
        refine wp_iload dX4_put_34 rfl ?_
        refine wp_V1 dX4_put_36 vlX4_114 (by decide) rfl (Nat.le_of_ble_eq_true rfl) ?_
        refine s4_meets (by omega) (by omega) ?_
        refine wp_iret dX4_put_39 (Or.inl rfl) ?_
        have e0 : vPut z s f i = -10 - lack z s.toNat f i := by unfold vPut; rw [if_pos (by omega), if_pos (by omega)]
        have e1 : uPut z s f i v = zFind z (lack z s.toNat f i) := by unfold uPut; rw [if_pos (by omega), if_pos (by omega)]
        rw [e0, e1] at hQ
        exact hQ _ (Frx.rf.put (by decide)) ⟨h1, h2, h3, h4, h5, h6, h7, h8, h9, rfl⟩
    · refine wp_bipush dX4_put_16 (by decide) ?_
      refine wp_iret dX4_put_18 (Or.inl rfl) ?_
      have e0 : vPut z s f i = -2 := by unfold vPut; rw [if_neg (by omega)]
      have e1 : uPut z s f i v = z := by unfold uPut; rw [if_neg (by omega)]
      rw [e0, e1] at hQ
      exact hQ σ Frx.rf hm
set_option maxRecDepth 20000 in
theorem p4_get {d : Nat} {σ : aS} {Q : aQ} {s f i : Int} {z : aZ} (hm : MI σ z) (hz : ZV z) (hQ : ∀ σ', Frx σ σ' → MI σ' (uGet z s f i) → Q (some (vi (vGet z s f i))) σ') : aCall 34 (d + 3) mX4_get [vr 18, vi s, vi f, vi i] σ Q := by
  refine cl_in (own := RX4) (cc := cX4_get) (rk := 0) (L := [some (vr 18), some (vi s), some (vi f), some (vi i), none]) rfl rfl rfl rfl (by decide) (Nat.le_of_ble_eq_true rfl) ?_
  obtain ⟨h1, h2, h3, h4, h5, h6, h7, h8, h9, h10⟩ := id hm
  refine wp_iload_n dX4_get_0 rfl ?_
  refine wp_S1 dX4_get_1 zlX4_111 (Nat.le_of_ble_eq_true rfl) ?_
  refine s4_isSheet ?_
  refine wp_ifB_eq 16 dX4_get_4 (by decide) (fun hh4 => ?_) (fun hh4 => ?_)
  · refine wp_ldc dX4_get_16 klX4_232 ?_
    refine wp_iret dX4_get_18 (Or.inl rfl) ?_
    have e0 : vGet z s f i = -2147483648 := by unfold vGet; rw [if_neg (by omega)]
    have e1 : uGet z s f i = z := by unfold uGet; rw [if_neg (by omega)]
    rw [e0, e1] at hQ
    exact hQ σ Frx.rf hm
  · refine wp_iload_n dX4_get_7 rfl ?_
    refine wp_iconst dX4_get_8 (by decide) ?_
    refine wp_iconst dX4_get_9 (by decide) ?_
    refine wp_S3 dX4_get_10 zlX4_65 (Nat.le_of_ble_eq_true rfl) ?_
    refine s4_in ?_
    refine wp_ifB_ne 19 dX4_get_13 (by decide) (fun hh13 => ?_) (fun hh13 => ?_)
    · have hlk := lack_in z s.toNat f i
      refine wp_aload_n dX4_get_19 rfl ?_
      refine wp_iload_n dX4_get_20 rfl ?_
      refine wp_iload_n dX4_get_21 rfl ?_
      refine wp_iload_n dX4_get_22 rfl ?_
      refine wp_V3 dX4_get_23 vlX4_225 (by decide) rfl (Nat.le_of_ble_eq_true rfl) ?_
      refine s4_lacks hm hz (by omega) ?_
      refine wp_ist (L' := [some (vr _), some (vi _), some (vi _), some (vi _), some (vi _)]) dX4_get_26 (Nat.le_of_ble_eq_true rfl) rfl ?_
      refine wp_iload dX4_get_28 rfl ?_
      refine wp_if_le 42 dX4_get_30 (by decide) (fun hh30 => ?_) (fun hh30 => ?_)
      · have hv := hz.2.2.2.2.2.2.2 s.toNat (by omega)
        have hi : 0 ≤ i ∧ i < 48 := by
          have e : lack z s.toNat f i = 0 := by omega
          unfold lack at e
          split at e
          · omega
          · split at e
            · omega
            · split at e <;> omega
        refine wp_aload_n dX4_get_42 rfl ?_
        refine wp_getR dX4_get_43 flX4_50 (by decide) rfl rfl ?_
        refine wp_bipush dX4_get_46 (by decide) ?_
        refine wp_iload_n dX4_get_48 rfl ?_
        refine wp_imulN dX4_get_49 (by omega) ?_
        refine wp_iload_n dX4_get_50 rfl ?_
        refine wp_iaddN dX4_get_51 (by omega) ?_
        refine wp_iaload dX4_get_52 (by decide) rfl (by omega) (by omega) (by decide) ?_
        refine wp_iret dX4_get_53 (Or.inl rfl) ?_
        have e0 : vGet z s f i = zi z s.toNat i.toNat := by unfold vGet; rw [if_pos (by omega), if_neg (by omega)]
        have e1 : uGet z s f i = z := by unfold uGet; rw [if_pos (by omega), if_neg (by omega)]
        rw [e0, e1] at hQ
        refine q_i ?_ (hQ _ Frx.rf hm)
        rw [show (48 * s + i).toNat = 48 * s.toNat + i.toNat by omega]
        exact (h9 s.toNat (by omega)).2.2.2 i.toNat (by omega)
      · refine wp_aload_n dX4_get_33 rfl ?_
        refine wp_iload dX4_get_34 rfl ?_
        refine wp_putI dX4_get_36 flX4_222 (by decide) rfl rfl rfl rfl ?_
        refine wp_ldc dX4_get_39 klX4_232 ?_
        refine wp_iret dX4_get_41 (Or.inl rfl) ?_
        have e0 : vGet z s f i = -2147483648 := by unfold vGet; rw [if_pos (by omega), if_pos (by omega)]
        have e1 : uGet z s f i = zFind z (lack z s.toNat f i) := by unfold uGet; rw [if_pos (by omega), if_pos (by omega)]
        rw [e0, e1] at hQ
        exact hQ _ (Frx.rf.put (by decide)) ⟨h1, h2, h3, h4, h5, h6, h7, h8, h9, rfl⟩
    · refine wp_ldc dX4_get_16 klX4_232 ?_
      refine wp_iret dX4_get_18 (Or.inl rfl) ?_
      have e0 : vGet z s f i = -2147483648 := by unfold vGet; rw [if_neg (by omega)]
      have e1 : uGet z s f i = z := by unfold uGet; rw [if_neg (by omega)]
      rw [e0, e1] at hQ
      exact hQ σ Frx.rf hm
