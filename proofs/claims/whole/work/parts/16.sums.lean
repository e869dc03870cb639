/-- how many of 0 .. k - 1 -/
noncomputable def cnt (p : Nat → Prop) : Nat → Int
  | 0 => 0
  | k + 1 => cnt p k + bi (p k)
theorem cnt_in (p : Nat → Prop) : ∀ k, 0 ≤ cnt p k ∧ cnt p k ≤ k := by
  intro k
  induction k with
  | zero => unfold cnt; omega
  | succ k ih => unfold cnt; have := bi_10 (p k); omega
theorem cnt_t {p : Nat → Prop} {k : Nat} (h : p k) : cnt p (k + 1) = cnt p k + 1 := by show cnt p k + bi (p k) = _; rw [bi_t h]
theorem cnt_f {p : Nat → Prop} {k : Nat} (h : ¬ p k) : cnt p (k + 1) = cnt p k := by show cnt p k + bi (p k) = _; rw [bi_f h]; omega
theorem cnt_c {p q : Nat → Prop} : ∀ k, (∀ i, i < k → (p i ↔ q i)) → cnt p k = cnt q k := by
  intro k
  induction k with
  | zero => intro _; rfl
  | succ k ih => intro h; show cnt p k + bi (p k) = cnt q k + bi (q k); rw [ih (fun i hi => h i (by omega)), bi_c (h k (by omega))]
theorem gk_n {σ : aS} {k : Nat} (h1 : (k : Int) < σ.1 18 4) : ggk (gOf σ) k = σ.1 20 (k : Int).toNat := gk_of (by omega) h1
set_option maxRecDepth 20000 in
theorem l4_springs {d : Nat} {σ : aS} {Q : aQ} (hg : GV (gOf σ)) : ∀ (r : Nat) (k : Nat) (b : Int), k + r = (σ.1 18 4).toNat → b = cnt (fun c => ggk (gOf σ) c = 3) k → Q (some (vi (cnt (fun c => ggk (gOf σ) c = 3) (σ.1 18 4).toNat))) σ → Wp RX4 cX4_springs 34 (aCall 34 (d)) Q 0 false 0 (fun _ => 0) 4 [some (vr 18), some (vi b), some (vi k)] [] σ := by
  intro r
  induction r with
  | zero =>
    intro k b hk hb hQ
    have hn := GVn hg
    refine wp_iload_n dX4_springs_4 rfl ?_
    refine wp_aload_n dX4_springs_5 rfl ?_
    refine wp_getI dX4_springs_6 flX4_72 (by decide) rfl (Or.inl rfl) ?_
    refine wp_ic_ge 36 dX4_springs_9 (by decide) (fun hh9 => ?_) (fun hh9 => ?_)
    · refine wp_iload_n dX4_springs_36 rfl ?_
      refine wp_iret dX4_springs_37 (Or.inl rfl) ?_
      have e : k = (σ.1 18 4).toNat := by omega
      subst e
      rw [hb]
      exact hQ
    · exact absurd hk (by omega)
  | succ r ih =>
    intro k b hk hb hQ
    have hn := GVn hg
    have hci := cnt_in (fun c => ggk (gOf σ) c = 3) k
    refine wp_iload_n dX4_springs_4 rfl ?_
    refine wp_aload_n dX4_springs_5 rfl ?_
    refine wp_getI dX4_springs_6 flX4_72 (by decide) rfl (Or.inl rfl) ?_
    refine wp_ic_ge 36 dX4_springs_9 (by decide) (fun hh9 => ?_) (fun hh9 => ?_)
    · exact absurd hk (by omega)
    · refine wp_iload_n dX4_springs_12 rfl ?_
      refine wp_aload_n dX4_springs_13 rfl ?_
      refine wp_getR dX4_springs_14 flX4_13 (by decide) rfl rfl ?_
      refine wp_iload_n dX4_springs_17 rfl ?_
      refine wp_iaload dX4_springs_18 (by decide) rfl (by omega) (by omega) (by decide) ?_
      refine wp_iconst dX4_springs_19 (by decide) ?_
      refine wp_ic_ne 27 dX4_springs_20 (by decide) (fun hh20 => ?_) (fun hh20 => ?_)
      · refine wp_iconst dX4_springs_27 (by decide) ?_
        refine wp_iaddN dX4_springs_28 (by omega) ?_
        refine wp_istN (L' := [some (vr _), some (vi _), some (vi _)]) dX4_springs_29 (Nat.le_of_ble_eq_true rfl) rfl ?_
        refine wp_iincN (L' := [some (vr _), some (vi _), some (vi _)]) dX4_springs_30 rfl (by omega) rfl ?_
        refine wp_gotoN 4 dX4_springs_33 (by decide) ?_
        exact ih (k + 1) _ (by omega) (by rw [cnt_f (fun q => hh20 (by rw [← gk_n (by omega)]; exact q))]; omega) hQ
      · refine wp_iconst dX4_springs_23 (by decide) ?_
        refine wp_gotoN 28 dX4_springs_24 (by decide) ?_
        refine wp_iaddN dX4_springs_28 (by omega) ?_
        refine wp_istN (L' := [some (vr _), some (vi _), some (vi _)]) dX4_springs_29 (Nat.le_of_ble_eq_true rfl) rfl ?_
        refine wp_iincN (L' := [some (vr _), some (vi _), some (vi _)]) dX4_springs_30 rfl (by omega) rfl ?_
        refine wp_gotoN 4 dX4_springs_33 (by decide) ?_
        exact ih (k + 1) _ (by omega) (by rw [cnt_t (show ggk (gOf σ) k = 3 by rw [gk_n (by omega)]; omega)]; omega) hQ
set_option maxRecDepth 20000 in
theorem s4_springs {d : Nat} {σ : aS} {Q : aQ} (hg : GV (gOf σ)) (hQ : Q (some (vi (cnt (fun c => ggk (gOf σ) c = 3) (σ.1 18 4).toNat))) σ) : aCall 34 (d + 1) mX4_springs [vr 18] σ Q := by
  refine cl_in (own := RX4) (cc := cX4_springs) (rk := 0) (L := [some (vr 18), none, none]) rfl rfl rfl rfl (by decide) (Nat.le_of_ble_eq_true rfl) ?_
  have hn := GVn hg
  refine wp_iconst dX4_springs_0 (by decide) ?_
  refine wp_istN (L' := [some (vr _), some (vi _), none]) dX4_springs_1 (Nat.le_of_ble_eq_true rfl) rfl ?_
  refine wp_iconst dX4_springs_2 (by decide) ?_
  refine wp_istN (L' := [some (vr _), some (vi _), some (vi _)]) dX4_springs_3 (Nat.le_of_ble_eq_true rfl) rfl ?_
  exact l4_springs hg (σ.1 18 4).toNat 0 _ (by omega) rfl hQ
set_option maxRecDepth 20000 in
theorem l4_joined {d : Nat} {z : aZ} {σ : aS} {Q : aQ} (hr : Rd σ z) : ∀ (r : Nat) (k : Nat) (b : Int), k + r = (ggn (Gz z)).toNat → b = cnt (fun c => ggk (Gz z) c ≠ ggk (Gz z) (ggn (Gz z) - 1 - c)) k → Q (some (vi (cnt (fun c => ggk (Gz z) c ≠ ggk (Gz z) (ggn (Gz z) - 1 - c)) (ggn (Gz z)).toNat))) σ → Wp RX4 cX4_joinedNow 34 (aCall 34 (d)) Q 0 false 0 (fun _ => 0) 8 [some (vr 18), some (vi b), some (vi k)] [] σ := by
  intro r
  induction r with
  | zero =>
    intro k b hk hb hQ
    have hn := GVn hr.gv
    have hrn := hr.n
    refine wp_iload_n dX4_joinedNow_8 rfl ?_
    refine wp_aload_n dX4_joinedNow_9 rfl ?_
    refine wp_getI dX4_joinedNow_10 flX4_72 (by decide) rfl (Or.inl rfl) ?_
    refine wp_ic_ge 52 dX4_joinedNow_13 (by decide) (fun hh13 => ?_) (fun hh13 => ?_)
    · refine wp_iload_n dX4_joinedNow_52 rfl ?_
      refine wp_iret dX4_joinedNow_53 (Or.inl rfl) ?_
      have e : k = (ggn (Gz z)).toNat := by omega
      subst e
      rw [hb]
      exact hQ
    · exact absurd hk (by omega)
  | succ r ih =>
    intro k b hk hb hQ
    have hn := GVn hr.gv
    have hrn := hr.n
    have hci := cnt_in (fun c => ggk (Gz z) c ≠ ggk (Gz z) (ggn (Gz z) - 1 - c)) k
    refine wp_iload_n dX4_joinedNow_8 rfl ?_
    refine wp_aload_n dX4_joinedNow_9 rfl ?_
    refine wp_getI dX4_joinedNow_10 flX4_72 (by decide) rfl (Or.inl rfl) ?_
    refine wp_ic_ge 52 dX4_joinedNow_13 (by decide) (fun hh13 => ?_) (fun hh13 => ?_)
    · exact absurd hk (by omega)
    · have e1 := gk_n (σ := σ) (k := k) (by omega)
      have e2 := gk_of (σ := σ) (c := σ.1 18 4 - 1 - k) (by omega) (by omega)
      have eg := hr.2.2.1
      have en := hr.n
      rw [eg] at e1 e2
      rw [en] at e2
      refine wp_iload_n dX4_joinedNow_16 rfl ?_
      refine wp_aload_n dX4_joinedNow_17 rfl ?_
      refine wp_getR dX4_joinedNow_18 flX4_13 (by decide) rfl rfl ?_
      refine wp_iload_n dX4_joinedNow_21 rfl ?_
      refine wp_iaload dX4_joinedNow_22 (by decide) rfl (by omega) (by omega) (by decide) ?_
      refine wp_aload_n dX4_joinedNow_23 rfl ?_
      refine wp_getR dX4_joinedNow_24 flX4_13 (by decide) rfl rfl ?_
      refine wp_aload_n dX4_joinedNow_27 rfl ?_
      refine wp_getI dX4_joinedNow_28 flX4_72 (by decide) rfl (Or.inl rfl) ?_
      refine wp_iconst dX4_joinedNow_31 (by decide) ?_
      refine wp_isubN dX4_joinedNow_32 (by omega) ?_
      refine wp_iload_n dX4_joinedNow_33 rfl ?_
      refine wp_isubN dX4_joinedNow_34 (by omega) ?_
      refine wp_iaload dX4_joinedNow_35 (by decide) rfl (by omega) (by omega) (by decide) ?_
      refine wp_ic_eq 43 dX4_joinedNow_36 (by decide) (fun hh36 => ?_) (fun hh36 => ?_)
      · refine wp_iconst dX4_joinedNow_43 (by decide) ?_
        refine wp_iaddN dX4_joinedNow_44 (by omega) ?_
        refine wp_istN (L' := [some (vr _), some (vi _), some (vi _)]) dX4_joinedNow_45 (Nat.le_of_ble_eq_true rfl) rfl ?_
        refine wp_iincN (L' := [some (vr _), some (vi _), some (vi _)]) dX4_joinedNow_46 rfl (by omega) rfl ?_
        refine wp_gotoN 8 dX4_joinedNow_49 (by decide) ?_
        exact ih (k + 1) _ (by omega) (by rw [cnt_f (fun q => q (by rw [e1, e2, ← en]; exact hh36))]; omega) hQ
      · refine wp_iconst dX4_joinedNow_39 (by decide) ?_
        refine wp_gotoN 44 dX4_joinedNow_40 (by decide) ?_
        refine wp_iaddN dX4_joinedNow_44 (by omega) ?_
        refine wp_istN (L' := [some (vr _), some (vi _), some (vi _)]) dX4_joinedNow_45 (Nat.le_of_ble_eq_true rfl) rfl ?_
        refine wp_iincN (L' := [some (vr _), some (vi _), some (vi _)]) dX4_joinedNow_46 rfl (by omega) rfl ?_
        refine wp_gotoN 8 dX4_joinedNow_49 (by decide) ?_
        exact ih (k + 1) _ (by omega) (by rw [cnt_t (show ggk (Gz z) k ≠ ggk (Gz z) (ggn (Gz z) - 1 - k) by rw [e1, e2, ← en]; exact hh36)]; omega) hQ
noncomputable def vJoined (z : aZ) : Int := cnt (fun c => ggk (Gz z) c ≠ ggk (Gz z) (ggn (Gz z) - 1 - c)) (ggn (Gz z)).toNat
set_option maxRecDepth 20000 in
theorem s4_joinedNow {d : Nat} {σ : aS} {Q : aQ} {z : aZ} (hm : MI σ z) (hz : ZV z) (hQ : ∀ σ', Frm σ σ' → MI σ' z → Q (some (vi (vJoined z))) σ') : aCall 34 (d + 4) mX4_joinedNow [vr 18] σ Q := by
  refine cl_in (own := RX4) (cc := cX4_joinedNow) (rk := 0) (L := [some (vr 18), none, none]) rfl rfl rfl rfl (by decide) (Nat.le_of_ble_eq_true rfl) ?_
  refine wp_aload_n dX4_joinedNow_0 rfl ?_
  refine wp_V0 dX4_joinedNow_1 vlX4_89 (by decide) rfl (Nat.le_of_ble_eq_true rfl) ?_
  refine s4_reads hm hz (fun σ' hf hr => ?_)
  refine wp_iconst dX4_joinedNow_4 (by decide) ?_
  refine wp_istN (L' := [some (vr _), some (vi _), none]) dX4_joinedNow_5 (Nat.le_of_ble_eq_true rfl) rfl ?_
  refine wp_iconst dX4_joinedNow_6 (by decide) ?_
  refine wp_istN (L' := [some (vr _), some (vi _), some (vi _)]) dX4_joinedNow_7 (Nat.le_of_ble_eq_true rfl) rfl ?_
  exact l4_joined hr (ggn (Gz z)).toNat 0 _ (by omega) rfl (hQ σ' hf hr.1)
set_option maxRecDepth 20000 in
theorem p4_joined {d : Nat} {σ : aS} {Q : aQ} {z : aZ} (hm : MI σ z) (hz : ZV z) (hQ : ∀ σ', Frm σ σ' → MI σ' z → Q (some (vi (vJoined z))) σ') : aCall 34 (d + 5) mX4_joined [vr 18] σ Q := by
  refine cl_in (own := RX4) (cc := cX4_joined) (rk := 0) (L := [some (vr 18)]) rfl rfl rfl rfl (by decide) (Nat.le_of_ble_eq_true rfl) ?_
  refine wp_aload_n dX4_joined_0 rfl ?_
  refine wp_V0 dX4_joined_1 vlX4_197 (by decide) rfl (Nat.le_of_ble_eq_true rfl) ?_
  refine s4_joinedNow hm hz (fun σ' hf hm => ?_)
  refine wp_iret dX4_joined_4 (Or.inl rfl) ?_
  exact hQ σ' hf hm
noncomputable def lkv (z : aZ) (b : Int) : Int := cnt (fun c => (c : Int) % ggw (Gz z) + b < ggw (Gz z) ∧ ggk (Gz z) c ≠ ggk (Gz z) (c + b)) (ggn (Gz z)).toNat
noncomputable def vLike (z : aZ) (b : Int) : Int := if 1 ≤ b ∧ b ≤ 6 then lkv z b else -2
theorem row_in {n w c b : Int} (h : n % w = 0) (hw : 1 ≤ w) (hw7 : w ≤ 7) (hc : 0 ≤ c) (hn : c < n) (hb : 0 ≤ b) (hr : c % w + b < w) : c + b < n := by
  have : w = 1 ∨ w = 2 ∨ w = 3 ∨ w = 4 ∨ w = 5 ∨ w = 6 ∨ w = 7 := by omega
  rcases this with rfl | rfl | rfl | rfl | rfl | rfl | rfl <;> omega
set_option maxRecDepth 20000 in
theorem l4_like {d : Nat} {z : aZ} {σ : aS} {Q : aQ} {b : Int} (hr : Rd σ z) (hb : 1 ≤ b ∧ b ≤ 6) : ∀ (r : Nat) (k : Nat) (x : Int), k + r = (ggn (Gz z)).toNat → x = cnt (fun c => (c : Int) % ggw (Gz z) + b < ggw (Gz z) ∧ ggk (Gz z) c ≠ ggk (Gz z) (c + b)) k → Q (some (vi (lkv z b))) σ → Wp RX4 cX4_likeOf 34 (aCall 34 (d)) Q 0 false 0 (fun _ => 0) 8 [some (vr 18), some (vi b), some (vi x), some (vi k)] [] σ := by
  intro r
  induction r with
  | zero =>
    intro k x hk hx hQ
    have hn := GVn hr.gv
    have hrn := hr.n
    refine wp_iload_n dX4_likeOf_8 rfl ?_
    refine wp_aload_n dX4_likeOf_9 rfl ?_
    refine wp_getI dX4_likeOf_10 flX4_72 (by decide) rfl (Or.inl rfl) ?_
    refine wp_ic_ge 62 dX4_likeOf_13 (by decide) (fun hh13 => ?_) (fun hh13 => ?_)
    · refine wp_iload_n dX4_likeOf_62 rfl ?_
      refine wp_iret dX4_likeOf_63 (Or.inl rfl) ?_
      have e : k = (ggn (Gz z)).toNat := by omega
      subst e
      rw [hx]
      exact hQ
    · exact absurd hk (by omega)
  | succ r ih =>
    intro k x hk hx hQ
    have hn := GVn hr.gv
    have hrn := hr.n
    have hci := cnt_in (fun c => (c : Int) % ggw (Gz z) + b < ggw (Gz z) ∧ ggk (Gz z) c ≠ ggk (Gz z) (c + b)) k
    refine wp_iload_n dX4_likeOf_8 rfl ?_
    refine wp_aload_n dX4_likeOf_9 rfl ?_
    refine wp_getI dX4_likeOf_10 flX4_72 (by decide) rfl (Or.inl rfl) ?_
    refine wp_ic_ge 62 dX4_likeOf_13 (by decide) (fun hh13 => ?_) (fun hh13 => ?_)
    · exact absurd hk (by omega)
    · have hw := GVw hr.gv (by omega)
      have eg := hr.2.2.1
      have en := hr.n
      have ew := gw_of (σ := σ) (by omega)
      rw [eg] at ew
      have hmod : 0 ≤ (k : Int) % σ.1 18 2 := Int.emod_nonneg _ (by omega)
      have hmod2 : (k : Int) % σ.1 18 2 < σ.1 18 2 := Int.emod_lt_of_pos _ (by omega)
      have e1 := gk_n (σ := σ) (k := k) (by omega)
      rw [eg] at e1
      refine wp_iload_n dX4_likeOf_16 rfl ?_
      refine wp_iload_n dX4_likeOf_17 rfl ?_
      refine wp_aload_n dX4_likeOf_18 rfl ?_
      refine wp_getI dX4_likeOf_19 flX4_78 (by decide) rfl (Or.inl rfl) ?_
      refine wp_irem dX4_likeOf_22 (by omega) (by omega) ?_
      refine wp_iload_n dX4_likeOf_23 rfl ?_
      refine wp_iaddN dX4_likeOf_24 (by omega) ?_
      refine wp_aload_n dX4_likeOf_25 rfl ?_
      refine wp_getI dX4_likeOf_26 flX4_78 (by decide) rfl (Or.inl rfl) ?_
      refine wp_ic_ge 53 dX4_likeOf_29 (by decide) (fun hh29 => ?_) (fun hh29 => ?_)
      · refine wp_iconst dX4_likeOf_53 (by decide) ?_
        refine wp_iaddN dX4_likeOf_54 (by omega) ?_
        refine wp_istN (L' := [some (vr _), some (vi _), some (vi _), some (vi _)]) dX4_likeOf_55 (Nat.le_of_ble_eq_true rfl) rfl ?_
        refine wp_iincN (L' := [some (vr _), some (vi _), some (vi _), some (vi _)]) dX4_likeOf_56 rfl (by omega) rfl ?_
        refine wp_gotoN 8 dX4_likeOf_59 (by decide) ?_
        exact ih (k + 1) _ (by omega) (by rw [cnt_f (fun q => by have := q.1; rw [ew] at this; omega)]; omega) hQ
      · have hrow := row_in (b := b) hw.2.2 hw.1 hw.2.1 (by omega) (show (k : Int) < σ.1 18 4 by omega) (by omega) (by omega)
        have e2 := gk_of (σ := σ) (c := k + b) (by omega) (by omega)
        rw [eg] at e2
        refine wp_aload_n dX4_likeOf_32 rfl ?_
        refine wp_getR dX4_likeOf_33 flX4_13 (by decide) rfl rfl ?_
        refine wp_iload_n dX4_likeOf_36 rfl ?_
        refine wp_iaload dX4_likeOf_37 (by decide) rfl (by omega) (by omega) (by decide) ?_
        refine wp_aload_n dX4_likeOf_38 rfl ?_
        refine wp_getR dX4_likeOf_39 flX4_13 (by decide) rfl rfl ?_
        refine wp_iload_n dX4_likeOf_42 rfl ?_
        refine wp_iload_n dX4_likeOf_43 rfl ?_
        refine wp_iaddN dX4_likeOf_44 (by omega) ?_
        refine wp_iaload dX4_likeOf_45 (by decide) rfl (by omega) (by omega) (by decide) ?_
        refine wp_ic_eq 53 dX4_likeOf_46 (by decide) (fun hh46 => ?_) (fun hh46 => ?_)
        · refine wp_iconst dX4_likeOf_53 (by decide) ?_
          refine wp_iaddN dX4_likeOf_54 (by omega) ?_
          refine wp_istN (L' := [some (vr _), some (vi _), some (vi _), some (vi _)]) dX4_likeOf_55 (Nat.le_of_ble_eq_true rfl) rfl ?_
          refine wp_iincN (L' := [some (vr _), some (vi _), some (vi _), some (vi _)]) dX4_likeOf_56 rfl (by omega) rfl ?_
          refine wp_gotoN 8 dX4_likeOf_59 (by decide) ?_
          exact ih (k + 1) _ (by omega) (by rw [cnt_f (fun q => q.2 (by rw [e1, e2]; exact hh46))]; omega) hQ
        · refine wp_iconst dX4_likeOf_49 (by decide) ?_
          refine wp_gotoN 54 dX4_likeOf_50 (by decide) ?_
          refine wp_iaddN dX4_likeOf_54 (by omega) ?_
          refine wp_istN (L' := [some (vr _), some (vi _), some (vi _), some (vi _)]) dX4_likeOf_55 (Nat.le_of_ble_eq_true rfl) rfl ?_
          refine wp_iincN (L' := [some (vr _), some (vi _), some (vi _), some (vi _)]) dX4_likeOf_56 rfl (by omega) rfl ?_
          refine wp_gotoN 8 dX4_likeOf_59 (by decide) ?_
          exact ih (k + 1) _ (by omega) (by rw [cnt_t (show (k : Int) % ggw (Gz z) + b < ggw (Gz z) ∧ ggk (Gz z) k ≠ ggk (Gz z) (k + b) from ⟨by rw [ew]; omega, by rw [e1, e2]; exact hh46⟩)]; omega) hQ
set_option maxRecDepth 20000 in
theorem s4_likeOf {d : Nat} {σ : aS} {Q : aQ} {b : Int} {z : aZ} (hm : MI σ z) (hz : ZV z) (hb : 1 ≤ b ∧ b ≤ 6) (hQ : ∀ σ', Frm σ σ' → MI σ' z → Q (some (vi (lkv z b))) σ') : aCall 34 (d + 4) mX4_likeOf [vr 18, vi b] σ Q := by
  refine cl_in (own := RX4) (cc := cX4_likeOf) (rk := 0) (L := [some (vr 18), some (vi b), none, none]) rfl rfl rfl rfl (by decide) (Nat.le_of_ble_eq_true rfl) ?_
  refine wp_aload_n dX4_likeOf_0 rfl ?_
  refine wp_V0 dX4_likeOf_1 vlX4_89 (by decide) rfl (Nat.le_of_ble_eq_true rfl) ?_
  refine s4_reads hm hz (fun σ' hf hr => ?_)
  refine wp_iconst dX4_likeOf_4 (by decide) ?_
  refine wp_istN (L' := [some (vr _), some (vi _), some (vi _), none]) dX4_likeOf_5 (Nat.le_of_ble_eq_true rfl) rfl ?_
  refine wp_iconst dX4_likeOf_6 (by decide) ?_
  refine wp_istN (L' := [some (vr _), some (vi _), some (vi _), some (vi _)]) dX4_likeOf_7 (Nat.le_of_ble_eq_true rfl) rfl ?_
  exact l4_like hr hb (ggn (Gz z)).toNat 0 _ (by omega) rfl (hQ σ' hf hr.1)
set_option maxRecDepth 20000 in
theorem p4_like {d : Nat} {σ : aS} {Q : aQ} {b : Int} {z : aZ} (hm : MI σ z) (hz : ZV z) (hQ : ∀ σ', Frm σ σ' → MI σ' z → Q (some (vi (vLike z b))) σ') : aCall 34 (d + 5) mX4_like [vr 18, vi b] σ Q := by
  refine cl_in (own := RX4) (cc := cX4_like) (rk := 0) (L := [some (vr 18), some (vi b)]) rfl rfl rfl rfl (by decide) (Nat.le_of_ble_eq_true rfl) ?_
  refine wp_iload_n dX4_like_0 rfl ?_
  refine wp_iconst dX4_like_1 (by decide) ?_
  refine wp_bipush dX4_like_2 (by decide) ?_
  refine wp_S3 dX4_like_4 zlX4_65 (Nat.le_of_ble_eq_true rfl) ?_
  refine s4_in ?_
  refine wp_ifB_eq 18 dX4_like_7 (by decide) (fun hh7 => ?_) (fun hh7 => ?_)
  · refine wp_bipush dX4_like_18 (by decide) ?_
    refine wp_iret dX4_like_20 (Or.inl rfl) ?_
    first
    | exact q_i (by unfold vLike; rw [if_pos (by omega)]) (hQ σ' hf hm)
    | exact q_i (by unfold vLike; rw [if_neg (by omega)]) (hQ σ Frm.rf hm)
  · refine wp_aload_n dX4_like_10 rfl ?_
    refine wp_iload_n dX4_like_11 rfl ?_
    refine wp_V1 dX4_like_12 vlX4_200 (by decide) rfl (Nat.le_of_ble_eq_true rfl) ?_
    refine s4_likeOf hm hz (by omega) (fun σ' hf hm => ?_)
    refine wp_gotoN 20 dX4_like_15 (by decide) ?_
    refine wp_iret dX4_like_20 (Or.inl rfl) ?_
    first
    | exact q_i (by unfold vLike; rw [if_pos (by omega)]) (hQ σ' hf hm)
    | exact q_i (by unfold vLike; rw [if_neg (by omega)]) (hQ σ Frm.rf hm)
noncomputable def kkS (g : aG) (lot x : Int) : Int := cif (opn g (if lot = 0 then x else tgt g x (lot - 1))) (if lot = 0 then x else tgt g x (lot - 1)) x
def kkR (s : Int) : Int := w32 (w32 (1103515245 * s) + 12345)
def kkL (s : Int) : Int := s % 4294967296 / 65536 % 3
noncomputable def kkN (g : aG) : Nat → Int → Int → Int
  | 0, _, x => x
  | r + 1, s, x => cif (hld g x) (kkN g r (kkR s) (kkS g (kkL (kkR s)) x)) (kkN g r s (blw g x))
noncomputable def vKicks (z : aZ) (s c n : Int) : Int := cif ((0 ≤ c ∧ c ≤ ggn (Gz z) - 1) ∧ opn (Gz z) c ∧ (1 ≤ n ∧ n ≤ 40)) (kkN (Gz z) n.toNat s c) (-2)
theorem kkS_o {g : aG} {lot x : Int} (h : opn g x) : opn g (kkS g lot x) := by
  unfold kkS
  by_cases hh : opn g (if lot = 0 then x else tgt g x (lot - 1))
  · rw [cif_t hh]; exact hh
  · rw [cif_f hh]; exact h
theorem kk_sh (s : Int) : w32 (s % 4294967296 / 2 ^ (16 : Int).toNat) = s % 4294967296 / 65536 := by
  have e : (2 : Int) ^ (16 : Int).toNat = 65536 := by decide
  rw [e]
  exact w32_id (by omega) (by omega)
set_option maxRecDepth 20000 in
theorem l4_kicks {d : Nat} {σ : aS} {Q : aQ} {s0 c0 n : Int} (hg : GV (gOf σ)) (hn1 : 1 ≤ n ∧ n ≤ 40) : ∀ (r : Nat) (k : Nat) (s x : Int) (u v : Option aV), k + r = n.toNat → opn (gOf σ) x → Q (some (vi (kkN (gOf σ) r s x))) σ → Wp RX4 cX4_kicksOf 34 (aCall 34 (d + 3)) Q 0 false 0 (fun _ => 0) 9 [some (vr 18), some (vi s0), some (vi c0), some (vi n), some (vi s), some (vi x), some (vi k), u, v] [] σ := by
  intro r
  induction r with
  | zero =>
    intro k s x u v hk ho hQ
    have hb := opn_b hg ho
    refine wp_iload dX4_kicksOf_9 rfl ?_
    refine wp_iload_n dX4_kicksOf_11 rfl ?_
    refine wp_ic_ge 101 dX4_kicksOf_12 (by decide) (fun hh12 => ?_) (fun hh12 => ?_)
    · refine wp_iload dX4_kicksOf_101 rfl ?_
      refine wp_iret dX4_kicksOf_103 (Or.inl rfl) ?_
      exact hQ
    · exact absurd hk (by omega)
  | succ r ih =>
    intro k s x u v hk ho hQ
    have hb := opn_b hg ho
    refine wp_iload dX4_kicksOf_9 rfl ?_
    refine wp_iload_n dX4_kicksOf_11 rfl ?_
    refine wp_ic_ge 101 dX4_kicksOf_12 (by decide) (fun hh12 => ?_) (fun hh12 => ?_)
    · exact absurd hk (by omega)
    · refine wp_aload_n dX4_kicksOf_15 rfl ?_
      refine wp_iload dX4_kicksOf_16 rfl ?_
      refine wp_V1 dX4_kicksOf_18 vlX4_105 (by decide) rfl (Nat.le_of_ble_eq_true rfl) ?_
      refine s4_isHeld hg (by omega) (by omega) ?_
      refine wp_ifB_ne 35 dX4_kicksOf_21 (by decide) (fun hh21 => ?_) (fun hh21 => ?_)
      · refine wp_ldc dX4_kicksOf_35 klX4_218 ?_
        refine wp_iload dX4_kicksOf_37 rfl ?_
        refine wp_imul dX4_kicksOf_39 ?_
        refine wp_sipush dX4_kicksOf_40 (by decide) ?_
        refine wp_iadd dX4_kicksOf_43 ?_
        rw [show w32 (w32 (1103515245 * s) + 12345) = kkR s from rfl]
        refine wp_ist (L' := [some (vr _), some (vi _), some (vi _), some (vi _), some (vi _), some (vi _), some (vi _), _, _]) dX4_kicksOf_44 (Nat.le_of_ble_eq_true rfl) rfl ?_
        refine wp_iload dX4_kicksOf_46 rfl ?_
        refine wp_bipush dX4_kicksOf_48 (by decide) ?_
        refine wp_iushr dX4_kicksOf_50 (by omega) (by omega) ?_
        rw [kk_sh]
        refine wp_iconst dX4_kicksOf_51 (by decide) ?_
        refine wp_irem dX4_kicksOf_52 (by omega) (by omega) ?_
        rw [show kkR s % 4294967296 / 65536 % 3 = kkL (kkR s) from rfl]
        have hlr : 0 ≤ kkL (kkR s) ∧ kkL (kkR s) ≤ 2 := by unfold kkL; omega
        refine wp_ist (L' := [some (vr _), some (vi _), some (vi _), some (vi _), some (vi _), some (vi _), some (vi _), some (vi _), _]) dX4_kicksOf_53 (Nat.le_of_ble_eq_true rfl) rfl ?_
        refine wp_iload dX4_kicksOf_55 rfl ?_
        refine wp_if_ne 65 dX4_kicksOf_57 (by decide) (fun hh57 => ?_) (fun hh57 => ?_)
        · have hl0 : ¬ kkL (kkR s) = 0 := by omega
          refine wp_aload_n dX4_kicksOf_65 rfl ?_
          refine wp_iload dX4_kicksOf_66 rfl ?_
          refine wp_iload dX4_kicksOf_68 rfl ?_
          refine wp_iconst dX4_kicksOf_70 (by decide) ?_
          refine wp_isubN dX4_kicksOf_71 (by omega) ?_
          refine wp_V2 dX4_kicksOf_72 vlX4_139 (by decide) rfl (Nat.le_of_ble_eq_true rfl) ?_
          refine s4_target hg (by omega) (by omega) (by omega) ?_
          refine wp_ist (L' := [some (vr _), some (vi _), some (vi _), some (vi _), some (vi _), some (vi _), some (vi _), some (vi _), some (vi _)]) dX4_kicksOf_75 (Nat.le_of_ble_eq_true rfl) rfl ?_
          refine wp_aload_n dX4_kicksOf_77 rfl ?_
          refine wp_iload dX4_kicksOf_78 rfl ?_
          refine wp_V1 dX4_kicksOf_80 vlX4_99 (by decide) rfl (Nat.le_of_ble_eq_true rfl) ?_
          refine s4_isOpen hg ?_
          refine wp_ifB_eq 91 dX4_kicksOf_83 (by decide) (fun hh83 => ?_) (fun hh83 => ?_)
          · refine wp_iload dX4_kicksOf_91 rfl ?_
            refine wp_ist (L' := [some (vr _), some (vi _), some (vi _), some (vi _), some (vi _), some (vi _), some (vi _), some (vi _), some (vi _)]) dX4_kicksOf_93 (Nat.le_of_ble_eq_true rfl) rfl ?_
            refine wp_iincN (L' := [some (vr _), some (vi _), some (vi _), some (vi _), some (vi _), some (vi _), some (vi _), some (vi _), some (vi _)]) dX4_kicksOf_95 rfl (by omega) rfl ?_
            refine wp_gotoN 9 dX4_kicksOf_98 (by decide) ?_
            have e : kkN (gOf σ) (r + 1) s x = kkN (gOf σ) r (kkR s) x := by show cif _ _ _ = _; rw [cif_t hh21]; unfold kkS; rw [if_neg hl0, cif_f hh83]
            rw [e] at hQ
            exact ih (k + 1) _ _ _ _ (by omega) ho hQ
          · refine wp_iload dX4_kicksOf_86 rfl ?_
            refine wp_gotoN 93 dX4_kicksOf_88 (by decide) ?_
            refine wp_ist (L' := [some (vr _), some (vi _), some (vi _), some (vi _), some (vi _), some (vi _), some (vi _), some (vi _), some (vi _)]) dX4_kicksOf_93 (Nat.le_of_ble_eq_true rfl) rfl ?_
            refine wp_iincN (L' := [some (vr _), some (vi _), some (vi _), some (vi _), some (vi _), some (vi _), some (vi _), some (vi _), some (vi _)]) dX4_kicksOf_95 rfl (by omega) rfl ?_
            refine wp_gotoN 9 dX4_kicksOf_98 (by decide) ?_
            have e : kkN (gOf σ) (r + 1) s x = kkN (gOf σ) r (kkR s) (tgt (gOf σ) x (kkL (kkR s) - 1)) := by show cif _ _ _ = _; rw [cif_t hh21]; unfold kkS; rw [if_neg hl0, cif_t hh83]
            rw [e] at hQ
            exact ih (k + 1) _ _ _ _ (by omega) hh83 hQ
        · have hl0 : kkL (kkR s) = 0 := by omega
          refine wp_iload dX4_kicksOf_60 rfl ?_
          refine wp_gotoN 75 dX4_kicksOf_62 (by decide) ?_
          refine wp_ist (L' := [some (vr _), some (vi _), some (vi _), some (vi _), some (vi _), some (vi _), some (vi _), some (vi _), some (vi _)]) dX4_kicksOf_75 (Nat.le_of_ble_eq_true rfl) rfl ?_
          refine wp_aload_n dX4_kicksOf_77 rfl ?_
          refine wp_iload dX4_kicksOf_78 rfl ?_
          refine wp_V1 dX4_kicksOf_80 vlX4_99 (by decide) rfl (Nat.le_of_ble_eq_true rfl) ?_
          refine s4_isOpen hg ?_
          refine wp_ifB_eq 91 dX4_kicksOf_83 (by decide) (fun hh83 => ?_) (fun hh83 => ?_)
          · refine wp_iload dX4_kicksOf_91 rfl ?_
            refine wp_ist (L' := [some (vr _), some (vi _), some (vi _), some (vi _), some (vi _), some (vi _), some (vi _), some (vi _), some (vi _)]) dX4_kicksOf_93 (Nat.le_of_ble_eq_true rfl) rfl ?_
            refine wp_iincN (L' := [some (vr _), some (vi _), some (vi _), some (vi _), some (vi _), some (vi _), some (vi _), some (vi _), some (vi _)]) dX4_kicksOf_95 rfl (by omega) rfl ?_
            refine wp_gotoN 9 dX4_kicksOf_98 (by decide) ?_
            have e : kkN (gOf σ) (r + 1) s x = kkN (gOf σ) r (kkR s) x := by show cif _ _ _ = _; rw [cif_t hh21]; unfold kkS; rw [if_pos hl0, cif_f hh83]
            rw [e] at hQ
            exact ih (k + 1) _ _ _ _ (by omega) ho hQ
          · refine wp_iload dX4_kicksOf_86 rfl ?_
            refine wp_gotoN 93 dX4_kicksOf_88 (by decide) ?_
            refine wp_ist (L' := [some (vr _), some (vi _), some (vi _), some (vi _), some (vi _), some (vi _), some (vi _), some (vi _), some (vi _)]) dX4_kicksOf_93 (Nat.le_of_ble_eq_true rfl) rfl ?_
            refine wp_iincN (L' := [some (vr _), some (vi _), some (vi _), some (vi _), some (vi _), some (vi _), some (vi _), some (vi _), some (vi _)]) dX4_kicksOf_95 rfl (by omega) rfl ?_
            refine wp_gotoN 9 dX4_kicksOf_98 (by decide) ?_
            have e : kkN (gOf σ) (r + 1) s x = kkN (gOf σ) r (kkR s) x := by show cif _ _ _ = _; rw [cif_t hh21]; unfold kkS; rw [if_pos hl0, cif_t hh83]
            rw [e] at hQ
            exact ih (k + 1) _ _ _ _ (by omega) hh83 hQ
      · refine wp_aload_n dX4_kicksOf_24 rfl ?_
        refine wp_iload dX4_kicksOf_25 rfl ?_
        refine wp_V1 dX4_kicksOf_27 vlX4_96 (by decide) rfl (Nat.le_of_ble_eq_true rfl) ?_
        refine s4_below hg (by omega) (by omega) (by omega) ?_
        refine wp_ist (L' := [some (vr _), some (vi _), some (vi _), some (vi _), some (vi _), some (vi _), some (vi _), _, _]) dX4_kicksOf_30 (Nat.le_of_ble_eq_true rfl) rfl ?_
        refine wp_gotoN 95 dX4_kicksOf_32 (by decide) ?_
        refine wp_iincN (L' := [some (vr _), some (vi _), some (vi _), some (vi _), some (vi _), some (vi _), some (vi _), _, _]) dX4_kicksOf_95 rfl (by omega) rfl ?_
        refine wp_gotoN 9 dX4_kicksOf_98 (by decide) ?_
        have e : kkN (gOf σ) (r + 1) s x = kkN (gOf σ) r s (blw (gOf σ) x) := by show cif _ _ _ = _; rw [cif_f hh21]
        rw [e] at hQ
        exact ih (k + 1) _ _ _ _ (by omega) (hld_n hh21 ho.2.2).1 hQ
set_option maxRecDepth 20000 in
theorem s4_kicksOf {d : Nat} {σ : aS} {Q : aQ} {s c n : Int} (hg : GV (gOf σ)) (hn1 : 1 ≤ n ∧ n ≤ 40) (ho : opn (gOf σ) c) (hQ : Q (some (vi (kkN (gOf σ) n.toNat s c))) σ) : aCall 34 (d + 4) mX4_kicksOf [vr 18, vi s, vi c, vi n] σ Q := by
  refine cl_in (own := RX4) (cc := cX4_kicksOf) (rk := 0) (L := [some (vr 18), some (vi s), some (vi c), some (vi n), none, none, none, none, none]) rfl rfl rfl rfl (by decide) (Nat.le_of_ble_eq_true rfl) ?_
  refine wp_iload_n dX4_kicksOf_0 rfl ?_
  refine wp_ist (L' := [some (vr _), some (vi _), some (vi _), some (vi _), some (vi _), none, none, none, none]) dX4_kicksOf_1 (Nat.le_of_ble_eq_true rfl) rfl ?_
  refine wp_iload_n dX4_kicksOf_3 rfl ?_
  refine wp_ist (L' := [some (vr _), some (vi _), some (vi _), some (vi _), some (vi _), some (vi _), none, none, none]) dX4_kicksOf_4 (Nat.le_of_ble_eq_true rfl) rfl ?_
  refine wp_iconst dX4_kicksOf_6 (by decide) ?_
  refine wp_ist (L' := [some (vr _), some (vi _), some (vi _), some (vi _), some (vi _), some (vi _), some (vi _), none, none]) dX4_kicksOf_7 (Nat.le_of_ble_eq_true rfl) rfl ?_
  exact l4_kicks hg hn1 n.toNat 0 s c _ _ (by omega) ho hQ
set_option maxRecDepth 20000 in
theorem p4_kicks {d : Nat} {σ : aS} {Q : aQ} {s c n : Int} {z : aZ} (hm : MI σ z) (hz : ZV z) (hQ : ∀ σ', Frm σ σ' → MI σ' z → Q (some (vi (vKicks z s c n))) σ') : aCall 34 (d + 5) mX4_kicks [vr 18, vi s, vi c, vi n] σ Q := by
  refine cl_in (own := RX4) (cc := cX4_kicks) (rk := 0) (L := [some (vr 18), some (vi s), some (vi c), some (vi n)]) rfl rfl rfl rfl (by decide) (Nat.le_of_ble_eq_true rfl) ?_
  refine wp_aload_n dX4_kicks_0 rfl ?_
  refine wp_iload_n dX4_kicks_1 rfl ?_
  refine wp_V1 dX4_kicks_2 vlX4_102 (by decide) rfl (Nat.le_of_ble_eq_true rfl) ?_
  refine s4_isCell hm hz (fun σ' hf hr => ?_)
  have hg := hr.gv
  have eg := hr.2.2.1
  refine wp_ifB_eq 36 dX4_kicks_5 (by decide) (fun hh5 => ?_) (fun hh5 => ?_)
  · refine wp_bipush dX4_kicks_36 (by decide) ?_
    refine wp_iret dX4_kicks_38 (Or.inl rfl) ?_
    first
    | exact q_i (by unfold vKicks; rw [cif_f (fun q => hh5 q.1)]) (hQ σ' hf hr.1)
    | exact q_i (by unfold vKicks; rw [cif_f (fun q => hh13 (by rw [eg]; exact q.2.1))]) (hQ σ' hf hr.1)
    | exact q_i (by unfold vKicks; rw [cif_f (fun q => hh23 q.2.2)]) (hQ σ' hf hr.1)
    | exact q_i (by unfold vKicks; rw [cif_t ⟨hh5, by rw [← eg]; exact hh13, hh23⟩, eg]) (hQ σ' hf hr.1)
  · refine wp_aload_n dX4_kicks_8 rfl ?_
    refine wp_iload_n dX4_kicks_9 rfl ?_
    refine wp_V1 dX4_kicks_10 vlX4_99 (by decide) rfl (Nat.le_of_ble_eq_true rfl) ?_
    refine s4_isOpen hg ?_
    refine wp_ifB_eq 36 dX4_kicks_13 (by decide) (fun hh13 => ?_) (fun hh13 => ?_)
    · refine wp_bipush dX4_kicks_36 (by decide) ?_
      refine wp_iret dX4_kicks_38 (Or.inl rfl) ?_
      first
      | exact q_i (by unfold vKicks; rw [cif_f (fun q => hh5 q.1)]) (hQ σ' hf hr.1)
      | exact q_i (by unfold vKicks; rw [cif_f (fun q => hh13 (by rw [eg]; exact q.2.1))]) (hQ σ' hf hr.1)
      | exact q_i (by unfold vKicks; rw [cif_f (fun q => hh23 q.2.2)]) (hQ σ' hf hr.1)
      | exact q_i (by unfold vKicks; rw [cif_t ⟨hh5, by rw [← eg]; exact hh13, hh23⟩, eg]) (hQ σ' hf hr.1)
    · refine wp_iload_n dX4_kicks_16 rfl ?_
      refine wp_iconst dX4_kicks_17 (by decide) ?_
      refine wp_bipush dX4_kicks_18 (by decide) ?_
      refine wp_S3 dX4_kicks_20 zlX4_65 (Nat.le_of_ble_eq_true rfl) ?_
      refine s4_in ?_
      refine wp_ifB_eq 36 dX4_kicks_23 (by decide) (fun hh23 => ?_) (fun hh23 => ?_)
      · refine wp_bipush dX4_kicks_36 (by decide) ?_
        refine wp_iret dX4_kicks_38 (Or.inl rfl) ?_
        first
        | exact q_i (by unfold vKicks; rw [cif_f (fun q => hh5 q.1)]) (hQ σ' hf hr.1)
        | exact q_i (by unfold vKicks; rw [cif_f (fun q => hh13 (by rw [eg]; exact q.2.1))]) (hQ σ' hf hr.1)
        | exact q_i (by unfold vKicks; rw [cif_f (fun q => hh23 q.2.2)]) (hQ σ' hf hr.1)
        | exact q_i (by unfold vKicks; rw [cif_t ⟨hh5, by rw [← eg]; exact hh13, hh23⟩, eg]) (hQ σ' hf hr.1)
      · refine wp_aload_n dX4_kicks_26 rfl ?_
        refine wp_iload_n dX4_kicks_27 rfl ?_
        refine wp_iload_n dX4_kicks_28 rfl ?_
        refine wp_iload_n dX4_kicks_29 rfl ?_
        refine wp_V3 dX4_kicks_30 vlX4_219 (by decide) rfl (Nat.le_of_ble_eq_true rfl) ?_
        refine s4_kicksOf hg hh23 hh13 ?_
        refine wp_gotoN 38 dX4_kicks_33 (by decide) ?_
        refine wp_iret dX4_kicks_38 (Or.inl rfl) ?_
        first
        | exact q_i (by unfold vKicks; rw [cif_f (fun q => hh5 q.1)]) (hQ σ' hf hr.1)
        | exact q_i (by unfold vKicks; rw [cif_f (fun q => hh13 (by rw [eg]; exact q.2.1))]) (hQ σ' hf hr.1)
        | exact q_i (by unfold vKicks; rw [cif_f (fun q => hh23 q.2.2)]) (hQ σ' hf hr.1)
        | exact q_i (by unfold vKicks; rw [cif_t ⟨hh5, by rw [← eg]; exact hh13, hh23⟩, eg]) (hQ σ' hf hr.1)
