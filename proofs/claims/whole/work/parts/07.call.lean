/-! calls -/
def aRm (d : Nat) : Room := { frames := d, cells := 0, slots := 0, locals := 35 * d }
def mW (m : Nat) : List Cond := .code (mY m) (mC m) (mL m) (mR m) :: lw_good
def aWorld (D : va_G) (cA : Nat → ClassId) (ad : Nat → Nat) (A : Nat → Prop) (NC : Nat) (σ : aS) (U : State) : Prop := InS σ ∧ va_P D vwCl (aw NC cA ad σ) U.heap ∧ va_K D vwCl (aT cA) U ∧ va_D A (aw NC cA ad σ) ∧ ∀ w ∈ nestW, va_Nw w U
def aPc (D : va_G) (cA : Nat → ClassId) (ad : Nat → Nat) (A : Nat → Prop) (NC : Nat) (as : List aV) (σ : aS) : Array Value → State → Prop := va_Pc (as.map (tr ad)) (aWorld D cA ad A NC σ)
def aQc (D : va_G) (cA : Nat → ClassId) (ad : Nat → Nat) (A : Nat → Prop) (NC : Nat) (K : aQ) : Array Value → State → Outcome → State → Prop := fun _ st o t => (∃ (r : Option aV) (σ' : aS), o = .returned (r.map (tr ad)) ∧ K r σ' ∧ (∀ v, r = some v → OkV v) ∧ aWorld D cA ad A NC σ' t) ∧ va_F A st t
def aMet (l : Launch) (D : va_G) (cA : Nat → ClassId) (ad : Nat → Nat) (A : Nat → Prop) (NC d m : Nat) (as : List aV) (σ : aS) (K : aQ) : Prop := Met l (mY m) (mW m) (aRm d) (aPc D cA ad A NC as σ) (aQc D cA ad A NC K) 0 0 A
theorem nw_warm {s U : State} (h : ∀ w ∈ nestW, va_Nw w s) (hW : s.WarmedH U.vm) : ∀ w ∈ nestW, va_Nw w U := by
  intro w hw
  have h1 := h w hw
  simp only [nestW, List.mem_cons, List.not_mem_nil, or_false] at hw
  rcases hw with rfl | rfl | rfl | rfl <;> exact va_Nw.warmM hW h1
theorem nw_same {u U : State} (h : ∀ w ∈ nestW, va_Nw w u) (hv : u.vm = U.vm) : ∀ w ∈ nestW, va_Nw w U := by
  intro w hw
  have h1 := h w hw
  simp only [nestW, List.mem_cons, List.not_mem_nil, or_false] at hw
  rcases hw with rfl | rfl | rfl | rfl <;> exact va_Nw.same rfl hv h1
theorem aPc_blind {D : va_G} {cA : Nat → ClassId} {ad : Nat → Nat} {A : Nat → Prop} {NC : Nat} {as : List aV} {σ : aS} : FrameBlind (aPc D cA ad A NC as σ) := by
  intro a U g mk h
  obtain ⟨h1, hI, hP, hK, hD, hN⟩ := h
  exact ⟨h1, hI, hP, va_K.moved (u := U) (U := U.calling g mk a) (Vm.Alike.refl U.vm) hK, hD, nw_same hN rfl⟩
theorem lw_good_gw {w : Cond} (h : w ∈ lw_good) : gw w := List.mem_filter.mp h
theorem gw_good {w : Cond} (h : gw w) : w ∈ lw_good ∧ ((w.onTables && w.keeps) = true ∨ ∃ ty, w = .arrayClass ty) := ⟨gw_in h, good_of_word h.2⟩
theorem mW_good {m : Nat} (h : gw (.code (mY m) (mC m) (mL m) (mR m))) : GoodIn lw_good (mW m) := by
  intro w hw
  rcases List.mem_cons.mp hw with rfl | hw
  · exact gw_good h
  · exact gw_good (lw_good_gw hw)
section SNC
variable {p : Program} {l : Launch} {e : Env} {R : Room} {s : State} {m : MethodId} {args : Array Value} {below : List Frame} {meth : Method} {c : Code} {cells slots nL NC : Nat} {cc : ByteArray} {own : String} {D : va_G} {cA : Nat → ClassId} {ad : Nat → Nat} {A : Nat → Prop} {Qw : State → Prop} {C : aC} {Q : aQ} {rk : Nat} {sc : Bool} {xl : Nat} {xs : Nat → Int}
set_option maxHeartbeats 2000000 in
theorem sd_back {d m' : Nat} {as : List aV} {rest : List aV} {σ : aS} {K : aQ} {pc : Nat} {L : aL} {H : Heap} {locs : List Loc} {ls : Array Slot} {st0 : List Value} {a : Array Value}
    (hr : va_Run p l e R s m args below meth c H locs cells slots 0 0 (F0 m pc ls st0) (rest.map (tr ad)) (aQc D cA ad A NC K a) A)
    (kk : ∀ r σ', K r σ' → aI p l e R s m args below meth c cells slots nL NC D cA ad A Qw (pc + 3) L (r.toList ++ rest) σ') (hS : va_S A s.heap H locs) (hl : hasL ad ls nL L) (hL : OkL L) (hT : OkT rest) :
    W p l e R s m args below meth c H locs cells slots Qw (F0 m pc ls st0) := by
  intro T hT' X
  obtain ⟨v, st₀, t, T', L2, e0, X', hL2, e1, e2, ⟨⟨r, σ', hv, hK', hok, hI', hP', hKK, hD', hN'⟩, hz, hk⟩, go⟩ := hr T hT' X
  cases hv
  rw [e0] at hz hk
  have hS' : va_S A s.heap t.heap (locs ++ L2) := ⟨Nat.le_trans hS.1 hz, fun q h1 h2 => by rw [hk q (Nat.lt_of_lt_of_le h1 hS.1) h2]; exact hS.2.1 q h1 h2, fun q hq => by
    rcases List.mem_append.mp hq with h | h
    · exact hS.2.2 q h
    · exact hL2 q h⟩
  have hT2 : OkT (r.toList ++ rest) := by
    intro w hw
    rcases List.mem_append.mp hw with h | h
    · exact hok w (by cases r <;> simp_all)
    · exact hT w h
  obtain ⟨t2, a1, b1⟩ := kk r σ' hK' t.heap (locs ++ L2) ls hI' hP' hD' hS' hl hL hT2 T' e1 X'
  refine ⟨t2, go t2 ?_, b1⟩
  have e3 : (r.toList ++ rest).map (tr ad) = (r.map (tr ad)).toList ++ rest.map (tr ad) := by cases r <;> simp
  rw [e3] at a1
  exact a1
set_option maxHeartbeats 2000000 in
theorem sd_callV {d : Nat} (F : aFx p s m args c cc own nL D cA) (hC : ∀ (m' : Nat) (as : List aV) (σ : aS) (K : aQ), C m' as σ K → (∀ v ∈ as, OkV v) → aMet l D cA ad A NC d m' as σ K) (hR : (d + 1 ≤ R.frames ∧ 35 * (d + 1) ≤ R.locals) ∧ (cells ≤ R.cells ∧ slots ≤ R.slots)) : rl_callV own cc NC C Q rk sc xl xs (aI p l e R s m args below meth c cells slots nL NC D cA ad A Qw) := by
  intro pc L st σ i m' ci q fk as K hd h0 h1 h2 h3 h4 kk H locs ls hI hP hD hS hl hL hT
  obtain ⟨v1, v2, v3, v4, v5, v6, o1, o2, o3⟩ := h0
  have hTa : ∀ v ∈ as, OkV v := fun v hv => hT v (List.mem_append_left _ (List.mem_reverse.mpr hv))
  have hTr : OkT st := fun v hv => hT v (List.mem_append_right _ (List.mem_cons_of_mem _ hv))
  have hM := hC m' (vr q :: as) σ K h4 (fun v hv => (List.mem_cons.mp hv).elim (fun e => e ▸ trivial) (hTa v))
  have he : (aw NC cA ad σ)[q]? = some (ad q, .inr (ci, fvs ad σ q fk)) := by rw [aw_at h1, ent_o h2]
  have hG : GoodIn lw_good (wsV own i (clsR ci) (mY m') (mW m')) := by
    intro w hw
    rcases List.mem_append.mp hw with hw | hw
    · simp only [List.mem_cons, List.not_mem_nil, or_false] at hw
      rcases hw with rfl | rfl | rfl | rfl
      · exact gw_good v1
      · exact gw_good v2
      · exact gw_good v3
      · exact gw_good v4
    · exact mW_good o1 w hw
  have hW8 : ((st.map (tr ad)).map fun v => v.category).sum ≤ 8 := by
    have : (st.map (tr ad)).map (fun v => v.category) = st.map catV := by
      rw [List.map_map]; exact List.map_congr_left fun v _ => tr_cat ad v
    rw [this]; exact h3
  refine sd_back (K := K) (d := d) (m' := m') (as := as) (σ := σ) (a := (Value.ref (ad q) :: as.map (tr ad)).toArray) (va_runV (As := as.map (tr ad)) (rest := st.map (tr ad)) (b := ad q) (C := clsR ci) ⟨F.1, F.2.1, F.2.2.1, F.2.2.2.1, F.2.2.2.2.1⟩ hM (cwV as.length F.2.2.2.2.1 hG rfl rfl rfl ⟨v5, o2⟩ ⟨hR.1.1, by have := hR.1.2; simp only [aRm]; omega⟩) ⟨aPc_blind, va_recv F.2.2.2.2.2.1 hP (cls_vw v6) he, fun U hU hW => ⟨rfl, hI, by rw [hU]; exact hP, va_K.moved hW.alike F.2.2.2.2.2.1, hD, nw_warm F.2.2.2.2.2.2 hW⟩⟩ rfl (by simp) hl.1 (by simp [tr]) (lv_room hW8) hd ⟨hR.2.1, hR.2.2⟩) kk hS hl hL hTr
set_option maxHeartbeats 2000000 in
theorem sd_callS {d : Nat} (F : aFx p s m args c cc own nL D cA) (hC : ∀ (m' : Nat) (as : List aV) (σ : aS) (K : aQ), C m' as σ K → (∀ v ∈ as, OkV v) → aMet l D cA ad A NC d m' as σ K) (hR : (d + 1 ≤ R.frames ∧ 35 * (d + 1) ≤ R.locals) ∧ (cells ≤ R.cells ∧ slots ≤ R.slots)) : rl_callS own cc NC C Q rk sc xl xs (aI p l e R s m args below meth c cells slots nL NC D cA ad A Qw) := by
  intro pc L st σ i m' as K hd h0 h3 h4 kk H locs ls hI hP hD hS hl hL hT
  obtain ⟨v1, v2, v3, o1, o2, o3⟩ := h0
  have hTa : ∀ v ∈ as, OkV v := fun v hv => hT v (List.mem_append_left _ (List.mem_reverse.mpr hv))
  have hTr : OkT st := fun v hv => hT v (List.mem_append_right _ hv)
  have hM := hC m' as σ K h4 hTa
  have hW8 : ((st.map (tr ad)).map fun v => v.category).sum ≤ 8 := by
    have : (st.map (tr ad)).map (fun v => v.category) = st.map catV := by
      rw [List.map_map]; exact List.map_congr_left fun v _ => tr_cat ad v
    rw [this]; exact h3
  rcases v1 with v1 | v1
  · have hG : GoodIn lw_good (va_wsS own i (mY m') (mW m')) := by
      intro w hw
      rcases List.mem_append.mp hw with hw | hw
      · simp only [List.mem_cons, List.not_mem_nil, or_false] at hw
        rcases hw with rfl | rfl | rfl
        · exact gw_good v1
        · exact gw_good v2
        · exact gw_good v3
      · exact mW_good o1 w hw
    exact sd_back (K := K) (d := d) (m' := m') (as := as) (σ := σ) (a := (as.map (tr ad)).toArray) (va_runS (As := as.map (tr ad)) (rest := st.map (tr ad)) ⟨F.1, F.2.1, F.2.2.1, F.2.2.2.1, F.2.2.2.2.1⟩ hM (va_cwS as.length F.2.2.2.2.1 hG rfl rfl rfl o2 ⟨hR.1.1, by have := hR.1.2; simp only [aRm]; omega⟩) ⟨aPc_blind, fun U hU hW => ⟨rfl, hI, by rw [hU]; exact hP, va_K.moved hW.alike F.2.2.2.2.2.1, hD, nw_warm F.2.2.2.2.2.2 hW⟩⟩ rfl (by simp) hl.1 (by simp) (lv_room hW8) hd ⟨hR.2.1, hR.2.2⟩) kk hS hl hL hTr
  · exact sd_back (K := K) (d := d) (m' := m') (as := as) (σ := σ) (a := (as.map (tr ad)).toArray) (va_runSN (As := as.map (tr ad)) (rest := st.map (tr ad)) ⟨F.1, F.2.1, F.2.2.1, F.2.2.2.1, F.2.2.2.2.1⟩ hM ⟨va_cnB as.length F.2.2.2.2.1 (mW_good o1) rfl rfl rfl (F.2.2.2.2.2.2 _ v1) (F.2.2.2.2.1 _ (gw_in v3)) o2 ⟨hR.1.1, by have := hR.1.2; simp only [aRm]; omega⟩, F.2.2.2.2.1 _ (gw_in v2), trivial⟩ ⟨aPc_blind, fun U hU hW => ⟨rfl, hI, by rw [hU]; exact hP, va_K.moved hW.alike F.2.2.2.2.2.1, hD, nw_warm F.2.2.2.2.2.2 hW⟩⟩ rfl (by simp) hl.1 (by simp) (lv_room hW8) hd ⟨hR.2.1, hR.2.2⟩) kk hS hl hL hTr
set_option maxHeartbeats 2000000 in
theorem sd_acopy (F : aFx p s m args c cc own nL D cA) (hR : 1 ≤ R.frames ∧ 35 ≤ R.locals) : rl_acopy own cc NC C Q rk sc xl xs (aI p l e R s m args below meth c cells slots nL NC D cA ad A Qw) := by
  intro pc L st σ i c0 n0 c1 n1 sp dp n hd h0 h1 h2 h3 h4 h5 h6 h7 h8 h9 h10 h11 h12 kk H locs ls hI hP hD hS hl hL hT
  obtain ⟨y1, y2, y3, y4⟩ := h0
  have hn : in32 n := OkT_head hT
  have he0 : (aw NC cA ad σ)[c0]? = some (ad c0, .inl (cA 0, n0, .inl (fun k => Int32.ofInt (σ.1 c0 k)))) := by rw [aw_at h2, ent_a h3]; rfl
  have he1 : (aw NC cA ad σ)[c1]? = some (ad c1, .inl (cA 0, n1, .inl (fun k => Int32.ofInt (σ.1 c1 k)))) := by rw [aw_at h4, ent_a h5]; rfl
  have nn : ∀ z : Int, in32 z → 0 ≤ z → (Int32.ofInt z).toNatClampNeg = z.toNat ∧ ¬ Int32.ofInt z < 0 := by
    intro z hz hz0
    refine ⟨?_, ?_⟩
    · show (Int32.ofInt z).toInt.toNat = _
      rw [nb_in hz]
    · rw [Int32.lt_iff_toInt_lt, nb_in hz, Int32.toInt_zero]; omega
  have hsp := nn sp (OkT_head (OkT_tail (OkT_tail (OkT_tail hT)))) h8
  have hdp := nn dp (OkT_head (OkT_tail hT)) h9
  have hnn := nn n hn h10
  have hW8 : ((st.map (tr ad)).map fun v => v.category).sum ≤ 8 := by
    have : (st.map (tr ad)).map (fun v => v.category) = st.map catV := by
      rw [List.map_map]; exact List.map_congr_left fun v _ => tr_cat ad v
    rw [this]; exact h1
  have e7 : nativeFrameWords "java/lang/System" "arraycopy" 5 = 7 := by decide
  refine va_copyi (rest := st.map (tr ad)) (ty := .int) F.1 F.2.1 (F.2.2.1.trans hl.1.symm) F.2.2.2.1 (F.2.2.2.2.1 _ (gw_in y1)) (F.2.2.2.2.1 _ (gw_in y2)) (F.2.2.2.2.1 _ (gw_in y3)) (F.2.2.2.2.1 _ (gw_in y4)) F.2.2.2.2.2.1 hP hD hS c0 c1 0 0 he0 he1 rfl rfl rfl hsp.2 hdp.2 hnn.2 (by rw [hsp.1, hnn.1]; omega) (by rw [hdp.1, hnn.1]; omega) (fun _ _ => rfl) hR.1 (by rw [e7]; have := hR.2; omega) hd (fun H1 locs1 hP1 hD1 hS1 => ?_)
  rw [hsp.1, hdp.1, hnn.1] at hP1 hD1
  have e : (aw NC cA ad σ).set c1 (ad c1, .inl (cA 0, n1, .inl (va_cpy (fun k => Int32.ofInt (σ.1 c0 k)) (fun k => Int32.ofInt (σ.1 c1 k)) sp.toNat dp.toNat n.toNat))) = aw NC cA ad (sC σ c0 sp.toNat c1 dp.toNat n.toNat) := by
    have e2 : ent cA ad (sC σ c0 sp.toNat c1 dp.toNat n.toNat) c1 = .inl (cA 0, n1, .inl (va_cpy (fun k => Int32.ofInt (σ.1 c0 k)) (fun k => Int32.ofInt (σ.1 c1 k)) sp.toNat dp.toNat n.toNat)) := by
      rw [ent_a h5]
      show Sum.inl (cA 0, n1, Sum.inl _) = _
      congr 4
      funext k
      unfold va_cpy
      rw [sC_at]
      by_cases hk : dp.toNat ≤ k ∧ k < dp.toNat + n.toNat
      · rw [if_pos hk, if_pos ⟨rfl, hk⟩]
      · rw [if_neg hk, if_neg (fun q => hk q.2)]
    rw [← e2]; exact aw_set ent_sC_ne
  rw [e] at hP1 hD1
  exact kk H1 locs1 ls (InS_sC hI) hP1 hD1 hS1 hl hL (OkT_tail (OkT_tail (OkT_tail (OkT_tail (OkT_tail hT)))))
set_option maxHeartbeats 2000000 in
theorem sd_mmax (F : aFx p s m args c cc own nL D cA) (hR : 1 ≤ R.frames ∧ 35 ≤ R.locals) (hR2 : cells ≤ R.cells ∧ slots ≤ R.slots) : rl_mmax own cc NC C Q rk sc xl xs (aI p l e R s m args below meth c cells slots nL NC D cA ad A Qw) := by
  intro pc L st σ i x y hd h0 h1 kk H locs ls hI hP hD hS hl hL hT
  obtain ⟨y1, y2, y3, y4⟩ := h0
  have hy : in32 y := OkT_head hT
  have hx : in32 x := OkT_head (OkT_tail hT)
  have hW8 : ((st.map (tr ad)).map fun v => v.category).sum ≤ 8 := by
    have : (st.map (tr ad)).map (fun v => v.category) = st.map catV := by
      rw [List.map_map]; exact List.map_congr_left fun v _ => tr_cat ad v
    rw [this]; exact h1
  refine va_mmax (rest := st.map (tr ad)) F.1 F.2.1 (F.2.2.1.trans hl.1.symm) F.2.2.2.1 (F.2.2.2.2.1 _ (gw_in y1)) (F.2.2.2.2.1 _ (gw_in y2)) (F.2.2.2.2.1 _ (gw_in y3)) (F.2.2.2.2.1 _ (gw_in y4)) hR.1 (by have := hR.2; omega) hR2.1 hR2.2 hd ?_
  have e : (if Int32.ofInt x < Int32.ofInt y then Int32.ofInt y else Int32.ofInt x) = Int32.ofInt (if x < y then y else x) := by
    by_cases h : x < y
    · rw [if_pos h, if_pos ((nb_lt hx hy).mpr h)]
    · rw [if_neg h, if_neg (fun q => h ((nb_lt hx hy).mp q))]
  rw [e]
  exact kk H locs ls hI hP hD hS hl hL (OkT_cons (show in32 _ by split <;> assumption) (OkT_tail (OkT_tail hT)))
set_option maxHeartbeats 2000000 in
theorem sd_mmin (F : aFx p s m args c cc own nL D cA) (hR : 1 ≤ R.frames ∧ 35 ≤ R.locals) (hR2 : cells ≤ R.cells ∧ slots ≤ R.slots) : rl_mmin own cc NC C Q rk sc xl xs (aI p l e R s m args below meth c cells slots nL NC D cA ad A Qw) := by
  intro pc L st σ i x y hd h0 h1 kk H locs ls hI hP hD hS hl hL hT
  obtain ⟨y1, y2, y3, y4⟩ := h0
  have hy : in32 y := OkT_head hT
  have hx : in32 x := OkT_head (OkT_tail hT)
  have hW8 : ((st.map (tr ad)).map fun v => v.category).sum ≤ 8 := by
    have : (st.map (tr ad)).map (fun v => v.category) = st.map catV := by
      rw [List.map_map]; exact List.map_congr_left fun v _ => tr_cat ad v
    rw [this]; exact h1
  refine va_mmin (rest := st.map (tr ad)) F.1 F.2.1 (F.2.2.1.trans hl.1.symm) F.2.2.2.1 (F.2.2.2.2.1 _ (gw_in y1)) (F.2.2.2.2.1 _ (gw_in y2)) (F.2.2.2.2.1 _ (gw_in y3)) (F.2.2.2.2.1 _ (gw_in y4)) hR.1 (by have := hR.2; omega) hR2.1 hR2.2 hd ?_
  have e : (if Int32.ofInt y < Int32.ofInt x then Int32.ofInt y else Int32.ofInt x) = Int32.ofInt (if y < x then y else x) := by
    by_cases h : y < x
    · rw [if_pos h, if_pos ((nb_lt hy hx).mpr h)]
    · rw [if_neg h, if_neg (fun q => h ((nb_lt hy hx).mp q))]
  rw [e]
  exact kk H locs ls hI hP hD hS hl hL (OkT_cons (show in32 _ by split <;> assumption) (OkT_tail (OkT_tail hT)))
theorem sound {d : Nat} (F : aFx p s m args c cc own nL D cA) (hC : ∀ (m' : Nat) (as : List aV) (σ : aS) (K : aQ), C m' as σ K → (∀ v ∈ as, OkV v) → aMet l D cA ad A NC d m' as σ K) (hR : (d + 1 ≤ R.frames ∧ 35 * (d + 1) ≤ R.locals) ∧ (cells ≤ R.cells ∧ slots ≤ R.slots)) (hX : sc = true → ∃ ys : Nat → Int32, va_X (ad 99) xl ys s s.heap ∧ ad 99 < s.heap.size ∧ ¬ A (ad 99) ∧ ∀ j, ys j = Int32.ofInt (xs j) ∧ in32 (xs j)) (hi : rl_iret own cc NC C Q rk sc xl xs (aI p l e R s m args below meth c cells slots nL NC D cA ad A Qw)) (hj : rl_lret own cc NC C Q rk sc xl xs (aI p l e R s m args below meth c cells slots nL NC D cA ad A Qw)) (hv : rl_vret own cc NC C Q rk sc xl xs (aI p l e R s m args below meth c cells slots nL NC D cA ad A Qw)) : Clos own cc NC C Q rk sc xl xs (aI p l e R s m args below meth c cells slots nL NC D cA ad A Qw) :=
  ⟨sd_iconst F, sd_bipush F, sd_sipush F, sd_lconst F, sd_ldc F, sd_ldcw F, sd_ldc2 F, sd_iload_n F, sd_iload F, sd_istore_n F, sd_istore F, sd_lload_n F, sd_lload F, sd_lstore_n F, sd_lstore F, sd_aload_n F, sd_aload F, sd_astore_n F, sd_astore F, sd_iinc F, sd_iadd F, sd_isub F, sd_imul F, sd_iand F, sd_ior F, sd_ixor F, sd_ineg F, sd_idiv F, sd_irem F, sd_ishl F, sd_ishr F, sd_iushr F, sd_ladd F, sd_lsub F, sd_lmul F, sd_land F, sd_lor F, sd_lxor F, sd_ldiv F, sd_lrem F, sd_lshl F, sd_lushr F, sd_lshr F, sd_lcmp F, sd_i2l F, sd_l2i F, sd_i2b F, sd_i2s F, sd_dup F, sd_if F, sd_icmp F, sd_goto F, sd_tabIn F, sd_tabOut F, sd_lookup F, sd_getI F, sd_getJ F, sd_getR F, sd_putI F, sd_putZ F, sd_putJ F, sd_iaload F, sd_baload F, sd_laload F, sd_aaload F, sd_iastore F, sd_bastore F, sd_lastore F, sd_alen F, sd_ialoadX F hX, sd_alenX F hX, sd_callV F hC hR, sd_callS F hC hR, sd_acopy F ⟨by have := hR.1.1; omega, by have := hR.1.2; omega⟩, sd_mmax F ⟨by have := hR.1.1; omega, by have := hR.1.2; omega⟩ hR.2, sd_mmin F ⟨by have := hR.1.1; omega, by have := hR.1.2; omega⟩ hR.2, hi, hj, hv, sd_keep F⟩
end SNC
theorem mK_0 {m : Nat} (h : mK m = 0) : mR m = some .int := by
  unfold mK at h
  split at h <;> first | assumption | (exact absurd h (by decide))
theorem mK_1 {m : Nat} (h : mK m = 1) : mR m = some .boolean := by
  unfold mK at h
  split at h <;> first | assumption | (exact absurd h (by decide))
theorem mK_2 {m : Nat} (h : mK m = 2) : mR m = some .long := by
  unfold mK at h
  split at h <;> first | assumption | (exact absurd h (by decide))
theorem mK_3 {m : Nat} (h : mK m = 3) : mR m = none := by
  unfold mK at h
  split at h <;> first | assumption | (exact absurd h (by decide))
theorem m_plain : ∀ m, m < 166 → plainName (mY m).cls = true := by decide +kernel
theorem aEnt_len : ∀ (as : List aV) (n : Nat), aWd as ≤ n → (aEnt as n).length = n := by
  intro as
  induction as with
  | nil => intro n _; simp [aEnt]
  | cons v as ih =>
    intro n h
    unfold aEnt
    have e : aWd (v :: as) = catV v + aWd as := by simp [aWd]
    rw [e] at h
    split
    · rename_i hv
      have : catV v = 2 := isL_cat.mpr hv
      rw [List.length_cons, List.length_cons, ih (n - 2) (by omega)]
      omega
    · rename_i hv
      have : catV v = 1 := by rcases v with x | x | x <;> first | rfl | exact absurd rfl hv
      rw [List.length_cons, ih (n - 1) (by omega)]
      omega
theorem aEnt_get {ad : Nat → Nat} {v : aV} : ∀ (as : List aV) (n i k : Nat), (aEnt as n)[k]? = some (some v) → (i + k, tr ad v) ∈ lv_args i (as.map (tr ad)) ∧ v ∈ as := by
  intro as
  induction as with
  | nil =>
    intro n i k h
    simp only [aEnt, List.getElem?_replicate] at h
    split at h <;> cases h
  | cons w as ih =>
    intro n i k h
    unfold aEnt at h
    simp only [List.map_cons, lv_args, tr_cat]
    split at h
    · rename_i hv
      rw [if_pos (isL_cat.mpr hv)]
      match k, h with
      | 0, h => cases h; exact ⟨List.mem_cons_self, List.mem_cons_self⟩
      | 1, h => simp at h
      | k + 2, h =>
        simp only [List.getElem?_cons_succ] at h
        have h2 := ih (n - 2) (i + 2) k h
        rw [show i + (k + 2) = i + 2 + k by omega]
        exact ⟨List.mem_cons_of_mem _ h2.1, List.mem_cons_of_mem _ h2.2⟩
    · rename_i hv
      rw [if_neg (fun q => hv (isL_cat.mp q))]
      match k, h with
      | 0, h => cases h; exact ⟨List.mem_cons_self, List.mem_cons_self⟩
      | k + 1, h =>
        simp only [List.getElem?_cons_succ] at h
        have h2 := ih (n - 1) (i + 1) k h
        rw [show i + (k + 1) = i + 1 + k by omega]
        exact ⟨List.mem_cons_of_mem _ h2.1, List.mem_cons_of_mem _ h2.2⟩
theorem aSl_len {ad : Nat → Nat} : ∀ as : List aV, (lg_sl (as.map (tr ad))).length = aWd as := by
  intro as
  induction as with
  | nil => rfl
  | cons v as ih =>
    have e : aWd (v :: as) = catV v + aWd as := by simp [aWd]
    rw [e, ← ih]
    unfold lg_sl
    simp only [List.map_cons, List.flatMap_cons, List.length_append, tr_cat]
    rcases v with x | x | x <;> simp [catV]
set_option maxHeartbeats 4000000 in
/-- an abstract call is a call of the machine -/
theorem aCall_met {l : Launch} {D : va_G} {cA : Nat → ClassId} {ad : Nat → Nat} {A : Nat → Prop} {NC : Nat} : ∀ (d m : Nat) (as : List aV) (σ : aS) (K : aQ), aCall NC d m as σ K → (∀ v ∈ as, OkV v) → aMet l D cA ad A NC d m as σ K := by
  intro d
  induction d with
  | zero => intro m as σ K h; exact h.elim
  | succ d ih =>
    intro m as σ K h hok
    obtain ⟨⟨hm, hw⟩, hWp⟩ := h
    refine Met.ofW (cc := mC m) (maxL := mL m) (ret := mR m) (m_plain m hm) rfl ?_
    intro p e s mi args below meth c s₁ B hml hv
    obtain ⟨rfl, hI, hP, hK, hD, hN⟩ := hv
    have hts := atoms_spec (ws := mW m) B.pre
    have hown : s.vm.findClass (mY m).cls = some mi.cls := findClass_of_methodNamed B.named
    have hlocks := B.notSynchronized
    have F : aFx p s mi (as.map (tr ad)).toArray c (mC m) (mY m).cls (mL m) D cA := ⟨B.exec, B.bytes, hml, hown, fun w h => hts w (List.mem_cons_of_mem _ h), hK, hN⟩
    have S := hWp (aI p l e (headSpec (mW m) (aRm (d + 1))).room s mi (as.map (tr ad)).toArray below meth c 0 0 (mL m) NC D cA ad A (MQ below (aQc D cA ad A NC K) (as.map (tr ad)).toArray s 0 0 A)) (sound F ih ⟨⟨Nat.le_refl _, Nat.le_refl _⟩, Nat.zero_le _, Nat.zero_le _⟩ (fun h => Bool.noConfusion h) ?_ ?_ ?_)
    · rw [lg_entry_eq]
      have hl := lv_entry (as.map (tr ad)) (n := mL m) (by rw [aSl_len]; exact hw)
      refine S s.heap [] _ hI hP hD va_S.rf ⟨hl.1, aEnt_len as _ hw, hl.2.1, fun k v h => ?_⟩ (fun k v h => ?_) (fun v h => absurd h List.not_mem_nil)
      · have := (aEnt_get (ad := ad) as (mL m) 0 k h).1
        rw [Nat.zero_add] at this
        exact hl.2.2 _ this
      · exact hok v (aEnt_get (ad := ad) as (mL m) 0 k h).2
    · intro pc L σ' x hd h0 h1 H locs ls hI hP hD hS hl hL hT
      rcases h0 with h0 | ⟨h0, hx⟩
      · have hr := B.returns
        rw [mK_0 h0] at hr
        exact W.iret B.exec B.bytes hr (fun t ht hW => ⟨⟨some (vi x), σ', rfl, h1, fun v hv => by cases hv; exact OkT_head hT, hI, by rw [ht]; exact hP, va_K.moved hW.alike hK, hD, nw_warm hN hW⟩, hS.F ht⟩) hS.2.2 hd
      · have hr := B.returns
        rw [mK_1 h0] at hr
        exact W.zret B.exec B.bytes hr (by rcases hx with rfl | rfl <;> decide) (fun t ht hW => ⟨⟨some (vi x), σ', rfl, h1, fun v hv => by cases hv; exact OkT_head hT, hI, by rw [ht]; exact hP, va_K.moved hW.alike hK, hD, nw_warm hN hW⟩, hS.F ht⟩) hS.2.2 hd
    · intro pc L σ' x hd h0 h1 H locs ls hI hP hD hS hl hL hT
      have hr := B.returns
      rw [mK_2 h0] at hr
      exact W.lret B.exec B.bytes hr (fun t ht hW => ⟨⟨some (vl x), σ', rfl, h1, fun v hv => by cases hv; exact OkT_head hT, hI, by rw [ht]; exact hP, va_K.moved hW.alike hK, hD, nw_warm hN hW⟩, hS.F ht⟩) hS.2.2 hd
    · intro pc L σ' hd h0 h1 H locs ls hI hP hD hS hl hL hT
      have hr := B.returns
      rw [mK_3 h0] at hr
      exact W.vret B.exec B.bytes hr (fun t ht hW => ⟨⟨none, σ', rfl, h1, (fun v hv => absurd hv (by simp)), hI, by rw [ht]; exact hP, va_K.moved hW.alike hK, hD, nw_warm hN hW⟩, hS.F ht⟩) hS.2.2 hd
