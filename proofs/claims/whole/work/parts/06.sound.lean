/-! the rules hold of the machine -/
def aT (cA : Nat → ClassId) : List (ClassId × FieldType) := [(cA 0, .int), (cA 1, .long), (cA 2, .boolean), (cA 3, .object RX1)]
theorem gw_in {w : Cond} (h : gw w) : w ∈ lw_good := List.mem_filter.mpr h
theorem cls_in0 : ∀ w ∈ u_ws RX0 TX0 14, gw w := by decide +kernel
theorem cls_in1 : ∀ w ∈ u_ws RX1 TX1 4, gw w := by decide +kernel
theorem cls_in2 : ∀ w ∈ u_ws RX2 TX2 4, gw w := by decide +kernel
theorem cls_in3 : ∀ w ∈ u_ws RX3 TX3 13, gw w := by decide +kernel
theorem cls_in4 : ∀ w ∈ u_ws RX4 TX4 24, gw w := by decide +kernel
theorem cls_in {ci : Nat} (h : ci < 5) : ∀ w ∈ u_ws (clsR ci) (clsT ci) (clsN ci), w ∈ lw_good := by
  intro w hw
  apply gw_in
  match ci, h with
  | 0, _ => exact cls_in0 w hw
  | 1, _ => exact cls_in1 w hw
  | 2, _ => exact cls_in2 w hw
  | 3, _ => exact cls_in3 w hw
  | 4, _ => exact cls_in4 w hw
theorem cls_vw {ci : Nat} (h : ci < 5) : vwCl[ci]? = some (clsR ci, clsT ci, clsN ci) := by
  match ci, h with
  | 0, _ => rfl
  | 1, _ => rfl
  | 2, _ => rfl
  | 3, _ => rfl
  | 4, _ => rfl
theorem cls_ty {ci : Nat} (h : ci < 5) : ∀ k, k < clsN ci → parseFieldDescriptor (clsT ci k).2.2.1 = some (clsY ci k) := by
  match ci, h with
  | 0, _ => exact tyX0_ok
  | 1, _ => exact tyX1_ok
  | 2, _ => exact tyX2_ok
  | 3, _ => exact tyX3_ok
  | 4, _ => exact tyX4_ok
theorem cls_nm {ci : Nat} (h : ci < 5) : ∀ a, a < clsN ci → ∀ b, b < clsN ci → a ≠ b → (clsT ci a).2.1 ≠ (clsT ci b).2.1 := by
  match ci, h with
  | 0, _ => exact nmX0
  | 1, _ => exact nmX1
  | 2, _ => exact nmX2
  | 3, _ => exact nmX3
  | 4, _ => exact nmX4
def aFx (p : Program) (s : State) (m : MethodId) (args : Array Value) (c : Code) (cc : ByteArray) (own : String) (nL : Nat) (D : va_G) (cA : Nat → ClassId) : Prop :=
  p.tables.exec = Jvm.exec ∧ c.code = cc ∧ c.maxLocals = nL ∧ s.vm.findClass own = some m.cls ∧ (∀ w ∈ lw_good, w.before args s = true) ∧ va_K D vwCl (aT cA) s ∧ (∀ w ∈ nestW, va_Nw w s)
/-- a rule's predicate, read as a walk of the machine -/
def aI (p : Program) (l : Launch) (e : Env) (R : Room) (s : State) (m : MethodId) (args : Array Value) (below : List Frame) (meth : Method) (c : Code) (cells slots nL NC : Nat) (D : va_G) (cA : Nat → ClassId) (ad : Nat → Nat) (A : Nat → Prop) (Qw : State → Prop) : aP := fun pc L st σ =>
  ∀ (H : Heap) (locs : List Loc) (ls : Array Slot), InS σ → va_P D vwCl (aw NC cA ad σ) H → va_D A (aw NC cA ad σ) → va_S A s.heap H locs → hasL ad ls nL L → OkL L → OkT st → W p l e R s m args below meth c H locs cells slots Qw (F0 m pc ls (st.map (tr ad)))
section SND
variable {p : Program} {l : Launch} {e : Env} {R : Room} {s : State} {m : MethodId} {args : Array Value} {below : List Frame} {meth : Method} {c : Code} {cells slots nL NC : Nat} {cc : ByteArray} {own : String} {D : va_G} {cA : Nat → ClassId} {ad : Nat → Nat} {A : Nat → Prop} {Qw : State → Prop} {C : aC} {Q : aQ} {rk : Nat} {sc : Bool} {xl : Nat} {xs : Nat → Int}
set_option maxHeartbeats 2000000 in
theorem sd_iconst (F : aFx p s m args c cc own nL D cA) : rl_iconst own cc NC C Q rk sc xl xs (aI p l e R s m args below meth c cells slots nL NC D cA ad A Qw) := by
  intro pc L st σ n hd h0 k H locs ls hI hP hD hS hl hL hT
  refine lv_iconst F.1 F.2.1 hd rfl ?_
  exact k H locs ls hI hP hD hS hl hL (OkT_cons (show in32 n from ⟨by omega, by omega⟩) hT)
set_option maxHeartbeats 2000000 in
theorem sd_bipush (F : aFx p s m args c cc own nL D cA) : rl_bipush own cc NC C Q rk sc xl xs (aI p l e R s m args below meth c cells slots nL NC D cA ad A Qw) := by
  intro pc L st σ n hd h0 k H locs ls hI hP hD hS hl hL hT
  refine lv_bipush F.1 F.2.1 hd (nb_i8 h0.1 h0.2) ?_
  exact k H locs ls hI hP hD hS hl hL (OkT_cons (show in32 n from ⟨by omega, by omega⟩) hT)
set_option maxHeartbeats 2000000 in
theorem sd_sipush (F : aFx p s m args c cc own nL D cA) : rl_sipush own cc NC C Q rk sc xl xs (aI p l e R s m args below meth c cells slots nL NC D cA ad A Qw) := by
  intro pc L st σ n hd h0 k H locs ls hI hP hD hS hl hL hT
  refine lv_sipush F.1 F.2.1 hd (nb_i16 h0.1 h0.2) ?_
  exact k H locs ls hI hP hD hS hl hL (OkT_cons (show in32 n from ⟨by omega, by omega⟩) hT)
set_option maxHeartbeats 2000000 in
theorem sd_lconst (F : aFx p s m args c cc own nL D cA) : rl_lconst own cc NC C Q rk sc xl xs (aI p l e R s m args below meth c cells slots nL NC D cA ad A Qw) := by
  intro pc L st σ n hd k H locs ls hI hP hD hS hl hL hT
  refine lv_lconst (v := Int64.ofBitVec (BitVec.ofNat 64 n.val)) F.1 F.2.1 hd rfl ?_
  exact k H locs ls hI hP hD hS hl hL (OkT_cons trivial hT)
set_option maxHeartbeats 2000000 in
theorem sd_ldc (F : aFx p s m args c cc own nL D cA) : rl_ldc own cc NC C Q rk sc xl xs (aI p l e R s m args below meth c cells slots nL NC D cA ad A Qw) := by
  intro pc L st σ i v hd h0 k H locs ls hI hP hD hS hl hL hT
  refine lv_ldc F.1 F.2.1 F.2.2.2.1 (F.2.2.2.2.1 _ (gw_in h0.2)) hd ?_
  exact k H locs ls hI hP hD hS hl hL (OkT_cons h0.1 hT)
set_option maxHeartbeats 2000000 in
theorem sd_ldcw (F : aFx p s m args c cc own nL D cA) : rl_ldcw own cc NC C Q rk sc xl xs (aI p l e R s m args below meth c cells slots nL NC D cA ad A Qw) := by
  intro pc L st σ i v hd h0 k H locs ls hI hP hD hS hl hL hT
  refine lv_ldcw F.1 F.2.1 F.2.2.2.1 (F.2.2.2.2.1 _ (gw_in h0.2)) hd ?_
  exact k H locs ls hI hP hD hS hl hL (OkT_cons h0.1 hT)
set_option maxHeartbeats 2000000 in
theorem sd_ldc2 (F : aFx p s m args c cc own nL D cA) : rl_ldc2 own cc NC C Q rk sc xl xs (aI p l e R s m args below meth c cells slots nL NC D cA ad A Qw) := by
  intro pc L st σ i v hd h0 k H locs ls hI hP hD hS hl hL hT
  refine lv_ldc2 F.1 F.2.1 F.2.2.2.1 (F.2.2.2.2.1 _ (gw_in h0)) hd ?_
  exact k H locs ls hI hP hD hS hl hL (OkT_cons trivial hT)
set_option maxHeartbeats 2000000 in
theorem sd_iload_n (F : aFx p s m args c cc own nL D cA) : rl_iload_n own cc NC C Q rk sc xl xs (aI p l e R s m args below meth c cells slots nL NC D cA ad A Qw) := by
  intro pc L st σ k x hd h0 kk H locs ls hI hP hD hS hl hL hT
  refine lv_iload_n F.1 F.2.1 hd rfl (hl.2.2.2 _ _ h0) ?_
  exact kk H locs ls hI hP hD hS hl hL (OkT_cons (hL _ _ h0) hT)
set_option maxHeartbeats 2000000 in
theorem sd_iload (F : aFx p s m args c cc own nL D cA) : rl_iload own cc NC C Q rk sc xl xs (aI p l e R s m args below meth c cells slots nL NC D cA ad A Qw) := by
  intro pc L st σ k x hd h0 kk H locs ls hI hP hD hS hl hL hT
  refine lv_iload F.1 F.2.1 hd (hl.2.2.2 _ _ h0) ?_
  exact kk H locs ls hI hP hD hS hl hL (OkT_cons (hL _ _ h0) hT)
set_option maxHeartbeats 2000000 in
theorem sd_istore_n (F : aFx p s m args c cc own nL D cA) : rl_istore_n own cc NC C Q rk sc xl xs (aI p l e R s m args below meth c cells slots nL NC D cA ad A Qw) := by
  intro pc L st σ k x hd h0 kk H locs ls hI hP hD hS hl hL hT
  refine lv_istore_n F.1 F.2.1 hd rfl (hasL_lv hl) (by rw [← hl.2.1]; exact h0) rfl (fun ls' h' => ?_)
  exact kk H locs ls' hI hP hD hS (hasL_st1 hl.2.1 h') (OkL_st1 hL (OkT_head hT)) (OkT_tail hT)
set_option maxHeartbeats 2000000 in
theorem sd_istore (F : aFx p s m args c cc own nL D cA) : rl_istore own cc NC C Q rk sc xl xs (aI p l e R s m args below meth c cells slots nL NC D cA ad A Qw) := by
  intro pc L st σ k x hd h0 kk H locs ls hI hP hD hS hl hL hT
  refine lv_istore F.1 F.2.1 hd (hasL_lv hl) (by rw [← hl.2.1]; exact h0) rfl (fun ls' h' => ?_)
  exact kk H locs ls' hI hP hD hS (hasL_st1 hl.2.1 h') (OkL_st1 hL (OkT_head hT)) (OkT_tail hT)
set_option maxHeartbeats 2000000 in
theorem sd_lload_n (F : aFx p s m args c cc own nL D cA) : rl_lload_n own cc NC C Q rk sc xl xs (aI p l e R s m args below meth c cells slots nL NC D cA ad A Qw) := by
  intro pc L st σ k x hd h0 kk H locs ls hI hP hD hS hl hL hT
  refine lv_lload_n F.1 F.2.1 hd rfl (hl.2.2.2 _ _ h0) ?_
  exact kk H locs ls hI hP hD hS hl hL (OkT_cons (hL _ _ h0) hT)
set_option maxHeartbeats 2000000 in
theorem sd_lload (F : aFx p s m args c cc own nL D cA) : rl_lload own cc NC C Q rk sc xl xs (aI p l e R s m args below meth c cells slots nL NC D cA ad A Qw) := by
  intro pc L st σ k x hd h0 kk H locs ls hI hP hD hS hl hL hT
  refine lv_lload F.1 F.2.1 hd (hl.2.2.2 _ _ h0) ?_
  exact kk H locs ls hI hP hD hS hl hL (OkT_cons (hL _ _ h0) hT)
set_option maxHeartbeats 2000000 in
theorem sd_lstore_n (F : aFx p s m args c cc own nL D cA) : rl_lstore_n own cc NC C Q rk sc xl xs (aI p l e R s m args below meth c cells slots nL NC D cA ad A Qw) := by
  intro pc L st σ k x hd h0 kk H locs ls hI hP hD hS hl hL hT
  refine lv_lstore_n F.1 F.2.1 hd rfl (hasL_lv hl) (by rw [← hl.2.1]; exact h0) rfl (fun ls' h' => ?_)
  exact kk H locs ls' hI hP hD hS (hasL_st2 hl.2.1 h') (OkL_st2 hL (OkT_head hT)) (OkT_tail hT)
set_option maxHeartbeats 2000000 in
theorem sd_lstore (F : aFx p s m args c cc own nL D cA) : rl_lstore own cc NC C Q rk sc xl xs (aI p l e R s m args below meth c cells slots nL NC D cA ad A Qw) := by
  intro pc L st σ k x hd h0 kk H locs ls hI hP hD hS hl hL hT
  refine lv_lstore F.1 F.2.1 hd (hasL_lv hl) (by rw [← hl.2.1]; exact h0) rfl (fun ls' h' => ?_)
  exact kk H locs ls' hI hP hD hS (hasL_st2 hl.2.1 h') (OkL_st2 hL (OkT_head hT)) (OkT_tail hT)
set_option maxHeartbeats 2000000 in
theorem sd_aload_n (F : aFx p s m args c cc own nL D cA) : rl_aload_n own cc NC C Q rk sc xl xs (aI p l e R s m args below meth c cells slots nL NC D cA ad A Qw) := by
  intro pc L st σ k x hd h0 kk H locs ls hI hP hD hS hl hL hT
  refine lv_aload_n F.1 F.2.1 hd rfl (hl.2.2.2 _ _ h0) ?_
  exact kk H locs ls hI hP hD hS hl hL (OkT_cons (hL _ _ h0) hT)
set_option maxHeartbeats 2000000 in
theorem sd_aload (F : aFx p s m args c cc own nL D cA) : rl_aload own cc NC C Q rk sc xl xs (aI p l e R s m args below meth c cells slots nL NC D cA ad A Qw) := by
  intro pc L st σ k x hd h0 kk H locs ls hI hP hD hS hl hL hT
  refine lv_aload F.1 F.2.1 hd (hl.2.2.2 _ _ h0) ?_
  exact kk H locs ls hI hP hD hS hl hL (OkT_cons (hL _ _ h0) hT)
set_option maxHeartbeats 2000000 in
theorem sd_astore_n (F : aFx p s m args c cc own nL D cA) : rl_astore_n own cc NC C Q rk sc xl xs (aI p l e R s m args below meth c cells slots nL NC D cA ad A Qw) := by
  intro pc L st σ k x hd h0 kk H locs ls hI hP hD hS hl hL hT
  refine lv_astore_n F.1 F.2.1 hd rfl (hasL_lv hl) (by rw [← hl.2.1]; exact h0) rfl (fun ls' h' => ?_)
  exact kk H locs ls' hI hP hD hS (hasL_st1 hl.2.1 h') (OkL_st1 hL (OkT_head hT)) (OkT_tail hT)
set_option maxHeartbeats 2000000 in
theorem sd_astore (F : aFx p s m args c cc own nL D cA) : rl_astore own cc NC C Q rk sc xl xs (aI p l e R s m args below meth c cells slots nL NC D cA ad A Qw) := by
  intro pc L st σ k x hd h0 kk H locs ls hI hP hD hS hl hL hT
  refine lv_astore F.1 F.2.1 hd (hasL_lv hl) (by rw [← hl.2.1]; exact h0) rfl (fun ls' h' => ?_)
  exact kk H locs ls' hI hP hD hS (hasL_st1 hl.2.1 h') (OkL_st1 hL (OkT_head hT)) (OkT_tail hT)
set_option maxHeartbeats 2000000 in
theorem sd_iinc (F : aFx p s m args c cc own nL D cA) : rl_iinc own cc NC C Q rk sc xl xs (aI p l e R s m args below meth c cells slots nL NC D cA ad A Qw) := by
  intro pc L st σ k x n hd h0 kk H locs ls hI hP hD hS hl hL hT
  obtain ⟨j, hj⟩ := List.getElem?_of_mem (prs_mem (ad := ad) (L := L) (q := (k, tr ad (vi x))) |>.mpr ⟨vi x, h0, rfl⟩)
  have hk : k < nL := by rw [← hl.2.1]; exact (List.getElem?_eq_some_iff.mp h0).1
  refine lv_iinc (v := Int32.ofInt (w32 (x + n))) F.1 F.2.1 hd (hasL_lv hl) hj (nb_add x n) hk rfl (fun ls' h' => ?_)
  exact kk H locs ls' hI hP hD hS (hasL_st1 (v := vi (w32 (x + n))) hl.2.1 h') (OkL_st1 hL (w32_in _)) hT
set_option maxHeartbeats 2000000 in
theorem sd_iadd (F : aFx p s m args c cc own nL D cA) : rl_iadd own cc NC C Q rk sc xl xs (aI p l e R s m args below meth c cells slots nL NC D cA ad A Qw) := by
  intro pc L st σ x y hd k H locs ls hI hP hD hS hl hL hT
  refine lv_iadd F.1 F.2.1 hd ?_
  rw [nb_add]
  exact k H locs ls hI hP hD hS hl hL (OkT_cons (w32_in _) (OkT_tail (OkT_tail hT)))
set_option maxHeartbeats 2000000 in
theorem sd_isub (F : aFx p s m args c cc own nL D cA) : rl_isub own cc NC C Q rk sc xl xs (aI p l e R s m args below meth c cells slots nL NC D cA ad A Qw) := by
  intro pc L st σ x y hd k H locs ls hI hP hD hS hl hL hT
  refine lv_isub F.1 F.2.1 hd ?_
  rw [nb_sub]
  exact k H locs ls hI hP hD hS hl hL (OkT_cons (w32_in _) (OkT_tail (OkT_tail hT)))
set_option maxHeartbeats 2000000 in
theorem sd_imul (F : aFx p s m args c cc own nL D cA) : rl_imul own cc NC C Q rk sc xl xs (aI p l e R s m args below meth c cells slots nL NC D cA ad A Qw) := by
  intro pc L st σ x y hd k H locs ls hI hP hD hS hl hL hT
  refine lv_imul F.1 F.2.1 hd ?_
  rw [nb_mul]
  exact k H locs ls hI hP hD hS hl hL (OkT_cons (w32_in _) (OkT_tail (OkT_tail hT)))
set_option maxHeartbeats 2000000 in
theorem sd_iand (F : aFx p s m args c cc own nL D cA) : rl_iand own cc NC C Q rk sc xl xs (aI p l e R s m args below meth c cells slots nL NC D cA ad A Qw) := by
  intro pc L st σ x y hd k H locs ls hI hP hD hS hl hL hT
  refine lv_iand F.1 F.2.1 hd ?_
  rw [nb_and]
  exact k H locs ls hI hP hD hS hl hL (OkT_cons (nb_bi _ _ _) (OkT_tail (OkT_tail hT)))
set_option maxHeartbeats 2000000 in
theorem sd_ior (F : aFx p s m args c cc own nL D cA) : rl_ior own cc NC C Q rk sc xl xs (aI p l e R s m args below meth c cells slots nL NC D cA ad A Qw) := by
  intro pc L st σ x y hd k H locs ls hI hP hD hS hl hL hT
  refine lv_ior F.1 F.2.1 hd ?_
  rw [nb_or]
  exact k H locs ls hI hP hD hS hl hL (OkT_cons (nb_bi _ _ _) (OkT_tail (OkT_tail hT)))
set_option maxHeartbeats 2000000 in
theorem sd_ixor (F : aFx p s m args c cc own nL D cA) : rl_ixor own cc NC C Q rk sc xl xs (aI p l e R s m args below meth c cells slots nL NC D cA ad A Qw) := by
  intro pc L st σ x y hd k H locs ls hI hP hD hS hl hL hT
  refine lv_ixor F.1 F.2.1 hd ?_
  rw [nb_xor]
  exact k H locs ls hI hP hD hS hl hL (OkT_cons (nb_bi _ _ _) (OkT_tail (OkT_tail hT)))
set_option maxHeartbeats 2000000 in
theorem sd_ineg (F : aFx p s m args c cc own nL D cA) : rl_ineg own cc NC C Q rk sc xl xs (aI p l e R s m args below meth c cells slots nL NC D cA ad A Qw) := by
  intro pc L st σ x hd k H locs ls hI hP hD hS hl hL hT
  refine lv_ineg F.1 F.2.1 hd ?_
  rw [nb_neg]
  exact k H locs ls hI hP hD hS hl hL (OkT_cons (w32_in _) (OkT_tail hT))
set_option maxHeartbeats 2000000 in
theorem sd_idiv (F : aFx p s m args c cc own nL D cA) : rl_idiv own cc NC C Q rk sc xl xs (aI p l e R s m args below meth c cells slots nL NC D cA ad A Qw) := by
  intro pc L st σ x y hd h0 h1 k H locs ls hI hP hD hS hl hL hT
  have hy : in32 y := OkT_head hT
  have hx : in32 x := OkT_head (OkT_tail hT)
  refine lv_idiv F.1 F.2.1 hd (by rw [nb_0, nb_eq hy nb_i0]; omega) ?_
  rw [nb_div hx hy h0 h1]
  have hd1 : 0 ≤ x / y := Int.ediv_nonneg h0 (by omega)
  have hd2 : x / y ≤ x := Int.ediv_le_self _ h0
  have h2 : in32 (x / y) := ⟨by omega, by have := hx.2; omega⟩
  exact k H locs ls hI hP hD hS hl hL (OkT_cons h2 (OkT_tail (OkT_tail hT)))
set_option maxHeartbeats 2000000 in
theorem sd_irem (F : aFx p s m args c cc own nL D cA) : rl_irem own cc NC C Q rk sc xl xs (aI p l e R s m args below meth c cells slots nL NC D cA ad A Qw) := by
  intro pc L st σ x y hd h0 h1 k H locs ls hI hP hD hS hl hL hT
  have hy : in32 y := OkT_head hT
  have hx : in32 x := OkT_head (OkT_tail hT)
  refine lv_irem F.1 F.2.1 hd (by rw [nb_0, nb_eq hy nb_i0]; omega) ?_
  rw [nb_rem hx hy h0 h1]
  have hd1 : 0 ≤ x % y := Int.emod_nonneg _ (by omega)
  have hd2 : x % y < y := Int.emod_lt_of_pos _ h1
  have h2 : in32 (x % y) := ⟨by omega, by have := hy.2; omega⟩
  exact k H locs ls hI hP hD hS hl hL (OkT_cons h2 (OkT_tail (OkT_tail hT)))
set_option maxHeartbeats 2000000 in
theorem sd_ishl (F : aFx p s m args c cc own nL D cA) : rl_ishl own cc NC C Q rk sc xl xs (aI p l e R s m args below meth c cells slots nL NC D cA ad A Qw) := by
  intro pc L st σ x y hd h0 h1 k H locs ls hI hP hD hS hl hL hT
  refine lv_ishl F.1 F.2.1 hd ?_
  rw [nb_shl x y h0 h1]
  exact k H locs ls hI hP hD hS hl hL (OkT_cons (w32_in _) (OkT_tail (OkT_tail hT)))
set_option maxHeartbeats 2000000 in
theorem sd_ishr (F : aFx p s m args c cc own nL D cA) : rl_ishr own cc NC C Q rk sc xl xs (aI p l e R s m args below meth c cells slots nL NC D cA ad A Qw) := by
  intro pc L st σ x y hd h0 h1 k H locs ls hI hP hD hS hl hL hT
  have hx : in32 x := OkT_head (OkT_tail hT)
  refine lv_ishr F.1 F.2.1 hd ?_
  rw [(nb_shr hx h0 h1).1]
  exact k H locs ls hI hP hD hS hl hL (OkT_cons (nb_shr hx h0 h1).2 (OkT_tail (OkT_tail hT)))
set_option maxHeartbeats 2000000 in
theorem sd_iushr (F : aFx p s m args c cc own nL D cA) : rl_iushr own cc NC C Q rk sc xl xs (aI p l e R s m args below meth c cells slots nL NC D cA ad A Qw) := by
  intro pc L st σ x y hd h0 h1 k H locs ls hI hP hD hS hl hL hT
  refine lv_iushr F.1 F.2.1 hd (nb_ushr x y h0 h1) ?_
  exact k H locs ls hI hP hD hS hl hL (OkT_cons (w32_in _) (OkT_tail (OkT_tail hT)))
set_option maxHeartbeats 2000000 in
theorem sd_ladd (F : aFx p s m args c cc own nL D cA) : rl_ladd own cc NC C Q rk sc xl xs (aI p l e R s m args below meth c cells slots nL NC D cA ad A Qw) := by
  intro pc L st σ x y hd k H locs ls hI hP hD hS hl hL hT
  refine lv_ladd F.1 F.2.1 hd ?_
  exact k H locs ls hI hP hD hS hl hL (OkT_cons trivial (OkT_tail (OkT_tail hT)))
set_option maxHeartbeats 2000000 in
theorem sd_lsub (F : aFx p s m args c cc own nL D cA) : rl_lsub own cc NC C Q rk sc xl xs (aI p l e R s m args below meth c cells slots nL NC D cA ad A Qw) := by
  intro pc L st σ x y hd k H locs ls hI hP hD hS hl hL hT
  refine lv_lsub F.1 F.2.1 hd ?_
  exact k H locs ls hI hP hD hS hl hL (OkT_cons trivial (OkT_tail (OkT_tail hT)))
set_option maxHeartbeats 2000000 in
theorem sd_lmul (F : aFx p s m args c cc own nL D cA) : rl_lmul own cc NC C Q rk sc xl xs (aI p l e R s m args below meth c cells slots nL NC D cA ad A Qw) := by
  intro pc L st σ x y hd k H locs ls hI hP hD hS hl hL hT
  refine lv_lmul F.1 F.2.1 hd ?_
  exact k H locs ls hI hP hD hS hl hL (OkT_cons trivial (OkT_tail (OkT_tail hT)))
set_option maxHeartbeats 2000000 in
theorem sd_land (F : aFx p s m args c cc own nL D cA) : rl_land own cc NC C Q rk sc xl xs (aI p l e R s m args below meth c cells slots nL NC D cA ad A Qw) := by
  intro pc L st σ x y hd k H locs ls hI hP hD hS hl hL hT
  refine lv_land F.1 F.2.1 hd ?_
  exact k H locs ls hI hP hD hS hl hL (OkT_cons trivial (OkT_tail (OkT_tail hT)))
set_option maxHeartbeats 2000000 in
theorem sd_lor (F : aFx p s m args c cc own nL D cA) : rl_lor own cc NC C Q rk sc xl xs (aI p l e R s m args below meth c cells slots nL NC D cA ad A Qw) := by
  intro pc L st σ x y hd k H locs ls hI hP hD hS hl hL hT
  refine lv_lor F.1 F.2.1 hd ?_
  exact k H locs ls hI hP hD hS hl hL (OkT_cons trivial (OkT_tail (OkT_tail hT)))
set_option maxHeartbeats 2000000 in
theorem sd_lxor (F : aFx p s m args c cc own nL D cA) : rl_lxor own cc NC C Q rk sc xl xs (aI p l e R s m args below meth c cells slots nL NC D cA ad A Qw) := by
  intro pc L st σ x y hd k H locs ls hI hP hD hS hl hL hT
  refine lv_lxor F.1 F.2.1 hd ?_
  exact k H locs ls hI hP hD hS hl hL (OkT_cons trivial (OkT_tail (OkT_tail hT)))
set_option maxHeartbeats 2000000 in
theorem sd_ldiv (F : aFx p s m args c cc own nL D cA) : rl_ldiv own cc NC C Q rk sc xl xs (aI p l e R s m args below meth c cells slots nL NC D cA ad A Qw) := by
  intro pc L st σ x y hd h0 h1 h2 k H locs ls hI hP hD hS hl hL hT
  refine lv_ldiv F.1 F.2.1 hd (fun q => by have q := congrArg (fun z => z.toBitVec.toNat) q; simp at q; rw [q] at h2; simp at h2) ?_
  rw [nb_ldiv h0 h1]
  exact k H locs ls hI hP hD hS hl hL (OkT_cons trivial (OkT_tail (OkT_tail hT)))
set_option maxHeartbeats 2000000 in
theorem sd_lrem (F : aFx p s m args c cc own nL D cA) : rl_lrem own cc NC C Q rk sc xl xs (aI p l e R s m args below meth c cells slots nL NC D cA ad A Qw) := by
  intro pc L st σ x y hd h0 h1 h2 k H locs ls hI hP hD hS hl hL hT
  refine lv_lrem F.1 F.2.1 hd (fun q => by have q := congrArg (fun z => z.toBitVec.toNat) q; simp at q; rw [q] at h2; simp at h2) ?_
  rw [nb_lrem h0 h1]
  exact k H locs ls hI hP hD hS hl hL (OkT_cons trivial (OkT_tail (OkT_tail hT)))
set_option maxHeartbeats 2000000 in
theorem sd_lshl (F : aFx p s m args c cc own nL D cA) : rl_lshl own cc NC C Q rk sc xl xs (aI p l e R s m args below meth c cells slots nL NC D cA ad A Qw) := by
  intro pc L st σ x y hd h0 h1 k H locs ls hI hP hD hS hl hL hT
  refine lv_lshl F.1 F.2.1 hd (nb_lshl x h0 h1) ?_
  exact k H locs ls hI hP hD hS hl hL (OkT_cons trivial (OkT_tail (OkT_tail hT)))
set_option maxHeartbeats 2000000 in
theorem sd_lushr (F : aFx p s m args c cc own nL D cA) : rl_lushr own cc NC C Q rk sc xl xs (aI p l e R s m args below meth c cells slots nL NC D cA ad A Qw) := by
  intro pc L st σ x y hd h0 h1 k H locs ls hI hP hD hS hl hL hT
  refine lv_lushr F.1 F.2.1 hd (nb_lushr x h0 h1) ?_
  exact k H locs ls hI hP hD hS hl hL (OkT_cons trivial (OkT_tail (OkT_tail hT)))
set_option maxHeartbeats 2000000 in
theorem sd_lshr (F : aFx p s m args c cc own nL D cA) : rl_lshr own cc NC C Q rk sc xl xs (aI p l e R s m args below meth c cells slots nL NC D cA ad A Qw) := by
  intro pc L st σ x y hd h0 h1 k H locs ls hI hP hD hS hl hL hT
  refine lv_lshr F.1 F.2.1 hd (nb_lshr x h0 h1) ?_
  exact k H locs ls hI hP hD hS hl hL (OkT_cons trivial (OkT_tail (OkT_tail hT)))
set_option maxHeartbeats 2000000 in
theorem sd_lcmp (F : aFx p s m args c cc own nL D cA) : rl_lcmp own cc NC C Q rk sc xl xs (aI p l e R s m args below meth c cells slots nL NC D cA ad A Qw) := by
  intro pc L st σ x y hd k H locs ls hI hP hD hS hl hL hT
  refine W.lcmp F.1 F.2.1 hd ?_
  rw [(nb_lcmp x y).1]
  exact k H locs ls hI hP hD hS hl hL (OkT_cons (nb_lcmp x y).2 (OkT_tail (OkT_tail hT)))
set_option maxHeartbeats 2000000 in
theorem sd_i2l (F : aFx p s m args c cc own nL D cA) : rl_i2l own cc NC C Q rk sc xl xs (aI p l e R s m args below meth c cells slots nL NC D cA ad A Qw) := by
  intro pc L st σ x hd k H locs ls hI hP hD hS hl hL hT
  refine lv_i2l F.1 F.2.1 hd (nb_i2l (OkT_head hT)) ?_
  exact k H locs ls hI hP hD hS hl hL (OkT_cons trivial (OkT_tail hT))
set_option maxHeartbeats 2000000 in
theorem sd_l2i (F : aFx p s m args c cc own nL D cA) : rl_l2i own cc NC C Q rk sc xl xs (aI p l e R s m args below meth c cells slots nL NC D cA ad A Qw) := by
  intro pc L st σ x hd k H locs ls hI hP hD hS hl hL hT
  refine lv_l2i F.1 F.2.1 hd (nb_l2i x) ?_
  exact k H locs ls hI hP hD hS hl hL (OkT_cons (nb_bin _) (OkT_tail hT))
set_option maxHeartbeats 2000000 in
theorem sd_i2b (F : aFx p s m args c cc own nL D cA) : rl_i2b own cc NC C Q rk sc xl xs (aI p l e R s m args below meth c cells slots nL NC D cA ad A Qw) := by
  intro pc L st σ x hd k H locs ls hI hP hD hS hl hL hT
  refine lv_i2b F.1 F.2.1 hd (nb_i2b (OkT_head hT)) ?_
  exact k H locs ls hI hP hD hS hl hL (OkT_cons (show in32 _ by unfold in32; omega) (OkT_tail hT))
set_option maxHeartbeats 2000000 in
theorem sd_i2s (F : aFx p s m args c cc own nL D cA) : rl_i2s own cc NC C Q rk sc xl xs (aI p l e R s m args below meth c cells slots nL NC D cA ad A Qw) := by
  intro pc L st σ x hd k H locs ls hI hP hD hS hl hL hT
  refine lv_i2s F.1 F.2.1 hd (nb_i2s (OkT_head hT)) ?_
  exact k H locs ls hI hP hD hS hl hL (OkT_cons (show in32 _ by unfold in32; omega) (OkT_tail hT))
set_option maxHeartbeats 2000000 in
theorem sd_dup (F : aFx p s m args c cc own nL D cA) : rl_dup own cc NC C Q rk sc xl xs (aI p l e R s m args below meth c cells slots nL NC D cA ad A Qw) := by
  intro pc L st σ v hd h0 k H locs ls hI hP hD hS hl hL hT
  refine lv_dup F.1 F.2.1 hd (by rw [tr_cat]; rcases v with x | x | x; rfl; exact Bool.noConfusion h0; rfl) ?_
  exact k H locs ls hI hP hD hS hl hL (OkT_cons (OkT_head hT) hT)
set_option maxHeartbeats 2000000 in
theorem sd_if (F : aFx p s m args c cc own nL D cA) : rl_if own cc NC C Q rk sc xl xs (aI p l e R s m args below meth c cells slots nL NC D cA ad A Qw) := by
  intro pc L st σ o off tgt x hd h0 k0 k1 H locs ls hI hP hD hS hl hL hT
  have hx : in32 x := OkT_head hT
  have h1 := OkT_tail hT
  cases o
  · refine lv_if_eq F.1 F.2.1 hd h0 (fun q => k0 ?_ H locs ls hI hP hD hS hl hL h1) (fun q => k1 ?_ H locs ls hI hP hD hS hl hL h1)
    · exact (nb_eq hx nb_i0).mp (by rw [← nb_0]; exact q)
    · exact fun z => q (by rw [nb_0]; exact (nb_eq hx nb_i0).mpr z)
  · refine lv_if_ne F.1 F.2.1 hd h0 (fun q => k0 ?_ H locs ls hI hP hD hS hl hL h1) (fun q => k1 ?_ H locs ls hI hP hD hS hl hL h1)
    · exact fun z => q (by rw [nb_0]; exact (nb_eq hx nb_i0).mpr z)
    · exact fun z => z ((nb_eq hx nb_i0).mp (by rw [← nb_0]; exact q))
  · refine lv_if_lt F.1 F.2.1 hd h0 (fun q => k0 ?_ H locs ls hI hP hD hS hl hL h1) (fun q => k1 ?_ H locs ls hI hP hD hS hl hL h1)
    · exact (nb_lt hx nb_i0).mp (by rw [← nb_0]; exact q)
    · exact fun z => q (by rw [nb_0]; exact (nb_lt hx nb_i0).mpr z)
  · refine lv_if_ge F.1 F.2.1 hd h0 (fun q => k0 ?_ H locs ls hI hP hD hS hl hL h1) (fun q => k1 ?_ H locs ls hI hP hD hS hl hL h1)
    · exact (nb_le nb_i0 hx).mp (by rw [← nb_0]; exact q)
    · exact fun z => q (by rw [nb_0]; exact (nb_le nb_i0 hx).mpr z)
  · refine lv_if_gt F.1 F.2.1 hd h0 (fun q => k0 ?_ H locs ls hI hP hD hS hl hL h1) (fun q => k1 ?_ H locs ls hI hP hD hS hl hL h1)
    · exact (nb_lt nb_i0 hx).mp (by rw [← nb_0]; exact q)
    · exact fun z => q (by rw [nb_0]; exact (nb_lt nb_i0 hx).mpr z)
  · refine lv_if_le F.1 F.2.1 hd h0 (fun q => k0 ?_ H locs ls hI hP hD hS hl hL h1) (fun q => k1 ?_ H locs ls hI hP hD hS hl hL h1)
    · exact (nb_le hx nb_i0).mp (by rw [← nb_0]; exact q)
    · exact fun z => q (by rw [nb_0]; exact (nb_le hx nb_i0).mpr z)
set_option maxHeartbeats 2000000 in
theorem sd_icmp (F : aFx p s m args c cc own nL D cA) : rl_icmp own cc NC C Q rk sc xl xs (aI p l e R s m args below meth c cells slots nL NC D cA ad A Qw) := by
  intro pc L st σ o off tgt x y hd h0 k0 k1 H locs ls hI hP hD hS hl hL hT
  have hy : in32 y := OkT_head hT
  have hx : in32 x := OkT_head (OkT_tail hT)
  have h1 := OkT_tail (OkT_tail hT)
  cases o
  · refine lv_icmp_eq F.1 F.2.1 hd h0 (fun q => k0 ?_ H locs ls hI hP hD hS hl hL h1) (fun q => k1 ?_ H locs ls hI hP hD hS hl hL h1)
    · exact (nb_eq hx hy).mp q
    · exact fun z => q ((nb_eq hx hy).mpr z)
  · refine lv_icmp_ne F.1 F.2.1 hd h0 (fun q => k0 ?_ H locs ls hI hP hD hS hl hL h1) (fun q => k1 ?_ H locs ls hI hP hD hS hl hL h1)
    · exact fun z => q ((nb_eq hx hy).mpr z)
    · exact fun z => z ((nb_eq hx hy).mp q)
  · refine lv_icmp_lt F.1 F.2.1 hd h0 (fun q => k0 ?_ H locs ls hI hP hD hS hl hL h1) (fun q => k1 ?_ H locs ls hI hP hD hS hl hL h1)
    · exact (nb_lt hx hy).mp q
    · exact fun z => q ((nb_lt hx hy).mpr z)
  · refine lv_icmp_ge F.1 F.2.1 hd h0 (fun q => k0 ?_ H locs ls hI hP hD hS hl hL h1) (fun q => k1 ?_ H locs ls hI hP hD hS hl hL h1)
    · exact (nb_le hy hx).mp q
    · exact fun z => q ((nb_le hy hx).mpr z)
  · refine lv_icmp_gt F.1 F.2.1 hd h0 (fun q => k0 ?_ H locs ls hI hP hD hS hl hL h1) (fun q => k1 ?_ H locs ls hI hP hD hS hl hL h1)
    · exact (nb_lt hy hx).mp q
    · exact fun z => q ((nb_lt hy hx).mpr z)
  · refine lv_icmp_le F.1 F.2.1 hd h0 (fun q => k0 ?_ H locs ls hI hP hD hS hl hL h1) (fun q => k1 ?_ H locs ls hI hP hD hS hl hL h1)
    · exact (nb_le hx hy).mp q
    · exact fun z => q ((nb_le hx hy).mpr z)
set_option maxHeartbeats 2000000 in
theorem sd_goto (F : aFx p s m args c cc own nL D cA) : rl_goto own cc NC C Q rk sc xl xs (aI p l e R s m args below meth c cells slots nL NC D cA ad A Qw) := by
  intro pc L st σ off tgt hd h0 k H locs ls hI hP hD hS hl hL hT
  refine lv_goto F.1 F.2.1 hd h0 ?_
  exact k H locs ls hI hP hD hS hl hL hT
set_option maxHeartbeats 2000000 in
theorem sd_tabIn (F : aFx p s m args c cc own nL D cA) : rl_tabIn own cc NC C Q rk sc xl xs (aI p l e R s m args below meth c cells slots nL NC D cA ad A Qw) := by
  intro pc L st σ dflt lo hi off offs len tgt x hd h0 h1 h2 h3 k H locs ls hI hP hD hS hl hL hT
  have hx : in32 x := OkT_head hT
  refine lv_tableIn F.1 F.2.1 hd (by rw [nb_in hx]; omega) (by rw [nb_in hx]; omega) (by rw [nb_in hx]; exact h2) h3 ?_
  exact k H locs ls hI hP hD hS hl hL (OkT_tail hT)
set_option maxHeartbeats 2000000 in
theorem sd_tabOut (F : aFx p s m args c cc own nL D cA) : rl_tabOut own cc NC C Q rk sc xl xs (aI p l e R s m args below meth c cells slots nL NC D cA ad A Qw) := by
  intro pc L st σ dflt lo hi offs len tgt x hd h0 h1 k H locs ls hI hP hD hS hl hL hT
  have hx : in32 x := OkT_head hT
  refine lv_tableOut F.1 F.2.1 hd (by rw [nb_in hx]; exact h0) h1 ?_
  exact k H locs ls hI hP hD hS hl hL (OkT_tail hT)
set_option maxHeartbeats 2000000 in
theorem sd_lookup (F : aFx p s m args c cc own nL D cA) : rl_lookup own cc NC C Q rk sc xl xs (aI p l e R s m args below meth c cells slots nL NC D cA ad A Qw) := by
  intro pc L st σ dflt off ps len tgt x hd h0 h1 h2 k H locs ls hI hP hD hS hl hL hT
  have hx : in32 x := OkT_head hT
  refine lv_lookup F.1 F.2.1 hd h0 (by rw [nb_in hx]; exact h1) h2 ?_
  exact k H locs ls hI hP hD hS hl hL (OkT_tail hT)
set_option maxHeartbeats 2000000 in
theorem sd_getI (F : aFx p s m args c cc own nL D cA) : rl_getI own cc NC C Q rk sc xl xs (aI p l e R s m args below meth c cells slots nL NC D cA ad A Qw) := by
  intro pc L st σ i ci k q fk hd h0 h1 h2 h3 kk H locs ls hI hP hD hS hl hL hT
  have he : (aw NC cA ad σ)[q]? = some (ad q, .inr (ci, fvs ad σ q fk)) := by rw [aw_at h1, ent_o h2]
  refine va_get (D := D) (ci := ci) (C := clsR ci) (T := clsT ci) (N := clsN ci) F.1 F.2.1 F.2.2.2.2.1 (cls_in h0.1) F.2.2.2.1 F.2.2.2.2.2.1 hP q he (cls_vw h0.1) k h0.2.1 (F.2.2.2.2.1 _ (gw_in h0.2.2)) (fun _ h => h) (v := .int (Int32.ofInt (σ.1 q k))) (by rcases h3 with h3 | h3 <;> rw [fvs_at h3] <;> rfl) hd ?_
  exact kk H locs ls hI hP hD hS hl hL (OkT_cons (hI q k) (OkT_tail hT))
set_option maxHeartbeats 2000000 in
theorem sd_getJ (F : aFx p s m args c cc own nL D cA) : rl_getJ own cc NC C Q rk sc xl xs (aI p l e R s m args below meth c cells slots nL NC D cA ad A Qw) := by
  intro pc L st σ i ci k q fk hd h0 h1 h2 h3 kk H locs ls hI hP hD hS hl hL hT
  have he : (aw NC cA ad σ)[q]? = some (ad q, .inr (ci, fvs ad σ q fk)) := by rw [aw_at h1, ent_o h2]
  refine va_get (D := D) (ci := ci) (C := clsR ci) (T := clsT ci) (N := clsN ci) F.1 F.2.1 F.2.2.2.2.1 (cls_in h0.1) F.2.2.2.1 F.2.2.2.2.2.1 hP q he (cls_vw h0.1) k h0.2.1 (F.2.2.2.2.1 _ (gw_in h0.2.2)) (fun _ h => h) (v := .long (Int64.ofBitVec (σ.2 q k))) (by rw [fvs_at h3]; rfl) hd ?_
  exact kk H locs ls hI hP hD hS hl hL (OkT_cons trivial (OkT_tail hT))
set_option maxHeartbeats 2000000 in
theorem sd_getR (F : aFx p s m args c cc own nL D cA) : rl_getR own cc NC C Q rk sc xl xs (aI p l e R s m args below meth c cells slots nL NC D cA ad A Qw) := by
  intro pc L st σ i ci k q r fk hd h0 h1 h2 h3 kk H locs ls hI hP hD hS hl hL hT
  have he : (aw NC cA ad σ)[q]? = some (ad q, .inr (ci, fvs ad σ q fk)) := by rw [aw_at h1, ent_o h2]
  refine va_get (D := D) (ci := ci) (C := clsR ci) (T := clsT ci) (N := clsN ci) F.1 F.2.1 F.2.2.2.2.1 (cls_in h0.1) F.2.2.2.1 F.2.2.2.2.2.1 hP q he (cls_vw h0.1) k h0.2.1 (F.2.2.2.2.1 _ (gw_in h0.2.2)) (fun _ h => h) (v := .ref (ad r)) (by rw [fvs_at h3]; rfl) hd ?_
  exact kk H locs ls hI hP hD hS hl hL (OkT_cons trivial (OkT_tail hT))
set_option maxHeartbeats 2000000 in
theorem sd_putI (F : aFx p s m args c cc own nL D cA) : rl_putI own cc NC C Q rk sc xl xs (aI p l e R s m args below meth c cells slots nL NC D cA ad A Qw) := by
  intro pc L st σ i ci k q fk x hd h0 h1 h2 h3 h4 h5 kk H locs ls hI hP hD hS hl hL hT
  have he : (aw NC cA ad σ)[q]? = some (ad q, .inr (ci, fvs ad σ q fk)) := by rw [aw_at h1, ent_o h2]
  refine va_put (v := .int (Int32.ofInt x)) (D := D) (ci := ci) (C := clsR ci) (T := clsT ci) (N := clsN ci) (ty := clsY ci k) F.1 F.2.1 F.2.2.2.2.1 (cls_in h0.1) (clsY ci) (cls_ty h0.1) (cls_nm h0.1) F.2.2.2.1 F.2.2.2.2.2.1 hP hD hS q he (cls_vw h0.1) k h0.2.1 (F.2.2.2.2.1 _ (gw_in h0.2.2)) (fun _ h => h) h4 (cls_ty h0.1 k h0.2.1) (by rw [h5]; rfl) (by rw [h5]; rfl) (by rw [fvs_len]; exact (List.getElem?_eq_some_iff.mp h3).1) hd (fun H1 locs1 hP1 hD1 hS1 => ?_)
  have e : (aw NC cA ad σ).set q (ad q, .inr (ci, (fvs ad σ q fk).set k (.int (Int32.ofInt x)))) = aw NC cA ad (sI σ q k x) := by
    rw [fvs_sI h3 (Or.inl rfl), ← ent_o (cA := cA) h2]; exact aw_set ent_sI_ne
  rw [e] at hP1 hD1
  exact kk H1 locs1 ls (InS_sI hI (OkT_head hT)) hP1 hD1 hS1 hl hL (OkT_tail (OkT_tail hT))
set_option maxHeartbeats 2000000 in
theorem sd_putZ (F : aFx p s m args c cc own nL D cA) : rl_putZ own cc NC C Q rk sc xl xs (aI p l e R s m args below meth c cells slots nL NC D cA ad A Qw) := by
  intro pc L st σ i ci k q fk x hd h0 h1 h2 h3 h4 h5 h6 kk H locs ls hI hP hD hS hl hL hT
  have he : (aw NC cA ad σ)[q]? = some (ad q, .inr (ci, fvs ad σ q fk)) := by rw [aw_at h1, ent_o h2]
  refine va_put (v := .int (Int32.ofInt x)) (D := D) (ci := ci) (C := clsR ci) (T := clsT ci) (N := clsN ci) (ty := clsY ci k) F.1 F.2.1 F.2.2.2.2.1 (cls_in h0.1) (clsY ci) (cls_ty h0.1) (cls_nm h0.1) F.2.2.2.1 F.2.2.2.2.2.1 hP hD hS q he (cls_vw h0.1) k h0.2.1 (F.2.2.2.2.1 _ (gw_in h0.2.2)) (fun _ h => h) h4 (cls_ty h0.1 k h0.2.1) (by rw [h5]; rcases h6 with rfl | rfl <;> decide) (by rw [h5]; rcases h6 with rfl | rfl <;> decide) (by rw [fvs_len]; exact (List.getElem?_eq_some_iff.mp h3).1) hd (fun H1 locs1 hP1 hD1 hS1 => ?_)
  have e : (aw NC cA ad σ).set q (ad q, .inr (ci, (fvs ad σ q fk).set k (.int (Int32.ofInt x)))) = aw NC cA ad (sI σ q k x) := by
    rw [fvs_sI h3 (Or.inr rfl), ← ent_o (cA := cA) h2]; exact aw_set ent_sI_ne
  rw [e] at hP1 hD1
  exact kk H1 locs1 ls (InS_sI hI (OkT_head hT)) hP1 hD1 hS1 hl hL (OkT_tail (OkT_tail hT))
set_option maxHeartbeats 2000000 in
theorem sd_putJ (F : aFx p s m args c cc own nL D cA) : rl_putJ own cc NC C Q rk sc xl xs (aI p l e R s m args below meth c cells slots nL NC D cA ad A Qw) := by
  intro pc L st σ i ci k q fk x hd h0 h1 h2 h3 h4 h5 kk H locs ls hI hP hD hS hl hL hT
  have he : (aw NC cA ad σ)[q]? = some (ad q, .inr (ci, fvs ad σ q fk)) := by rw [aw_at h1, ent_o h2]
  refine va_put (v := .long (Int64.ofBitVec x)) (D := D) (ci := ci) (C := clsR ci) (T := clsT ci) (N := clsN ci) (ty := clsY ci k) F.1 F.2.1 F.2.2.2.2.1 (cls_in h0.1) (clsY ci) (cls_ty h0.1) (cls_nm h0.1) F.2.2.2.1 F.2.2.2.2.2.1 hP hD hS q he (cls_vw h0.1) k h0.2.1 (F.2.2.2.2.1 _ (gw_in h0.2.2)) (fun _ h => h) h4 (cls_ty h0.1 k h0.2.1) (by rw [h5]; rfl) (by rw [h5]; rfl) (by rw [fvs_len]; exact (List.getElem?_eq_some_iff.mp h3).1) hd (fun H1 locs1 hP1 hD1 hS1 => ?_)
  have e : (aw NC cA ad σ).set q (ad q, .inr (ci, (fvs ad σ q fk).set k (.long (Int64.ofBitVec x)))) = aw NC cA ad (sJ σ q k x) := by
    rw [fvs_sJ h3, ← ent_o (cA := cA) h2]; exact aw_set ent_sJ_ne
  rw [e] at hP1 hD1
  exact kk H1 locs1 ls (InS_sJ hI) hP1 hD1 hS1 hl hL (OkT_tail (OkT_tail hT))
set_option maxHeartbeats 2000000 in
theorem sd_iaload (F : aFx p s m args c cc own nL D cA) : rl_iaload own cc NC C Q rk sc xl xs (aI p l e R s m args below meth c cells slots nL NC D cA ad A Qw) := by
  intro pc L st σ q n j hd h0 h1 h2 h3 h4 kk H locs ls hI hP hD hS hl hL hT
  have he : (aw NC cA ad σ)[q]? = some (ad q, .inl (cA 0, n, .inl (fun k => Int32.ofInt (σ.1 q k)))) := by rw [aw_at h0, ent_a h1]; rfl
  have hv := nb_vp h2 h3 h4
  refine va_iald F.1 F.2.1 F.2.2.2.2.2.1 hP q 0 he rfl hv.1 hd ?_
  rw [hv.2.1]
  exact kk H locs ls hI hP hD hS hl hL (OkT_cons (hI q _) (OkT_tail (OkT_tail hT)))
set_option maxHeartbeats 2000000 in
theorem sd_baload (F : aFx p s m args c cc own nL D cA) : rl_baload own cc NC C Q rk sc xl xs (aI p l e R s m args below meth c cells slots nL NC D cA ad A Qw) := by
  intro pc L st σ q n j hd h0 h1 h2 h3 h4 kk H locs ls hI hP hD hS hl hL hT
  have he : (aw NC cA ad σ)[q]? = some (ad q, .inl (cA 2, n, .inl (fun k => Int32.ofInt (σ.1 q k)))) := by rw [aw_at h0, ent_a h1]; rfl
  have hv := nb_vp h2 h3 h4
  refine va_zald F.1 F.2.1 F.2.2.2.2.2.1 hP q 2 he rfl hv.1 hd ?_
  rw [hv.2.1]
  exact kk H locs ls hI hP hD hS hl hL (OkT_cons (hI q _) (OkT_tail (OkT_tail hT)))
set_option maxHeartbeats 2000000 in
theorem sd_laload (F : aFx p s m args c cc own nL D cA) : rl_laload own cc NC C Q rk sc xl xs (aI p l e R s m args below meth c cells slots nL NC D cA ad A Qw) := by
  intro pc L st σ q n j hd h0 h1 h2 h3 h4 kk H locs ls hI hP hD hS hl hL hT
  have he : (aw NC cA ad σ)[q]? = some (ad q, .inl (cA 1, n, .inr (.inl (fun k => Int64.ofBitVec (σ.2 q k))))) := by rw [aw_at h0, ent_a h1]; rfl
  have hv := nb_vp h2 h3 h4
  refine va_lald F.1 F.2.1 F.2.2.2.2.2.1 hP q 1 he rfl hv.1 hd ?_
  rw [hv.2.1]
  exact kk H locs ls hI hP hD hS hl hL (OkT_cons (trivial) (OkT_tail (OkT_tail hT)))
set_option maxHeartbeats 2000000 in
theorem sd_aaload (F : aFx p s m args c cc own nL D cA) : rl_aaload own cc NC C Q rk sc xl xs (aI p l e R s m args below meth c cells slots nL NC D cA ad A Qw) := by
  intro pc L st σ q n j hd h0 h1 h2 h3 h4 kk H locs ls hI hP hD hS hl hL hT
  have he : (aw NC cA ad σ)[q]? = some (ad q, .inl (cA 3, n, .inr (.inr (.inr (.inr (fun k => some (ad (5 + k)))))))) := by rw [aw_at h0, ent_a h1]; rfl
  have hv := nb_vp h2 h3 h4
  refine va_aldq F.1 F.2.1 F.2.2.2.2.2.1 hP q 3 he rfl hv.1 hd ?_
  rw [hv.2.1]
  exact kk H locs ls hI hP hD hS hl hL (OkT_cons (trivial) (OkT_tail (OkT_tail hT)))
set_option maxHeartbeats 2000000 in
theorem sd_iastore (F : aFx p s m args c cc own nL D cA) : rl_iastore own cc NC C Q rk sc xl xs (aI p l e R s m args below meth c cells slots nL NC D cA ad A Qw) := by
  intro pc L st σ q n j x hd h0 h1 h2 h3 h4 kk H locs ls hI hP hD hS hl hL hT
  have he : (aw NC cA ad σ)[q]? = some (ad q, .inl (cA 0, n, .inl (fun k => Int32.ofInt (σ.1 q k)))) := by rw [aw_at h0, ent_a h1]; rfl
  have hv := nb_vp h2 h3 h4
  refine va_iast F.1 F.2.1 F.2.2.2.2.2.1 hP hD hS q 0 he rfl hv.1 hd (fun H1 locs1 hP1 hD1 hS1 => ?_)
  rw [hv.2.1] at hP1 hD1
  have e : (aw NC cA ad σ).set q (ad q, .inl (cA 0, n, .inl (upd (fun k => Int32.ofInt (σ.1 q k)) j.toNat (Int32.ofInt x)))) = aw NC cA ad (sI σ q j.toNat x) := by
    have e2 : ent cA ad (sI σ q j.toNat x) q = .inl (cA 0, n, .inl (upd (fun k => Int32.ofInt (σ.1 q k)) j.toNat (Int32.ofInt x))) := by
      rw [ent_a h1]
      show Sum.inl (cA 0, n, Sum.inl _) = _
      congr 4
      funext k
      unfold upd
      rw [sI_at]
      by_cases hk : k = j.toNat <;> simp [hk]
    rw [← e2]; exact aw_set ent_sI_ne
  rw [e] at hP1 hD1
  exact kk H1 locs1 ls (InS_sI hI (OkT_head hT)) hP1 hD1 hS1 hl hL (OkT_tail (OkT_tail (OkT_tail hT)))
set_option maxHeartbeats 2000000 in
theorem sd_bastore (F : aFx p s m args c cc own nL D cA) : rl_bastore own cc NC C Q rk sc xl xs (aI p l e R s m args below meth c cells slots nL NC D cA ad A Qw) := by
  intro pc L st σ q n j x hd h0 h1 h2 h3 h4 h5 kk H locs ls hI hP hD hS hl hL hT
  have he : (aw NC cA ad σ)[q]? = some (ad q, .inl (cA 2, n, .inl (fun k => Int32.ofInt (σ.1 q k)))) := by rw [aw_at h0, ent_a h1]; rfl
  have hv := nb_vp h2 h3 h4
  have hb : vp_nar .boolean (Int32.ofInt x) = Int32.ofInt x := by rcases h5 with rfl | rfl <;> decide
  refine va_zast F.1 F.2.1 F.2.2.2.2.2.1 hP hD hS q 2 he rfl hv.1 hd (fun H1 locs1 hP1 hD1 hS1 => ?_)
  rw [hb] at hP1 hD1
  rw [hv.2.1] at hP1 hD1
  have e : (aw NC cA ad σ).set q (ad q, .inl (cA 2, n, .inl (upd (fun k => Int32.ofInt (σ.1 q k)) j.toNat (Int32.ofInt x)))) = aw NC cA ad (sI σ q j.toNat x) := by
    have e2 : ent cA ad (sI σ q j.toNat x) q = .inl (cA 2, n, .inl (upd (fun k => Int32.ofInt (σ.1 q k)) j.toNat (Int32.ofInt x))) := by
      rw [ent_a h1]
      show Sum.inl (cA 2, n, Sum.inl _) = _
      congr 4
      funext k
      unfold upd
      rw [sI_at]
      by_cases hk : k = j.toNat <;> simp [hk]
    rw [← e2]; exact aw_set ent_sI_ne
  rw [e] at hP1 hD1
  exact kk H1 locs1 ls (InS_sI hI (OkT_head hT)) hP1 hD1 hS1 hl hL (OkT_tail (OkT_tail (OkT_tail hT)))
set_option maxHeartbeats 2000000 in
theorem sd_lastore (F : aFx p s m args c cc own nL D cA) : rl_lastore own cc NC C Q rk sc xl xs (aI p l e R s m args below meth c cells slots nL NC D cA ad A Qw) := by
  intro pc L st σ q n j x hd h0 h1 h2 h3 h4 kk H locs ls hI hP hD hS hl hL hT
  have he : (aw NC cA ad σ)[q]? = some (ad q, .inl (cA 1, n, .inr (.inl (fun k => Int64.ofBitVec (σ.2 q k))))) := by rw [aw_at h0, ent_a h1]; rfl
  have hv := nb_vp h2 h3 h4
  refine va_last F.1 F.2.1 F.2.2.2.2.2.1 hP hD hS q 1 he rfl hv.1 hd (fun H1 locs1 hP1 hD1 hS1 => ?_)
  rw [hv.2.1] at hP1 hD1
  have e : (aw NC cA ad σ).set q (ad q, .inl (cA 1, n, .inr (.inl (vp_updL (fun k => Int64.ofBitVec (σ.2 q k)) j.toNat (Int64.ofBitVec x))))) = aw NC cA ad (sJ σ q j.toNat x) := by
    have e2 : ent cA ad (sJ σ q j.toNat x) q = .inl (cA 1, n, .inr (.inl (vp_updL (fun k => Int64.ofBitVec (σ.2 q k)) j.toNat (Int64.ofBitVec x)))) := by
      rw [ent_a h1]
      show Sum.inl (cA 1, n, Sum.inr (Sum.inl _)) = _
      congr 5
      funext k
      unfold vp_updL
      rw [sJ_at]
      by_cases hk : k = j.toNat <;> simp [hk]
    rw [← e2]; exact aw_set ent_sJ_ne
  rw [e] at hP1 hD1
  exact kk H1 locs1 ls (InS_sJ hI) hP1 hD1 hS1 hl hL (OkT_tail (OkT_tail (OkT_tail hT)))
set_option maxHeartbeats 2000000 in
theorem sd_alen (F : aFx p s m args c cc own nL D cA) : rl_alen own cc NC C Q rk sc xl xs (aI p l e R s m args below meth c cells slots nL NC D cA ad A Qw) := by
  intro pc L st σ q t n hd h0 h1 h2 h3 kk H locs ls hI hP hD hS hl hL hT
  have e3 : Int32.ofNat n = Int32.ofInt (n : Int) := Int32.ofInt_eq_ofNat.symm
  have hn : in32 (n : Int) := ⟨by omega, by omega⟩
  match t, h2 with
  | 0, _ =>
    have he : (aw NC cA ad σ)[q]? = some (ad q, .inl (cA 0, n, .inl (fun k => Int32.ofInt (σ.1 q k)))) := by rw [aw_at h0, ent_a h1]; rfl
    exact va_alen F.1 F.2.1 F.2.2.2.2.2.1 hP q 0 he (ty := .int) rfl e3 hd (kk H locs ls hI hP hD hS hl hL (OkT_cons hn (OkT_tail hT)))
  | 1, _ =>
    have he : (aw NC cA ad σ)[q]? = some (ad q, .inl (cA 1, n, .inr (.inl (fun k => Int64.ofBitVec (σ.2 q k))))) := by rw [aw_at h0, ent_a h1]; rfl
    exact va_alen F.1 F.2.1 F.2.2.2.2.2.1 hP q 1 he (ty := .long) rfl e3 hd (kk H locs ls hI hP hD hS hl hL (OkT_cons hn (OkT_tail hT)))
  | 2, _ =>
    have he : (aw NC cA ad σ)[q]? = some (ad q, .inl (cA 2, n, .inl (fun k => Int32.ofInt (σ.1 q k)))) := by rw [aw_at h0, ent_a h1]; rfl
    exact va_alen F.1 F.2.1 F.2.2.2.2.2.1 hP q 2 he (ty := .boolean) rfl e3 hd (kk H locs ls hI hP hD hS hl hL (OkT_cons hn (OkT_tail hT)))
set_option maxHeartbeats 2000000 in
theorem sd_ialoadX (F : aFx p s m args c cc own nL D cA) (hX : sc = true → ∃ ys : Nat → Int32, va_X (ad 99) xl ys s s.heap ∧ ad 99 < s.heap.size ∧ ¬ A (ad 99) ∧ ∀ j, ys j = Int32.ofInt (xs j) ∧ in32 (xs j)) : rl_ialoadX own cc NC C Q rk sc xl xs (aI p l e R s m args below meth c cells slots nL NC D cA ad A Qw) := by
  intro pc L st σ j hd h0 h1 h2 h3 kk H locs ls hI hP hD hS hl hL hT
  obtain ⟨ys, x1, x2, x3, x4⟩ := hX h0
  have hv := nb_vp h1 h2 h3
  refine va_sld F.1 F.2.1 x1 x2 x3 hS hv.1 hd ?_
  rw [hv.2.1, (x4 j.toNat).1]
  exact kk H locs ls hI hP hD hS hl hL (OkT_cons (x4 j.toNat).2 (OkT_tail (OkT_tail hT)))
set_option maxHeartbeats 2000000 in
theorem sd_alenX (F : aFx p s m args c cc own nL D cA) (hX : sc = true → ∃ ys : Nat → Int32, va_X (ad 99) xl ys s s.heap ∧ ad 99 < s.heap.size ∧ ¬ A (ad 99) ∧ ∀ j, ys j = Int32.ofInt (xs j) ∧ in32 (xs j)) : rl_alenX own cc NC C Q rk sc xl xs (aI p l e R s m args below meth c cells slots nL NC D cA ad A Qw) := by
  intro pc L st σ hd h0 h1 kk H locs ls hI hP hD hS hl hL hT
  obtain ⟨ys, x1, x2, x3, x4⟩ := hX h0
  refine va_slen F.1 F.2.1 x1 x2 x3 hS hd ?_
  have e3 : Int32.ofNat xl = Int32.ofInt (xl : Int) := Int32.ofInt_eq_ofNat.symm
  rw [e3]
  exact kk H locs ls hI hP hD hS hl hL (OkT_cons (show in32 (xl : Int) from ⟨by omega, by omega⟩) (OkT_tail hT))
theorem sd_keep (F : aFx p s m args c cc own nL D cA) : rl_keep own cc NC C Q rk sc xl xs (aI p l e R s m args below meth c cells slots nL NC D cA ad A Qw) := by
  intro pc ms L st σ k H locs ls hI hP hD hS hl hL hT
  exact k H locs ls hI hP hD hS ⟨hl.1, by rw [kpL_len]; exact hl.2.1, hl.2.2.1, fun j v h => hl.2.2.2 j v (kpL_get h)⟩ (fun j v h => hL j v (kpL_get h)) hT
end SND
