/-! rows for the constructors -/
theorem gw_oi0 : gw (.methodLink RX0 3 objectInit) := ⟨by decide +kernel, by decide +kernel⟩
theorem gw_oi1 : gw (.methodLink RX1 3 objectInit) := ⟨by decide +kernel, by decide +kernel⟩
theorem gw_oi2 : gw (.methodLink RX2 3 objectInit) := ⟨by decide +kernel, by decide +kernel⟩
theorem gw_oi3 : gw (.methodLink RX3 1 objectInit) := ⟨by decide +kernel, by decide +kernel⟩
theorem gw_oi4 : gw (.methodLink RX4 1 objectInit) := ⟨by decide +kernel, by decide +kernel⟩
theorem gw_ioi : gw (.instanceMethod objectInit) := ⟨by decide +kernel, by decide +kernel⟩
theorem gw_coi : gw (.code objectInit ⟨#[0xb1]⟩ 1 none) := ⟨by decide +kernel, by decide +kernel⟩
theorem gw_ai : gw (.arrayClass .int) := ⟨by decide +kernel, by decide +kernel⟩
theorem gw_aj : gw (.arrayClass .long) := ⟨by decide +kernel, by decide +kernel⟩
theorem gw_az : gw (.arrayClass .boolean) := ⟨by decide +kernel, by decide +kernel⟩
theorem in_ao : Cond.arrayOver (.object RX1) ∈ lw_tbl := by decide +kernel
theorem gw_c1 : gw (.classLink RX3 29 RX1) := ⟨by decide +kernel, by decide +kernel⟩
theorem gw_c0 : gw (.classLink RX3 36 RX0) := ⟨by decide +kernel, by decide +kernel⟩
theorem gw_c2 : gw (.classLink RX3 43 RX2) := ⟨by decide +kernel, by decide +kernel⟩
theorem gw_n (ci : Nat) (h : ci < 5) : gw (.instantiable (clsR ci) (clsN ci)) ∧ gw (.initialized (clsR ci)) := by
  match ci, h with
  | 0, _ => exact ⟨⟨by decide +kernel, by decide +kernel⟩, ⟨by decide +kernel, by decide +kernel⟩⟩
  | 1, _ => exact ⟨⟨by decide +kernel, by decide +kernel⟩, ⟨by decide +kernel, by decide +kernel⟩⟩
  | 2, _ => exact ⟨⟨by decide +kernel, by decide +kernel⟩, ⟨by decide +kernel, by decide +kernel⟩⟩
  | 3, _ => exact ⟨⟨by decide +kernel, by decide +kernel⟩, ⟨by decide +kernel, by decide +kernel⟩⟩
  | 4, _ => exact ⟨⟨by decide +kernel, by decide +kernel⟩, ⟨by decide +kernel, by decide +kernel⟩⟩
/-- a constructor is called -/
def iLink (own : String) (i m n : Nat) : Prop := gw (.methodLink own i (mY m)) ∧ gw (.instanceMethod (mY m)) ∧ gw (.initialized (mY m).cls) ∧ mOK m n
theorem ilX3_35 : iLink RX3 35 mX1_init 0 := ⟨⟨by decide +kernel, by decide +kernel⟩, ⟨by decide +kernel, by decide +kernel⟩, ⟨by decide +kernel, by decide +kernel⟩, okX1_init⟩
theorem ilX3_38 : iLink RX3 38 mX0_init 0 := ⟨⟨by decide +kernel, by decide +kernel⟩, ⟨by decide +kernel, by decide +kernel⟩, ⟨by decide +kernel, by decide +kernel⟩, okX0_init⟩
theorem ilX3_45 : iLink RX3 45 mX2_init 1 := ⟨⟨by decide +kernel, by decide +kernel⟩, ⟨by decide +kernel, by decide +kernel⟩, ⟨by decide +kernel, by decide +kernel⟩, okX2_init⟩
theorem ilL_9 : iLink RL 9 mX3_init 0 := ⟨⟨by decide +kernel, by decide +kernel⟩, ⟨by decide +kernel, by decide +kernel⟩, ⟨by decide +kernel, by decide +kernel⟩, okX3_init⟩
theorem ilL_12 : iLink RL 12 mX4_init 0 := ⟨⟨by decide +kernel, by decide +kernel⟩, ⟨by decide +kernel, by decide +kernel⟩, ⟨by decide +kernel, by decide +kernel⟩, okX4_init⟩
theorem gw_cl3 : gw (.classLink RL 7 RX3) := ⟨by decide +kernel, by decide +kernel⟩
theorem gw_cl4 : gw (.classLink RL 10 RX4) := ⟨by decide +kernel, by decide +kernel⟩
theorem nest_tbl : ∀ w ∈ nestW, w ∈ lw_tbl ∧ w.onTables = true := by decide +kernel
section MAKE
variable {p : Program} {l : Launch} {e : Env} {R : Room} {s : State} {m : MethodId} {args : Array Value} {below : List Frame} {meth : Method} {c : Code} {H : Heap} {locs : List Loc} {cells slots : Nat} {Q : State → Prop} {cc : ByteArray} {own : String} {nL pc : Nat} {ls : Array Slot} {rest : List Value} {D : va_G} {cA : Nat → ClassId} {A : Nat → Prop} {a : Nat} {ws : va_W} {H0 : Heap}
theorem k_putF (F : aFx p s m args c cc own nL D cA) (hP : va_P D vwCl ws H) (hD : va_D A ws) (hS : va_S A H0 H locs) (q0 : Nat) {ci : Nat} {fs : List Value} (he : ws[q0]? = some (a, .inr (ci, fs))) {idx k : Nat} (hl : fLink own idx ci k) (hfin : (clsT ci k).2.2.2 = true) (hin2 : meth.name = "<init>") (hdecl : (clsT ci k).1 = own) {v : Value} (hn : narrow (clsY ci k) v = v) (hfit : fits (clsY ci k) v = true) (hlen : k < fs.length) (hdg : decode cc pc = .ok (.putfield idx, 3))
    (kk : ∀ (H1 : Heap) (locs1 : List Loc), va_P D vwCl (ws.set q0 (a, .inr (ci, fs.set k v))) H1 → va_D A (ws.set q0 (a, .inr (ci, fs.set k v))) → va_S A H0 H1 locs1 → W p l e R s m args below meth c H1 locs1 cells slots Q (F0 m (pc + 3) ls rest)) : W p l e R s m args below meth c H locs cells slots Q (F0 m pc ls (v :: .ref a :: rest)) :=
  va_putF (ty := clsY ci k) F.1 F.2.1 F.2.2.2.2.1 (cls_in hl.1) (clsY ci) (cls_ty hl.1) (cls_nm hl.1) F.2.2.2.1 F.2.2.2.2.2.1 hP hD hS q0 he (cls_vw hl.1) k hl.2.1 (F.2.2.2.2.1 _ (gw_in hl.2.2)) (fun _ h => h) hfin hin2 hdecl (cls_ty hl.1 k hl.2.1) hn hfit hlen hdg kk
theorem k_put (F : aFx p s m args c cc own nL D cA) (hP : va_P D vwCl ws H) (hD : va_D A ws) (hS : va_S A H0 H locs) (q0 : Nat) {ci : Nat} {fs : List Value} (he : ws[q0]? = some (a, .inr (ci, fs))) {idx k : Nat} (hl : fLink own idx ci k) (hfin : (clsT ci k).2.2.2 = false) {v : Value} (hn : narrow (clsY ci k) v = v) (hfit : fits (clsY ci k) v = true) (hlen : k < fs.length) (hdg : decode cc pc = .ok (.putfield idx, 3))
    (kk : ∀ (H1 : Heap) (locs1 : List Loc), va_P D vwCl (ws.set q0 (a, .inr (ci, fs.set k v))) H1 → va_D A (ws.set q0 (a, .inr (ci, fs.set k v))) → va_S A H0 H1 locs1 → W p l e R s m args below meth c H1 locs1 cells slots Q (F0 m (pc + 3) ls rest)) : W p l e R s m args below meth c H locs cells slots Q (F0 m pc ls (v :: .ref a :: rest)) :=
  va_put (ty := clsY ci k) F.1 F.2.1 F.2.2.2.2.1 (cls_in hl.1) (clsY ci) (cls_ty hl.1) (cls_nm hl.1) F.2.2.2.1 F.2.2.2.2.2.1 hP hD hS q0 he (cls_vw hl.1) k hl.2.1 (F.2.2.2.2.1 _ (gw_in hl.2.2)) (fun _ h => h) hfin (cls_ty hl.1 k hl.2.1) hn hfit hlen hdg kk
theorem k_get (F : aFx p s m args c cc own nL D cA) (hP : va_P D vwCl ws H) (q0 : Nat) {ci : Nat} {fs : List Value} (he : ws[q0]? = some (a, .inr (ci, fs))) {idx k : Nat} (hl : fLink own idx ci k) {v : Value} (hv : fs[k]? = some v) (hdg : decode cc pc = .ok (.getfield idx, 3))
    (kk : W p l e R s m args below meth c H locs cells slots Q (F0 m (pc + 3) ls (v :: rest))) : W p l e R s m args below meth c H locs cells slots Q (F0 m pc ls (.ref a :: rest)) :=
  va_get F.1 F.2.1 F.2.2.2.2.1 (cls_in hl.1) F.2.2.2.1 F.2.2.2.2.2.1 hP q0 he (cls_vw hl.1) k hl.2.1 (F.2.2.2.2.1 _ (gw_in hl.2.2)) (fun _ h => h) hv hdg kk
theorem k_new (F : aFx p s m args c cc own nL D cA) (hP : va_P D vwCl ws H) (hD : va_D A ws) (hS : va_S A H0 H locs) (hA : ∀ q, H0.size ≤ q → A q) {ci idx : Nat} (hci : ci < 5) (hcl : gw (.classLink own idx (clsR ci))) {fs : List Value} (hfs : ∀ j, j < clsN ci → defaultValue (clsY ci j) = vp_V fs j) (hcells : cells + 1 ≤ R.cells) (hslots : slots + clsN ci ≤ R.slots) (hdg : decode cc pc = .ok (.new idx, 3))
    (kk : ∀ (q : Nat) (H1 : Heap), va_P D vwCl (ws ++ [(q, .inr (ci, fs))]) H1 → va_D A (ws ++ [(q, .inr (ci, fs))]) → va_S A H0 H1 locs → W p l e R s m args below meth c H1 locs (cells + 1) (slots + clsN ci) Q (F0 m (pc + 3) ls (.ref q :: rest))) : W p l e R s m args below meth c H locs cells slots Q (F0 m pc ls rest) :=
  va_new F.1 F.2.1 F.2.2.2.2.1 (cls_in hci) (clsY ci) (cls_ty hci) F.2.2.2.1 (F.2.2.2.2.1 _ (gw_in hcl)) (F.2.2.2.2.1 _ (gw_in (gw_n ci hci).1)) (F.2.2.2.2.1 _ (gw_in (gw_n ci hci).2)) F.2.2.2.2.2.1 hP hD hS hA (cls_vw hci) hfs hcells hslots hdg kk
theorem k_newa (F : aFx p s m args c cc own nL D cA) {atype : ArrayType} {ty : FieldType} {t : Nat} (hty : newarray.typeOf atype = ty) (harr : gw (.arrayClass ty)) (ht : (aT cA)[t]? = some (cA t, ty)) (hu : ∀ c1 c2, va_RA s c1 ty → va_RA s c2 ty → c1 = c2) (hP : va_P D vwCl ws H) (hD : va_D A ws) (hS : va_S A H0 H locs) (hA : ∀ q, H0.size ≤ q → A q)
    {n : Int32} {N' : Nat} {a0 : vp_A} (ha : ∀ cA : ClassId, vp_cell cA a0 = arrV cA N' (fun _ => defaultValue ty)) (hn : ¬ n < 0) (hN : n.toNatClampNeg = N') (hbytes : N' * componentBytes ty ≤ 536870912) (hcells : cells + 1 ≤ R.cells) (hslots : slots + N' ≤ R.slots) (hdg : decode cc pc = .ok (.newarray atype, 2))
    (kk : ∀ (q : Nat) (H1 : Heap), va_P D vwCl (ws ++ [(q, .inl (cA t, a0))]) H1 → va_D A (ws ++ [(q, .inl (cA t, a0))]) → va_S A H0 H1 locs → W p l e R s m args below meth c H1 locs (cells + 1) (slots + N') Q (F0 m (pc + 2) ls (.ref q :: rest))) : W p l e R s m args below meth c H locs cells slots Q (F0 m pc ls (.int n :: rest)) := by
  refine va_newa F.1 F.2.1 (by rw [hty]; exact F.2.2.2.2.1 _ (gw_in harr)) hty F.2.2.2.2.2.1 hP hD hS hA ha hn hN hbytes hcells hslots hdg (fun q cB H1 hK' hP' hD' hS' => ?_)
  have e : cB = cA t := hu _ _ (hK'.2 4 (cB, ty) rfl).2 (F.2.2.2.2.2.1.2 t _ ht).2
  subst e
  exact kk q H1 hP' hD' hS'
theorem k_newI (F : aFx p s m args c cc own nL D cA) (hP : va_P D vwCl ws H) (hD : va_D A ws) (hS : va_S A H0 H locs) (hA : ∀ q, H0.size ≤ q → A q) {n : Int32} {N' : Nat} (hn : ¬ n < 0) (hN : n.toNatClampNeg = N') (hbytes : N' * 4 ≤ 536870912) (hcells : cells + 1 ≤ R.cells) (hslots : slots + N' ≤ R.slots) (hdg : decode cc pc = .ok (.newarray .int, 2))
    (kk : ∀ (q : Nat) (H1 : Heap), va_P D vwCl (ws ++ [(q, .inl (cA 0, N', .inl (fun _ => 0)))]) H1 → va_D A (ws ++ [(q, .inl (cA 0, N', .inl (fun _ => 0)))]) → va_S A H0 H1 locs → W p l e R s m args below meth c H1 locs (cells + 1) (slots + N') Q (F0 m (pc + 2) ls (.ref q :: rest))) : W p l e R s m args below meth c H locs cells slots Q (F0 m pc ls (.int n :: rest)) :=
  k_newa F (t := 0) (ty := .int) rfl gw_ai rfl (fun _ _ h1 h2 => Option.some.inj (Eq.trans (Eq.symm h1) h2)) hP hD hS hA (fun _ => rfl) hn hN hbytes hcells hslots hdg kk
theorem k_newJ (F : aFx p s m args c cc own nL D cA) (hP : va_P D vwCl ws H) (hD : va_D A ws) (hS : va_S A H0 H locs) (hA : ∀ q, H0.size ≤ q → A q) {n : Int32} {N' : Nat} (hn : ¬ n < 0) (hN : n.toNatClampNeg = N') (hbytes : N' * 8 ≤ 536870912) (hcells : cells + 1 ≤ R.cells) (hslots : slots + N' ≤ R.slots) (hdg : decode cc pc = .ok (.newarray .long, 2))
    (kk : ∀ (q : Nat) (H1 : Heap), va_P D vwCl (ws ++ [(q, .inl (cA 1, N', .inr (.inl (fun _ => 0))))]) H1 → va_D A (ws ++ [(q, .inl (cA 1, N', .inr (.inl (fun _ => 0))))]) → va_S A H0 H1 locs → W p l e R s m args below meth c H1 locs (cells + 1) (slots + N') Q (F0 m (pc + 2) ls (.ref q :: rest))) : W p l e R s m args below meth c H locs cells slots Q (F0 m pc ls (.int n :: rest)) :=
  k_newa F (t := 1) (ty := .long) rfl gw_aj rfl (fun _ _ h1 h2 => Option.some.inj (Eq.trans (Eq.symm h1) h2)) hP hD hS hA (fun _ => rfl) hn hN hbytes hcells hslots hdg kk
theorem k_newZ (F : aFx p s m args c cc own nL D cA) (hP : va_P D vwCl ws H) (hD : va_D A ws) (hS : va_S A H0 H locs) (hA : ∀ q, H0.size ≤ q → A q) {n : Int32} {N' : Nat} (hn : ¬ n < 0) (hN : n.toNatClampNeg = N') (hbytes : N' * 1 ≤ 536870912) (hcells : cells + 1 ≤ R.cells) (hslots : slots + N' ≤ R.slots) (hdg : decode cc pc = .ok (.newarray .boolean, 2))
    (kk : ∀ (q : Nat) (H1 : Heap), va_P D vwCl (ws ++ [(q, .inl (cA 2, N', .inl (fun _ => 0)))]) H1 → va_D A (ws ++ [(q, .inl (cA 2, N', .inl (fun _ => 0)))]) → va_S A H0 H1 locs → W p l e R s m args below meth c H1 locs (cells + 1) (slots + N') Q (F0 m (pc + 2) ls (.ref q :: rest))) : W p l e R s m args below meth c H locs cells slots Q (F0 m pc ls (.int n :: rest)) :=
  k_newa F (t := 2) (ty := .boolean) rfl gw_az rfl (fun _ _ h1 h2 => Option.some.inj (Eq.trans (Eq.symm h1) h2)) hP hD hS hA (fun _ => rfl) hn hN hbytes hcells hslots hdg kk
theorem k_newq (F : aFx p s m args c cc own nL D cA) (hao : va_AO RX1 s) (hcl : gw (.classLink own 29 RX1)) (hP : va_P D vwCl ws H) (hD : va_D A ws) (hS : va_S A H0 H locs) (hA : ∀ q, H0.size ≤ q → A q) {n : Int32} {N' : Nat} (hn : ¬ n < 0) (hN : n.toNatClampNeg = N') (hbytes : N' * 4 ≤ 536870912) (hcells : cells + 1 ≤ R.cells) (hslots : slots + N' ≤ R.slots) (hdg : decode cc pc = .ok (.anewarray 29, 3))
    (kk : ∀ (q : Nat) (H1 : Heap), va_P D vwCl (ws ++ [(q, .inl (cA 3, N', .inr (.inr (.inr (.inr (fun _ => none))))))]) H1 → va_D A (ws ++ [(q, .inl (cA 3, N', .inr (.inr (.inr (.inr (fun _ => none))))))]) → va_S A H0 H1 locs → W p l e R s m args below meth c H1 locs (cells + 1) (slots + N') Q (F0 m (pc + 3) ls (.ref q :: rest))) : W p l e R s m args below meth c H locs cells slots Q (F0 m pc ls (.int n :: rest)) := by
  refine va_newq F.1 F.2.1 F.2.2.2.1 (F.2.2.2.2.1 _ (gw_in hcl)) hao F.2.2.2.2.2.1 hP hD hS hA hn hN hbytes hcells hslots hdg (fun q cB H1 hK' hP' hD' hS' => ?_)
  have e : cB = cA 3 := by
    obtain ⟨_, _, _, _, _, h1⟩ := (hK'.2 4 (cB, .object RX1) rfl).2
    obtain ⟨_, _, _, _, _, h2⟩ := (F.2.2.2.2.2.1.2 3 (cA 3, .object RX1) rfl).2
    exact Option.some.inj (h1.symm.trans h2)
  subst e
  exact kk q H1 hP' hD' hS'
end MAKE
