set_option maxRecDepth 20000 in
theorem law_w {Q : aQ} {xl : Nat} {xs : Nat → Int} (hxl : xl < 2 ^ 31) (hx4 : xl ≤ 384) (hxi : ∀ j, in32 (xs j)) (hQ : ∀ σ, LI σ → Q (some (vi 1)) σ) : ∀ (r : Nat) (i : Nat) (σ : aS), xl < i + 6 * r + 6 → i ≤ 390 → LI σ → Wp RL cL_law 34 (aCall 34 9) Q 1 true xl xs 18 [some (vr 99), some (vr 0), some (vr 18), some (vi (i : Int))] [] σ := by
  intro r
  induction r with
  | zero =>
    intro i σ hi i9 hI
    refine wp_iload_n dL_law_18 rfl ?_
    refine wp_aload_n dL_law_19 rfl ?_
    refine wp_alenX dL_law_20 rfl hxl ?_
    refine wp_bipush dL_law_21 (by decide) ?_
    refine wp_isubN dL_law_23 (by omega) ?_
    refine wp_ic_gt 1228 dL_law_24 (by decide) (fun hh24 => ?_) (fun hh24 => ?_)
    · refine wp_iconst dL_law_1228 (by decide) ?_
      refine wp_iret dL_law_1229 (Or.inr ⟨rfl, by decide⟩) ?_
      exact hQ _ hI
    · exfalso; omega
  | succ r ih =>
    intro i σ hi i9 hI
    refine wp_iload_n dL_law_18 rfl ?_
    refine wp_aload_n dL_law_19 rfl ?_
    refine wp_alenX dL_law_20 rfl hxl ?_
    refine wp_bipush dL_law_21 (by decide) ?_
    refine wp_isubN dL_law_23 (by omega) ?_
    refine wp_ic_gt 1228 dL_law_24 (by decide) (fun hh24 => ?_) (fun hh24 => ?_)
    · refine wp_iconst dL_law_1228 (by decide) ?_
      refine wp_iret dL_law_1229 (Or.inr ⟨rfl, by decide⟩) ?_
      exact hQ _ hI
    · refine wp_aload_n dL_law_27 rfl ?_
      refine wp_iload_n dL_law_28 rfl ?_
      refine wp_ialoadX dL_law_29 rfl (by omega) (by omega) hxl ?_
      refine wp_bipush dL_law_30 (by decide) ?_
      refine wp_iand dL_law_32 ?_
      obtain ⟨z, hc, hm, hz⟩ := hI
      have hK : ∀ σ, LI σ → Wp RL cL_law 34 (aCall 34 9) Q 1 true xl xs 1222 [some (vr 99), some (vr 0), some (vr 18), some (vi (i : Int))] [] σ := fun σ hI => by
        refine wp_iincN (L' := [some (vr _), some (vr _), some (vr _), some (vi _)]) dL_law_1222 rfl (by omega) rfl ?_
        refine wp_gotoN 18 dL_law_1225 (by decide) ?_
        exact ih (i + 6) σ (by omega) (by omega) hI
      generalize bi32 (· &&& ·) (xs (i : Int).toNat) 63 = v
      by_cases hv : 0 ≤ v ∧ v ≤ 35
      · have hd : v = 0 ∨ v = 1 ∨ v = 2 ∨ v = 3 ∨ v = 4 ∨ v = 5 ∨ v = 6 ∨ v = 7 ∨ v = 8 ∨ v = 9 ∨ v = 10 ∨ v = 11 ∨ v = 12 ∨ v = 13 ∨ v = 14 ∨ v = 15 ∨ v = 16 ∨ v = 17 ∨ v = 18 ∨ v = 19 ∨ v = 20 ∨ v = 21 ∨ v = 22 ∨ v = 23 ∨ v = 24 ∨ v = 25 ∨ v = 26 ∨ v = 27 ∨ v = 28 ∨ v = 29 ∨ v = 30 ∨ v = 31 ∨ v = 32 ∨ v = 33 ∨ v = 34 ∨ v = 35 := by omega
        rcases hd with rfl | rfl | rfl | rfl | rfl | rfl | rfl | rfl | rfl | rfl | rfl | rfl | rfl | rfl | rfl | rfl | rfl | rfl | rfl | rfl | rfl | rfl | rfl | rfl | rfl | rfl | rfl | rfl | rfl | rfl | rfl | rfl | rfl | rfl | rfl | rfl
        · refine wp_tabIn (tgt := 192) dL_law_33 (by decide) (by decide) rfl (by decide) ?_
          exact arm_type hxl hxi (by omega) (by omega) (by omega) hc hm hz hK
        · refine wp_tabIn (tgt := 215) dL_law_33 (by decide) (by decide) rfl (by decide) ?_
          exact arm_wipe hxl hxi (by omega) (by omega) (by omega) hc hm hz hK
        · refine wp_tabIn (tgt := 228) dL_law_33 (by decide) (by decide) rfl (by decide) ?_
          exact arm_undo hxl hxi (by omega) (by omega) (by omega) hc hm hz hK
        · refine wp_tabIn (tgt := 241) dL_law_33 (by decide) (by decide) rfl (by decide) ?_
          exact arm_fault hxl hxi (by omega) (by omega) (by omega) hc hm hz hK
        · refine wp_tabIn (tgt := 254) dL_law_33 (by decide) (by decide) rfl (by decide) ?_
          exact arm_cell hxl hxi (by omega) (by omega) (by omega) hc hm hz hK
        · refine wp_tabIn (tgt := 287) dL_law_33 (by decide) (by decide) rfl (by decide) ?_
          exact arm_set hxl hxi (by omega) (by omega) (by omega) hc hm hz hK
        · refine wp_tabIn (tgt := 320) dL_law_33 (by decide) (by decide) rfl (by decide) ?_
          exact arm_thing hxl hxi (by omega) (by omega) (by omega) hc hm hz hK
        · refine wp_tabIn (tgt := 353) dL_law_33 (by decide) (by decide) rfl (by decide) ?_
          exact arm_back hxl hxi (by omega) (by omega) (by omega) hc hm hz hK
        · refine wp_tabIn (tgt := 366) dL_law_33 (by decide) (by decide) rfl (by decide) ?_
          exact arm_read hxl hxi (by omega) (by omega) (by omega) hc hm hz hK
        · refine wp_tabIn (tgt := 389) dL_law_33 (by decide) (by decide) rfl (by decide) ?_
          exact arm_at hxl hxi (by omega) (by omega) (by omega) hc hm hz hK
        · refine wp_tabIn (tgt := 422) dL_law_33 (by decide) (by decide) rfl (by decide) ?_
          exact arm_rests hxl hxi (by omega) (by omega) (by omega) hc hm hz hK
        · refine wp_tabIn (tgt := 455) dL_law_33 (by decide) (by decide) rfl (by decide) ?_
          exact arm_longest hxl hxi (by omega) (by omega) (by omega) hc hm hz hK
        · refine wp_tabIn (tgt := 468) dL_law_33 (by decide) (by decide) rfl (by decide) ?_
          exact arm_meet hxl hxi (by omega) (by omega) (by omega) hc hm hz hK
        · refine wp_tabIn (tgt := 501) dL_law_33 (by decide) (by decide) rfl (by decide) ?_
          exact arm_way hxl hxi (by omega) (by omega) (by omega) hc hm hz hK
        · refine wp_tabIn (tgt := 534) dL_law_33 (by decide) (by decide) rfl (by decide) ?_
          exact arm_next hxl hxi (by omega) (by omega) (by omega) hc hm hz hK
        · refine wp_tabIn (tgt := 567) dL_law_33 (by decide) (by decide) rfl (by decide) ?_
          exact arm_race hxl hxi (by omega) (by omega) (by omega) hc hm hz hK
        · refine wp_tabIn (tgt := 610) dL_law_33 (by decide) (by decide) rfl (by decide) ?_
          exact arm_reach hxl hxi (by omega) (by omega) (by omega) hc hm hz hK
        · refine wp_tabIn (tgt := 633) dL_law_33 (by decide) (by decide) rfl (by decide) ?_
          exact arm_wet hxl hxi (by omega) (by omega) (by omega) hc hm hz hK
        · refine wp_tabIn (tgt := 656) dL_law_33 (by decide) (by decide) rfl (by decide) ?_
          exact arm_plug hxl hxi (by omega) (by omega) (by omega) hc hm hz hK
        · refine wp_tabIn (tgt := 689) dL_law_33 (by decide) (by decide) rfl (by decide) ?_
          exact arm_plumb hxl hxi (by omega) (by omega) (by omega) hc hm hz hK
        · refine wp_tabIn (tgt := 722) dL_law_33 (by decide) (by decide) rfl (by decide) ?_
          exact arm_forget hxl hxi (by omega) (by omega) (by omega) hc hm hz hK
        · refine wp_tabIn (tgt := 735) dL_law_33 (by decide) (by decide) rfl (by decide) ?_
          exact arm_where hxl hxi (by omega) (by omega) (by omega) hc hm hz hK
        · refine wp_tabIn (tgt := 748) dL_law_33 (by decide) (by decide) rfl (by decide) ?_
          exact arm_hang hxl hxi (by omega) (by omega) (by omega) hc hm hz hK
        · refine wp_tabIn (tgt := 761) dL_law_33 (by decide) (by decide) rfl (by decide) ?_
          exact arm_from hxl hxi (by omega) (by omega) (by omega) hc hm hz hK
        · refine wp_tabIn (tgt := 804) dL_law_33 (by decide) (by decide) rfl (by decide) ?_
          exact arm_joined hxl hxi (by omega) (by omega) (by omega) hc hm hz hK
        · refine wp_tabIn (tgt := 817) dL_law_33 (by decide) (by decide) rfl (by decide) ?_
          exact arm_like hxl hxi (by omega) (by omega) (by omega) hc hm hz hK
        · refine wp_tabIn (tgt := 840) dL_law_33 (by decide) (by decide) rfl (by decide) ?_
          exact arm_flood hxl hxi (by omega) (by omega) (by omega) hc hm hz hK
        · refine wp_tabIn (tgt := 884) dL_law_33 (by decide) (by decide) rfl (by decide) ?_
          exact arm_kicks hxl hxi (by omega) (by omega) (by omega) hc hm hz hK
        · refine wp_tabIn (tgt := 927) dL_law_33 (by decide) (by decide) rfl (by decide) ?_
          exact arm_sheet hxl hxi (by omega) (by omega) (by omega) hc hm hz hK
        · refine wp_tabIn (tgt := 970) dL_law_33 (by decide) (by decide) rfl (by decide) ?_
          exact arm_lose hxl hxi (by omega) (by omega) (by omega) hc hm hz hK
        · refine wp_tabIn (tgt := 993) dL_law_33 (by decide) (by decide) rfl (by decide) ?_
          exact arm_put hxl hxi (by omega) (by omega) (by omega) hc hm hz hK
        · refine wp_tabIn (tgt := 1046) dL_law_33 (by decide) (by decide) rfl (by decide) ?_
          exact arm_get hxl hxi (by omega) (by omega) (by omega) hc hm hz hK
        · refine wp_tabIn (tgt := 1089) dL_law_33 (by decide) (by decide) rfl (by decide) ?_
          exact arm_copy hxl hxi (by omega) (by omega) (by omega) hc hm hz hK
        · refine wp_tabIn (tgt := 1152) dL_law_33 (by decide) (by decide) rfl (by decide) ?_
          exact arm_write hxl hxi (by omega) (by omega) (by omega) hc hm hz hK
        · refine wp_tabIn (tgt := 1185) dL_law_33 (by decide) (by decide) rfl (by decide) ?_
          exact arm_count hxl hxi (by omega) (by omega) (by omega) hc hm hz hK
        · refine wp_tabIn (tgt := 1208) dL_law_33 (by decide) (by decide) rfl (by decide) ?_
          exact arm_digest hxl hxi (by omega) (by omega) (by omega) hc hm hz hK
      · refine wp_tabOut (tgt := 1222) dL_law_33 (by omega) (by decide) ?_
        exact hK σ ⟨z, hc, hm, hz⟩
