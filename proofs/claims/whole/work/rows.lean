section
-- ===== PART A: goes FIRST, ahead of the names: the tables' words, and 'selects' of the private methods out of them =====
/-- a private method of a class that the tables say can be made, by its rows of tables_1 -/
def lw_okq (q : MethodName × Nat) : Prop := (q.1.cls ≠ "java/lang/invoke/MethodHandle" ∧ q.1.cls ≠ "java/lang/invoke/VarHandle") ∧ Cond.instantiable q.1.cls q.2 ∈ tables_1 ∧ Cond.privateMethod q.1 ∈ tables_1 ∧ Cond.instanceMethod q.1 ∈ tables_1
theorem lw_p0 : lw_okq (⟨"MineUpside", "renew", "()V"⟩, 13) := ⟨⟨by decide +kernel, by decide +kernel⟩, List.mem_of_getElem? (i := 11) (by decide +kernel), List.mem_of_getElem? (i := 124) (by decide +kernel), List.mem_of_getElem? (i := 125) (by decide +kernel)⟩
theorem lw_p1 : lw_okq (⟨"MineUpside$Plan", "clear", "()V"⟩, 14) := ⟨⟨by decide +kernel, by decide +kernel⟩, List.mem_of_getElem? (i := 44) (by decide +kernel), List.mem_of_getElem? (i := 132) (by decide +kernel), List.mem_of_getElem? (i := 133) (by decide +kernel)⟩
theorem lw_p2 : lw_okq (⟨"MineUpside$Plan", "spell", "([II)I"⟩, 14) := ⟨⟨by decide +kernel, by decide +kernel⟩, List.mem_of_getElem? (i := 44) (by decide +kernel), List.mem_of_getElem? (i := 136) (by decide +kernel), List.mem_of_getElem? (i := 137) (by decide +kernel)⟩
theorem lw_p3 : lw_okq (⟨"MineUpside$Plan", "endsRow", "(I)Z"⟩, 14) := ⟨⟨by decide +kernel, by decide +kernel⟩, List.mem_of_getElem? (i := 44) (by decide +kernel), List.mem_of_getElem? (i := 140) (by decide +kernel), List.mem_of_getElem? (i := 141) (by decide +kernel)⟩
theorem lw_p4 : lw_okq (⟨"MineUpside$Plan", "dig", "(I)V"⟩, 14) := ⟨⟨by decide +kernel, by decide +kernel⟩, List.mem_of_getElem? (i := 44) (by decide +kernel), List.mem_of_getElem? (i := 147) (by decide +kernel), List.mem_of_getElem? (i := 148) (by decide +kernel)⟩
theorem lw_p5 : lw_okq (⟨"MineUpside$Plan", "markRows", "(I)V"⟩, 14) := ⟨⟨by decide +kernel, by decide +kernel⟩, List.mem_of_getElem? (i := 44) (by decide +kernel), List.mem_of_getElem? (i := 154) (by decide +kernel), List.mem_of_getElem? (i := 155) (by decide +kernel)⟩
theorem lw_p6 : lw_okq (⟨"MineUpside$Plan", "loose", "(J)J"⟩, 14) := ⟨⟨by decide +kernel, by decide +kernel⟩, List.mem_of_getElem? (i := 44) (by decide +kernel), List.mem_of_getElem? (i := 158) (by decide +kernel), List.mem_of_getElem? (i := 159) (by decide +kernel)⟩
theorem lw_p7 : lw_okq (⟨"MineUpside$Plan", "markMoves", "()V"⟩, 14) := ⟨⟨by decide +kernel, by decide +kernel⟩, List.mem_of_getElem? (i := 44) (by decide +kernel), List.mem_of_getElem? (i := 167) (by decide +kernel), List.mem_of_getElem? (i := 168) (by decide +kernel)⟩
theorem lw_p8 : lw_okq (⟨"MineUpside", "found", "(I)I"⟩, 13) := ⟨⟨by decide +kernel, by decide +kernel⟩, List.mem_of_getElem? (i := 11) (by decide +kernel), List.mem_of_getElem? (i := 272) (by decide +kernel), List.mem_of_getElem? (i := 273) (by decide +kernel)⟩
theorem lw_p9 : lw_okq (⟨"MineUpside", "isThing", "(I)Z"⟩, 13) := ⟨⟨by decide +kernel, by decide +kernel⟩, List.mem_of_getElem? (i := 11) (by decide +kernel), List.mem_of_getElem? (i := 281) (by decide +kernel), List.mem_of_getElem? (i := 282) (by decide +kernel)⟩
theorem lw_p10 : lw_okq (⟨"MineUpside$Ways", "measure", "(I)V"⟩, 4) := ⟨⟨by decide +kernel, by decide +kernel⟩, List.mem_of_getElem? (i := 105) (by decide +kernel), List.mem_of_getElem? (i := 320) (by decide +kernel), List.mem_of_getElem? (i := 321) (by decide +kernel)⟩
theorem lw_p11 : lw_okq (⟨"MineUpside$Ways", "goOn", "(I)Z"⟩, 4) := ⟨⟨by decide +kernel, by decide +kernel⟩, List.mem_of_getElem? (i := 105) (by decide +kernel), List.mem_of_getElem? (i := 324) (by decide +kernel), List.mem_of_getElem? (i := 325) (by decide +kernel)⟩
theorem lw_p12 : lw_okq (⟨"MineUpside$Plan", "keepsDry", "(JI)Z"⟩, 14) := ⟨⟨by decide +kernel, by decide +kernel⟩, List.mem_of_getElem? (i := 44) (by decide +kernel), List.mem_of_getElem? (i := 366) (by decide +kernel), List.mem_of_getElem? (i := 367) (by decide +kernel)⟩
theorem lw_p13 : lw_okq (⟨"MineUpside", "refusalOfItem", "(III)I"⟩, 13) := ⟨⟨by decide +kernel, by decide +kernel⟩, List.mem_of_getElem? (i := 11) (by decide +kernel), List.mem_of_getElem? (i := 461) (by decide +kernel), List.mem_of_getElem? (i := 462) (by decide +kernel)⟩
theorem lw_p14 : lw_okq (⟨"MineUpsideModel", "faultNow", "()I"⟩, 24) := ⟨⟨by decide +kernel, by decide +kernel⟩, List.mem_of_getElem? (i := 525) (by decide +kernel), List.mem_of_getElem? (i := 624) (by decide +kernel), List.mem_of_getElem? (i := 625) (by decide +kernel)⟩
theorem lw_p15 : lw_okq (⟨"MineUpsideModel", "isCell", "(I)Z"⟩, 24) := ⟨⟨by decide +kernel, by decide +kernel⟩, List.mem_of_getElem? (i := 525) (by decide +kernel), List.mem_of_getElem? (i := 635) (by decide +kernel), List.mem_of_getElem? (i := 636) (by decide +kernel)⟩
def lw_privs_1 : List (MethodName × Nat) := [(⟨"MineUpside", "renew", "()V"⟩, 13), (⟨"MineUpside$Plan", "clear", "()V"⟩, 14), (⟨"MineUpside$Plan", "spell", "([II)I"⟩, 14), (⟨"MineUpside$Plan", "endsRow", "(I)Z"⟩, 14), (⟨"MineUpside$Plan", "dig", "(I)V"⟩, 14), (⟨"MineUpside$Plan", "markRows", "(I)V"⟩, 14), (⟨"MineUpside$Plan", "loose", "(J)J"⟩, 14), (⟨"MineUpside$Plan", "markMoves", "()V"⟩, 14), (⟨"MineUpside", "found", "(I)I"⟩, 13), (⟨"MineUpside", "isThing", "(I)Z"⟩, 13), (⟨"MineUpside$Ways", "measure", "(I)V"⟩, 4), (⟨"MineUpside$Ways", "goOn", "(I)Z"⟩, 4), (⟨"MineUpside$Plan", "keepsDry", "(JI)Z"⟩, 14), (⟨"MineUpside", "refusalOfItem", "(III)I"⟩, 13), (⟨"MineUpsideModel", "faultNow", "()I"⟩, 24), (⟨"MineUpsideModel", "isCell", "(I)Z"⟩, 24)]
theorem lw_r1 : ∀ q ∈ lw_privs_1, lw_okq q := List.forall_mem_cons.mpr ⟨lw_p0, List.forall_mem_cons.mpr ⟨lw_p1, List.forall_mem_cons.mpr ⟨lw_p2, List.forall_mem_cons.mpr ⟨lw_p3, List.forall_mem_cons.mpr ⟨lw_p4, List.forall_mem_cons.mpr ⟨lw_p5, List.forall_mem_cons.mpr ⟨lw_p6, List.forall_mem_cons.mpr ⟨lw_p7, List.forall_mem_cons.mpr ⟨lw_p8, List.forall_mem_cons.mpr ⟨lw_p9, List.forall_mem_cons.mpr ⟨lw_p10, List.forall_mem_cons.mpr ⟨lw_p11, List.forall_mem_cons.mpr ⟨lw_p12, List.forall_mem_cons.mpr ⟨lw_p13, List.forall_mem_cons.mpr ⟨lw_p14, List.forall_mem_cons.mpr ⟨lw_p15, fun _ h => absurd h List.not_mem_nil⟩⟩⟩⟩⟩⟩⟩⟩⟩⟩⟩⟩⟩⟩⟩⟩
theorem lw_p16 : lw_okq (⟨"MineUpsideModel", "reads", "()V"⟩, 24) := ⟨⟨by decide +kernel, by decide +kernel⟩, List.mem_of_getElem? (i := 525) (by decide +kernel), List.mem_of_getElem? (i := 639) (by decide +kernel), List.mem_of_getElem? (i := 640) (by decide +kernel)⟩
theorem lw_p17 : lw_okq (⟨"MineUpsideModel", "isUp", "(I)Z"⟩, 24) := ⟨⟨by decide +kernel, by decide +kernel⟩, List.mem_of_getElem? (i := 525) (by decide +kernel), List.mem_of_getElem? (i := 643) (by decide +kernel), List.mem_of_getElem? (i := 644) (by decide +kernel)⟩
theorem lw_p18 : lw_okq (⟨"MineUpsideModel", "isHeld", "(I)Z"⟩, 24) := ⟨⟨by decide +kernel, by decide +kernel⟩, List.mem_of_getElem? (i := 525) (by decide +kernel), List.mem_of_getElem? (i := 647) (by decide +kernel), List.mem_of_getElem? (i := 648) (by decide +kernel)⟩
theorem lw_p19 : lw_okq (⟨"MineUpsideModel", "below", "(I)I"⟩, 24) := ⟨⟨by decide +kernel, by decide +kernel⟩, List.mem_of_getElem? (i := 525) (by decide +kernel), List.mem_of_getElem? (i := 651) (by decide +kernel), List.mem_of_getElem? (i := 652) (by decide +kernel)⟩
theorem lw_p20 : lw_okq (⟨"MineUpsideModel", "isOpen", "(I)Z"⟩, 24) := ⟨⟨by decide +kernel, by decide +kernel⟩, List.mem_of_getElem? (i := 525) (by decide +kernel), List.mem_of_getElem? (i := 655) (by decide +kernel), List.mem_of_getElem? (i := 656) (by decide +kernel)⟩
theorem lw_p21 : lw_okq (⟨"MineUpsideModel", "meets", "(I)I"⟩, 24) := ⟨⟨by decide +kernel, by decide +kernel⟩, List.mem_of_getElem? (i := 525) (by decide +kernel), List.mem_of_getElem? (i := 678) (by decide +kernel), List.mem_of_getElem? (i := 679) (by decide +kernel)⟩
theorem lw_p22 : lw_okq (⟨"MineUpsideModel", "isThing", "(I)Z"⟩, 24) := ⟨⟨by decide +kernel, by decide +kernel⟩, List.mem_of_getElem? (i := 525) (by decide +kernel), List.mem_of_getElem? (i := 687) (by decide +kernel), List.mem_of_getElem? (i := 688) (by decide +kernel)⟩
theorem lw_p23 : lw_okq (⟨"MineUpsideModel", "atOf", "(II)I"⟩, 24) := ⟨⟨by decide +kernel, by decide +kernel⟩, List.mem_of_getElem? (i := 525) (by decide +kernel), List.mem_of_getElem? (i := 691) (by decide +kernel), List.mem_of_getElem? (i := 692) (by decide +kernel)⟩
theorem lw_p24 : lw_okq (⟨"MineUpsideModel", "fallen", "(II)I"⟩, 24) := ⟨⟨by decide +kernel, by decide +kernel⟩, List.mem_of_getElem? (i := 525) (by decide +kernel), List.mem_of_getElem? (i := 695) (by decide +kernel), List.mem_of_getElem? (i := 696) (by decide +kernel)⟩
theorem lw_p25 : lw_okq (⟨"MineUpsideModel", "restsOf", "(II)I"⟩, 24) := ⟨⟨by decide +kernel, by decide +kernel⟩, List.mem_of_getElem? (i := 525) (by decide +kernel), List.mem_of_getElem? (i := 703) (by decide +kernel), List.mem_of_getElem? (i := 704) (by decide +kernel)⟩
theorem lw_p26 : lw_okq (⟨"MineUpsideModel", "longestNow", "()I"⟩, 24) := ⟨⟨by decide +kernel, by decide +kernel⟩, List.mem_of_getElem? (i := 525) (by decide +kernel), List.mem_of_getElem? (i := 711) (by decide +kernel), List.mem_of_getElem? (i := 712) (by decide +kernel)⟩
theorem lw_p27 : lw_okq (⟨"MineUpsideModel", "meetOf", "(II)I"⟩, 24) := ⟨⟨by decide +kernel, by decide +kernel⟩, List.mem_of_getElem? (i := 525) (by decide +kernel), List.mem_of_getElem? (i := 719) (by decide +kernel), List.mem_of_getElem? (i := 720) (by decide +kernel)⟩
theorem lw_p28 : lw_okq (⟨"MineUpsideModel", "wayOf", "(II)I"⟩, 24) := ⟨⟨by decide +kernel, by decide +kernel⟩, List.mem_of_getElem? (i := 525) (by decide +kernel), List.mem_of_getElem? (i := 727) (by decide +kernel), List.mem_of_getElem? (i := 728) (by decide +kernel)⟩
theorem lw_p29 : lw_okq (⟨"MineUpsideModel", "laysFar", "(I)V"⟩, 24) := ⟨⟨by decide +kernel, by decide +kernel⟩, List.mem_of_getElem? (i := 525) (by decide +kernel), List.mem_of_getElem? (i := 731) (by decide +kernel), List.mem_of_getElem? (i := 732) (by decide +kernel)⟩
theorem lw_p30 : lw_okq (⟨"MineUpsideModel", "cost", "(II)I"⟩, 24) := ⟨⟨by decide +kernel, by decide +kernel⟩, List.mem_of_getElem? (i := 525) (by decide +kernel), List.mem_of_getElem? (i := 736) (by decide +kernel), List.mem_of_getElem? (i := 737) (by decide +kernel)⟩
theorem lw_p31 : lw_okq (⟨"MineUpsideModel", "target", "(II)I"⟩, 24) := ⟨⟨by decide +kernel, by decide +kernel⟩, List.mem_of_getElem? (i := 525) (by decide +kernel), List.mem_of_getElem? (i := 740) (by decide +kernel), List.mem_of_getElem? (i := 741) (by decide +kernel)⟩
def lw_privs_2 : List (MethodName × Nat) := [(⟨"MineUpsideModel", "reads", "()V"⟩, 24), (⟨"MineUpsideModel", "isUp", "(I)Z"⟩, 24), (⟨"MineUpsideModel", "isHeld", "(I)Z"⟩, 24), (⟨"MineUpsideModel", "below", "(I)I"⟩, 24), (⟨"MineUpsideModel", "isOpen", "(I)Z"⟩, 24), (⟨"MineUpsideModel", "meets", "(I)I"⟩, 24), (⟨"MineUpsideModel", "isThing", "(I)Z"⟩, 24), (⟨"MineUpsideModel", "atOf", "(II)I"⟩, 24), (⟨"MineUpsideModel", "fallen", "(II)I"⟩, 24), (⟨"MineUpsideModel", "restsOf", "(II)I"⟩, 24), (⟨"MineUpsideModel", "longestNow", "()I"⟩, 24), (⟨"MineUpsideModel", "meetOf", "(II)I"⟩, 24), (⟨"MineUpsideModel", "wayOf", "(II)I"⟩, 24), (⟨"MineUpsideModel", "laysFar", "(I)V"⟩, 24), (⟨"MineUpsideModel", "cost", "(II)I"⟩, 24), (⟨"MineUpsideModel", "target", "(II)I"⟩, 24)]
theorem lw_r2 : ∀ q ∈ lw_privs_2, lw_okq q := List.forall_mem_cons.mpr ⟨lw_p16, List.forall_mem_cons.mpr ⟨lw_p17, List.forall_mem_cons.mpr ⟨lw_p18, List.forall_mem_cons.mpr ⟨lw_p19, List.forall_mem_cons.mpr ⟨lw_p20, List.forall_mem_cons.mpr ⟨lw_p21, List.forall_mem_cons.mpr ⟨lw_p22, List.forall_mem_cons.mpr ⟨lw_p23, List.forall_mem_cons.mpr ⟨lw_p24, List.forall_mem_cons.mpr ⟨lw_p25, List.forall_mem_cons.mpr ⟨lw_p26, List.forall_mem_cons.mpr ⟨lw_p27, List.forall_mem_cons.mpr ⟨lw_p28, List.forall_mem_cons.mpr ⟨lw_p29, List.forall_mem_cons.mpr ⟨lw_p30, List.forall_mem_cons.mpr ⟨lw_p31, fun _ h => absurd h List.not_mem_nil⟩⟩⟩⟩⟩⟩⟩⟩⟩⟩⟩⟩⟩⟩⟩⟩
theorem lw_p32 : lw_okq (⟨"MineUpsideModel", "nextOf", "(II)I"⟩, 24) := ⟨⟨by decide +kernel, by decide +kernel⟩, List.mem_of_getElem? (i := 525) (by decide +kernel), List.mem_of_getElem? (i := 748) (by decide +kernel), List.mem_of_getElem? (i := 749) (by decide +kernel)⟩
theorem lw_p33 : lw_okq (⟨"MineUpsideModel", "raceOf", "(III)I"⟩, 24) := ⟨⟨by decide +kernel, by decide +kernel⟩, List.mem_of_getElem? (i := 525) (by decide +kernel), List.mem_of_getElem? (i := 756) (by decide +kernel), List.mem_of_getElem? (i := 757) (by decide +kernel)⟩
theorem lw_p34 : lw_okq (⟨"MineUpsideModel", "reachOf", "(I)I"⟩, 24) := ⟨⟨by decide +kernel, by decide +kernel⟩, List.mem_of_getElem? (i := 525) (by decide +kernel), List.mem_of_getElem? (i := 764) (by decide +kernel), List.mem_of_getElem? (i := 765) (by decide +kernel)⟩
theorem lw_p35 : lw_okq (⟨"MineUpsideModel", "wetOf", "(I)I"⟩, 24) := ⟨⟨by decide +kernel, by decide +kernel⟩, List.mem_of_getElem? (i := 525) (by decide +kernel), List.mem_of_getElem? (i := 772) (by decide +kernel), List.mem_of_getElem? (i := 773) (by decide +kernel)⟩
theorem lw_p36 : lw_okq (⟨"MineUpsideModel", "flows", "(I)V"⟩, 24) := ⟨⟨by decide +kernel, by decide +kernel⟩, List.mem_of_getElem? (i := 525) (by decide +kernel), List.mem_of_getElem? (i := 776) (by decide +kernel), List.mem_of_getElem? (i := 777) (by decide +kernel)⟩
theorem lw_p37 : lw_okq (⟨"MineUpsideModel", "plugOf", "(II)I"⟩, 24) := ⟨⟨by decide +kernel, by decide +kernel⟩, List.mem_of_getElem? (i := 525) (by decide +kernel), List.mem_of_getElem? (i := 787) (by decide +kernel), List.mem_of_getElem? (i := 788) (by decide +kernel)⟩
theorem lw_p38 : lw_okq (⟨"MineUpsideModel", "plugBy", "(I)I"⟩, 24) := ⟨⟨by decide +kernel, by decide +kernel⟩, List.mem_of_getElem? (i := 525) (by decide +kernel), List.mem_of_getElem? (i := 791) (by decide +kernel), List.mem_of_getElem? (i := 792) (by decide +kernel)⟩
theorem lw_p39 : lw_okq (⟨"MineUpsideModel", "plugs", "(III)Z"⟩, 24) := ⟨⟨by decide +kernel, by decide +kernel⟩, List.mem_of_getElem? (i := 525) (by decide +kernel), List.mem_of_getElem? (i := 795) (by decide +kernel), List.mem_of_getElem? (i := 796) (by decide +kernel)⟩
theorem lw_p40 : lw_okq (⟨"MineUpsideModel", "mayPlug", "(II)Z"⟩, 24) := ⟨⟨by decide +kernel, by decide +kernel⟩, List.mem_of_getElem? (i := 525) (by decide +kernel), List.mem_of_getElem? (i := 799) (by decide +kernel), List.mem_of_getElem? (i := 800) (by decide +kernel)⟩
theorem lw_p41 : lw_okq (⟨"MineUpsideModel", "whereNow", "()I"⟩, 24) := ⟨⟨by decide +kernel, by decide +kernel⟩, List.mem_of_getElem? (i := 525) (by decide +kernel), List.mem_of_getElem? (i := 815) (by decide +kernel), List.mem_of_getElem? (i := 816) (by decide +kernel)⟩
theorem lw_p42 : lw_okq (⟨"MineUpsideModel", "hangNow", "()I"⟩, 24) := ⟨⟨by decide +kernel, by decide +kernel⟩, List.mem_of_getElem? (i := 525) (by decide +kernel), List.mem_of_getElem? (i := 823) (by decide +kernel), List.mem_of_getElem? (i := 824) (by decide +kernel)⟩
theorem lw_p43 : lw_okq (⟨"MineUpsideModel", "fromOf", "(III)I"⟩, 24) := ⟨⟨by decide +kernel, by decide +kernel⟩, List.mem_of_getElem? (i := 525) (by decide +kernel), List.mem_of_getElem? (i := 831) (by decide +kernel), List.mem_of_getElem? (i := 832) (by decide +kernel)⟩
theorem lw_p44 : lw_okq (⟨"MineUpsideModel", "joinedNow", "()I"⟩, 24) := ⟨⟨by decide +kernel, by decide +kernel⟩, List.mem_of_getElem? (i := 525) (by decide +kernel), List.mem_of_getElem? (i := 839) (by decide +kernel), List.mem_of_getElem? (i := 840) (by decide +kernel)⟩
theorem lw_p45 : lw_okq (⟨"MineUpsideModel", "likeOf", "(I)I"⟩, 24) := ⟨⟨by decide +kernel, by decide +kernel⟩, List.mem_of_getElem? (i := 525) (by decide +kernel), List.mem_of_getElem? (i := 847) (by decide +kernel), List.mem_of_getElem? (i := 848) (by decide +kernel)⟩
theorem lw_p46 : lw_okq (⟨"MineUpsideModel", "springs", "()I"⟩, 24) := ⟨⟨by decide +kernel, by decide +kernel⟩, List.mem_of_getElem? (i := 525) (by decide +kernel), List.mem_of_getElem? (i := 855) (by decide +kernel), List.mem_of_getElem? (i := 856) (by decide +kernel)⟩
theorem lw_p47 : lw_okq (⟨"MineUpsideModel", "floodOf", "(III)J"⟩, 24) := ⟨⟨by decide +kernel, by decide +kernel⟩, List.mem_of_getElem? (i := 525) (by decide +kernel), List.mem_of_getElem? (i := 859) (by decide +kernel), List.mem_of_getElem? (i := 860) (by decide +kernel)⟩
def lw_privs_3 : List (MethodName × Nat) := [(⟨"MineUpsideModel", "nextOf", "(II)I"⟩, 24), (⟨"MineUpsideModel", "raceOf", "(III)I"⟩, 24), (⟨"MineUpsideModel", "reachOf", "(I)I"⟩, 24), (⟨"MineUpsideModel", "wetOf", "(I)I"⟩, 24), (⟨"MineUpsideModel", "flows", "(I)V"⟩, 24), (⟨"MineUpsideModel", "plugOf", "(II)I"⟩, 24), (⟨"MineUpsideModel", "plugBy", "(I)I"⟩, 24), (⟨"MineUpsideModel", "plugs", "(III)Z"⟩, 24), (⟨"MineUpsideModel", "mayPlug", "(II)Z"⟩, 24), (⟨"MineUpsideModel", "whereNow", "()I"⟩, 24), (⟨"MineUpsideModel", "hangNow", "()I"⟩, 24), (⟨"MineUpsideModel", "fromOf", "(III)I"⟩, 24), (⟨"MineUpsideModel", "joinedNow", "()I"⟩, 24), (⟨"MineUpsideModel", "likeOf", "(I)I"⟩, 24), (⟨"MineUpsideModel", "springs", "()I"⟩, 24), (⟨"MineUpsideModel", "floodOf", "(III)J"⟩, 24)]
theorem lw_r3 : ∀ q ∈ lw_privs_3, lw_okq q := List.forall_mem_cons.mpr ⟨lw_p32, List.forall_mem_cons.mpr ⟨lw_p33, List.forall_mem_cons.mpr ⟨lw_p34, List.forall_mem_cons.mpr ⟨lw_p35, List.forall_mem_cons.mpr ⟨lw_p36, List.forall_mem_cons.mpr ⟨lw_p37, List.forall_mem_cons.mpr ⟨lw_p38, List.forall_mem_cons.mpr ⟨lw_p39, List.forall_mem_cons.mpr ⟨lw_p40, List.forall_mem_cons.mpr ⟨lw_p41, List.forall_mem_cons.mpr ⟨lw_p42, List.forall_mem_cons.mpr ⟨lw_p43, List.forall_mem_cons.mpr ⟨lw_p44, List.forall_mem_cons.mpr ⟨lw_p45, List.forall_mem_cons.mpr ⟨lw_p46, List.forall_mem_cons.mpr ⟨lw_p47, fun _ h => absurd h List.not_mem_nil⟩⟩⟩⟩⟩⟩⟩⟩⟩⟩⟩⟩⟩⟩⟩⟩
theorem lw_p48 : lw_okq (⟨"MineUpsideModel", "kicksOf", "(III)I"⟩, 24) := ⟨⟨by decide +kernel, by decide +kernel⟩, List.mem_of_getElem? (i := 525) (by decide +kernel), List.mem_of_getElem? (i := 874) (by decide +kernel), List.mem_of_getElem? (i := 875) (by decide +kernel)⟩
theorem lw_p49 : lw_okq (⟨"MineUpsideModel", "lacks", "(III)I"⟩, 24) := ⟨⟨by decide +kernel, by decide +kernel⟩, List.mem_of_getElem? (i := 525) (by decide +kernel), List.mem_of_getElem? (i := 891) (by decide +kernel), List.mem_of_getElem? (i := 892) (by decide +kernel)⟩
theorem lw_p50 : lw_okq (⟨"MineUpsideModel", "keep", "(III)V"⟩, 24) := ⟨⟨by decide +kernel, by decide +kernel⟩, List.mem_of_getElem? (i := 525) (by decide +kernel), List.mem_of_getElem? (i := 895) (by decide +kernel), List.mem_of_getElem? (i := 896) (by decide +kernel)⟩
theorem lw_p51 : lw_okq (⟨"MineUpsideModel", "sumOf", "(I)I"⟩, 24) := ⟨⟨by decide +kernel, by decide +kernel⟩, List.mem_of_getElem? (i := 525) (by decide +kernel), List.mem_of_getElem? (i := 916) (by decide +kernel), List.mem_of_getElem? (i := 917) (by decide +kernel)⟩
theorem lw_p52 : lw_okq (⟨"MineUpsideModel", "cellDigest", "(JI)J"⟩, 24) := ⟨⟨by decide +kernel, by decide +kernel⟩, List.mem_of_getElem? (i := 525) (by decide +kernel), List.mem_of_getElem? (i := 927) (by decide +kernel), List.mem_of_getElem? (i := 928) (by decide +kernel)⟩
def lw_privs_4 : List (MethodName × Nat) := [(⟨"MineUpsideModel", "kicksOf", "(III)I"⟩, 24), (⟨"MineUpsideModel", "lacks", "(III)I"⟩, 24), (⟨"MineUpsideModel", "keep", "(III)V"⟩, 24), (⟨"MineUpsideModel", "sumOf", "(I)I"⟩, 24), (⟨"MineUpsideModel", "cellDigest", "(JI)J"⟩, 24)]
theorem lw_r4 : ∀ q ∈ lw_privs_4, lw_okq q := List.forall_mem_cons.mpr ⟨lw_p48, List.forall_mem_cons.mpr ⟨lw_p49, List.forall_mem_cons.mpr ⟨lw_p50, List.forall_mem_cons.mpr ⟨lw_p51, List.forall_mem_cons.mpr ⟨lw_p52, fun _ h => absurd h List.not_mem_nil⟩⟩⟩⟩⟩
def lw_privs : List (MethodName × Nat) := lw_privs_1 ++ (lw_privs_2 ++ (lw_privs_3 ++ (lw_privs_4)))
def lw_tbl : List Cond := k2_sels lw_privs ++ tables_1
theorem lw_privs_ok : ∀ q ∈ lw_privs, lw_okq q := by
  show ∀ q ∈ lw_privs_1 ++ (lw_privs_2 ++ (lw_privs_3 ++ (lw_privs_4))), lw_okq q
  exact List.forall_mem_append.mpr ⟨lw_r1, List.forall_mem_append.mpr ⟨lw_r2, List.forall_mem_append.mpr ⟨lw_r3, lw_r4⟩⟩⟩
-- names
def RX0 : String := "MineUpside$Plan"
def TX0 : u_T := fun k => match k with
  | 0 => ("MineUpside$Plan", "faultPlace", "I", false)
  | 1 => ("MineUpside$Plan", "rows", "I", false)
  | 2 => ("MineUpside$Plan", "wide", "I", false)
  | 3 => ("MineUpside$Plan", "cells", "I", false)
  | 4 => ("MineUpside$Plan", "hollow", "J", false)
  | 5 => ("MineUpside$Plan", "ladders", "J", false)
  | 6 => ("MineUpside$Plan", "springs", "J", false)
  | 7 => ("MineUpside$Plan", "firsts", "J", false)
  | 8 => ("MineUpside$Plan", "lasts", "J", false)
  | 9 => ("MineUpside$Plan", "ups", "J", false)
  | 10 => ("MineUpside$Plan", "held", "J", false)
  | 11 => ("MineUpside$Plan", "wetCells", "J", false)
  | 12 => ("MineUpside$Plan", "goes", "[J", true)
  | _ => ("MineUpside$Plan", "crosses", "[J", true)
def tyX0 : Nat → FieldType := fun k => match k with
  | 0 => .int
  | 1 => .int
  | 2 => .int
  | 3 => .int
  | 4 => .long
  | 5 => .long
  | 6 => .long
  | 7 => .long
  | 8 => .long
  | 9 => .long
  | 10 => .long
  | 11 => .long
  | 12 => .array .long
  | _ => .array .long
theorem nmX0 : ∀ a, a < 14 → ∀ b, b < 14 → a ≠ b → (TX0 a).2.1 ≠ (TX0 b).2.1 := by decide +kernel
theorem tyX0_ok : ∀ k, k < 14 → parseFieldDescriptor (TX0 k).2.2.1 = some (tyX0 k) := by decide +kernel
abbrev cX0_init : ByteArray := prog_2_method_1_code
def yX0_init : MethodName := ⟨RX0, "<init>", "()V"⟩
abbrev cX0_survey : ByteArray := prog_2_method_2_code
def yX0_survey : MethodName := ⟨RX0, "survey", "([III)V"⟩
abbrev cX0_clear : ByteArray := prog_2_method_3_code
def yX0_clear : MethodName := ⟨RX0, "clear", "()V"⟩
abbrev cX0_markRows : ByteArray := prog_2_method_4_code
def yX0_markRows : MethodName := ⟨RX0, "markRows", "(I)V"⟩
abbrev cX0_markMoves : ByteArray := prog_2_method_5_code
def yX0_markMoves : MethodName := ⟨RX0, "markMoves", "()V"⟩
abbrev cX0_spell : ByteArray := prog_2_method_6_code
def yX0_spell : MethodName := ⟨RX0, "spell", "([II)I"⟩
abbrev cX0_endsRow : ByteArray := prog_2_method_7_code
def yX0_endsRow : MethodName := ⟨RX0, "endsRow", "(I)Z"⟩
abbrev cX0_kindOf : ByteArray := prog_2_method_8_code
def yX0_kindOf : MethodName := ⟨RX0, "kindOf", "(I)I"⟩
abbrev cX0_dig : ByteArray := prog_2_method_9_code
def yX0_dig : MethodName := ⟨RX0, "dig", "(I)V"⟩
abbrev cX0_isCell : ByteArray := prog_2_method_10_code
def yX0_isCell : MethodName := ⟨RX0, "isCell", "(I)Z"⟩
abbrev cX0_kind : ByteArray := prog_2_method_11_code
def yX0_kind : MethodName := ⟨RX0, "kind", "(I)I"⟩
abbrev cX0_loose : ByteArray := prog_2_method_12_code
def yX0_loose : MethodName := ⟨RX0, "loose", "(J)J"⟩
abbrev cX0_fallen : ByteArray := prog_2_method_13_code
def yX0_fallen : MethodName := ⟨RX0, "fallen", "(I)I"⟩
abbrev cX0_placeBehind : ByteArray := prog_2_method_14_code
def yX0_placeBehind : MethodName := ⟨RX0, "placeBehind", "(II)I"⟩
abbrev cX0_falls : ByteArray := prog_2_method_15_code
def yX0_falls : MethodName := ⟨RX0, "falls", "(I)I"⟩
abbrev cX0_goneTo : ByteArray := prog_2_method_16_code
def yX0_goneTo : MethodName := ⟨RX0, "goneTo", "(II)I"⟩
abbrev cX0_moveSteps : ByteArray := prog_2_method_17_code
def yX0_moveSteps : MethodName := ⟨RX0, "moveSteps", "(III)I"⟩
abbrev cX0_kicked : ByteArray := prog_2_method_18_code
def yX0_kicked : MethodName := ⟨RX0, "kicked", "(II)I"⟩
abbrev cX0_soaked : ByteArray := prog_2_method_19_code
def yX0_soaked : MethodName := ⟨RX0, "soaked", "(JJ)J"⟩
abbrev cX0_springsThatWet : ByteArray := prog_2_method_20_code
def yX0_springsThatWet : MethodName := ⟨RX0, "springsThatWet", "(I)I"⟩
abbrev cX0_plugsFor : ByteArray := prog_2_method_21_code
def yX0_plugsFor : MethodName := ⟨RX0, "plugsFor", "(I)J"⟩
abbrev cX0_keepsDry : ByteArray := prog_2_method_22_code
def yX0_keepsDry : MethodName := ⟨RX0, "keepsDry", "(JI)Z"⟩
def RX1 : String := "MineUpside$Sheet"
def TX1 : u_T := fun k => match k with
  | 0 => ("MineUpside$Sheet", "lost", "Z", false)
  | 1 => ("MineUpside$Sheet", "form", "I", false)
  | 2 => ("MineUpside$Sheet", "size", "I", false)
  | _ => ("MineUpside$Sheet", "items", "[I", true)
def tyX1 : Nat → FieldType := fun k => match k with
  | 0 => .boolean
  | 1 => .int
  | 2 => .int
  | _ => .array .int
theorem nmX1 : ∀ a, a < 4 → ∀ b, b < 4 → a ≠ b → (TX1 a).2.1 ≠ (TX1 b).2.1 := by decide +kernel
theorem tyX1_ok : ∀ k, k < 4 → parseFieldDescriptor (TX1 k).2.2.1 = some (tyX1 k) := by decide +kernel
abbrev cX1_init : ByteArray := prog_3_method_1_code
def yX1_init : MethodName := ⟨RX1, "<init>", "()V"⟩
abbrev cX1_begin : ByteArray := prog_3_method_2_code
def yX1_begin : MethodName := ⟨RX1, "begin", "(II)V"⟩
abbrev cX1_holds : ByteArray := prog_3_method_3_code
def yX1_holds : MethodName := ⟨RX1, "holds", "(II)Z"⟩
abbrev cX1_store : ByteArray := prog_3_method_4_code
def yX1_store : MethodName := ⟨RX1, "store", "(II)V"⟩
def RX2 : String := "MineUpside$Ways"
def TX2 : u_T := fun k => match k with
  | 0 => ("MineUpside$Ways", "plan", "LMineUpside$Plan;", true)
  | 1 => ("MineUpside$Ways", "steps", "[I", true)
  | 2 => ("MineUpside$Ways", "known", "J", false)
  | _ => ("MineUpside$Ways", "turn", "I", false)
def tyX2 : Nat → FieldType := fun k => match k with
  | 0 => .object "MineUpside$Plan"
  | 1 => .array .int
  | 2 => .long
  | _ => .int
theorem nmX2 : ∀ a, a < 4 → ∀ b, b < 4 → a ≠ b → (TX2 a).2.1 ≠ (TX2 b).2.1 := by decide +kernel
theorem tyX2_ok : ∀ k, k < 4 → parseFieldDescriptor (TX2 k).2.2.1 = some (tyX2 k) := by decide +kernel
abbrev cX2_init : ByteArray := prog_4_method_1_code
def yX2_init : MethodName := ⟨RX2, "<init>", "(LMineUpside$Plan;)V"⟩
abbrev cX2_renew : ByteArray := prog_4_method_2_code
def yX2_renew : MethodName := ⟨RX2, "renew", "(I)V"⟩
abbrev cX2_between : ByteArray := prog_4_method_3_code
def yX2_between : MethodName := ⟨RX2, "between", "(II)I"⟩
abbrev cX2_measure : ByteArray := prog_4_method_4_code
def yX2_measure : MethodName := ⟨RX2, "measure", "(I)V"⟩
abbrev cX2_goOn : ByteArray := prog_4_method_5_code
def yX2_goOn : MethodName := ⟨RX2, "goOn", "(I)Z"⟩
abbrev cX2_isSooner : ByteArray := prog_4_method_6_code
def yX2_isSooner : MethodName := ⟨RX2, "isSooner", "(II)Z"⟩
def RX3 : String := "MineUpside"
def TX3 : u_T := fun k => match k with
  | 0 => ("MineUpside", "text", "[I", true)
  | 1 => ("MineUpside", "bytes", "I", false)
  | 2 => ("MineUpside", "middle", "I", false)
  | 3 => ("MineUpside", "turn", "I", false)
  | 4 => ("MineUpside", "thingCells", "[I", true)
  | 5 => ("MineUpside", "thingSteps", "[I", true)
  | 6 => ("MineUpside", "things", "I", false)
  | 7 => ("MineUpside", "plumbs", "I", false)
  | 8 => ("MineUpside", "mayBe", "I", false)
  | 9 => ("MineUpside", "sheets", "[LMineUpside$Sheet;", true)
  | 10 => ("MineUpside", "finding", "I", false)
  | 11 => ("MineUpside", "plan", "LMineUpside$Plan;", true)
  | _ => ("MineUpside", "ways", "LMineUpside$Ways;", true)
def tyX3 : Nat → FieldType := fun k => match k with
  | 0 => .array .int
  | 1 => .int
  | 2 => .int
  | 3 => .int
  | 4 => .array .int
  | 5 => .array .int
  | 6 => .int
  | 7 => .int
  | 8 => .int
  | 9 => .array (.object "MineUpside$Sheet")
  | 10 => .int
  | 11 => .object "MineUpside$Plan"
  | _ => .object "MineUpside$Ways"
theorem nmX3 : ∀ a, a < 13 → ∀ b, b < 13 → a ≠ b → (TX3 a).2.1 ≠ (TX3 b).2.1 := by decide +kernel
theorem tyX3_ok : ∀ k, k < 13 → parseFieldDescriptor (TX3 k).2.2.1 = some (tyX3 k) := by decide +kernel
abbrev cX3_init : ByteArray := prog_1_method_1_code
def yX3_init : MethodName := ⟨RX3, "<init>", "()V"⟩
abbrev cX3_type : ByteArray := prog_1_method_2_code
def yX3_type : MethodName := ⟨RX3, "type", "(I)I"⟩
abbrev cX3_wipe : ByteArray := prog_1_method_3_code
def yX3_wipe : MethodName := ⟨RX3, "wipe", "()I"⟩
abbrev cX3_undo : ByteArray := prog_1_method_4_code
def yX3_undo : MethodName := ⟨RX3, "undo", "()I"⟩
abbrev cX3_fault : ByteArray := prog_1_method_5_code
def yX3_fault : MethodName := ⟨RX3, "fault", "()I"⟩
abbrev cX3_cell : ByteArray := prog_1_method_6_code
def yX3_cell : MethodName := ⟨RX3, "cell", "(II)I"⟩
abbrev cX3_set : ByteArray := prog_1_method_7_code
def yX3_set : MethodName := ⟨RX3, "set", "(II)I"⟩
abbrev cX3_thing : ByteArray := prog_1_method_8_code
def yX3_thing : MethodName := ⟨RX3, "thing", "(II)I"⟩
abbrev cX3_back : ByteArray := prog_1_method_9_code
def yX3_back : MethodName := ⟨RX3, "back", "()I"⟩
abbrev cX3_read : ByteArray := prog_1_method_10_code
def yX3_read : MethodName := ⟨RX3, "read", "(I)I"⟩
abbrev cX3_at : ByteArray := prog_1_method_11_code
def yX3_at : MethodName := ⟨RX3, "at", "(II)I"⟩
abbrev cX3_rests : ByteArray := prog_1_method_12_code
def yX3_rests : MethodName := ⟨RX3, "rests", "(II)I"⟩
abbrev cX3_longest : ByteArray := prog_1_method_13_code
def yX3_longest : MethodName := ⟨RX3, "longest", "()I"⟩
abbrev cX3_meet : ByteArray := prog_1_method_14_code
def yX3_meet : MethodName := ⟨RX3, "meet", "(II)I"⟩
abbrev cX3_way : ByteArray := prog_1_method_15_code
def yX3_way : MethodName := ⟨RX3, "way", "(II)I"⟩
abbrev cX3_next : ByteArray := prog_1_method_16_code
def yX3_next : MethodName := ⟨RX3, "next", "(II)I"⟩
abbrev cX3_race : ByteArray := prog_1_method_17_code
def yX3_race : MethodName := ⟨RX3, "race", "(III)I"⟩
abbrev cX3_reach : ByteArray := prog_1_method_18_code
def yX3_reach : MethodName := ⟨RX3, "reach", "(I)I"⟩
abbrev cX3_wet : ByteArray := prog_1_method_19_code
def yX3_wet : MethodName := ⟨RX3, "wet", "(I)I"⟩
abbrev cX3_plug : ByteArray := prog_1_method_20_code
def yX3_plug : MethodName := ⟨RX3, "plug", "(II)I"⟩
abbrev cX3_plumb : ByteArray := prog_1_method_21_code
def yX3_plumb : MethodName := ⟨RX3, "plumb", "(II)I"⟩
abbrev cX3_forget : ByteArray := prog_1_method_22_code
def yX3_forget : MethodName := ⟨RX3, "forget", "()I"⟩
abbrev cX3_where : ByteArray := prog_1_method_23_code
def yX3_where : MethodName := ⟨RX3, "where", "()I"⟩
abbrev cX3_hang : ByteArray := prog_1_method_24_code
def yX3_hang : MethodName := ⟨RX3, "hang", "()I"⟩
abbrev cX3_from : ByteArray := prog_1_method_25_code
def yX3_from : MethodName := ⟨RX3, "from", "(III)I"⟩
abbrev cX3_joined : ByteArray := prog_1_method_26_code
def yX3_joined : MethodName := ⟨RX3, "joined", "()I"⟩
abbrev cX3_like : ByteArray := prog_1_method_27_code
def yX3_like : MethodName := ⟨RX3, "like", "(I)I"⟩
abbrev cX3_flood : ByteArray := prog_1_method_28_code
def yX3_flood : MethodName := ⟨RX3, "flood", "(III)J"⟩
abbrev cX3_kicks : ByteArray := prog_1_method_29_code
def yX3_kicks : MethodName := ⟨RX3, "kicks", "(III)I"⟩
abbrev cX3_sheet : ByteArray := prog_1_method_30_code
def yX3_sheet : MethodName := ⟨RX3, "sheet", "(III)I"⟩
abbrev cX3_lose : ByteArray := prog_1_method_31_code
def yX3_lose : MethodName := ⟨RX3, "lose", "(I)I"⟩
abbrev cX3_put : ByteArray := prog_1_method_32_code
def yX3_put : MethodName := ⟨RX3, "put", "(IIII)I"⟩
abbrev cX3_get : ByteArray := prog_1_method_33_code
def yX3_get : MethodName := ⟨RX3, "get", "(III)I"⟩
abbrev cX3_copy : ByteArray := prog_1_method_34_code
def yX3_copy : MethodName := ⟨RX3, "copy", "(IIIII)I"⟩
abbrev cX3_write : ByteArray := prog_1_method_35_code
def yX3_write : MethodName := ⟨RX3, "write", "(II)I"⟩
abbrev cX3_count : ByteArray := prog_1_method_36_code
def yX3_count : MethodName := ⟨RX3, "count", "(I)I"⟩
abbrev cX3_digest : ByteArray := prog_1_method_37_code
def yX3_digest : MethodName := ⟨RX3, "digest", "()J"⟩
abbrev cX3_mixed : ByteArray := prog_1_method_38_code
def yX3_mixed : MethodName := ⟨RX3, "mixed", "(JJ)J"⟩
abbrev cX3_renew : ByteArray := prog_1_method_39_code
def yX3_renew : MethodName := ⟨RX3, "renew", "()V"⟩
abbrev cX3_isThing : ByteArray := prog_1_method_40_code
def yX3_isThing : MethodName := ⟨RX3, "isThing", "(I)Z"⟩
abbrev cX3_isStep : ByteArray := prog_1_method_41_code
def yX3_isStep : MethodName := ⟨RX3, "isStep", "(I)Z"⟩
abbrev cX3_isSheet : ByteArray := prog_1_method_42_code
def yX3_isSheet : MethodName := ⟨RX3, "isSheet", "(I)Z"⟩
abbrev cX3_isForm : ByteArray := prog_1_method_43_code
def yX3_isForm : MethodName := ⟨RX3, "isForm", "(I)Z"⟩
abbrev cX3_found : ByteArray := prog_1_method_44_code
def yX3_found : MethodName := ⟨RX3, "found", "(I)I"⟩
abbrev cX3_refusalOfItem : ByteArray := prog_1_method_45_code
def yX3_refusalOfItem : MethodName := ⟨RX3, "refusalOfItem", "(III)I"⟩
abbrev cX3_middlesUpAt : ByteArray := prog_1_method_46_code
def yX3_middlesUpAt : MethodName := ⟨RX3, "middlesUpAt", "(I)I"⟩
abbrev cX3_asNumber : ByteArray := prog_1_method_47_code
def yX3_asNumber : MethodName := ⟨RX3, "asNumber", "(Z)I"⟩
abbrev cX3_bit : ByteArray := prog_1_method_48_code
def yX3_bit : MethodName := ⟨RX3, "bit", "(I)J"⟩
abbrev cX3_has : ByteArray := prog_1_method_49_code
def yX3_has : MethodName := ⟨RX3, "has", "(JI)Z"⟩
abbrev cX3_sizeOrItem : ByteArray := prog_1_method_50_code
def yX3_sizeOrItem : MethodName := ⟨RX3, "sizeOrItem", "(JI)I"⟩
def RX4 : String := "MineUpsideModel"
def TX4 : u_T := fun k => match k with
  | 0 => ("MineUpsideModel", "text", "[I", true)
  | 1 => ("MineUpsideModel", "typed", "I", false)
  | 2 => ("MineUpsideModel", "wide", "I", false)
  | 3 => ("MineUpsideModel", "rows", "I", false)
  | 4 => ("MineUpsideModel", "cells", "I", false)
  | 5 => ("MineUpsideModel", "kinds", "[I", true)
  | 6 => ("MineUpsideModel", "middleNow", "I", false)
  | 7 => ("MineUpsideModel", "turnNow", "I", false)
  | 8 => ("MineUpsideModel", "things", "I", false)
  | 9 => ("MineUpsideModel", "thingCell", "[I", true)
  | 10 => ("MineUpsideModel", "thingStep", "[I", true)
  | 11 => ("MineUpsideModel", "far", "[I", true)
  | 12 => ("MineUpsideModel", "comes", "[Z", true)
  | 13 => ("MineUpsideModel", "wetNow", "[Z", true)
  | 14 => ("MineUpsideModel", "planRow", "[I", true)
  | 15 => ("MineUpsideModel", "plumbs", "I", false)
  | 16 => ("MineUpsideModel", "plumbRow", "[I", true)
  | 17 => ("MineUpsideModel", "plumbUp", "[I", true)
  | 18 => ("MineUpsideModel", "isThere", "[Z", true)
  | 19 => ("MineUpsideModel", "forms", "[I", true)
  | 20 => ("MineUpsideModel", "sizes", "[I", true)
  | 21 => ("MineUpsideModel", "items", "[I", true)
  | 22 => ("MineUpsideModel", "moved", "[I", true)
  | _ => ("MineUpsideModel", "finding", "I", false)
def tyX4 : Nat → FieldType := fun k => match k with
  | 0 => .array .int
  | 1 => .int
  | 2 => .int
  | 3 => .int
  | 4 => .int
  | 5 => .array .int
  | 6 => .int
  | 7 => .int
  | 8 => .int
  | 9 => .array .int
  | 10 => .array .int
  | 11 => .array .int
  | 12 => .array .boolean
  | 13 => .array .boolean
  | 14 => .array .int
  | 15 => .int
  | 16 => .array .int
  | 17 => .array .int
  | 18 => .array .boolean
  | 19 => .array .int
  | 20 => .array .int
  | 21 => .array .int
  | 22 => .array .int
  | _ => .int
theorem nmX4 : ∀ a, a < 24 → ∀ b, b < 24 → a ≠ b → (TX4 a).2.1 ≠ (TX4 b).2.1 := by decide +kernel
theorem tyX4_ok : ∀ k, k < 24 → parseFieldDescriptor (TX4 k).2.2.1 = some (tyX4 k) := by decide +kernel
abbrev cX4_init : ByteArray := prog_6_method_1_code
def yX4_init : MethodName := ⟨RX4, "<init>", "()V"⟩
abbrev cX4_in : ByteArray := prog_6_method_3_code
def yX4_in : MethodName := ⟨RX4, "in", "(III)Z"⟩
abbrev cX4_isIn : ByteArray := prog_6_method_4_code
def yX4_isIn : MethodName := ⟨RX4, "isIn", "(II)Z"⟩
abbrev cX4_no : ByteArray := prog_6_method_5_code
def yX4_no : MethodName := ⟨RX4, "no", "(I)J"⟩
abbrev cX4_lowest : ByteArray := prog_6_method_6_code
def yX4_lowest : MethodName := ⟨RX4, "lowest", "(JJI)J"⟩
abbrev cX4_type : ByteArray := prog_6_method_7_code
def yX4_type : MethodName := ⟨RX4, "type", "(I)I"⟩
abbrev cX4_wipe : ByteArray := prog_6_method_8_code
def yX4_wipe : MethodName := ⟨RX4, "wipe", "()I"⟩
abbrev cX4_undo : ByteArray := prog_6_method_9_code
def yX4_undo : MethodName := ⟨RX4, "undo", "()I"⟩
abbrev cX4_kindOf : ByteArray := prog_6_method_10_code
def yX4_kindOf : MethodName := ⟨RX4, "kindOf", "(I)I"⟩
abbrev cX4_faultNow : ByteArray := prog_6_method_11_code
def yX4_faultNow : MethodName := ⟨RX4, "faultNow", "()I"⟩
abbrev cX4_fault : ByteArray := prog_6_method_12_code
def yX4_fault : MethodName := ⟨RX4, "fault", "()I"⟩
abbrev cX4_reads : ByteArray := prog_6_method_13_code
def yX4_reads : MethodName := ⟨RX4, "reads", "()V"⟩
abbrev cX4_isCell : ByteArray := prog_6_method_14_code
def yX4_isCell : MethodName := ⟨RX4, "isCell", "(I)Z"⟩
abbrev cX4_isOpen : ByteArray := prog_6_method_15_code
def yX4_isOpen : MethodName := ⟨RX4, "isOpen", "(I)Z"⟩
abbrev cX4_isUp : ByteArray := prog_6_method_16_code
def yX4_isUp : MethodName := ⟨RX4, "isUp", "(I)Z"⟩
abbrev cX4_below : ByteArray := prog_6_method_17_code
def yX4_below : MethodName := ⟨RX4, "below", "(I)I"⟩
abbrev cX4_isHeld : ByteArray := prog_6_method_18_code
def yX4_isHeld : MethodName := ⟨RX4, "isHeld", "(I)Z"⟩
abbrev cX4_cell : ByteArray := prog_6_method_19_code
def yX4_cell : MethodName := ⟨RX4, "cell", "(II)I"⟩
abbrev cX4_set : ByteArray := prog_6_method_20_code
def yX4_set : MethodName := ⟨RX4, "set", "(II)I"⟩
abbrev cX4_thing : ByteArray := prog_6_method_21_code
def yX4_thing : MethodName := ⟨RX4, "thing", "(II)I"⟩
abbrev cX4_back : ByteArray := prog_6_method_22_code
def yX4_back : MethodName := ⟨RX4, "back", "()I"⟩
abbrev cX4_read : ByteArray := prog_6_method_23_code
def yX4_read : MethodName := ⟨RX4, "read", "(I)I"⟩
abbrev cX4_isThing : ByteArray := prog_6_method_24_code
def yX4_isThing : MethodName := ⟨RX4, "isThing", "(I)Z"⟩
abbrev cX4_fallen : ByteArray := prog_6_method_25_code
def yX4_fallen : MethodName := ⟨RX4, "fallen", "(II)I"⟩
abbrev cX4_atOf : ByteArray := prog_6_method_26_code
def yX4_atOf : MethodName := ⟨RX4, "atOf", "(II)I"⟩
abbrev cX4_at : ByteArray := prog_6_method_27_code
def yX4_at : MethodName := ⟨RX4, "at", "(II)I"⟩
abbrev cX4_restsOf : ByteArray := prog_6_method_28_code
def yX4_restsOf : MethodName := ⟨RX4, "restsOf", "(II)I"⟩
abbrev cX4_rests : ByteArray := prog_6_method_29_code
def yX4_rests : MethodName := ⟨RX4, "rests", "(II)I"⟩
abbrev cX4_longestNow : ByteArray := prog_6_method_30_code
def yX4_longestNow : MethodName := ⟨RX4, "longestNow", "()I"⟩
abbrev cX4_longest : ByteArray := prog_6_method_31_code
def yX4_longest : MethodName := ⟨RX4, "longest", "()I"⟩
abbrev cX4_meetOf : ByteArray := prog_6_method_32_code
def yX4_meetOf : MethodName := ⟨RX4, "meetOf", "(II)I"⟩
abbrev cX4_meet : ByteArray := prog_6_method_33_code
def yX4_meet : MethodName := ⟨RX4, "meet", "(II)I"⟩
abbrev cX4_cost : ByteArray := prog_6_method_34_code
def yX4_cost : MethodName := ⟨RX4, "cost", "(II)I"⟩
abbrev cX4_target : ByteArray := prog_6_method_35_code
def yX4_target : MethodName := ⟨RX4, "target", "(II)I"⟩
abbrev cX4_laysFar : ByteArray := prog_6_method_36_code
def yX4_laysFar : MethodName := ⟨RX4, "laysFar", "(I)V"⟩
abbrev cX4_wayOf : ByteArray := prog_6_method_37_code
def yX4_wayOf : MethodName := ⟨RX4, "wayOf", "(II)I"⟩
abbrev cX4_way : ByteArray := prog_6_method_38_code
def yX4_way : MethodName := ⟨RX4, "way", "(II)I"⟩
abbrev cX4_nextOf : ByteArray := prog_6_method_39_code
def yX4_nextOf : MethodName := ⟨RX4, "nextOf", "(II)I"⟩
abbrev cX4_next : ByteArray := prog_6_method_40_code
def yX4_next : MethodName := ⟨RX4, "next", "(II)I"⟩
abbrev cX4_raceOf : ByteArray := prog_6_method_41_code
def yX4_raceOf : MethodName := ⟨RX4, "raceOf", "(III)I"⟩
abbrev cX4_race : ByteArray := prog_6_method_42_code
def yX4_race : MethodName := ⟨RX4, "race", "(III)I"⟩
abbrev cX4_reachOf : ByteArray := prog_6_method_43_code
def yX4_reachOf : MethodName := ⟨RX4, "reachOf", "(I)I"⟩
abbrev cX4_reach : ByteArray := prog_6_method_44_code
def yX4_reach : MethodName := ⟨RX4, "reach", "(I)I"⟩
abbrev cX4_flows : ByteArray := prog_6_method_45_code
def yX4_flows : MethodName := ⟨RX4, "flows", "(I)V"⟩
abbrev cX4_wetOf : ByteArray := prog_6_method_46_code
def yX4_wetOf : MethodName := ⟨RX4, "wetOf", "(I)I"⟩
abbrev cX4_wet : ByteArray := prog_6_method_47_code
def yX4_wet : MethodName := ⟨RX4, "wet", "(I)I"⟩
abbrev cX4_plugs : ByteArray := prog_6_method_48_code
def yX4_plugs : MethodName := ⟨RX4, "plugs", "(III)Z"⟩
abbrev cX4_mayPlug : ByteArray := prog_6_method_49_code
def yX4_mayPlug : MethodName := ⟨RX4, "mayPlug", "(II)Z"⟩
abbrev cX4_plugBy : ByteArray := prog_6_method_50_code
def yX4_plugBy : MethodName := ⟨RX4, "plugBy", "(I)I"⟩
abbrev cX4_plugOf : ByteArray := prog_6_method_51_code
def yX4_plugOf : MethodName := ⟨RX4, "plugOf", "(II)I"⟩
abbrev cX4_plug : ByteArray := prog_6_method_52_code
def yX4_plug : MethodName := ⟨RX4, "plug", "(II)I"⟩
abbrev cX4_plumb : ByteArray := prog_6_method_53_code
def yX4_plumb : MethodName := ⟨RX4, "plumb", "(II)I"⟩
abbrev cX4_forget : ByteArray := prog_6_method_54_code
def yX4_forget : MethodName := ⟨RX4, "forget", "()I"⟩
abbrev cX4_whereNow : ByteArray := prog_6_method_55_code
def yX4_whereNow : MethodName := ⟨RX4, "whereNow", "()I"⟩
abbrev cX4_where : ByteArray := prog_6_method_56_code
def yX4_where : MethodName := ⟨RX4, "where", "()I"⟩
abbrev cX4_hangNow : ByteArray := prog_6_method_57_code
def yX4_hangNow : MethodName := ⟨RX4, "hangNow", "()I"⟩
abbrev cX4_hang : ByteArray := prog_6_method_58_code
def yX4_hang : MethodName := ⟨RX4, "hang", "()I"⟩
abbrev cX4_fromOf : ByteArray := prog_6_method_59_code
def yX4_fromOf : MethodName := ⟨RX4, "fromOf", "(III)I"⟩
abbrev cX4_from : ByteArray := prog_6_method_60_code
def yX4_from : MethodName := ⟨RX4, "from", "(III)I"⟩
abbrev cX4_joinedNow : ByteArray := prog_6_method_61_code
def yX4_joinedNow : MethodName := ⟨RX4, "joinedNow", "()I"⟩
abbrev cX4_joined : ByteArray := prog_6_method_62_code
def yX4_joined : MethodName := ⟨RX4, "joined", "()I"⟩
abbrev cX4_likeOf : ByteArray := prog_6_method_63_code
def yX4_likeOf : MethodName := ⟨RX4, "likeOf", "(I)I"⟩
abbrev cX4_like : ByteArray := prog_6_method_64_code
def yX4_like : MethodName := ⟨RX4, "like", "(I)I"⟩
abbrev cX4_springs : ByteArray := prog_6_method_65_code
def yX4_springs : MethodName := ⟨RX4, "springs", "()I"⟩
abbrev cX4_floodOf : ByteArray := prog_6_method_66_code
def yX4_floodOf : MethodName := ⟨RX4, "floodOf", "(III)J"⟩
abbrev cX4_flood : ByteArray := prog_6_method_67_code
def yX4_flood : MethodName := ⟨RX4, "flood", "(III)J"⟩
abbrev cX4_kicksOf : ByteArray := prog_6_method_68_code
def yX4_kicksOf : MethodName := ⟨RX4, "kicksOf", "(III)I"⟩
abbrev cX4_kicks : ByteArray := prog_6_method_69_code
def yX4_kicks : MethodName := ⟨RX4, "kicks", "(III)I"⟩
abbrev cX4_meets : ByteArray := prog_6_method_70_code
def yX4_meets : MethodName := ⟨RX4, "meets", "(I)I"⟩
abbrev cX4_isSheet : ByteArray := prog_6_method_71_code
def yX4_isSheet : MethodName := ⟨RX4, "isSheet", "(I)Z"⟩
abbrev cX4_sheet : ByteArray := prog_6_method_72_code
def yX4_sheet : MethodName := ⟨RX4, "sheet", "(III)I"⟩
abbrev cX4_lose : ByteArray := prog_6_method_73_code
def yX4_lose : MethodName := ⟨RX4, "lose", "(I)I"⟩
abbrev cX4_lacks : ByteArray := prog_6_method_74_code
def yX4_lacks : MethodName := ⟨RX4, "lacks", "(III)I"⟩
abbrev cX4_keep : ByteArray := prog_6_method_75_code
def yX4_keep : MethodName := ⟨RX4, "keep", "(III)V"⟩
abbrev cX4_put : ByteArray := prog_6_method_76_code
def yX4_put : MethodName := ⟨RX4, "put", "(IIII)I"⟩
abbrev cX4_get : ByteArray := prog_6_method_77_code
def yX4_get : MethodName := ⟨RX4, "get", "(III)I"⟩
abbrev cX4_copy : ByteArray := prog_6_method_78_code
def yX4_copy : MethodName := ⟨RX4, "copy", "(IIIII)I"⟩
abbrev cX4_write : ByteArray := prog_6_method_79_code
def yX4_write : MethodName := ⟨RX4, "write", "(II)I"⟩
abbrev cX4_sumOf : ByteArray := prog_6_method_80_code
def yX4_sumOf : MethodName := ⟨RX4, "sumOf", "(I)I"⟩
abbrev cX4_count : ByteArray := prog_6_method_81_code
def yX4_count : MethodName := ⟨RX4, "count", "(I)I"⟩
abbrev cX4_cellDigest : ByteArray := prog_6_method_82_code
def yX4_cellDigest : MethodName := ⟨RX4, "cellDigest", "(JI)J"⟩
abbrev cX4_digest : ByteArray := prog_6_method_83_code
def yX4_digest : MethodName := ⟨RX4, "digest", "()J"⟩
def RJ6 : String := "java/lang/Integer"
def TJ6 : u_T := fun k => match k with
  | _ => ("", "", "", false)
def tyJ6 : Nat → FieldType := fun k => match k with
  | _ => .int
theorem nmJ6 : ∀ a, a < 0 → ∀ b, b < 0 → a ≠ b → (TJ6 a).2.1 ≠ (TJ6 b).2.1 := by decide +kernel
theorem tyJ6_ok : ∀ k, k < 0 → parseFieldDescriptor (TJ6 k).2.2.1 = some (tyJ6 k) := by decide +kernel
abbrev cJ6_bitCount_0f7a4 : ByteArray := prog_7_method_49_code
def yJ6_bitCount_0f7a4 : MethodName := ⟨RJ6, "bitCount", "(I)I"⟩
def RJ13 : String := "java/lang/Long"
def TJ13 : u_T := fun k => match k with
  | _ => ("", "", "", false)
def tyJ13 : Nat → FieldType := fun k => match k with
  | _ => .int
theorem nmJ13 : ∀ a, a < 0 → ∀ b, b < 0 → a ≠ b → (TJ13 a).2.1 ≠ (TJ13 b).2.1 := by decide +kernel
theorem tyJ13_ok : ∀ k, k < 0 → parseFieldDescriptor (TJ13 k).2.2.1 = some (tyJ13 k) := by decide +kernel
abbrev cJ13_bitCount_95d88 : ByteArray := prog_8_method_50_code
def yJ13_bitCount_95d88 : MethodName := ⟨RJ13, "bitCount", "(J)I"⟩
def RJ9 : String := "java/lang/Math"
def TJ9 : u_T := fun k => match k with
  | _ => ("", "", "", false)
def tyJ9 : Nat → FieldType := fun k => match k with
  | _ => .int
theorem nmJ9 : ∀ a, a < 0 → ∀ b, b < 0 → a ≠ b → (TJ9 a).2.1 ≠ (TJ9 b).2.1 := by decide +kernel
theorem tyJ9_ok : ∀ k, k < 0 → parseFieldDescriptor (TJ9 k).2.2.1 = some (tyJ9 k) := by decide +kernel
abbrev cJ9_max_7cf53 : ByteArray := prog_9_method_65_code
def yJ9_max_7cf53 : MethodName := ⟨RJ9, "max", "(II)I"⟩
abbrev cJ9_min_7cf53 : ByteArray := prog_9_method_69_code
def yJ9_min_7cf53 : MethodName := ⟨RJ9, "min", "(II)I"⟩
def RJ10 : String := "java/lang/System"
def TJ10 : u_T := fun k => match k with
  | _ => ("", "", "", false)
def tyJ10 : Nat → FieldType := fun k => match k with
  | _ => .int
theorem nmJ10 : ∀ a, a < 0 → ∀ b, b < 0 → a ≠ b → (TJ10 a).2.1 ≠ (TJ10 b).2.1 := by decide +kernel
theorem tyJ10_ok : ∀ k, k < 0 → parseFieldDescriptor (TJ10 k).2.2.1 = some (tyJ10 k) := by decide +kernel
def RL : String := "MineUpsideLaw"
abbrev cL_law : ByteArray := code
def yL_law : MethodName := ⟨RL, "law", "([I)Z"⟩
abbrev vwCl : List vw_C := [(RX0, TX0, 14), (RX1, TX1, 4), (RX2, TX2, 4), (RX3, TX3, 13), (RX4, TX4, 24)]
end
section
theorem dX0_init_0 : decode cX0_init 0 = .ok (.aload_n 0, 1) := by decide +kernel
theorem dX0_init_1 : decode cX0_init 1 = .ok (.invokespecial 3, 3) := by decide +kernel
theorem dX0_init_4 : decode cX0_init 4 = .ok (.aload_n 0, 1) := by decide +kernel
theorem dX0_init_5 : decode cX0_init 5 = .ok (.iconst 4, 1) := by decide +kernel
theorem dX0_init_6 : decode cX0_init 6 = .ok (.newarray .long, 2) := by decide +kernel
theorem dX0_init_8 : decode cX0_init 8 = .ok (.putfield 9, 3) := by decide +kernel
theorem dX0_init_11 : decode cX0_init 11 = .ok (.aload_n 0, 1) := by decide +kernel
theorem dX0_init_12 : decode cX0_init 12 = .ok (.iconst 4, 1) := by decide +kernel
theorem dX0_init_13 : decode cX0_init 13 = .ok (.newarray .long, 2) := by decide +kernel
theorem dX0_init_15 : decode cX0_init 15 = .ok (.putfield 15, 3) := by decide +kernel
theorem dX0_init_18 : decode cX0_init 18 = .ok (.return_, 1) := by decide +kernel
theorem dX0_survey_0 : decode cX0_survey 0 = .ok (.aload_n 0, 1) := by decide +kernel
theorem dX0_survey_1 : decode cX0_survey 1 = .ok (.invokevirtual 18, 3) := by decide +kernel
theorem dX0_survey_4 : decode cX0_survey 4 = .ok (.aload_n 0, 1) := by decide +kernel
theorem dX0_survey_5 : decode cX0_survey 5 = .ok (.aload_n 0, 1) := by decide +kernel
theorem dX0_survey_6 : decode cX0_survey 6 = .ok (.aload_n 1, 1) := by decide +kernel
theorem dX0_survey_7 : decode cX0_survey 7 = .ok (.iload_n 2, 1) := by decide +kernel
theorem dX0_survey_8 : decode cX0_survey 8 = .ok (.invokevirtual 21, 3) := by decide +kernel
theorem dX0_survey_11 : decode cX0_survey 11 = .ok (.putfield 25, 3) := by decide +kernel
theorem dX0_survey_14 : decode cX0_survey 14 = .ok (.aload_n 0, 1) := by decide +kernel
theorem dX0_survey_15 : decode cX0_survey 15 = .ok (.getfield 25, 3) := by decide +kernel
theorem dX0_survey_18 : decode cX0_survey 18 = .ok (.iconst (-1), 1) := by decide +kernel
theorem dX0_survey_19 : decode cX0_survey 19 = .ok (.if_icmp .eq 7, 3) := by decide +kernel
theorem dX0_survey_22 : decode cX0_survey 22 = .ok (.aload_n 0, 1) := by decide +kernel
theorem dX0_survey_23 : decode cX0_survey 23 = .ok (.invokevirtual 18, 3) := by decide +kernel
theorem dX0_survey_26 : decode cX0_survey 26 = .ok (.aload_n 0, 1) := by decide +kernel
theorem dX0_survey_27 : decode cX0_survey 27 = .ok (.iload_n 3, 1) := by decide +kernel
theorem dX0_survey_28 : decode cX0_survey 28 = .ok (.invokevirtual 29, 3) := by decide +kernel
theorem dX0_survey_31 : decode cX0_survey 31 = .ok (.aload_n 0, 1) := by decide +kernel
theorem dX0_survey_32 : decode cX0_survey 32 = .ok (.aload_n 0, 1) := by decide +kernel
theorem dX0_survey_33 : decode cX0_survey 33 = .ok (.getfield 33, 3) := by decide +kernel
theorem dX0_survey_36 : decode cX0_survey 36 = .ok (.aload_n 0, 1) := by decide +kernel
theorem dX0_survey_37 : decode cX0_survey 37 = .ok (.getfield 37, 3) := by decide +kernel
theorem dX0_survey_40 : decode cX0_survey 40 = .ok (.aload_n 0, 1) := by decide +kernel
theorem dX0_survey_41 : decode cX0_survey 41 = .ok (.aload_n 0, 1) := by decide +kernel
theorem dX0_survey_42 : decode cX0_survey 42 = .ok (.getfield 33, 3) := by decide +kernel
theorem dX0_survey_45 : decode cX0_survey 45 = .ok (.invokevirtual 40, 3) := by decide +kernel
theorem dX0_survey_48 : decode cX0_survey 48 = .ok (.ldc2_w 44, 3) := by decide +kernel
theorem dX0_survey_51 : decode cX0_survey 51 = .ok (.lxor, 1) := by decide +kernel
theorem dX0_survey_52 : decode cX0_survey 52 = .ok (.lor, 1) := by decide +kernel
theorem dX0_survey_53 : decode cX0_survey 53 = .ok (.land, 1) := by decide +kernel
theorem dX0_survey_54 : decode cX0_survey 54 = .ok (.putfield 46, 3) := by decide +kernel
theorem dX0_survey_57 : decode cX0_survey 57 = .ok (.aload_n 0, 1) := by decide +kernel
theorem dX0_survey_58 : decode cX0_survey 58 = .ok (.aload_n 0, 1) := by decide +kernel
theorem dX0_survey_59 : decode cX0_survey 59 = .ok (.aload_n 0, 1) := by decide +kernel
theorem dX0_survey_60 : decode cX0_survey 60 = .ok (.getfield 33, 3) := by decide +kernel
theorem dX0_survey_63 : decode cX0_survey 63 = .ok (.aload_n 0, 1) := by decide +kernel
theorem dX0_survey_64 : decode cX0_survey 64 = .ok (.getfield 49, 3) := by decide +kernel
theorem dX0_survey_67 : decode cX0_survey 67 = .ok (.invokevirtual 52, 3) := by decide +kernel
theorem dX0_survey_70 : decode cX0_survey 70 = .ok (.putfield 56, 3) := by decide +kernel
theorem dX0_survey_73 : decode cX0_survey 73 = .ok (.aload_n 0, 1) := by decide +kernel
theorem dX0_survey_74 : decode cX0_survey 74 = .ok (.invokevirtual 59, 3) := by decide +kernel
theorem dX0_survey_77 : decode cX0_survey 77 = .ok (.return_, 1) := by decide +kernel
theorem dX0_clear_0 : decode cX0_clear 0 = .ok (.aload_n 0, 1) := by decide +kernel
theorem dX0_clear_1 : decode cX0_clear 1 = .ok (.iconst 0, 1) := by decide +kernel
theorem dX0_clear_2 : decode cX0_clear 2 = .ok (.putfield 62, 3) := by decide +kernel
theorem dX0_clear_5 : decode cX0_clear 5 = .ok (.aload_n 0, 1) := by decide +kernel
theorem dX0_clear_6 : decode cX0_clear 6 = .ok (.iconst 0, 1) := by decide +kernel
theorem dX0_clear_7 : decode cX0_clear 7 = .ok (.putfield 65, 3) := by decide +kernel
theorem dX0_clear_10 : decode cX0_clear 10 = .ok (.aload_n 0, 1) := by decide +kernel
theorem dX0_clear_11 : decode cX0_clear 11 = .ok (.iconst 0, 1) := by decide +kernel
theorem dX0_clear_12 : decode cX0_clear 12 = .ok (.putfield 68, 3) := by decide +kernel
theorem dX0_clear_15 : decode cX0_clear 15 = .ok (.aload_n 0, 1) := by decide +kernel
theorem dX0_clear_16 : decode cX0_clear 16 = .ok (.lconst 0, 1) := by decide +kernel
theorem dX0_clear_17 : decode cX0_clear 17 = .ok (.putfield 33, 3) := by decide +kernel
theorem dX0_clear_20 : decode cX0_clear 20 = .ok (.aload_n 0, 1) := by decide +kernel
theorem dX0_clear_21 : decode cX0_clear 21 = .ok (.lconst 0, 1) := by decide +kernel
theorem dX0_clear_22 : decode cX0_clear 22 = .ok (.putfield 37, 3) := by decide +kernel
theorem dX0_clear_25 : decode cX0_clear 25 = .ok (.aload_n 0, 1) := by decide +kernel
theorem dX0_clear_26 : decode cX0_clear 26 = .ok (.lconst 0, 1) := by decide +kernel
theorem dX0_clear_27 : decode cX0_clear 27 = .ok (.putfield 49, 3) := by decide +kernel
theorem dX0_clear_30 : decode cX0_clear 30 = .ok (.aload_n 0, 1) := by decide +kernel
theorem dX0_clear_31 : decode cX0_clear 31 = .ok (.lconst 0, 1) := by decide +kernel
theorem dX0_clear_32 : decode cX0_clear 32 = .ok (.putfield 71, 3) := by decide +kernel
theorem dX0_clear_35 : decode cX0_clear 35 = .ok (.aload_n 0, 1) := by decide +kernel
theorem dX0_clear_36 : decode cX0_clear 36 = .ok (.lconst 0, 1) := by decide +kernel
theorem dX0_clear_37 : decode cX0_clear 37 = .ok (.putfield 74, 3) := by decide +kernel
theorem dX0_clear_40 : decode cX0_clear 40 = .ok (.aload_n 0, 1) := by decide +kernel
theorem dX0_clear_41 : decode cX0_clear 41 = .ok (.lconst 0, 1) := by decide +kernel
theorem dX0_clear_42 : decode cX0_clear 42 = .ok (.putfield 77, 3) := by decide +kernel
theorem dX0_clear_45 : decode cX0_clear 45 = .ok (.return_, 1) := by decide +kernel
theorem dX0_markRows_0 : decode cX0_markRows 0 = .ok (.iconst 0, 1) := by decide +kernel
theorem dX0_markRows_1 : decode cX0_markRows 1 = .ok (.istore_n 2, 1) := by decide +kernel
theorem dX0_markRows_2 : decode cX0_markRows 2 = .ok (.iload_n 2, 1) := by decide +kernel
theorem dX0_markRows_3 : decode cX0_markRows 3 = .ok (.aload_n 0, 1) := by decide +kernel
theorem dX0_markRows_4 : decode cX0_markRows 4 = .ok (.getfield 62, 3) := by decide +kernel
theorem dX0_markRows_7 : decode cX0_markRows 7 = .ok (.if_icmp .ge 74, 3) := by decide +kernel
theorem dX0_markRows_10 : decode cX0_markRows 10 = .ok (.iload_n 2, 1) := by decide +kernel
theorem dX0_markRows_11 : decode cX0_markRows 11 = .ok (.aload_n 0, 1) := by decide +kernel
theorem dX0_markRows_12 : decode cX0_markRows 12 = .ok (.getfield 65, 3) := by decide +kernel
theorem dX0_markRows_15 : decode cX0_markRows 15 = .ok (.imul, 1) := by decide +kernel
theorem dX0_markRows_16 : decode cX0_markRows 16 = .ok (.istore_n 3, 1) := by decide +kernel
theorem dX0_markRows_17 : decode cX0_markRows 17 = .ok (.aload_n 0, 1) := by decide +kernel
theorem dX0_markRows_18 : decode cX0_markRows 18 = .ok (.dup, 1) := by decide +kernel
theorem dX0_markRows_19 : decode cX0_markRows 19 = .ok (.getfield 71, 3) := by decide +kernel
theorem dX0_markRows_22 : decode cX0_markRows 22 = .ok (.iload_n 3, 1) := by decide +kernel
theorem dX0_markRows_23 : decode cX0_markRows 23 = .ok (.invokestatic 80, 3) := by decide +kernel
theorem dX0_markRows_26 : decode cX0_markRows 26 = .ok (.lor, 1) := by decide +kernel
theorem dX0_markRows_27 : decode cX0_markRows 27 = .ok (.putfield 71, 3) := by decide +kernel
theorem dX0_markRows_30 : decode cX0_markRows 30 = .ok (.aload_n 0, 1) := by decide +kernel
theorem dX0_markRows_31 : decode cX0_markRows 31 = .ok (.dup, 1) := by decide +kernel
theorem dX0_markRows_32 : decode cX0_markRows 32 = .ok (.getfield 74, 3) := by decide +kernel
theorem dX0_markRows_35 : decode cX0_markRows 35 = .ok (.iload_n 3, 1) := by decide +kernel
theorem dX0_markRows_36 : decode cX0_markRows 36 = .ok (.aload_n 0, 1) := by decide +kernel
theorem dX0_markRows_37 : decode cX0_markRows 37 = .ok (.getfield 65, 3) := by decide +kernel
theorem dX0_markRows_40 : decode cX0_markRows 40 = .ok (.iadd, 1) := by decide +kernel
theorem dX0_markRows_41 : decode cX0_markRows 41 = .ok (.iconst 1, 1) := by decide +kernel
theorem dX0_markRows_42 : decode cX0_markRows 42 = .ok (.isub, 1) := by decide +kernel
theorem dX0_markRows_43 : decode cX0_markRows 43 = .ok (.invokestatic 80, 3) := by decide +kernel
theorem dX0_markRows_46 : decode cX0_markRows 46 = .ok (.lor, 1) := by decide +kernel
theorem dX0_markRows_47 : decode cX0_markRows 47 = .ok (.putfield 74, 3) := by decide +kernel
theorem dX0_markRows_50 : decode cX0_markRows 50 = .ok (.iload_n 2, 1) := by decide +kernel
theorem dX0_markRows_51 : decode cX0_markRows 51 = .ok (.iload_n 1, 1) := by decide +kernel
theorem dX0_markRows_52 : decode cX0_markRows 52 = .ok (.if_icmp .ge 23, 3) := by decide +kernel
theorem dX0_markRows_55 : decode cX0_markRows 55 = .ok (.aload_n 0, 1) := by decide +kernel
theorem dX0_markRows_56 : decode cX0_markRows 56 = .ok (.dup, 1) := by decide +kernel
theorem dX0_markRows_57 : decode cX0_markRows 57 = .ok (.getfield 77, 3) := by decide +kernel
theorem dX0_markRows_60 : decode cX0_markRows 60 = .ok (.aload_n 0, 1) := by decide +kernel
theorem dX0_markRows_61 : decode cX0_markRows 61 = .ok (.getfield 65, 3) := by decide +kernel
theorem dX0_markRows_64 : decode cX0_markRows 64 = .ok (.invokestatic 80, 3) := by decide +kernel
theorem dX0_markRows_67 : decode cX0_markRows 67 = .ok (.lconst 1, 1) := by decide +kernel
theorem dX0_markRows_68 : decode cX0_markRows 68 = .ok (.lsub, 1) := by decide +kernel
theorem dX0_markRows_69 : decode cX0_markRows 69 = .ok (.iload_n 3, 1) := by decide +kernel
theorem dX0_markRows_70 : decode cX0_markRows 70 = .ok (.lshl, 1) := by decide +kernel
theorem dX0_markRows_71 : decode cX0_markRows 71 = .ok (.lor, 1) := by decide +kernel
theorem dX0_markRows_72 : decode cX0_markRows 72 = .ok (.putfield 77, 3) := by decide +kernel
theorem dX0_markRows_75 : decode cX0_markRows 75 = .ok (.iinc 2 1, 3) := by decide +kernel
theorem dX0_markRows_78 : decode cX0_markRows 78 = .ok (.goto (-76), 3) := by decide +kernel
theorem dX0_markRows_81 : decode cX0_markRows 81 = .ok (.return_, 1) := by decide +kernel
theorem dX0_markMoves_0 : decode cX0_markMoves 0 = .ok (.aload_n 0, 1) := by decide +kernel
theorem dX0_markMoves_1 : decode cX0_markMoves 1 = .ok (.getfield 33, 3) := by decide +kernel
theorem dX0_markMoves_4 : decode cX0_markMoves 4 = .ok (.aload_n 0, 1) := by decide +kernel
theorem dX0_markMoves_5 : decode cX0_markMoves 5 = .ok (.getfield 46, 3) := by decide +kernel
theorem dX0_markMoves_8 : decode cX0_markMoves 8 = .ok (.ldc2_w 44, 3) := by decide +kernel
theorem dX0_markMoves_11 : decode cX0_markMoves 11 = .ok (.lxor, 1) := by decide +kernel
theorem dX0_markMoves_12 : decode cX0_markMoves 12 = .ok (.land, 1) := by decide +kernel
theorem dX0_markMoves_13 : decode cX0_markMoves 13 = .ok (.lstore_n 1, 1) := by decide +kernel
theorem dX0_markMoves_14 : decode cX0_markMoves 14 = .ok (.aload_n 0, 1) := by decide +kernel
theorem dX0_markMoves_15 : decode cX0_markMoves 15 = .ok (.getfield 46, 3) := by decide +kernel
theorem dX0_markMoves_18 : decode cX0_markMoves 18 = .ok (.aload_n 0, 1) := by decide +kernel
theorem dX0_markMoves_19 : decode cX0_markMoves 19 = .ok (.getfield 33, 3) := by decide +kernel
theorem dX0_markMoves_22 : decode cX0_markMoves 22 = .ok (.aload_n 0, 1) := by decide +kernel
theorem dX0_markMoves_23 : decode cX0_markMoves 23 = .ok (.getfield 65, 3) := by decide +kernel
theorem dX0_markMoves_26 : decode cX0_markMoves 26 = .ok (.lshl, 1) := by decide +kernel
theorem dX0_markMoves_27 : decode cX0_markMoves 27 = .ok (.land, 1) := by decide +kernel
theorem dX0_markMoves_28 : decode cX0_markMoves 28 = .ok (.aload_n 0, 1) := by decide +kernel
theorem dX0_markMoves_29 : decode cX0_markMoves 29 = .ok (.getfield 37, 3) := by decide +kernel
theorem dX0_markMoves_32 : decode cX0_markMoves 32 = .ok (.aload_n 0, 1) := by decide +kernel
theorem dX0_markMoves_33 : decode cX0_markMoves 33 = .ok (.getfield 37, 3) := by decide +kernel
theorem dX0_markMoves_36 : decode cX0_markMoves 36 = .ok (.aload_n 0, 1) := by decide +kernel
theorem dX0_markMoves_37 : decode cX0_markMoves 37 = .ok (.getfield 65, 3) := by decide +kernel
theorem dX0_markMoves_40 : decode cX0_markMoves 40 = .ok (.lshl, 1) := by decide +kernel
theorem dX0_markMoves_41 : decode cX0_markMoves 41 = .ok (.lor, 1) := by decide +kernel
theorem dX0_markMoves_42 : decode cX0_markMoves 42 = .ok (.land, 1) := by decide +kernel
theorem dX0_markMoves_43 : decode cX0_markMoves 43 = .ok (.lstore_n 3, 1) := by decide +kernel
theorem dX0_markMoves_44 : decode cX0_markMoves 44 = .ok (.aload_n 0, 1) := by decide +kernel
theorem dX0_markMoves_45 : decode cX0_markMoves 45 = .ok (.getfield 46, 3) := by decide +kernel
theorem dX0_markMoves_48 : decode cX0_markMoves 48 = .ok (.aload_n 0, 1) := by decide +kernel
theorem dX0_markMoves_49 : decode cX0_markMoves 49 = .ok (.getfield 33, 3) := by decide +kernel
theorem dX0_markMoves_52 : decode cX0_markMoves 52 = .ok (.aload_n 0, 1) := by decide +kernel
theorem dX0_markMoves_53 : decode cX0_markMoves 53 = .ok (.getfield 65, 3) := by decide +kernel
theorem dX0_markMoves_56 : decode cX0_markMoves 56 = .ok (.lushr, 1) := by decide +kernel
theorem dX0_markMoves_57 : decode cX0_markMoves 57 = .ok (.land, 1) := by decide +kernel
theorem dX0_markMoves_58 : decode cX0_markMoves 58 = .ok (.aload_n 0, 1) := by decide +kernel
theorem dX0_markMoves_59 : decode cX0_markMoves 59 = .ok (.getfield 37, 3) := by decide +kernel
theorem dX0_markMoves_62 : decode cX0_markMoves 62 = .ok (.aload_n 0, 1) := by decide +kernel
theorem dX0_markMoves_63 : decode cX0_markMoves 63 = .ok (.getfield 37, 3) := by decide +kernel
theorem dX0_markMoves_66 : decode cX0_markMoves 66 = .ok (.aload_n 0, 1) := by decide +kernel
theorem dX0_markMoves_67 : decode cX0_markMoves 67 = .ok (.getfield 65, 3) := by decide +kernel
theorem dX0_markMoves_70 : decode cX0_markMoves 70 = .ok (.lushr, 1) := by decide +kernel
theorem dX0_markMoves_71 : decode cX0_markMoves 71 = .ok (.lor, 1) := by decide +kernel
theorem dX0_markMoves_72 : decode cX0_markMoves 72 = .ok (.land, 1) := by decide +kernel
theorem dX0_markMoves_73 : decode cX0_markMoves 73 = .ok (.lstore 5, 2) := by decide +kernel
theorem dX0_markMoves_75 : decode cX0_markMoves 75 = .ok (.aload_n 0, 1) := by decide +kernel
theorem dX0_markMoves_76 : decode cX0_markMoves 76 = .ok (.getfield 9, 3) := by decide +kernel
theorem dX0_markMoves_79 : decode cX0_markMoves 79 = .ok (.iconst 0, 1) := by decide +kernel
theorem dX0_markMoves_80 : decode cX0_markMoves 80 = .ok (.lload_n 3, 1) := by decide +kernel
theorem dX0_markMoves_81 : decode cX0_markMoves 81 = .ok (.lload_n 1, 1) := by decide +kernel
theorem dX0_markMoves_82 : decode cX0_markMoves 82 = .ok (.aload_n 0, 1) := by decide +kernel
theorem dX0_markMoves_83 : decode cX0_markMoves 83 = .ok (.getfield 77, 3) := by decide +kernel
theorem dX0_markMoves_86 : decode cX0_markMoves 86 = .ok (.land, 1) := by decide +kernel
theorem dX0_markMoves_87 : decode cX0_markMoves 87 = .ok (.lor, 1) := by decide +kernel
theorem dX0_markMoves_88 : decode cX0_markMoves 88 = .ok (.lastore, 1) := by decide +kernel
theorem dX0_markMoves_89 : decode cX0_markMoves 89 = .ok (.aload_n 0, 1) := by decide +kernel
theorem dX0_markMoves_90 : decode cX0_markMoves 90 = .ok (.getfield 9, 3) := by decide +kernel
theorem dX0_markMoves_93 : decode cX0_markMoves 93 = .ok (.iconst 1, 1) := by decide +kernel
theorem dX0_markMoves_94 : decode cX0_markMoves 94 = .ok (.aload_n 0, 1) := by decide +kernel
theorem dX0_markMoves_95 : decode cX0_markMoves 95 = .ok (.getfield 46, 3) := by decide +kernel
theorem dX0_markMoves_98 : decode cX0_markMoves 98 = .ok (.aload_n 0, 1) := by decide +kernel
theorem dX0_markMoves_99 : decode cX0_markMoves 99 = .ok (.getfield 71, 3) := by decide +kernel
theorem dX0_markMoves_102 : decode cX0_markMoves 102 = .ok (.ldc2_w 44, 3) := by decide +kernel
theorem dX0_markMoves_105 : decode cX0_markMoves 105 = .ok (.lxor, 1) := by decide +kernel
theorem dX0_markMoves_106 : decode cX0_markMoves 106 = .ok (.land, 1) := by decide +kernel
theorem dX0_markMoves_107 : decode cX0_markMoves 107 = .ok (.aload_n 0, 1) := by decide +kernel
theorem dX0_markMoves_108 : decode cX0_markMoves 108 = .ok (.getfield 33, 3) := by decide +kernel
theorem dX0_markMoves_111 : decode cX0_markMoves 111 = .ok (.iconst 1, 1) := by decide +kernel
theorem dX0_markMoves_112 : decode cX0_markMoves 112 = .ok (.lshl, 1) := by decide +kernel
theorem dX0_markMoves_113 : decode cX0_markMoves 113 = .ok (.land, 1) := by decide +kernel
theorem dX0_markMoves_114 : decode cX0_markMoves 114 = .ok (.lastore, 1) := by decide +kernel
theorem dX0_markMoves_115 : decode cX0_markMoves 115 = .ok (.aload_n 0, 1) := by decide +kernel
theorem dX0_markMoves_116 : decode cX0_markMoves 116 = .ok (.getfield 9, 3) := by decide +kernel
theorem dX0_markMoves_119 : decode cX0_markMoves 119 = .ok (.iconst 2, 1) := by decide +kernel
theorem dX0_markMoves_120 : decode cX0_markMoves 120 = .ok (.aload_n 0, 1) := by decide +kernel
theorem dX0_markMoves_121 : decode cX0_markMoves 121 = .ok (.getfield 46, 3) := by decide +kernel
theorem dX0_markMoves_124 : decode cX0_markMoves 124 = .ok (.aload_n 0, 1) := by decide +kernel
theorem dX0_markMoves_125 : decode cX0_markMoves 125 = .ok (.getfield 74, 3) := by decide +kernel
theorem dX0_markMoves_128 : decode cX0_markMoves 128 = .ok (.ldc2_w 44, 3) := by decide +kernel
theorem dX0_markMoves_131 : decode cX0_markMoves 131 = .ok (.lxor, 1) := by decide +kernel
theorem dX0_markMoves_132 : decode cX0_markMoves 132 = .ok (.land, 1) := by decide +kernel
theorem dX0_markMoves_133 : decode cX0_markMoves 133 = .ok (.aload_n 0, 1) := by decide +kernel
theorem dX0_markMoves_134 : decode cX0_markMoves 134 = .ok (.getfield 33, 3) := by decide +kernel
theorem dX0_markMoves_137 : decode cX0_markMoves 137 = .ok (.iconst 1, 1) := by decide +kernel
theorem dX0_markMoves_138 : decode cX0_markMoves 138 = .ok (.lushr, 1) := by decide +kernel
theorem dX0_markMoves_139 : decode cX0_markMoves 139 = .ok (.land, 1) := by decide +kernel
theorem dX0_markMoves_140 : decode cX0_markMoves 140 = .ok (.lastore, 1) := by decide +kernel
theorem dX0_markMoves_141 : decode cX0_markMoves 141 = .ok (.aload_n 0, 1) := by decide +kernel
theorem dX0_markMoves_142 : decode cX0_markMoves 142 = .ok (.getfield 9, 3) := by decide +kernel
theorem dX0_markMoves_145 : decode cX0_markMoves 145 = .ok (.iconst 3, 1) := by decide +kernel
theorem dX0_markMoves_146 : decode cX0_markMoves 146 = .ok (.lload 5, 2) := by decide +kernel
theorem dX0_markMoves_148 : decode cX0_markMoves 148 = .ok (.lload_n 1, 1) := by decide +kernel
theorem dX0_markMoves_149 : decode cX0_markMoves 149 = .ok (.aload_n 0, 1) := by decide +kernel
theorem dX0_markMoves_150 : decode cX0_markMoves 150 = .ok (.getfield 77, 3) := by decide +kernel
theorem dX0_markMoves_153 : decode cX0_markMoves 153 = .ok (.ldc2_w 44, 3) := by decide +kernel
theorem dX0_markMoves_156 : decode cX0_markMoves 156 = .ok (.lxor, 1) := by decide +kernel
theorem dX0_markMoves_157 : decode cX0_markMoves 157 = .ok (.land, 1) := by decide +kernel
theorem dX0_markMoves_158 : decode cX0_markMoves 158 = .ok (.lor, 1) := by decide +kernel
theorem dX0_markMoves_159 : decode cX0_markMoves 159 = .ok (.lastore, 1) := by decide +kernel
theorem dX0_markMoves_160 : decode cX0_markMoves 160 = .ok (.aload_n 0, 1) := by decide +kernel
theorem dX0_markMoves_161 : decode cX0_markMoves 161 = .ok (.getfield 15, 3) := by decide +kernel
theorem dX0_markMoves_164 : decode cX0_markMoves 164 = .ok (.iconst 0, 1) := by decide +kernel
theorem dX0_markMoves_165 : decode cX0_markMoves 165 = .ok (.aload_n 0, 1) := by decide +kernel
theorem dX0_markMoves_166 : decode cX0_markMoves 166 = .ok (.getfield 77, 3) := by decide +kernel
theorem dX0_markMoves_169 : decode cX0_markMoves 169 = .ok (.ldc2_w 44, 3) := by decide +kernel
theorem dX0_markMoves_172 : decode cX0_markMoves 172 = .ok (.lxor, 1) := by decide +kernel
theorem dX0_markMoves_173 : decode cX0_markMoves 173 = .ok (.aload_n 0, 1) := by decide +kernel
theorem dX0_markMoves_174 : decode cX0_markMoves 174 = .ok (.getfield 77, 3) := by decide +kernel
theorem dX0_markMoves_177 : decode cX0_markMoves 177 = .ok (.aload_n 0, 1) := by decide +kernel
theorem dX0_markMoves_178 : decode cX0_markMoves 178 = .ok (.getfield 65, 3) := by decide +kernel
theorem dX0_markMoves_181 : decode cX0_markMoves 181 = .ok (.lshl, 1) := by decide +kernel
theorem dX0_markMoves_182 : decode cX0_markMoves 182 = .ok (.land, 1) := by decide +kernel
theorem dX0_markMoves_183 : decode cX0_markMoves 183 = .ok (.lastore, 1) := by decide +kernel
theorem dX0_markMoves_184 : decode cX0_markMoves 184 = .ok (.aload_n 0, 1) := by decide +kernel
theorem dX0_markMoves_185 : decode cX0_markMoves 185 = .ok (.getfield 15, 3) := by decide +kernel
theorem dX0_markMoves_188 : decode cX0_markMoves 188 = .ok (.iconst 3, 1) := by decide +kernel
theorem dX0_markMoves_189 : decode cX0_markMoves 189 = .ok (.aload_n 0, 1) := by decide +kernel
theorem dX0_markMoves_190 : decode cX0_markMoves 190 = .ok (.getfield 77, 3) := by decide +kernel
theorem dX0_markMoves_193 : decode cX0_markMoves 193 = .ok (.aload_n 0, 1) := by decide +kernel
theorem dX0_markMoves_194 : decode cX0_markMoves 194 = .ok (.getfield 77, 3) := by decide +kernel
theorem dX0_markMoves_197 : decode cX0_markMoves 197 = .ok (.aload_n 0, 1) := by decide +kernel
theorem dX0_markMoves_198 : decode cX0_markMoves 198 = .ok (.getfield 65, 3) := by decide +kernel
theorem dX0_markMoves_201 : decode cX0_markMoves 201 = .ok (.lushr, 1) := by decide +kernel
theorem dX0_markMoves_202 : decode cX0_markMoves 202 = .ok (.ldc2_w 44, 3) := by decide +kernel
theorem dX0_markMoves_205 : decode cX0_markMoves 205 = .ok (.lxor, 1) := by decide +kernel
theorem dX0_markMoves_206 : decode cX0_markMoves 206 = .ok (.land, 1) := by decide +kernel
theorem dX0_markMoves_207 : decode cX0_markMoves 207 = .ok (.lastore, 1) := by decide +kernel
theorem dX0_markMoves_208 : decode cX0_markMoves 208 = .ok (.return_, 1) := by decide +kernel
theorem dX0_spell_0 : decode cX0_spell 0 = .ok (.iload_n 2, 1) := by decide +kernel
theorem dX0_spell_1 : decode cX0_spell 1 = .ok (.ifCond .ne 5, 3) := by decide +kernel
theorem dX0_spell_4 : decode cX0_spell 4 = .ok (.iconst (-1), 1) := by decide +kernel
theorem dX0_spell_5 : decode cX0_spell 5 = .ok (.ireturn, 1) := by decide +kernel
theorem dX0_spell_6 : decode cX0_spell 6 = .ok (.iconst 0, 1) := by decide +kernel
theorem dX0_spell_7 : decode cX0_spell 7 = .ok (.istore_n 3, 1) := by decide +kernel
theorem dX0_spell_8 : decode cX0_spell 8 = .ok (.iconst 0, 1) := by decide +kernel
theorem dX0_spell_9 : decode cX0_spell 9 = .ok (.istore 4, 2) := by decide +kernel
theorem dX0_spell_11 : decode cX0_spell 11 = .ok (.iload 4, 2) := by decide +kernel
theorem dX0_spell_13 : decode cX0_spell 13 = .ok (.iload_n 2, 1) := by decide +kernel
theorem dX0_spell_14 : decode cX0_spell 14 = .ok (.if_icmp .ge 101, 3) := by decide +kernel
theorem dX0_spell_17 : decode cX0_spell 17 = .ok (.iload 4, 2) := by decide +kernel
theorem dX0_spell_19 : decode cX0_spell 19 = .ok (.aload_n 1, 1) := by decide +kernel
theorem dX0_spell_20 : decode cX0_spell 20 = .ok (.arraylength, 1) := by decide +kernel
theorem dX0_spell_21 : decode cX0_spell 21 = .ok (.if_icmp .ge 94, 3) := by decide +kernel
theorem dX0_spell_24 : decode cX0_spell 24 = .ok (.aload_n 1, 1) := by decide +kernel
theorem dX0_spell_25 : decode cX0_spell 25 = .ok (.iload 4, 2) := by decide +kernel
theorem dX0_spell_27 : decode cX0_spell 27 = .ok (.iaload, 1) := by decide +kernel
theorem dX0_spell_28 : decode cX0_spell 28 = .ok (.istore 5, 2) := by decide +kernel
theorem dX0_spell_30 : decode cX0_spell 30 = .ok (.aload_n 0, 1) := by decide +kernel
theorem dX0_spell_31 : decode cX0_spell 31 = .ok (.getfield 62, 3) := by decide +kernel
theorem dX0_spell_34 : decode cX0_spell 34 = .ok (.iconst 5, 1) := by decide +kernel
theorem dX0_spell_35 : decode cX0_spell 35 = .ok (.if_icmp .lt 6, 3) := by decide +kernel
theorem dX0_spell_38 : decode cX0_spell 38 = .ok (.iload 4, 2) := by decide +kernel
theorem dX0_spell_40 : decode cX0_spell 40 = .ok (.ireturn, 1) := by decide +kernel
theorem dX0_spell_41 : decode cX0_spell 41 = .ok (.iload 5, 2) := by decide +kernel
theorem dX0_spell_43 : decode cX0_spell 43 = .ok (.bipush 59, 2) := by decide +kernel
theorem dX0_spell_45 : decode cX0_spell 45 = .ok (.if_icmp .ne 19, 3) := by decide +kernel
theorem dX0_spell_48 : decode cX0_spell 48 = .ok (.aload_n 0, 1) := by decide +kernel
theorem dX0_spell_49 : decode cX0_spell 49 = .ok (.iload_n 3, 1) := by decide +kernel
theorem dX0_spell_50 : decode cX0_spell 50 = .ok (.invokevirtual 84, 3) := by decide +kernel
theorem dX0_spell_53 : decode cX0_spell 53 = .ok (.ifCond .ne 6, 3) := by decide +kernel
theorem dX0_spell_56 : decode cX0_spell 56 = .ok (.iload 4, 2) := by decide +kernel
theorem dX0_spell_58 : decode cX0_spell 58 = .ok (.ireturn, 1) := by decide +kernel
theorem dX0_spell_59 : decode cX0_spell 59 = .ok (.iconst 0, 1) := by decide +kernel
theorem dX0_spell_60 : decode cX0_spell 60 = .ok (.istore_n 3, 1) := by decide +kernel
theorem dX0_spell_61 : decode cX0_spell 61 = .ok (.goto 48, 3) := by decide +kernel
theorem dX0_spell_64 : decode cX0_spell 64 = .ok (.iload 5, 2) := by decide +kernel
theorem dX0_spell_66 : decode cX0_spell 66 = .ok (.invokestatic 88, 3) := by decide +kernel
theorem dX0_spell_69 : decode cX0_spell 69 = .ok (.istore 6, 2) := by decide +kernel
theorem dX0_spell_71 : decode cX0_spell 71 = .ok (.iload 6, 2) := by decide +kernel
theorem dX0_spell_73 : decode cX0_spell 73 = .ok (.iconst (-1), 1) := by decide +kernel
theorem dX0_spell_74 : decode cX0_spell 74 = .ok (.if_icmp .eq 23, 3) := by decide +kernel
theorem dX0_spell_77 : decode cX0_spell 77 = .ok (.iload_n 3, 1) := by decide +kernel
theorem dX0_spell_78 : decode cX0_spell 78 = .ok (.aload_n 0, 1) := by decide +kernel
theorem dX0_spell_79 : decode cX0_spell 79 = .ok (.getfield 62, 3) := by decide +kernel
theorem dX0_spell_82 : decode cX0_spell 82 = .ok (.ifCond .ne 8, 3) := by decide +kernel
theorem dX0_spell_85 : decode cX0_spell 85 = .ok (.bipush 7, 2) := by decide +kernel
theorem dX0_spell_87 : decode cX0_spell 87 = .ok (.goto 7, 3) := by decide +kernel
theorem dX0_spell_90 : decode cX0_spell 90 = .ok (.aload_n 0, 1) := by decide +kernel
theorem dX0_spell_91 : decode cX0_spell 91 = .ok (.getfield 65, 3) := by decide +kernel
theorem dX0_spell_94 : decode cX0_spell 94 = .ok (.if_icmp .lt 6, 3) := by decide +kernel
theorem dX0_spell_97 : decode cX0_spell 97 = .ok (.iload 4, 2) := by decide +kernel
theorem dX0_spell_99 : decode cX0_spell 99 = .ok (.ireturn, 1) := by decide +kernel
theorem dX0_spell_100 : decode cX0_spell 100 = .ok (.aload_n 0, 1) := by decide +kernel
theorem dX0_spell_101 : decode cX0_spell 101 = .ok (.iload 6, 2) := by decide +kernel
theorem dX0_spell_103 : decode cX0_spell 103 = .ok (.invokevirtual 92, 3) := by decide +kernel
theorem dX0_spell_106 : decode cX0_spell 106 = .ok (.iinc 3 1, 3) := by decide +kernel
theorem dX0_spell_109 : decode cX0_spell 109 = .ok (.iinc 4 1, 3) := by decide +kernel
theorem dX0_spell_112 : decode cX0_spell 112 = .ok (.goto (-101), 3) := by decide +kernel
theorem dX0_spell_115 : decode cX0_spell 115 = .ok (.aload_n 0, 1) := by decide +kernel
theorem dX0_spell_116 : decode cX0_spell 116 = .ok (.iload_n 3, 1) := by decide +kernel
theorem dX0_spell_117 : decode cX0_spell 117 = .ok (.invokevirtual 84, 3) := by decide +kernel
theorem dX0_spell_120 : decode cX0_spell 120 = .ok (.ifCond .eq 7, 3) := by decide +kernel
theorem dX0_spell_123 : decode cX0_spell 123 = .ok (.iconst (-1), 1) := by decide +kernel
theorem dX0_spell_124 : decode cX0_spell 124 = .ok (.goto 4, 3) := by decide +kernel
theorem dX0_spell_127 : decode cX0_spell 127 = .ok (.iload_n 2, 1) := by decide +kernel
theorem dX0_spell_128 : decode cX0_spell 128 = .ok (.ireturn, 1) := by decide +kernel
theorem dX0_endsRow_0 : decode cX0_endsRow 0 = .ok (.iload_n 1, 1) := by decide +kernel
theorem dX0_endsRow_1 : decode cX0_endsRow 1 = .ok (.ifCond .eq 18, 3) := by decide +kernel
theorem dX0_endsRow_4 : decode cX0_endsRow 4 = .ok (.aload_n 0, 1) := by decide +kernel
theorem dX0_endsRow_5 : decode cX0_endsRow 5 = .ok (.getfield 62, 3) := by decide +kernel
theorem dX0_endsRow_8 : decode cX0_endsRow 8 = .ok (.ifCond .le 13, 3) := by decide +kernel
theorem dX0_endsRow_11 : decode cX0_endsRow 11 = .ok (.iload_n 1, 1) := by decide +kernel
theorem dX0_endsRow_12 : decode cX0_endsRow 12 = .ok (.aload_n 0, 1) := by decide +kernel
theorem dX0_endsRow_13 : decode cX0_endsRow 13 = .ok (.getfield 65, 3) := by decide +kernel
theorem dX0_endsRow_16 : decode cX0_endsRow 16 = .ok (.if_icmp .ge 5, 3) := by decide +kernel
theorem dX0_endsRow_19 : decode cX0_endsRow 19 = .ok (.iconst 0, 1) := by decide +kernel
theorem dX0_endsRow_20 : decode cX0_endsRow 20 = .ok (.ireturn, 1) := by decide +kernel
theorem dX0_endsRow_21 : decode cX0_endsRow 21 = .ok (.aload_n 0, 1) := by decide +kernel
theorem dX0_endsRow_22 : decode cX0_endsRow 22 = .ok (.iload_n 1, 1) := by decide +kernel
theorem dX0_endsRow_23 : decode cX0_endsRow 23 = .ok (.putfield 65, 3) := by decide +kernel
theorem dX0_endsRow_26 : decode cX0_endsRow 26 = .ok (.aload_n 0, 1) := by decide +kernel
theorem dX0_endsRow_27 : decode cX0_endsRow 27 = .ok (.dup, 1) := by decide +kernel
theorem dX0_endsRow_28 : decode cX0_endsRow 28 = .ok (.getfield 62, 3) := by decide +kernel
theorem dX0_endsRow_31 : decode cX0_endsRow 31 = .ok (.iconst 1, 1) := by decide +kernel
theorem dX0_endsRow_32 : decode cX0_endsRow 32 = .ok (.iadd, 1) := by decide +kernel
theorem dX0_endsRow_33 : decode cX0_endsRow 33 = .ok (.putfield 62, 3) := by decide +kernel
theorem dX0_endsRow_36 : decode cX0_endsRow 36 = .ok (.iconst 1, 1) := by decide +kernel
theorem dX0_endsRow_37 : decode cX0_endsRow 37 = .ok (.ireturn, 1) := by decide +kernel
theorem dX0_kindOf_0 : decode cX0_kindOf 0 = .ok (.iload_n 0, 1) := by decide +kernel
theorem dX0_kindOf_1 : decode cX0_kindOf 1 = .ok (.lookupswitch 51 #[(35, 43), (46, 45), (108, 47), (119, 49)], 43) := by decide +kernel
theorem dX0_kindOf_44 : decode cX0_kindOf 44 = .ok (.iconst 0, 1) := by decide +kernel
theorem dX0_kindOf_45 : decode cX0_kindOf 45 = .ok (.ireturn, 1) := by decide +kernel
theorem dX0_kindOf_46 : decode cX0_kindOf 46 = .ok (.iconst 1, 1) := by decide +kernel
theorem dX0_kindOf_47 : decode cX0_kindOf 47 = .ok (.ireturn, 1) := by decide +kernel
theorem dX0_kindOf_48 : decode cX0_kindOf 48 = .ok (.iconst 2, 1) := by decide +kernel
theorem dX0_kindOf_49 : decode cX0_kindOf 49 = .ok (.ireturn, 1) := by decide +kernel
theorem dX0_kindOf_50 : decode cX0_kindOf 50 = .ok (.iconst 3, 1) := by decide +kernel
theorem dX0_kindOf_51 : decode cX0_kindOf 51 = .ok (.ireturn, 1) := by decide +kernel
theorem dX0_kindOf_52 : decode cX0_kindOf 52 = .ok (.iconst (-1), 1) := by decide +kernel
theorem dX0_kindOf_53 : decode cX0_kindOf 53 = .ok (.ireturn, 1) := by decide +kernel
theorem dX0_dig_0 : decode cX0_dig 0 = .ok (.iload_n 1, 1) := by decide +kernel
theorem dX0_dig_1 : decode cX0_dig 1 = .ok (.ifCond .eq 19, 3) := by decide +kernel
theorem dX0_dig_4 : decode cX0_dig 4 = .ok (.aload_n 0, 1) := by decide +kernel
theorem dX0_dig_5 : decode cX0_dig 5 = .ok (.dup, 1) := by decide +kernel
theorem dX0_dig_6 : decode cX0_dig 6 = .ok (.getfield 33, 3) := by decide +kernel
theorem dX0_dig_9 : decode cX0_dig 9 = .ok (.aload_n 0, 1) := by decide +kernel
theorem dX0_dig_10 : decode cX0_dig 10 = .ok (.getfield 68, 3) := by decide +kernel
theorem dX0_dig_13 : decode cX0_dig 13 = .ok (.invokestatic 80, 3) := by decide +kernel
theorem dX0_dig_16 : decode cX0_dig 16 = .ok (.lor, 1) := by decide +kernel
theorem dX0_dig_17 : decode cX0_dig 17 = .ok (.putfield 33, 3) := by decide +kernel
theorem dX0_dig_20 : decode cX0_dig 20 = .ok (.iload_n 1, 1) := by decide +kernel
theorem dX0_dig_21 : decode cX0_dig 21 = .ok (.iconst 2, 1) := by decide +kernel
theorem dX0_dig_22 : decode cX0_dig 22 = .ok (.if_icmp .ne 19, 3) := by decide +kernel
theorem dX0_dig_25 : decode cX0_dig 25 = .ok (.aload_n 0, 1) := by decide +kernel
theorem dX0_dig_26 : decode cX0_dig 26 = .ok (.dup, 1) := by decide +kernel
theorem dX0_dig_27 : decode cX0_dig 27 = .ok (.getfield 37, 3) := by decide +kernel
theorem dX0_dig_30 : decode cX0_dig 30 = .ok (.aload_n 0, 1) := by decide +kernel
theorem dX0_dig_31 : decode cX0_dig 31 = .ok (.getfield 68, 3) := by decide +kernel
theorem dX0_dig_34 : decode cX0_dig 34 = .ok (.invokestatic 80, 3) := by decide +kernel
theorem dX0_dig_37 : decode cX0_dig 37 = .ok (.lor, 1) := by decide +kernel
theorem dX0_dig_38 : decode cX0_dig 38 = .ok (.putfield 37, 3) := by decide +kernel
theorem dX0_dig_41 : decode cX0_dig 41 = .ok (.iload_n 1, 1) := by decide +kernel
theorem dX0_dig_42 : decode cX0_dig 42 = .ok (.iconst 3, 1) := by decide +kernel
theorem dX0_dig_43 : decode cX0_dig 43 = .ok (.if_icmp .ne 19, 3) := by decide +kernel
theorem dX0_dig_46 : decode cX0_dig 46 = .ok (.aload_n 0, 1) := by decide +kernel
theorem dX0_dig_47 : decode cX0_dig 47 = .ok (.dup, 1) := by decide +kernel
theorem dX0_dig_48 : decode cX0_dig 48 = .ok (.getfield 49, 3) := by decide +kernel
theorem dX0_dig_51 : decode cX0_dig 51 = .ok (.aload_n 0, 1) := by decide +kernel
theorem dX0_dig_52 : decode cX0_dig 52 = .ok (.getfield 68, 3) := by decide +kernel
theorem dX0_dig_55 : decode cX0_dig 55 = .ok (.invokestatic 80, 3) := by decide +kernel
theorem dX0_dig_58 : decode cX0_dig 58 = .ok (.lor, 1) := by decide +kernel
theorem dX0_dig_59 : decode cX0_dig 59 = .ok (.putfield 49, 3) := by decide +kernel
theorem dX0_dig_62 : decode cX0_dig 62 = .ok (.aload_n 0, 1) := by decide +kernel
theorem dX0_dig_63 : decode cX0_dig 63 = .ok (.dup, 1) := by decide +kernel
theorem dX0_dig_64 : decode cX0_dig 64 = .ok (.getfield 68, 3) := by decide +kernel
theorem dX0_dig_67 : decode cX0_dig 67 = .ok (.iconst 1, 1) := by decide +kernel
theorem dX0_dig_68 : decode cX0_dig 68 = .ok (.iadd, 1) := by decide +kernel
theorem dX0_dig_69 : decode cX0_dig 69 = .ok (.putfield 68, 3) := by decide +kernel
theorem dX0_dig_72 : decode cX0_dig 72 = .ok (.return_, 1) := by decide +kernel
theorem dX0_isCell_0 : decode cX0_isCell 0 = .ok (.iload_n 1, 1) := by decide +kernel
theorem dX0_isCell_1 : decode cX0_isCell 1 = .ok (.ifCond .lt 21, 3) := by decide +kernel
theorem dX0_isCell_4 : decode cX0_isCell 4 = .ok (.iload_n 1, 1) := by decide +kernel
theorem dX0_isCell_5 : decode cX0_isCell 5 = .ok (.aload_n 0, 1) := by decide +kernel
theorem dX0_isCell_6 : decode cX0_isCell 6 = .ok (.getfield 68, 3) := by decide +kernel
theorem dX0_isCell_9 : decode cX0_isCell 9 = .ok (.if_icmp .ge 13, 3) := by decide +kernel
theorem dX0_isCell_12 : decode cX0_isCell 12 = .ok (.iload_n 1, 1) := by decide +kernel
theorem dX0_isCell_13 : decode cX0_isCell 13 = .ok (.bipush 35, 2) := by decide +kernel
theorem dX0_isCell_15 : decode cX0_isCell 15 = .ok (.if_icmp .ge 7, 3) := by decide +kernel
theorem dX0_isCell_18 : decode cX0_isCell 18 = .ok (.iconst 1, 1) := by decide +kernel
theorem dX0_isCell_19 : decode cX0_isCell 19 = .ok (.goto 4, 3) := by decide +kernel
theorem dX0_isCell_22 : decode cX0_isCell 22 = .ok (.iconst 0, 1) := by decide +kernel
theorem dX0_isCell_23 : decode cX0_isCell 23 = .ok (.ireturn, 1) := by decide +kernel
theorem dX0_kind_0 : decode cX0_kind 0 = .ok (.aload_n 0, 1) := by decide +kernel
theorem dX0_kind_1 : decode cX0_kind 1 = .ok (.getfield 33, 3) := by decide +kernel
theorem dX0_kind_4 : decode cX0_kind 4 = .ok (.iload_n 1, 1) := by decide +kernel
theorem dX0_kind_5 : decode cX0_kind 5 = .ok (.invokestatic 95, 3) := by decide +kernel
theorem dX0_kind_8 : decode cX0_kind 8 = .ok (.ifCond .ne 5, 3) := by decide +kernel
theorem dX0_kind_11 : decode cX0_kind 11 = .ok (.iconst 0, 1) := by decide +kernel
theorem dX0_kind_12 : decode cX0_kind 12 = .ok (.ireturn, 1) := by decide +kernel
theorem dX0_kind_13 : decode cX0_kind 13 = .ok (.aload_n 0, 1) := by decide +kernel
theorem dX0_kind_14 : decode cX0_kind 14 = .ok (.getfield 37, 3) := by decide +kernel
theorem dX0_kind_17 : decode cX0_kind 17 = .ok (.iload_n 1, 1) := by decide +kernel
theorem dX0_kind_18 : decode cX0_kind 18 = .ok (.invokestatic 95, 3) := by decide +kernel
theorem dX0_kind_21 : decode cX0_kind 21 = .ok (.ifCond .eq 5, 3) := by decide +kernel
theorem dX0_kind_24 : decode cX0_kind 24 = .ok (.iconst 2, 1) := by decide +kernel
theorem dX0_kind_25 : decode cX0_kind 25 = .ok (.ireturn, 1) := by decide +kernel
theorem dX0_kind_26 : decode cX0_kind 26 = .ok (.aload_n 0, 1) := by decide +kernel
theorem dX0_kind_27 : decode cX0_kind 27 = .ok (.getfield 49, 3) := by decide +kernel
theorem dX0_kind_30 : decode cX0_kind 30 = .ok (.iload_n 1, 1) := by decide +kernel
theorem dX0_kind_31 : decode cX0_kind 31 = .ok (.invokestatic 95, 3) := by decide +kernel
theorem dX0_kind_34 : decode cX0_kind 34 = .ok (.ifCond .eq 7, 3) := by decide +kernel
theorem dX0_kind_37 : decode cX0_kind 37 = .ok (.iconst 3, 1) := by decide +kernel
theorem dX0_kind_38 : decode cX0_kind 38 = .ok (.goto 4, 3) := by decide +kernel
theorem dX0_kind_41 : decode cX0_kind 41 = .ok (.iconst 1, 1) := by decide +kernel
theorem dX0_kind_42 : decode cX0_kind 42 = .ok (.ireturn, 1) := by decide +kernel
theorem dX0_loose_0 : decode cX0_loose 0 = .ok (.lload_n 1, 1) := by decide +kernel
theorem dX0_loose_1 : decode cX0_loose 1 = .ok (.aload_n 0, 1) := by decide +kernel
theorem dX0_loose_2 : decode cX0_loose 2 = .ok (.getfield 77, 3) := by decide +kernel
theorem dX0_loose_5 : decode cX0_loose 5 = .ok (.lload_n 1, 1) := by decide +kernel
theorem dX0_loose_6 : decode cX0_loose 6 = .ok (.aload_n 0, 1) := by decide +kernel
theorem dX0_loose_7 : decode cX0_loose 7 = .ok (.getfield 65, 3) := by decide +kernel
theorem dX0_loose_10 : decode cX0_loose 10 = .ok (.lshl, 1) := by decide +kernel
theorem dX0_loose_11 : decode cX0_loose 11 = .ok (.land, 1) := by decide +kernel
theorem dX0_loose_12 : decode cX0_loose 12 = .ok (.aload_n 0, 1) := by decide +kernel
theorem dX0_loose_13 : decode cX0_loose 13 = .ok (.getfield 77, 3) := by decide +kernel
theorem dX0_loose_16 : decode cX0_loose 16 = .ok (.ldc2_w 44, 3) := by decide +kernel
theorem dX0_loose_19 : decode cX0_loose 19 = .ok (.lxor, 1) := by decide +kernel
theorem dX0_loose_20 : decode cX0_loose 20 = .ok (.lload_n 1, 1) := by decide +kernel
theorem dX0_loose_21 : decode cX0_loose 21 = .ok (.aload_n 0, 1) := by decide +kernel
theorem dX0_loose_22 : decode cX0_loose 22 = .ok (.getfield 65, 3) := by decide +kernel
theorem dX0_loose_25 : decode cX0_loose 25 = .ok (.lushr, 1) := by decide +kernel
theorem dX0_loose_26 : decode cX0_loose 26 = .ok (.land, 1) := by decide +kernel
theorem dX0_loose_27 : decode cX0_loose 27 = .ok (.lor, 1) := by decide +kernel
theorem dX0_loose_28 : decode cX0_loose 28 = .ok (.land, 1) := by decide +kernel
theorem dX0_loose_29 : decode cX0_loose 29 = .ok (.lreturn, 1) := by decide +kernel
theorem dX0_fallen_0 : decode cX0_fallen 0 = .ok (.aload_n 0, 1) := by decide +kernel
theorem dX0_fallen_1 : decode cX0_fallen 1 = .ok (.getfield 33, 3) := by decide +kernel
theorem dX0_fallen_4 : decode cX0_fallen 4 = .ok (.aload_n 0, 1) := by decide +kernel
theorem dX0_fallen_5 : decode cX0_fallen 5 = .ok (.getfield 46, 3) := by decide +kernel
theorem dX0_fallen_8 : decode cX0_fallen 8 = .ok (.ldc2_w 44, 3) := by decide +kernel
theorem dX0_fallen_11 : decode cX0_fallen 11 = .ok (.lxor, 1) := by decide +kernel
theorem dX0_fallen_12 : decode cX0_fallen 12 = .ok (.land, 1) := by decide +kernel
theorem dX0_fallen_13 : decode cX0_fallen 13 = .ok (.iload_n 1, 1) := by decide +kernel
theorem dX0_fallen_14 : decode cX0_fallen 14 = .ok (.invokestatic 95, 3) := by decide +kernel
theorem dX0_fallen_17 : decode cX0_fallen 17 = .ok (.ifCond .ne 5, 3) := by decide +kernel
theorem dX0_fallen_20 : decode cX0_fallen 20 = .ok (.iload_n 1, 1) := by decide +kernel
theorem dX0_fallen_21 : decode cX0_fallen 21 = .ok (.ireturn, 1) := by decide +kernel
theorem dX0_fallen_22 : decode cX0_fallen 22 = .ok (.aload_n 0, 1) := by decide +kernel
theorem dX0_fallen_23 : decode cX0_fallen 23 = .ok (.getfield 77, 3) := by decide +kernel
theorem dX0_fallen_26 : decode cX0_fallen 26 = .ok (.iload_n 1, 1) := by decide +kernel
theorem dX0_fallen_27 : decode cX0_fallen 27 = .ok (.invokestatic 95, 3) := by decide +kernel
theorem dX0_fallen_30 : decode cX0_fallen 30 = .ok (.ifCond .eq 12, 3) := by decide +kernel
theorem dX0_fallen_33 : decode cX0_fallen 33 = .ok (.iload_n 1, 1) := by decide +kernel
theorem dX0_fallen_34 : decode cX0_fallen 34 = .ok (.aload_n 0, 1) := by decide +kernel
theorem dX0_fallen_35 : decode cX0_fallen 35 = .ok (.getfield 65, 3) := by decide +kernel
theorem dX0_fallen_38 : decode cX0_fallen 38 = .ok (.isub, 1) := by decide +kernel
theorem dX0_fallen_39 : decode cX0_fallen 39 = .ok (.goto 9, 3) := by decide +kernel
theorem dX0_fallen_42 : decode cX0_fallen 42 = .ok (.iload_n 1, 1) := by decide +kernel
theorem dX0_fallen_43 : decode cX0_fallen 43 = .ok (.aload_n 0, 1) := by decide +kernel
theorem dX0_fallen_44 : decode cX0_fallen 44 = .ok (.getfield 65, 3) := by decide +kernel
theorem dX0_fallen_47 : decode cX0_fallen 47 = .ok (.iadd, 1) := by decide +kernel
theorem dX0_fallen_48 : decode cX0_fallen 48 = .ok (.ireturn, 1) := by decide +kernel
theorem dX0_placeBehind_0 : decode cX0_placeBehind 0 = .ok (.aload_n 0, 1) := by decide +kernel
theorem dX0_placeBehind_1 : decode cX0_placeBehind 1 = .ok (.getfield 33, 3) := by decide +kernel
theorem dX0_placeBehind_4 : decode cX0_placeBehind 4 = .ok (.iload_n 1, 1) := by decide +kernel
theorem dX0_placeBehind_5 : decode cX0_placeBehind 5 = .ok (.invokestatic 95, 3) := by decide +kernel
theorem dX0_placeBehind_8 : decode cX0_placeBehind 8 = .ok (.ifCond .ne 5, 3) := by decide +kernel
theorem dX0_placeBehind_11 : decode cX0_placeBehind 11 = .ok (.iconst (-1), 1) := by decide +kernel
theorem dX0_placeBehind_12 : decode cX0_placeBehind 12 = .ok (.ireturn, 1) := by decide +kernel
theorem dX0_placeBehind_13 : decode cX0_placeBehind 13 = .ok (.iload_n 1, 1) := by decide +kernel
theorem dX0_placeBehind_14 : decode cX0_placeBehind 14 = .ok (.istore_n 3, 1) := by decide +kernel
theorem dX0_placeBehind_15 : decode cX0_placeBehind 15 = .ok (.iconst 0, 1) := by decide +kernel
theorem dX0_placeBehind_16 : decode cX0_placeBehind 16 = .ok (.istore 4, 2) := by decide +kernel
theorem dX0_placeBehind_18 : decode cX0_placeBehind 18 = .ok (.iload 4, 2) := by decide +kernel
theorem dX0_placeBehind_20 : decode cX0_placeBehind 20 = .ok (.iload_n 2, 1) := by decide +kernel
theorem dX0_placeBehind_21 : decode cX0_placeBehind 21 = .ok (.if_icmp .ge 21, 3) := by decide +kernel
theorem dX0_placeBehind_24 : decode cX0_placeBehind 24 = .ok (.iload 4, 2) := by decide +kernel
theorem dX0_placeBehind_26 : decode cX0_placeBehind 26 = .ok (.iconst 5, 1) := by decide +kernel
theorem dX0_placeBehind_27 : decode cX0_placeBehind 27 = .ok (.if_icmp .ge 15, 3) := by decide +kernel
theorem dX0_placeBehind_30 : decode cX0_placeBehind 30 = .ok (.aload_n 0, 1) := by decide +kernel
theorem dX0_placeBehind_31 : decode cX0_placeBehind 31 = .ok (.iload_n 3, 1) := by decide +kernel
theorem dX0_placeBehind_32 : decode cX0_placeBehind 32 = .ok (.invokevirtual 99, 3) := by decide +kernel
theorem dX0_placeBehind_35 : decode cX0_placeBehind 35 = .ok (.istore_n 3, 1) := by decide +kernel
theorem dX0_placeBehind_36 : decode cX0_placeBehind 36 = .ok (.iinc 4 1, 3) := by decide +kernel
theorem dX0_placeBehind_39 : decode cX0_placeBehind 39 = .ok (.goto (-21), 3) := by decide +kernel
theorem dX0_placeBehind_42 : decode cX0_placeBehind 42 = .ok (.iload_n 3, 1) := by decide +kernel
theorem dX0_placeBehind_43 : decode cX0_placeBehind 43 = .ok (.ireturn, 1) := by decide +kernel
theorem dX0_falls_0 : decode cX0_falls 0 = .ok (.iload_n 1, 1) := by decide +kernel
theorem dX0_falls_1 : decode cX0_falls 1 = .ok (.istore_n 2, 1) := by decide +kernel
theorem dX0_falls_2 : decode cX0_falls 2 = .ok (.iconst 0, 1) := by decide +kernel
theorem dX0_falls_3 : decode cX0_falls 3 = .ok (.istore_n 3, 1) := by decide +kernel
theorem dX0_falls_4 : decode cX0_falls 4 = .ok (.iconst 0, 1) := by decide +kernel
theorem dX0_falls_5 : decode cX0_falls 5 = .ok (.istore 4, 2) := by decide +kernel
theorem dX0_falls_7 : decode cX0_falls 7 = .ok (.iload 4, 2) := by decide +kernel
theorem dX0_falls_9 : decode cX0_falls 9 = .ok (.iconst 5, 1) := by decide +kernel
theorem dX0_falls_10 : decode cX0_falls 10 = .ok (.if_icmp .ge 38, 3) := by decide +kernel
theorem dX0_falls_13 : decode cX0_falls 13 = .ok (.aload_n 0, 1) := by decide +kernel
theorem dX0_falls_14 : decode cX0_falls 14 = .ok (.getfield 33, 3) := by decide +kernel
theorem dX0_falls_17 : decode cX0_falls 17 = .ok (.aload_n 0, 1) := by decide +kernel
theorem dX0_falls_18 : decode cX0_falls 18 = .ok (.getfield 46, 3) := by decide +kernel
theorem dX0_falls_21 : decode cX0_falls 21 = .ok (.ldc2_w 44, 3) := by decide +kernel
theorem dX0_falls_24 : decode cX0_falls 24 = .ok (.lxor, 1) := by decide +kernel
theorem dX0_falls_25 : decode cX0_falls 25 = .ok (.land, 1) := by decide +kernel
theorem dX0_falls_26 : decode cX0_falls 26 = .ok (.iload_n 2, 1) := by decide +kernel
theorem dX0_falls_27 : decode cX0_falls 27 = .ok (.invokestatic 95, 3) := by decide +kernel
theorem dX0_falls_30 : decode cX0_falls 30 = .ok (.ifCond .eq 18, 3) := by decide +kernel
theorem dX0_falls_33 : decode cX0_falls 33 = .ok (.aload_n 0, 1) := by decide +kernel
theorem dX0_falls_34 : decode cX0_falls 34 = .ok (.iload_n 2, 1) := by decide +kernel
theorem dX0_falls_35 : decode cX0_falls 35 = .ok (.invokevirtual 99, 3) := by decide +kernel
theorem dX0_falls_38 : decode cX0_falls 38 = .ok (.istore_n 2, 1) := by decide +kernel
theorem dX0_falls_39 : decode cX0_falls 39 = .ok (.iinc 3 1, 3) := by decide +kernel
theorem dX0_falls_42 : decode cX0_falls 42 = .ok (.iinc 4 1, 3) := by decide +kernel
theorem dX0_falls_45 : decode cX0_falls 45 = .ok (.goto (-38), 3) := by decide +kernel
theorem dX0_falls_48 : decode cX0_falls 48 = .ok (.iload_n 3, 1) := by decide +kernel
theorem dX0_falls_49 : decode cX0_falls 49 = .ok (.ireturn, 1) := by decide +kernel
theorem dX0_goneTo_0 : decode cX0_goneTo 0 = .ok (.iload_n 2, 1) := by decide +kernel
theorem dX0_goneTo_1 : decode cX0_goneTo 1 = .ok (.ifCond .lt 21, 3) := by decide +kernel
theorem dX0_goneTo_4 : decode cX0_goneTo 4 = .ok (.iload_n 2, 1) := by decide +kernel
theorem dX0_goneTo_5 : decode cX0_goneTo 5 = .ok (.iconst 4, 1) := by decide +kernel
theorem dX0_goneTo_6 : decode cX0_goneTo 6 = .ok (.if_icmp .ge 16, 3) := by decide +kernel
theorem dX0_goneTo_9 : decode cX0_goneTo 9 = .ok (.aload_n 0, 1) := by decide +kernel
theorem dX0_goneTo_10 : decode cX0_goneTo 10 = .ok (.getfield 9, 3) := by decide +kernel
theorem dX0_goneTo_13 : decode cX0_goneTo 13 = .ok (.iload_n 2, 1) := by decide +kernel
theorem dX0_goneTo_14 : decode cX0_goneTo 14 = .ok (.laload, 1) := by decide +kernel
theorem dX0_goneTo_15 : decode cX0_goneTo 15 = .ok (.iload_n 1, 1) := by decide +kernel
theorem dX0_goneTo_16 : decode cX0_goneTo 16 = .ok (.invokestatic 95, 3) := by decide +kernel
theorem dX0_goneTo_19 : decode cX0_goneTo 19 = .ok (.ifCond .ne 5, 3) := by decide +kernel
theorem dX0_goneTo_22 : decode cX0_goneTo 22 = .ok (.iconst (-1), 1) := by decide +kernel
theorem dX0_goneTo_23 : decode cX0_goneTo 23 = .ok (.ireturn, 1) := by decide +kernel
theorem dX0_goneTo_24 : decode cX0_goneTo 24 = .ok (.iload_n 2, 1) := by decide +kernel
theorem dX0_goneTo_25 : decode cX0_goneTo 25 = .ok (.tableswitch 42 0 2 #[27, 34, 38], 27) := by decide +kernel
theorem dX0_goneTo_52 : decode cX0_goneTo 52 = .ok (.iload_n 1, 1) := by decide +kernel
theorem dX0_goneTo_53 : decode cX0_goneTo 53 = .ok (.aload_n 0, 1) := by decide +kernel
theorem dX0_goneTo_54 : decode cX0_goneTo 54 = .ok (.getfield 65, 3) := by decide +kernel
theorem dX0_goneTo_57 : decode cX0_goneTo 57 = .ok (.isub, 1) := by decide +kernel
theorem dX0_goneTo_58 : decode cX0_goneTo 58 = .ok (.ireturn, 1) := by decide +kernel
theorem dX0_goneTo_59 : decode cX0_goneTo 59 = .ok (.iload_n 1, 1) := by decide +kernel
theorem dX0_goneTo_60 : decode cX0_goneTo 60 = .ok (.iconst 1, 1) := by decide +kernel
theorem dX0_goneTo_61 : decode cX0_goneTo 61 = .ok (.isub, 1) := by decide +kernel
theorem dX0_goneTo_62 : decode cX0_goneTo 62 = .ok (.ireturn, 1) := by decide +kernel
theorem dX0_goneTo_63 : decode cX0_goneTo 63 = .ok (.iload_n 1, 1) := by decide +kernel
theorem dX0_goneTo_64 : decode cX0_goneTo 64 = .ok (.iconst 1, 1) := by decide +kernel
theorem dX0_goneTo_65 : decode cX0_goneTo 65 = .ok (.iadd, 1) := by decide +kernel
theorem dX0_goneTo_66 : decode cX0_goneTo 66 = .ok (.ireturn, 1) := by decide +kernel
theorem dX0_goneTo_67 : decode cX0_goneTo 67 = .ok (.iload_n 1, 1) := by decide +kernel
theorem dX0_goneTo_68 : decode cX0_goneTo 68 = .ok (.aload_n 0, 1) := by decide +kernel
theorem dX0_goneTo_69 : decode cX0_goneTo 69 = .ok (.getfield 65, 3) := by decide +kernel
theorem dX0_goneTo_72 : decode cX0_goneTo 72 = .ok (.iadd, 1) := by decide +kernel
theorem dX0_goneTo_73 : decode cX0_goneTo 73 = .ok (.ireturn, 1) := by decide +kernel
theorem dX0_moveSteps_0 : decode cX0_moveSteps 0 = .ok (.iload_n 2, 1) := by decide +kernel
theorem dX0_moveSteps_1 : decode cX0_moveSteps 1 = .ok (.ifCond .lt 21, 3) := by decide +kernel
theorem dX0_moveSteps_4 : decode cX0_moveSteps 4 = .ok (.iload_n 2, 1) := by decide +kernel
theorem dX0_moveSteps_5 : decode cX0_moveSteps 5 = .ok (.iconst 4, 1) := by decide +kernel
theorem dX0_moveSteps_6 : decode cX0_moveSteps 6 = .ok (.if_icmp .ge 16, 3) := by decide +kernel
theorem dX0_moveSteps_9 : decode cX0_moveSteps 9 = .ok (.aload_n 0, 1) := by decide +kernel
theorem dX0_moveSteps_10 : decode cX0_moveSteps 10 = .ok (.getfield 15, 3) := by decide +kernel
theorem dX0_moveSteps_13 : decode cX0_moveSteps 13 = .ok (.iload_n 2, 1) := by decide +kernel
theorem dX0_moveSteps_14 : decode cX0_moveSteps 14 = .ok (.laload, 1) := by decide +kernel
theorem dX0_moveSteps_15 : decode cX0_moveSteps 15 = .ok (.iload_n 1, 1) := by decide +kernel
theorem dX0_moveSteps_16 : decode cX0_moveSteps 16 = .ok (.invokestatic 95, 3) := by decide +kernel
theorem dX0_moveSteps_19 : decode cX0_moveSteps 19 = .ok (.ifCond .ne 5, 3) := by decide +kernel
theorem dX0_moveSteps_22 : decode cX0_moveSteps 22 = .ok (.iconst 1, 1) := by decide +kernel
theorem dX0_moveSteps_23 : decode cX0_moveSteps 23 = .ok (.ireturn, 1) := by decide +kernel
theorem dX0_moveSteps_24 : decode cX0_moveSteps 24 = .ok (.iconst 1, 1) := by decide +kernel
theorem dX0_moveSteps_25 : decode cX0_moveSteps 25 = .ok (.iload_n 3, 1) := by decide +kernel
theorem dX0_moveSteps_26 : decode cX0_moveSteps 26 = .ok (.iadd, 1) := by decide +kernel
theorem dX0_moveSteps_27 : decode cX0_moveSteps 27 = .ok (.ireturn, 1) := by decide +kernel
theorem dX0_kicked_0 : decode cX0_kicked 0 = .ok (.iload_n 2, 1) := by decide +kernel
theorem dX0_kicked_1 : decode cX0_kicked 1 = .ok (.ifCond .ne 5, 3) := by decide +kernel
theorem dX0_kicked_4 : decode cX0_kicked 4 = .ok (.iload_n 1, 1) := by decide +kernel
theorem dX0_kicked_5 : decode cX0_kicked 5 = .ok (.ireturn, 1) := by decide +kernel
theorem dX0_kicked_6 : decode cX0_kicked 6 = .ok (.aload_n 0, 1) := by decide +kernel
theorem dX0_kicked_7 : decode cX0_kicked 7 = .ok (.iload_n 1, 1) := by decide +kernel
theorem dX0_kicked_8 : decode cX0_kicked 8 = .ok (.iload_n 2, 1) := by decide +kernel
theorem dX0_kicked_9 : decode cX0_kicked 9 = .ok (.iconst 1, 1) := by decide +kernel
theorem dX0_kicked_10 : decode cX0_kicked 10 = .ok (.if_icmp .ne 7, 3) := by decide +kernel
theorem dX0_kicked_13 : decode cX0_kicked 13 = .ok (.iconst 1, 1) := by decide +kernel
theorem dX0_kicked_14 : decode cX0_kicked 14 = .ok (.goto 4, 3) := by decide +kernel
theorem dX0_kicked_17 : decode cX0_kicked 17 = .ok (.iconst 2, 1) := by decide +kernel
theorem dX0_kicked_18 : decode cX0_kicked 18 = .ok (.invokevirtual 102, 3) := by decide +kernel
theorem dX0_kicked_21 : decode cX0_kicked 21 = .ok (.istore_n 3, 1) := by decide +kernel
theorem dX0_kicked_22 : decode cX0_kicked 22 = .ok (.iload_n 3, 1) := by decide +kernel
theorem dX0_kicked_23 : decode cX0_kicked 23 = .ok (.iconst (-1), 1) := by decide +kernel
theorem dX0_kicked_24 : decode cX0_kicked 24 = .ok (.if_icmp .ne 7, 3) := by decide +kernel
theorem dX0_kicked_27 : decode cX0_kicked 27 = .ok (.iload_n 1, 1) := by decide +kernel
theorem dX0_kicked_28 : decode cX0_kicked 28 = .ok (.goto 4, 3) := by decide +kernel
theorem dX0_kicked_31 : decode cX0_kicked 31 = .ok (.iload_n 3, 1) := by decide +kernel
theorem dX0_kicked_32 : decode cX0_kicked 32 = .ok (.ireturn, 1) := by decide +kernel
theorem dX0_soaked_0 : decode cX0_soaked 0 = .ok (.aload_n 0, 1) := by decide +kernel
theorem dX0_soaked_1 : decode cX0_soaked 1 = .ok (.lload_n 1, 1) := by decide +kernel
theorem dX0_soaked_2 : decode cX0_soaked 2 = .ok (.invokevirtual 40, 3) := by decide +kernel
theorem dX0_soaked_5 : decode cX0_soaked 5 = .ok (.lstore 5, 2) := by decide +kernel
theorem dX0_soaked_7 : decode cX0_soaked 7 = .ok (.lload_n 3, 1) := by decide +kernel
theorem dX0_soaked_8 : decode cX0_soaked 8 = .ok (.lload_n 1, 1) := by decide +kernel
theorem dX0_soaked_9 : decode cX0_soaked 9 = .ok (.land, 1) := by decide +kernel
theorem dX0_soaked_10 : decode cX0_soaked 10 = .ok (.lstore 7, 2) := by decide +kernel
theorem dX0_soaked_12 : decode cX0_soaked 12 = .ok (.iconst 0, 1) := by decide +kernel
theorem dX0_soaked_13 : decode cX0_soaked 13 = .ok (.istore 9, 2) := by decide +kernel
theorem dX0_soaked_15 : decode cX0_soaked 15 = .ok (.iload 9, 2) := by decide +kernel
theorem dX0_soaked_17 : decode cX0_soaked 17 = .ok (.bipush 35, 2) := by decide +kernel
theorem dX0_soaked_19 : decode cX0_soaked 19 = .ok (.if_icmp .ge 112, 3) := by decide +kernel
theorem dX0_soaked_22 : decode cX0_soaked 22 = .ok (.lload 7, 2) := by decide +kernel
theorem dX0_soaked_24 : decode cX0_soaked 24 = .ok (.lload 5, 2) := by decide +kernel
theorem dX0_soaked_26 : decode cX0_soaked 26 = .ok (.land, 1) := by decide +kernel
theorem dX0_soaked_27 : decode cX0_soaked 27 = .ok (.lstore 10, 2) := by decide +kernel
theorem dX0_soaked_29 : decode cX0_soaked 29 = .ok (.lload 7, 2) := by decide +kernel
theorem dX0_soaked_31 : decode cX0_soaked 31 = .ok (.lload 5, 2) := by decide +kernel
theorem dX0_soaked_33 : decode cX0_soaked 33 = .ok (.ldc2_w 44, 3) := by decide +kernel
theorem dX0_soaked_36 : decode cX0_soaked 36 = .ok (.lxor, 1) := by decide +kernel
theorem dX0_soaked_37 : decode cX0_soaked 37 = .ok (.land, 1) := by decide +kernel
theorem dX0_soaked_38 : decode cX0_soaked 38 = .ok (.lstore 12, 2) := by decide +kernel
theorem dX0_soaked_40 : decode cX0_soaked 40 = .ok (.lload_n 1, 1) := by decide +kernel
theorem dX0_soaked_41 : decode cX0_soaked 41 = .ok (.lload 10, 2) := by decide +kernel
theorem dX0_soaked_43 : decode cX0_soaked 43 = .ok (.aload_n 0, 1) := by decide +kernel
theorem dX0_soaked_44 : decode cX0_soaked 44 = .ok (.getfield 77, 3) := by decide +kernel
theorem dX0_soaked_47 : decode cX0_soaked 47 = .ok (.land, 1) := by decide +kernel
theorem dX0_soaked_48 : decode cX0_soaked 48 = .ok (.aload_n 0, 1) := by decide +kernel
theorem dX0_soaked_49 : decode cX0_soaked 49 = .ok (.getfield 65, 3) := by decide +kernel
theorem dX0_soaked_52 : decode cX0_soaked 52 = .ok (.lushr, 1) := by decide +kernel
theorem dX0_soaked_53 : decode cX0_soaked 53 = .ok (.lload 10, 2) := by decide +kernel
theorem dX0_soaked_55 : decode cX0_soaked 55 = .ok (.aload_n 0, 1) := by decide +kernel
theorem dX0_soaked_56 : decode cX0_soaked 56 = .ok (.getfield 77, 3) := by decide +kernel
theorem dX0_soaked_59 : decode cX0_soaked 59 = .ok (.ldc2_w 44, 3) := by decide +kernel
theorem dX0_soaked_62 : decode cX0_soaked 62 = .ok (.lxor, 1) := by decide +kernel
theorem dX0_soaked_63 : decode cX0_soaked 63 = .ok (.land, 1) := by decide +kernel
theorem dX0_soaked_64 : decode cX0_soaked 64 = .ok (.aload_n 0, 1) := by decide +kernel
theorem dX0_soaked_65 : decode cX0_soaked 65 = .ok (.getfield 65, 3) := by decide +kernel
theorem dX0_soaked_68 : decode cX0_soaked 68 = .ok (.lshl, 1) := by decide +kernel
theorem dX0_soaked_69 : decode cX0_soaked 69 = .ok (.lor, 1) := by decide +kernel
theorem dX0_soaked_70 : decode cX0_soaked 70 = .ok (.lload 12, 2) := by decide +kernel
theorem dX0_soaked_72 : decode cX0_soaked 72 = .ok (.aload_n 0, 1) := by decide +kernel
theorem dX0_soaked_73 : decode cX0_soaked 73 = .ok (.getfield 71, 3) := by decide +kernel
theorem dX0_soaked_76 : decode cX0_soaked 76 = .ok (.ldc2_w 44, 3) := by decide +kernel
theorem dX0_soaked_79 : decode cX0_soaked 79 = .ok (.lxor, 1) := by decide +kernel
theorem dX0_soaked_80 : decode cX0_soaked 80 = .ok (.land, 1) := by decide +kernel
theorem dX0_soaked_81 : decode cX0_soaked 81 = .ok (.iconst 1, 1) := by decide +kernel
theorem dX0_soaked_82 : decode cX0_soaked 82 = .ok (.lushr, 1) := by decide +kernel
theorem dX0_soaked_83 : decode cX0_soaked 83 = .ok (.lor, 1) := by decide +kernel
theorem dX0_soaked_84 : decode cX0_soaked 84 = .ok (.lload 12, 2) := by decide +kernel
theorem dX0_soaked_86 : decode cX0_soaked 86 = .ok (.aload_n 0, 1) := by decide +kernel
theorem dX0_soaked_87 : decode cX0_soaked 87 = .ok (.getfield 74, 3) := by decide +kernel
theorem dX0_soaked_90 : decode cX0_soaked 90 = .ok (.ldc2_w 44, 3) := by decide +kernel
theorem dX0_soaked_93 : decode cX0_soaked 93 = .ok (.lxor, 1) := by decide +kernel
theorem dX0_soaked_94 : decode cX0_soaked 94 = .ok (.land, 1) := by decide +kernel
theorem dX0_soaked_95 : decode cX0_soaked 95 = .ok (.iconst 1, 1) := by decide +kernel
theorem dX0_soaked_96 : decode cX0_soaked 96 = .ok (.lshl, 1) := by decide +kernel
theorem dX0_soaked_97 : decode cX0_soaked 97 = .ok (.lor, 1) := by decide +kernel
theorem dX0_soaked_98 : decode cX0_soaked 98 = .ok (.land, 1) := by decide +kernel
theorem dX0_soaked_99 : decode cX0_soaked 99 = .ok (.lstore 14, 2) := by decide +kernel
theorem dX0_soaked_101 : decode cX0_soaked 101 = .ok (.lload 14, 2) := by decide +kernel
theorem dX0_soaked_103 : decode cX0_soaked 103 = .ok (.lload 7, 2) := by decide +kernel
theorem dX0_soaked_105 : decode cX0_soaked 105 = .ok (.ldc2_w 44, 3) := by decide +kernel
theorem dX0_soaked_108 : decode cX0_soaked 108 = .ok (.lxor, 1) := by decide +kernel
theorem dX0_soaked_109 : decode cX0_soaked 109 = .ok (.land, 1) := by decide +kernel
theorem dX0_soaked_110 : decode cX0_soaked 110 = .ok (.lconst 0, 1) := by decide +kernel
theorem dX0_soaked_111 : decode cX0_soaked 111 = .ok (.lcmp, 1) := by decide +kernel
theorem dX0_soaked_112 : decode cX0_soaked 112 = .ok (.ifCond .ne 6, 3) := by decide +kernel
theorem dX0_soaked_115 : decode cX0_soaked 115 = .ok (.lload 7, 2) := by decide +kernel
theorem dX0_soaked_117 : decode cX0_soaked 117 = .ok (.lreturn, 1) := by decide +kernel
theorem dX0_soaked_118 : decode cX0_soaked 118 = .ok (.lload 7, 2) := by decide +kernel
theorem dX0_soaked_120 : decode cX0_soaked 120 = .ok (.lload 14, 2) := by decide +kernel
theorem dX0_soaked_122 : decode cX0_soaked 122 = .ok (.lor, 1) := by decide +kernel
theorem dX0_soaked_123 : decode cX0_soaked 123 = .ok (.lstore 7, 2) := by decide +kernel
theorem dX0_soaked_125 : decode cX0_soaked 125 = .ok (.iinc 9 1, 3) := by decide +kernel
theorem dX0_soaked_128 : decode cX0_soaked 128 = .ok (.goto (-113), 3) := by decide +kernel
theorem dX0_soaked_131 : decode cX0_soaked 131 = .ok (.lload 7, 2) := by decide +kernel
theorem dX0_soaked_133 : decode cX0_soaked 133 = .ok (.lreturn, 1) := by decide +kernel
theorem dX0_springsThatWet_0 : decode cX0_springsThatWet 0 = .ok (.iconst 0, 1) := by decide +kernel
theorem dX0_springsThatWet_1 : decode cX0_springsThatWet 1 = .ok (.istore_n 2, 1) := by decide +kernel
theorem dX0_springsThatWet_2 : decode cX0_springsThatWet 2 = .ok (.iconst 0, 1) := by decide +kernel
theorem dX0_springsThatWet_3 : decode cX0_springsThatWet 3 = .ok (.istore_n 3, 1) := by decide +kernel
theorem dX0_springsThatWet_4 : decode cX0_springsThatWet 4 = .ok (.iload_n 3, 1) := by decide +kernel
theorem dX0_springsThatWet_5 : decode cX0_springsThatWet 5 = .ok (.aload_n 0, 1) := by decide +kernel
theorem dX0_springsThatWet_6 : decode cX0_springsThatWet 6 = .ok (.getfield 68, 3) := by decide +kernel
theorem dX0_springsThatWet_9 : decode cX0_springsThatWet 9 = .ok (.if_icmp .ge 42, 3) := by decide +kernel
theorem dX0_springsThatWet_12 : decode cX0_springsThatWet 12 = .ok (.aload_n 0, 1) := by decide +kernel
theorem dX0_springsThatWet_13 : decode cX0_springsThatWet 13 = .ok (.getfield 49, 3) := by decide +kernel
theorem dX0_springsThatWet_16 : decode cX0_springsThatWet 16 = .ok (.iload_n 3, 1) := by decide +kernel
theorem dX0_springsThatWet_17 : decode cX0_springsThatWet 17 = .ok (.invokestatic 95, 3) := by decide +kernel
theorem dX0_springsThatWet_20 : decode cX0_springsThatWet 20 = .ok (.ifCond .eq 25, 3) := by decide +kernel
theorem dX0_springsThatWet_23 : decode cX0_springsThatWet 23 = .ok (.aload_n 0, 1) := by decide +kernel
theorem dX0_springsThatWet_24 : decode cX0_springsThatWet 24 = .ok (.aload_n 0, 1) := by decide +kernel
theorem dX0_springsThatWet_25 : decode cX0_springsThatWet 25 = .ok (.getfield 33, 3) := by decide +kernel
theorem dX0_springsThatWet_28 : decode cX0_springsThatWet 28 = .ok (.iload_n 3, 1) := by decide +kernel
theorem dX0_springsThatWet_29 : decode cX0_springsThatWet 29 = .ok (.invokestatic 80, 3) := by decide +kernel
theorem dX0_springsThatWet_32 : decode cX0_springsThatWet 32 = .ok (.invokevirtual 52, 3) := by decide +kernel
theorem dX0_springsThatWet_35 : decode cX0_springsThatWet 35 = .ok (.iload_n 1, 1) := by decide +kernel
theorem dX0_springsThatWet_36 : decode cX0_springsThatWet 36 = .ok (.invokestatic 95, 3) := by decide +kernel
theorem dX0_springsThatWet_39 : decode cX0_springsThatWet 39 = .ok (.ifCond .eq 6, 3) := by decide +kernel
theorem dX0_springsThatWet_42 : decode cX0_springsThatWet 42 = .ok (.iinc 2 1, 3) := by decide +kernel
theorem dX0_springsThatWet_45 : decode cX0_springsThatWet 45 = .ok (.iinc 3 1, 3) := by decide +kernel
theorem dX0_springsThatWet_48 : decode cX0_springsThatWet 48 = .ok (.goto (-44), 3) := by decide +kernel
theorem dX0_springsThatWet_51 : decode cX0_springsThatWet 51 = .ok (.iload_n 2, 1) := by decide +kernel
theorem dX0_springsThatWet_52 : decode cX0_springsThatWet 52 = .ok (.ireturn, 1) := by decide +kernel
theorem dX0_plugsFor_0 : decode cX0_plugsFor 0 = .ok (.aload_n 0, 1) := by decide +kernel
theorem dX0_plugsFor_1 : decode cX0_plugsFor 1 = .ok (.lconst 0, 1) := by decide +kernel
theorem dX0_plugsFor_2 : decode cX0_plugsFor 2 = .ok (.iload_n 1, 1) := by decide +kernel
theorem dX0_plugsFor_3 : decode cX0_plugsFor 3 = .ok (.invokevirtual 106, 3) := by decide +kernel
theorem dX0_plugsFor_6 : decode cX0_plugsFor 6 = .ok (.ifCond .eq 5, 3) := by decide +kernel
theorem dX0_plugsFor_9 : decode cX0_plugsFor 9 = .ok (.lconst 0, 1) := by decide +kernel
theorem dX0_plugsFor_10 : decode cX0_plugsFor 10 = .ok (.lreturn, 1) := by decide +kernel
theorem dX0_plugsFor_11 : decode cX0_plugsFor 11 = .ok (.aload_n 0, 1) := by decide +kernel
theorem dX0_plugsFor_12 : decode cX0_plugsFor 12 = .ok (.getfield 33, 3) := by decide +kernel
theorem dX0_plugsFor_15 : decode cX0_plugsFor 15 = .ok (.aload_n 0, 1) := by decide +kernel
theorem dX0_plugsFor_16 : decode cX0_plugsFor 16 = .ok (.getfield 49, 3) := by decide +kernel
theorem dX0_plugsFor_19 : decode cX0_plugsFor 19 = .ok (.ldc2_w 44, 3) := by decide +kernel
theorem dX0_plugsFor_22 : decode cX0_plugsFor 22 = .ok (.lxor, 1) := by decide +kernel
theorem dX0_plugsFor_23 : decode cX0_plugsFor 23 = .ok (.land, 1) := by decide +kernel
theorem dX0_plugsFor_24 : decode cX0_plugsFor 24 = .ok (.iload_n 1, 1) := by decide +kernel
theorem dX0_plugsFor_25 : decode cX0_plugsFor 25 = .ok (.invokestatic 80, 3) := by decide +kernel
theorem dX0_plugsFor_28 : decode cX0_plugsFor 28 = .ok (.ldc2_w 44, 3) := by decide +kernel
theorem dX0_plugsFor_31 : decode cX0_plugsFor 31 = .ok (.lxor, 1) := by decide +kernel
theorem dX0_plugsFor_32 : decode cX0_plugsFor 32 = .ok (.land, 1) := by decide +kernel
theorem dX0_plugsFor_33 : decode cX0_plugsFor 33 = .ok (.lstore_n 2, 1) := by decide +kernel
theorem dX0_plugsFor_34 : decode cX0_plugsFor 34 = .ok (.iconst 0, 1) := by decide +kernel
theorem dX0_plugsFor_35 : decode cX0_plugsFor 35 = .ok (.istore 4, 2) := by decide +kernel
theorem dX0_plugsFor_37 : decode cX0_plugsFor 37 = .ok (.iload 4, 2) := by decide +kernel
theorem dX0_plugsFor_39 : decode cX0_plugsFor 39 = .ok (.aload_n 0, 1) := by decide +kernel
theorem dX0_plugsFor_40 : decode cX0_plugsFor 40 = .ok (.getfield 68, 3) := by decide +kernel
theorem dX0_plugsFor_43 : decode cX0_plugsFor 43 = .ok (.if_icmp .ge 37, 3) := by decide +kernel
theorem dX0_plugsFor_46 : decode cX0_plugsFor 46 = .ok (.lload_n 2, 1) := by decide +kernel
theorem dX0_plugsFor_47 : decode cX0_plugsFor 47 = .ok (.iload 4, 2) := by decide +kernel
theorem dX0_plugsFor_49 : decode cX0_plugsFor 49 = .ok (.invokestatic 95, 3) := by decide +kernel
theorem dX0_plugsFor_52 : decode cX0_plugsFor 52 = .ok (.ifCond .eq 22, 3) := by decide +kernel
theorem dX0_plugsFor_55 : decode cX0_plugsFor 55 = .ok (.aload_n 0, 1) := by decide +kernel
theorem dX0_plugsFor_56 : decode cX0_plugsFor 56 = .ok (.iload 4, 2) := by decide +kernel
theorem dX0_plugsFor_58 : decode cX0_plugsFor 58 = .ok (.invokestatic 80, 3) := by decide +kernel
theorem dX0_plugsFor_61 : decode cX0_plugsFor 61 = .ok (.iload_n 1, 1) := by decide +kernel
theorem dX0_plugsFor_62 : decode cX0_plugsFor 62 = .ok (.invokevirtual 106, 3) := by decide +kernel
theorem dX0_plugsFor_65 : decode cX0_plugsFor 65 = .ok (.ifCond .eq 9, 3) := by decide +kernel
theorem dX0_plugsFor_68 : decode cX0_plugsFor 68 = .ok (.iload 4, 2) := by decide +kernel
theorem dX0_plugsFor_70 : decode cX0_plugsFor 70 = .ok (.invokestatic 80, 3) := by decide +kernel
theorem dX0_plugsFor_73 : decode cX0_plugsFor 73 = .ok (.lreturn, 1) := by decide +kernel
theorem dX0_plugsFor_74 : decode cX0_plugsFor 74 = .ok (.iinc 4 1, 3) := by decide +kernel
theorem dX0_plugsFor_77 : decode cX0_plugsFor 77 = .ok (.goto (-40), 3) := by decide +kernel
theorem dX0_plugsFor_80 : decode cX0_plugsFor 80 = .ok (.iconst 0, 1) := by decide +kernel
theorem dX0_plugsFor_81 : decode cX0_plugsFor 81 = .ok (.istore 4, 2) := by decide +kernel
theorem dX0_plugsFor_83 : decode cX0_plugsFor 83 = .ok (.iload 4, 2) := by decide +kernel
theorem dX0_plugsFor_85 : decode cX0_plugsFor 85 = .ok (.aload_n 0, 1) := by decide +kernel
theorem dX0_plugsFor_86 : decode cX0_plugsFor 86 = .ok (.getfield 68, 3) := by decide +kernel
theorem dX0_plugsFor_89 : decode cX0_plugsFor 89 = .ok (.if_icmp .ge 79, 3) := by decide +kernel
theorem dX0_plugsFor_92 : decode cX0_plugsFor 92 = .ok (.iload 4, 2) := by decide +kernel
theorem dX0_plugsFor_94 : decode cX0_plugsFor 94 = .ok (.iconst 1, 1) := by decide +kernel
theorem dX0_plugsFor_95 : decode cX0_plugsFor 95 = .ok (.iadd, 1) := by decide +kernel
theorem dX0_plugsFor_96 : decode cX0_plugsFor 96 = .ok (.istore 5, 2) := by decide +kernel
theorem dX0_plugsFor_98 : decode cX0_plugsFor 98 = .ok (.iload 5, 2) := by decide +kernel
theorem dX0_plugsFor_100 : decode cX0_plugsFor 100 = .ok (.aload_n 0, 1) := by decide +kernel
theorem dX0_plugsFor_101 : decode cX0_plugsFor 101 = .ok (.getfield 68, 3) := by decide +kernel
theorem dX0_plugsFor_104 : decode cX0_plugsFor 104 = .ok (.if_icmp .ge 58, 3) := by decide +kernel
theorem dX0_plugsFor_107 : decode cX0_plugsFor 107 = .ok (.lload_n 2, 1) := by decide +kernel
theorem dX0_plugsFor_108 : decode cX0_plugsFor 108 = .ok (.iload 4, 2) := by decide +kernel
theorem dX0_plugsFor_110 : decode cX0_plugsFor 110 = .ok (.invokestatic 95, 3) := by decide +kernel
theorem dX0_plugsFor_113 : decode cX0_plugsFor 113 = .ok (.ifCond .eq 49, 3) := by decide +kernel
theorem dX0_plugsFor_116 : decode cX0_plugsFor 116 = .ok (.lload_n 2, 1) := by decide +kernel
theorem dX0_plugsFor_117 : decode cX0_plugsFor 117 = .ok (.iload 5, 2) := by decide +kernel
theorem dX0_plugsFor_119 : decode cX0_plugsFor 119 = .ok (.invokestatic 95, 3) := by decide +kernel
theorem dX0_plugsFor_122 : decode cX0_plugsFor 122 = .ok (.ifCond .eq 34, 3) := by decide +kernel
theorem dX0_plugsFor_125 : decode cX0_plugsFor 125 = .ok (.aload_n 0, 1) := by decide +kernel
theorem dX0_plugsFor_126 : decode cX0_plugsFor 126 = .ok (.iload 4, 2) := by decide +kernel
theorem dX0_plugsFor_128 : decode cX0_plugsFor 128 = .ok (.invokestatic 80, 3) := by decide +kernel
theorem dX0_plugsFor_131 : decode cX0_plugsFor 131 = .ok (.iload 5, 2) := by decide +kernel
theorem dX0_plugsFor_133 : decode cX0_plugsFor 133 = .ok (.invokestatic 80, 3) := by decide +kernel
theorem dX0_plugsFor_136 : decode cX0_plugsFor 136 = .ok (.lor, 1) := by decide +kernel
theorem dX0_plugsFor_137 : decode cX0_plugsFor 137 = .ok (.iload_n 1, 1) := by decide +kernel
theorem dX0_plugsFor_138 : decode cX0_plugsFor 138 = .ok (.invokevirtual 106, 3) := by decide +kernel
theorem dX0_plugsFor_141 : decode cX0_plugsFor 141 = .ok (.ifCond .eq 15, 3) := by decide +kernel
theorem dX0_plugsFor_144 : decode cX0_plugsFor 144 = .ok (.iload 4, 2) := by decide +kernel
theorem dX0_plugsFor_146 : decode cX0_plugsFor 146 = .ok (.invokestatic 80, 3) := by decide +kernel
theorem dX0_plugsFor_149 : decode cX0_plugsFor 149 = .ok (.iload 5, 2) := by decide +kernel
theorem dX0_plugsFor_151 : decode cX0_plugsFor 151 = .ok (.invokestatic 80, 3) := by decide +kernel
theorem dX0_plugsFor_154 : decode cX0_plugsFor 154 = .ok (.lor, 1) := by decide +kernel
theorem dX0_plugsFor_155 : decode cX0_plugsFor 155 = .ok (.lreturn, 1) := by decide +kernel
theorem dX0_plugsFor_156 : decode cX0_plugsFor 156 = .ok (.iinc 5 1, 3) := by decide +kernel
theorem dX0_plugsFor_159 : decode cX0_plugsFor 159 = .ok (.goto (-61), 3) := by decide +kernel
theorem dX0_plugsFor_162 : decode cX0_plugsFor 162 = .ok (.iinc 4 1, 3) := by decide +kernel
theorem dX0_plugsFor_165 : decode cX0_plugsFor 165 = .ok (.goto (-82), 3) := by decide +kernel
theorem dX0_plugsFor_168 : decode cX0_plugsFor 168 = .ok (.ldc2_w 44, 3) := by decide +kernel
theorem dX0_plugsFor_171 : decode cX0_plugsFor 171 = .ok (.lreturn, 1) := by decide +kernel
theorem dX0_keepsDry_0 : decode cX0_keepsDry 0 = .ok (.aload_n 0, 1) := by decide +kernel
theorem dX0_keepsDry_1 : decode cX0_keepsDry 1 = .ok (.aload_n 0, 1) := by decide +kernel
theorem dX0_keepsDry_2 : decode cX0_keepsDry 2 = .ok (.getfield 33, 3) := by decide +kernel
theorem dX0_keepsDry_5 : decode cX0_keepsDry 5 = .ok (.lload_n 1, 1) := by decide +kernel
theorem dX0_keepsDry_6 : decode cX0_keepsDry 6 = .ok (.ldc2_w 44, 3) := by decide +kernel
theorem dX0_keepsDry_9 : decode cX0_keepsDry 9 = .ok (.lxor, 1) := by decide +kernel
theorem dX0_keepsDry_10 : decode cX0_keepsDry 10 = .ok (.land, 1) := by decide +kernel
theorem dX0_keepsDry_11 : decode cX0_keepsDry 11 = .ok (.aload_n 0, 1) := by decide +kernel
theorem dX0_keepsDry_12 : decode cX0_keepsDry 12 = .ok (.getfield 49, 3) := by decide +kernel
theorem dX0_keepsDry_15 : decode cX0_keepsDry 15 = .ok (.invokevirtual 52, 3) := by decide +kernel
theorem dX0_keepsDry_18 : decode cX0_keepsDry 18 = .ok (.iload_n 3, 1) := by decide +kernel
theorem dX0_keepsDry_19 : decode cX0_keepsDry 19 = .ok (.invokestatic 95, 3) := by decide +kernel
theorem dX0_keepsDry_22 : decode cX0_keepsDry 22 = .ok (.ifCond .ne 7, 3) := by decide +kernel
theorem dX0_keepsDry_25 : decode cX0_keepsDry 25 = .ok (.iconst 1, 1) := by decide +kernel
theorem dX0_keepsDry_26 : decode cX0_keepsDry 26 = .ok (.goto 4, 3) := by decide +kernel
theorem dX0_keepsDry_29 : decode cX0_keepsDry 29 = .ok (.iconst 0, 1) := by decide +kernel
theorem dX0_keepsDry_30 : decode cX0_keepsDry 30 = .ok (.ireturn, 1) := by decide +kernel
theorem dX1_init_0 : decode cX1_init 0 = .ok (.aload_n 0, 1) := by decide +kernel
theorem dX1_init_1 : decode cX1_init 1 = .ok (.invokespecial 3, 3) := by decide +kernel
theorem dX1_init_4 : decode cX1_init 4 = .ok (.aload_n 0, 1) := by decide +kernel
theorem dX1_init_5 : decode cX1_init 5 = .ok (.iconst 1, 1) := by decide +kernel
theorem dX1_init_6 : decode cX1_init 6 = .ok (.putfield 9, 3) := by decide +kernel
theorem dX1_init_9 : decode cX1_init 9 = .ok (.aload_n 0, 1) := by decide +kernel
theorem dX1_init_10 : decode cX1_init 10 = .ok (.bipush 48, 2) := by decide +kernel
theorem dX1_init_12 : decode cX1_init 12 = .ok (.newarray .int, 2) := by decide +kernel
theorem dX1_init_14 : decode cX1_init 14 = .ok (.putfield 15, 3) := by decide +kernel
theorem dX1_init_17 : decode cX1_init 17 = .ok (.return_, 1) := by decide +kernel
theorem dX1_begin_0 : decode cX1_begin 0 = .ok (.aload_n 0, 1) := by decide +kernel
theorem dX1_begin_1 : decode cX1_begin 1 = .ok (.iconst 0, 1) := by decide +kernel
theorem dX1_begin_2 : decode cX1_begin 2 = .ok (.putfield 9, 3) := by decide +kernel
theorem dX1_begin_5 : decode cX1_begin 5 = .ok (.aload_n 0, 1) := by decide +kernel
theorem dX1_begin_6 : decode cX1_begin 6 = .ok (.iload_n 1, 1) := by decide +kernel
theorem dX1_begin_7 : decode cX1_begin 7 = .ok (.putfield 19, 3) := by decide +kernel
theorem dX1_begin_10 : decode cX1_begin 10 = .ok (.aload_n 0, 1) := by decide +kernel
theorem dX1_begin_11 : decode cX1_begin 11 = .ok (.iload_n 2, 1) := by decide +kernel
theorem dX1_begin_12 : decode cX1_begin 12 = .ok (.putfield 23, 3) := by decide +kernel
theorem dX1_begin_15 : decode cX1_begin 15 = .ok (.iconst 0, 1) := by decide +kernel
theorem dX1_begin_16 : decode cX1_begin 16 = .ok (.istore_n 3, 1) := by decide +kernel
theorem dX1_begin_17 : decode cX1_begin 17 = .ok (.iload_n 3, 1) := by decide +kernel
theorem dX1_begin_18 : decode cX1_begin 18 = .ok (.bipush 48, 2) := by decide +kernel
theorem dX1_begin_20 : decode cX1_begin 20 = .ok (.if_icmp .ge 16, 3) := by decide +kernel
theorem dX1_begin_23 : decode cX1_begin 23 = .ok (.aload_n 0, 1) := by decide +kernel
theorem dX1_begin_24 : decode cX1_begin 24 = .ok (.getfield 15, 3) := by decide +kernel
theorem dX1_begin_27 : decode cX1_begin 27 = .ok (.iload_n 3, 1) := by decide +kernel
theorem dX1_begin_28 : decode cX1_begin 28 = .ok (.iconst 0, 1) := by decide +kernel
theorem dX1_begin_29 : decode cX1_begin 29 = .ok (.iastore, 1) := by decide +kernel
theorem dX1_begin_30 : decode cX1_begin 30 = .ok (.iinc 3 1, 3) := by decide +kernel
theorem dX1_begin_33 : decode cX1_begin 33 = .ok (.goto (-16), 3) := by decide +kernel
theorem dX1_begin_36 : decode cX1_begin 36 = .ok (.return_, 1) := by decide +kernel
theorem dX1_holds_0 : decode cX1_holds 0 = .ok (.iload_n 1, 1) := by decide +kernel
theorem dX1_holds_1 : decode cX1_holds 1 = .ok (.ifCond .lt 29, 3) := by decide +kernel
theorem dX1_holds_4 : decode cX1_holds 4 = .ok (.iload_n 2, 1) := by decide +kernel
theorem dX1_holds_5 : decode cX1_holds 5 = .ok (.ifCond .lt 25, 3) := by decide +kernel
theorem dX1_holds_8 : decode cX1_holds 8 = .ok (.iload_n 1, 1) := by decide +kernel
theorem dX1_holds_9 : decode cX1_holds 9 = .ok (.aload_n 0, 1) := by decide +kernel
theorem dX1_holds_10 : decode cX1_holds 10 = .ok (.getfield 23, 3) := by decide +kernel
theorem dX1_holds_13 : decode cX1_holds 13 = .ok (.if_icmp .gt 17, 3) := by decide +kernel
theorem dX1_holds_16 : decode cX1_holds 16 = .ok (.iload_n 2, 1) := by decide +kernel
theorem dX1_holds_17 : decode cX1_holds 17 = .ok (.aload_n 0, 1) := by decide +kernel
theorem dX1_holds_18 : decode cX1_holds 18 = .ok (.getfield 23, 3) := by decide +kernel
theorem dX1_holds_21 : decode cX1_holds 21 = .ok (.iload_n 1, 1) := by decide +kernel
theorem dX1_holds_22 : decode cX1_holds 22 = .ok (.isub, 1) := by decide +kernel
theorem dX1_holds_23 : decode cX1_holds 23 = .ok (.if_icmp .gt 7, 3) := by decide +kernel
theorem dX1_holds_26 : decode cX1_holds 26 = .ok (.iconst 1, 1) := by decide +kernel
theorem dX1_holds_27 : decode cX1_holds 27 = .ok (.goto 4, 3) := by decide +kernel
theorem dX1_holds_30 : decode cX1_holds 30 = .ok (.iconst 0, 1) := by decide +kernel
theorem dX1_holds_31 : decode cX1_holds 31 = .ok (.ireturn, 1) := by decide +kernel
theorem dX1_store_0 : decode cX1_store 0 = .ok (.aload_n 0, 1) := by decide +kernel
theorem dX1_store_1 : decode cX1_store 1 = .ok (.iload_n 1, 1) := by decide +kernel
theorem dX1_store_2 : decode cX1_store 2 = .ok (.iconst 1, 1) := by decide +kernel
theorem dX1_store_3 : decode cX1_store 3 = .ok (.invokevirtual 26, 3) := by decide +kernel
theorem dX1_store_6 : decode cX1_store 6 = .ok (.ifCond .ne 4, 3) := by decide +kernel
theorem dX1_store_9 : decode cX1_store 9 = .ok (.return_, 1) := by decide +kernel
theorem dX1_store_10 : decode cX1_store 10 = .ok (.aload_n 0, 1) := by decide +kernel
theorem dX1_store_11 : decode cX1_store 11 = .ok (.getfield 19, 3) := by decide +kernel
theorem dX1_store_14 : decode cX1_store 14 = .ok (.ifCond .ne 14, 3) := by decide +kernel
theorem dX1_store_17 : decode cX1_store 17 = .ok (.aload_n 0, 1) := by decide +kernel
theorem dX1_store_18 : decode cX1_store 18 = .ok (.getfield 15, 3) := by decide +kernel
theorem dX1_store_21 : decode cX1_store 21 = .ok (.iload_n 1, 1) := by decide +kernel
theorem dX1_store_22 : decode cX1_store 22 = .ok (.iload_n 2, 1) := by decide +kernel
theorem dX1_store_23 : decode cX1_store 23 = .ok (.i2b, 1) := by decide +kernel
theorem dX1_store_24 : decode cX1_store 24 = .ok (.iastore, 1) := by decide +kernel
theorem dX1_store_25 : decode cX1_store 25 = .ok (.goto 29, 3) := by decide +kernel
theorem dX1_store_28 : decode cX1_store 28 = .ok (.aload_n 0, 1) := by decide +kernel
theorem dX1_store_29 : decode cX1_store 29 = .ok (.getfield 19, 3) := by decide +kernel
theorem dX1_store_32 : decode cX1_store 32 = .ok (.iconst 1, 1) := by decide +kernel
theorem dX1_store_33 : decode cX1_store 33 = .ok (.if_icmp .ne 14, 3) := by decide +kernel
theorem dX1_store_36 : decode cX1_store 36 = .ok (.aload_n 0, 1) := by decide +kernel
theorem dX1_store_37 : decode cX1_store 37 = .ok (.getfield 15, 3) := by decide +kernel
theorem dX1_store_40 : decode cX1_store 40 = .ok (.iload_n 1, 1) := by decide +kernel
theorem dX1_store_41 : decode cX1_store 41 = .ok (.iload_n 2, 1) := by decide +kernel
theorem dX1_store_42 : decode cX1_store 42 = .ok (.i2s, 1) := by decide +kernel
theorem dX1_store_43 : decode cX1_store 43 = .ok (.iastore, 1) := by decide +kernel
theorem dX1_store_44 : decode cX1_store 44 = .ok (.goto 10, 3) := by decide +kernel
theorem dX1_store_47 : decode cX1_store 47 = .ok (.aload_n 0, 1) := by decide +kernel
theorem dX1_store_48 : decode cX1_store 48 = .ok (.getfield 15, 3) := by decide +kernel
theorem dX1_store_51 : decode cX1_store 51 = .ok (.iload_n 1, 1) := by decide +kernel
theorem dX1_store_52 : decode cX1_store 52 = .ok (.iload_n 2, 1) := by decide +kernel
theorem dX1_store_53 : decode cX1_store 53 = .ok (.iastore, 1) := by decide +kernel
theorem dX1_store_54 : decode cX1_store 54 = .ok (.return_, 1) := by decide +kernel
theorem dX2_init_0 : decode cX2_init 0 = .ok (.aload_n 0, 1) := by decide +kernel
theorem dX2_init_1 : decode cX2_init 1 = .ok (.invokespecial 3, 3) := by decide +kernel
theorem dX2_init_4 : decode cX2_init 4 = .ok (.aload_n 0, 1) := by decide +kernel
theorem dX2_init_5 : decode cX2_init 5 = .ok (.aload_n 1, 1) := by decide +kernel
theorem dX2_init_6 : decode cX2_init 6 = .ok (.putfield 9, 3) := by decide +kernel
theorem dX2_init_9 : decode cX2_init 9 = .ok (.aload_n 0, 1) := by decide +kernel
theorem dX2_init_10 : decode cX2_init 10 = .ok (.sipush 1225, 3) := by decide +kernel
theorem dX2_init_13 : decode cX2_init 13 = .ok (.newarray .int, 2) := by decide +kernel
theorem dX2_init_15 : decode cX2_init 15 = .ok (.putfield 15, 3) := by decide +kernel
theorem dX2_init_18 : decode cX2_init 18 = .ok (.return_, 1) := by decide +kernel
theorem dX2_renew_0 : decode cX2_renew 0 = .ok (.aload_n 0, 1) := by decide +kernel
theorem dX2_renew_1 : decode cX2_renew 1 = .ok (.iload_n 1, 1) := by decide +kernel
theorem dX2_renew_2 : decode cX2_renew 2 = .ok (.putfield 19, 3) := by decide +kernel
theorem dX2_renew_5 : decode cX2_renew 5 = .ok (.aload_n 0, 1) := by decide +kernel
theorem dX2_renew_6 : decode cX2_renew 6 = .ok (.lconst 0, 1) := by decide +kernel
theorem dX2_renew_7 : decode cX2_renew 7 = .ok (.putfield 23, 3) := by decide +kernel
theorem dX2_renew_10 : decode cX2_renew 10 = .ok (.return_, 1) := by decide +kernel
theorem dX2_between_0 : decode cX2_between 0 = .ok (.aload_n 0, 1) := by decide +kernel
theorem dX2_between_1 : decode cX2_between 1 = .ok (.getfield 9, 3) := by decide +kernel
theorem dX2_between_4 : decode cX2_between 4 = .ok (.iload_n 1, 1) := by decide +kernel
theorem dX2_between_5 : decode cX2_between 5 = .ok (.invokevirtual 27, 3) := by decide +kernel
theorem dX2_between_8 : decode cX2_between 8 = .ok (.ifCond .eq 14, 3) := by decide +kernel
theorem dX2_between_11 : decode cX2_between 11 = .ok (.aload_n 0, 1) := by decide +kernel
theorem dX2_between_12 : decode cX2_between 12 = .ok (.getfield 9, 3) := by decide +kernel
theorem dX2_between_15 : decode cX2_between 15 = .ok (.iload_n 2, 1) := by decide +kernel
theorem dX2_between_16 : decode cX2_between 16 = .ok (.invokevirtual 27, 3) := by decide +kernel
theorem dX2_between_19 : decode cX2_between 19 = .ok (.ifCond .ne 5, 3) := by decide +kernel
theorem dX2_between_22 : decode cX2_between 22 = .ok (.iconst (-1), 1) := by decide +kernel
theorem dX2_between_23 : decode cX2_between 23 = .ok (.ireturn, 1) := by decide +kernel
theorem dX2_between_24 : decode cX2_between 24 = .ok (.aload_n 0, 1) := by decide +kernel
theorem dX2_between_25 : decode cX2_between 25 = .ok (.getfield 23, 3) := by decide +kernel
theorem dX2_between_28 : decode cX2_between 28 = .ok (.iload_n 1, 1) := by decide +kernel
theorem dX2_between_29 : decode cX2_between 29 = .ok (.invokestatic 33, 3) := by decide +kernel
theorem dX2_between_32 : decode cX2_between 32 = .ok (.ifCond .ne 8, 3) := by decide +kernel
theorem dX2_between_35 : decode cX2_between 35 = .ok (.aload_n 0, 1) := by decide +kernel
theorem dX2_between_36 : decode cX2_between 36 = .ok (.iload_n 1, 1) := by decide +kernel
theorem dX2_between_37 : decode cX2_between 37 = .ok (.invokevirtual 37, 3) := by decide +kernel
theorem dX2_between_40 : decode cX2_between 40 = .ok (.aload_n 0, 1) := by decide +kernel
theorem dX2_between_41 : decode cX2_between 41 = .ok (.getfield 15, 3) := by decide +kernel
theorem dX2_between_44 : decode cX2_between 44 = .ok (.iload_n 1, 1) := by decide +kernel
theorem dX2_between_45 : decode cX2_between 45 = .ok (.bipush 35, 2) := by decide +kernel
theorem dX2_between_47 : decode cX2_between 47 = .ok (.imul, 1) := by decide +kernel
theorem dX2_between_48 : decode cX2_between 48 = .ok (.iload_n 2, 1) := by decide +kernel
theorem dX2_between_49 : decode cX2_between 49 = .ok (.iadd, 1) := by decide +kernel
theorem dX2_between_50 : decode cX2_between 50 = .ok (.iaload, 1) := by decide +kernel
theorem dX2_between_51 : decode cX2_between 51 = .ok (.ireturn, 1) := by decide +kernel
theorem dX2_measure_0 : decode cX2_measure 0 = .ok (.iload_n 1, 1) := by decide +kernel
theorem dX2_measure_1 : decode cX2_measure 1 = .ok (.bipush 35, 2) := by decide +kernel
theorem dX2_measure_3 : decode cX2_measure 3 = .ok (.imul, 1) := by decide +kernel
theorem dX2_measure_4 : decode cX2_measure 4 = .ok (.istore_n 2, 1) := by decide +kernel
theorem dX2_measure_5 : decode cX2_measure 5 = .ok (.iconst 0, 1) := by decide +kernel
theorem dX2_measure_6 : decode cX2_measure 6 = .ok (.istore_n 3, 1) := by decide +kernel
theorem dX2_measure_7 : decode cX2_measure 7 = .ok (.iload_n 3, 1) := by decide +kernel
theorem dX2_measure_8 : decode cX2_measure 8 = .ok (.bipush 35, 2) := by decide +kernel
theorem dX2_measure_10 : decode cX2_measure 10 = .ok (.if_icmp .ge 18, 3) := by decide +kernel
theorem dX2_measure_13 : decode cX2_measure 13 = .ok (.aload_n 0, 1) := by decide +kernel
theorem dX2_measure_14 : decode cX2_measure 14 = .ok (.getfield 15, 3) := by decide +kernel
theorem dX2_measure_17 : decode cX2_measure 17 = .ok (.iload_n 2, 1) := by decide +kernel
theorem dX2_measure_18 : decode cX2_measure 18 = .ok (.iload_n 3, 1) := by decide +kernel
theorem dX2_measure_19 : decode cX2_measure 19 = .ok (.iadd, 1) := by decide +kernel
theorem dX2_measure_20 : decode cX2_measure 20 = .ok (.iconst (-1), 1) := by decide +kernel
theorem dX2_measure_21 : decode cX2_measure 21 = .ok (.iastore, 1) := by decide +kernel
theorem dX2_measure_22 : decode cX2_measure 22 = .ok (.iinc 3 1, 3) := by decide +kernel
theorem dX2_measure_25 : decode cX2_measure 25 = .ok (.goto (-18), 3) := by decide +kernel
theorem dX2_measure_28 : decode cX2_measure 28 = .ok (.aload_n 0, 1) := by decide +kernel
theorem dX2_measure_29 : decode cX2_measure 29 = .ok (.getfield 9, 3) := by decide +kernel
theorem dX2_measure_32 : decode cX2_measure 32 = .ok (.getfield 41, 3) := by decide +kernel
theorem dX2_measure_35 : decode cX2_measure 35 = .ok (.iload_n 1, 1) := by decide +kernel
theorem dX2_measure_36 : decode cX2_measure 36 = .ok (.invokestatic 33, 3) := by decide +kernel
theorem dX2_measure_39 : decode cX2_measure 39 = .ok (.ifCond .eq 12, 3) := by decide +kernel
theorem dX2_measure_42 : decode cX2_measure 42 = .ok (.aload_n 0, 1) := by decide +kernel
theorem dX2_measure_43 : decode cX2_measure 43 = .ok (.getfield 15, 3) := by decide +kernel
theorem dX2_measure_46 : decode cX2_measure 46 = .ok (.iload_n 2, 1) := by decide +kernel
theorem dX2_measure_47 : decode cX2_measure 47 = .ok (.iload_n 1, 1) := by decide +kernel
theorem dX2_measure_48 : decode cX2_measure 48 = .ok (.iadd, 1) := by decide +kernel
theorem dX2_measure_49 : decode cX2_measure 49 = .ok (.iconst 0, 1) := by decide +kernel
theorem dX2_measure_50 : decode cX2_measure 50 = .ok (.iastore, 1) := by decide +kernel
theorem dX2_measure_51 : decode cX2_measure 51 = .ok (.iconst 1, 1) := by decide +kernel
theorem dX2_measure_52 : decode cX2_measure 52 = .ok (.istore_n 3, 1) := by decide +kernel
theorem dX2_measure_53 : decode cX2_measure 53 = .ok (.iconst 0, 1) := by decide +kernel
theorem dX2_measure_54 : decode cX2_measure 54 = .ok (.istore 4, 2) := by decide +kernel
theorem dX2_measure_56 : decode cX2_measure 56 = .ok (.iload 4, 2) := by decide +kernel
theorem dX2_measure_58 : decode cX2_measure 58 = .ok (.bipush 35, 2) := by decide +kernel
theorem dX2_measure_60 : decode cX2_measure 60 = .ok (.if_icmp .ge 19, 3) := by decide +kernel
theorem dX2_measure_63 : decode cX2_measure 63 = .ok (.iload_n 3, 1) := by decide +kernel
theorem dX2_measure_64 : decode cX2_measure 64 = .ok (.ifCond .eq 15, 3) := by decide +kernel
theorem dX2_measure_67 : decode cX2_measure 67 = .ok (.aload_n 0, 1) := by decide +kernel
theorem dX2_measure_68 : decode cX2_measure 68 = .ok (.iload_n 2, 1) := by decide +kernel
theorem dX2_measure_69 : decode cX2_measure 69 = .ok (.invokevirtual 44, 3) := by decide +kernel
theorem dX2_measure_72 : decode cX2_measure 72 = .ok (.istore_n 3, 1) := by decide +kernel
theorem dX2_measure_73 : decode cX2_measure 73 = .ok (.iinc 4 1, 3) := by decide +kernel
theorem dX2_measure_76 : decode cX2_measure 76 = .ok (.goto (-20), 3) := by decide +kernel
theorem dX2_measure_79 : decode cX2_measure 79 = .ok (.aload_n 0, 1) := by decide +kernel
theorem dX2_measure_80 : decode cX2_measure 80 = .ok (.dup, 1) := by decide +kernel
theorem dX2_measure_81 : decode cX2_measure 81 = .ok (.getfield 23, 3) := by decide +kernel
theorem dX2_measure_84 : decode cX2_measure 84 = .ok (.iload_n 1, 1) := by decide +kernel
theorem dX2_measure_85 : decode cX2_measure 85 = .ok (.invokestatic 47, 3) := by decide +kernel
theorem dX2_measure_88 : decode cX2_measure 88 = .ok (.lor, 1) := by decide +kernel
theorem dX2_measure_89 : decode cX2_measure 89 = .ok (.putfield 23, 3) := by decide +kernel
theorem dX2_measure_92 : decode cX2_measure 92 = .ok (.return_, 1) := by decide +kernel
theorem dX2_goOn_0 : decode cX2_goOn 0 = .ok (.iconst 0, 1) := by decide +kernel
theorem dX2_goOn_1 : decode cX2_goOn 1 = .ok (.istore_n 2, 1) := by decide +kernel
theorem dX2_goOn_2 : decode cX2_goOn 2 = .ok (.iconst 0, 1) := by decide +kernel
theorem dX2_goOn_3 : decode cX2_goOn 3 = .ok (.istore_n 3, 1) := by decide +kernel
theorem dX2_goOn_4 : decode cX2_goOn 4 = .ok (.iload_n 3, 1) := by decide +kernel
theorem dX2_goOn_5 : decode cX2_goOn 5 = .ok (.aload_n 0, 1) := by decide +kernel
theorem dX2_goOn_6 : decode cX2_goOn 6 = .ok (.getfield 9, 3) := by decide +kernel
theorem dX2_goOn_9 : decode cX2_goOn 9 = .ok (.getfield 51, 3) := by decide +kernel
theorem dX2_goOn_12 : decode cX2_goOn 12 = .ok (.if_icmp .ge 113, 3) := by decide +kernel
theorem dX2_goOn_15 : decode cX2_goOn 15 = .ok (.iload_n 3, 1) := by decide +kernel
theorem dX2_goOn_16 : decode cX2_goOn 16 = .ok (.bipush 35, 2) := by decide +kernel
theorem dX2_goOn_18 : decode cX2_goOn 18 = .ok (.if_icmp .ge 107, 3) := by decide +kernel
theorem dX2_goOn_21 : decode cX2_goOn 21 = .ok (.aload_n 0, 1) := by decide +kernel
theorem dX2_goOn_22 : decode cX2_goOn 22 = .ok (.getfield 15, 3) := by decide +kernel
theorem dX2_goOn_25 : decode cX2_goOn 25 = .ok (.iload_n 1, 1) := by decide +kernel
theorem dX2_goOn_26 : decode cX2_goOn 26 = .ok (.iload_n 3, 1) := by decide +kernel
theorem dX2_goOn_27 : decode cX2_goOn 27 = .ok (.iadd, 1) := by decide +kernel
theorem dX2_goOn_28 : decode cX2_goOn 28 = .ok (.iaload, 1) := by decide +kernel
theorem dX2_goOn_29 : decode cX2_goOn 29 = .ok (.istore 4, 2) := by decide +kernel
theorem dX2_goOn_31 : decode cX2_goOn 31 = .ok (.iconst 0, 1) := by decide +kernel
theorem dX2_goOn_32 : decode cX2_goOn 32 = .ok (.istore 5, 2) := by decide +kernel
theorem dX2_goOn_34 : decode cX2_goOn 34 = .ok (.iload 5, 2) := by decide +kernel
theorem dX2_goOn_36 : decode cX2_goOn 36 = .ok (.iconst 4, 1) := by decide +kernel
theorem dX2_goOn_37 : decode cX2_goOn 37 = .ok (.if_icmp .ge 82, 3) := by decide +kernel
theorem dX2_goOn_40 : decode cX2_goOn 40 = .ok (.iload 4, 2) := by decide +kernel
theorem dX2_goOn_42 : decode cX2_goOn 42 = .ok (.iconst (-1), 1) := by decide +kernel
theorem dX2_goOn_43 : decode cX2_goOn 43 = .ok (.if_icmp .eq 76, 3) := by decide +kernel
theorem dX2_goOn_46 : decode cX2_goOn 46 = .ok (.aload_n 0, 1) := by decide +kernel
theorem dX2_goOn_47 : decode cX2_goOn 47 = .ok (.getfield 9, 3) := by decide +kernel
theorem dX2_goOn_50 : decode cX2_goOn 50 = .ok (.iload_n 3, 1) := by decide +kernel
theorem dX2_goOn_51 : decode cX2_goOn 51 = .ok (.iload 5, 2) := by decide +kernel
theorem dX2_goOn_53 : decode cX2_goOn 53 = .ok (.invokevirtual 54, 3) := by decide +kernel
theorem dX2_goOn_56 : decode cX2_goOn 56 = .ok (.istore 6, 2) := by decide +kernel
theorem dX2_goOn_58 : decode cX2_goOn 58 = .ok (.iload 4, 2) := by decide +kernel
theorem dX2_goOn_60 : decode cX2_goOn 60 = .ok (.aload_n 0, 1) := by decide +kernel
theorem dX2_goOn_61 : decode cX2_goOn 61 = .ok (.getfield 9, 3) := by decide +kernel
theorem dX2_goOn_64 : decode cX2_goOn 64 = .ok (.iload_n 3, 1) := by decide +kernel
theorem dX2_goOn_65 : decode cX2_goOn 65 = .ok (.iload 5, 2) := by decide +kernel
theorem dX2_goOn_67 : decode cX2_goOn 67 = .ok (.aload_n 0, 1) := by decide +kernel
theorem dX2_goOn_68 : decode cX2_goOn 68 = .ok (.getfield 19, 3) := by decide +kernel
theorem dX2_goOn_71 : decode cX2_goOn 71 = .ok (.invokevirtual 58, 3) := by decide +kernel
theorem dX2_goOn_74 : decode cX2_goOn 74 = .ok (.iadd, 1) := by decide +kernel
theorem dX2_goOn_75 : decode cX2_goOn 75 = .ok (.istore 7, 2) := by decide +kernel
theorem dX2_goOn_77 : decode cX2_goOn 77 = .ok (.iload 6, 2) := by decide +kernel
theorem dX2_goOn_79 : decode cX2_goOn 79 = .ok (.iconst (-1), 1) := by decide +kernel
theorem dX2_goOn_80 : decode cX2_goOn 80 = .ok (.if_icmp .eq 33, 3) := by decide +kernel
theorem dX2_goOn_83 : decode cX2_goOn 83 = .ok (.iload 7, 2) := by decide +kernel
theorem dX2_goOn_85 : decode cX2_goOn 85 = .ok (.aload_n 0, 1) := by decide +kernel
theorem dX2_goOn_86 : decode cX2_goOn 86 = .ok (.getfield 15, 3) := by decide +kernel
theorem dX2_goOn_89 : decode cX2_goOn 89 = .ok (.iload_n 1, 1) := by decide +kernel
theorem dX2_goOn_90 : decode cX2_goOn 90 = .ok (.iload 6, 2) := by decide +kernel
theorem dX2_goOn_92 : decode cX2_goOn 92 = .ok (.iadd, 1) := by decide +kernel
theorem dX2_goOn_93 : decode cX2_goOn 93 = .ok (.iaload, 1) := by decide +kernel
theorem dX2_goOn_94 : decode cX2_goOn 94 = .ok (.invokestatic 62, 3) := by decide +kernel
theorem dX2_goOn_97 : decode cX2_goOn 97 = .ok (.ifCond .eq 16, 3) := by decide +kernel
theorem dX2_goOn_100 : decode cX2_goOn 100 = .ok (.aload_n 0, 1) := by decide +kernel
theorem dX2_goOn_101 : decode cX2_goOn 101 = .ok (.getfield 15, 3) := by decide +kernel
theorem dX2_goOn_104 : decode cX2_goOn 104 = .ok (.iload_n 1, 1) := by decide +kernel
theorem dX2_goOn_105 : decode cX2_goOn 105 = .ok (.iload 6, 2) := by decide +kernel
theorem dX2_goOn_107 : decode cX2_goOn 107 = .ok (.iadd, 1) := by decide +kernel
theorem dX2_goOn_108 : decode cX2_goOn 108 = .ok (.iload 7, 2) := by decide +kernel
theorem dX2_goOn_110 : decode cX2_goOn 110 = .ok (.iastore, 1) := by decide +kernel
theorem dX2_goOn_111 : decode cX2_goOn 111 = .ok (.iconst 1, 1) := by decide +kernel
theorem dX2_goOn_112 : decode cX2_goOn 112 = .ok (.istore_n 2, 1) := by decide +kernel
theorem dX2_goOn_113 : decode cX2_goOn 113 = .ok (.iinc 5 1, 3) := by decide +kernel
theorem dX2_goOn_116 : decode cX2_goOn 116 = .ok (.goto (-82), 3) := by decide +kernel
theorem dX2_goOn_119 : decode cX2_goOn 119 = .ok (.iinc 3 1, 3) := by decide +kernel
theorem dX2_goOn_122 : decode cX2_goOn 122 = .ok (.goto (-118), 3) := by decide +kernel
theorem dX2_goOn_125 : decode cX2_goOn 125 = .ok (.iload_n 2, 1) := by decide +kernel
theorem dX2_goOn_126 : decode cX2_goOn 126 = .ok (.ireturn, 1) := by decide +kernel
theorem dX2_isSooner_0 : decode cX2_isSooner 0 = .ok (.iload_n 1, 1) := by decide +kernel
theorem dX2_isSooner_1 : decode cX2_isSooner 1 = .ok (.iconst (-1), 1) := by decide +kernel
theorem dX2_isSooner_2 : decode cX2_isSooner 2 = .ok (.if_icmp .eq 8, 3) := by decide +kernel
theorem dX2_isSooner_5 : decode cX2_isSooner 5 = .ok (.iload_n 0, 1) := by decide +kernel
theorem dX2_isSooner_6 : decode cX2_isSooner 6 = .ok (.iload_n 1, 1) := by decide +kernel
theorem dX2_isSooner_7 : decode cX2_isSooner 7 = .ok (.if_icmp .ge 7, 3) := by decide +kernel
theorem dX2_isSooner_10 : decode cX2_isSooner 10 = .ok (.iconst 1, 1) := by decide +kernel
theorem dX2_isSooner_11 : decode cX2_isSooner 11 = .ok (.goto 4, 3) := by decide +kernel
theorem dX2_isSooner_14 : decode cX2_isSooner 14 = .ok (.iconst 0, 1) := by decide +kernel
theorem dX2_isSooner_15 : decode cX2_isSooner 15 = .ok (.ireturn, 1) := by decide +kernel
theorem dX3_init_0 : decode cX3_init 0 = .ok (.aload_n 0, 1) := by decide +kernel
theorem dX3_init_1 : decode cX3_init 1 = .ok (.invokespecial 1, 3) := by decide +kernel
theorem dX3_init_4 : decode cX3_init 4 = .ok (.aload_n 0, 1) := by decide +kernel
theorem dX3_init_5 : decode cX3_init 5 = .ok (.bipush 39, 2) := by decide +kernel
theorem dX3_init_7 : decode cX3_init 7 = .ok (.newarray .int, 2) := by decide +kernel
theorem dX3_init_9 : decode cX3_init 9 = .ok (.putfield 9, 3) := by decide +kernel
theorem dX3_init_12 : decode cX3_init 12 = .ok (.aload_n 0, 1) := by decide +kernel
theorem dX3_init_13 : decode cX3_init 13 = .ok (.iconst 2, 1) := by decide +kernel
theorem dX3_init_14 : decode cX3_init 14 = .ok (.putfield 13, 3) := by decide +kernel
theorem dX3_init_17 : decode cX3_init 17 = .ok (.aload_n 0, 1) := by decide +kernel
theorem dX3_init_18 : decode cX3_init 18 = .ok (.iconst 2, 1) := by decide +kernel
theorem dX3_init_19 : decode cX3_init 19 = .ok (.putfield 17, 3) := by decide +kernel
theorem dX3_init_22 : decode cX3_init 22 = .ok (.aload_n 0, 1) := by decide +kernel
theorem dX3_init_23 : decode cX3_init 23 = .ok (.bipush 8, 2) := by decide +kernel
theorem dX3_init_25 : decode cX3_init 25 = .ok (.newarray .int, 2) := by decide +kernel
theorem dX3_init_27 : decode cX3_init 27 = .ok (.putfield 20, 3) := by decide +kernel
theorem dX3_init_30 : decode cX3_init 30 = .ok (.aload_n 0, 1) := by decide +kernel
theorem dX3_init_31 : decode cX3_init 31 = .ok (.bipush 8, 2) := by decide +kernel
theorem dX3_init_33 : decode cX3_init 33 = .ok (.newarray .int, 2) := by decide +kernel
theorem dX3_init_35 : decode cX3_init 35 = .ok (.putfield 23, 3) := by decide +kernel
theorem dX3_init_38 : decode cX3_init 38 = .ok (.aload_n 0, 1) := by decide +kernel
theorem dX3_init_39 : decode cX3_init 39 = .ok (.bipush 63, 2) := by decide +kernel
theorem dX3_init_41 : decode cX3_init 41 = .ok (.putfield 26, 3) := by decide +kernel
theorem dX3_init_44 : decode cX3_init 44 = .ok (.aload_n 0, 1) := by decide +kernel
theorem dX3_init_45 : decode cX3_init 45 = .ok (.iconst 4, 1) := by decide +kernel
theorem dX3_init_46 : decode cX3_init 46 = .ok (.anewarray 29, 3) := by decide +kernel
theorem dX3_init_49 : decode cX3_init 49 = .ok (.putfield 31, 3) := by decide +kernel
theorem dX3_init_52 : decode cX3_init 52 = .ok (.iconst 0, 1) := by decide +kernel
theorem dX3_init_53 : decode cX3_init 53 = .ok (.istore_n 1, 1) := by decide +kernel
theorem dX3_init_54 : decode cX3_init 54 = .ok (.iload_n 1, 1) := by decide +kernel
theorem dX3_init_55 : decode cX3_init 55 = .ok (.iconst 4, 1) := by decide +kernel
theorem dX3_init_56 : decode cX3_init 56 = .ok (.if_icmp .ge 22, 3) := by decide +kernel
theorem dX3_init_59 : decode cX3_init 59 = .ok (.aload_n 0, 1) := by decide +kernel
theorem dX3_init_60 : decode cX3_init 60 = .ok (.getfield 31, 3) := by decide +kernel
theorem dX3_init_63 : decode cX3_init 63 = .ok (.iload_n 1, 1) := by decide +kernel
theorem dX3_init_64 : decode cX3_init 64 = .ok (.new 29, 3) := by decide +kernel
theorem dX3_init_67 : decode cX3_init 67 = .ok (.dup, 1) := by decide +kernel
theorem dX3_init_68 : decode cX3_init 68 = .ok (.invokespecial 35, 3) := by decide +kernel
theorem dX3_init_71 : decode cX3_init 71 = .ok (.aastore, 1) := by decide +kernel
theorem dX3_init_72 : decode cX3_init 72 = .ok (.iinc 1 1, 3) := by decide +kernel
theorem dX3_init_75 : decode cX3_init 75 = .ok (.goto (-21), 3) := by decide +kernel
theorem dX3_init_78 : decode cX3_init 78 = .ok (.aload_n 0, 1) := by decide +kernel
theorem dX3_init_79 : decode cX3_init 79 = .ok (.new 36, 3) := by decide +kernel
theorem dX3_init_82 : decode cX3_init 82 = .ok (.dup, 1) := by decide +kernel
theorem dX3_init_83 : decode cX3_init 83 = .ok (.invokespecial 38, 3) := by decide +kernel
theorem dX3_init_86 : decode cX3_init 86 = .ok (.putfield 39, 3) := by decide +kernel
theorem dX3_init_89 : decode cX3_init 89 = .ok (.aload_n 0, 1) := by decide +kernel
theorem dX3_init_90 : decode cX3_init 90 = .ok (.new 43, 3) := by decide +kernel
theorem dX3_init_93 : decode cX3_init 93 = .ok (.dup, 1) := by decide +kernel
theorem dX3_init_94 : decode cX3_init 94 = .ok (.aload_n 0, 1) := by decide +kernel
theorem dX3_init_95 : decode cX3_init 95 = .ok (.getfield 39, 3) := by decide +kernel
theorem dX3_init_98 : decode cX3_init 98 = .ok (.invokespecial 45, 3) := by decide +kernel
theorem dX3_init_101 : decode cX3_init 101 = .ok (.putfield 48, 3) := by decide +kernel
theorem dX3_init_104 : decode cX3_init 104 = .ok (.aload_n 0, 1) := by decide +kernel
theorem dX3_init_105 : decode cX3_init 105 = .ok (.invokevirtual 52, 3) := by decide +kernel
theorem dX3_init_108 : decode cX3_init 108 = .ok (.return_, 1) := by decide +kernel
theorem dX3_type_0 : decode cX3_type 0 = .ok (.iload_n 1, 1) := by decide +kernel
theorem dX3_type_1 : decode cX3_type 1 = .ok (.ifCond .lt 10, 3) := by decide +kernel
theorem dX3_type_4 : decode cX3_type 4 = .ok (.iload_n 1, 1) := by decide +kernel
theorem dX3_type_5 : decode cX3_type 5 = .ok (.sipush 255, 3) := by decide +kernel
theorem dX3_type_8 : decode cX3_type 8 = .ok (.if_icmp .le 6, 3) := by decide +kernel
theorem dX3_type_11 : decode cX3_type 11 = .ok (.bipush (-2), 2) := by decide +kernel
theorem dX3_type_13 : decode cX3_type 13 = .ok (.ireturn, 1) := by decide +kernel
theorem dX3_type_14 : decode cX3_type 14 = .ok (.aload_n 0, 1) := by decide +kernel
theorem dX3_type_15 : decode cX3_type 15 = .ok (.getfield 55, 3) := by decide +kernel
theorem dX3_type_18 : decode cX3_type 18 = .ok (.bipush 39, 2) := by decide +kernel
theorem dX3_type_20 : decode cX3_type 20 = .ok (.if_icmp .lt 6, 3) := by decide +kernel
theorem dX3_type_23 : decode cX3_type 23 = .ok (.bipush (-4), 2) := by decide +kernel
theorem dX3_type_25 : decode cX3_type 25 = .ok (.ireturn, 1) := by decide +kernel
theorem dX3_type_26 : decode cX3_type 26 = .ok (.aload_n 0, 1) := by decide +kernel
theorem dX3_type_27 : decode cX3_type 27 = .ok (.getfield 9, 3) := by decide +kernel
theorem dX3_type_30 : decode cX3_type 30 = .ok (.aload_n 0, 1) := by decide +kernel
theorem dX3_type_31 : decode cX3_type 31 = .ok (.getfield 55, 3) := by decide +kernel
theorem dX3_type_34 : decode cX3_type 34 = .ok (.iload_n 1, 1) := by decide +kernel
theorem dX3_type_35 : decode cX3_type 35 = .ok (.iastore, 1) := by decide +kernel
theorem dX3_type_36 : decode cX3_type 36 = .ok (.aload_n 0, 1) := by decide +kernel
theorem dX3_type_37 : decode cX3_type 37 = .ok (.dup, 1) := by decide +kernel
theorem dX3_type_38 : decode cX3_type 38 = .ok (.getfield 55, 3) := by decide +kernel
theorem dX3_type_41 : decode cX3_type 41 = .ok (.iconst 1, 1) := by decide +kernel
theorem dX3_type_42 : decode cX3_type 42 = .ok (.iadd, 1) := by decide +kernel
theorem dX3_type_43 : decode cX3_type 43 = .ok (.putfield 55, 3) := by decide +kernel
theorem dX3_type_46 : decode cX3_type 46 = .ok (.aload_n 0, 1) := by decide +kernel
theorem dX3_type_47 : decode cX3_type 47 = .ok (.invokevirtual 52, 3) := by decide +kernel
theorem dX3_type_50 : decode cX3_type 50 = .ok (.aload_n 0, 1) := by decide +kernel
theorem dX3_type_51 : decode cX3_type 51 = .ok (.getfield 55, 3) := by decide +kernel
theorem dX3_type_54 : decode cX3_type 54 = .ok (.ireturn, 1) := by decide +kernel
theorem dX3_wipe_0 : decode cX3_wipe 0 = .ok (.aload_n 0, 1) := by decide +kernel
theorem dX3_wipe_1 : decode cX3_wipe 1 = .ok (.getfield 55, 3) := by decide +kernel
theorem dX3_wipe_4 : decode cX3_wipe 4 = .ok (.istore_n 1, 1) := by decide +kernel
theorem dX3_wipe_5 : decode cX3_wipe 5 = .ok (.aload_n 0, 1) := by decide +kernel
theorem dX3_wipe_6 : decode cX3_wipe 6 = .ok (.iconst 0, 1) := by decide +kernel
theorem dX3_wipe_7 : decode cX3_wipe 7 = .ok (.putfield 55, 3) := by decide +kernel
theorem dX3_wipe_10 : decode cX3_wipe 10 = .ok (.aload_n 0, 1) := by decide +kernel
theorem dX3_wipe_11 : decode cX3_wipe 11 = .ok (.invokevirtual 52, 3) := by decide +kernel
theorem dX3_wipe_14 : decode cX3_wipe 14 = .ok (.iload_n 1, 1) := by decide +kernel
theorem dX3_wipe_15 : decode cX3_wipe 15 = .ok (.ireturn, 1) := by decide +kernel
theorem dX3_undo_0 : decode cX3_undo 0 = .ok (.aload_n 0, 1) := by decide +kernel
theorem dX3_undo_1 : decode cX3_undo 1 = .ok (.getfield 55, 3) := by decide +kernel
theorem dX3_undo_4 : decode cX3_undo 4 = .ok (.ifCond .gt 6, 3) := by decide +kernel
theorem dX3_undo_7 : decode cX3_undo 7 = .ok (.bipush (-3), 2) := by decide +kernel
theorem dX3_undo_9 : decode cX3_undo 9 = .ok (.ireturn, 1) := by decide +kernel
theorem dX3_undo_10 : decode cX3_undo 10 = .ok (.aload_n 0, 1) := by decide +kernel
theorem dX3_undo_11 : decode cX3_undo 11 = .ok (.dup, 1) := by decide +kernel
theorem dX3_undo_12 : decode cX3_undo 12 = .ok (.getfield 55, 3) := by decide +kernel
theorem dX3_undo_15 : decode cX3_undo 15 = .ok (.iconst 1, 1) := by decide +kernel
theorem dX3_undo_16 : decode cX3_undo 16 = .ok (.isub, 1) := by decide +kernel
theorem dX3_undo_17 : decode cX3_undo 17 = .ok (.putfield 55, 3) := by decide +kernel
theorem dX3_undo_20 : decode cX3_undo 20 = .ok (.aload_n 0, 1) := by decide +kernel
theorem dX3_undo_21 : decode cX3_undo 21 = .ok (.invokevirtual 52, 3) := by decide +kernel
theorem dX3_undo_24 : decode cX3_undo 24 = .ok (.aload_n 0, 1) := by decide +kernel
theorem dX3_undo_25 : decode cX3_undo 25 = .ok (.getfield 55, 3) := by decide +kernel
theorem dX3_undo_28 : decode cX3_undo 28 = .ok (.ireturn, 1) := by decide +kernel
theorem dX3_fault_0 : decode cX3_fault 0 = .ok (.aload_n 0, 1) := by decide +kernel
theorem dX3_fault_1 : decode cX3_fault 1 = .ok (.getfield 39, 3) := by decide +kernel
theorem dX3_fault_4 : decode cX3_fault 4 = .ok (.getfield 58, 3) := by decide +kernel
theorem dX3_fault_7 : decode cX3_fault 7 = .ok (.ireturn, 1) := by decide +kernel
theorem dX3_cell_0 : decode cX3_cell 0 = .ok (.aload_n 0, 1) := by decide +kernel
theorem dX3_cell_1 : decode cX3_cell 1 = .ok (.getfield 39, 3) := by decide +kernel
theorem dX3_cell_4 : decode cX3_cell 4 = .ok (.iload_n 1, 1) := by decide +kernel
theorem dX3_cell_5 : decode cX3_cell 5 = .ok (.invokevirtual 61, 3) := by decide +kernel
theorem dX3_cell_8 : decode cX3_cell 8 = .ok (.ifCond .eq 12, 3) := by decide +kernel
theorem dX3_cell_11 : decode cX3_cell 11 = .ok (.iload_n 2, 1) := by decide +kernel
theorem dX3_cell_12 : decode cX3_cell 12 = .ok (.ifCond .lt 8, 3) := by decide +kernel
theorem dX3_cell_15 : decode cX3_cell 15 = .ok (.iload_n 2, 1) := by decide +kernel
theorem dX3_cell_16 : decode cX3_cell 16 = .ok (.iconst 2, 1) := by decide +kernel
theorem dX3_cell_17 : decode cX3_cell 17 = .ok (.if_icmp .le 6, 3) := by decide +kernel
theorem dX3_cell_20 : decode cX3_cell 20 = .ok (.bipush (-2), 2) := by decide +kernel
theorem dX3_cell_22 : decode cX3_cell 22 = .ok (.ireturn, 1) := by decide +kernel
theorem dX3_cell_23 : decode cX3_cell 23 = .ok (.iload_n 2, 1) := by decide +kernel
theorem dX3_cell_24 : decode cX3_cell 24 = .ok (.ifCond .ne 12, 3) := by decide +kernel
theorem dX3_cell_27 : decode cX3_cell 27 = .ok (.aload_n 0, 1) := by decide +kernel
theorem dX3_cell_28 : decode cX3_cell 28 = .ok (.getfield 39, 3) := by decide +kernel
theorem dX3_cell_31 : decode cX3_cell 31 = .ok (.iload_n 1, 1) := by decide +kernel
theorem dX3_cell_32 : decode cX3_cell 32 = .ok (.invokevirtual 65, 3) := by decide +kernel
theorem dX3_cell_35 : decode cX3_cell 35 = .ok (.ireturn, 1) := by decide +kernel
theorem dX3_cell_36 : decode cX3_cell 36 = .ok (.iload_n 2, 1) := by decide +kernel
theorem dX3_cell_37 : decode cX3_cell 37 = .ok (.iconst 1, 1) := by decide +kernel
theorem dX3_cell_38 : decode cX3_cell 38 = .ok (.if_icmp .ne 13, 3) := by decide +kernel
theorem dX3_cell_41 : decode cX3_cell 41 = .ok (.aload_n 0, 1) := by decide +kernel
theorem dX3_cell_42 : decode cX3_cell 42 = .ok (.getfield 39, 3) := by decide +kernel
theorem dX3_cell_45 : decode cX3_cell 45 = .ok (.getfield 69, 3) := by decide +kernel
theorem dX3_cell_48 : decode cX3_cell 48 = .ok (.goto 10, 3) := by decide +kernel
theorem dX3_cell_51 : decode cX3_cell 51 = .ok (.aload_n 0, 1) := by decide +kernel
theorem dX3_cell_52 : decode cX3_cell 52 = .ok (.getfield 39, 3) := by decide +kernel
theorem dX3_cell_55 : decode cX3_cell 55 = .ok (.getfield 73, 3) := by decide +kernel
theorem dX3_cell_58 : decode cX3_cell 58 = .ok (.iload_n 1, 1) := by decide +kernel
theorem dX3_cell_59 : decode cX3_cell 59 = .ok (.invokestatic 76, 3) := by decide +kernel
theorem dX3_cell_62 : decode cX3_cell 62 = .ok (.invokestatic 80, 3) := by decide +kernel
theorem dX3_cell_65 : decode cX3_cell 65 = .ok (.ireturn, 1) := by decide +kernel
theorem dX3_set_0 : decode cX3_set 0 = .ok (.iload_n 1, 1) := by decide +kernel
theorem dX3_set_1 : decode cX3_set 1 = .ok (.ifCond .ne 28, 3) := by decide +kernel
theorem dX3_set_4 : decode cX3_set 4 = .ok (.iload_n 2, 1) := by decide +kernel
theorem dX3_set_5 : decode cX3_set 5 = .ok (.ifCond .lt 24, 3) := by decide +kernel
theorem dX3_set_8 : decode cX3_set 8 = .ok (.iload_n 2, 1) := by decide +kernel
theorem dX3_set_9 : decode cX3_set 9 = .ok (.iconst 5, 1) := by decide +kernel
theorem dX3_set_10 : decode cX3_set 10 = .ok (.if_icmp .gt 19, 3) := by decide +kernel
theorem dX3_set_13 : decode cX3_set 13 = .ok (.aload_n 0, 1) := by decide +kernel
theorem dX3_set_14 : decode cX3_set 14 = .ok (.getfield 13, 3) := by decide +kernel
theorem dX3_set_17 : decode cX3_set 17 = .ok (.istore_n 3, 1) := by decide +kernel
theorem dX3_set_18 : decode cX3_set 18 = .ok (.aload_n 0, 1) := by decide +kernel
theorem dX3_set_19 : decode cX3_set 19 = .ok (.iload_n 2, 1) := by decide +kernel
theorem dX3_set_20 : decode cX3_set 20 = .ok (.putfield 13, 3) := by decide +kernel
theorem dX3_set_23 : decode cX3_set 23 = .ok (.aload_n 0, 1) := by decide +kernel
theorem dX3_set_24 : decode cX3_set 24 = .ok (.invokevirtual 52, 3) := by decide +kernel
theorem dX3_set_27 : decode cX3_set 27 = .ok (.iload_n 3, 1) := by decide +kernel
theorem dX3_set_28 : decode cX3_set 28 = .ok (.ireturn, 1) := by decide +kernel
theorem dX3_set_29 : decode cX3_set 29 = .ok (.iload_n 1, 1) := by decide +kernel
theorem dX3_set_30 : decode cX3_set 30 = .ok (.iconst 1, 1) := by decide +kernel
theorem dX3_set_31 : decode cX3_set 31 = .ok (.if_icmp .ne 29, 3) := by decide +kernel
theorem dX3_set_34 : decode cX3_set 34 = .ok (.iload_n 2, 1) := by decide +kernel
theorem dX3_set_35 : decode cX3_set 35 = .ok (.ifCond .lt 25, 3) := by decide +kernel
theorem dX3_set_38 : decode cX3_set 38 = .ok (.iload_n 2, 1) := by decide +kernel
theorem dX3_set_39 : decode cX3_set 39 = .ok (.bipush 9, 2) := by decide +kernel
theorem dX3_set_41 : decode cX3_set 41 = .ok (.if_icmp .gt 19, 3) := by decide +kernel
theorem dX3_set_44 : decode cX3_set 44 = .ok (.aload_n 0, 1) := by decide +kernel
theorem dX3_set_45 : decode cX3_set 45 = .ok (.getfield 17, 3) := by decide +kernel
theorem dX3_set_48 : decode cX3_set 48 = .ok (.istore_n 3, 1) := by decide +kernel
theorem dX3_set_49 : decode cX3_set 49 = .ok (.aload_n 0, 1) := by decide +kernel
theorem dX3_set_50 : decode cX3_set 50 = .ok (.iload_n 2, 1) := by decide +kernel
theorem dX3_set_51 : decode cX3_set 51 = .ok (.putfield 17, 3) := by decide +kernel
theorem dX3_set_54 : decode cX3_set 54 = .ok (.aload_n 0, 1) := by decide +kernel
theorem dX3_set_55 : decode cX3_set 55 = .ok (.invokevirtual 52, 3) := by decide +kernel
theorem dX3_set_58 : decode cX3_set 58 = .ok (.iload_n 3, 1) := by decide +kernel
theorem dX3_set_59 : decode cX3_set 59 = .ok (.ireturn, 1) := by decide +kernel
theorem dX3_set_60 : decode cX3_set 60 = .ok (.bipush (-2), 2) := by decide +kernel
theorem dX3_set_62 : decode cX3_set 62 = .ok (.ireturn, 1) := by decide +kernel
theorem dX3_thing_0 : decode cX3_thing 0 = .ok (.iload_n 1, 1) := by decide +kernel
theorem dX3_thing_1 : decode cX3_thing 1 = .ok (.ifCond .lt 16, 3) := by decide +kernel
theorem dX3_thing_4 : decode cX3_thing 4 = .ok (.iload_n 1, 1) := by decide +kernel
theorem dX3_thing_5 : decode cX3_thing 5 = .ok (.bipush 35, 2) := by decide +kernel
theorem dX3_thing_7 : decode cX3_thing 7 = .ok (.if_icmp .ge 10, 3) := by decide +kernel
theorem dX3_thing_10 : decode cX3_thing 10 = .ok (.iload_n 2, 1) := by decide +kernel
theorem dX3_thing_11 : decode cX3_thing 11 = .ok (.invokestatic 84, 3) := by decide +kernel
theorem dX3_thing_14 : decode cX3_thing 14 = .ok (.ifCond .ne 6, 3) := by decide +kernel
theorem dX3_thing_17 : decode cX3_thing 17 = .ok (.bipush (-2), 2) := by decide +kernel
theorem dX3_thing_19 : decode cX3_thing 19 = .ok (.ireturn, 1) := by decide +kernel
theorem dX3_thing_20 : decode cX3_thing 20 = .ok (.aload_n 0, 1) := by decide +kernel
theorem dX3_thing_21 : decode cX3_thing 21 = .ok (.getfield 87, 3) := by decide +kernel
theorem dX3_thing_24 : decode cX3_thing 24 = .ok (.bipush 8, 2) := by decide +kernel
theorem dX3_thing_26 : decode cX3_thing 26 = .ok (.if_icmp .lt 6, 3) := by decide +kernel
theorem dX3_thing_29 : decode cX3_thing 29 = .ok (.bipush (-4), 2) := by decide +kernel
theorem dX3_thing_31 : decode cX3_thing 31 = .ok (.ireturn, 1) := by decide +kernel
theorem dX3_thing_32 : decode cX3_thing 32 = .ok (.aload_n 0, 1) := by decide +kernel
theorem dX3_thing_33 : decode cX3_thing 33 = .ok (.getfield 20, 3) := by decide +kernel
theorem dX3_thing_36 : decode cX3_thing 36 = .ok (.aload_n 0, 1) := by decide +kernel
theorem dX3_thing_37 : decode cX3_thing 37 = .ok (.getfield 87, 3) := by decide +kernel
theorem dX3_thing_40 : decode cX3_thing 40 = .ok (.iload_n 1, 1) := by decide +kernel
theorem dX3_thing_41 : decode cX3_thing 41 = .ok (.iastore, 1) := by decide +kernel
theorem dX3_thing_42 : decode cX3_thing 42 = .ok (.aload_n 0, 1) := by decide +kernel
theorem dX3_thing_43 : decode cX3_thing 43 = .ok (.getfield 23, 3) := by decide +kernel
theorem dX3_thing_46 : decode cX3_thing 46 = .ok (.aload_n 0, 1) := by decide +kernel
theorem dX3_thing_47 : decode cX3_thing 47 = .ok (.getfield 87, 3) := by decide +kernel
theorem dX3_thing_50 : decode cX3_thing 50 = .ok (.iload_n 2, 1) := by decide +kernel
theorem dX3_thing_51 : decode cX3_thing 51 = .ok (.iastore, 1) := by decide +kernel
theorem dX3_thing_52 : decode cX3_thing 52 = .ok (.aload_n 0, 1) := by decide +kernel
theorem dX3_thing_53 : decode cX3_thing 53 = .ok (.dup, 1) := by decide +kernel
theorem dX3_thing_54 : decode cX3_thing 54 = .ok (.getfield 87, 3) := by decide +kernel
theorem dX3_thing_57 : decode cX3_thing 57 = .ok (.iconst 1, 1) := by decide +kernel
theorem dX3_thing_58 : decode cX3_thing 58 = .ok (.iadd, 1) := by decide +kernel
theorem dX3_thing_59 : decode cX3_thing 59 = .ok (.putfield 87, 3) := by decide +kernel
theorem dX3_thing_62 : decode cX3_thing 62 = .ok (.aload_n 0, 1) := by decide +kernel
theorem dX3_thing_63 : decode cX3_thing 63 = .ok (.getfield 87, 3) := by decide +kernel
theorem dX3_thing_66 : decode cX3_thing 66 = .ok (.ireturn, 1) := by decide +kernel
theorem dX3_back_0 : decode cX3_back 0 = .ok (.aload_n 0, 1) := by decide +kernel
theorem dX3_back_1 : decode cX3_back 1 = .ok (.getfield 87, 3) := by decide +kernel
theorem dX3_back_4 : decode cX3_back 4 = .ok (.ifCond .gt 6, 3) := by decide +kernel
theorem dX3_back_7 : decode cX3_back 7 = .ok (.bipush (-3), 2) := by decide +kernel
theorem dX3_back_9 : decode cX3_back 9 = .ok (.ireturn, 1) := by decide +kernel
theorem dX3_back_10 : decode cX3_back 10 = .ok (.aload_n 0, 1) := by decide +kernel
theorem dX3_back_11 : decode cX3_back 11 = .ok (.dup, 1) := by decide +kernel
theorem dX3_back_12 : decode cX3_back 12 = .ok (.getfield 87, 3) := by decide +kernel
theorem dX3_back_15 : decode cX3_back 15 = .ok (.iconst 1, 1) := by decide +kernel
theorem dX3_back_16 : decode cX3_back 16 = .ok (.isub, 1) := by decide +kernel
theorem dX3_back_17 : decode cX3_back 17 = .ok (.putfield 87, 3) := by decide +kernel
theorem dX3_back_20 : decode cX3_back 20 = .ok (.aload_n 0, 1) := by decide +kernel
theorem dX3_back_21 : decode cX3_back 21 = .ok (.getfield 87, 3) := by decide +kernel
theorem dX3_back_24 : decode cX3_back 24 = .ok (.ireturn, 1) := by decide +kernel
theorem dX3_read_0 : decode cX3_read 0 = .ok (.iload_n 1, 1) := by decide +kernel
theorem dX3_read_1 : decode cX3_read 1 = .ok (.invokestatic 90, 3) := by decide +kernel
theorem dX3_read_4 : decode cX3_read 4 = .ok (.ifCond .ne 6, 3) := by decide +kernel
theorem dX3_read_7 : decode cX3_read 7 = .ok (.bipush (-2), 2) := by decide +kernel
theorem dX3_read_9 : decode cX3_read 9 = .ok (.ireturn, 1) := by decide +kernel
theorem dX3_read_10 : decode cX3_read 10 = .ok (.aload_n 0, 1) := by decide +kernel
theorem dX3_read_11 : decode cX3_read 11 = .ok (.getfield 31, 3) := by decide +kernel
theorem dX3_read_14 : decode cX3_read 14 = .ok (.iload_n 1, 1) := by decide +kernel
theorem dX3_read_15 : decode cX3_read 15 = .ok (.aaload, 1) := by decide +kernel
theorem dX3_read_16 : decode cX3_read 16 = .ok (.astore_n 2, 1) := by decide +kernel
theorem dX3_read_17 : decode cX3_read 17 = .ok (.aload_n 2, 1) := by decide +kernel
theorem dX3_read_18 : decode cX3_read 18 = .ok (.getfield 93, 3) := by decide +kernel
theorem dX3_read_21 : decode cX3_read 21 = .ok (.ifCond .eq 9, 3) := by decide +kernel
theorem dX3_read_24 : decode cX3_read 24 = .ok (.aload_n 0, 1) := by decide +kernel
theorem dX3_read_25 : decode cX3_read 25 = .ok (.iconst 1, 1) := by decide +kernel
theorem dX3_read_26 : decode cX3_read 26 = .ok (.invokevirtual 97, 3) := by decide +kernel
theorem dX3_read_29 : decode cX3_read 29 = .ok (.ireturn, 1) := by decide +kernel
theorem dX3_read_30 : decode cX3_read 30 = .ok (.iconst 0, 1) := by decide +kernel
theorem dX3_read_31 : decode cX3_read 31 = .ok (.istore_n 3, 1) := by decide +kernel
theorem dX3_read_32 : decode cX3_read 32 = .ok (.iconst 0, 1) := by decide +kernel
theorem dX3_read_33 : decode cX3_read 33 = .ok (.istore 4, 2) := by decide +kernel
theorem dX3_read_35 : decode cX3_read 35 = .ok (.iload 4, 2) := by decide +kernel
theorem dX3_read_37 : decode cX3_read 37 = .ok (.iconst 1, 1) := by decide +kernel
theorem dX3_read_38 : decode cX3_read 38 = .ok (.iadd, 1) := by decide +kernel
theorem dX3_read_39 : decode cX3_read 39 = .ok (.aload_n 2, 1) := by decide +kernel
theorem dX3_read_40 : decode cX3_read 40 = .ok (.getfield 100, 3) := by decide +kernel
theorem dX3_read_43 : decode cX3_read 43 = .ok (.if_icmp .ge 46, 3) := by decide +kernel
theorem dX3_read_46 : decode cX3_read 46 = .ok (.iload 4, 2) := by decide +kernel
theorem dX3_read_48 : decode cX3_read 48 = .ok (.iconst 1, 1) := by decide +kernel
theorem dX3_read_49 : decode cX3_read 49 = .ok (.iadd, 1) := by decide +kernel
theorem dX3_read_50 : decode cX3_read 50 = .ok (.bipush 48, 2) := by decide +kernel
theorem dX3_read_52 : decode cX3_read 52 = .ok (.if_icmp .ge 37, 3) := by decide +kernel
theorem dX3_read_55 : decode cX3_read 55 = .ok (.aload_n 0, 1) := by decide +kernel
theorem dX3_read_56 : decode cX3_read 56 = .ok (.aload_n 2, 1) := by decide +kernel
theorem dX3_read_57 : decode cX3_read 57 = .ok (.getfield 103, 3) := by decide +kernel
theorem dX3_read_60 : decode cX3_read 60 = .ok (.iload 4, 2) := by decide +kernel
theorem dX3_read_62 : decode cX3_read 62 = .ok (.iaload, 1) := by decide +kernel
theorem dX3_read_63 : decode cX3_read 63 = .ok (.aload_n 2, 1) := by decide +kernel
theorem dX3_read_64 : decode cX3_read 64 = .ok (.getfield 103, 3) := by decide +kernel
theorem dX3_read_67 : decode cX3_read 67 = .ok (.iload 4, 2) := by decide +kernel
theorem dX3_read_69 : decode cX3_read 69 = .ok (.iconst 1, 1) := by decide +kernel
theorem dX3_read_70 : decode cX3_read 70 = .ok (.iadd, 1) := by decide +kernel
theorem dX3_read_71 : decode cX3_read 71 = .ok (.iaload, 1) := by decide +kernel
theorem dX3_read_72 : decode cX3_read 72 = .ok (.invokevirtual 106, 3) := by decide +kernel
theorem dX3_read_75 : decode cX3_read 75 = .ok (.ifCond .ge 5, 3) := by decide +kernel
theorem dX3_read_78 : decode cX3_read 78 = .ok (.iload_n 3, 1) := by decide +kernel
theorem dX3_read_79 : decode cX3_read 79 = .ok (.ireturn, 1) := by decide +kernel
theorem dX3_read_80 : decode cX3_read 80 = .ok (.iinc 3 1, 3) := by decide +kernel
theorem dX3_read_83 : decode cX3_read 83 = .ok (.iinc 4 2, 3) := by decide +kernel
theorem dX3_read_86 : decode cX3_read 86 = .ok (.goto (-51), 3) := by decide +kernel
theorem dX3_read_89 : decode cX3_read 89 = .ok (.iload_n 3, 1) := by decide +kernel
theorem dX3_read_90 : decode cX3_read 90 = .ok (.ireturn, 1) := by decide +kernel
theorem dX3_at_0 : decode cX3_at 0 = .ok (.aload_n 0, 1) := by decide +kernel
theorem dX3_at_1 : decode cX3_at 1 = .ok (.iload_n 1, 1) := by decide +kernel
theorem dX3_at_2 : decode cX3_at 2 = .ok (.invokevirtual 110, 3) := by decide +kernel
theorem dX3_at_5 : decode cX3_at 5 = .ok (.ifCond .eq 10, 3) := by decide +kernel
theorem dX3_at_8 : decode cX3_at 8 = .ok (.iload_n 2, 1) := by decide +kernel
theorem dX3_at_9 : decode cX3_at 9 = .ok (.invokestatic 84, 3) := by decide +kernel
theorem dX3_at_12 : decode cX3_at 12 = .ok (.ifCond .ne 6, 3) := by decide +kernel
theorem dX3_at_15 : decode cX3_at 15 = .ok (.bipush (-2), 2) := by decide +kernel
theorem dX3_at_17 : decode cX3_at 17 = .ok (.ireturn, 1) := by decide +kernel
theorem dX3_at_18 : decode cX3_at 18 = .ok (.iload_n 2, 1) := by decide +kernel
theorem dX3_at_19 : decode cX3_at 19 = .ok (.aload_n 0, 1) := by decide +kernel
theorem dX3_at_20 : decode cX3_at 20 = .ok (.getfield 23, 3) := by decide +kernel
theorem dX3_at_23 : decode cX3_at 23 = .ok (.iload_n 1, 1) := by decide +kernel
theorem dX3_at_24 : decode cX3_at 24 = .ok (.iaload, 1) := by decide +kernel
theorem dX3_at_25 : decode cX3_at 25 = .ok (.if_icmp .ge 5, 3) := by decide +kernel
theorem dX3_at_28 : decode cX3_at 28 = .ok (.iconst (-1), 1) := by decide +kernel
theorem dX3_at_29 : decode cX3_at 29 = .ok (.ireturn, 1) := by decide +kernel
theorem dX3_at_30 : decode cX3_at 30 = .ok (.aload_n 0, 1) := by decide +kernel
theorem dX3_at_31 : decode cX3_at 31 = .ok (.getfield 39, 3) := by decide +kernel
theorem dX3_at_34 : decode cX3_at 34 = .ok (.aload_n 0, 1) := by decide +kernel
theorem dX3_at_35 : decode cX3_at 35 = .ok (.getfield 20, 3) := by decide +kernel
theorem dX3_at_38 : decode cX3_at 38 = .ok (.iload_n 1, 1) := by decide +kernel
theorem dX3_at_39 : decode cX3_at 39 = .ok (.iaload, 1) := by decide +kernel
theorem dX3_at_40 : decode cX3_at 40 = .ok (.iload_n 2, 1) := by decide +kernel
theorem dX3_at_41 : decode cX3_at 41 = .ok (.aload_n 0, 1) := by decide +kernel
theorem dX3_at_42 : decode cX3_at 42 = .ok (.getfield 23, 3) := by decide +kernel
theorem dX3_at_45 : decode cX3_at 45 = .ok (.iload_n 1, 1) := by decide +kernel
theorem dX3_at_46 : decode cX3_at 46 = .ok (.iaload, 1) := by decide +kernel
theorem dX3_at_47 : decode cX3_at 47 = .ok (.isub, 1) := by decide +kernel
theorem dX3_at_48 : decode cX3_at 48 = .ok (.invokevirtual 113, 3) := by decide +kernel
theorem dX3_at_51 : decode cX3_at 51 = .ok (.ireturn, 1) := by decide +kernel
theorem dX3_rests_0 : decode cX3_rests 0 = .ok (.aload_n 0, 1) := by decide +kernel
theorem dX3_rests_1 : decode cX3_rests 1 = .ok (.iload_n 1, 1) := by decide +kernel
theorem dX3_rests_2 : decode cX3_rests 2 = .ok (.invokevirtual 110, 3) := by decide +kernel
theorem dX3_rests_5 : decode cX3_rests 5 = .ok (.ifCond .eq 12, 3) := by decide +kernel
theorem dX3_rests_8 : decode cX3_rests 8 = .ok (.iload_n 2, 1) := by decide +kernel
theorem dX3_rests_9 : decode cX3_rests 9 = .ok (.ifCond .lt 8, 3) := by decide +kernel
theorem dX3_rests_12 : decode cX3_rests 12 = .ok (.iload_n 2, 1) := by decide +kernel
theorem dX3_rests_13 : decode cX3_rests 13 = .ok (.iconst 1, 1) := by decide +kernel
theorem dX3_rests_14 : decode cX3_rests 14 = .ok (.if_icmp .le 6, 3) := by decide +kernel
theorem dX3_rests_17 : decode cX3_rests 17 = .ok (.bipush (-2), 2) := by decide +kernel
theorem dX3_rests_19 : decode cX3_rests 19 = .ok (.ireturn, 1) := by decide +kernel
theorem dX3_rests_20 : decode cX3_rests 20 = .ok (.iload_n 2, 1) := by decide +kernel
theorem dX3_rests_21 : decode cX3_rests 21 = .ok (.ifCond .ne 18, 3) := by decide +kernel
theorem dX3_rests_24 : decode cX3_rests 24 = .ok (.aload_n 0, 1) := by decide +kernel
theorem dX3_rests_25 : decode cX3_rests 25 = .ok (.getfield 39, 3) := by decide +kernel
theorem dX3_rests_28 : decode cX3_rests 28 = .ok (.aload_n 0, 1) := by decide +kernel
theorem dX3_rests_29 : decode cX3_rests 29 = .ok (.getfield 20, 3) := by decide +kernel
theorem dX3_rests_32 : decode cX3_rests 32 = .ok (.iload_n 1, 1) := by decide +kernel
theorem dX3_rests_33 : decode cX3_rests 33 = .ok (.iaload, 1) := by decide +kernel
theorem dX3_rests_34 : decode cX3_rests 34 = .ok (.iconst 5, 1) := by decide +kernel
theorem dX3_rests_35 : decode cX3_rests 35 = .ok (.invokevirtual 113, 3) := by decide +kernel
theorem dX3_rests_38 : decode cX3_rests 38 = .ok (.ireturn, 1) := by decide +kernel
theorem dX3_rests_39 : decode cX3_rests 39 = .ok (.aload_n 0, 1) := by decide +kernel
theorem dX3_rests_40 : decode cX3_rests 40 = .ok (.getfield 39, 3) := by decide +kernel
theorem dX3_rests_43 : decode cX3_rests 43 = .ok (.aload_n 0, 1) := by decide +kernel
theorem dX3_rests_44 : decode cX3_rests 44 = .ok (.getfield 20, 3) := by decide +kernel
theorem dX3_rests_47 : decode cX3_rests 47 = .ok (.iload_n 1, 1) := by decide +kernel
theorem dX3_rests_48 : decode cX3_rests 48 = .ok (.iaload, 1) := by decide +kernel
theorem dX3_rests_49 : decode cX3_rests 49 = .ok (.invokevirtual 116, 3) := by decide +kernel
theorem dX3_rests_52 : decode cX3_rests 52 = .ok (.ireturn, 1) := by decide +kernel
theorem dX3_longest_0 : decode cX3_longest 0 = .ok (.iconst (-1), 1) := by decide +kernel
theorem dX3_longest_1 : decode cX3_longest 1 = .ok (.istore_n 1, 1) := by decide +kernel
theorem dX3_longest_2 : decode cX3_longest 2 = .ok (.iconst (-1), 1) := by decide +kernel
theorem dX3_longest_3 : decode cX3_longest 3 = .ok (.istore_n 2, 1) := by decide +kernel
theorem dX3_longest_4 : decode cX3_longest 4 = .ok (.iconst 0, 1) := by decide +kernel
theorem dX3_longest_5 : decode cX3_longest 5 = .ok (.istore_n 3, 1) := by decide +kernel
theorem dX3_longest_6 : decode cX3_longest 6 = .ok (.iload_n 3, 1) := by decide +kernel
theorem dX3_longest_7 : decode cX3_longest 7 = .ok (.aload_n 0, 1) := by decide +kernel
theorem dX3_longest_8 : decode cX3_longest 8 = .ok (.getfield 87, 3) := by decide +kernel
theorem dX3_longest_11 : decode cX3_longest 11 = .ok (.if_icmp .ge 64, 3) := by decide +kernel
theorem dX3_longest_14 : decode cX3_longest 14 = .ok (.iload_n 3, 1) := by decide +kernel
theorem dX3_longest_15 : decode cX3_longest 15 = .ok (.bipush 8, 2) := by decide +kernel
theorem dX3_longest_17 : decode cX3_longest 17 = .ok (.if_icmp .ge 58, 3) := by decide +kernel
theorem dX3_longest_20 : decode cX3_longest 20 = .ok (.aload_n 0, 1) := by decide +kernel
theorem dX3_longest_21 : decode cX3_longest 21 = .ok (.getfield 39, 3) := by decide +kernel
theorem dX3_longest_24 : decode cX3_longest 24 = .ok (.getfield 119, 3) := by decide +kernel
theorem dX3_longest_27 : decode cX3_longest 27 = .ok (.aload_n 0, 1) := by decide +kernel
theorem dX3_longest_28 : decode cX3_longest 28 = .ok (.getfield 20, 3) := by decide +kernel
theorem dX3_longest_31 : decode cX3_longest 31 = .ok (.iload_n 3, 1) := by decide +kernel
theorem dX3_longest_32 : decode cX3_longest 32 = .ok (.iaload, 1) := by decide +kernel
theorem dX3_longest_33 : decode cX3_longest 33 = .ok (.invokestatic 76, 3) := by decide +kernel
theorem dX3_longest_36 : decode cX3_longest 36 = .ok (.istore 4, 2) := by decide +kernel
theorem dX3_longest_38 : decode cX3_longest 38 = .ok (.aload_n 0, 1) := by decide +kernel
theorem dX3_longest_39 : decode cX3_longest 39 = .ok (.getfield 39, 3) := by decide +kernel
theorem dX3_longest_42 : decode cX3_longest 42 = .ok (.aload_n 0, 1) := by decide +kernel
theorem dX3_longest_43 : decode cX3_longest 43 = .ok (.getfield 20, 3) := by decide +kernel
theorem dX3_longest_46 : decode cX3_longest 46 = .ok (.iload_n 3, 1) := by decide +kernel
theorem dX3_longest_47 : decode cX3_longest 47 = .ok (.iaload, 1) := by decide +kernel
theorem dX3_longest_48 : decode cX3_longest 48 = .ok (.invokevirtual 116, 3) := by decide +kernel
theorem dX3_longest_51 : decode cX3_longest 51 = .ok (.istore 5, 2) := by decide +kernel
theorem dX3_longest_53 : decode cX3_longest 53 = .ok (.iload 4, 2) := by decide +kernel
theorem dX3_longest_55 : decode cX3_longest 55 = .ok (.ifCond .eq 14, 3) := by decide +kernel
theorem dX3_longest_58 : decode cX3_longest 58 = .ok (.iload 5, 2) := by decide +kernel
theorem dX3_longest_60 : decode cX3_longest 60 = .ok (.iload_n 2, 1) := by decide +kernel
theorem dX3_longest_61 : decode cX3_longest 61 = .ok (.if_icmp .le 8, 3) := by decide +kernel
theorem dX3_longest_64 : decode cX3_longest 64 = .ok (.iload_n 3, 1) := by decide +kernel
theorem dX3_longest_65 : decode cX3_longest 65 = .ok (.istore_n 1, 1) := by decide +kernel
theorem dX3_longest_66 : decode cX3_longest 66 = .ok (.iload 5, 2) := by decide +kernel
theorem dX3_longest_68 : decode cX3_longest 68 = .ok (.istore_n 2, 1) := by decide +kernel
theorem dX3_longest_69 : decode cX3_longest 69 = .ok (.iinc 3 1, 3) := by decide +kernel
theorem dX3_longest_72 : decode cX3_longest 72 = .ok (.goto (-66), 3) := by decide +kernel
theorem dX3_longest_75 : decode cX3_longest 75 = .ok (.iload_n 1, 1) := by decide +kernel
theorem dX3_longest_76 : decode cX3_longest 76 = .ok (.ireturn, 1) := by decide +kernel
theorem dX3_meet_0 : decode cX3_meet 0 = .ok (.aload_n 0, 1) := by decide +kernel
theorem dX3_meet_1 : decode cX3_meet 1 = .ok (.iload_n 1, 1) := by decide +kernel
theorem dX3_meet_2 : decode cX3_meet 2 = .ok (.invokevirtual 110, 3) := by decide +kernel
theorem dX3_meet_5 : decode cX3_meet 5 = .ok (.ifCond .eq 16, 3) := by decide +kernel
theorem dX3_meet_8 : decode cX3_meet 8 = .ok (.aload_n 0, 1) := by decide +kernel
theorem dX3_meet_9 : decode cX3_meet 9 = .ok (.iload_n 2, 1) := by decide +kernel
theorem dX3_meet_10 : decode cX3_meet 10 = .ok (.invokevirtual 110, 3) := by decide +kernel
theorem dX3_meet_13 : decode cX3_meet 13 = .ok (.ifCond .eq 8, 3) := by decide +kernel
theorem dX3_meet_16 : decode cX3_meet 16 = .ok (.iload_n 1, 1) := by decide +kernel
theorem dX3_meet_17 : decode cX3_meet 17 = .ok (.iload_n 2, 1) := by decide +kernel
theorem dX3_meet_18 : decode cX3_meet 18 = .ok (.if_icmp .ne 6, 3) := by decide +kernel
theorem dX3_meet_21 : decode cX3_meet 21 = .ok (.bipush (-2), 2) := by decide +kernel
theorem dX3_meet_23 : decode cX3_meet 23 = .ok (.ireturn, 1) := by decide +kernel
theorem dX3_meet_24 : decode cX3_meet 24 = .ok (.iconst 0, 1) := by decide +kernel
theorem dX3_meet_25 : decode cX3_meet 25 = .ok (.istore_n 3, 1) := by decide +kernel
theorem dX3_meet_26 : decode cX3_meet 26 = .ok (.iload_n 3, 1) := by decide +kernel
theorem dX3_meet_27 : decode cX3_meet 27 = .ok (.bipush 100, 2) := by decide +kernel
theorem dX3_meet_29 : decode cX3_meet 29 = .ok (.if_icmp .ge 36, 3) := by decide +kernel
theorem dX3_meet_32 : decode cX3_meet 32 = .ok (.aload_n 0, 1) := by decide +kernel
theorem dX3_meet_33 : decode cX3_meet 33 = .ok (.iload_n 1, 1) := by decide +kernel
theorem dX3_meet_34 : decode cX3_meet 34 = .ok (.iload_n 3, 1) := by decide +kernel
theorem dX3_meet_35 : decode cX3_meet 35 = .ok (.invokevirtual 122, 3) := by decide +kernel
theorem dX3_meet_38 : decode cX3_meet 38 = .ok (.istore 4, 2) := by decide +kernel
theorem dX3_meet_40 : decode cX3_meet 40 = .ok (.iload 4, 2) := by decide +kernel
theorem dX3_meet_42 : decode cX3_meet 42 = .ok (.iconst (-1), 1) := by decide +kernel
theorem dX3_meet_43 : decode cX3_meet 43 = .ok (.if_icmp .eq 16, 3) := by decide +kernel
theorem dX3_meet_46 : decode cX3_meet 46 = .ok (.iload 4, 2) := by decide +kernel
theorem dX3_meet_48 : decode cX3_meet 48 = .ok (.aload_n 0, 1) := by decide +kernel
theorem dX3_meet_49 : decode cX3_meet 49 = .ok (.iload_n 2, 1) := by decide +kernel
theorem dX3_meet_50 : decode cX3_meet 50 = .ok (.iload_n 3, 1) := by decide +kernel
theorem dX3_meet_51 : decode cX3_meet 51 = .ok (.invokevirtual 122, 3) := by decide +kernel
theorem dX3_meet_54 : decode cX3_meet 54 = .ok (.if_icmp .ne 5, 3) := by decide +kernel
theorem dX3_meet_57 : decode cX3_meet 57 = .ok (.iload_n 3, 1) := by decide +kernel
theorem dX3_meet_58 : decode cX3_meet 58 = .ok (.ireturn, 1) := by decide +kernel
theorem dX3_meet_59 : decode cX3_meet 59 = .ok (.iinc 3 1, 3) := by decide +kernel
theorem dX3_meet_62 : decode cX3_meet 62 = .ok (.goto (-36), 3) := by decide +kernel
theorem dX3_meet_65 : decode cX3_meet 65 = .ok (.iconst (-1), 1) := by decide +kernel
theorem dX3_meet_66 : decode cX3_meet 66 = .ok (.ireturn, 1) := by decide +kernel
theorem dX3_way_0 : decode cX3_way 0 = .ok (.aload_n 0, 1) := by decide +kernel
theorem dX3_way_1 : decode cX3_way 1 = .ok (.getfield 39, 3) := by decide +kernel
theorem dX3_way_4 : decode cX3_way 4 = .ok (.iload_n 1, 1) := by decide +kernel
theorem dX3_way_5 : decode cX3_way 5 = .ok (.invokevirtual 61, 3) := by decide +kernel
theorem dX3_way_8 : decode cX3_way 8 = .ok (.ifCond .eq 14, 3) := by decide +kernel
theorem dX3_way_11 : decode cX3_way 11 = .ok (.aload_n 0, 1) := by decide +kernel
theorem dX3_way_12 : decode cX3_way 12 = .ok (.getfield 39, 3) := by decide +kernel
theorem dX3_way_15 : decode cX3_way 15 = .ok (.iload_n 2, 1) := by decide +kernel
theorem dX3_way_16 : decode cX3_way 16 = .ok (.invokevirtual 61, 3) := by decide +kernel
theorem dX3_way_19 : decode cX3_way 19 = .ok (.ifCond .ne 6, 3) := by decide +kernel
theorem dX3_way_22 : decode cX3_way 22 = .ok (.bipush (-2), 2) := by decide +kernel
theorem dX3_way_24 : decode cX3_way 24 = .ok (.ireturn, 1) := by decide +kernel
theorem dX3_way_25 : decode cX3_way 25 = .ok (.aload_n 0, 1) := by decide +kernel
theorem dX3_way_26 : decode cX3_way 26 = .ok (.getfield 48, 3) := by decide +kernel
theorem dX3_way_29 : decode cX3_way 29 = .ok (.iload_n 1, 1) := by decide +kernel
theorem dX3_way_30 : decode cX3_way 30 = .ok (.iload_n 2, 1) := by decide +kernel
theorem dX3_way_31 : decode cX3_way 31 = .ok (.invokevirtual 125, 3) := by decide +kernel
theorem dX3_way_34 : decode cX3_way 34 = .ok (.ireturn, 1) := by decide +kernel
theorem dX3_next_0 : decode cX3_next 0 = .ok (.aload_n 0, 1) := by decide +kernel
theorem dX3_next_1 : decode cX3_next 1 = .ok (.getfield 39, 3) := by decide +kernel
theorem dX3_next_4 : decode cX3_next 4 = .ok (.iload_n 1, 1) := by decide +kernel
theorem dX3_next_5 : decode cX3_next 5 = .ok (.invokevirtual 61, 3) := by decide +kernel
theorem dX3_next_8 : decode cX3_next 8 = .ok (.ifCond .eq 14, 3) := by decide +kernel
theorem dX3_next_11 : decode cX3_next 11 = .ok (.aload_n 0, 1) := by decide +kernel
theorem dX3_next_12 : decode cX3_next 12 = .ok (.getfield 39, 3) := by decide +kernel
theorem dX3_next_15 : decode cX3_next 15 = .ok (.iload_n 2, 1) := by decide +kernel
theorem dX3_next_16 : decode cX3_next 16 = .ok (.invokevirtual 61, 3) := by decide +kernel
theorem dX3_next_19 : decode cX3_next 19 = .ok (.ifCond .ne 6, 3) := by decide +kernel
theorem dX3_next_22 : decode cX3_next 22 = .ok (.bipush (-2), 2) := by decide +kernel
theorem dX3_next_24 : decode cX3_next 24 = .ok (.ireturn, 1) := by decide +kernel
theorem dX3_next_25 : decode cX3_next 25 = .ok (.aload_n 0, 1) := by decide +kernel
theorem dX3_next_26 : decode cX3_next 26 = .ok (.getfield 48, 3) := by decide +kernel
theorem dX3_next_29 : decode cX3_next 29 = .ok (.iload_n 1, 1) := by decide +kernel
theorem dX3_next_30 : decode cX3_next 30 = .ok (.iload_n 2, 1) := by decide +kernel
theorem dX3_next_31 : decode cX3_next 31 = .ok (.invokevirtual 125, 3) := by decide +kernel
theorem dX3_next_34 : decode cX3_next 34 = .ok (.istore_n 3, 1) := by decide +kernel
theorem dX3_next_35 : decode cX3_next 35 = .ok (.iload_n 3, 1) := by decide +kernel
theorem dX3_next_36 : decode cX3_next 36 = .ok (.iconst (-1), 1) := by decide +kernel
theorem dX3_next_37 : decode cX3_next 37 = .ok (.if_icmp .eq 7, 3) := by decide +kernel
theorem dX3_next_40 : decode cX3_next 40 = .ok (.iload_n 3, 1) := by decide +kernel
theorem dX3_next_41 : decode cX3_next 41 = .ok (.ifCond .ne 5, 3) := by decide +kernel
theorem dX3_next_44 : decode cX3_next 44 = .ok (.iconst (-1), 1) := by decide +kernel
theorem dX3_next_45 : decode cX3_next 45 = .ok (.ireturn, 1) := by decide +kernel
theorem dX3_next_46 : decode cX3_next 46 = .ok (.iconst 0, 1) := by decide +kernel
theorem dX3_next_47 : decode cX3_next 47 = .ok (.istore 4, 2) := by decide +kernel
theorem dX3_next_49 : decode cX3_next 49 = .ok (.iload 4, 2) := by decide +kernel
theorem dX3_next_51 : decode cX3_next 51 = .ok (.iconst 4, 1) := by decide +kernel
theorem dX3_next_52 : decode cX3_next 52 = .ok (.if_icmp .ge 63, 3) := by decide +kernel
theorem dX3_next_55 : decode cX3_next 55 = .ok (.aload_n 0, 1) := by decide +kernel
theorem dX3_next_56 : decode cX3_next 56 = .ok (.getfield 39, 3) := by decide +kernel
theorem dX3_next_59 : decode cX3_next 59 = .ok (.iload_n 1, 1) := by decide +kernel
theorem dX3_next_60 : decode cX3_next 60 = .ok (.iload 4, 2) := by decide +kernel
theorem dX3_next_62 : decode cX3_next 62 = .ok (.invokevirtual 128, 3) := by decide +kernel
theorem dX3_next_65 : decode cX3_next 65 = .ok (.istore 5, 2) := by decide +kernel
theorem dX3_next_67 : decode cX3_next 67 = .ok (.aload_n 0, 1) := by decide +kernel
theorem dX3_next_68 : decode cX3_next 68 = .ok (.getfield 48, 3) := by decide +kernel
theorem dX3_next_71 : decode cX3_next 71 = .ok (.iload 5, 2) := by decide +kernel
theorem dX3_next_73 : decode cX3_next 73 = .ok (.iload_n 2, 1) := by decide +kernel
theorem dX3_next_74 : decode cX3_next 74 = .ok (.invokevirtual 125, 3) := by decide +kernel
theorem dX3_next_77 : decode cX3_next 77 = .ok (.istore 6, 2) := by decide +kernel
theorem dX3_next_79 : decode cX3_next 79 = .ok (.iload 6, 2) := by decide +kernel
theorem dX3_next_81 : decode cX3_next 81 = .ok (.iconst (-1), 1) := by decide +kernel
theorem dX3_next_82 : decode cX3_next 82 = .ok (.if_icmp .eq 27, 3) := by decide +kernel
theorem dX3_next_85 : decode cX3_next 85 = .ok (.aload_n 0, 1) := by decide +kernel
theorem dX3_next_86 : decode cX3_next 86 = .ok (.getfield 39, 3) := by decide +kernel
theorem dX3_next_89 : decode cX3_next 89 = .ok (.iload_n 1, 1) := by decide +kernel
theorem dX3_next_90 : decode cX3_next 90 = .ok (.iload 4, 2) := by decide +kernel
theorem dX3_next_92 : decode cX3_next 92 = .ok (.aload_n 0, 1) := by decide +kernel
theorem dX3_next_93 : decode cX3_next 93 = .ok (.getfield 17, 3) := by decide +kernel
theorem dX3_next_96 : decode cX3_next 96 = .ok (.invokevirtual 131, 3) := by decide +kernel
theorem dX3_next_99 : decode cX3_next 99 = .ok (.iload 6, 2) := by decide +kernel
theorem dX3_next_101 : decode cX3_next 101 = .ok (.iadd, 1) := by decide +kernel
theorem dX3_next_102 : decode cX3_next 102 = .ok (.iload_n 3, 1) := by decide +kernel
theorem dX3_next_103 : decode cX3_next 103 = .ok (.if_icmp .ne 6, 3) := by decide +kernel
theorem dX3_next_106 : decode cX3_next 106 = .ok (.iload 5, 2) := by decide +kernel
theorem dX3_next_108 : decode cX3_next 108 = .ok (.ireturn, 1) := by decide +kernel
theorem dX3_next_109 : decode cX3_next 109 = .ok (.iinc 4 1, 3) := by decide +kernel
theorem dX3_next_112 : decode cX3_next 112 = .ok (.goto (-63), 3) := by decide +kernel
theorem dX3_next_115 : decode cX3_next 115 = .ok (.iconst (-1), 1) := by decide +kernel
theorem dX3_next_116 : decode cX3_next 116 = .ok (.ireturn, 1) := by decide +kernel
theorem dX3_race_0 : decode cX3_race 0 = .ok (.aload_n 0, 1) := by decide +kernel
theorem dX3_race_1 : decode cX3_race 1 = .ok (.getfield 39, 3) := by decide +kernel
theorem dX3_race_4 : decode cX3_race 4 = .ok (.iload_n 1, 1) := by decide +kernel
theorem dX3_race_5 : decode cX3_race 5 = .ok (.invokevirtual 61, 3) := by decide +kernel
theorem dX3_race_8 : decode cX3_race 8 = .ok (.ifCond .eq 25, 3) := by decide +kernel
theorem dX3_race_11 : decode cX3_race 11 = .ok (.aload_n 0, 1) := by decide +kernel
theorem dX3_race_12 : decode cX3_race 12 = .ok (.getfield 39, 3) := by decide +kernel
theorem dX3_race_15 : decode cX3_race 15 = .ok (.iload_n 2, 1) := by decide +kernel
theorem dX3_race_16 : decode cX3_race 16 = .ok (.invokevirtual 61, 3) := by decide +kernel
theorem dX3_race_19 : decode cX3_race 19 = .ok (.ifCond .eq 14, 3) := by decide +kernel
theorem dX3_race_22 : decode cX3_race 22 = .ok (.aload_n 0, 1) := by decide +kernel
theorem dX3_race_23 : decode cX3_race 23 = .ok (.getfield 39, 3) := by decide +kernel
theorem dX3_race_26 : decode cX3_race 26 = .ok (.iload_n 3, 1) := by decide +kernel
theorem dX3_race_27 : decode cX3_race 27 = .ok (.invokevirtual 61, 3) := by decide +kernel
theorem dX3_race_30 : decode cX3_race 30 = .ok (.ifCond .ne 6, 3) := by decide +kernel
theorem dX3_race_33 : decode cX3_race 33 = .ok (.bipush (-2), 2) := by decide +kernel
theorem dX3_race_35 : decode cX3_race 35 = .ok (.ireturn, 1) := by decide +kernel
theorem dX3_race_36 : decode cX3_race 36 = .ok (.aload_n 0, 1) := by decide +kernel
theorem dX3_race_37 : decode cX3_race 37 = .ok (.getfield 48, 3) := by decide +kernel
theorem dX3_race_40 : decode cX3_race 40 = .ok (.iload_n 1, 1) := by decide +kernel
theorem dX3_race_41 : decode cX3_race 41 = .ok (.iload_n 3, 1) := by decide +kernel
theorem dX3_race_42 : decode cX3_race 42 = .ok (.invokevirtual 125, 3) := by decide +kernel
theorem dX3_race_45 : decode cX3_race 45 = .ok (.istore 4, 2) := by decide +kernel
theorem dX3_race_47 : decode cX3_race 47 = .ok (.aload_n 0, 1) := by decide +kernel
theorem dX3_race_48 : decode cX3_race 48 = .ok (.getfield 48, 3) := by decide +kernel
theorem dX3_race_51 : decode cX3_race 51 = .ok (.iload_n 2, 1) := by decide +kernel
theorem dX3_race_52 : decode cX3_race 52 = .ok (.iload_n 3, 1) := by decide +kernel
theorem dX3_race_53 : decode cX3_race 53 = .ok (.invokevirtual 125, 3) := by decide +kernel
theorem dX3_race_56 : decode cX3_race 56 = .ok (.istore 5, 2) := by decide +kernel
theorem dX3_race_58 : decode cX3_race 58 = .ok (.iload 4, 2) := by decide +kernel
theorem dX3_race_60 : decode cX3_race 60 = .ok (.iload 5, 2) := by decide +kernel
theorem dX3_race_62 : decode cX3_race 62 = .ok (.if_icmp .ne 15, 3) := by decide +kernel
theorem dX3_race_65 : decode cX3_race 65 = .ok (.iload 4, 2) := by decide +kernel
theorem dX3_race_67 : decode cX3_race 67 = .ok (.iconst (-1), 1) := by decide +kernel
theorem dX3_race_68 : decode cX3_race 68 = .ok (.if_icmp .ne 7, 3) := by decide +kernel
theorem dX3_race_71 : decode cX3_race 71 = .ok (.iconst (-1), 1) := by decide +kernel
theorem dX3_race_72 : decode cX3_race 72 = .ok (.goto 4, 3) := by decide +kernel
theorem dX3_race_75 : decode cX3_race 75 = .ok (.iconst 2, 1) := by decide +kernel
theorem dX3_race_76 : decode cX3_race 76 = .ok (.ireturn, 1) := by decide +kernel
theorem dX3_race_77 : decode cX3_race 77 = .ok (.iload 4, 2) := by decide +kernel
theorem dX3_race_79 : decode cX3_race 79 = .ok (.iconst (-1), 1) := by decide +kernel
theorem dX3_race_80 : decode cX3_race 80 = .ok (.if_icmp .ne 5, 3) := by decide +kernel
theorem dX3_race_83 : decode cX3_race 83 = .ok (.iconst 1, 1) := by decide +kernel
theorem dX3_race_84 : decode cX3_race 84 = .ok (.ireturn, 1) := by decide +kernel
theorem dX3_race_85 : decode cX3_race 85 = .ok (.iload 5, 2) := by decide +kernel
theorem dX3_race_87 : decode cX3_race 87 = .ok (.iconst (-1), 1) := by decide +kernel
theorem dX3_race_88 : decode cX3_race 88 = .ok (.if_icmp .ne 5, 3) := by decide +kernel
theorem dX3_race_91 : decode cX3_race 91 = .ok (.iconst 0, 1) := by decide +kernel
theorem dX3_race_92 : decode cX3_race 92 = .ok (.ireturn, 1) := by decide +kernel
theorem dX3_race_93 : decode cX3_race 93 = .ok (.iload 4, 2) := by decide +kernel
theorem dX3_race_95 : decode cX3_race 95 = .ok (.iload 5, 2) := by decide +kernel
theorem dX3_race_97 : decode cX3_race 97 = .ok (.if_icmp .ge 7, 3) := by decide +kernel
theorem dX3_race_100 : decode cX3_race 100 = .ok (.iconst 0, 1) := by decide +kernel
theorem dX3_race_101 : decode cX3_race 101 = .ok (.goto 4, 3) := by decide +kernel
theorem dX3_race_104 : decode cX3_race 104 = .ok (.iconst 1, 1) := by decide +kernel
theorem dX3_race_105 : decode cX3_race 105 = .ok (.ireturn, 1) := by decide +kernel
theorem dX3_reach_0 : decode cX3_reach 0 = .ok (.aload_n 0, 1) := by decide +kernel
theorem dX3_reach_1 : decode cX3_reach 1 = .ok (.getfield 39, 3) := by decide +kernel
theorem dX3_reach_4 : decode cX3_reach 4 = .ok (.iload_n 1, 1) := by decide +kernel
theorem dX3_reach_5 : decode cX3_reach 5 = .ok (.invokevirtual 61, 3) := by decide +kernel
theorem dX3_reach_8 : decode cX3_reach 8 = .ok (.ifCond .ne 6, 3) := by decide +kernel
theorem dX3_reach_11 : decode cX3_reach 11 = .ok (.bipush (-2), 2) := by decide +kernel
theorem dX3_reach_13 : decode cX3_reach 13 = .ok (.ireturn, 1) := by decide +kernel
theorem dX3_reach_14 : decode cX3_reach 14 = .ok (.iconst 0, 1) := by decide +kernel
theorem dX3_reach_15 : decode cX3_reach 15 = .ok (.istore_n 2, 1) := by decide +kernel
theorem dX3_reach_16 : decode cX3_reach 16 = .ok (.iconst 0, 1) := by decide +kernel
theorem dX3_reach_17 : decode cX3_reach 17 = .ok (.istore_n 3, 1) := by decide +kernel
theorem dX3_reach_18 : decode cX3_reach 18 = .ok (.iload_n 3, 1) := by decide +kernel
theorem dX3_reach_19 : decode cX3_reach 19 = .ok (.aload_n 0, 1) := by decide +kernel
theorem dX3_reach_20 : decode cX3_reach 20 = .ok (.getfield 39, 3) := by decide +kernel
theorem dX3_reach_23 : decode cX3_reach 23 = .ok (.getfield 135, 3) := by decide +kernel
theorem dX3_reach_26 : decode cX3_reach 26 = .ok (.if_icmp .ge 25, 3) := by decide +kernel
theorem dX3_reach_29 : decode cX3_reach 29 = .ok (.aload_n 0, 1) := by decide +kernel
theorem dX3_reach_30 : decode cX3_reach 30 = .ok (.getfield 48, 3) := by decide +kernel
theorem dX3_reach_33 : decode cX3_reach 33 = .ok (.iload_n 1, 1) := by decide +kernel
theorem dX3_reach_34 : decode cX3_reach 34 = .ok (.iload_n 3, 1) := by decide +kernel
theorem dX3_reach_35 : decode cX3_reach 35 = .ok (.invokevirtual 125, 3) := by decide +kernel
theorem dX3_reach_38 : decode cX3_reach 38 = .ok (.iconst (-1), 1) := by decide +kernel
theorem dX3_reach_39 : decode cX3_reach 39 = .ok (.if_icmp .eq 6, 3) := by decide +kernel
theorem dX3_reach_42 : decode cX3_reach 42 = .ok (.iinc 2 1, 3) := by decide +kernel
theorem dX3_reach_45 : decode cX3_reach 45 = .ok (.iinc 3 1, 3) := by decide +kernel
theorem dX3_reach_48 : decode cX3_reach 48 = .ok (.goto (-30), 3) := by decide +kernel
theorem dX3_reach_51 : decode cX3_reach 51 = .ok (.iload_n 2, 1) := by decide +kernel
theorem dX3_reach_52 : decode cX3_reach 52 = .ok (.ireturn, 1) := by decide +kernel
theorem dX3_wet_0 : decode cX3_wet 0 = .ok (.aload_n 0, 1) := by decide +kernel
theorem dX3_wet_1 : decode cX3_wet 1 = .ok (.getfield 39, 3) := by decide +kernel
theorem dX3_wet_4 : decode cX3_wet 4 = .ok (.iload_n 1, 1) := by decide +kernel
theorem dX3_wet_5 : decode cX3_wet 5 = .ok (.invokevirtual 61, 3) := by decide +kernel
theorem dX3_wet_8 : decode cX3_wet 8 = .ok (.ifCond .ne 6, 3) := by decide +kernel
theorem dX3_wet_11 : decode cX3_wet 11 = .ok (.bipush (-2), 2) := by decide +kernel
theorem dX3_wet_13 : decode cX3_wet 13 = .ok (.ireturn, 1) := by decide +kernel
theorem dX3_wet_14 : decode cX3_wet 14 = .ok (.aload_n 0, 1) := by decide +kernel
theorem dX3_wet_15 : decode cX3_wet 15 = .ok (.getfield 39, 3) := by decide +kernel
theorem dX3_wet_18 : decode cX3_wet 18 = .ok (.getfield 138, 3) := by decide +kernel
theorem dX3_wet_21 : decode cX3_wet 21 = .ok (.iload_n 1, 1) := by decide +kernel
theorem dX3_wet_22 : decode cX3_wet 22 = .ok (.invokestatic 76, 3) := by decide +kernel
theorem dX3_wet_25 : decode cX3_wet 25 = .ok (.invokestatic 80, 3) := by decide +kernel
theorem dX3_wet_28 : decode cX3_wet 28 = .ok (.ireturn, 1) := by decide +kernel
theorem dX3_plug_0 : decode cX3_plug 0 = .ok (.aload_n 0, 1) := by decide +kernel
theorem dX3_plug_1 : decode cX3_plug 1 = .ok (.getfield 39, 3) := by decide +kernel
theorem dX3_plug_4 : decode cX3_plug 4 = .ok (.iload_n 1, 1) := by decide +kernel
theorem dX3_plug_5 : decode cX3_plug 5 = .ok (.invokevirtual 61, 3) := by decide +kernel
theorem dX3_plug_8 : decode cX3_plug 8 = .ok (.ifCond .eq 13, 3) := by decide +kernel
theorem dX3_plug_11 : decode cX3_plug 11 = .ok (.iload_n 2, 1) := by decide +kernel
theorem dX3_plug_12 : decode cX3_plug 12 = .ok (.iconst (-1), 1) := by decide +kernel
theorem dX3_plug_13 : decode cX3_plug 13 = .ok (.if_icmp .lt 8, 3) := by decide +kernel
theorem dX3_plug_16 : decode cX3_plug 16 = .ok (.iload_n 2, 1) := by decide +kernel
theorem dX3_plug_17 : decode cX3_plug 17 = .ok (.iconst 1, 1) := by decide +kernel
theorem dX3_plug_18 : decode cX3_plug 18 = .ok (.if_icmp .le 6, 3) := by decide +kernel
theorem dX3_plug_21 : decode cX3_plug 21 = .ok (.bipush (-2), 2) := by decide +kernel
theorem dX3_plug_23 : decode cX3_plug 23 = .ok (.ireturn, 1) := by decide +kernel
theorem dX3_plug_24 : decode cX3_plug 24 = .ok (.aload_n 0, 1) := by decide +kernel
theorem dX3_plug_25 : decode cX3_plug 25 = .ok (.getfield 39, 3) := by decide +kernel
end
section
theorem dX3_plug_28 : decode cX3_plug 28 = .ok (.iload_n 1, 1) := by decide +kernel
theorem dX3_plug_29 : decode cX3_plug 29 = .ok (.invokevirtual 141, 3) := by decide +kernel
theorem dX3_plug_32 : decode cX3_plug 32 = .ok (.lstore_n 3, 1) := by decide +kernel
theorem dX3_plug_33 : decode cX3_plug 33 = .ok (.lload_n 3, 1) := by decide +kernel
theorem dX3_plug_34 : decode cX3_plug 34 = .ok (.ldc2_w 145, 3) := by decide +kernel
theorem dX3_plug_37 : decode cX3_plug 37 = .ok (.lcmp, 1) := by decide +kernel
theorem dX3_plug_38 : decode cX3_plug 38 = .ok (.ifCond .ne 7, 3) := by decide +kernel
theorem dX3_plug_41 : decode cX3_plug 41 = .ok (.iconst (-1), 1) := by decide +kernel
theorem dX3_plug_42 : decode cX3_plug 42 = .ok (.goto 8, 3) := by decide +kernel
theorem dX3_plug_45 : decode cX3_plug 45 = .ok (.lload_n 3, 1) := by decide +kernel
theorem dX3_plug_46 : decode cX3_plug 46 = .ok (.iload_n 2, 1) := by decide +kernel
theorem dX3_plug_47 : decode cX3_plug 47 = .ok (.invokestatic 147, 3) := by decide +kernel
theorem dX3_plug_50 : decode cX3_plug 50 = .ok (.ireturn, 1) := by decide +kernel
theorem dX3_plumb_0 : decode cX3_plumb 0 = .ok (.iload_n 1, 1) := by decide +kernel
theorem dX3_plumb_1 : decode cX3_plumb 1 = .ok (.ifCond .lt 17, 3) := by decide +kernel
theorem dX3_plumb_4 : decode cX3_plumb 4 = .ok (.iload_n 1, 1) := by decide +kernel
theorem dX3_plumb_5 : decode cX3_plumb 5 = .ok (.iconst 5, 1) := by decide +kernel
theorem dX3_plumb_6 : decode cX3_plumb 6 = .ok (.if_icmp .ge 12, 3) := by decide +kernel
theorem dX3_plumb_9 : decode cX3_plumb 9 = .ok (.iload_n 2, 1) := by decide +kernel
theorem dX3_plumb_10 : decode cX3_plumb 10 = .ok (.ifCond .lt 8, 3) := by decide +kernel
theorem dX3_plumb_13 : decode cX3_plumb 13 = .ok (.iload_n 2, 1) := by decide +kernel
theorem dX3_plumb_14 : decode cX3_plumb 14 = .ok (.iconst 1, 1) := by decide +kernel
theorem dX3_plumb_15 : decode cX3_plumb 15 = .ok (.if_icmp .le 6, 3) := by decide +kernel
theorem dX3_plumb_18 : decode cX3_plumb 18 = .ok (.bipush (-2), 2) := by decide +kernel
theorem dX3_plumb_20 : decode cX3_plumb 20 = .ok (.ireturn, 1) := by decide +kernel
theorem dX3_plumb_21 : decode cX3_plumb 21 = .ok (.aload_n 0, 1) := by decide +kernel
theorem dX3_plumb_22 : decode cX3_plumb 22 = .ok (.getfield 151, 3) := by decide +kernel
theorem dX3_plumb_25 : decode cX3_plumb 25 = .ok (.bipush 8, 2) := by decide +kernel
theorem dX3_plumb_27 : decode cX3_plumb 27 = .ok (.if_icmp .lt 6, 3) := by decide +kernel
theorem dX3_plumb_30 : decode cX3_plumb 30 = .ok (.bipush (-4), 2) := by decide +kernel
theorem dX3_plumb_32 : decode cX3_plumb 32 = .ok (.ireturn, 1) := by decide +kernel
theorem dX3_plumb_33 : decode cX3_plumb 33 = .ok (.iload_n 1, 1) := by decide +kernel
theorem dX3_plumb_34 : decode cX3_plumb 34 = .ok (.invokestatic 154, 3) := by decide +kernel
theorem dX3_plumb_37 : decode cX3_plumb 37 = .ok (.istore_n 3, 1) := by decide +kernel
theorem dX3_plumb_38 : decode cX3_plumb 38 = .ok (.aload_n 0, 1) := by decide +kernel
theorem dX3_plumb_39 : decode cX3_plumb 39 = .ok (.dup, 1) := by decide +kernel
theorem dX3_plumb_40 : decode cX3_plumb 40 = .ok (.getfield 26, 3) := by decide +kernel
theorem dX3_plumb_43 : decode cX3_plumb 43 = .ok (.iload_n 2, 1) := by decide +kernel
theorem dX3_plumb_44 : decode cX3_plumb 44 = .ok (.iconst 1, 1) := by decide +kernel
theorem dX3_plumb_45 : decode cX3_plumb 45 = .ok (.if_icmp .ne 7, 3) := by decide +kernel
theorem dX3_plumb_48 : decode cX3_plumb 48 = .ok (.iload_n 3, 1) := by decide +kernel
theorem dX3_plumb_49 : decode cX3_plumb 49 = .ok (.goto 6, 3) := by decide +kernel
theorem dX3_plumb_52 : decode cX3_plumb 52 = .ok (.iload_n 3, 1) := by decide +kernel
theorem dX3_plumb_53 : decode cX3_plumb 53 = .ok (.iconst (-1), 1) := by decide +kernel
theorem dX3_plumb_54 : decode cX3_plumb 54 = .ok (.ixor, 1) := by decide +kernel
theorem dX3_plumb_55 : decode cX3_plumb 55 = .ok (.iand, 1) := by decide +kernel
theorem dX3_plumb_56 : decode cX3_plumb 56 = .ok (.putfield 26, 3) := by decide +kernel
theorem dX3_plumb_59 : decode cX3_plumb 59 = .ok (.aload_n 0, 1) := by decide +kernel
theorem dX3_plumb_60 : decode cX3_plumb 60 = .ok (.dup, 1) := by decide +kernel
theorem dX3_plumb_61 : decode cX3_plumb 61 = .ok (.getfield 151, 3) := by decide +kernel
theorem dX3_plumb_64 : decode cX3_plumb 64 = .ok (.iconst 1, 1) := by decide +kernel
theorem dX3_plumb_65 : decode cX3_plumb 65 = .ok (.iadd, 1) := by decide +kernel
theorem dX3_plumb_66 : decode cX3_plumb 66 = .ok (.putfield 151, 3) := by decide +kernel
theorem dX3_plumb_69 : decode cX3_plumb 69 = .ok (.aload_n 0, 1) := by decide +kernel
theorem dX3_plumb_70 : decode cX3_plumb 70 = .ok (.getfield 151, 3) := by decide +kernel
theorem dX3_plumb_73 : decode cX3_plumb 73 = .ok (.ireturn, 1) := by decide +kernel
theorem dX3_forget_0 : decode cX3_forget 0 = .ok (.aload_n 0, 1) := by decide +kernel
theorem dX3_forget_1 : decode cX3_forget 1 = .ok (.getfield 151, 3) := by decide +kernel
theorem dX3_forget_4 : decode cX3_forget 4 = .ok (.istore_n 1, 1) := by decide +kernel
theorem dX3_forget_5 : decode cX3_forget 5 = .ok (.aload_n 0, 1) := by decide +kernel
theorem dX3_forget_6 : decode cX3_forget 6 = .ok (.iconst 0, 1) := by decide +kernel
theorem dX3_forget_7 : decode cX3_forget 7 = .ok (.putfield 151, 3) := by decide +kernel
theorem dX3_forget_10 : decode cX3_forget 10 = .ok (.aload_n 0, 1) := by decide +kernel
theorem dX3_forget_11 : decode cX3_forget 11 = .ok (.bipush 63, 2) := by decide +kernel
theorem dX3_forget_13 : decode cX3_forget 13 = .ok (.putfield 26, 3) := by decide +kernel
theorem dX3_forget_16 : decode cX3_forget 16 = .ok (.iload_n 1, 1) := by decide +kernel
theorem dX3_forget_17 : decode cX3_forget 17 = .ok (.ireturn, 1) := by decide +kernel
theorem dX3_where_0 : decode cX3_where 0 = .ok (.aload_n 0, 1) := by decide +kernel
theorem dX3_where_1 : decode cX3_where 1 = .ok (.getfield 26, 3) := by decide +kernel
theorem dX3_where_4 : decode cX3_where 4 = .ok (.ireturn, 1) := by decide +kernel
theorem dX3_hang_0 : decode cX3_hang 0 = .ok (.iconst (-1), 1) := by decide +kernel
theorem dX3_hang_1 : decode cX3_hang 1 = .ok (.istore_n 1, 1) := by decide +kernel
theorem dX3_hang_2 : decode cX3_hang 2 = .ok (.bipush 63, 2) := by decide +kernel
theorem dX3_hang_4 : decode cX3_hang 4 = .ok (.istore_n 2, 1) := by decide +kernel
theorem dX3_hang_5 : decode cX3_hang 5 = .ok (.iconst 0, 1) := by decide +kernel
theorem dX3_hang_6 : decode cX3_hang 6 = .ok (.istore_n 3, 1) := by decide +kernel
theorem dX3_hang_7 : decode cX3_hang 7 = .ok (.iload_n 3, 1) := by decide +kernel
theorem dX3_hang_8 : decode cX3_hang 8 = .ok (.aload_n 0, 1) := by decide +kernel
theorem dX3_hang_9 : decode cX3_hang 9 = .ok (.getfield 39, 3) := by decide +kernel
theorem dX3_hang_12 : decode cX3_hang 12 = .ok (.getfield 157, 3) := by decide +kernel
theorem dX3_hang_15 : decode cX3_hang 15 = .ok (.if_icmp .ge 51, 3) := by decide +kernel
theorem dX3_hang_18 : decode cX3_hang 18 = .ok (.aload_n 0, 1) := by decide +kernel
theorem dX3_hang_19 : decode cX3_hang 19 = .ok (.getfield 26, 3) := by decide +kernel
theorem dX3_hang_22 : decode cX3_hang 22 = .ok (.iload_n 3, 1) := by decide +kernel
theorem dX3_hang_23 : decode cX3_hang 23 = .ok (.invokestatic 154, 3) := by decide +kernel
theorem dX3_hang_26 : decode cX3_hang 26 = .ok (.iand, 1) := by decide +kernel
theorem dX3_hang_27 : decode cX3_hang 27 = .ok (.invokestatic 160, 3) := by decide +kernel
theorem dX3_hang_30 : decode cX3_hang 30 = .ok (.istore 4, 2) := by decide +kernel
theorem dX3_hang_32 : decode cX3_hang 32 = .ok (.iload 4, 2) := by decide +kernel
theorem dX3_hang_34 : decode cX3_hang 34 = .ok (.aload_n 0, 1) := by decide +kernel
theorem dX3_hang_35 : decode cX3_hang 35 = .ok (.getfield 26, 3) := by decide +kernel
theorem dX3_hang_38 : decode cX3_hang 38 = .ok (.invokestatic 160, 3) := by decide +kernel
theorem dX3_hang_41 : decode cX3_hang 41 = .ok (.iload 4, 2) := by decide +kernel
theorem dX3_hang_43 : decode cX3_hang 43 = .ok (.isub, 1) := by decide +kernel
theorem dX3_hang_44 : decode cX3_hang 44 = .ok (.invokestatic 165, 3) := by decide +kernel
theorem dX3_hang_47 : decode cX3_hang 47 = .ok (.istore 5, 2) := by decide +kernel
theorem dX3_hang_49 : decode cX3_hang 49 = .ok (.iload 5, 2) := by decide +kernel
theorem dX3_hang_51 : decode cX3_hang 51 = .ok (.iload_n 2, 1) := by decide +kernel
theorem dX3_hang_52 : decode cX3_hang 52 = .ok (.if_icmp .ge 8, 3) := by decide +kernel
theorem dX3_hang_55 : decode cX3_hang 55 = .ok (.iload_n 3, 1) := by decide +kernel
theorem dX3_hang_56 : decode cX3_hang 56 = .ok (.istore_n 1, 1) := by decide +kernel
theorem dX3_hang_57 : decode cX3_hang 57 = .ok (.iload 5, 2) := by decide +kernel
theorem dX3_hang_59 : decode cX3_hang 59 = .ok (.istore_n 2, 1) := by decide +kernel
theorem dX3_hang_60 : decode cX3_hang 60 = .ok (.iinc 3 1, 3) := by decide +kernel
theorem dX3_hang_63 : decode cX3_hang 63 = .ok (.goto (-56), 3) := by decide +kernel
theorem dX3_hang_66 : decode cX3_hang 66 = .ok (.iload_n 1, 1) := by decide +kernel
theorem dX3_hang_67 : decode cX3_hang 67 = .ok (.ireturn, 1) := by decide +kernel
theorem dX3_from_0 : decode cX3_from 0 = .ok (.aload_n 0, 1) := by decide +kernel
theorem dX3_from_1 : decode cX3_from 1 = .ok (.getfield 39, 3) := by decide +kernel
theorem dX3_from_4 : decode cX3_from 4 = .ok (.iload_n 1, 1) := by decide +kernel
theorem dX3_from_5 : decode cX3_from 5 = .ok (.invokevirtual 61, 3) := by decide +kernel
theorem dX3_from_8 : decode cX3_from 8 = .ok (.ifCond .eq 24, 3) := by decide +kernel
theorem dX3_from_11 : decode cX3_from 11 = .ok (.iload_n 2, 1) := by decide +kernel
theorem dX3_from_12 : decode cX3_from 12 = .ok (.ifCond .lt 20, 3) := by decide +kernel
theorem dX3_from_15 : decode cX3_from 15 = .ok (.iload_n 2, 1) := by decide +kernel
theorem dX3_from_16 : decode cX3_from 16 = .ok (.bipush 9, 2) := by decide +kernel
theorem dX3_from_18 : decode cX3_from 18 = .ok (.if_icmp .gt 14, 3) := by decide +kernel
theorem dX3_from_21 : decode cX3_from 21 = .ok (.iload_n 3, 1) := by decide +kernel
theorem dX3_from_22 : decode cX3_from 22 = .ok (.iconst (-1), 1) := by decide +kernel
theorem dX3_from_23 : decode cX3_from 23 = .ok (.if_icmp .lt 9, 3) := by decide +kernel
theorem dX3_from_26 : decode cX3_from 26 = .ok (.iload_n 3, 1) := by decide +kernel
theorem dX3_from_27 : decode cX3_from 27 = .ok (.bipush 35, 2) := by decide +kernel
theorem dX3_from_29 : decode cX3_from 29 = .ok (.if_icmp .lt 6, 3) := by decide +kernel
theorem dX3_from_32 : decode cX3_from 32 = .ok (.bipush (-2), 2) := by decide +kernel
theorem dX3_from_34 : decode cX3_from 34 = .ok (.ireturn, 1) := by decide +kernel
theorem dX3_from_35 : decode cX3_from 35 = .ok (.lconst 0, 1) := by decide +kernel
theorem dX3_from_36 : decode cX3_from 36 = .ok (.lstore 4, 2) := by decide +kernel
theorem dX3_from_38 : decode cX3_from 38 = .ok (.iconst 0, 1) := by decide +kernel
theorem dX3_from_39 : decode cX3_from 39 = .ok (.istore 6, 2) := by decide +kernel
theorem dX3_from_41 : decode cX3_from 41 = .ok (.iload 6, 2) := by decide +kernel
theorem dX3_from_43 : decode cX3_from 43 = .ok (.aload_n 0, 1) := by decide +kernel
theorem dX3_from_44 : decode cX3_from 44 = .ok (.getfield 39, 3) := by decide +kernel
theorem dX3_from_47 : decode cX3_from 47 = .ok (.getfield 135, 3) := by decide +kernel
theorem dX3_from_50 : decode cX3_from 50 = .ok (.if_icmp .ge 33, 3) := by decide +kernel
theorem dX3_from_53 : decode cX3_from 53 = .ok (.aload_n 0, 1) := by decide +kernel
theorem dX3_from_54 : decode cX3_from 54 = .ok (.getfield 39, 3) := by decide +kernel
theorem dX3_from_57 : decode cX3_from 57 = .ok (.iload 6, 2) := by decide +kernel
theorem dX3_from_59 : decode cX3_from 59 = .ok (.iload_n 2, 1) := by decide +kernel
theorem dX3_from_60 : decode cX3_from 60 = .ok (.invokevirtual 113, 3) := by decide +kernel
theorem dX3_from_63 : decode cX3_from 63 = .ok (.iload_n 1, 1) := by decide +kernel
theorem dX3_from_64 : decode cX3_from 64 = .ok (.if_icmp .ne 13, 3) := by decide +kernel
theorem dX3_from_67 : decode cX3_from 67 = .ok (.lload 4, 2) := by decide +kernel
theorem dX3_from_69 : decode cX3_from 69 = .ok (.iload 6, 2) := by decide +kernel
theorem dX3_from_71 : decode cX3_from 71 = .ok (.invokestatic 170, 3) := by decide +kernel
theorem dX3_from_74 : decode cX3_from 74 = .ok (.lor, 1) := by decide +kernel
theorem dX3_from_75 : decode cX3_from 75 = .ok (.lstore 4, 2) := by decide +kernel
theorem dX3_from_77 : decode cX3_from 77 = .ok (.iinc 6 1, 3) := by decide +kernel
theorem dX3_from_80 : decode cX3_from 80 = .ok (.goto (-39), 3) := by decide +kernel
theorem dX3_from_83 : decode cX3_from 83 = .ok (.lload 4, 2) := by decide +kernel
theorem dX3_from_85 : decode cX3_from 85 = .ok (.iload_n 3, 1) := by decide +kernel
theorem dX3_from_86 : decode cX3_from 86 = .ok (.invokestatic 147, 3) := by decide +kernel
theorem dX3_from_89 : decode cX3_from 89 = .ok (.ireturn, 1) := by decide +kernel
theorem dX3_joined_0 : decode cX3_joined 0 = .ok (.iconst 0, 1) := by decide +kernel
theorem dX3_joined_1 : decode cX3_joined 1 = .ok (.istore_n 1, 1) := by decide +kernel
theorem dX3_joined_2 : decode cX3_joined 2 = .ok (.iconst 0, 1) := by decide +kernel
theorem dX3_joined_3 : decode cX3_joined 3 = .ok (.istore_n 2, 1) := by decide +kernel
theorem dX3_joined_4 : decode cX3_joined 4 = .ok (.iload_n 2, 1) := by decide +kernel
theorem dX3_joined_5 : decode cX3_joined 5 = .ok (.aload_n 0, 1) := by decide +kernel
theorem dX3_joined_6 : decode cX3_joined 6 = .ok (.getfield 39, 3) := by decide +kernel
theorem dX3_joined_9 : decode cX3_joined 9 = .ok (.getfield 135, 3) := by decide +kernel
theorem dX3_joined_12 : decode cX3_joined 12 = .ok (.if_icmp .ge 41, 3) := by decide +kernel
theorem dX3_joined_15 : decode cX3_joined 15 = .ok (.aload_n 0, 1) := by decide +kernel
theorem dX3_joined_16 : decode cX3_joined 16 = .ok (.getfield 39, 3) := by decide +kernel
theorem dX3_joined_19 : decode cX3_joined 19 = .ok (.iload_n 2, 1) := by decide +kernel
theorem dX3_joined_20 : decode cX3_joined 20 = .ok (.invokevirtual 65, 3) := by decide +kernel
theorem dX3_joined_23 : decode cX3_joined 23 = .ok (.aload_n 0, 1) := by decide +kernel
theorem dX3_joined_24 : decode cX3_joined 24 = .ok (.getfield 39, 3) := by decide +kernel
theorem dX3_joined_27 : decode cX3_joined 27 = .ok (.aload_n 0, 1) := by decide +kernel
theorem dX3_joined_28 : decode cX3_joined 28 = .ok (.getfield 39, 3) := by decide +kernel
theorem dX3_joined_31 : decode cX3_joined 31 = .ok (.getfield 135, 3) := by decide +kernel
theorem dX3_joined_34 : decode cX3_joined 34 = .ok (.iconst 1, 1) := by decide +kernel
theorem dX3_joined_35 : decode cX3_joined 35 = .ok (.isub, 1) := by decide +kernel
theorem dX3_joined_36 : decode cX3_joined 36 = .ok (.iload_n 2, 1) := by decide +kernel
theorem dX3_joined_37 : decode cX3_joined 37 = .ok (.isub, 1) := by decide +kernel
theorem dX3_joined_38 : decode cX3_joined 38 = .ok (.invokevirtual 65, 3) := by decide +kernel
theorem dX3_joined_41 : decode cX3_joined 41 = .ok (.if_icmp .eq 6, 3) := by decide +kernel
theorem dX3_joined_44 : decode cX3_joined 44 = .ok (.iinc 1 1, 3) := by decide +kernel
theorem dX3_joined_47 : decode cX3_joined 47 = .ok (.iinc 2 1, 3) := by decide +kernel
theorem dX3_joined_50 : decode cX3_joined 50 = .ok (.goto (-46), 3) := by decide +kernel
theorem dX3_joined_53 : decode cX3_joined 53 = .ok (.iload_n 1, 1) := by decide +kernel
theorem dX3_joined_54 : decode cX3_joined 54 = .ok (.ireturn, 1) := by decide +kernel
theorem dX3_like_0 : decode cX3_like 0 = .ok (.iload_n 1, 1) := by decide +kernel
theorem dX3_like_1 : decode cX3_like 1 = .ok (.iconst 1, 1) := by decide +kernel
theorem dX3_like_2 : decode cX3_like 2 = .ok (.if_icmp .lt 9, 3) := by decide +kernel
theorem dX3_like_5 : decode cX3_like 5 = .ok (.iload_n 1, 1) := by decide +kernel
theorem dX3_like_6 : decode cX3_like 6 = .ok (.bipush 7, 2) := by decide +kernel
theorem dX3_like_8 : decode cX3_like 8 = .ok (.if_icmp .lt 6, 3) := by decide +kernel
theorem dX3_like_11 : decode cX3_like 11 = .ok (.bipush (-2), 2) := by decide +kernel
theorem dX3_like_13 : decode cX3_like 13 = .ok (.ireturn, 1) := by decide +kernel
theorem dX3_like_14 : decode cX3_like 14 = .ok (.iconst 0, 1) := by decide +kernel
theorem dX3_like_15 : decode cX3_like 15 = .ok (.istore_n 2, 1) := by decide +kernel
theorem dX3_like_16 : decode cX3_like 16 = .ok (.iconst 0, 1) := by decide +kernel
theorem dX3_like_17 : decode cX3_like 17 = .ok (.istore_n 3, 1) := by decide +kernel
theorem dX3_like_18 : decode cX3_like 18 = .ok (.iload_n 3, 1) := by decide +kernel
theorem dX3_like_19 : decode cX3_like 19 = .ok (.aload_n 0, 1) := by decide +kernel
theorem dX3_like_20 : decode cX3_like 20 = .ok (.getfield 39, 3) := by decide +kernel
theorem dX3_like_23 : decode cX3_like 23 = .ok (.getfield 157, 3) := by decide +kernel
theorem dX3_like_26 : decode cX3_like 26 = .ok (.if_icmp .ge 74, 3) := by decide +kernel
theorem dX3_like_29 : decode cX3_like 29 = .ok (.iload_n 3, 1) := by decide +kernel
theorem dX3_like_30 : decode cX3_like 30 = .ok (.iconst 1, 1) := by decide +kernel
theorem dX3_like_31 : decode cX3_like 31 = .ok (.iadd, 1) := by decide +kernel
theorem dX3_like_32 : decode cX3_like 32 = .ok (.aload_n 0, 1) := by decide +kernel
theorem dX3_like_33 : decode cX3_like 33 = .ok (.getfield 39, 3) := by decide +kernel
theorem dX3_like_36 : decode cX3_like 36 = .ok (.getfield 173, 3) := by decide +kernel
theorem dX3_like_39 : decode cX3_like 39 = .ok (.imul, 1) := by decide +kernel
theorem dX3_like_40 : decode cX3_like 40 = .ok (.istore 4, 2) := by decide +kernel
theorem dX3_like_42 : decode cX3_like 42 = .ok (.iload_n 3, 1) := by decide +kernel
theorem dX3_like_43 : decode cX3_like 43 = .ok (.aload_n 0, 1) := by decide +kernel
theorem dX3_like_44 : decode cX3_like 44 = .ok (.getfield 39, 3) := by decide +kernel
theorem dX3_like_47 : decode cX3_like 47 = .ok (.getfield 173, 3) := by decide +kernel
theorem dX3_like_50 : decode cX3_like 50 = .ok (.imul, 1) := by decide +kernel
theorem dX3_like_51 : decode cX3_like 51 = .ok (.istore 5, 2) := by decide +kernel
theorem dX3_like_53 : decode cX3_like 53 = .ok (.iload 5, 2) := by decide +kernel
theorem dX3_like_55 : decode cX3_like 55 = .ok (.iload_n 1, 1) := by decide +kernel
theorem dX3_like_56 : decode cX3_like 56 = .ok (.iadd, 1) := by decide +kernel
theorem dX3_like_57 : decode cX3_like 57 = .ok (.iload 4, 2) := by decide +kernel
theorem dX3_like_59 : decode cX3_like 59 = .ok (.if_icmp .ge 35, 3) := by decide +kernel
theorem dX3_like_62 : decode cX3_like 62 = .ok (.aload_n 0, 1) := by decide +kernel
theorem dX3_like_63 : decode cX3_like 63 = .ok (.getfield 39, 3) := by decide +kernel
theorem dX3_like_66 : decode cX3_like 66 = .ok (.iload 5, 2) := by decide +kernel
theorem dX3_like_68 : decode cX3_like 68 = .ok (.invokevirtual 65, 3) := by decide +kernel
theorem dX3_like_71 : decode cX3_like 71 = .ok (.aload_n 0, 1) := by decide +kernel
theorem dX3_like_72 : decode cX3_like 72 = .ok (.getfield 39, 3) := by decide +kernel
theorem dX3_like_75 : decode cX3_like 75 = .ok (.iload 5, 2) := by decide +kernel
theorem dX3_like_77 : decode cX3_like 77 = .ok (.iload_n 1, 1) := by decide +kernel
theorem dX3_like_78 : decode cX3_like 78 = .ok (.iadd, 1) := by decide +kernel
theorem dX3_like_79 : decode cX3_like 79 = .ok (.invokevirtual 65, 3) := by decide +kernel
theorem dX3_like_82 : decode cX3_like 82 = .ok (.if_icmp .eq 6, 3) := by decide +kernel
theorem dX3_like_85 : decode cX3_like 85 = .ok (.iinc 2 1, 3) := by decide +kernel
theorem dX3_like_88 : decode cX3_like 88 = .ok (.iinc 5 1, 3) := by decide +kernel
theorem dX3_like_91 : decode cX3_like 91 = .ok (.goto (-38), 3) := by decide +kernel
theorem dX3_like_94 : decode cX3_like 94 = .ok (.iinc 3 1, 3) := by decide +kernel
theorem dX3_like_97 : decode cX3_like 97 = .ok (.goto (-79), 3) := by decide +kernel
theorem dX3_like_100 : decode cX3_like 100 = .ok (.iload_n 2, 1) := by decide +kernel
theorem dX3_like_101 : decode cX3_like 101 = .ok (.ireturn, 1) := by decide +kernel
theorem dX3_flood_0 : decode cX3_flood 0 = .ok (.iload_n 1, 1) := by decide +kernel
theorem dX3_flood_1 : decode cX3_flood 1 = .ok (.ifCond .lt 44, 3) := by decide +kernel
theorem dX3_flood_4 : decode cX3_flood 4 = .ok (.iload_n 1, 1) := by decide +kernel
theorem dX3_flood_5 : decode cX3_flood 5 = .ok (.bipush 16, 2) := by decide +kernel
theorem dX3_flood_7 : decode cX3_flood 7 = .ok (.if_icmp .gt 38, 3) := by decide +kernel
theorem dX3_flood_10 : decode cX3_flood 10 = .ok (.aload_n 0, 1) := by decide +kernel
theorem dX3_flood_11 : decode cX3_flood 11 = .ok (.getfield 39, 3) := by decide +kernel
theorem dX3_flood_14 : decode cX3_flood 14 = .ok (.iload_n 2, 1) := by decide +kernel
theorem dX3_flood_15 : decode cX3_flood 15 = .ok (.invokevirtual 61, 3) := by decide +kernel
theorem dX3_flood_18 : decode cX3_flood 18 = .ok (.ifCond .eq 27, 3) := by decide +kernel
theorem dX3_flood_21 : decode cX3_flood 21 = .ok (.iload_n 3, 1) := by decide +kernel
theorem dX3_flood_22 : decode cX3_flood 22 = .ok (.ifCond .lt 23, 3) := by decide +kernel
theorem dX3_flood_25 : decode cX3_flood 25 = .ok (.iload_n 3, 1) := by decide +kernel
theorem dX3_flood_26 : decode cX3_flood 26 = .ok (.iconst 1, 1) := by decide +kernel
theorem dX3_flood_27 : decode cX3_flood 27 = .ok (.if_icmp .gt 18, 3) := by decide +kernel
theorem dX3_flood_30 : decode cX3_flood 30 = .ok (.aload_n 0, 1) := by decide +kernel
theorem dX3_flood_31 : decode cX3_flood 31 = .ok (.getfield 39, 3) := by decide +kernel
theorem dX3_flood_34 : decode cX3_flood 34 = .ok (.getfield 176, 3) := by decide +kernel
theorem dX3_flood_37 : decode cX3_flood 37 = .ok (.invokestatic 179, 3) := by decide +kernel
theorem dX3_flood_40 : decode cX3_flood 40 = .ok (.bipush 9, 2) := by decide +kernel
theorem dX3_flood_42 : decode cX3_flood 42 = .ok (.if_icmp .le 7, 3) := by decide +kernel
theorem dX3_flood_45 : decode cX3_flood 45 = .ok (.ldc2_w 184, 3) := by decide +kernel
theorem dX3_flood_48 : decode cX3_flood 48 = .ok (.lreturn, 1) := by decide +kernel
theorem dX3_flood_49 : decode cX3_flood 49 = .ok (.aload_n 0, 1) := by decide +kernel
theorem dX3_flood_50 : decode cX3_flood 50 = .ok (.getfield 39, 3) := by decide +kernel
theorem dX3_flood_53 : decode cX3_flood 53 = .ok (.iload_n 2, 1) := by decide +kernel
theorem dX3_flood_54 : decode cX3_flood 54 = .ok (.invokevirtual 186, 3) := by decide +kernel
theorem dX3_flood_57 : decode cX3_flood 57 = .ok (.istore 4, 2) := by decide +kernel
theorem dX3_flood_59 : decode cX3_flood 59 = .ok (.lconst 1, 1) := by decide +kernel
theorem dX3_flood_60 : decode cX3_flood 60 = .ok (.lstore 5, 2) := by decide +kernel
theorem dX3_flood_62 : decode cX3_flood 62 = .ok (.lconst 1, 1) := by decide +kernel
theorem dX3_flood_63 : decode cX3_flood 63 = .ok (.lstore 7, 2) := by decide +kernel
theorem dX3_flood_65 : decode cX3_flood 65 = .ok (.iconst 0, 1) := by decide +kernel
theorem dX3_flood_66 : decode cX3_flood 66 = .ok (.istore 9, 2) := by decide +kernel
theorem dX3_flood_68 : decode cX3_flood 68 = .ok (.iload 9, 2) := by decide +kernel
theorem dX3_flood_70 : decode cX3_flood 70 = .ok (.iload 4, 2) := by decide +kernel
theorem dX3_flood_72 : decode cX3_flood 72 = .ok (.if_icmp .ge 34, 3) := by decide +kernel
theorem dX3_flood_75 : decode cX3_flood 75 = .ok (.iload 9, 2) := by decide +kernel
theorem dX3_flood_77 : decode cX3_flood 77 = .ok (.bipush 9, 2) := by decide +kernel
theorem dX3_flood_79 : decode cX3_flood 79 = .ok (.if_icmp .ge 27, 3) := by decide +kernel
theorem dX3_flood_82 : decode cX3_flood 82 = .ok (.lload 5, 2) := by decide +kernel
theorem dX3_flood_84 : decode cX3_flood 84 = .ok (.ldc2_w 189, 3) := by decide +kernel
theorem dX3_flood_87 : decode cX3_flood 87 = .ok (.lmul, 1) := by decide +kernel
theorem dX3_flood_88 : decode cX3_flood 88 = .ok (.lstore 5, 2) := by decide +kernel
theorem dX3_flood_90 : decode cX3_flood 90 = .ok (.lload 7, 2) := by decide +kernel
theorem dX3_flood_92 : decode cX3_flood 92 = .ok (.bipush 16, 2) := by decide +kernel
theorem dX3_flood_94 : decode cX3_flood 94 = .ok (.iload_n 1, 1) := by decide +kernel
theorem dX3_flood_95 : decode cX3_flood 95 = .ok (.isub, 1) := by decide +kernel
theorem dX3_flood_96 : decode cX3_flood 96 = .ok (.i2l, 1) := by decide +kernel
theorem dX3_flood_97 : decode cX3_flood 97 = .ok (.lmul, 1) := by decide +kernel
theorem dX3_flood_98 : decode cX3_flood 98 = .ok (.lstore 7, 2) := by decide +kernel
theorem dX3_flood_100 : decode cX3_flood 100 = .ok (.iinc 9 1, 3) := by decide +kernel
theorem dX3_flood_103 : decode cX3_flood 103 = .ok (.goto (-35), 3) := by decide +kernel
theorem dX3_flood_106 : decode cX3_flood 106 = .ok (.lload 5, 2) := by decide +kernel
theorem dX3_flood_108 : decode cX3_flood 108 = .ok (.lload 7, 2) := by decide +kernel
theorem dX3_flood_110 : decode cX3_flood 110 = .ok (.lsub, 1) := by decide +kernel
theorem dX3_flood_111 : decode cX3_flood 111 = .ok (.lstore 9, 2) := by decide +kernel
theorem dX3_flood_113 : decode cX3_flood 113 = .ok (.iconst 0, 1) := by decide +kernel
theorem dX3_flood_114 : decode cX3_flood 114 = .ok (.istore 11, 2) := by decide +kernel
theorem dX3_flood_116 : decode cX3_flood 116 = .ok (.iload 11, 2) := by decide +kernel
theorem dX3_flood_118 : decode cX3_flood 118 = .ok (.bipush 36, 2) := by decide +kernel
theorem dX3_flood_120 : decode cX3_flood 120 = .ok (.if_icmp .ge 33, 3) := by decide +kernel
theorem dX3_flood_123 : decode cX3_flood 123 = .ok (.lload 9, 2) := by decide +kernel
theorem dX3_flood_125 : decode cX3_flood 125 = .ok (.lload 5, 2) := by decide +kernel
theorem dX3_flood_127 : decode cX3_flood 127 = .ok (.lor, 1) := by decide +kernel
theorem dX3_flood_128 : decode cX3_flood 128 = .ok (.lconst 1, 1) := by decide +kernel
theorem dX3_flood_129 : decode cX3_flood 129 = .ok (.land, 1) := by decide +kernel
theorem dX3_flood_130 : decode cX3_flood 130 = .ok (.lconst 0, 1) := by decide +kernel
theorem dX3_flood_131 : decode cX3_flood 131 = .ok (.lcmp, 1) := by decide +kernel
theorem dX3_flood_132 : decode cX3_flood 132 = .ok (.ifCond .ne 21, 3) := by decide +kernel
theorem dX3_flood_135 : decode cX3_flood 135 = .ok (.lload 9, 2) := by decide +kernel
theorem dX3_flood_137 : decode cX3_flood 137 = .ok (.iconst 1, 1) := by decide +kernel
theorem dX3_flood_138 : decode cX3_flood 138 = .ok (.lshr, 1) := by decide +kernel
theorem dX3_flood_139 : decode cX3_flood 139 = .ok (.lstore 9, 2) := by decide +kernel
theorem dX3_flood_141 : decode cX3_flood 141 = .ok (.lload 5, 2) := by decide +kernel
theorem dX3_flood_143 : decode cX3_flood 143 = .ok (.iconst 1, 1) := by decide +kernel
theorem dX3_flood_144 : decode cX3_flood 144 = .ok (.lshr, 1) := by decide +kernel
theorem dX3_flood_145 : decode cX3_flood 145 = .ok (.lstore 5, 2) := by decide +kernel
theorem dX3_flood_147 : decode cX3_flood 147 = .ok (.iinc 11 1, 3) := by decide +kernel
theorem dX3_flood_150 : decode cX3_flood 150 = .ok (.goto (-34), 3) := by decide +kernel
theorem dX3_flood_153 : decode cX3_flood 153 = .ok (.iload_n 3, 1) := by decide +kernel
theorem dX3_flood_154 : decode cX3_flood 154 = .ok (.ifCond .ne 8, 3) := by decide +kernel
theorem dX3_flood_157 : decode cX3_flood 157 = .ok (.lload 9, 2) := by decide +kernel
theorem dX3_flood_159 : decode cX3_flood 159 = .ok (.goto 5, 3) := by decide +kernel
theorem dX3_flood_162 : decode cX3_flood 162 = .ok (.lload 5, 2) := by decide +kernel
theorem dX3_flood_164 : decode cX3_flood 164 = .ok (.lreturn, 1) := by decide +kernel
theorem dX3_kicks_0 : decode cX3_kicks 0 = .ok (.aload_n 0, 1) := by decide +kernel
theorem dX3_kicks_1 : decode cX3_kicks 1 = .ok (.getfield 39, 3) := by decide +kernel
theorem dX3_kicks_4 : decode cX3_kicks 4 = .ok (.iload_n 2, 1) := by decide +kernel
theorem dX3_kicks_5 : decode cX3_kicks 5 = .ok (.invokevirtual 61, 3) := by decide +kernel
theorem dX3_kicks_8 : decode cX3_kicks 8 = .ok (.ifCond .eq 28, 3) := by decide +kernel
theorem dX3_kicks_11 : decode cX3_kicks 11 = .ok (.aload_n 0, 1) := by decide +kernel
theorem dX3_kicks_12 : decode cX3_kicks 12 = .ok (.getfield 39, 3) := by decide +kernel
theorem dX3_kicks_15 : decode cX3_kicks 15 = .ok (.getfield 119, 3) := by decide +kernel
theorem dX3_kicks_18 : decode cX3_kicks 18 = .ok (.iload_n 2, 1) := by decide +kernel
theorem dX3_kicks_19 : decode cX3_kicks 19 = .ok (.invokestatic 76, 3) := by decide +kernel
theorem dX3_kicks_22 : decode cX3_kicks 22 = .ok (.ifCond .eq 14, 3) := by decide +kernel
theorem dX3_kicks_25 : decode cX3_kicks 25 = .ok (.iload_n 3, 1) := by decide +kernel
theorem dX3_kicks_26 : decode cX3_kicks 26 = .ok (.iconst 1, 1) := by decide +kernel
theorem dX3_kicks_27 : decode cX3_kicks 27 = .ok (.if_icmp .lt 9, 3) := by decide +kernel
theorem dX3_kicks_30 : decode cX3_kicks 30 = .ok (.iload_n 3, 1) := by decide +kernel
theorem dX3_kicks_31 : decode cX3_kicks 31 = .ok (.bipush 40, 2) := by decide +kernel
theorem dX3_kicks_33 : decode cX3_kicks 33 = .ok (.if_icmp .le 6, 3) := by decide +kernel
theorem dX3_kicks_36 : decode cX3_kicks 36 = .ok (.bipush (-2), 2) := by decide +kernel
theorem dX3_kicks_38 : decode cX3_kicks 38 = .ok (.ireturn, 1) := by decide +kernel
theorem dX3_kicks_39 : decode cX3_kicks 39 = .ok (.iload_n 2, 1) := by decide +kernel
theorem dX3_kicks_40 : decode cX3_kicks 40 = .ok (.istore 4, 2) := by decide +kernel
theorem dX3_kicks_42 : decode cX3_kicks 42 = .ok (.iload_n 1, 1) := by decide +kernel
theorem dX3_kicks_43 : decode cX3_kicks 43 = .ok (.istore 5, 2) := by decide +kernel
theorem dX3_kicks_45 : decode cX3_kicks 45 = .ok (.iconst 0, 1) := by decide +kernel
theorem dX3_kicks_46 : decode cX3_kicks 46 = .ok (.istore 6, 2) := by decide +kernel
theorem dX3_kicks_48 : decode cX3_kicks 48 = .ok (.iload 6, 2) := by decide +kernel
theorem dX3_kicks_50 : decode cX3_kicks 50 = .ok (.iload_n 3, 1) := by decide +kernel
theorem dX3_kicks_51 : decode cX3_kicks 51 = .ok (.if_icmp .ge 67, 3) := by decide +kernel
theorem dX3_kicks_54 : decode cX3_kicks 54 = .ok (.aload_n 0, 1) := by decide +kernel
theorem dX3_kicks_55 : decode cX3_kicks 55 = .ok (.getfield 39, 3) := by decide +kernel
theorem dX3_kicks_58 : decode cX3_kicks 58 = .ok (.getfield 73, 3) := by decide +kernel
theorem dX3_kicks_61 : decode cX3_kicks 61 = .ok (.iload 4, 2) := by decide +kernel
theorem dX3_kicks_63 : decode cX3_kicks 63 = .ok (.invokestatic 76, 3) := by decide +kernel
theorem dX3_kicks_66 : decode cX3_kicks 66 = .ok (.ifCond .eq 35, 3) := by decide +kernel
theorem dX3_kicks_69 : decode cX3_kicks 69 = .ok (.ldc 191, 2) := by decide +kernel
theorem dX3_kicks_71 : decode cX3_kicks 71 = .ok (.iload 5, 2) := by decide +kernel
theorem dX3_kicks_73 : decode cX3_kicks 73 = .ok (.imul, 1) := by decide +kernel
theorem dX3_kicks_74 : decode cX3_kicks 74 = .ok (.sipush 12345, 3) := by decide +kernel
theorem dX3_kicks_77 : decode cX3_kicks 77 = .ok (.iadd, 1) := by decide +kernel
theorem dX3_kicks_78 : decode cX3_kicks 78 = .ok (.istore 5, 2) := by decide +kernel
theorem dX3_kicks_80 : decode cX3_kicks 80 = .ok (.aload_n 0, 1) := by decide +kernel
theorem dX3_kicks_81 : decode cX3_kicks 81 = .ok (.getfield 39, 3) := by decide +kernel
theorem dX3_kicks_84 : decode cX3_kicks 84 = .ok (.iload 4, 2) := by decide +kernel
theorem dX3_kicks_86 : decode cX3_kicks 86 = .ok (.iload 5, 2) := by decide +kernel
theorem dX3_kicks_88 : decode cX3_kicks 88 = .ok (.bipush 16, 2) := by decide +kernel
theorem dX3_kicks_90 : decode cX3_kicks 90 = .ok (.iushr, 1) := by decide +kernel
theorem dX3_kicks_91 : decode cX3_kicks 91 = .ok (.iconst 3, 1) := by decide +kernel
theorem dX3_kicks_92 : decode cX3_kicks 92 = .ok (.irem, 1) := by decide +kernel
theorem dX3_kicks_93 : decode cX3_kicks 93 = .ok (.invokevirtual 192, 3) := by decide +kernel
theorem dX3_kicks_96 : decode cX3_kicks 96 = .ok (.istore 4, 2) := by decide +kernel
theorem dX3_kicks_98 : decode cX3_kicks 98 = .ok (.goto 14, 3) := by decide +kernel
theorem dX3_kicks_101 : decode cX3_kicks 101 = .ok (.aload_n 0, 1) := by decide +kernel
theorem dX3_kicks_102 : decode cX3_kicks 102 = .ok (.getfield 39, 3) := by decide +kernel
theorem dX3_kicks_105 : decode cX3_kicks 105 = .ok (.iload 4, 2) := by decide +kernel
theorem dX3_kicks_107 : decode cX3_kicks 107 = .ok (.invokevirtual 195, 3) := by decide +kernel
theorem dX3_kicks_110 : decode cX3_kicks 110 = .ok (.istore 4, 2) := by decide +kernel
theorem dX3_kicks_112 : decode cX3_kicks 112 = .ok (.iinc 6 1, 3) := by decide +kernel
theorem dX3_kicks_115 : decode cX3_kicks 115 = .ok (.goto (-67), 3) := by decide +kernel
theorem dX3_kicks_118 : decode cX3_kicks 118 = .ok (.iload 4, 2) := by decide +kernel
theorem dX3_kicks_120 : decode cX3_kicks 120 = .ok (.ireturn, 1) := by decide +kernel
theorem dX3_sheet_0 : decode cX3_sheet 0 = .ok (.iload_n 1, 1) := by decide +kernel
theorem dX3_sheet_1 : decode cX3_sheet 1 = .ok (.invokestatic 90, 3) := by decide +kernel
theorem dX3_sheet_4 : decode cX3_sheet 4 = .ok (.ifCond .eq 16, 3) := by decide +kernel
theorem dX3_sheet_7 : decode cX3_sheet 7 = .ok (.iload_n 2, 1) := by decide +kernel
theorem dX3_sheet_8 : decode cX3_sheet 8 = .ok (.invokestatic 198, 3) := by decide +kernel
theorem dX3_sheet_11 : decode cX3_sheet 11 = .ok (.ifCond .eq 9, 3) := by decide +kernel
theorem dX3_sheet_14 : decode cX3_sheet 14 = .ok (.iload_n 3, 1) := by decide +kernel
theorem dX3_sheet_15 : decode cX3_sheet 15 = .ok (.bipush 48, 2) := by decide +kernel
theorem dX3_sheet_17 : decode cX3_sheet 17 = .ok (.if_icmp .le 6, 3) := by decide +kernel
theorem dX3_sheet_20 : decode cX3_sheet 20 = .ok (.bipush (-2), 2) := by decide +kernel
theorem dX3_sheet_22 : decode cX3_sheet 22 = .ok (.ireturn, 1) := by decide +kernel
theorem dX3_sheet_23 : decode cX3_sheet 23 = .ok (.iload_n 3, 1) := by decide +kernel
theorem dX3_sheet_24 : decode cX3_sheet 24 = .ok (.ifCond .ge 9, 3) := by decide +kernel
theorem dX3_sheet_27 : decode cX3_sheet 27 = .ok (.aload_n 0, 1) := by decide +kernel
theorem dX3_sheet_28 : decode cX3_sheet 28 = .ok (.iconst 5, 1) := by decide +kernel
theorem dX3_sheet_29 : decode cX3_sheet 29 = .ok (.invokevirtual 97, 3) := by decide +kernel
theorem dX3_sheet_32 : decode cX3_sheet 32 = .ok (.ireturn, 1) := by decide +kernel
theorem dX3_sheet_33 : decode cX3_sheet 33 = .ok (.aload_n 0, 1) := by decide +kernel
theorem dX3_sheet_34 : decode cX3_sheet 34 = .ok (.getfield 31, 3) := by decide +kernel
theorem dX3_sheet_37 : decode cX3_sheet 37 = .ok (.iload_n 1, 1) := by decide +kernel
theorem dX3_sheet_38 : decode cX3_sheet 38 = .ok (.aaload, 1) := by decide +kernel
theorem dX3_sheet_39 : decode cX3_sheet 39 = .ok (.iload_n 2, 1) := by decide +kernel
theorem dX3_sheet_40 : decode cX3_sheet 40 = .ok (.iload_n 3, 1) := by decide +kernel
theorem dX3_sheet_41 : decode cX3_sheet 41 = .ok (.invokevirtual 201, 3) := by decide +kernel
theorem dX3_sheet_44 : decode cX3_sheet 44 = .ok (.iload_n 3, 1) := by decide +kernel
theorem dX3_sheet_45 : decode cX3_sheet 45 = .ok (.ireturn, 1) := by decide +kernel
theorem dX3_lose_0 : decode cX3_lose 0 = .ok (.iload_n 1, 1) := by decide +kernel
theorem dX3_lose_1 : decode cX3_lose 1 = .ok (.invokestatic 90, 3) := by decide +kernel
theorem dX3_lose_4 : decode cX3_lose 4 = .ok (.ifCond .ne 6, 3) := by decide +kernel
theorem dX3_lose_7 : decode cX3_lose 7 = .ok (.bipush (-2), 2) := by decide +kernel
theorem dX3_lose_9 : decode cX3_lose 9 = .ok (.ireturn, 1) := by decide +kernel
theorem dX3_lose_10 : decode cX3_lose 10 = .ok (.aload_n 0, 1) := by decide +kernel
theorem dX3_lose_11 : decode cX3_lose 11 = .ok (.getfield 31, 3) := by decide +kernel
theorem dX3_lose_14 : decode cX3_lose 14 = .ok (.iload_n 1, 1) := by decide +kernel
theorem dX3_lose_15 : decode cX3_lose 15 = .ok (.aaload, 1) := by decide +kernel
theorem dX3_lose_16 : decode cX3_lose 16 = .ok (.getfield 93, 3) := by decide +kernel
theorem dX3_lose_19 : decode cX3_lose 19 = .ok (.ifCond .eq 9, 3) := by decide +kernel
theorem dX3_lose_22 : decode cX3_lose 22 = .ok (.aload_n 0, 1) := by decide +kernel
theorem dX3_lose_23 : decode cX3_lose 23 = .ok (.iconst 1, 1) := by decide +kernel
theorem dX3_lose_24 : decode cX3_lose 24 = .ok (.invokevirtual 97, 3) := by decide +kernel
theorem dX3_lose_27 : decode cX3_lose 27 = .ok (.ireturn, 1) := by decide +kernel
theorem dX3_lose_28 : decode cX3_lose 28 = .ok (.aload_n 0, 1) := by decide +kernel
theorem dX3_lose_29 : decode cX3_lose 29 = .ok (.getfield 31, 3) := by decide +kernel
theorem dX3_lose_32 : decode cX3_lose 32 = .ok (.iload_n 1, 1) := by decide +kernel
theorem dX3_lose_33 : decode cX3_lose 33 = .ok (.aaload, 1) := by decide +kernel
theorem dX3_lose_34 : decode cX3_lose 34 = .ok (.iconst 1, 1) := by decide +kernel
theorem dX3_lose_35 : decode cX3_lose 35 = .ok (.putfield 93, 3) := by decide +kernel
theorem dX3_lose_38 : decode cX3_lose 38 = .ok (.aload_n 0, 1) := by decide +kernel
theorem dX3_lose_39 : decode cX3_lose 39 = .ok (.getfield 31, 3) := by decide +kernel
theorem dX3_lose_42 : decode cX3_lose 42 = .ok (.iload_n 1, 1) := by decide +kernel
theorem dX3_lose_43 : decode cX3_lose 43 = .ok (.aaload, 1) := by decide +kernel
theorem dX3_lose_44 : decode cX3_lose 44 = .ok (.getfield 100, 3) := by decide +kernel
theorem dX3_lose_47 : decode cX3_lose 47 = .ok (.ireturn, 1) := by decide +kernel
theorem dX3_put_0 : decode cX3_put 0 = .ok (.aload_n 0, 1) := by decide +kernel
theorem dX3_put_1 : decode cX3_put 1 = .ok (.iload_n 1, 1) := by decide +kernel
theorem dX3_put_2 : decode cX3_put 2 = .ok (.iload_n 2, 1) := by decide +kernel
theorem dX3_put_3 : decode cX3_put 3 = .ok (.iload_n 3, 1) := by decide +kernel
theorem dX3_put_4 : decode cX3_put 4 = .ok (.invokevirtual 205, 3) := by decide +kernel
theorem dX3_put_7 : decode cX3_put 7 = .ok (.istore 5, 2) := by decide +kernel
theorem dX3_put_9 : decode cX3_put 9 = .ok (.iload 5, 2) := by decide +kernel
theorem dX3_put_11 : decode cX3_put 11 = .ok (.ifCond .eq 6, 3) := by decide +kernel
theorem dX3_put_14 : decode cX3_put 14 = .ok (.iload 5, 2) := by decide +kernel
theorem dX3_put_16 : decode cX3_put 16 = .ok (.ireturn, 1) := by decide +kernel
theorem dX3_put_17 : decode cX3_put 17 = .ok (.aload_n 0, 1) := by decide +kernel
theorem dX3_put_18 : decode cX3_put 18 = .ok (.getfield 31, 3) := by decide +kernel
theorem dX3_put_21 : decode cX3_put 21 = .ok (.iload_n 1, 1) := by decide +kernel
theorem dX3_put_22 : decode cX3_put 22 = .ok (.aaload, 1) := by decide +kernel
theorem dX3_put_23 : decode cX3_put 23 = .ok (.iload_n 3, 1) := by decide +kernel
theorem dX3_put_24 : decode cX3_put 24 = .ok (.iload 4, 2) := by decide +kernel
theorem dX3_put_26 : decode cX3_put 26 = .ok (.invokevirtual 208, 3) := by decide +kernel
theorem dX3_put_29 : decode cX3_put 29 = .ok (.iconst 1, 1) := by decide +kernel
theorem dX3_put_30 : decode cX3_put 30 = .ok (.ireturn, 1) := by decide +kernel
theorem dX3_get_0 : decode cX3_get 0 = .ok (.aload_n 0, 1) := by decide +kernel
theorem dX3_get_1 : decode cX3_get 1 = .ok (.iload_n 1, 1) := by decide +kernel
theorem dX3_get_2 : decode cX3_get 2 = .ok (.iload_n 2, 1) := by decide +kernel
theorem dX3_get_3 : decode cX3_get 3 = .ok (.iload_n 3, 1) := by decide +kernel
theorem dX3_get_4 : decode cX3_get 4 = .ok (.invokevirtual 205, 3) := by decide +kernel
theorem dX3_get_7 : decode cX3_get 7 = .ok (.ifCond .eq 6, 3) := by decide +kernel
theorem dX3_get_10 : decode cX3_get 10 = .ok (.ldc 211, 2) := by decide +kernel
theorem dX3_get_12 : decode cX3_get 12 = .ok (.ireturn, 1) := by decide +kernel
theorem dX3_get_13 : decode cX3_get 13 = .ok (.aload_n 0, 1) := by decide +kernel
theorem dX3_get_14 : decode cX3_get 14 = .ok (.getfield 31, 3) := by decide +kernel
theorem dX3_get_17 : decode cX3_get 17 = .ok (.iload_n 1, 1) := by decide +kernel
theorem dX3_get_18 : decode cX3_get 18 = .ok (.aaload, 1) := by decide +kernel
theorem dX3_get_19 : decode cX3_get 19 = .ok (.getfield 103, 3) := by decide +kernel
theorem dX3_get_22 : decode cX3_get 22 = .ok (.iload_n 3, 1) := by decide +kernel
theorem dX3_get_23 : decode cX3_get 23 = .ok (.iaload, 1) := by decide +kernel
theorem dX3_get_24 : decode cX3_get 24 = .ok (.ireturn, 1) := by decide +kernel
theorem dX3_copy_0 : decode cX3_copy 0 = .ok (.iload_n 1, 1) := by decide +kernel
theorem dX3_copy_1 : decode cX3_copy 1 = .ok (.invokestatic 90, 3) := by decide +kernel
theorem dX3_copy_4 : decode cX3_copy 4 = .ok (.ifCond .eq 10, 3) := by decide +kernel
theorem dX3_copy_7 : decode cX3_copy 7 = .ok (.iload_n 3, 1) := by decide +kernel
theorem dX3_copy_8 : decode cX3_copy 8 = .ok (.invokestatic 90, 3) := by decide +kernel
theorem dX3_copy_11 : decode cX3_copy 11 = .ok (.ifCond .ne 6, 3) := by decide +kernel
theorem dX3_copy_14 : decode cX3_copy 14 = .ok (.bipush (-2), 2) := by decide +kernel
theorem dX3_copy_16 : decode cX3_copy 16 = .ok (.ireturn, 1) := by decide +kernel
theorem dX3_copy_17 : decode cX3_copy 17 = .ok (.aload_n 0, 1) := by decide +kernel
theorem dX3_copy_18 : decode cX3_copy 18 = .ok (.getfield 31, 3) := by decide +kernel
theorem dX3_copy_21 : decode cX3_copy 21 = .ok (.iload_n 1, 1) := by decide +kernel
theorem dX3_copy_22 : decode cX3_copy 22 = .ok (.aaload, 1) := by decide +kernel
theorem dX3_copy_23 : decode cX3_copy 23 = .ok (.astore 6, 2) := by decide +kernel
theorem dX3_copy_25 : decode cX3_copy 25 = .ok (.aload_n 0, 1) := by decide +kernel
theorem dX3_copy_26 : decode cX3_copy 26 = .ok (.getfield 31, 3) := by decide +kernel
theorem dX3_copy_29 : decode cX3_copy 29 = .ok (.iload_n 3, 1) := by decide +kernel
theorem dX3_copy_30 : decode cX3_copy 30 = .ok (.aaload, 1) := by decide +kernel
theorem dX3_copy_31 : decode cX3_copy 31 = .ok (.astore 7, 2) := by decide +kernel
theorem dX3_copy_33 : decode cX3_copy 33 = .ok (.aload 6, 2) := by decide +kernel
theorem dX3_copy_35 : decode cX3_copy 35 = .ok (.getfield 93, 3) := by decide +kernel
theorem dX3_copy_38 : decode cX3_copy 38 = .ok (.ifCond .ne 11, 3) := by decide +kernel
theorem dX3_copy_41 : decode cX3_copy 41 = .ok (.aload 7, 2) := by decide +kernel
theorem dX3_copy_43 : decode cX3_copy 43 = .ok (.getfield 93, 3) := by decide +kernel
theorem dX3_copy_46 : decode cX3_copy 46 = .ok (.ifCond .eq 9, 3) := by decide +kernel
theorem dX3_copy_49 : decode cX3_copy 49 = .ok (.aload_n 0, 1) := by decide +kernel
theorem dX3_copy_50 : decode cX3_copy 50 = .ok (.iconst 1, 1) := by decide +kernel
theorem dX3_copy_51 : decode cX3_copy 51 = .ok (.invokevirtual 97, 3) := by decide +kernel
theorem dX3_copy_54 : decode cX3_copy 54 = .ok (.ireturn, 1) := by decide +kernel
theorem dX3_copy_55 : decode cX3_copy 55 = .ok (.aload 6, 2) := by decide +kernel
theorem dX3_copy_57 : decode cX3_copy 57 = .ok (.getfield 212, 3) := by decide +kernel
theorem dX3_copy_60 : decode cX3_copy 60 = .ok (.aload 7, 2) := by decide +kernel
theorem dX3_copy_62 : decode cX3_copy 62 = .ok (.getfield 212, 3) := by decide +kernel
theorem dX3_copy_65 : decode cX3_copy 65 = .ok (.if_icmp .eq 9, 3) := by decide +kernel
theorem dX3_copy_68 : decode cX3_copy 68 = .ok (.aload_n 0, 1) := by decide +kernel
theorem dX3_copy_69 : decode cX3_copy 69 = .ok (.iconst 4, 1) := by decide +kernel
theorem dX3_copy_70 : decode cX3_copy 70 = .ok (.invokevirtual 97, 3) := by decide +kernel
theorem dX3_copy_73 : decode cX3_copy 73 = .ok (.ireturn, 1) := by decide +kernel
theorem dX3_copy_74 : decode cX3_copy 74 = .ok (.aload 6, 2) := by decide +kernel
theorem dX3_copy_76 : decode cX3_copy 76 = .ok (.iload_n 2, 1) := by decide +kernel
theorem dX3_copy_77 : decode cX3_copy 77 = .ok (.iload 5, 2) := by decide +kernel
theorem dX3_copy_79 : decode cX3_copy 79 = .ok (.invokevirtual 215, 3) := by decide +kernel
theorem dX3_copy_82 : decode cX3_copy 82 = .ok (.ifCond .eq 15, 3) := by decide +kernel
theorem dX3_copy_85 : decode cX3_copy 85 = .ok (.aload 7, 2) := by decide +kernel
theorem dX3_copy_87 : decode cX3_copy 87 = .ok (.iload 4, 2) := by decide +kernel
theorem dX3_copy_89 : decode cX3_copy 89 = .ok (.iload 5, 2) := by decide +kernel
theorem dX3_copy_91 : decode cX3_copy 91 = .ok (.invokevirtual 215, 3) := by decide +kernel
theorem dX3_copy_94 : decode cX3_copy 94 = .ok (.ifCond .ne 9, 3) := by decide +kernel
theorem dX3_copy_97 : decode cX3_copy 97 = .ok (.aload_n 0, 1) := by decide +kernel
theorem dX3_copy_98 : decode cX3_copy 98 = .ok (.iconst 2, 1) := by decide +kernel
theorem dX3_copy_99 : decode cX3_copy 99 = .ok (.invokevirtual 97, 3) := by decide +kernel
theorem dX3_copy_102 : decode cX3_copy 102 = .ok (.ireturn, 1) := by decide +kernel
theorem dX3_copy_103 : decode cX3_copy 103 = .ok (.aload 6, 2) := by decide +kernel
theorem dX3_copy_105 : decode cX3_copy 105 = .ok (.getfield 103, 3) := by decide +kernel
theorem dX3_copy_108 : decode cX3_copy 108 = .ok (.iload_n 2, 1) := by decide +kernel
theorem dX3_copy_109 : decode cX3_copy 109 = .ok (.aload 7, 2) := by decide +kernel
theorem dX3_copy_111 : decode cX3_copy 111 = .ok (.getfield 103, 3) := by decide +kernel
theorem dX3_copy_114 : decode cX3_copy 114 = .ok (.iload 4, 2) := by decide +kernel
theorem dX3_copy_116 : decode cX3_copy 116 = .ok (.iload 5, 2) := by decide +kernel
theorem dX3_copy_118 : decode cX3_copy 118 = .ok (.invokestatic 219, 3) := by decide +kernel
theorem dX3_copy_121 : decode cX3_copy 121 = .ok (.iconst 1, 1) := by decide +kernel
theorem dX3_copy_122 : decode cX3_copy 122 = .ok (.ireturn, 1) := by decide +kernel
theorem dX3_write_0 : decode cX3_write 0 = .ok (.aload_n 0, 1) := by decide +kernel
theorem dX3_write_1 : decode cX3_write 1 = .ok (.getfield 39, 3) := by decide +kernel
theorem dX3_write_4 : decode cX3_write 4 = .ok (.iload_n 1, 1) := by decide +kernel
theorem dX3_write_5 : decode cX3_write 5 = .ok (.invokevirtual 61, 3) := by decide +kernel
theorem dX3_write_8 : decode cX3_write 8 = .ok (.ifCond .eq 10, 3) := by decide +kernel
theorem dX3_write_11 : decode cX3_write 11 = .ok (.iload_n 2, 1) := by decide +kernel
theorem dX3_write_12 : decode cX3_write 12 = .ok (.invokestatic 90, 3) := by decide +kernel
theorem dX3_write_15 : decode cX3_write 15 = .ok (.ifCond .ne 6, 3) := by decide +kernel
theorem dX3_write_18 : decode cX3_write 18 = .ok (.bipush (-2), 2) := by decide +kernel
theorem dX3_write_20 : decode cX3_write 20 = .ok (.ireturn, 1) := by decide +kernel
theorem dX3_write_21 : decode cX3_write 21 = .ok (.aload_n 0, 1) := by decide +kernel
theorem dX3_write_22 : decode cX3_write 22 = .ok (.getfield 31, 3) := by decide +kernel
theorem dX3_write_25 : decode cX3_write 25 = .ok (.iload_n 2, 1) := by decide +kernel
theorem dX3_write_26 : decode cX3_write 26 = .ok (.aaload, 1) := by decide +kernel
theorem dX3_write_27 : decode cX3_write 27 = .ok (.astore_n 3, 1) := by decide +kernel
theorem dX3_write_28 : decode cX3_write 28 = .ok (.aload_n 3, 1) := by decide +kernel
theorem dX3_write_29 : decode cX3_write 29 = .ok (.getfield 93, 3) := by decide +kernel
theorem dX3_write_32 : decode cX3_write 32 = .ok (.ifCond .eq 9, 3) := by decide +kernel
theorem dX3_write_35 : decode cX3_write 35 = .ok (.aload_n 0, 1) := by decide +kernel
theorem dX3_write_36 : decode cX3_write 36 = .ok (.iconst 1, 1) := by decide +kernel
theorem dX3_write_37 : decode cX3_write 37 = .ok (.invokevirtual 97, 3) := by decide +kernel
theorem dX3_write_40 : decode cX3_write 40 = .ok (.ireturn, 1) := by decide +kernel
theorem dX3_write_41 : decode cX3_write 41 = .ok (.aload_n 3, 1) := by decide +kernel
theorem dX3_write_42 : decode cX3_write 42 = .ok (.getfield 100, 3) := by decide +kernel
theorem dX3_write_45 : decode cX3_write 45 = .ok (.aload_n 0, 1) := by decide +kernel
theorem dX3_write_46 : decode cX3_write 46 = .ok (.getfield 39, 3) := by decide +kernel
theorem dX3_write_49 : decode cX3_write 49 = .ok (.getfield 135, 3) := by decide +kernel
theorem dX3_write_52 : decode cX3_write 52 = .ok (.invokestatic 225, 3) := by decide +kernel
theorem dX3_write_55 : decode cX3_write 55 = .ok (.istore 4, 2) := by decide +kernel
theorem dX3_write_57 : decode cX3_write 57 = .ok (.iconst 0, 1) := by decide +kernel
theorem dX3_write_58 : decode cX3_write 58 = .ok (.istore 5, 2) := by decide +kernel
theorem dX3_write_60 : decode cX3_write 60 = .ok (.iload 5, 2) := by decide +kernel
theorem dX3_write_62 : decode cX3_write 62 = .ok (.iload 4, 2) := by decide +kernel
theorem dX3_write_64 : decode cX3_write 64 = .ok (.if_icmp .ge 25, 3) := by decide +kernel
theorem dX3_write_67 : decode cX3_write 67 = .ok (.aload_n 3, 1) := by decide +kernel
theorem dX3_write_68 : decode cX3_write 68 = .ok (.iload 5, 2) := by decide +kernel
theorem dX3_write_70 : decode cX3_write 70 = .ok (.aload_n 0, 1) := by decide +kernel
theorem dX3_write_71 : decode cX3_write 71 = .ok (.getfield 48, 3) := by decide +kernel
theorem dX3_write_74 : decode cX3_write 74 = .ok (.iload_n 1, 1) := by decide +kernel
theorem dX3_write_75 : decode cX3_write 75 = .ok (.iload 5, 2) := by decide +kernel
theorem dX3_write_77 : decode cX3_write 77 = .ok (.invokevirtual 125, 3) := by decide +kernel
theorem dX3_write_80 : decode cX3_write 80 = .ok (.invokevirtual 208, 3) := by decide +kernel
theorem dX3_write_83 : decode cX3_write 83 = .ok (.iinc 5 1, 3) := by decide +kernel
theorem dX3_write_86 : decode cX3_write 86 = .ok (.goto (-26), 3) := by decide +kernel
theorem dX3_write_89 : decode cX3_write 89 = .ok (.iload 4, 2) := by decide +kernel
theorem dX3_write_91 : decode cX3_write 91 = .ok (.ireturn, 1) := by decide +kernel
theorem dX3_count_0 : decode cX3_count 0 = .ok (.iload_n 1, 1) := by decide +kernel
theorem dX3_count_1 : decode cX3_count 1 = .ok (.tableswitch 120 0 8 #[51, 59, 67, 72, 77, 82, 93, 104, 115], 51) := by decide +kernel
theorem dX3_count_52 : decode cX3_count 52 = .ok (.aload_n 0, 1) := by decide +kernel
theorem dX3_count_53 : decode cX3_count 53 = .ok (.getfield 39, 3) := by decide +kernel
theorem dX3_count_56 : decode cX3_count 56 = .ok (.getfield 135, 3) := by decide +kernel
theorem dX3_count_59 : decode cX3_count 59 = .ok (.ireturn, 1) := by decide +kernel
theorem dX3_count_60 : decode cX3_count 60 = .ok (.aload_n 0, 1) := by decide +kernel
theorem dX3_count_61 : decode cX3_count 61 = .ok (.getfield 39, 3) := by decide +kernel
theorem dX3_count_64 : decode cX3_count 64 = .ok (.getfield 157, 3) := by decide +kernel
theorem dX3_count_67 : decode cX3_count 67 = .ok (.ireturn, 1) := by decide +kernel
theorem dX3_count_68 : decode cX3_count 68 = .ok (.aload_n 0, 1) := by decide +kernel
theorem dX3_count_69 : decode cX3_count 69 = .ok (.getfield 55, 3) := by decide +kernel
theorem dX3_count_72 : decode cX3_count 72 = .ok (.ireturn, 1) := by decide +kernel
theorem dX3_count_73 : decode cX3_count 73 = .ok (.aload_n 0, 1) := by decide +kernel
theorem dX3_count_74 : decode cX3_count 74 = .ok (.getfield 87, 3) := by decide +kernel
theorem dX3_count_77 : decode cX3_count 77 = .ok (.ireturn, 1) := by decide +kernel
theorem dX3_count_78 : decode cX3_count 78 = .ok (.aload_n 0, 1) := by decide +kernel
theorem dX3_count_79 : decode cX3_count 79 = .ok (.getfield 151, 3) := by decide +kernel
theorem dX3_count_82 : decode cX3_count 82 = .ok (.ireturn, 1) := by decide +kernel
theorem dX3_count_83 : decode cX3_count 83 = .ok (.aload_n 0, 1) := by decide +kernel
theorem dX3_count_84 : decode cX3_count 84 = .ok (.getfield 39, 3) := by decide +kernel
theorem dX3_count_87 : decode cX3_count 87 = .ok (.getfield 176, 3) := by decide +kernel
theorem dX3_count_90 : decode cX3_count 90 = .ok (.invokestatic 179, 3) := by decide +kernel
theorem dX3_count_93 : decode cX3_count 93 = .ok (.ireturn, 1) := by decide +kernel
theorem dX3_count_94 : decode cX3_count 94 = .ok (.aload_n 0, 1) := by decide +kernel
theorem dX3_count_95 : decode cX3_count 95 = .ok (.getfield 39, 3) := by decide +kernel
theorem dX3_count_98 : decode cX3_count 98 = .ok (.getfield 138, 3) := by decide +kernel
theorem dX3_count_101 : decode cX3_count 101 = .ok (.invokestatic 179, 3) := by decide +kernel
theorem dX3_count_104 : decode cX3_count 104 = .ok (.ireturn, 1) := by decide +kernel
theorem dX3_count_105 : decode cX3_count 105 = .ok (.aload_n 0, 1) := by decide +kernel
theorem dX3_count_106 : decode cX3_count 106 = .ok (.getfield 39, 3) := by decide +kernel
theorem dX3_count_109 : decode cX3_count 109 = .ok (.getfield 73, 3) := by decide +kernel
theorem dX3_count_112 : decode cX3_count 112 = .ok (.invokestatic 179, 3) := by decide +kernel
theorem dX3_count_115 : decode cX3_count 115 = .ok (.ireturn, 1) := by decide +kernel
theorem dX3_count_116 : decode cX3_count 116 = .ok (.aload_n 0, 1) := by decide +kernel
theorem dX3_count_117 : decode cX3_count 117 = .ok (.getfield 228, 3) := by decide +kernel
theorem dX3_count_120 : decode cX3_count 120 = .ok (.ireturn, 1) := by decide +kernel
theorem dX3_count_121 : decode cX3_count 121 = .ok (.bipush (-2), 2) := by decide +kernel
theorem dX3_count_123 : decode cX3_count 123 = .ok (.ireturn, 1) := by decide +kernel
theorem dX3_digest_0 : decode cX3_digest 0 = .ok (.ldc2_w 231, 3) := by decide +kernel
theorem dX3_digest_3 : decode cX3_digest 3 = .ok (.lstore_n 1, 1) := by decide +kernel
theorem dX3_digest_4 : decode cX3_digest 4 = .ok (.iconst 0, 1) := by decide +kernel
theorem dX3_digest_5 : decode cX3_digest 5 = .ok (.istore_n 3, 1) := by decide +kernel
theorem dX3_digest_6 : decode cX3_digest 6 = .ok (.iload_n 3, 1) := by decide +kernel
theorem dX3_digest_7 : decode cX3_digest 7 = .ok (.bipush 8, 2) := by decide +kernel
theorem dX3_digest_9 : decode cX3_digest 9 = .ok (.if_icmp .ge 20, 3) := by decide +kernel
theorem dX3_digest_12 : decode cX3_digest 12 = .ok (.lload_n 1, 1) := by decide +kernel
theorem dX3_digest_13 : decode cX3_digest 13 = .ok (.aload_n 0, 1) := by decide +kernel
theorem dX3_digest_14 : decode cX3_digest 14 = .ok (.iload_n 3, 1) := by decide +kernel
theorem dX3_digest_15 : decode cX3_digest 15 = .ok (.invokevirtual 233, 3) := by decide +kernel
theorem dX3_digest_18 : decode cX3_digest 18 = .ok (.i2l, 1) := by decide +kernel
theorem dX3_digest_19 : decode cX3_digest 19 = .ok (.invokestatic 236, 3) := by decide +kernel
theorem dX3_digest_22 : decode cX3_digest 22 = .ok (.lstore_n 1, 1) := by decide +kernel
theorem dX3_digest_23 : decode cX3_digest 23 = .ok (.iinc 3 1, 3) := by decide +kernel
theorem dX3_digest_26 : decode cX3_digest 26 = .ok (.goto (-20), 3) := by decide +kernel
theorem dX3_digest_29 : decode cX3_digest 29 = .ok (.lload_n 1, 1) := by decide +kernel
theorem dX3_digest_30 : decode cX3_digest 30 = .ok (.aload_n 0, 1) := by decide +kernel
theorem dX3_digest_31 : decode cX3_digest 31 = .ok (.invokevirtual 240, 3) := by decide +kernel
theorem dX3_digest_34 : decode cX3_digest 34 = .ok (.i2l, 1) := by decide +kernel
theorem dX3_digest_35 : decode cX3_digest 35 = .ok (.invokestatic 236, 3) := by decide +kernel
theorem dX3_digest_38 : decode cX3_digest 38 = .ok (.lstore_n 1, 1) := by decide +kernel
theorem dX3_digest_39 : decode cX3_digest 39 = .ok (.iconst 0, 1) := by decide +kernel
theorem dX3_digest_40 : decode cX3_digest 40 = .ok (.istore_n 3, 1) := by decide +kernel
theorem dX3_digest_41 : decode cX3_digest 41 = .ok (.iload_n 3, 1) := by decide +kernel
theorem dX3_digest_42 : decode cX3_digest 42 = .ok (.aload_n 0, 1) := by decide +kernel
theorem dX3_digest_43 : decode cX3_digest 43 = .ok (.getfield 39, 3) := by decide +kernel
theorem dX3_digest_46 : decode cX3_digest 46 = .ok (.getfield 135, 3) := by decide +kernel
theorem dX3_digest_49 : decode cX3_digest 49 = .ok (.if_icmp .ge 117, 3) := by decide +kernel
theorem dX3_digest_52 : decode cX3_digest 52 = .ok (.lload_n 1, 1) := by decide +kernel
theorem dX3_digest_53 : decode cX3_digest 53 = .ok (.aload_n 0, 1) := by decide +kernel
theorem dX3_digest_54 : decode cX3_digest 54 = .ok (.iload_n 3, 1) := by decide +kernel
theorem dX3_digest_55 : decode cX3_digest 55 = .ok (.iconst 0, 1) := by decide +kernel
theorem dX3_digest_56 : decode cX3_digest 56 = .ok (.invokevirtual 244, 3) := by decide +kernel
theorem dX3_digest_59 : decode cX3_digest 59 = .ok (.i2l, 1) := by decide +kernel
theorem dX3_digest_60 : decode cX3_digest 60 = .ok (.invokestatic 236, 3) := by decide +kernel
theorem dX3_digest_63 : decode cX3_digest 63 = .ok (.lstore_n 1, 1) := by decide +kernel
theorem dX3_digest_64 : decode cX3_digest 64 = .ok (.lload_n 1, 1) := by decide +kernel
theorem dX3_digest_65 : decode cX3_digest 65 = .ok (.aload_n 0, 1) := by decide +kernel
theorem dX3_digest_66 : decode cX3_digest 66 = .ok (.iload_n 3, 1) := by decide +kernel
theorem dX3_digest_67 : decode cX3_digest 67 = .ok (.iconst 1, 1) := by decide +kernel
theorem dX3_digest_68 : decode cX3_digest 68 = .ok (.invokevirtual 244, 3) := by decide +kernel
theorem dX3_digest_71 : decode cX3_digest 71 = .ok (.i2l, 1) := by decide +kernel
theorem dX3_digest_72 : decode cX3_digest 72 = .ok (.invokestatic 236, 3) := by decide +kernel
theorem dX3_digest_75 : decode cX3_digest 75 = .ok (.lstore_n 1, 1) := by decide +kernel
theorem dX3_digest_76 : decode cX3_digest 76 = .ok (.lload_n 1, 1) := by decide +kernel
theorem dX3_digest_77 : decode cX3_digest 77 = .ok (.aload_n 0, 1) := by decide +kernel
theorem dX3_digest_78 : decode cX3_digest 78 = .ok (.iload_n 3, 1) := by decide +kernel
theorem dX3_digest_79 : decode cX3_digest 79 = .ok (.iconst 2, 1) := by decide +kernel
theorem dX3_digest_80 : decode cX3_digest 80 = .ok (.invokevirtual 244, 3) := by decide +kernel
theorem dX3_digest_83 : decode cX3_digest 83 = .ok (.i2l, 1) := by decide +kernel
theorem dX3_digest_84 : decode cX3_digest 84 = .ok (.invokestatic 236, 3) := by decide +kernel
theorem dX3_digest_87 : decode cX3_digest 87 = .ok (.lstore_n 1, 1) := by decide +kernel
theorem dX3_digest_88 : decode cX3_digest 88 = .ok (.lload_n 1, 1) := by decide +kernel
theorem dX3_digest_89 : decode cX3_digest 89 = .ok (.aload_n 0, 1) := by decide +kernel
theorem dX3_digest_90 : decode cX3_digest 90 = .ok (.iload_n 3, 1) := by decide +kernel
theorem dX3_digest_91 : decode cX3_digest 91 = .ok (.invokevirtual 247, 3) := by decide +kernel
theorem dX3_digest_94 : decode cX3_digest 94 = .ok (.i2l, 1) := by decide +kernel
theorem dX3_digest_95 : decode cX3_digest 95 = .ok (.invokestatic 236, 3) := by decide +kernel
theorem dX3_digest_98 : decode cX3_digest 98 = .ok (.lstore_n 1, 1) := by decide +kernel
theorem dX3_digest_99 : decode cX3_digest 99 = .ok (.lload_n 1, 1) := by decide +kernel
theorem dX3_digest_100 : decode cX3_digest 100 = .ok (.aload_n 0, 1) := by decide +kernel
theorem dX3_digest_101 : decode cX3_digest 101 = .ok (.iload_n 3, 1) := by decide +kernel
theorem dX3_digest_102 : decode cX3_digest 102 = .ok (.invokevirtual 250, 3) := by decide +kernel
theorem dX3_digest_105 : decode cX3_digest 105 = .ok (.i2l, 1) := by decide +kernel
theorem dX3_digest_106 : decode cX3_digest 106 = .ok (.invokestatic 236, 3) := by decide +kernel
theorem dX3_digest_109 : decode cX3_digest 109 = .ok (.lstore_n 1, 1) := by decide +kernel
theorem dX3_digest_110 : decode cX3_digest 110 = .ok (.lload_n 1, 1) := by decide +kernel
theorem dX3_digest_111 : decode cX3_digest 111 = .ok (.aload_n 0, 1) := by decide +kernel
theorem dX3_digest_112 : decode cX3_digest 112 = .ok (.iload_n 3, 1) := by decide +kernel
theorem dX3_digest_113 : decode cX3_digest 113 = .ok (.iconst 0, 1) := by decide +kernel
theorem dX3_digest_114 : decode cX3_digest 114 = .ok (.invokevirtual 253, 3) := by decide +kernel
theorem dX3_digest_117 : decode cX3_digest 117 = .ok (.i2l, 1) := by decide +kernel
theorem dX3_digest_118 : decode cX3_digest 118 = .ok (.invokestatic 236, 3) := by decide +kernel
theorem dX3_digest_121 : decode cX3_digest 121 = .ok (.lstore_n 1, 1) := by decide +kernel
theorem dX3_digest_122 : decode cX3_digest 122 = .ok (.lload_n 1, 1) := by decide +kernel
theorem dX3_digest_123 : decode cX3_digest 123 = .ok (.aload_n 0, 1) := by decide +kernel
theorem dX3_digest_124 : decode cX3_digest 124 = .ok (.iconst 0, 1) := by decide +kernel
theorem dX3_digest_125 : decode cX3_digest 125 = .ok (.iload_n 3, 1) := by decide +kernel
theorem dX3_digest_126 : decode cX3_digest 126 = .ok (.invokevirtual 256, 3) := by decide +kernel
theorem dX3_digest_129 : decode cX3_digest 129 = .ok (.i2l, 1) := by decide +kernel
theorem dX3_digest_130 : decode cX3_digest 130 = .ok (.invokestatic 236, 3) := by decide +kernel
theorem dX3_digest_133 : decode cX3_digest 133 = .ok (.lstore_n 1, 1) := by decide +kernel
theorem dX3_digest_134 : decode cX3_digest 134 = .ok (.lload_n 1, 1) := by decide +kernel
theorem dX3_digest_135 : decode cX3_digest 135 = .ok (.aload_n 0, 1) := by decide +kernel
theorem dX3_digest_136 : decode cX3_digest 136 = .ok (.iload_n 3, 1) := by decide +kernel
theorem dX3_digest_137 : decode cX3_digest 137 = .ok (.iconst 2, 1) := by decide +kernel
theorem dX3_digest_138 : decode cX3_digest 138 = .ok (.iconst (-1), 1) := by decide +kernel
theorem dX3_digest_139 : decode cX3_digest 139 = .ok (.invokevirtual 259, 3) := by decide +kernel
theorem dX3_digest_142 : decode cX3_digest 142 = .ok (.i2l, 1) := by decide +kernel
theorem dX3_digest_143 : decode cX3_digest 143 = .ok (.invokestatic 236, 3) := by decide +kernel
theorem dX3_digest_146 : decode cX3_digest 146 = .ok (.lstore_n 1, 1) := by decide +kernel
theorem dX3_digest_147 : decode cX3_digest 147 = .ok (.lload_n 1, 1) := by decide +kernel
theorem dX3_digest_148 : decode cX3_digest 148 = .ok (.aload_n 0, 1) := by decide +kernel
theorem dX3_digest_149 : decode cX3_digest 149 = .ok (.iload_n 3, 1) := by decide +kernel
theorem dX3_digest_150 : decode cX3_digest 150 = .ok (.iconst 2, 1) := by decide +kernel
theorem dX3_digest_151 : decode cX3_digest 151 = .ok (.iconst 0, 1) := by decide +kernel
theorem dX3_digest_152 : decode cX3_digest 152 = .ok (.invokevirtual 259, 3) := by decide +kernel
theorem dX3_digest_155 : decode cX3_digest 155 = .ok (.i2l, 1) := by decide +kernel
theorem dX3_digest_156 : decode cX3_digest 156 = .ok (.invokestatic 236, 3) := by decide +kernel
theorem dX3_digest_159 : decode cX3_digest 159 = .ok (.lstore_n 1, 1) := by decide +kernel
theorem dX3_digest_160 : decode cX3_digest 160 = .ok (.iinc 3 1, 3) := by decide +kernel
theorem dX3_digest_163 : decode cX3_digest 163 = .ok (.goto (-122), 3) := by decide +kernel
theorem dX3_digest_166 : decode cX3_digest 166 = .ok (.iconst 0, 1) := by decide +kernel
theorem dX3_digest_167 : decode cX3_digest 167 = .ok (.istore_n 3, 1) := by decide +kernel
theorem dX3_digest_168 : decode cX3_digest 168 = .ok (.iload_n 3, 1) := by decide +kernel
theorem dX3_digest_169 : decode cX3_digest 169 = .ok (.aload_n 0, 1) := by decide +kernel
theorem dX3_digest_170 : decode cX3_digest 170 = .ok (.getfield 87, 3) := by decide +kernel
theorem dX3_digest_173 : decode cX3_digest 173 = .ok (.if_icmp .ge 45, 3) := by decide +kernel
theorem dX3_digest_176 : decode cX3_digest 176 = .ok (.lload_n 1, 1) := by decide +kernel
theorem dX3_digest_177 : decode cX3_digest 177 = .ok (.aload_n 0, 1) := by decide +kernel
theorem dX3_digest_178 : decode cX3_digest 178 = .ok (.iload_n 3, 1) := by decide +kernel
theorem dX3_digest_179 : decode cX3_digest 179 = .ok (.iconst 5, 1) := by decide +kernel
theorem dX3_digest_180 : decode cX3_digest 180 = .ok (.invokevirtual 122, 3) := by decide +kernel
theorem dX3_digest_183 : decode cX3_digest 183 = .ok (.i2l, 1) := by decide +kernel
theorem dX3_digest_184 : decode cX3_digest 184 = .ok (.invokestatic 236, 3) := by decide +kernel
theorem dX3_digest_187 : decode cX3_digest 187 = .ok (.lstore_n 1, 1) := by decide +kernel
theorem dX3_digest_188 : decode cX3_digest 188 = .ok (.lload_n 1, 1) := by decide +kernel
theorem dX3_digest_189 : decode cX3_digest 189 = .ok (.aload_n 0, 1) := by decide +kernel
theorem dX3_digest_190 : decode cX3_digest 190 = .ok (.iload_n 3, 1) := by decide +kernel
theorem dX3_digest_191 : decode cX3_digest 191 = .ok (.iconst 0, 1) := by decide +kernel
theorem dX3_digest_192 : decode cX3_digest 192 = .ok (.invokevirtual 262, 3) := by decide +kernel
theorem dX3_digest_195 : decode cX3_digest 195 = .ok (.i2l, 1) := by decide +kernel
theorem dX3_digest_196 : decode cX3_digest 196 = .ok (.invokestatic 236, 3) := by decide +kernel
theorem dX3_digest_199 : decode cX3_digest 199 = .ok (.lstore_n 1, 1) := by decide +kernel
theorem dX3_digest_200 : decode cX3_digest 200 = .ok (.lload_n 1, 1) := by decide +kernel
theorem dX3_digest_201 : decode cX3_digest 201 = .ok (.aload_n 0, 1) := by decide +kernel
theorem dX3_digest_202 : decode cX3_digest 202 = .ok (.iload_n 3, 1) := by decide +kernel
theorem dX3_digest_203 : decode cX3_digest 203 = .ok (.iconst 1, 1) := by decide +kernel
theorem dX3_digest_204 : decode cX3_digest 204 = .ok (.invokevirtual 262, 3) := by decide +kernel
theorem dX3_digest_207 : decode cX3_digest 207 = .ok (.i2l, 1) := by decide +kernel
theorem dX3_digest_208 : decode cX3_digest 208 = .ok (.invokestatic 236, 3) := by decide +kernel
theorem dX3_digest_211 : decode cX3_digest 211 = .ok (.lstore_n 1, 1) := by decide +kernel
theorem dX3_digest_212 : decode cX3_digest 212 = .ok (.iinc 3 1, 3) := by decide +kernel
theorem dX3_digest_215 : decode cX3_digest 215 = .ok (.goto (-47), 3) := by decide +kernel
theorem dX3_digest_218 : decode cX3_digest 218 = .ok (.lload_n 1, 1) := by decide +kernel
theorem dX3_digest_219 : decode cX3_digest 219 = .ok (.aload_n 0, 1) := by decide +kernel
theorem dX3_digest_220 : decode cX3_digest 220 = .ok (.invokevirtual 265, 3) := by decide +kernel
theorem dX3_digest_223 : decode cX3_digest 223 = .ok (.i2l, 1) := by decide +kernel
theorem dX3_digest_224 : decode cX3_digest 224 = .ok (.invokestatic 236, 3) := by decide +kernel
theorem dX3_digest_227 : decode cX3_digest 227 = .ok (.lstore_n 1, 1) := by decide +kernel
theorem dX3_digest_228 : decode cX3_digest 228 = .ok (.lload_n 1, 1) := by decide +kernel
theorem dX3_digest_229 : decode cX3_digest 229 = .ok (.aload_n 0, 1) := by decide +kernel
theorem dX3_digest_230 : decode cX3_digest 230 = .ok (.iconst 0, 1) := by decide +kernel
theorem dX3_digest_231 : decode cX3_digest 231 = .ok (.iconst 1, 1) := by decide +kernel
theorem dX3_digest_232 : decode cX3_digest 232 = .ok (.invokevirtual 268, 3) := by decide +kernel
theorem dX3_digest_235 : decode cX3_digest 235 = .ok (.i2l, 1) := by decide +kernel
theorem dX3_digest_236 : decode cX3_digest 236 = .ok (.invokestatic 236, 3) := by decide +kernel
theorem dX3_digest_239 : decode cX3_digest 239 = .ok (.lstore_n 1, 1) := by decide +kernel
theorem dX3_digest_240 : decode cX3_digest 240 = .ok (.lload_n 1, 1) := by decide +kernel
theorem dX3_digest_241 : decode cX3_digest 241 = .ok (.aload_n 0, 1) := by decide +kernel
theorem dX3_digest_242 : decode cX3_digest 242 = .ok (.iconst 0, 1) := by decide +kernel
theorem dX3_digest_243 : decode cX3_digest 243 = .ok (.iconst 1, 1) := by decide +kernel
theorem dX3_digest_244 : decode cX3_digest 244 = .ok (.iconst 2, 1) := by decide +kernel
theorem dX3_digest_245 : decode cX3_digest 245 = .ok (.invokevirtual 271, 3) := by decide +kernel
theorem dX3_digest_248 : decode cX3_digest 248 = .ok (.i2l, 1) := by decide +kernel
theorem dX3_digest_249 : decode cX3_digest 249 = .ok (.invokestatic 236, 3) := by decide +kernel
theorem dX3_digest_252 : decode cX3_digest 252 = .ok (.lstore_n 1, 1) := by decide +kernel
theorem dX3_digest_253 : decode cX3_digest 253 = .ok (.lload_n 1, 1) := by decide +kernel
theorem dX3_digest_254 : decode cX3_digest 254 = .ok (.aload_n 0, 1) := by decide +kernel
theorem dX3_digest_255 : decode cX3_digest 255 = .ok (.iconst 3, 1) := by decide +kernel
theorem dX3_digest_256 : decode cX3_digest 256 = .ok (.iconst (-1), 1) := by decide +kernel
theorem dX3_digest_257 : decode cX3_digest 257 = .ok (.invokevirtual 274, 3) := by decide +kernel
theorem dX3_digest_260 : decode cX3_digest 260 = .ok (.i2l, 1) := by decide +kernel
theorem dX3_digest_261 : decode cX3_digest 261 = .ok (.invokestatic 236, 3) := by decide +kernel
theorem dX3_digest_264 : decode cX3_digest 264 = .ok (.lstore_n 1, 1) := by decide +kernel
theorem dX3_digest_265 : decode cX3_digest 265 = .ok (.lload_n 1, 1) := by decide +kernel
theorem dX3_digest_266 : decode cX3_digest 266 = .ok (.aload_n 0, 1) := by decide +kernel
theorem dX3_digest_267 : decode cX3_digest 267 = .ok (.iconst 3, 1) := by decide +kernel
theorem dX3_digest_268 : decode cX3_digest 268 = .ok (.iconst 0, 1) := by decide +kernel
theorem dX3_digest_269 : decode cX3_digest 269 = .ok (.invokevirtual 274, 3) := by decide +kernel
theorem dX3_digest_272 : decode cX3_digest 272 = .ok (.i2l, 1) := by decide +kernel
theorem dX3_digest_273 : decode cX3_digest 273 = .ok (.invokestatic 236, 3) := by decide +kernel
theorem dX3_digest_276 : decode cX3_digest 276 = .ok (.lstore_n 1, 1) := by decide +kernel
theorem dX3_digest_277 : decode cX3_digest 277 = .ok (.lload_n 1, 1) := by decide +kernel
theorem dX3_digest_278 : decode cX3_digest 278 = .ok (.aload_n 0, 1) := by decide +kernel
theorem dX3_digest_279 : decode cX3_digest 279 = .ok (.invokevirtual 277, 3) := by decide +kernel
theorem dX3_digest_282 : decode cX3_digest 282 = .ok (.i2l, 1) := by decide +kernel
theorem dX3_digest_283 : decode cX3_digest 283 = .ok (.invokestatic 236, 3) := by decide +kernel
theorem dX3_digest_286 : decode cX3_digest 286 = .ok (.lstore_n 1, 1) := by decide +kernel
theorem dX3_digest_287 : decode cX3_digest 287 = .ok (.lload_n 1, 1) := by decide +kernel
theorem dX3_digest_288 : decode cX3_digest 288 = .ok (.aload_n 0, 1) := by decide +kernel
theorem dX3_digest_289 : decode cX3_digest 289 = .ok (.invokevirtual 280, 3) := by decide +kernel
theorem dX3_digest_292 : decode cX3_digest 292 = .ok (.i2l, 1) := by decide +kernel
theorem dX3_digest_293 : decode cX3_digest 293 = .ok (.invokestatic 236, 3) := by decide +kernel
theorem dX3_digest_296 : decode cX3_digest 296 = .ok (.lstore_n 1, 1) := by decide +kernel
theorem dX3_digest_297 : decode cX3_digest 297 = .ok (.lload_n 1, 1) := by decide +kernel
theorem dX3_digest_298 : decode cX3_digest 298 = .ok (.aload_n 0, 1) := by decide +kernel
theorem dX3_digest_299 : decode cX3_digest 299 = .ok (.invokevirtual 283, 3) := by decide +kernel
theorem dX3_digest_302 : decode cX3_digest 302 = .ok (.i2l, 1) := by decide +kernel
theorem dX3_digest_303 : decode cX3_digest 303 = .ok (.invokestatic 236, 3) := by decide +kernel
theorem dX3_digest_306 : decode cX3_digest 306 = .ok (.lstore_n 1, 1) := by decide +kernel
theorem dX3_digest_307 : decode cX3_digest 307 = .ok (.lload_n 1, 1) := by decide +kernel
theorem dX3_digest_308 : decode cX3_digest 308 = .ok (.aload_n 0, 1) := by decide +kernel
theorem dX3_digest_309 : decode cX3_digest 309 = .ok (.iconst 1, 1) := by decide +kernel
theorem dX3_digest_310 : decode cX3_digest 310 = .ok (.invokevirtual 286, 3) := by decide +kernel
theorem dX3_digest_313 : decode cX3_digest 313 = .ok (.i2l, 1) := by decide +kernel
theorem dX3_digest_314 : decode cX3_digest 314 = .ok (.invokestatic 236, 3) := by decide +kernel
theorem dX3_digest_317 : decode cX3_digest 317 = .ok (.lstore_n 1, 1) := by decide +kernel
theorem dX3_digest_318 : decode cX3_digest 318 = .ok (.lload_n 1, 1) := by decide +kernel
theorem dX3_digest_319 : decode cX3_digest 319 = .ok (.aload_n 0, 1) := by decide +kernel
theorem dX3_digest_320 : decode cX3_digest 320 = .ok (.iconst 5, 1) := by decide +kernel
theorem dX3_digest_321 : decode cX3_digest 321 = .ok (.iconst 3, 1) := by decide +kernel
theorem dX3_digest_322 : decode cX3_digest 322 = .ok (.iconst 0, 1) := by decide +kernel
theorem dX3_digest_323 : decode cX3_digest 323 = .ok (.invokevirtual 289, 3) := by decide +kernel
theorem dX3_digest_326 : decode cX3_digest 326 = .ok (.invokestatic 236, 3) := by decide +kernel
theorem dX3_digest_329 : decode cX3_digest 329 = .ok (.lstore_n 1, 1) := by decide +kernel
theorem dX3_digest_330 : decode cX3_digest 330 = .ok (.lload_n 1, 1) := by decide +kernel
theorem dX3_digest_331 : decode cX3_digest 331 = .ok (.aload_n 0, 1) := by decide +kernel
theorem dX3_digest_332 : decode cX3_digest 332 = .ok (.iconst 5, 1) := by decide +kernel
theorem dX3_digest_333 : decode cX3_digest 333 = .ok (.iconst 3, 1) := by decide +kernel
theorem dX3_digest_334 : decode cX3_digest 334 = .ok (.iconst 1, 1) := by decide +kernel
theorem dX3_digest_335 : decode cX3_digest 335 = .ok (.invokevirtual 289, 3) := by decide +kernel
theorem dX3_digest_338 : decode cX3_digest 338 = .ok (.invokestatic 236, 3) := by decide +kernel
theorem dX3_digest_341 : decode cX3_digest 341 = .ok (.lstore_n 1, 1) := by decide +kernel
theorem dX3_digest_342 : decode cX3_digest 342 = .ok (.lload_n 1, 1) := by decide +kernel
theorem dX3_digest_343 : decode cX3_digest 343 = .ok (.aload_n 0, 1) := by decide +kernel
theorem dX3_digest_344 : decode cX3_digest 344 = .ok (.bipush 7, 2) := by decide +kernel
theorem dX3_digest_346 : decode cX3_digest 346 = .ok (.iconst 0, 1) := by decide +kernel
theorem dX3_digest_347 : decode cX3_digest 347 = .ok (.bipush 9, 2) := by decide +kernel
theorem dX3_digest_349 : decode cX3_digest 349 = .ok (.invokevirtual 293, 3) := by decide +kernel
theorem dX3_digest_352 : decode cX3_digest 352 = .ok (.i2l, 1) := by decide +kernel
theorem dX3_digest_353 : decode cX3_digest 353 = .ok (.invokestatic 236, 3) := by decide +kernel
theorem dX3_digest_356 : decode cX3_digest 356 = .ok (.lreturn, 1) := by decide +kernel
theorem dX3_mixed_0 : decode cX3_mixed 0 = .ok (.ldc2_w 296, 3) := by decide +kernel
theorem dX3_mixed_3 : decode cX3_mixed 3 = .ok (.lload_n 0, 1) := by decide +kernel
theorem dX3_mixed_4 : decode cX3_mixed 4 = .ok (.lmul, 1) := by decide +kernel
theorem dX3_mixed_5 : decode cX3_mixed 5 = .ok (.lload_n 2, 1) := by decide +kernel
theorem dX3_mixed_6 : decode cX3_mixed 6 = .ok (.ladd, 1) := by decide +kernel
theorem dX3_mixed_7 : decode cX3_mixed 7 = .ok (.lreturn, 1) := by decide +kernel
theorem dX3_renew_0 : decode cX3_renew 0 = .ok (.aload_n 0, 1) := by decide +kernel
theorem dX3_renew_1 : decode cX3_renew 1 = .ok (.getfield 39, 3) := by decide +kernel
theorem dX3_renew_4 : decode cX3_renew 4 = .ok (.aload_n 0, 1) := by decide +kernel
theorem dX3_renew_5 : decode cX3_renew 5 = .ok (.getfield 9, 3) := by decide +kernel
theorem dX3_renew_8 : decode cX3_renew 8 = .ok (.aload_n 0, 1) := by decide +kernel
theorem dX3_renew_9 : decode cX3_renew 9 = .ok (.getfield 55, 3) := by decide +kernel
theorem dX3_renew_12 : decode cX3_renew 12 = .ok (.aload_n 0, 1) := by decide +kernel
theorem dX3_renew_13 : decode cX3_renew 13 = .ok (.getfield 13, 3) := by decide +kernel
theorem dX3_renew_16 : decode cX3_renew 16 = .ok (.invokevirtual 298, 3) := by decide +kernel
theorem dX3_renew_19 : decode cX3_renew 19 = .ok (.aload_n 0, 1) := by decide +kernel
theorem dX3_renew_20 : decode cX3_renew 20 = .ok (.getfield 48, 3) := by decide +kernel
theorem dX3_renew_23 : decode cX3_renew 23 = .ok (.aload_n 0, 1) := by decide +kernel
theorem dX3_renew_24 : decode cX3_renew 24 = .ok (.getfield 17, 3) := by decide +kernel
theorem dX3_renew_27 : decode cX3_renew 27 = .ok (.invokevirtual 302, 3) := by decide +kernel
theorem dX3_renew_30 : decode cX3_renew 30 = .ok (.return_, 1) := by decide +kernel
theorem dX3_isThing_0 : decode cX3_isThing 0 = .ok (.iload_n 1, 1) := by decide +kernel
theorem dX3_isThing_1 : decode cX3_isThing 1 = .ok (.ifCond .lt 21, 3) := by decide +kernel
theorem dX3_isThing_4 : decode cX3_isThing 4 = .ok (.iload_n 1, 1) := by decide +kernel
theorem dX3_isThing_5 : decode cX3_isThing 5 = .ok (.aload_n 0, 1) := by decide +kernel
theorem dX3_isThing_6 : decode cX3_isThing 6 = .ok (.getfield 87, 3) := by decide +kernel
theorem dX3_isThing_9 : decode cX3_isThing 9 = .ok (.if_icmp .ge 13, 3) := by decide +kernel
theorem dX3_isThing_12 : decode cX3_isThing 12 = .ok (.iload_n 1, 1) := by decide +kernel
theorem dX3_isThing_13 : decode cX3_isThing 13 = .ok (.bipush 8, 2) := by decide +kernel
theorem dX3_isThing_15 : decode cX3_isThing 15 = .ok (.if_icmp .ge 7, 3) := by decide +kernel
theorem dX3_isThing_18 : decode cX3_isThing 18 = .ok (.iconst 1, 1) := by decide +kernel
theorem dX3_isThing_19 : decode cX3_isThing 19 = .ok (.goto 4, 3) := by decide +kernel
theorem dX3_isThing_22 : decode cX3_isThing 22 = .ok (.iconst 0, 1) := by decide +kernel
theorem dX3_isThing_23 : decode cX3_isThing 23 = .ok (.ireturn, 1) := by decide +kernel
theorem dX3_isStep_0 : decode cX3_isStep 0 = .ok (.iload_n 0, 1) := by decide +kernel
theorem dX3_isStep_1 : decode cX3_isStep 1 = .ok (.ifCond .lt 13, 3) := by decide +kernel
theorem dX3_isStep_4 : decode cX3_isStep 4 = .ok (.iload_n 0, 1) := by decide +kernel
theorem dX3_isStep_5 : decode cX3_isStep 5 = .ok (.bipush 100, 2) := by decide +kernel
theorem dX3_isStep_7 : decode cX3_isStep 7 = .ok (.if_icmp .ge 7, 3) := by decide +kernel
theorem dX3_isStep_10 : decode cX3_isStep 10 = .ok (.iconst 1, 1) := by decide +kernel
theorem dX3_isStep_11 : decode cX3_isStep 11 = .ok (.goto 4, 3) := by decide +kernel
theorem dX3_isStep_14 : decode cX3_isStep 14 = .ok (.iconst 0, 1) := by decide +kernel
theorem dX3_isStep_15 : decode cX3_isStep 15 = .ok (.ireturn, 1) := by decide +kernel
theorem dX3_isSheet_0 : decode cX3_isSheet 0 = .ok (.iload_n 0, 1) := by decide +kernel
theorem dX3_isSheet_1 : decode cX3_isSheet 1 = .ok (.ifCond .lt 12, 3) := by decide +kernel
theorem dX3_isSheet_4 : decode cX3_isSheet 4 = .ok (.iload_n 0, 1) := by decide +kernel
theorem dX3_isSheet_5 : decode cX3_isSheet 5 = .ok (.iconst 4, 1) := by decide +kernel
theorem dX3_isSheet_6 : decode cX3_isSheet 6 = .ok (.if_icmp .ge 7, 3) := by decide +kernel
theorem dX3_isSheet_9 : decode cX3_isSheet 9 = .ok (.iconst 1, 1) := by decide +kernel
theorem dX3_isSheet_10 : decode cX3_isSheet 10 = .ok (.goto 4, 3) := by decide +kernel
theorem dX3_isSheet_13 : decode cX3_isSheet 13 = .ok (.iconst 0, 1) := by decide +kernel
theorem dX3_isSheet_14 : decode cX3_isSheet 14 = .ok (.ireturn, 1) := by decide +kernel
theorem dX3_isForm_0 : decode cX3_isForm 0 = .ok (.iload_n 0, 1) := by decide +kernel
theorem dX3_isForm_1 : decode cX3_isForm 1 = .ok (.ifCond .lt 12, 3) := by decide +kernel
theorem dX3_isForm_4 : decode cX3_isForm 4 = .ok (.iload_n 0, 1) := by decide +kernel
theorem dX3_isForm_5 : decode cX3_isForm 5 = .ok (.iconst 2, 1) := by decide +kernel
theorem dX3_isForm_6 : decode cX3_isForm 6 = .ok (.if_icmp .gt 7, 3) := by decide +kernel
theorem dX3_isForm_9 : decode cX3_isForm 9 = .ok (.iconst 1, 1) := by decide +kernel
theorem dX3_isForm_10 : decode cX3_isForm 10 = .ok (.goto 4, 3) := by decide +kernel
theorem dX3_isForm_13 : decode cX3_isForm 13 = .ok (.iconst 0, 1) := by decide +kernel
theorem dX3_isForm_14 : decode cX3_isForm 14 = .ok (.ireturn, 1) := by decide +kernel
theorem dX3_found_0 : decode cX3_found 0 = .ok (.aload_n 0, 1) := by decide +kernel
theorem dX3_found_1 : decode cX3_found 1 = .ok (.iload_n 1, 1) := by decide +kernel
theorem dX3_found_2 : decode cX3_found 2 = .ok (.putfield 228, 3) := by decide +kernel
theorem dX3_found_5 : decode cX3_found 5 = .ok (.bipush (-10), 2) := by decide +kernel
theorem dX3_found_7 : decode cX3_found 7 = .ok (.iload_n 1, 1) := by decide +kernel
theorem dX3_found_8 : decode cX3_found 8 = .ok (.isub, 1) := by decide +kernel
theorem dX3_found_9 : decode cX3_found 9 = .ok (.ireturn, 1) := by decide +kernel
theorem dX3_refusalOfItem_0 : decode cX3_refusalOfItem 0 = .ok (.iload_n 1, 1) := by decide +kernel
theorem dX3_refusalOfItem_1 : decode cX3_refusalOfItem 1 = .ok (.invokestatic 90, 3) := by decide +kernel
theorem dX3_refusalOfItem_4 : decode cX3_refusalOfItem 4 = .ok (.ifCond .eq 10, 3) := by decide +kernel
theorem dX3_refusalOfItem_7 : decode cX3_refusalOfItem 7 = .ok (.iload_n 2, 1) := by decide +kernel
theorem dX3_refusalOfItem_8 : decode cX3_refusalOfItem 8 = .ok (.invokestatic 198, 3) := by decide +kernel
theorem dX3_refusalOfItem_11 : decode cX3_refusalOfItem 11 = .ok (.ifCond .ne 6, 3) := by decide +kernel
theorem dX3_refusalOfItem_14 : decode cX3_refusalOfItem 14 = .ok (.bipush (-2), 2) := by decide +kernel
theorem dX3_refusalOfItem_16 : decode cX3_refusalOfItem 16 = .ok (.ireturn, 1) := by decide +kernel
theorem dX3_refusalOfItem_17 : decode cX3_refusalOfItem 17 = .ok (.aload_n 0, 1) := by decide +kernel
theorem dX3_refusalOfItem_18 : decode cX3_refusalOfItem 18 = .ok (.getfield 31, 3) := by decide +kernel
theorem dX3_refusalOfItem_21 : decode cX3_refusalOfItem 21 = .ok (.iload_n 1, 1) := by decide +kernel
theorem dX3_refusalOfItem_22 : decode cX3_refusalOfItem 22 = .ok (.aaload, 1) := by decide +kernel
theorem dX3_refusalOfItem_23 : decode cX3_refusalOfItem 23 = .ok (.getfield 93, 3) := by decide +kernel
theorem dX3_refusalOfItem_26 : decode cX3_refusalOfItem 26 = .ok (.ifCond .eq 9, 3) := by decide +kernel
theorem dX3_refusalOfItem_29 : decode cX3_refusalOfItem 29 = .ok (.aload_n 0, 1) := by decide +kernel
theorem dX3_refusalOfItem_30 : decode cX3_refusalOfItem 30 = .ok (.iconst 1, 1) := by decide +kernel
theorem dX3_refusalOfItem_31 : decode cX3_refusalOfItem 31 = .ok (.invokevirtual 97, 3) := by decide +kernel
theorem dX3_refusalOfItem_34 : decode cX3_refusalOfItem 34 = .ok (.ireturn, 1) := by decide +kernel
theorem dX3_refusalOfItem_35 : decode cX3_refusalOfItem 35 = .ok (.aload_n 0, 1) := by decide +kernel
theorem dX3_refusalOfItem_36 : decode cX3_refusalOfItem 36 = .ok (.getfield 31, 3) := by decide +kernel
theorem dX3_refusalOfItem_39 : decode cX3_refusalOfItem 39 = .ok (.iload_n 1, 1) := by decide +kernel
theorem dX3_refusalOfItem_40 : decode cX3_refusalOfItem 40 = .ok (.aaload, 1) := by decide +kernel
theorem dX3_refusalOfItem_41 : decode cX3_refusalOfItem 41 = .ok (.getfield 212, 3) := by decide +kernel
theorem dX3_refusalOfItem_44 : decode cX3_refusalOfItem 44 = .ok (.iload_n 2, 1) := by decide +kernel
theorem dX3_refusalOfItem_45 : decode cX3_refusalOfItem 45 = .ok (.if_icmp .eq 9, 3) := by decide +kernel
theorem dX3_refusalOfItem_48 : decode cX3_refusalOfItem 48 = .ok (.aload_n 0, 1) := by decide +kernel
theorem dX3_refusalOfItem_49 : decode cX3_refusalOfItem 49 = .ok (.iconst 3, 1) := by decide +kernel
theorem dX3_refusalOfItem_50 : decode cX3_refusalOfItem 50 = .ok (.invokevirtual 97, 3) := by decide +kernel
theorem dX3_refusalOfItem_53 : decode cX3_refusalOfItem 53 = .ok (.ireturn, 1) := by decide +kernel
theorem dX3_refusalOfItem_54 : decode cX3_refusalOfItem 54 = .ok (.aload_n 0, 1) := by decide +kernel
theorem dX3_refusalOfItem_55 : decode cX3_refusalOfItem 55 = .ok (.getfield 31, 3) := by decide +kernel
theorem dX3_refusalOfItem_58 : decode cX3_refusalOfItem 58 = .ok (.iload_n 1, 1) := by decide +kernel
theorem dX3_refusalOfItem_59 : decode cX3_refusalOfItem 59 = .ok (.aaload, 1) := by decide +kernel
theorem dX3_refusalOfItem_60 : decode cX3_refusalOfItem 60 = .ok (.iload_n 3, 1) := by decide +kernel
theorem dX3_refusalOfItem_61 : decode cX3_refusalOfItem 61 = .ok (.iconst 1, 1) := by decide +kernel
theorem dX3_refusalOfItem_62 : decode cX3_refusalOfItem 62 = .ok (.invokevirtual 215, 3) := by decide +kernel
theorem dX3_refusalOfItem_65 : decode cX3_refusalOfItem 65 = .ok (.ifCond .eq 7, 3) := by decide +kernel
theorem dX3_refusalOfItem_68 : decode cX3_refusalOfItem 68 = .ok (.iconst 0, 1) := by decide +kernel
theorem dX3_refusalOfItem_69 : decode cX3_refusalOfItem 69 = .ok (.goto 8, 3) := by decide +kernel
theorem dX3_refusalOfItem_72 : decode cX3_refusalOfItem 72 = .ok (.aload_n 0, 1) := by decide +kernel
theorem dX3_refusalOfItem_73 : decode cX3_refusalOfItem 73 = .ok (.iconst 2, 1) := by decide +kernel
theorem dX3_refusalOfItem_74 : decode cX3_refusalOfItem 74 = .ok (.invokevirtual 97, 3) := by decide +kernel
theorem dX3_refusalOfItem_77 : decode cX3_refusalOfItem 77 = .ok (.ireturn, 1) := by decide +kernel
theorem dX3_middlesUpAt_0 : decode cX3_middlesUpAt 0 = .ok (.bipush 63, 2) := by decide +kernel
theorem dX3_middlesUpAt_2 : decode cX3_middlesUpAt 2 = .ok (.iconst 2, 1) := by decide +kernel
theorem dX3_middlesUpAt_3 : decode cX3_middlesUpAt 3 = .ok (.iload_n 0, 1) := by decide +kernel
theorem dX3_middlesUpAt_4 : decode cX3_middlesUpAt 4 = .ok (.ishl, 1) := by decide +kernel
theorem dX3_middlesUpAt_5 : decode cX3_middlesUpAt 5 = .ok (.iconst 1, 1) := by decide +kernel
theorem dX3_middlesUpAt_6 : decode cX3_middlesUpAt 6 = .ok (.isub, 1) := by decide +kernel
theorem dX3_middlesUpAt_7 : decode cX3_middlesUpAt 7 = .ok (.iconst (-1), 1) := by decide +kernel
theorem dX3_middlesUpAt_8 : decode cX3_middlesUpAt 8 = .ok (.ixor, 1) := by decide +kernel
theorem dX3_middlesUpAt_9 : decode cX3_middlesUpAt 9 = .ok (.iand, 1) := by decide +kernel
theorem dX3_middlesUpAt_10 : decode cX3_middlesUpAt 10 = .ok (.ireturn, 1) := by decide +kernel
theorem dX3_asNumber_0 : decode cX3_asNumber 0 = .ok (.iload_n 0, 1) := by decide +kernel
theorem dX3_asNumber_1 : decode cX3_asNumber 1 = .ok (.ifCond .eq 7, 3) := by decide +kernel
theorem dX3_asNumber_4 : decode cX3_asNumber 4 = .ok (.iconst 1, 1) := by decide +kernel
theorem dX3_asNumber_5 : decode cX3_asNumber 5 = .ok (.goto 4, 3) := by decide +kernel
theorem dX3_asNumber_8 : decode cX3_asNumber 8 = .ok (.iconst 0, 1) := by decide +kernel
theorem dX3_asNumber_9 : decode cX3_asNumber 9 = .ok (.ireturn, 1) := by decide +kernel
theorem dX3_bit_0 : decode cX3_bit 0 = .ok (.lconst 1, 1) := by decide +kernel
theorem dX3_bit_1 : decode cX3_bit 1 = .ok (.iload_n 0, 1) := by decide +kernel
theorem dX3_bit_2 : decode cX3_bit 2 = .ok (.lshl, 1) := by decide +kernel
theorem dX3_bit_3 : decode cX3_bit 3 = .ok (.lreturn, 1) := by decide +kernel
theorem dX3_has_0 : decode cX3_has 0 = .ok (.iload_n 2, 1) := by decide +kernel
theorem dX3_has_1 : decode cX3_has 1 = .ok (.ifCond .lt 23, 3) := by decide +kernel
theorem dX3_has_4 : decode cX3_has 4 = .ok (.iload_n 2, 1) := by decide +kernel
theorem dX3_has_5 : decode cX3_has 5 = .ok (.bipush 35, 2) := by decide +kernel
theorem dX3_has_7 : decode cX3_has 7 = .ok (.if_icmp .ge 17, 3) := by decide +kernel
theorem dX3_has_10 : decode cX3_has 10 = .ok (.lload_n 0, 1) := by decide +kernel
theorem dX3_has_11 : decode cX3_has 11 = .ok (.iload_n 2, 1) := by decide +kernel
theorem dX3_has_12 : decode cX3_has 12 = .ok (.lushr, 1) := by decide +kernel
theorem dX3_has_13 : decode cX3_has 13 = .ok (.lconst 1, 1) := by decide +kernel
theorem dX3_has_14 : decode cX3_has 14 = .ok (.land, 1) := by decide +kernel
theorem dX3_has_15 : decode cX3_has 15 = .ok (.lconst 0, 1) := by decide +kernel
theorem dX3_has_16 : decode cX3_has 16 = .ok (.lcmp, 1) := by decide +kernel
theorem dX3_has_17 : decode cX3_has 17 = .ok (.ifCond .eq 7, 3) := by decide +kernel
theorem dX3_has_20 : decode cX3_has 20 = .ok (.iconst 1, 1) := by decide +kernel
theorem dX3_has_21 : decode cX3_has 21 = .ok (.goto 4, 3) := by decide +kernel
theorem dX3_has_24 : decode cX3_has 24 = .ok (.iconst 0, 1) := by decide +kernel
theorem dX3_has_25 : decode cX3_has 25 = .ok (.ireturn, 1) := by decide +kernel
theorem dX3_sizeOrItem_0 : decode cX3_sizeOrItem 0 = .ok (.iload_n 2, 1) := by decide +kernel
theorem dX3_sizeOrItem_1 : decode cX3_sizeOrItem 1 = .ok (.iconst (-1), 1) := by decide +kernel
theorem dX3_sizeOrItem_2 : decode cX3_sizeOrItem 2 = .ok (.if_icmp .ne 8, 3) := by decide +kernel
theorem dX3_sizeOrItem_5 : decode cX3_sizeOrItem 5 = .ok (.lload_n 0, 1) := by decide +kernel
theorem dX3_sizeOrItem_6 : decode cX3_sizeOrItem 6 = .ok (.invokestatic 179, 3) := by decide +kernel
theorem dX3_sizeOrItem_9 : decode cX3_sizeOrItem 9 = .ok (.ireturn, 1) := by decide +kernel
theorem dX3_sizeOrItem_10 : decode cX3_sizeOrItem 10 = .ok (.iconst 0, 1) := by decide +kernel
theorem dX3_sizeOrItem_11 : decode cX3_sizeOrItem 11 = .ok (.istore_n 3, 1) := by decide +kernel
theorem dX3_sizeOrItem_12 : decode cX3_sizeOrItem 12 = .ok (.iconst 0, 1) := by decide +kernel
theorem dX3_sizeOrItem_13 : decode cX3_sizeOrItem 13 = .ok (.istore 4, 2) := by decide +kernel
theorem dX3_sizeOrItem_15 : decode cX3_sizeOrItem 15 = .ok (.iload 4, 2) := by decide +kernel
theorem dX3_sizeOrItem_17 : decode cX3_sizeOrItem 17 = .ok (.bipush 35, 2) := by decide +kernel
theorem dX3_sizeOrItem_19 : decode cX3_sizeOrItem 19 = .ok (.if_icmp .ge 29, 3) := by decide +kernel
theorem dX3_sizeOrItem_22 : decode cX3_sizeOrItem 22 = .ok (.lload_n 0, 1) := by decide +kernel
theorem dX3_sizeOrItem_23 : decode cX3_sizeOrItem 23 = .ok (.iload 4, 2) := by decide +kernel
theorem dX3_sizeOrItem_25 : decode cX3_sizeOrItem 25 = .ok (.invokestatic 76, 3) := by decide +kernel
theorem dX3_sizeOrItem_28 : decode cX3_sizeOrItem 28 = .ok (.ifCond .eq 14, 3) := by decide +kernel
theorem dX3_sizeOrItem_31 : decode cX3_sizeOrItem 31 = .ok (.iload_n 3, 1) := by decide +kernel
theorem dX3_sizeOrItem_32 : decode cX3_sizeOrItem 32 = .ok (.iload_n 2, 1) := by decide +kernel
theorem dX3_sizeOrItem_33 : decode cX3_sizeOrItem 33 = .ok (.if_icmp .ne 6, 3) := by decide +kernel
theorem dX3_sizeOrItem_36 : decode cX3_sizeOrItem 36 = .ok (.iload 4, 2) := by decide +kernel
theorem dX3_sizeOrItem_38 : decode cX3_sizeOrItem 38 = .ok (.ireturn, 1) := by decide +kernel
theorem dX3_sizeOrItem_39 : decode cX3_sizeOrItem 39 = .ok (.iinc 3 1, 3) := by decide +kernel
theorem dX3_sizeOrItem_42 : decode cX3_sizeOrItem 42 = .ok (.iinc 4 1, 3) := by decide +kernel
theorem dX3_sizeOrItem_45 : decode cX3_sizeOrItem 45 = .ok (.goto (-30), 3) := by decide +kernel
theorem dX3_sizeOrItem_48 : decode cX3_sizeOrItem 48 = .ok (.iconst (-1), 1) := by decide +kernel
theorem dX3_sizeOrItem_49 : decode cX3_sizeOrItem 49 = .ok (.ireturn, 1) := by decide +kernel
theorem dX4_init_0 : decode cX4_init 0 = .ok (.aload_n 0, 1) := by decide +kernel
theorem dX4_init_1 : decode cX4_init 1 = .ok (.invokespecial 1, 3) := by decide +kernel
theorem dX4_init_4 : decode cX4_init 4 = .ok (.aload_n 0, 1) := by decide +kernel
theorem dX4_init_5 : decode cX4_init 5 = .ok (.bipush 39, 2) := by decide +kernel
theorem dX4_init_7 : decode cX4_init 7 = .ok (.newarray .int, 2) := by decide +kernel
theorem dX4_init_9 : decode cX4_init 9 = .ok (.putfield 7, 3) := by decide +kernel
theorem dX4_init_12 : decode cX4_init 12 = .ok (.aload_n 0, 1) := by decide +kernel
theorem dX4_init_13 : decode cX4_init 13 = .ok (.bipush 36, 2) := by decide +kernel
theorem dX4_init_15 : decode cX4_init 15 = .ok (.newarray .int, 2) := by decide +kernel
theorem dX4_init_17 : decode cX4_init 17 = .ok (.putfield 13, 3) := by decide +kernel
theorem dX4_init_20 : decode cX4_init 20 = .ok (.aload_n 0, 1) := by decide +kernel
theorem dX4_init_21 : decode cX4_init 21 = .ok (.bipush 8, 2) := by decide +kernel
theorem dX4_init_23 : decode cX4_init 23 = .ok (.newarray .int, 2) := by decide +kernel
theorem dX4_init_25 : decode cX4_init 25 = .ok (.putfield 16, 3) := by decide +kernel
theorem dX4_init_28 : decode cX4_init 28 = .ok (.aload_n 0, 1) := by decide +kernel
theorem dX4_init_29 : decode cX4_init 29 = .ok (.bipush 8, 2) := by decide +kernel
theorem dX4_init_31 : decode cX4_init 31 = .ok (.newarray .int, 2) := by decide +kernel
theorem dX4_init_33 : decode cX4_init 33 = .ok (.putfield 19, 3) := by decide +kernel
theorem dX4_init_36 : decode cX4_init 36 = .ok (.aload_n 0, 1) := by decide +kernel
theorem dX4_init_37 : decode cX4_init 37 = .ok (.bipush 36, 2) := by decide +kernel
theorem dX4_init_39 : decode cX4_init 39 = .ok (.newarray .int, 2) := by decide +kernel
theorem dX4_init_41 : decode cX4_init 41 = .ok (.putfield 22, 3) := by decide +kernel
theorem dX4_init_44 : decode cX4_init 44 = .ok (.aload_n 0, 1) := by decide +kernel
theorem dX4_init_45 : decode cX4_init 45 = .ok (.bipush 36, 2) := by decide +kernel
theorem dX4_init_47 : decode cX4_init 47 = .ok (.newarray .boolean, 2) := by decide +kernel
theorem dX4_init_49 : decode cX4_init 49 = .ok (.putfield 25, 3) := by decide +kernel
theorem dX4_init_52 : decode cX4_init 52 = .ok (.aload_n 0, 1) := by decide +kernel
theorem dX4_init_53 : decode cX4_init 53 = .ok (.bipush 36, 2) := by decide +kernel
theorem dX4_init_55 : decode cX4_init 55 = .ok (.newarray .boolean, 2) := by decide +kernel
theorem dX4_init_57 : decode cX4_init 57 = .ok (.putfield 29, 3) := by decide +kernel
theorem dX4_init_60 : decode cX4_init 60 = .ok (.aload_n 0, 1) := by decide +kernel
theorem dX4_init_61 : decode cX4_init 61 = .ok (.iconst 2, 1) := by decide +kernel
theorem dX4_init_62 : decode cX4_init 62 = .ok (.newarray .int, 2) := by decide +kernel
theorem dX4_init_64 : decode cX4_init 64 = .ok (.putfield 32, 3) := by decide +kernel
theorem dX4_init_67 : decode cX4_init 67 = .ok (.aload_n 0, 1) := by decide +kernel
theorem dX4_init_68 : decode cX4_init 68 = .ok (.bipush 8, 2) := by decide +kernel
theorem dX4_init_70 : decode cX4_init 70 = .ok (.newarray .int, 2) := by decide +kernel
theorem dX4_init_72 : decode cX4_init 72 = .ok (.putfield 35, 3) := by decide +kernel
theorem dX4_init_75 : decode cX4_init 75 = .ok (.aload_n 0, 1) := by decide +kernel
theorem dX4_init_76 : decode cX4_init 76 = .ok (.bipush 8, 2) := by decide +kernel
theorem dX4_init_78 : decode cX4_init 78 = .ok (.newarray .int, 2) := by decide +kernel
theorem dX4_init_80 : decode cX4_init 80 = .ok (.putfield 38, 3) := by decide +kernel
theorem dX4_init_83 : decode cX4_init 83 = .ok (.aload_n 0, 1) := by decide +kernel
theorem dX4_init_84 : decode cX4_init 84 = .ok (.iconst 4, 1) := by decide +kernel
theorem dX4_init_85 : decode cX4_init 85 = .ok (.newarray .boolean, 2) := by decide +kernel
theorem dX4_init_87 : decode cX4_init 87 = .ok (.putfield 41, 3) := by decide +kernel
theorem dX4_init_90 : decode cX4_init 90 = .ok (.aload_n 0, 1) := by decide +kernel
theorem dX4_init_91 : decode cX4_init 91 = .ok (.iconst 4, 1) := by decide +kernel
theorem dX4_init_92 : decode cX4_init 92 = .ok (.newarray .int, 2) := by decide +kernel
theorem dX4_init_94 : decode cX4_init 94 = .ok (.putfield 44, 3) := by decide +kernel
theorem dX4_init_97 : decode cX4_init 97 = .ok (.aload_n 0, 1) := by decide +kernel
theorem dX4_init_98 : decode cX4_init 98 = .ok (.iconst 4, 1) := by decide +kernel
theorem dX4_init_99 : decode cX4_init 99 = .ok (.newarray .int, 2) := by decide +kernel
theorem dX4_init_101 : decode cX4_init 101 = .ok (.putfield 47, 3) := by decide +kernel
theorem dX4_init_104 : decode cX4_init 104 = .ok (.aload_n 0, 1) := by decide +kernel
theorem dX4_init_105 : decode cX4_init 105 = .ok (.sipush 192, 3) := by decide +kernel
theorem dX4_init_108 : decode cX4_init 108 = .ok (.newarray .int, 2) := by decide +kernel
theorem dX4_init_110 : decode cX4_init 110 = .ok (.putfield 50, 3) := by decide +kernel
theorem dX4_init_113 : decode cX4_init 113 = .ok (.aload_n 0, 1) := by decide +kernel
theorem dX4_init_114 : decode cX4_init 114 = .ok (.bipush 48, 2) := by decide +kernel
theorem dX4_init_116 : decode cX4_init 116 = .ok (.newarray .int, 2) := by decide +kernel
theorem dX4_init_118 : decode cX4_init 118 = .ok (.putfield 53, 3) := by decide +kernel
theorem dX4_init_121 : decode cX4_init 121 = .ok (.aload_n 0, 1) := by decide +kernel
theorem dX4_init_122 : decode cX4_init 122 = .ok (.iconst 2, 1) := by decide +kernel
theorem dX4_init_123 : decode cX4_init 123 = .ok (.putfield 56, 3) := by decide +kernel
theorem dX4_init_126 : decode cX4_init 126 = .ok (.aload_n 0, 1) := by decide +kernel
theorem dX4_init_127 : decode cX4_init 127 = .ok (.iconst 2, 1) := by decide +kernel
theorem dX4_init_128 : decode cX4_init 128 = .ok (.putfield 60, 3) := by decide +kernel
theorem dX4_init_131 : decode cX4_init 131 = .ok (.return_, 1) := by decide +kernel
theorem dX4_in_0 : decode cX4_in 0 = .ok (.iload_n 0, 1) := by decide +kernel
theorem dX4_in_1 : decode cX4_in 1 = .ok (.iload_n 1, 1) := by decide +kernel
theorem dX4_in_2 : decode cX4_in 2 = .ok (.if_icmp .lt 12, 3) := by decide +kernel
theorem dX4_in_5 : decode cX4_in 5 = .ok (.iload_n 0, 1) := by decide +kernel
theorem dX4_in_6 : decode cX4_in 6 = .ok (.iload_n 2, 1) := by decide +kernel
theorem dX4_in_7 : decode cX4_in 7 = .ok (.if_icmp .gt 7, 3) := by decide +kernel
theorem dX4_in_10 : decode cX4_in 10 = .ok (.iconst 1, 1) := by decide +kernel
theorem dX4_in_11 : decode cX4_in 11 = .ok (.goto 4, 3) := by decide +kernel
theorem dX4_in_14 : decode cX4_in 14 = .ok (.iconst 0, 1) := by decide +kernel
theorem dX4_in_15 : decode cX4_in 15 = .ok (.ireturn, 1) := by decide +kernel
theorem dX4_isIn_0 : decode cX4_isIn 0 = .ok (.iload_n 0, 1) := by decide +kernel
theorem dX4_isIn_1 : decode cX4_isIn 1 = .ok (.iload_n 1, 1) := by decide +kernel
theorem dX4_isIn_2 : decode cX4_isIn 2 = .ok (.ishr, 1) := by decide +kernel
theorem dX4_isIn_3 : decode cX4_isIn 3 = .ok (.iconst 1, 1) := by decide +kernel
theorem dX4_isIn_4 : decode cX4_isIn 4 = .ok (.iand, 1) := by decide +kernel
theorem dX4_isIn_5 : decode cX4_isIn 5 = .ok (.iconst 1, 1) := by decide +kernel
theorem dX4_isIn_6 : decode cX4_isIn 6 = .ok (.if_icmp .ne 7, 3) := by decide +kernel
theorem dX4_isIn_9 : decode cX4_isIn 9 = .ok (.iconst 1, 1) := by decide +kernel
theorem dX4_isIn_10 : decode cX4_isIn 10 = .ok (.goto 4, 3) := by decide +kernel
theorem dX4_isIn_13 : decode cX4_isIn 13 = .ok (.iconst 0, 1) := by decide +kernel
theorem dX4_isIn_14 : decode cX4_isIn 14 = .ok (.ireturn, 1) := by decide +kernel
theorem dX4_no_0 : decode cX4_no 0 = .ok (.ldc2_w 63, 3) := by decide +kernel
theorem dX4_no_3 : decode cX4_no 3 = .ok (.iload_n 0, 1) := by decide +kernel
theorem dX4_no_4 : decode cX4_no 4 = .ok (.i2l, 1) := by decide +kernel
theorem dX4_no_5 : decode cX4_no 5 = .ok (.lsub, 1) := by decide +kernel
theorem dX4_no_6 : decode cX4_no 6 = .ok (.lreturn, 1) := by decide +kernel
theorem dX4_lowest_0 : decode cX4_lowest 0 = .ok (.lload_n 0, 1) := by decide +kernel
theorem dX4_lowest_1 : decode cX4_lowest 1 = .ok (.lstore 5, 2) := by decide +kernel
theorem dX4_lowest_3 : decode cX4_lowest 3 = .ok (.lload_n 2, 1) := by decide +kernel
theorem dX4_lowest_4 : decode cX4_lowest 4 = .ok (.lstore 7, 2) := by decide +kernel
theorem dX4_lowest_6 : decode cX4_lowest 6 = .ok (.lload 7, 2) := by decide +kernel
theorem dX4_lowest_8 : decode cX4_lowest 8 = .ok (.lconst 0, 1) := by decide +kernel
theorem dX4_lowest_9 : decode cX4_lowest 9 = .ok (.lcmp, 1) := by decide +kernel
theorem dX4_lowest_10 : decode cX4_lowest 10 = .ok (.ifCond .eq 21, 3) := by decide +kernel
theorem dX4_lowest_13 : decode cX4_lowest 13 = .ok (.lload 5, 2) := by decide +kernel
theorem dX4_lowest_15 : decode cX4_lowest 15 = .ok (.lload 7, 2) := by decide +kernel
theorem dX4_lowest_17 : decode cX4_lowest 17 = .ok (.lrem, 1) := by decide +kernel
theorem dX4_lowest_18 : decode cX4_lowest 18 = .ok (.lstore 9, 2) := by decide +kernel
theorem dX4_lowest_20 : decode cX4_lowest 20 = .ok (.lload 7, 2) := by decide +kernel
theorem dX4_lowest_22 : decode cX4_lowest 22 = .ok (.lstore 5, 2) := by decide +kernel
theorem dX4_lowest_24 : decode cX4_lowest 24 = .ok (.lload 9, 2) := by decide +kernel
theorem dX4_lowest_26 : decode cX4_lowest 26 = .ok (.lstore 7, 2) := by decide +kernel
theorem dX4_lowest_28 : decode cX4_lowest 28 = .ok (.goto (-22), 3) := by decide +kernel
theorem dX4_lowest_31 : decode cX4_lowest 31 = .ok (.iload 4, 2) := by decide +kernel
theorem dX4_lowest_33 : decode cX4_lowest 33 = .ok (.ifCond .ne 10, 3) := by decide +kernel
theorem dX4_lowest_36 : decode cX4_lowest 36 = .ok (.lload_n 0, 1) := by decide +kernel
theorem dX4_lowest_37 : decode cX4_lowest 37 = .ok (.lload 5, 2) := by decide +kernel
theorem dX4_lowest_39 : decode cX4_lowest 39 = .ok (.ldiv, 1) := by decide +kernel
theorem dX4_lowest_40 : decode cX4_lowest 40 = .ok (.goto 7, 3) := by decide +kernel
theorem dX4_lowest_43 : decode cX4_lowest 43 = .ok (.lload_n 2, 1) := by decide +kernel
theorem dX4_lowest_44 : decode cX4_lowest 44 = .ok (.lload 5, 2) := by decide +kernel
theorem dX4_lowest_46 : decode cX4_lowest 46 = .ok (.ldiv, 1) := by decide +kernel
theorem dX4_lowest_47 : decode cX4_lowest 47 = .ok (.lreturn, 1) := by decide +kernel
theorem dX4_type_0 : decode cX4_type 0 = .ok (.iload_n 1, 1) := by decide +kernel
theorem dX4_type_1 : decode cX4_type 1 = .ok (.iconst 0, 1) := by decide +kernel
theorem dX4_type_2 : decode cX4_type 2 = .ok (.sipush 255, 3) := by decide +kernel
theorem dX4_type_5 : decode cX4_type 5 = .ok (.invokestatic 65, 3) := by decide +kernel
theorem dX4_type_8 : decode cX4_type 8 = .ok (.ifCond .ne 6, 3) := by decide +kernel
theorem dX4_type_11 : decode cX4_type 11 = .ok (.bipush (-2), 2) := by decide +kernel
theorem dX4_type_13 : decode cX4_type 13 = .ok (.ireturn, 1) := by decide +kernel
theorem dX4_type_14 : decode cX4_type 14 = .ok (.aload_n 0, 1) := by decide +kernel
theorem dX4_type_15 : decode cX4_type 15 = .ok (.getfield 69, 3) := by decide +kernel
theorem dX4_type_18 : decode cX4_type 18 = .ok (.bipush 39, 2) := by decide +kernel
theorem dX4_type_20 : decode cX4_type 20 = .ok (.if_icmp .ne 6, 3) := by decide +kernel
theorem dX4_type_23 : decode cX4_type 23 = .ok (.bipush (-4), 2) := by decide +kernel
theorem dX4_type_25 : decode cX4_type 25 = .ok (.ireturn, 1) := by decide +kernel
theorem dX4_type_26 : decode cX4_type 26 = .ok (.aload_n 0, 1) := by decide +kernel
theorem dX4_type_27 : decode cX4_type 27 = .ok (.getfield 7, 3) := by decide +kernel
theorem dX4_type_30 : decode cX4_type 30 = .ok (.aload_n 0, 1) := by decide +kernel
theorem dX4_type_31 : decode cX4_type 31 = .ok (.getfield 69, 3) := by decide +kernel
theorem dX4_type_34 : decode cX4_type 34 = .ok (.iload_n 1, 1) := by decide +kernel
theorem dX4_type_35 : decode cX4_type 35 = .ok (.iastore, 1) := by decide +kernel
theorem dX4_type_36 : decode cX4_type 36 = .ok (.aload_n 0, 1) := by decide +kernel
theorem dX4_type_37 : decode cX4_type 37 = .ok (.dup, 1) := by decide +kernel
theorem dX4_type_38 : decode cX4_type 38 = .ok (.getfield 69, 3) := by decide +kernel
theorem dX4_type_41 : decode cX4_type 41 = .ok (.iconst 1, 1) := by decide +kernel
theorem dX4_type_42 : decode cX4_type 42 = .ok (.iadd, 1) := by decide +kernel
theorem dX4_type_43 : decode cX4_type 43 = .ok (.putfield 69, 3) := by decide +kernel
theorem dX4_type_46 : decode cX4_type 46 = .ok (.aload_n 0, 1) := by decide +kernel
theorem dX4_type_47 : decode cX4_type 47 = .ok (.getfield 69, 3) := by decide +kernel
theorem dX4_type_50 : decode cX4_type 50 = .ok (.ireturn, 1) := by decide +kernel
theorem dX4_wipe_0 : decode cX4_wipe 0 = .ok (.aload_n 0, 1) := by decide +kernel
theorem dX4_wipe_1 : decode cX4_wipe 1 = .ok (.getfield 69, 3) := by decide +kernel
theorem dX4_wipe_4 : decode cX4_wipe 4 = .ok (.istore_n 1, 1) := by decide +kernel
theorem dX4_wipe_5 : decode cX4_wipe 5 = .ok (.aload_n 0, 1) := by decide +kernel
theorem dX4_wipe_6 : decode cX4_wipe 6 = .ok (.iconst 0, 1) := by decide +kernel
theorem dX4_wipe_7 : decode cX4_wipe 7 = .ok (.putfield 69, 3) := by decide +kernel
theorem dX4_wipe_10 : decode cX4_wipe 10 = .ok (.iload_n 1, 1) := by decide +kernel
theorem dX4_wipe_11 : decode cX4_wipe 11 = .ok (.ireturn, 1) := by decide +kernel
theorem dX4_undo_0 : decode cX4_undo 0 = .ok (.aload_n 0, 1) := by decide +kernel
theorem dX4_undo_1 : decode cX4_undo 1 = .ok (.getfield 69, 3) := by decide +kernel
theorem dX4_undo_4 : decode cX4_undo 4 = .ok (.ifCond .ne 6, 3) := by decide +kernel
theorem dX4_undo_7 : decode cX4_undo 7 = .ok (.bipush (-3), 2) := by decide +kernel
theorem dX4_undo_9 : decode cX4_undo 9 = .ok (.ireturn, 1) := by decide +kernel
theorem dX4_undo_10 : decode cX4_undo 10 = .ok (.aload_n 0, 1) := by decide +kernel
theorem dX4_undo_11 : decode cX4_undo 11 = .ok (.dup, 1) := by decide +kernel
theorem dX4_undo_12 : decode cX4_undo 12 = .ok (.getfield 69, 3) := by decide +kernel
theorem dX4_undo_15 : decode cX4_undo 15 = .ok (.iconst 1, 1) := by decide +kernel
theorem dX4_undo_16 : decode cX4_undo 16 = .ok (.isub, 1) := by decide +kernel
theorem dX4_undo_17 : decode cX4_undo 17 = .ok (.putfield 69, 3) := by decide +kernel
theorem dX4_undo_20 : decode cX4_undo 20 = .ok (.aload_n 0, 1) := by decide +kernel
theorem dX4_undo_21 : decode cX4_undo 21 = .ok (.getfield 69, 3) := by decide +kernel
theorem dX4_undo_24 : decode cX4_undo 24 = .ok (.ireturn, 1) := by decide +kernel
theorem dX4_kindOf_0 : decode cX4_kindOf 0 = .ok (.iload_n 0, 1) := by decide +kernel
theorem dX4_kindOf_1 : decode cX4_kindOf 1 = .ok (.bipush 35, 2) := by decide +kernel
theorem dX4_kindOf_3 : decode cX4_kindOf 3 = .ok (.if_icmp .ne 7, 3) := by decide +kernel
theorem dX4_kindOf_6 : decode cX4_kindOf 6 = .ok (.iconst 0, 1) := by decide +kernel
theorem dX4_kindOf_7 : decode cX4_kindOf 7 = .ok (.goto 34, 3) := by decide +kernel
theorem dX4_kindOf_10 : decode cX4_kindOf 10 = .ok (.iload_n 0, 1) := by decide +kernel
theorem dX4_kindOf_11 : decode cX4_kindOf 11 = .ok (.bipush 46, 2) := by decide +kernel
theorem dX4_kindOf_13 : decode cX4_kindOf 13 = .ok (.if_icmp .ne 7, 3) := by decide +kernel
theorem dX4_kindOf_16 : decode cX4_kindOf 16 = .ok (.iconst 1, 1) := by decide +kernel
theorem dX4_kindOf_17 : decode cX4_kindOf 17 = .ok (.goto 24, 3) := by decide +kernel
theorem dX4_kindOf_20 : decode cX4_kindOf 20 = .ok (.iload_n 0, 1) := by decide +kernel
theorem dX4_kindOf_21 : decode cX4_kindOf 21 = .ok (.bipush 108, 2) := by decide +kernel
theorem dX4_kindOf_23 : decode cX4_kindOf 23 = .ok (.if_icmp .ne 7, 3) := by decide +kernel
theorem dX4_kindOf_26 : decode cX4_kindOf 26 = .ok (.iconst 2, 1) := by decide +kernel
theorem dX4_kindOf_27 : decode cX4_kindOf 27 = .ok (.goto 14, 3) := by decide +kernel
theorem dX4_kindOf_30 : decode cX4_kindOf 30 = .ok (.iload_n 0, 1) := by decide +kernel
theorem dX4_kindOf_31 : decode cX4_kindOf 31 = .ok (.bipush 119, 2) := by decide +kernel
theorem dX4_kindOf_33 : decode cX4_kindOf 33 = .ok (.if_icmp .ne 7, 3) := by decide +kernel
theorem dX4_kindOf_36 : decode cX4_kindOf 36 = .ok (.iconst 3, 1) := by decide +kernel
theorem dX4_kindOf_37 : decode cX4_kindOf 37 = .ok (.goto 4, 3) := by decide +kernel
theorem dX4_kindOf_40 : decode cX4_kindOf 40 = .ok (.iconst (-1), 1) := by decide +kernel
theorem dX4_kindOf_41 : decode cX4_kindOf 41 = .ok (.ireturn, 1) := by decide +kernel
theorem dX4_faultNow_0 : decode cX4_faultNow 0 = .ok (.iconst 0, 1) := by decide +kernel
theorem dX4_faultNow_1 : decode cX4_faultNow 1 = .ok (.istore_n 1, 1) := by decide +kernel
theorem dX4_faultNow_2 : decode cX4_faultNow 2 = .ok (.iconst 0, 1) := by decide +kernel
theorem dX4_faultNow_3 : decode cX4_faultNow 3 = .ok (.istore_n 2, 1) := by decide +kernel
theorem dX4_faultNow_4 : decode cX4_faultNow 4 = .ok (.iconst 0, 1) := by decide +kernel
theorem dX4_faultNow_5 : decode cX4_faultNow 5 = .ok (.istore_n 3, 1) := by decide +kernel
theorem dX4_faultNow_6 : decode cX4_faultNow 6 = .ok (.aload_n 0, 1) := by decide +kernel
theorem dX4_faultNow_7 : decode cX4_faultNow 7 = .ok (.iconst 0, 1) := by decide +kernel
theorem dX4_faultNow_8 : decode cX4_faultNow 8 = .ok (.putfield 72, 3) := by decide +kernel
theorem dX4_faultNow_11 : decode cX4_faultNow 11 = .ok (.aload_n 0, 1) := by decide +kernel
theorem dX4_faultNow_12 : decode cX4_faultNow 12 = .ok (.iconst 0, 1) := by decide +kernel
theorem dX4_faultNow_13 : decode cX4_faultNow 13 = .ok (.putfield 75, 3) := by decide +kernel
theorem dX4_faultNow_16 : decode cX4_faultNow 16 = .ok (.aload_n 0, 1) := by decide +kernel
theorem dX4_faultNow_17 : decode cX4_faultNow 17 = .ok (.bipush 7, 2) := by decide +kernel
theorem dX4_faultNow_19 : decode cX4_faultNow 19 = .ok (.putfield 78, 3) := by decide +kernel
theorem dX4_faultNow_22 : decode cX4_faultNow 22 = .ok (.iconst 0, 1) := by decide +kernel
theorem dX4_faultNow_23 : decode cX4_faultNow 23 = .ok (.istore 4, 2) := by decide +kernel
theorem dX4_faultNow_25 : decode cX4_faultNow 25 = .ok (.iload 4, 2) := by decide +kernel
theorem dX4_faultNow_27 : decode cX4_faultNow 27 = .ok (.aload_n 0, 1) := by decide +kernel
theorem dX4_faultNow_28 : decode cX4_faultNow 28 = .ok (.getfield 69, 3) := by decide +kernel
theorem dX4_faultNow_31 : decode cX4_faultNow 31 = .ok (.if_icmp .ge 115, 3) := by decide +kernel
theorem dX4_faultNow_34 : decode cX4_faultNow 34 = .ok (.iload_n 1, 1) := by decide +kernel
theorem dX4_faultNow_35 : decode cX4_faultNow 35 = .ok (.iconst 5, 1) := by decide +kernel
theorem dX4_faultNow_36 : decode cX4_faultNow 36 = .ok (.if_icmp .ne 6, 3) := by decide +kernel
theorem dX4_faultNow_39 : decode cX4_faultNow 39 = .ok (.iload 4, 2) := by decide +kernel
theorem dX4_faultNow_41 : decode cX4_faultNow 41 = .ok (.ireturn, 1) := by decide +kernel
theorem dX4_faultNow_42 : decode cX4_faultNow 42 = .ok (.aload_n 0, 1) := by decide +kernel
theorem dX4_faultNow_43 : decode cX4_faultNow 43 = .ok (.getfield 7, 3) := by decide +kernel
theorem dX4_faultNow_46 : decode cX4_faultNow 46 = .ok (.iload 4, 2) := by decide +kernel
theorem dX4_faultNow_48 : decode cX4_faultNow 48 = .ok (.iaload, 1) := by decide +kernel
theorem dX4_faultNow_49 : decode cX4_faultNow 49 = .ok (.bipush 59, 2) := by decide +kernel
theorem dX4_faultNow_51 : decode cX4_faultNow 51 = .ok (.if_icmp .ne 46, 3) := by decide +kernel
theorem dX4_faultNow_54 : decode cX4_faultNow 54 = .ok (.iload_n 2, 1) := by decide +kernel
theorem dX4_faultNow_55 : decode cX4_faultNow 55 = .ok (.ifCond .eq 15, 3) := by decide +kernel
theorem dX4_faultNow_58 : decode cX4_faultNow 58 = .ok (.iload_n 1, 1) := by decide +kernel
theorem dX4_faultNow_59 : decode cX4_faultNow 59 = .ok (.ifCond .le 14, 3) := by decide +kernel
theorem dX4_faultNow_62 : decode cX4_faultNow 62 = .ok (.iload_n 2, 1) := by decide +kernel
theorem dX4_faultNow_63 : decode cX4_faultNow 63 = .ok (.aload_n 0, 1) := by decide +kernel
theorem dX4_faultNow_64 : decode cX4_faultNow 64 = .ok (.getfield 78, 3) := by decide +kernel
theorem dX4_faultNow_67 : decode cX4_faultNow 67 = .ok (.if_icmp .ge 6, 3) := by decide +kernel
theorem dX4_faultNow_70 : decode cX4_faultNow 70 = .ok (.iload 4, 2) := by decide +kernel
theorem dX4_faultNow_72 : decode cX4_faultNow 72 = .ok (.ireturn, 1) := by decide +kernel
theorem dX4_faultNow_73 : decode cX4_faultNow 73 = .ok (.aload_n 0, 1) := by decide +kernel
theorem dX4_faultNow_74 : decode cX4_faultNow 74 = .ok (.iload_n 1, 1) := by decide +kernel
theorem dX4_faultNow_75 : decode cX4_faultNow 75 = .ok (.ifCond .ne 7, 3) := by decide +kernel
theorem dX4_faultNow_78 : decode cX4_faultNow 78 = .ok (.iload_n 2, 1) := by decide +kernel
theorem dX4_faultNow_79 : decode cX4_faultNow 79 = .ok (.goto 7, 3) := by decide +kernel
theorem dX4_faultNow_82 : decode cX4_faultNow 82 = .ok (.aload_n 0, 1) := by decide +kernel
theorem dX4_faultNow_83 : decode cX4_faultNow 83 = .ok (.getfield 78, 3) := by decide +kernel
theorem dX4_faultNow_86 : decode cX4_faultNow 86 = .ok (.putfield 78, 3) := by decide +kernel
theorem dX4_faultNow_89 : decode cX4_faultNow 89 = .ok (.iinc 1 1, 3) := by decide +kernel
theorem dX4_faultNow_92 : decode cX4_faultNow 92 = .ok (.iconst 0, 1) := by decide +kernel
theorem dX4_faultNow_93 : decode cX4_faultNow 93 = .ok (.istore_n 2, 1) := by decide +kernel
theorem dX4_faultNow_94 : decode cX4_faultNow 94 = .ok (.goto 46, 3) := by decide +kernel
theorem dX4_faultNow_97 : decode cX4_faultNow 97 = .ok (.aload_n 0, 1) := by decide +kernel
theorem dX4_faultNow_98 : decode cX4_faultNow 98 = .ok (.getfield 7, 3) := by decide +kernel
theorem dX4_faultNow_101 : decode cX4_faultNow 101 = .ok (.iload 4, 2) := by decide +kernel
theorem dX4_faultNow_103 : decode cX4_faultNow 103 = .ok (.iaload, 1) := by decide +kernel
theorem dX4_faultNow_104 : decode cX4_faultNow 104 = .ok (.invokestatic 81, 3) := by decide +kernel
theorem dX4_faultNow_107 : decode cX4_faultNow 107 = .ok (.istore 5, 2) := by decide +kernel
theorem dX4_faultNow_109 : decode cX4_faultNow 109 = .ok (.iload 5, 2) := by decide +kernel
theorem dX4_faultNow_111 : decode cX4_faultNow 111 = .ok (.iconst (-1), 1) := by decide +kernel
theorem dX4_faultNow_112 : decode cX4_faultNow 112 = .ok (.if_icmp .eq 11, 3) := by decide +kernel
theorem dX4_faultNow_115 : decode cX4_faultNow 115 = .ok (.iload_n 2, 1) := by decide +kernel
theorem dX4_faultNow_116 : decode cX4_faultNow 116 = .ok (.aload_n 0, 1) := by decide +kernel
theorem dX4_faultNow_117 : decode cX4_faultNow 117 = .ok (.getfield 78, 3) := by decide +kernel
theorem dX4_faultNow_120 : decode cX4_faultNow 120 = .ok (.if_icmp .ne 6, 3) := by decide +kernel
theorem dX4_faultNow_123 : decode cX4_faultNow 123 = .ok (.iload 4, 2) := by decide +kernel
theorem dX4_faultNow_125 : decode cX4_faultNow 125 = .ok (.ireturn, 1) := by decide +kernel
theorem dX4_faultNow_126 : decode cX4_faultNow 126 = .ok (.aload_n 0, 1) := by decide +kernel
theorem dX4_faultNow_127 : decode cX4_faultNow 127 = .ok (.getfield 13, 3) := by decide +kernel
theorem dX4_faultNow_130 : decode cX4_faultNow 130 = .ok (.iload_n 3, 1) := by decide +kernel
theorem dX4_faultNow_131 : decode cX4_faultNow 131 = .ok (.iload 5, 2) := by decide +kernel
theorem dX4_faultNow_133 : decode cX4_faultNow 133 = .ok (.iastore, 1) := by decide +kernel
theorem dX4_faultNow_134 : decode cX4_faultNow 134 = .ok (.iinc 3 1, 3) := by decide +kernel
theorem dX4_faultNow_137 : decode cX4_faultNow 137 = .ok (.iinc 2 1, 3) := by decide +kernel
theorem dX4_faultNow_140 : decode cX4_faultNow 140 = .ok (.iinc 4 1, 3) := by decide +kernel
theorem dX4_faultNow_143 : decode cX4_faultNow 143 = .ok (.goto (-118), 3) := by decide +kernel
theorem dX4_faultNow_146 : decode cX4_faultNow 146 = .ok (.aload_n 0, 1) := by decide +kernel
theorem dX4_faultNow_147 : decode cX4_faultNow 147 = .ok (.getfield 69, 3) := by decide +kernel
theorem dX4_faultNow_150 : decode cX4_faultNow 150 = .ok (.ifCond .le 24, 3) := by decide +kernel
theorem dX4_faultNow_153 : decode cX4_faultNow 153 = .ok (.iload_n 2, 1) := by decide +kernel
theorem dX4_faultNow_154 : decode cX4_faultNow 154 = .ok (.ifCond .eq 15, 3) := by decide +kernel
theorem dX4_faultNow_157 : decode cX4_faultNow 157 = .ok (.iload_n 1, 1) := by decide +kernel
theorem dX4_faultNow_158 : decode cX4_faultNow 158 = .ok (.ifCond .le 16, 3) := by decide +kernel
theorem dX4_faultNow_161 : decode cX4_faultNow 161 = .ok (.iload_n 2, 1) := by decide +kernel
theorem dX4_faultNow_162 : decode cX4_faultNow 162 = .ok (.aload_n 0, 1) := by decide +kernel
theorem dX4_faultNow_163 : decode cX4_faultNow 163 = .ok (.getfield 78, 3) := by decide +kernel
theorem dX4_faultNow_166 : decode cX4_faultNow 166 = .ok (.if_icmp .ge 8, 3) := by decide +kernel
theorem dX4_faultNow_169 : decode cX4_faultNow 169 = .ok (.aload_n 0, 1) := by decide +kernel
theorem dX4_faultNow_170 : decode cX4_faultNow 170 = .ok (.getfield 69, 3) := by decide +kernel
theorem dX4_faultNow_173 : decode cX4_faultNow 173 = .ok (.ireturn, 1) := by decide +kernel
theorem dX4_faultNow_174 : decode cX4_faultNow 174 = .ok (.aload_n 0, 1) := by decide +kernel
theorem dX4_faultNow_175 : decode cX4_faultNow 175 = .ok (.iload_n 1, 1) := by decide +kernel
theorem dX4_faultNow_176 : decode cX4_faultNow 176 = .ok (.ifCond .ne 7, 3) := by decide +kernel
theorem dX4_faultNow_179 : decode cX4_faultNow 179 = .ok (.iload_n 2, 1) := by decide +kernel
theorem dX4_faultNow_180 : decode cX4_faultNow 180 = .ok (.goto 7, 3) := by decide +kernel
theorem dX4_faultNow_183 : decode cX4_faultNow 183 = .ok (.aload_n 0, 1) := by decide +kernel
theorem dX4_faultNow_184 : decode cX4_faultNow 184 = .ok (.getfield 78, 3) := by decide +kernel
theorem dX4_faultNow_187 : decode cX4_faultNow 187 = .ok (.putfield 78, 3) := by decide +kernel
theorem dX4_faultNow_190 : decode cX4_faultNow 190 = .ok (.aload_n 0, 1) := by decide +kernel
theorem dX4_faultNow_191 : decode cX4_faultNow 191 = .ok (.aload_n 0, 1) := by decide +kernel
theorem dX4_faultNow_192 : decode cX4_faultNow 192 = .ok (.getfield 69, 3) := by decide +kernel
theorem dX4_faultNow_195 : decode cX4_faultNow 195 = .ok (.ifCond .ne 7, 3) := by decide +kernel
theorem dX4_faultNow_198 : decode cX4_faultNow 198 = .ok (.iconst 0, 1) := by decide +kernel
theorem dX4_faultNow_199 : decode cX4_faultNow 199 = .ok (.goto 6, 3) := by decide +kernel
theorem dX4_faultNow_202 : decode cX4_faultNow 202 = .ok (.iload_n 1, 1) := by decide +kernel
theorem dX4_faultNow_203 : decode cX4_faultNow 203 = .ok (.iconst 1, 1) := by decide +kernel
theorem dX4_faultNow_204 : decode cX4_faultNow 204 = .ok (.iadd, 1) := by decide +kernel
theorem dX4_faultNow_205 : decode cX4_faultNow 205 = .ok (.putfield 75, 3) := by decide +kernel
theorem dX4_faultNow_208 : decode cX4_faultNow 208 = .ok (.aload_n 0, 1) := by decide +kernel
theorem dX4_faultNow_209 : decode cX4_faultNow 209 = .ok (.iload_n 3, 1) := by decide +kernel
theorem dX4_faultNow_210 : decode cX4_faultNow 210 = .ok (.putfield 72, 3) := by decide +kernel
theorem dX4_faultNow_213 : decode cX4_faultNow 213 = .ok (.iconst (-1), 1) := by decide +kernel
theorem dX4_faultNow_214 : decode cX4_faultNow 214 = .ok (.ireturn, 1) := by decide +kernel
theorem dX4_fault_0 : decode cX4_fault 0 = .ok (.aload_n 0, 1) := by decide +kernel
theorem dX4_fault_1 : decode cX4_fault 1 = .ok (.invokevirtual 85, 3) := by decide +kernel
theorem dX4_fault_4 : decode cX4_fault 4 = .ok (.ireturn, 1) := by decide +kernel
theorem dX4_reads_0 : decode cX4_reads 0 = .ok (.aload_n 0, 1) := by decide +kernel
theorem dX4_reads_1 : decode cX4_reads 1 = .ok (.invokevirtual 85, 3) := by decide +kernel
theorem dX4_reads_4 : decode cX4_reads 4 = .ok (.istore_n 1, 1) := by decide +kernel
theorem dX4_reads_5 : decode cX4_reads 5 = .ok (.return_, 1) := by decide +kernel
theorem dX4_isCell_0 : decode cX4_isCell 0 = .ok (.aload_n 0, 1) := by decide +kernel
theorem dX4_isCell_1 : decode cX4_isCell 1 = .ok (.invokevirtual 89, 3) := by decide +kernel
theorem dX4_isCell_4 : decode cX4_isCell 4 = .ok (.iload_n 1, 1) := by decide +kernel
theorem dX4_isCell_5 : decode cX4_isCell 5 = .ok (.iconst 0, 1) := by decide +kernel
theorem dX4_isCell_6 : decode cX4_isCell 6 = .ok (.aload_n 0, 1) := by decide +kernel
theorem dX4_isCell_7 : decode cX4_isCell 7 = .ok (.getfield 72, 3) := by decide +kernel
theorem dX4_isCell_10 : decode cX4_isCell 10 = .ok (.iconst 1, 1) := by decide +kernel
theorem dX4_isCell_11 : decode cX4_isCell 11 = .ok (.isub, 1) := by decide +kernel
theorem dX4_isCell_12 : decode cX4_isCell 12 = .ok (.invokestatic 65, 3) := by decide +kernel
theorem dX4_isCell_15 : decode cX4_isCell 15 = .ok (.ireturn, 1) := by decide +kernel
theorem dX4_isOpen_0 : decode cX4_isOpen 0 = .ok (.iload_n 1, 1) := by decide +kernel
theorem dX4_isOpen_1 : decode cX4_isOpen 1 = .ok (.iconst 0, 1) := by decide +kernel
theorem dX4_isOpen_2 : decode cX4_isOpen 2 = .ok (.aload_n 0, 1) := by decide +kernel
theorem dX4_isOpen_3 : decode cX4_isOpen 3 = .ok (.getfield 72, 3) := by decide +kernel
theorem dX4_isOpen_6 : decode cX4_isOpen 6 = .ok (.iconst 1, 1) := by decide +kernel
theorem dX4_isOpen_7 : decode cX4_isOpen 7 = .ok (.isub, 1) := by decide +kernel
theorem dX4_isOpen_8 : decode cX4_isOpen 8 = .ok (.invokestatic 65, 3) := by decide +kernel
theorem dX4_isOpen_11 : decode cX4_isOpen 11 = .ok (.ifCond .eq 16, 3) := by decide +kernel
theorem dX4_isOpen_14 : decode cX4_isOpen 14 = .ok (.aload_n 0, 1) := by decide +kernel
theorem dX4_isOpen_15 : decode cX4_isOpen 15 = .ok (.getfield 13, 3) := by decide +kernel
theorem dX4_isOpen_18 : decode cX4_isOpen 18 = .ok (.iload_n 1, 1) := by decide +kernel
theorem dX4_isOpen_19 : decode cX4_isOpen 19 = .ok (.iaload, 1) := by decide +kernel
theorem dX4_isOpen_20 : decode cX4_isOpen 20 = .ok (.ifCond .eq 7, 3) := by decide +kernel
theorem dX4_isOpen_23 : decode cX4_isOpen 23 = .ok (.iconst 1, 1) := by decide +kernel
theorem dX4_isOpen_24 : decode cX4_isOpen 24 = .ok (.goto 4, 3) := by decide +kernel
theorem dX4_isOpen_27 : decode cX4_isOpen 27 = .ok (.iconst 0, 1) := by decide +kernel
theorem dX4_isOpen_28 : decode cX4_isOpen 28 = .ok (.ireturn, 1) := by decide +kernel
theorem dX4_isUp_0 : decode cX4_isUp 0 = .ok (.iload_n 1, 1) := by decide +kernel
theorem dX4_isUp_1 : decode cX4_isUp 1 = .ok (.aload_n 0, 1) := by decide +kernel
theorem dX4_isUp_2 : decode cX4_isUp 2 = .ok (.getfield 78, 3) := by decide +kernel
theorem dX4_isUp_5 : decode cX4_isUp 5 = .ok (.idiv, 1) := by decide +kernel
theorem dX4_isUp_6 : decode cX4_isUp 6 = .ok (.aload_n 0, 1) := by decide +kernel
theorem dX4_isUp_7 : decode cX4_isUp 7 = .ok (.getfield 56, 3) := by decide +kernel
theorem dX4_isUp_10 : decode cX4_isUp 10 = .ok (.if_icmp .ge 7, 3) := by decide +kernel
theorem dX4_isUp_13 : decode cX4_isUp 13 = .ok (.iconst 1, 1) := by decide +kernel
theorem dX4_isUp_14 : decode cX4_isUp 14 = .ok (.goto 4, 3) := by decide +kernel
theorem dX4_isUp_17 : decode cX4_isUp 17 = .ok (.iconst 0, 1) := by decide +kernel
theorem dX4_isUp_18 : decode cX4_isUp 18 = .ok (.ireturn, 1) := by decide +kernel
theorem dX4_below_0 : decode cX4_below 0 = .ok (.aload_n 0, 1) := by decide +kernel
theorem dX4_below_1 : decode cX4_below 1 = .ok (.iload_n 1, 1) := by decide +kernel
theorem dX4_below_2 : decode cX4_below 2 = .ok (.invokevirtual 92, 3) := by decide +kernel
theorem dX4_below_5 : decode cX4_below 5 = .ok (.ifCond .eq 12, 3) := by decide +kernel
theorem dX4_below_8 : decode cX4_below 8 = .ok (.iload_n 1, 1) := by decide +kernel
theorem dX4_below_9 : decode cX4_below 9 = .ok (.aload_n 0, 1) := by decide +kernel
theorem dX4_below_10 : decode cX4_below 10 = .ok (.getfield 78, 3) := by decide +kernel
theorem dX4_below_13 : decode cX4_below 13 = .ok (.isub, 1) := by decide +kernel
theorem dX4_below_14 : decode cX4_below 14 = .ok (.goto 9, 3) := by decide +kernel
theorem dX4_below_17 : decode cX4_below 17 = .ok (.iload_n 1, 1) := by decide +kernel
theorem dX4_below_18 : decode cX4_below 18 = .ok (.aload_n 0, 1) := by decide +kernel
theorem dX4_below_19 : decode cX4_below 19 = .ok (.getfield 78, 3) := by decide +kernel
theorem dX4_below_22 : decode cX4_below 22 = .ok (.iadd, 1) := by decide +kernel
theorem dX4_below_23 : decode cX4_below 23 = .ok (.ireturn, 1) := by decide +kernel
theorem dX4_isHeld_0 : decode cX4_isHeld 0 = .ok (.aload_n 0, 1) := by decide +kernel
theorem dX4_isHeld_1 : decode cX4_isHeld 1 = .ok (.getfield 13, 3) := by decide +kernel
theorem dX4_isHeld_4 : decode cX4_isHeld 4 = .ok (.iload_n 1, 1) := by decide +kernel
theorem dX4_isHeld_5 : decode cX4_isHeld 5 = .ok (.iaload, 1) := by decide +kernel
theorem dX4_isHeld_6 : decode cX4_isHeld 6 = .ok (.ifCond .eq 29, 3) := by decide +kernel
theorem dX4_isHeld_9 : decode cX4_isHeld 9 = .ok (.aload_n 0, 1) := by decide +kernel
theorem dX4_isHeld_10 : decode cX4_isHeld 10 = .ok (.getfield 13, 3) := by decide +kernel
theorem dX4_isHeld_13 : decode cX4_isHeld 13 = .ok (.iload_n 1, 1) := by decide +kernel
theorem dX4_isHeld_14 : decode cX4_isHeld 14 = .ok (.iaload, 1) := by decide +kernel
theorem dX4_isHeld_15 : decode cX4_isHeld 15 = .ok (.iconst 2, 1) := by decide +kernel
theorem dX4_isHeld_16 : decode cX4_isHeld 16 = .ok (.if_icmp .eq 15, 3) := by decide +kernel
theorem dX4_isHeld_19 : decode cX4_isHeld 19 = .ok (.aload_n 0, 1) := by decide +kernel
theorem dX4_isHeld_20 : decode cX4_isHeld 20 = .ok (.aload_n 0, 1) := by decide +kernel
theorem dX4_isHeld_21 : decode cX4_isHeld 21 = .ok (.iload_n 1, 1) := by decide +kernel
theorem dX4_isHeld_22 : decode cX4_isHeld 22 = .ok (.invokevirtual 96, 3) := by decide +kernel
theorem dX4_isHeld_25 : decode cX4_isHeld 25 = .ok (.invokevirtual 99, 3) := by decide +kernel
theorem dX4_isHeld_28 : decode cX4_isHeld 28 = .ok (.ifCond .ne 7, 3) := by decide +kernel
theorem dX4_isHeld_31 : decode cX4_isHeld 31 = .ok (.iconst 1, 1) := by decide +kernel
theorem dX4_isHeld_32 : decode cX4_isHeld 32 = .ok (.goto 4, 3) := by decide +kernel
theorem dX4_isHeld_35 : decode cX4_isHeld 35 = .ok (.iconst 0, 1) := by decide +kernel
theorem dX4_isHeld_36 : decode cX4_isHeld 36 = .ok (.ireturn, 1) := by decide +kernel
theorem dX4_cell_0 : decode cX4_cell 0 = .ok (.aload_n 0, 1) := by decide +kernel
theorem dX4_cell_1 : decode cX4_cell 1 = .ok (.iload_n 1, 1) := by decide +kernel
theorem dX4_cell_2 : decode cX4_cell 2 = .ok (.invokevirtual 102, 3) := by decide +kernel
theorem dX4_cell_5 : decode cX4_cell 5 = .ok (.ifCond .eq 62, 3) := by decide +kernel
theorem dX4_cell_8 : decode cX4_cell 8 = .ok (.iload_n 2, 1) := by decide +kernel
theorem dX4_cell_9 : decode cX4_cell 9 = .ok (.iconst 0, 1) := by decide +kernel
theorem dX4_cell_10 : decode cX4_cell 10 = .ok (.iconst 2, 1) := by decide +kernel
theorem dX4_cell_11 : decode cX4_cell 11 = .ok (.invokestatic 65, 3) := by decide +kernel
theorem dX4_cell_14 : decode cX4_cell 14 = .ok (.ifCond .eq 53, 3) := by decide +kernel
theorem dX4_cell_17 : decode cX4_cell 17 = .ok (.iload_n 2, 1) := by decide +kernel
theorem dX4_cell_18 : decode cX4_cell 18 = .ok (.ifCond .ne 12, 3) := by decide +kernel
theorem dX4_cell_21 : decode cX4_cell 21 = .ok (.aload_n 0, 1) := by decide +kernel
theorem dX4_cell_22 : decode cX4_cell 22 = .ok (.getfield 13, 3) := by decide +kernel
theorem dX4_cell_25 : decode cX4_cell 25 = .ok (.iload_n 1, 1) := by decide +kernel
theorem dX4_cell_26 : decode cX4_cell 26 = .ok (.iaload, 1) := by decide +kernel
theorem dX4_cell_27 : decode cX4_cell 27 = .ok (.goto 42, 3) := by decide +kernel
theorem dX4_cell_30 : decode cX4_cell 30 = .ok (.iload_n 2, 1) := by decide +kernel
theorem dX4_cell_31 : decode cX4_cell 31 = .ok (.iconst 1, 1) := by decide +kernel
theorem dX4_cell_32 : decode cX4_cell 32 = .ok (.if_icmp .ne 19, 3) := by decide +kernel
theorem dX4_cell_35 : decode cX4_cell 35 = .ok (.aload_n 0, 1) := by decide +kernel
theorem dX4_cell_36 : decode cX4_cell 36 = .ok (.iload_n 1, 1) := by decide +kernel
theorem dX4_cell_37 : decode cX4_cell 37 = .ok (.invokevirtual 92, 3) := by decide +kernel
theorem dX4_cell_40 : decode cX4_cell 40 = .ok (.ifCond .eq 7, 3) := by decide +kernel
theorem dX4_cell_43 : decode cX4_cell 43 = .ok (.iconst 1, 1) := by decide +kernel
theorem dX4_cell_44 : decode cX4_cell 44 = .ok (.goto 25, 3) := by decide +kernel
theorem dX4_cell_47 : decode cX4_cell 47 = .ok (.iconst 0, 1) := by decide +kernel
theorem dX4_cell_48 : decode cX4_cell 48 = .ok (.goto 21, 3) := by decide +kernel
theorem dX4_cell_51 : decode cX4_cell 51 = .ok (.aload_n 0, 1) := by decide +kernel
theorem dX4_cell_52 : decode cX4_cell 52 = .ok (.iload_n 1, 1) := by decide +kernel
theorem dX4_cell_53 : decode cX4_cell 53 = .ok (.invokevirtual 105, 3) := by decide +kernel
theorem dX4_cell_56 : decode cX4_cell 56 = .ok (.ifCond .eq 7, 3) := by decide +kernel
theorem dX4_cell_59 : decode cX4_cell 59 = .ok (.iconst 1, 1) := by decide +kernel
theorem dX4_cell_60 : decode cX4_cell 60 = .ok (.goto 9, 3) := by decide +kernel
theorem dX4_cell_63 : decode cX4_cell 63 = .ok (.iconst 0, 1) := by decide +kernel
theorem dX4_cell_64 : decode cX4_cell 64 = .ok (.goto 5, 3) := by decide +kernel
theorem dX4_cell_67 : decode cX4_cell 67 = .ok (.bipush (-2), 2) := by decide +kernel
theorem dX4_cell_69 : decode cX4_cell 69 = .ok (.ireturn, 1) := by decide +kernel
theorem dX4_set_0 : decode cX4_set 0 = .ok (.iload_n 1, 1) := by decide +kernel
theorem dX4_set_1 : decode cX4_set 1 = .ok (.iconst 0, 1) := by decide +kernel
theorem dX4_set_2 : decode cX4_set 2 = .ok (.iconst 1, 1) := by decide +kernel
theorem dX4_set_3 : decode cX4_set 3 = .ok (.invokestatic 65, 3) := by decide +kernel
theorem dX4_set_6 : decode cX4_set 6 = .ok (.ifCond .eq 21, 3) := by decide +kernel
theorem dX4_set_9 : decode cX4_set 9 = .ok (.iload_n 2, 1) := by decide +kernel
theorem dX4_set_10 : decode cX4_set 10 = .ok (.iconst 0, 1) := by decide +kernel
theorem dX4_set_11 : decode cX4_set 11 = .ok (.iload_n 1, 1) := by decide +kernel
theorem dX4_set_12 : decode cX4_set 12 = .ok (.ifCond .ne 7, 3) := by decide +kernel
theorem dX4_set_15 : decode cX4_set 15 = .ok (.iconst 5, 1) := by decide +kernel
theorem dX4_set_16 : decode cX4_set 16 = .ok (.goto 5, 3) := by decide +kernel
theorem dX4_set_19 : decode cX4_set 19 = .ok (.bipush 9, 2) := by decide +kernel
theorem dX4_set_21 : decode cX4_set 21 = .ok (.invokestatic 65, 3) := by decide +kernel
theorem dX4_set_24 : decode cX4_set 24 = .ok (.ifCond .ne 6, 3) := by decide +kernel
theorem dX4_set_27 : decode cX4_set 27 = .ok (.bipush (-2), 2) := by decide +kernel
theorem dX4_set_29 : decode cX4_set 29 = .ok (.ireturn, 1) := by decide +kernel
theorem dX4_set_30 : decode cX4_set 30 = .ok (.iload_n 1, 1) := by decide +kernel
theorem dX4_set_31 : decode cX4_set 31 = .ok (.ifCond .ne 10, 3) := by decide +kernel
theorem dX4_set_34 : decode cX4_set 34 = .ok (.aload_n 0, 1) := by decide +kernel
theorem dX4_set_35 : decode cX4_set 35 = .ok (.getfield 56, 3) := by decide +kernel
theorem dX4_set_38 : decode cX4_set 38 = .ok (.goto 7, 3) := by decide +kernel
theorem dX4_set_41 : decode cX4_set 41 = .ok (.aload_n 0, 1) := by decide +kernel
theorem dX4_set_42 : decode cX4_set 42 = .ok (.getfield 60, 3) := by decide +kernel
theorem dX4_set_45 : decode cX4_set 45 = .ok (.istore_n 3, 1) := by decide +kernel
theorem dX4_set_46 : decode cX4_set 46 = .ok (.aload_n 0, 1) := by decide +kernel
theorem dX4_set_47 : decode cX4_set 47 = .ok (.iload_n 1, 1) := by decide +kernel
theorem dX4_set_48 : decode cX4_set 48 = .ok (.ifCond .ne 7, 3) := by decide +kernel
theorem dX4_set_51 : decode cX4_set 51 = .ok (.iload_n 2, 1) := by decide +kernel
theorem dX4_set_52 : decode cX4_set 52 = .ok (.goto 7, 3) := by decide +kernel
theorem dX4_set_55 : decode cX4_set 55 = .ok (.aload_n 0, 1) := by decide +kernel
theorem dX4_set_56 : decode cX4_set 56 = .ok (.getfield 56, 3) := by decide +kernel
theorem dX4_set_59 : decode cX4_set 59 = .ok (.putfield 56, 3) := by decide +kernel
theorem dX4_set_62 : decode cX4_set 62 = .ok (.aload_n 0, 1) := by decide +kernel
theorem dX4_set_63 : decode cX4_set 63 = .ok (.iload_n 1, 1) := by decide +kernel
theorem dX4_set_64 : decode cX4_set 64 = .ok (.iconst 1, 1) := by decide +kernel
theorem dX4_set_65 : decode cX4_set 65 = .ok (.if_icmp .ne 7, 3) := by decide +kernel
theorem dX4_set_68 : decode cX4_set 68 = .ok (.iload_n 2, 1) := by decide +kernel
theorem dX4_set_69 : decode cX4_set 69 = .ok (.goto 7, 3) := by decide +kernel
theorem dX4_set_72 : decode cX4_set 72 = .ok (.aload_n 0, 1) := by decide +kernel
theorem dX4_set_73 : decode cX4_set 73 = .ok (.getfield 60, 3) := by decide +kernel
theorem dX4_set_76 : decode cX4_set 76 = .ok (.putfield 60, 3) := by decide +kernel
theorem dX4_set_79 : decode cX4_set 79 = .ok (.iload_n 3, 1) := by decide +kernel
theorem dX4_set_80 : decode cX4_set 80 = .ok (.ireturn, 1) := by decide +kernel
theorem dX4_thing_0 : decode cX4_thing 0 = .ok (.iload_n 1, 1) := by decide +kernel
theorem dX4_thing_1 : decode cX4_thing 1 = .ok (.iconst 0, 1) := by decide +kernel
theorem dX4_thing_2 : decode cX4_thing 2 = .ok (.bipush 34, 2) := by decide +kernel
theorem dX4_thing_4 : decode cX4_thing 4 = .ok (.invokestatic 65, 3) := by decide +kernel
theorem dX4_thing_7 : decode cX4_thing 7 = .ok (.ifCond .eq 13, 3) := by decide +kernel
theorem dX4_thing_10 : decode cX4_thing 10 = .ok (.iload_n 2, 1) := by decide +kernel
theorem dX4_thing_11 : decode cX4_thing 11 = .ok (.iconst 0, 1) := by decide +kernel
theorem dX4_thing_12 : decode cX4_thing 12 = .ok (.bipush 99, 2) := by decide +kernel
theorem dX4_thing_14 : decode cX4_thing 14 = .ok (.invokestatic 65, 3) := by decide +kernel
theorem dX4_thing_17 : decode cX4_thing 17 = .ok (.ifCond .ne 6, 3) := by decide +kernel
theorem dX4_thing_20 : decode cX4_thing 20 = .ok (.bipush (-2), 2) := by decide +kernel
theorem dX4_thing_22 : decode cX4_thing 22 = .ok (.ireturn, 1) := by decide +kernel
theorem dX4_thing_23 : decode cX4_thing 23 = .ok (.aload_n 0, 1) := by decide +kernel
theorem dX4_thing_24 : decode cX4_thing 24 = .ok (.getfield 108, 3) := by decide +kernel
theorem dX4_thing_27 : decode cX4_thing 27 = .ok (.bipush 8, 2) := by decide +kernel
theorem dX4_thing_29 : decode cX4_thing 29 = .ok (.if_icmp .ne 6, 3) := by decide +kernel
theorem dX4_thing_32 : decode cX4_thing 32 = .ok (.bipush (-4), 2) := by decide +kernel
theorem dX4_thing_34 : decode cX4_thing 34 = .ok (.ireturn, 1) := by decide +kernel
theorem dX4_thing_35 : decode cX4_thing 35 = .ok (.aload_n 0, 1) := by decide +kernel
theorem dX4_thing_36 : decode cX4_thing 36 = .ok (.getfield 16, 3) := by decide +kernel
theorem dX4_thing_39 : decode cX4_thing 39 = .ok (.aload_n 0, 1) := by decide +kernel
theorem dX4_thing_40 : decode cX4_thing 40 = .ok (.getfield 108, 3) := by decide +kernel
theorem dX4_thing_43 : decode cX4_thing 43 = .ok (.iload_n 1, 1) := by decide +kernel
theorem dX4_thing_44 : decode cX4_thing 44 = .ok (.iastore, 1) := by decide +kernel
theorem dX4_thing_45 : decode cX4_thing 45 = .ok (.aload_n 0, 1) := by decide +kernel
theorem dX4_thing_46 : decode cX4_thing 46 = .ok (.getfield 19, 3) := by decide +kernel
theorem dX4_thing_49 : decode cX4_thing 49 = .ok (.aload_n 0, 1) := by decide +kernel
theorem dX4_thing_50 : decode cX4_thing 50 = .ok (.getfield 108, 3) := by decide +kernel
theorem dX4_thing_53 : decode cX4_thing 53 = .ok (.iload_n 2, 1) := by decide +kernel
theorem dX4_thing_54 : decode cX4_thing 54 = .ok (.iastore, 1) := by decide +kernel
theorem dX4_thing_55 : decode cX4_thing 55 = .ok (.aload_n 0, 1) := by decide +kernel
theorem dX4_thing_56 : decode cX4_thing 56 = .ok (.dup, 1) := by decide +kernel
theorem dX4_thing_57 : decode cX4_thing 57 = .ok (.getfield 108, 3) := by decide +kernel
theorem dX4_thing_60 : decode cX4_thing 60 = .ok (.iconst 1, 1) := by decide +kernel
theorem dX4_thing_61 : decode cX4_thing 61 = .ok (.iadd, 1) := by decide +kernel
theorem dX4_thing_62 : decode cX4_thing 62 = .ok (.putfield 108, 3) := by decide +kernel
theorem dX4_thing_65 : decode cX4_thing 65 = .ok (.aload_n 0, 1) := by decide +kernel
theorem dX4_thing_66 : decode cX4_thing 66 = .ok (.getfield 108, 3) := by decide +kernel
theorem dX4_thing_69 : decode cX4_thing 69 = .ok (.ireturn, 1) := by decide +kernel
theorem dX4_back_0 : decode cX4_back 0 = .ok (.aload_n 0, 1) := by decide +kernel
theorem dX4_back_1 : decode cX4_back 1 = .ok (.getfield 108, 3) := by decide +kernel
theorem dX4_back_4 : decode cX4_back 4 = .ok (.ifCond .ne 6, 3) := by decide +kernel
theorem dX4_back_7 : decode cX4_back 7 = .ok (.bipush (-3), 2) := by decide +kernel
theorem dX4_back_9 : decode cX4_back 9 = .ok (.ireturn, 1) := by decide +kernel
theorem dX4_back_10 : decode cX4_back 10 = .ok (.aload_n 0, 1) := by decide +kernel
theorem dX4_back_11 : decode cX4_back 11 = .ok (.dup, 1) := by decide +kernel
theorem dX4_back_12 : decode cX4_back 12 = .ok (.getfield 108, 3) := by decide +kernel
theorem dX4_back_15 : decode cX4_back 15 = .ok (.iconst 1, 1) := by decide +kernel
theorem dX4_back_16 : decode cX4_back 16 = .ok (.isub, 1) := by decide +kernel
theorem dX4_back_17 : decode cX4_back 17 = .ok (.putfield 108, 3) := by decide +kernel
theorem dX4_back_20 : decode cX4_back 20 = .ok (.aload_n 0, 1) := by decide +kernel
theorem dX4_back_21 : decode cX4_back 21 = .ok (.getfield 108, 3) := by decide +kernel
theorem dX4_back_24 : decode cX4_back 24 = .ok (.ireturn, 1) := by decide +kernel
theorem dX4_read_0 : decode cX4_read 0 = .ok (.iload_n 1, 1) := by decide +kernel
theorem dX4_read_1 : decode cX4_read 1 = .ok (.invokestatic 111, 3) := by decide +kernel
theorem dX4_read_4 : decode cX4_read 4 = .ok (.ifCond .ne 6, 3) := by decide +kernel
theorem dX4_read_7 : decode cX4_read 7 = .ok (.bipush (-2), 2) := by decide +kernel
theorem dX4_read_9 : decode cX4_read 9 = .ok (.ireturn, 1) := by decide +kernel
theorem dX4_read_10 : decode cX4_read 10 = .ok (.aload_n 0, 1) := by decide +kernel
theorem dX4_read_11 : decode cX4_read 11 = .ok (.getfield 41, 3) := by decide +kernel
theorem dX4_read_14 : decode cX4_read 14 = .ok (.iload_n 1, 1) := by decide +kernel
theorem dX4_read_15 : decode cX4_read 15 = .ok (.baload, 1) := by decide +kernel
theorem dX4_read_16 : decode cX4_read 16 = .ok (.ifCond .ne 9, 3) := by decide +kernel
theorem dX4_read_19 : decode cX4_read 19 = .ok (.aload_n 0, 1) := by decide +kernel
theorem dX4_read_20 : decode cX4_read 20 = .ok (.iconst 1, 1) := by decide +kernel
theorem dX4_read_21 : decode cX4_read 21 = .ok (.invokevirtual 114, 3) := by decide +kernel
theorem dX4_read_24 : decode cX4_read 24 = .ok (.ireturn, 1) := by decide +kernel
theorem dX4_read_25 : decode cX4_read 25 = .ok (.iconst 0, 1) := by decide +kernel
theorem dX4_read_26 : decode cX4_read 26 = .ok (.istore_n 2, 1) := by decide +kernel
theorem dX4_read_27 : decode cX4_read 27 = .ok (.iconst 2, 1) := by decide +kernel
theorem dX4_read_28 : decode cX4_read 28 = .ok (.iload_n 2, 1) := by decide +kernel
theorem dX4_read_29 : decode cX4_read 29 = .ok (.imul, 1) := by decide +kernel
theorem dX4_read_30 : decode cX4_read 30 = .ok (.iconst 1, 1) := by decide +kernel
theorem dX4_read_31 : decode cX4_read 31 = .ok (.iadd, 1) := by decide +kernel
theorem dX4_read_32 : decode cX4_read 32 = .ok (.aload_n 0, 1) := by decide +kernel
theorem dX4_read_33 : decode cX4_read 33 = .ok (.getfield 47, 3) := by decide +kernel
theorem dX4_read_36 : decode cX4_read 36 = .ok (.iload_n 1, 1) := by decide +kernel
theorem dX4_read_37 : decode cX4_read 37 = .ok (.iaload, 1) := by decide +kernel
theorem dX4_read_38 : decode cX4_read 38 = .ok (.if_icmp .ge 44, 3) := by decide +kernel
theorem dX4_read_41 : decode cX4_read 41 = .ok (.aload_n 0, 1) := by decide +kernel
theorem dX4_read_42 : decode cX4_read 42 = .ok (.aload_n 0, 1) := by decide +kernel
theorem dX4_read_43 : decode cX4_read 43 = .ok (.getfield 50, 3) := by decide +kernel
theorem dX4_read_46 : decode cX4_read 46 = .ok (.bipush 48, 2) := by decide +kernel
theorem dX4_read_48 : decode cX4_read 48 = .ok (.iload_n 1, 1) := by decide +kernel
theorem dX4_read_49 : decode cX4_read 49 = .ok (.imul, 1) := by decide +kernel
theorem dX4_read_50 : decode cX4_read 50 = .ok (.iconst 2, 1) := by decide +kernel
theorem dX4_read_51 : decode cX4_read 51 = .ok (.iload_n 2, 1) := by decide +kernel
theorem dX4_read_52 : decode cX4_read 52 = .ok (.imul, 1) := by decide +kernel
theorem dX4_read_53 : decode cX4_read 53 = .ok (.iadd, 1) := by decide +kernel
theorem dX4_read_54 : decode cX4_read 54 = .ok (.iaload, 1) := by decide +kernel
theorem dX4_read_55 : decode cX4_read 55 = .ok (.aload_n 0, 1) := by decide +kernel
theorem dX4_read_56 : decode cX4_read 56 = .ok (.getfield 50, 3) := by decide +kernel
theorem dX4_read_59 : decode cX4_read 59 = .ok (.bipush 48, 2) := by decide +kernel
theorem dX4_read_61 : decode cX4_read 61 = .ok (.iload_n 1, 1) := by decide +kernel
theorem dX4_read_62 : decode cX4_read 62 = .ok (.imul, 1) := by decide +kernel
theorem dX4_read_63 : decode cX4_read 63 = .ok (.iconst 2, 1) := by decide +kernel
theorem dX4_read_64 : decode cX4_read 64 = .ok (.iload_n 2, 1) := by decide +kernel
theorem dX4_read_65 : decode cX4_read 65 = .ok (.imul, 1) := by decide +kernel
theorem dX4_read_66 : decode cX4_read 66 = .ok (.iadd, 1) := by decide +kernel
theorem dX4_read_67 : decode cX4_read 67 = .ok (.iconst 1, 1) := by decide +kernel
theorem dX4_read_68 : decode cX4_read 68 = .ok (.iadd, 1) := by decide +kernel
theorem dX4_read_69 : decode cX4_read 69 = .ok (.iaload, 1) := by decide +kernel
theorem dX4_read_70 : decode cX4_read 70 = .ok (.invokevirtual 117, 3) := by decide +kernel
theorem dX4_read_73 : decode cX4_read 73 = .ok (.ifCond .le 9, 3) := by decide +kernel
theorem dX4_read_76 : decode cX4_read 76 = .ok (.iinc 2 1, 3) := by decide +kernel
theorem dX4_read_79 : decode cX4_read 79 = .ok (.goto (-52), 3) := by decide +kernel
theorem dX4_read_82 : decode cX4_read 82 = .ok (.iload_n 2, 1) := by decide +kernel
theorem dX4_read_83 : decode cX4_read 83 = .ok (.ireturn, 1) := by decide +kernel
theorem dX4_isThing_0 : decode cX4_isThing 0 = .ok (.iload_n 1, 1) := by decide +kernel
theorem dX4_isThing_1 : decode cX4_isThing 1 = .ok (.iconst 0, 1) := by decide +kernel
theorem dX4_isThing_2 : decode cX4_isThing 2 = .ok (.aload_n 0, 1) := by decide +kernel
theorem dX4_isThing_3 : decode cX4_isThing 3 = .ok (.getfield 108, 3) := by decide +kernel
theorem dX4_isThing_6 : decode cX4_isThing 6 = .ok (.iconst 1, 1) := by decide +kernel
theorem dX4_isThing_7 : decode cX4_isThing 7 = .ok (.isub, 1) := by decide +kernel
theorem dX4_isThing_8 : decode cX4_isThing 8 = .ok (.invokestatic 65, 3) := by decide +kernel
theorem dX4_isThing_11 : decode cX4_isThing 11 = .ok (.ireturn, 1) := by decide +kernel
theorem dX4_fallen_0 : decode cX4_fallen 0 = .ok (.iload_n 1, 1) := by decide +kernel
theorem dX4_fallen_1 : decode cX4_fallen 1 = .ok (.istore_n 3, 1) := by decide +kernel
theorem dX4_fallen_2 : decode cX4_fallen 2 = .ok (.iconst 0, 1) := by decide +kernel
theorem dX4_fallen_3 : decode cX4_fallen 3 = .ok (.istore 4, 2) := by decide +kernel
theorem dX4_fallen_5 : decode cX4_fallen 5 = .ok (.iload 4, 2) := by decide +kernel
theorem dX4_fallen_7 : decode cX4_fallen 7 = .ok (.iload_n 2, 1) := by decide +kernel
theorem dX4_fallen_8 : decode cX4_fallen 8 = .ok (.if_icmp .ge 34, 3) := by decide +kernel
theorem dX4_fallen_11 : decode cX4_fallen 11 = .ok (.iload 4, 2) := by decide +kernel
theorem dX4_fallen_13 : decode cX4_fallen 13 = .ok (.bipush 6, 2) := by decide +kernel
theorem dX4_fallen_15 : decode cX4_fallen 15 = .ok (.if_icmp .ge 27, 3) := by decide +kernel
theorem dX4_fallen_18 : decode cX4_fallen 18 = .ok (.aload_n 0, 1) := by decide +kernel
theorem dX4_fallen_19 : decode cX4_fallen 19 = .ok (.iload_n 3, 1) := by decide +kernel
theorem dX4_fallen_20 : decode cX4_fallen 20 = .ok (.invokevirtual 105, 3) := by decide +kernel
theorem dX4_fallen_23 : decode cX4_fallen 23 = .ok (.ifCond .eq 7, 3) := by decide +kernel
theorem dX4_fallen_26 : decode cX4_fallen 26 = .ok (.iload_n 3, 1) := by decide +kernel
theorem dX4_fallen_27 : decode cX4_fallen 27 = .ok (.goto 8, 3) := by decide +kernel
theorem dX4_fallen_30 : decode cX4_fallen 30 = .ok (.aload_n 0, 1) := by decide +kernel
theorem dX4_fallen_31 : decode cX4_fallen 31 = .ok (.iload_n 3, 1) := by decide +kernel
theorem dX4_fallen_32 : decode cX4_fallen 32 = .ok (.invokevirtual 96, 3) := by decide +kernel
theorem dX4_fallen_35 : decode cX4_fallen 35 = .ok (.istore_n 3, 1) := by decide +kernel
theorem dX4_fallen_36 : decode cX4_fallen 36 = .ok (.iinc 4 1, 3) := by decide +kernel
theorem dX4_fallen_39 : decode cX4_fallen 39 = .ok (.goto (-34), 3) := by decide +kernel
theorem dX4_fallen_42 : decode cX4_fallen 42 = .ok (.iload_n 3, 1) := by decide +kernel
theorem dX4_fallen_43 : decode cX4_fallen 43 = .ok (.ireturn, 1) := by decide +kernel
theorem dX4_atOf_0 : decode cX4_atOf 0 = .ok (.aload_n 0, 1) := by decide +kernel
theorem dX4_atOf_1 : decode cX4_atOf 1 = .ok (.invokevirtual 89, 3) := by decide +kernel
theorem dX4_atOf_4 : decode cX4_atOf 4 = .ok (.iload_n 2, 1) := by decide +kernel
theorem dX4_atOf_5 : decode cX4_atOf 5 = .ok (.aload_n 0, 1) := by decide +kernel
theorem dX4_atOf_6 : decode cX4_atOf 6 = .ok (.getfield 19, 3) := by decide +kernel
theorem dX4_atOf_9 : decode cX4_atOf 9 = .ok (.iload_n 1, 1) := by decide +kernel
theorem dX4_atOf_10 : decode cX4_atOf 10 = .ok (.iaload, 1) := by decide +kernel
theorem dX4_atOf_11 : decode cX4_atOf 11 = .ok (.if_icmp .lt 16, 3) := by decide +kernel
theorem dX4_atOf_14 : decode cX4_atOf 14 = .ok (.aload_n 0, 1) := by decide +kernel
theorem dX4_atOf_15 : decode cX4_atOf 15 = .ok (.aload_n 0, 1) := by decide +kernel
theorem dX4_atOf_16 : decode cX4_atOf 16 = .ok (.getfield 16, 3) := by decide +kernel
theorem dX4_atOf_19 : decode cX4_atOf 19 = .ok (.iload_n 1, 1) := by decide +kernel
theorem dX4_atOf_20 : decode cX4_atOf 20 = .ok (.iaload, 1) := by decide +kernel
theorem dX4_atOf_21 : decode cX4_atOf 21 = .ok (.invokevirtual 99, 3) := by decide +kernel
theorem dX4_atOf_24 : decode cX4_atOf 24 = .ok (.ifCond .ne 7, 3) := by decide +kernel
theorem dX4_atOf_27 : decode cX4_atOf 27 = .ok (.iconst (-1), 1) := by decide +kernel
theorem dX4_atOf_28 : decode cX4_atOf 28 = .ok (.goto 21, 3) := by decide +kernel
theorem dX4_atOf_31 : decode cX4_atOf 31 = .ok (.aload_n 0, 1) := by decide +kernel
theorem dX4_atOf_32 : decode cX4_atOf 32 = .ok (.aload_n 0, 1) := by decide +kernel
theorem dX4_atOf_33 : decode cX4_atOf 33 = .ok (.getfield 16, 3) := by decide +kernel
theorem dX4_atOf_36 : decode cX4_atOf 36 = .ok (.iload_n 1, 1) := by decide +kernel
theorem dX4_atOf_37 : decode cX4_atOf 37 = .ok (.iaload, 1) := by decide +kernel
theorem dX4_atOf_38 : decode cX4_atOf 38 = .ok (.iload_n 2, 1) := by decide +kernel
theorem dX4_atOf_39 : decode cX4_atOf 39 = .ok (.aload_n 0, 1) := by decide +kernel
theorem dX4_atOf_40 : decode cX4_atOf 40 = .ok (.getfield 19, 3) := by decide +kernel
theorem dX4_atOf_43 : decode cX4_atOf 43 = .ok (.iload_n 1, 1) := by decide +kernel
theorem dX4_atOf_44 : decode cX4_atOf 44 = .ok (.iaload, 1) := by decide +kernel
theorem dX4_atOf_45 : decode cX4_atOf 45 = .ok (.isub, 1) := by decide +kernel
theorem dX4_atOf_46 : decode cX4_atOf 46 = .ok (.invokevirtual 121, 3) := by decide +kernel
theorem dX4_atOf_49 : decode cX4_atOf 49 = .ok (.ireturn, 1) := by decide +kernel
theorem dX4_at_0 : decode cX4_at 0 = .ok (.aload_n 0, 1) := by decide +kernel
theorem dX4_at_1 : decode cX4_at 1 = .ok (.iload_n 1, 1) := by decide +kernel
theorem dX4_at_2 : decode cX4_at 2 = .ok (.invokevirtual 124, 3) := by decide +kernel
theorem dX4_at_5 : decode cX4_at 5 = .ok (.ifCond .eq 22, 3) := by decide +kernel
theorem dX4_at_8 : decode cX4_at 8 = .ok (.iload_n 2, 1) := by decide +kernel
theorem dX4_at_9 : decode cX4_at 9 = .ok (.iconst 0, 1) := by decide +kernel
theorem dX4_at_10 : decode cX4_at 10 = .ok (.bipush 99, 2) := by decide +kernel
theorem dX4_at_12 : decode cX4_at 12 = .ok (.invokestatic 65, 3) := by decide +kernel
theorem dX4_at_15 : decode cX4_at 15 = .ok (.ifCond .eq 12, 3) := by decide +kernel
theorem dX4_at_18 : decode cX4_at 18 = .ok (.aload_n 0, 1) := by decide +kernel
theorem dX4_at_19 : decode cX4_at 19 = .ok (.iload_n 1, 1) := by decide +kernel
theorem dX4_at_20 : decode cX4_at 20 = .ok (.iload_n 2, 1) := by decide +kernel
theorem dX4_at_21 : decode cX4_at 21 = .ok (.invokevirtual 127, 3) := by decide +kernel
theorem dX4_at_24 : decode cX4_at 24 = .ok (.goto 5, 3) := by decide +kernel
theorem dX4_at_27 : decode cX4_at 27 = .ok (.bipush (-2), 2) := by decide +kernel
theorem dX4_at_29 : decode cX4_at 29 = .ok (.ireturn, 1) := by decide +kernel
theorem dX4_restsOf_0 : decode cX4_restsOf 0 = .ok (.aload_n 0, 1) := by decide +kernel
theorem dX4_restsOf_1 : decode cX4_restsOf 1 = .ok (.invokevirtual 89, 3) := by decide +kernel
theorem dX4_restsOf_4 : decode cX4_restsOf 4 = .ok (.aload_n 0, 1) := by decide +kernel
theorem dX4_restsOf_5 : decode cX4_restsOf 5 = .ok (.aload_n 0, 1) := by decide +kernel
theorem dX4_restsOf_6 : decode cX4_restsOf 6 = .ok (.getfield 16, 3) := by decide +kernel
theorem dX4_restsOf_9 : decode cX4_restsOf 9 = .ok (.iload_n 1, 1) := by decide +kernel
theorem dX4_restsOf_10 : decode cX4_restsOf 10 = .ok (.iaload, 1) := by decide +kernel
theorem dX4_restsOf_11 : decode cX4_restsOf 11 = .ok (.invokevirtual 99, 3) := by decide +kernel
theorem dX4_restsOf_14 : decode cX4_restsOf 14 = .ok (.ifCond .ne 13, 3) := by decide +kernel
theorem dX4_restsOf_17 : decode cX4_restsOf 17 = .ok (.iload_n 2, 1) := by decide +kernel
theorem dX4_restsOf_18 : decode cX4_restsOf 18 = .ok (.ifCond .ne 7, 3) := by decide +kernel
theorem dX4_restsOf_21 : decode cX4_restsOf 21 = .ok (.iconst (-1), 1) := by decide +kernel
theorem dX4_restsOf_22 : decode cX4_restsOf 22 = .ok (.goto 4, 3) := by decide +kernel
theorem dX4_restsOf_25 : decode cX4_restsOf 25 = .ok (.iconst 0, 1) := by decide +kernel
theorem dX4_restsOf_26 : decode cX4_restsOf 26 = .ok (.ireturn, 1) := by decide +kernel
theorem dX4_restsOf_27 : decode cX4_restsOf 27 = .ok (.aload_n 0, 1) := by decide +kernel
theorem dX4_restsOf_28 : decode cX4_restsOf 28 = .ok (.aload_n 0, 1) := by decide +kernel
theorem dX4_restsOf_29 : decode cX4_restsOf 29 = .ok (.getfield 16, 3) := by decide +kernel
theorem dX4_restsOf_32 : decode cX4_restsOf 32 = .ok (.iload_n 1, 1) := by decide +kernel
theorem dX4_restsOf_33 : decode cX4_restsOf 33 = .ok (.iaload, 1) := by decide +kernel
theorem dX4_restsOf_34 : decode cX4_restsOf 34 = .ok (.bipush 6, 2) := by decide +kernel
theorem dX4_restsOf_36 : decode cX4_restsOf 36 = .ok (.invokevirtual 121, 3) := by decide +kernel
theorem dX4_restsOf_39 : decode cX4_restsOf 39 = .ok (.istore_n 3, 1) := by decide +kernel
theorem dX4_restsOf_40 : decode cX4_restsOf 40 = .ok (.iload_n 3, 1) := by decide +kernel
theorem dX4_restsOf_41 : decode cX4_restsOf 41 = .ok (.aload_n 0, 1) := by decide +kernel
theorem dX4_restsOf_42 : decode cX4_restsOf 42 = .ok (.getfield 78, 3) := by decide +kernel
theorem dX4_restsOf_45 : decode cX4_restsOf 45 = .ok (.idiv, 1) := by decide +kernel
theorem dX4_restsOf_46 : decode cX4_restsOf 46 = .ok (.aload_n 0, 1) := by decide +kernel
theorem dX4_restsOf_47 : decode cX4_restsOf 47 = .ok (.getfield 16, 3) := by decide +kernel
theorem dX4_restsOf_50 : decode cX4_restsOf 50 = .ok (.iload_n 1, 1) := by decide +kernel
theorem dX4_restsOf_51 : decode cX4_restsOf 51 = .ok (.iaload, 1) := by decide +kernel
end
section
theorem dX4_restsOf_52 : decode cX4_restsOf 52 = .ok (.aload_n 0, 1) := by decide +kernel
theorem dX4_restsOf_53 : decode cX4_restsOf 53 = .ok (.getfield 78, 3) := by decide +kernel
theorem dX4_restsOf_56 : decode cX4_restsOf 56 = .ok (.idiv, 1) := by decide +kernel
theorem dX4_restsOf_57 : decode cX4_restsOf 57 = .ok (.isub, 1) := by decide +kernel
theorem dX4_restsOf_58 : decode cX4_restsOf 58 = .ok (.istore 4, 2) := by decide +kernel
theorem dX4_restsOf_60 : decode cX4_restsOf 60 = .ok (.iload_n 2, 1) := by decide +kernel
theorem dX4_restsOf_61 : decode cX4_restsOf 61 = .ok (.ifCond .ne 7, 3) := by decide +kernel
theorem dX4_restsOf_64 : decode cX4_restsOf 64 = .ok (.iload_n 3, 1) := by decide +kernel
theorem dX4_restsOf_65 : decode cX4_restsOf 65 = .ok (.goto 16, 3) := by decide +kernel
theorem dX4_restsOf_68 : decode cX4_restsOf 68 = .ok (.iload 4, 2) := by decide +kernel
theorem dX4_restsOf_70 : decode cX4_restsOf 70 = .ok (.ifCond .ge 9, 3) := by decide +kernel
theorem dX4_restsOf_73 : decode cX4_restsOf 73 = .ok (.iload 4, 2) := by decide +kernel
theorem dX4_restsOf_75 : decode cX4_restsOf 75 = .ok (.ineg, 1) := by decide +kernel
theorem dX4_restsOf_76 : decode cX4_restsOf 76 = .ok (.goto 5, 3) := by decide +kernel
theorem dX4_restsOf_79 : decode cX4_restsOf 79 = .ok (.iload 4, 2) := by decide +kernel
theorem dX4_restsOf_81 : decode cX4_restsOf 81 = .ok (.ireturn, 1) := by decide +kernel
theorem dX4_rests_0 : decode cX4_rests 0 = .ok (.aload_n 0, 1) := by decide +kernel
theorem dX4_rests_1 : decode cX4_rests 1 = .ok (.iload_n 1, 1) := by decide +kernel
theorem dX4_rests_2 : decode cX4_rests 2 = .ok (.invokevirtual 124, 3) := by decide +kernel
theorem dX4_rests_5 : decode cX4_rests 5 = .ok (.ifCond .eq 21, 3) := by decide +kernel
theorem dX4_rests_8 : decode cX4_rests 8 = .ok (.iload_n 2, 1) := by decide +kernel
theorem dX4_rests_9 : decode cX4_rests 9 = .ok (.iconst 0, 1) := by decide +kernel
theorem dX4_rests_10 : decode cX4_rests 10 = .ok (.iconst 1, 1) := by decide +kernel
theorem dX4_rests_11 : decode cX4_rests 11 = .ok (.invokestatic 65, 3) := by decide +kernel
theorem dX4_rests_14 : decode cX4_rests 14 = .ok (.ifCond .eq 12, 3) := by decide +kernel
theorem dX4_rests_17 : decode cX4_rests 17 = .ok (.aload_n 0, 1) := by decide +kernel
theorem dX4_rests_18 : decode cX4_rests 18 = .ok (.iload_n 1, 1) := by decide +kernel
theorem dX4_rests_19 : decode cX4_rests 19 = .ok (.iload_n 2, 1) := by decide +kernel
theorem dX4_rests_20 : decode cX4_rests 20 = .ok (.invokevirtual 130, 3) := by decide +kernel
theorem dX4_rests_23 : decode cX4_rests 23 = .ok (.goto 5, 3) := by decide +kernel
theorem dX4_rests_26 : decode cX4_rests 26 = .ok (.bipush (-2), 2) := by decide +kernel
theorem dX4_rests_28 : decode cX4_rests 28 = .ok (.ireturn, 1) := by decide +kernel
theorem dX4_longestNow_0 : decode cX4_longestNow 0 = .ok (.iconst (-1), 1) := by decide +kernel
theorem dX4_longestNow_1 : decode cX4_longestNow 1 = .ok (.istore_n 1, 1) := by decide +kernel
theorem dX4_longestNow_2 : decode cX4_longestNow 2 = .ok (.iconst 0, 1) := by decide +kernel
theorem dX4_longestNow_3 : decode cX4_longestNow 3 = .ok (.istore_n 2, 1) := by decide +kernel
theorem dX4_longestNow_4 : decode cX4_longestNow 4 = .ok (.iload_n 2, 1) := by decide +kernel
theorem dX4_longestNow_5 : decode cX4_longestNow 5 = .ok (.aload_n 0, 1) := by decide +kernel
theorem dX4_longestNow_6 : decode cX4_longestNow 6 = .ok (.getfield 108, 3) := by decide +kernel
theorem dX4_longestNow_9 : decode cX4_longestNow 9 = .ok (.if_icmp .ge 55, 3) := by decide +kernel
theorem dX4_longestNow_12 : decode cX4_longestNow 12 = .ok (.aload_n 0, 1) := by decide +kernel
theorem dX4_longestNow_13 : decode cX4_longestNow 13 = .ok (.iload_n 2, 1) := by decide +kernel
theorem dX4_longestNow_14 : decode cX4_longestNow 14 = .ok (.iconst 0, 1) := by decide +kernel
theorem dX4_longestNow_15 : decode cX4_longestNow 15 = .ok (.invokevirtual 130, 3) := by decide +kernel
theorem dX4_longestNow_18 : decode cX4_longestNow 18 = .ok (.iconst (-1), 1) := by decide +kernel
theorem dX4_longestNow_19 : decode cX4_longestNow 19 = .ok (.if_icmp .eq 7, 3) := by decide +kernel
theorem dX4_longestNow_22 : decode cX4_longestNow 22 = .ok (.iconst 1, 1) := by decide +kernel
theorem dX4_longestNow_23 : decode cX4_longestNow 23 = .ok (.goto 4, 3) := by decide +kernel
theorem dX4_longestNow_26 : decode cX4_longestNow 26 = .ok (.iconst 0, 1) := by decide +kernel
theorem dX4_longestNow_27 : decode cX4_longestNow 27 = .ok (.istore_n 3, 1) := by decide +kernel
theorem dX4_longestNow_28 : decode cX4_longestNow 28 = .ok (.iload_n 3, 1) := by decide +kernel
theorem dX4_longestNow_29 : decode cX4_longestNow 29 = .ok (.ifCond .eq 27, 3) := by decide +kernel
theorem dX4_longestNow_32 : decode cX4_longestNow 32 = .ok (.iload_n 1, 1) := by decide +kernel
theorem dX4_longestNow_33 : decode cX4_longestNow 33 = .ok (.iconst (-1), 1) := by decide +kernel
theorem dX4_longestNow_34 : decode cX4_longestNow 34 = .ok (.if_icmp .eq 18, 3) := by decide +kernel
theorem dX4_longestNow_37 : decode cX4_longestNow 37 = .ok (.aload_n 0, 1) := by decide +kernel
theorem dX4_longestNow_38 : decode cX4_longestNow 38 = .ok (.iload_n 2, 1) := by decide +kernel
theorem dX4_longestNow_39 : decode cX4_longestNow 39 = .ok (.iconst 1, 1) := by decide +kernel
theorem dX4_longestNow_40 : decode cX4_longestNow 40 = .ok (.invokevirtual 130, 3) := by decide +kernel
theorem dX4_longestNow_43 : decode cX4_longestNow 43 = .ok (.aload_n 0, 1) := by decide +kernel
theorem dX4_longestNow_44 : decode cX4_longestNow 44 = .ok (.iload_n 1, 1) := by decide +kernel
theorem dX4_longestNow_45 : decode cX4_longestNow 45 = .ok (.iconst 1, 1) := by decide +kernel
theorem dX4_longestNow_46 : decode cX4_longestNow 46 = .ok (.invokevirtual 130, 3) := by decide +kernel
theorem dX4_longestNow_49 : decode cX4_longestNow 49 = .ok (.if_icmp .le 7, 3) := by decide +kernel
theorem dX4_longestNow_52 : decode cX4_longestNow 52 = .ok (.iload_n 2, 1) := by decide +kernel
theorem dX4_longestNow_53 : decode cX4_longestNow 53 = .ok (.goto 4, 3) := by decide +kernel
theorem dX4_longestNow_56 : decode cX4_longestNow 56 = .ok (.iload_n 1, 1) := by decide +kernel
theorem dX4_longestNow_57 : decode cX4_longestNow 57 = .ok (.istore_n 1, 1) := by decide +kernel
theorem dX4_longestNow_58 : decode cX4_longestNow 58 = .ok (.iinc 2 1, 3) := by decide +kernel
theorem dX4_longestNow_61 : decode cX4_longestNow 61 = .ok (.goto (-57), 3) := by decide +kernel
theorem dX4_longestNow_64 : decode cX4_longestNow 64 = .ok (.iload_n 1, 1) := by decide +kernel
theorem dX4_longestNow_65 : decode cX4_longestNow 65 = .ok (.ireturn, 1) := by decide +kernel
theorem dX4_longest_0 : decode cX4_longest 0 = .ok (.aload_n 0, 1) := by decide +kernel
theorem dX4_longest_1 : decode cX4_longest 1 = .ok (.invokevirtual 133, 3) := by decide +kernel
theorem dX4_longest_4 : decode cX4_longest 4 = .ok (.ireturn, 1) := by decide +kernel
theorem dX4_meetOf_0 : decode cX4_meetOf 0 = .ok (.iconst 0, 1) := by decide +kernel
theorem dX4_meetOf_1 : decode cX4_meetOf 1 = .ok (.istore_n 3, 1) := by decide +kernel
theorem dX4_meetOf_2 : decode cX4_meetOf 2 = .ok (.iload_n 3, 1) := by decide +kernel
theorem dX4_meetOf_3 : decode cX4_meetOf 3 = .ok (.bipush 100, 2) := by decide +kernel
theorem dX4_meetOf_5 : decode cX4_meetOf 5 = .ok (.if_icmp .ge 36, 3) := by decide +kernel
theorem dX4_meetOf_8 : decode cX4_meetOf 8 = .ok (.aload_n 0, 1) := by decide +kernel
theorem dX4_meetOf_9 : decode cX4_meetOf 9 = .ok (.iload_n 1, 1) := by decide +kernel
theorem dX4_meetOf_10 : decode cX4_meetOf 10 = .ok (.iload_n 3, 1) := by decide +kernel
theorem dX4_meetOf_11 : decode cX4_meetOf 11 = .ok (.invokevirtual 127, 3) := by decide +kernel
theorem dX4_meetOf_14 : decode cX4_meetOf 14 = .ok (.istore 4, 2) := by decide +kernel
theorem dX4_meetOf_16 : decode cX4_meetOf 16 = .ok (.iload 4, 2) := by decide +kernel
theorem dX4_meetOf_18 : decode cX4_meetOf 18 = .ok (.iconst (-1), 1) := by decide +kernel
theorem dX4_meetOf_19 : decode cX4_meetOf 19 = .ok (.if_icmp .eq 16, 3) := by decide +kernel
theorem dX4_meetOf_22 : decode cX4_meetOf 22 = .ok (.iload 4, 2) := by decide +kernel
theorem dX4_meetOf_24 : decode cX4_meetOf 24 = .ok (.aload_n 0, 1) := by decide +kernel
theorem dX4_meetOf_25 : decode cX4_meetOf 25 = .ok (.iload_n 2, 1) := by decide +kernel
theorem dX4_meetOf_26 : decode cX4_meetOf 26 = .ok (.iload_n 3, 1) := by decide +kernel
theorem dX4_meetOf_27 : decode cX4_meetOf 27 = .ok (.invokevirtual 127, 3) := by decide +kernel
theorem dX4_meetOf_30 : decode cX4_meetOf 30 = .ok (.if_icmp .ne 5, 3) := by decide +kernel
theorem dX4_meetOf_33 : decode cX4_meetOf 33 = .ok (.iload_n 3, 1) := by decide +kernel
theorem dX4_meetOf_34 : decode cX4_meetOf 34 = .ok (.ireturn, 1) := by decide +kernel
theorem dX4_meetOf_35 : decode cX4_meetOf 35 = .ok (.iinc 3 1, 3) := by decide +kernel
theorem dX4_meetOf_38 : decode cX4_meetOf 38 = .ok (.goto (-36), 3) := by decide +kernel
theorem dX4_meetOf_41 : decode cX4_meetOf 41 = .ok (.iconst (-1), 1) := by decide +kernel
theorem dX4_meetOf_42 : decode cX4_meetOf 42 = .ok (.ireturn, 1) := by decide +kernel
theorem dX4_meet_0 : decode cX4_meet 0 = .ok (.aload_n 0, 1) := by decide +kernel
theorem dX4_meet_1 : decode cX4_meet 1 = .ok (.iload_n 1, 1) := by decide +kernel
theorem dX4_meet_2 : decode cX4_meet 2 = .ok (.invokevirtual 124, 3) := by decide +kernel
theorem dX4_meet_5 : decode cX4_meet 5 = .ok (.ifCond .eq 25, 3) := by decide +kernel
theorem dX4_meet_8 : decode cX4_meet 8 = .ok (.aload_n 0, 1) := by decide +kernel
theorem dX4_meet_9 : decode cX4_meet 9 = .ok (.iload_n 2, 1) := by decide +kernel
theorem dX4_meet_10 : decode cX4_meet 10 = .ok (.invokevirtual 124, 3) := by decide +kernel
theorem dX4_meet_13 : decode cX4_meet 13 = .ok (.ifCond .eq 17, 3) := by decide +kernel
theorem dX4_meet_16 : decode cX4_meet 16 = .ok (.iload_n 1, 1) := by decide +kernel
theorem dX4_meet_17 : decode cX4_meet 17 = .ok (.iload_n 2, 1) := by decide +kernel
theorem dX4_meet_18 : decode cX4_meet 18 = .ok (.if_icmp .eq 12, 3) := by decide +kernel
theorem dX4_meet_21 : decode cX4_meet 21 = .ok (.aload_n 0, 1) := by decide +kernel
theorem dX4_meet_22 : decode cX4_meet 22 = .ok (.iload_n 1, 1) := by decide +kernel
theorem dX4_meet_23 : decode cX4_meet 23 = .ok (.iload_n 2, 1) := by decide +kernel
theorem dX4_meet_24 : decode cX4_meet 24 = .ok (.invokevirtual 136, 3) := by decide +kernel
theorem dX4_meet_27 : decode cX4_meet 27 = .ok (.goto 5, 3) := by decide +kernel
theorem dX4_meet_30 : decode cX4_meet 30 = .ok (.bipush (-2), 2) := by decide +kernel
theorem dX4_meet_32 : decode cX4_meet 32 = .ok (.ireturn, 1) := by decide +kernel
theorem dX4_cost_0 : decode cX4_cost 0 = .ok (.aload_n 0, 1) := by decide +kernel
theorem dX4_cost_1 : decode cX4_cost 1 = .ok (.iload_n 1, 1) := by decide +kernel
theorem dX4_cost_2 : decode cX4_cost 2 = .ok (.iload_n 2, 1) := by decide +kernel
theorem dX4_cost_3 : decode cX4_cost 3 = .ok (.invokevirtual 139, 3) := by decide +kernel
theorem dX4_cost_6 : decode cX4_cost 6 = .ok (.istore_n 3, 1) := by decide +kernel
theorem dX4_cost_7 : decode cX4_cost 7 = .ok (.aload_n 0, 1) := by decide +kernel
theorem dX4_cost_8 : decode cX4_cost 8 = .ok (.iload_n 1, 1) := by decide +kernel
theorem dX4_cost_9 : decode cX4_cost 9 = .ok (.invokevirtual 99, 3) := by decide +kernel
theorem dX4_cost_12 : decode cX4_cost 12 = .ok (.ifCond .eq 11, 3) := by decide +kernel
theorem dX4_cost_15 : decode cX4_cost 15 = .ok (.aload_n 0, 1) := by decide +kernel
theorem dX4_cost_16 : decode cX4_cost 16 = .ok (.iload_n 3, 1) := by decide +kernel
theorem dX4_cost_17 : decode cX4_cost 17 = .ok (.invokevirtual 99, 3) := by decide +kernel
theorem dX4_cost_20 : decode cX4_cost 20 = .ok (.ifCond .ne 6, 3) := by decide +kernel
theorem dX4_cost_23 : decode cX4_cost 23 = .ok (.ldc 142, 2) := by decide +kernel
theorem dX4_cost_25 : decode cX4_cost 25 = .ok (.ireturn, 1) := by decide +kernel
theorem dX4_cost_26 : decode cX4_cost 26 = .ok (.aload_n 0, 1) := by decide +kernel
theorem dX4_cost_27 : decode cX4_cost 27 = .ok (.iload_n 1, 1) := by decide +kernel
theorem dX4_cost_28 : decode cX4_cost 28 = .ok (.invokevirtual 105, 3) := by decide +kernel
theorem dX4_cost_31 : decode cX4_cost 31 = .ok (.ifCond .ne 19, 3) := by decide +kernel
theorem dX4_cost_34 : decode cX4_cost 34 = .ok (.iload_n 3, 1) := by decide +kernel
theorem dX4_cost_35 : decode cX4_cost 35 = .ok (.aload_n 0, 1) := by decide +kernel
theorem dX4_cost_36 : decode cX4_cost 36 = .ok (.iload_n 1, 1) := by decide +kernel
theorem dX4_cost_37 : decode cX4_cost 37 = .ok (.invokevirtual 96, 3) := by decide +kernel
theorem dX4_cost_40 : decode cX4_cost 40 = .ok (.if_icmp .ne 7, 3) := by decide +kernel
theorem dX4_cost_43 : decode cX4_cost 43 = .ok (.iconst 1, 1) := by decide +kernel
theorem dX4_cost_44 : decode cX4_cost 44 = .ok (.goto 5, 3) := by decide +kernel
theorem dX4_cost_47 : decode cX4_cost 47 = .ok (.ldc 142, 2) := by decide +kernel
theorem dX4_cost_49 : decode cX4_cost 49 = .ok (.ireturn, 1) := by decide +kernel
theorem dX4_cost_50 : decode cX4_cost 50 = .ok (.iload_n 2, 1) := by decide +kernel
theorem dX4_cost_51 : decode cX4_cost 51 = .ok (.iconst 2, 1) := by decide +kernel
theorem dX4_cost_52 : decode cX4_cost 52 = .ok (.if_icmp .ge 25, 3) := by decide +kernel
theorem dX4_cost_55 : decode cX4_cost 55 = .ok (.iload_n 3, 1) := by decide +kernel
theorem dX4_cost_56 : decode cX4_cost 56 = .ok (.aload_n 0, 1) := by decide +kernel
theorem dX4_cost_57 : decode cX4_cost 57 = .ok (.getfield 78, 3) := by decide +kernel
theorem dX4_cost_60 : decode cX4_cost 60 = .ok (.idiv, 1) := by decide +kernel
theorem dX4_cost_61 : decode cX4_cost 61 = .ok (.iload_n 1, 1) := by decide +kernel
theorem dX4_cost_62 : decode cX4_cost 62 = .ok (.aload_n 0, 1) := by decide +kernel
theorem dX4_cost_63 : decode cX4_cost 63 = .ok (.getfield 78, 3) := by decide +kernel
theorem dX4_cost_66 : decode cX4_cost 66 = .ok (.idiv, 1) := by decide +kernel
theorem dX4_cost_67 : decode cX4_cost 67 = .ok (.if_icmp .ne 7, 3) := by decide +kernel
theorem dX4_cost_70 : decode cX4_cost 70 = .ok (.iconst 1, 1) := by decide +kernel
theorem dX4_cost_71 : decode cX4_cost 71 = .ok (.goto 5, 3) := by decide +kernel
theorem dX4_cost_74 : decode cX4_cost 74 = .ok (.ldc 142, 2) := by decide +kernel
theorem dX4_cost_76 : decode cX4_cost 76 = .ok (.ireturn, 1) := by decide +kernel
theorem dX4_cost_77 : decode cX4_cost 77 = .ok (.aload_n 0, 1) := by decide +kernel
theorem dX4_cost_78 : decode cX4_cost 78 = .ok (.getfield 13, 3) := by decide +kernel
theorem dX4_cost_81 : decode cX4_cost 81 = .ok (.iload_n 1, 1) := by decide +kernel
theorem dX4_cost_82 : decode cX4_cost 82 = .ok (.iaload, 1) := by decide +kernel
theorem dX4_cost_83 : decode cX4_cost 83 = .ok (.iconst 2, 1) := by decide +kernel
theorem dX4_cost_84 : decode cX4_cost 84 = .ok (.if_icmp .eq 18, 3) := by decide +kernel
theorem dX4_cost_87 : decode cX4_cost 87 = .ok (.aload_n 0, 1) := by decide +kernel
theorem dX4_cost_88 : decode cX4_cost 88 = .ok (.getfield 13, 3) := by decide +kernel
theorem dX4_cost_91 : decode cX4_cost 91 = .ok (.iload_n 3, 1) := by decide +kernel
theorem dX4_cost_92 : decode cX4_cost 92 = .ok (.iaload, 1) := by decide +kernel
theorem dX4_cost_93 : decode cX4_cost 93 = .ok (.iconst 2, 1) := by decide +kernel
theorem dX4_cost_94 : decode cX4_cost 94 = .ok (.if_icmp .eq 8, 3) := by decide +kernel
theorem dX4_cost_97 : decode cX4_cost 97 = .ok (.ldc 142, 2) := by decide +kernel
theorem dX4_cost_99 : decode cX4_cost 99 = .ok (.goto 26, 3) := by decide +kernel
theorem dX4_cost_102 : decode cX4_cost 102 = .ok (.aload_n 0, 1) := by decide +kernel
theorem dX4_cost_103 : decode cX4_cost 103 = .ok (.iload_n 1, 1) := by decide +kernel
theorem dX4_cost_104 : decode cX4_cost 104 = .ok (.invokevirtual 92, 3) := by decide +kernel
theorem dX4_cost_107 : decode cX4_cost 107 = .ok (.aload_n 0, 1) := by decide +kernel
theorem dX4_cost_108 : decode cX4_cost 108 = .ok (.iload_n 3, 1) := by decide +kernel
theorem dX4_cost_109 : decode cX4_cost 109 = .ok (.invokevirtual 92, 3) := by decide +kernel
theorem dX4_cost_112 : decode cX4_cost 112 = .ok (.if_icmp .eq 12, 3) := by decide +kernel
theorem dX4_cost_115 : decode cX4_cost 115 = .ok (.iconst 1, 1) := by decide +kernel
theorem dX4_cost_116 : decode cX4_cost 116 = .ok (.aload_n 0, 1) := by decide +kernel
theorem dX4_cost_117 : decode cX4_cost 117 = .ok (.getfield 60, 3) := by decide +kernel
theorem dX4_cost_120 : decode cX4_cost 120 = .ok (.iadd, 1) := by decide +kernel
theorem dX4_cost_121 : decode cX4_cost 121 = .ok (.goto 4, 3) := by decide +kernel
theorem dX4_cost_124 : decode cX4_cost 124 = .ok (.iconst 1, 1) := by decide +kernel
theorem dX4_cost_125 : decode cX4_cost 125 = .ok (.ireturn, 1) := by decide +kernel
theorem dX4_target_0 : decode cX4_target 0 = .ok (.iload_n 2, 1) := by decide +kernel
theorem dX4_target_1 : decode cX4_target 1 = .ok (.ifCond .ne 22, 3) := by decide +kernel
theorem dX4_target_4 : decode cX4_target 4 = .ok (.iload_n 1, 1) := by decide +kernel
theorem dX4_target_5 : decode cX4_target 5 = .ok (.aload_n 0, 1) := by decide +kernel
theorem dX4_target_6 : decode cX4_target 6 = .ok (.getfield 78, 3) := by decide +kernel
theorem dX4_target_9 : decode cX4_target 9 = .ok (.irem, 1) := by decide +kernel
theorem dX4_target_10 : decode cX4_target 10 = .ok (.ifCond .le 9, 3) := by decide +kernel
theorem dX4_target_13 : decode cX4_target 13 = .ok (.iload_n 1, 1) := by decide +kernel
theorem dX4_target_14 : decode cX4_target 14 = .ok (.iconst 1, 1) := by decide +kernel
theorem dX4_target_15 : decode cX4_target 15 = .ok (.isub, 1) := by decide +kernel
theorem dX4_target_16 : decode cX4_target 16 = .ok (.goto 57, 3) := by decide +kernel
theorem dX4_target_19 : decode cX4_target 19 = .ok (.iconst (-1), 1) := by decide +kernel
theorem dX4_target_20 : decode cX4_target 20 = .ok (.goto 53, 3) := by decide +kernel
theorem dX4_target_23 : decode cX4_target 23 = .ok (.iload_n 2, 1) := by decide +kernel
theorem dX4_target_24 : decode cX4_target 24 = .ok (.iconst 1, 1) := by decide +kernel
theorem dX4_target_25 : decode cX4_target 25 = .ok (.if_icmp .ne 28, 3) := by decide +kernel
theorem dX4_target_28 : decode cX4_target 28 = .ok (.iload_n 1, 1) := by decide +kernel
theorem dX4_target_29 : decode cX4_target 29 = .ok (.aload_n 0, 1) := by decide +kernel
theorem dX4_target_30 : decode cX4_target 30 = .ok (.getfield 78, 3) := by decide +kernel
theorem dX4_target_33 : decode cX4_target 33 = .ok (.irem, 1) := by decide +kernel
theorem dX4_target_34 : decode cX4_target 34 = .ok (.aload_n 0, 1) := by decide +kernel
theorem dX4_target_35 : decode cX4_target 35 = .ok (.getfield 78, 3) := by decide +kernel
theorem dX4_target_38 : decode cX4_target 38 = .ok (.iconst 1, 1) := by decide +kernel
theorem dX4_target_39 : decode cX4_target 39 = .ok (.isub, 1) := by decide +kernel
theorem dX4_target_40 : decode cX4_target 40 = .ok (.if_icmp .ge 9, 3) := by decide +kernel
theorem dX4_target_43 : decode cX4_target 43 = .ok (.iload_n 1, 1) := by decide +kernel
theorem dX4_target_44 : decode cX4_target 44 = .ok (.iconst 1, 1) := by decide +kernel
theorem dX4_target_45 : decode cX4_target 45 = .ok (.iadd, 1) := by decide +kernel
theorem dX4_target_46 : decode cX4_target 46 = .ok (.goto 27, 3) := by decide +kernel
theorem dX4_target_49 : decode cX4_target 49 = .ok (.iconst (-1), 1) := by decide +kernel
theorem dX4_target_50 : decode cX4_target 50 = .ok (.goto 23, 3) := by decide +kernel
theorem dX4_target_53 : decode cX4_target 53 = .ok (.iload_n 2, 1) := by decide +kernel
theorem dX4_target_54 : decode cX4_target 54 = .ok (.iconst 2, 1) := by decide +kernel
theorem dX4_target_55 : decode cX4_target 55 = .ok (.if_icmp .ne 12, 3) := by decide +kernel
theorem dX4_target_58 : decode cX4_target 58 = .ok (.iload_n 1, 1) := by decide +kernel
theorem dX4_target_59 : decode cX4_target 59 = .ok (.aload_n 0, 1) := by decide +kernel
theorem dX4_target_60 : decode cX4_target 60 = .ok (.getfield 78, 3) := by decide +kernel
theorem dX4_target_63 : decode cX4_target 63 = .ok (.isub, 1) := by decide +kernel
theorem dX4_target_64 : decode cX4_target 64 = .ok (.goto 9, 3) := by decide +kernel
theorem dX4_target_67 : decode cX4_target 67 = .ok (.iload_n 1, 1) := by decide +kernel
theorem dX4_target_68 : decode cX4_target 68 = .ok (.aload_n 0, 1) := by decide +kernel
theorem dX4_target_69 : decode cX4_target 69 = .ok (.getfield 78, 3) := by decide +kernel
theorem dX4_target_72 : decode cX4_target 72 = .ok (.iadd, 1) := by decide +kernel
theorem dX4_target_73 : decode cX4_target 73 = .ok (.ireturn, 1) := by decide +kernel
theorem dX4_laysFar_0 : decode cX4_laysFar 0 = .ok (.iconst 0, 1) := by decide +kernel
theorem dX4_laysFar_1 : decode cX4_laysFar 1 = .ok (.istore_n 2, 1) := by decide +kernel
theorem dX4_laysFar_2 : decode cX4_laysFar 2 = .ok (.iload_n 2, 1) := by decide +kernel
theorem dX4_laysFar_3 : decode cX4_laysFar 3 = .ok (.aload_n 0, 1) := by decide +kernel
theorem dX4_laysFar_4 : decode cX4_laysFar 4 = .ok (.getfield 72, 3) := by decide +kernel
theorem dX4_laysFar_7 : decode cX4_laysFar 7 = .ok (.if_icmp .ge 34, 3) := by decide +kernel
theorem dX4_laysFar_10 : decode cX4_laysFar 10 = .ok (.aload_n 0, 1) := by decide +kernel
theorem dX4_laysFar_11 : decode cX4_laysFar 11 = .ok (.getfield 22, 3) := by decide +kernel
theorem dX4_laysFar_14 : decode cX4_laysFar 14 = .ok (.iload_n 2, 1) := by decide +kernel
theorem dX4_laysFar_15 : decode cX4_laysFar 15 = .ok (.iload_n 2, 1) := by decide +kernel
theorem dX4_laysFar_16 : decode cX4_laysFar 16 = .ok (.iload_n 1, 1) := by decide +kernel
theorem dX4_laysFar_17 : decode cX4_laysFar 17 = .ok (.if_icmp .ne 15, 3) := by decide +kernel
theorem dX4_laysFar_20 : decode cX4_laysFar 20 = .ok (.aload_n 0, 1) := by decide +kernel
theorem dX4_laysFar_21 : decode cX4_laysFar 21 = .ok (.iload_n 2, 1) := by decide +kernel
theorem dX4_laysFar_22 : decode cX4_laysFar 22 = .ok (.invokevirtual 99, 3) := by decide +kernel
theorem dX4_laysFar_25 : decode cX4_laysFar 25 = .ok (.ifCond .eq 7, 3) := by decide +kernel
theorem dX4_laysFar_28 : decode cX4_laysFar 28 = .ok (.iconst 0, 1) := by decide +kernel
theorem dX4_laysFar_29 : decode cX4_laysFar 29 = .ok (.goto 5, 3) := by decide +kernel
theorem dX4_laysFar_32 : decode cX4_laysFar 32 = .ok (.ldc 142, 2) := by decide +kernel
theorem dX4_laysFar_34 : decode cX4_laysFar 34 = .ok (.iastore, 1) := by decide +kernel
theorem dX4_laysFar_35 : decode cX4_laysFar 35 = .ok (.iinc 2 1, 3) := by decide +kernel
theorem dX4_laysFar_38 : decode cX4_laysFar 38 = .ok (.goto (-36), 3) := by decide +kernel
theorem dX4_laysFar_41 : decode cX4_laysFar 41 = .ok (.iconst 1, 1) := by decide +kernel
theorem dX4_laysFar_42 : decode cX4_laysFar 42 = .ok (.istore_n 2, 1) := by decide +kernel
theorem dX4_laysFar_43 : decode cX4_laysFar 43 = .ok (.iload_n 2, 1) := by decide +kernel
theorem dX4_laysFar_44 : decode cX4_laysFar 44 = .ok (.ifCond .eq 102, 3) := by decide +kernel
theorem dX4_laysFar_47 : decode cX4_laysFar 47 = .ok (.iconst 0, 1) := by decide +kernel
theorem dX4_laysFar_48 : decode cX4_laysFar 48 = .ok (.istore_n 2, 1) := by decide +kernel
theorem dX4_laysFar_49 : decode cX4_laysFar 49 = .ok (.iconst 0, 1) := by decide +kernel
theorem dX4_laysFar_50 : decode cX4_laysFar 50 = .ok (.istore_n 3, 1) := by decide +kernel
theorem dX4_laysFar_51 : decode cX4_laysFar 51 = .ok (.iload_n 3, 1) := by decide +kernel
theorem dX4_laysFar_52 : decode cX4_laysFar 52 = .ok (.aload_n 0, 1) := by decide +kernel
theorem dX4_laysFar_53 : decode cX4_laysFar 53 = .ok (.getfield 72, 3) := by decide +kernel
theorem dX4_laysFar_56 : decode cX4_laysFar 56 = .ok (.if_icmp .ge 87, 3) := by decide +kernel
theorem dX4_laysFar_59 : decode cX4_laysFar 59 = .ok (.iconst 0, 1) := by decide +kernel
theorem dX4_laysFar_60 : decode cX4_laysFar 60 = .ok (.istore 4, 2) := by decide +kernel
theorem dX4_laysFar_62 : decode cX4_laysFar 62 = .ok (.iload 4, 2) := by decide +kernel
theorem dX4_laysFar_64 : decode cX4_laysFar 64 = .ok (.iconst 4, 1) := by decide +kernel
theorem dX4_laysFar_65 : decode cX4_laysFar 65 = .ok (.if_icmp .ge 72, 3) := by decide +kernel
theorem dX4_laysFar_68 : decode cX4_laysFar 68 = .ok (.aload_n 0, 1) := by decide +kernel
theorem dX4_laysFar_69 : decode cX4_laysFar 69 = .ok (.iload_n 3, 1) := by decide +kernel
theorem dX4_laysFar_70 : decode cX4_laysFar 70 = .ok (.iload 4, 2) := by decide +kernel
theorem dX4_laysFar_72 : decode cX4_laysFar 72 = .ok (.invokevirtual 143, 3) := by decide +kernel
theorem dX4_laysFar_75 : decode cX4_laysFar 75 = .ok (.istore 5, 2) := by decide +kernel
theorem dX4_laysFar_77 : decode cX4_laysFar 77 = .ok (.iload 5, 2) := by decide +kernel
theorem dX4_laysFar_79 : decode cX4_laysFar 79 = .ok (.ldc 142, 2) := by decide +kernel
theorem dX4_laysFar_81 : decode cX4_laysFar 81 = .ok (.if_icmp .ge 50, 3) := by decide +kernel
theorem dX4_laysFar_84 : decode cX4_laysFar 84 = .ok (.iload 5, 2) := by decide +kernel
theorem dX4_laysFar_86 : decode cX4_laysFar 86 = .ok (.aload_n 0, 1) := by decide +kernel
theorem dX4_laysFar_87 : decode cX4_laysFar 87 = .ok (.getfield 22, 3) := by decide +kernel
theorem dX4_laysFar_90 : decode cX4_laysFar 90 = .ok (.aload_n 0, 1) := by decide +kernel
theorem dX4_laysFar_91 : decode cX4_laysFar 91 = .ok (.iload_n 3, 1) := by decide +kernel
theorem dX4_laysFar_92 : decode cX4_laysFar 92 = .ok (.iload 4, 2) := by decide +kernel
theorem dX4_laysFar_94 : decode cX4_laysFar 94 = .ok (.invokevirtual 139, 3) := by decide +kernel
theorem dX4_laysFar_97 : decode cX4_laysFar 97 = .ok (.iaload, 1) := by decide +kernel
theorem dX4_laysFar_98 : decode cX4_laysFar 98 = .ok (.iadd, 1) := by decide +kernel
theorem dX4_laysFar_99 : decode cX4_laysFar 99 = .ok (.aload_n 0, 1) := by decide +kernel
theorem dX4_laysFar_100 : decode cX4_laysFar 100 = .ok (.getfield 22, 3) := by decide +kernel
theorem dX4_laysFar_103 : decode cX4_laysFar 103 = .ok (.iload_n 3, 1) := by decide +kernel
theorem dX4_laysFar_104 : decode cX4_laysFar 104 = .ok (.iaload, 1) := by decide +kernel
theorem dX4_laysFar_105 : decode cX4_laysFar 105 = .ok (.if_icmp .ge 26, 3) := by decide +kernel
theorem dX4_laysFar_108 : decode cX4_laysFar 108 = .ok (.aload_n 0, 1) := by decide +kernel
theorem dX4_laysFar_109 : decode cX4_laysFar 109 = .ok (.getfield 22, 3) := by decide +kernel
theorem dX4_laysFar_112 : decode cX4_laysFar 112 = .ok (.iload_n 3, 1) := by decide +kernel
theorem dX4_laysFar_113 : decode cX4_laysFar 113 = .ok (.iload 5, 2) := by decide +kernel
theorem dX4_laysFar_115 : decode cX4_laysFar 115 = .ok (.aload_n 0, 1) := by decide +kernel
theorem dX4_laysFar_116 : decode cX4_laysFar 116 = .ok (.getfield 22, 3) := by decide +kernel
theorem dX4_laysFar_119 : decode cX4_laysFar 119 = .ok (.aload_n 0, 1) := by decide +kernel
theorem dX4_laysFar_120 : decode cX4_laysFar 120 = .ok (.iload_n 3, 1) := by decide +kernel
theorem dX4_laysFar_121 : decode cX4_laysFar 121 = .ok (.iload 4, 2) := by decide +kernel
theorem dX4_laysFar_123 : decode cX4_laysFar 123 = .ok (.invokevirtual 139, 3) := by decide +kernel
theorem dX4_laysFar_126 : decode cX4_laysFar 126 = .ok (.iaload, 1) := by decide +kernel
theorem dX4_laysFar_127 : decode cX4_laysFar 127 = .ok (.iadd, 1) := by decide +kernel
theorem dX4_laysFar_128 : decode cX4_laysFar 128 = .ok (.iastore, 1) := by decide +kernel
theorem dX4_laysFar_129 : decode cX4_laysFar 129 = .ok (.iconst 1, 1) := by decide +kernel
theorem dX4_laysFar_130 : decode cX4_laysFar 130 = .ok (.istore_n 2, 1) := by decide +kernel
theorem dX4_laysFar_131 : decode cX4_laysFar 131 = .ok (.iinc 4 1, 3) := by decide +kernel
theorem dX4_laysFar_134 : decode cX4_laysFar 134 = .ok (.goto (-72), 3) := by decide +kernel
theorem dX4_laysFar_137 : decode cX4_laysFar 137 = .ok (.iinc 3 1, 3) := by decide +kernel
theorem dX4_laysFar_140 : decode cX4_laysFar 140 = .ok (.goto (-89), 3) := by decide +kernel
theorem dX4_laysFar_143 : decode cX4_laysFar 143 = .ok (.goto (-100), 3) := by decide +kernel
theorem dX4_laysFar_146 : decode cX4_laysFar 146 = .ok (.return_, 1) := by decide +kernel
theorem dX4_wayOf_0 : decode cX4_wayOf 0 = .ok (.aload_n 0, 1) := by decide +kernel
theorem dX4_wayOf_1 : decode cX4_wayOf 1 = .ok (.iload_n 2, 1) := by decide +kernel
theorem dX4_wayOf_2 : decode cX4_wayOf 2 = .ok (.invokevirtual 146, 3) := by decide +kernel
theorem dX4_wayOf_5 : decode cX4_wayOf 5 = .ok (.aload_n 0, 1) := by decide +kernel
theorem dX4_wayOf_6 : decode cX4_wayOf 6 = .ok (.getfield 22, 3) := by decide +kernel
theorem dX4_wayOf_9 : decode cX4_wayOf 9 = .ok (.iload_n 1, 1) := by decide +kernel
theorem dX4_wayOf_10 : decode cX4_wayOf 10 = .ok (.iaload, 1) := by decide +kernel
theorem dX4_wayOf_11 : decode cX4_wayOf 11 = .ok (.ldc 142, 2) := by decide +kernel
theorem dX4_wayOf_13 : decode cX4_wayOf 13 = .ok (.if_icmp .ge 12, 3) := by decide +kernel
theorem dX4_wayOf_16 : decode cX4_wayOf 16 = .ok (.aload_n 0, 1) := by decide +kernel
theorem dX4_wayOf_17 : decode cX4_wayOf 17 = .ok (.getfield 22, 3) := by decide +kernel
theorem dX4_wayOf_20 : decode cX4_wayOf 20 = .ok (.iload_n 1, 1) := by decide +kernel
theorem dX4_wayOf_21 : decode cX4_wayOf 21 = .ok (.iaload, 1) := by decide +kernel
theorem dX4_wayOf_22 : decode cX4_wayOf 22 = .ok (.goto 4, 3) := by decide +kernel
theorem dX4_wayOf_25 : decode cX4_wayOf 25 = .ok (.iconst (-1), 1) := by decide +kernel
theorem dX4_wayOf_26 : decode cX4_wayOf 26 = .ok (.ireturn, 1) := by decide +kernel
theorem dX4_way_0 : decode cX4_way 0 = .ok (.aload_n 0, 1) := by decide +kernel
theorem dX4_way_1 : decode cX4_way 1 = .ok (.iload_n 1, 1) := by decide +kernel
theorem dX4_way_2 : decode cX4_way 2 = .ok (.invokevirtual 102, 3) := by decide +kernel
theorem dX4_way_5 : decode cX4_way 5 = .ok (.ifCond .eq 20, 3) := by decide +kernel
theorem dX4_way_8 : decode cX4_way 8 = .ok (.aload_n 0, 1) := by decide +kernel
theorem dX4_way_9 : decode cX4_way 9 = .ok (.iload_n 2, 1) := by decide +kernel
theorem dX4_way_10 : decode cX4_way 10 = .ok (.invokevirtual 102, 3) := by decide +kernel
theorem dX4_way_13 : decode cX4_way 13 = .ok (.ifCond .eq 12, 3) := by decide +kernel
theorem dX4_way_16 : decode cX4_way 16 = .ok (.aload_n 0, 1) := by decide +kernel
theorem dX4_way_17 : decode cX4_way 17 = .ok (.iload_n 1, 1) := by decide +kernel
theorem dX4_way_18 : decode cX4_way 18 = .ok (.iload_n 2, 1) := by decide +kernel
theorem dX4_way_19 : decode cX4_way 19 = .ok (.invokevirtual 150, 3) := by decide +kernel
theorem dX4_way_22 : decode cX4_way 22 = .ok (.goto 5, 3) := by decide +kernel
theorem dX4_way_25 : decode cX4_way 25 = .ok (.bipush (-2), 2) := by decide +kernel
theorem dX4_way_27 : decode cX4_way 27 = .ok (.ireturn, 1) := by decide +kernel
theorem dX4_nextOf_0 : decode cX4_nextOf 0 = .ok (.aload_n 0, 1) := by decide +kernel
theorem dX4_nextOf_1 : decode cX4_nextOf 1 = .ok (.iload_n 2, 1) := by decide +kernel
theorem dX4_nextOf_2 : decode cX4_nextOf 2 = .ok (.invokevirtual 146, 3) := by decide +kernel
theorem dX4_nextOf_5 : decode cX4_nextOf 5 = .ok (.iconst (-1), 1) := by decide +kernel
theorem dX4_nextOf_6 : decode cX4_nextOf 6 = .ok (.istore_n 3, 1) := by decide +kernel
theorem dX4_nextOf_7 : decode cX4_nextOf 7 = .ok (.iconst 0, 1) := by decide +kernel
theorem dX4_nextOf_8 : decode cX4_nextOf 8 = .ok (.istore 4, 2) := by decide +kernel
theorem dX4_nextOf_10 : decode cX4_nextOf 10 = .ok (.iload 4, 2) := by decide +kernel
theorem dX4_nextOf_12 : decode cX4_nextOf 12 = .ok (.iconst 4, 1) := by decide +kernel
theorem dX4_nextOf_13 : decode cX4_nextOf 13 = .ok (.if_icmp .ge 109, 3) := by decide +kernel
theorem dX4_nextOf_16 : decode cX4_nextOf 16 = .ok (.aload_n 0, 1) := by decide +kernel
theorem dX4_nextOf_17 : decode cX4_nextOf 17 = .ok (.getfield 22, 3) := by decide +kernel
theorem dX4_nextOf_20 : decode cX4_nextOf 20 = .ok (.iload_n 1, 1) := by decide +kernel
theorem dX4_nextOf_21 : decode cX4_nextOf 21 = .ok (.iaload, 1) := by decide +kernel
theorem dX4_nextOf_22 : decode cX4_nextOf 22 = .ok (.ifCond .le 100, 3) := by decide +kernel
theorem dX4_nextOf_25 : decode cX4_nextOf 25 = .ok (.aload_n 0, 1) := by decide +kernel
theorem dX4_nextOf_26 : decode cX4_nextOf 26 = .ok (.getfield 22, 3) := by decide +kernel
theorem dX4_nextOf_29 : decode cX4_nextOf 29 = .ok (.iload_n 1, 1) := by decide +kernel
theorem dX4_nextOf_30 : decode cX4_nextOf 30 = .ok (.iaload, 1) := by decide +kernel
theorem dX4_nextOf_31 : decode cX4_nextOf 31 = .ok (.ldc 142, 2) := by decide +kernel
theorem dX4_nextOf_33 : decode cX4_nextOf 33 = .ok (.if_icmp .ge 89, 3) := by decide +kernel
theorem dX4_nextOf_36 : decode cX4_nextOf 36 = .ok (.aload_n 0, 1) := by decide +kernel
theorem dX4_nextOf_37 : decode cX4_nextOf 37 = .ok (.iload_n 1, 1) := by decide +kernel
theorem dX4_nextOf_38 : decode cX4_nextOf 38 = .ok (.iload 4, 2) := by decide +kernel
theorem dX4_nextOf_40 : decode cX4_nextOf 40 = .ok (.invokevirtual 143, 3) := by decide +kernel
theorem dX4_nextOf_43 : decode cX4_nextOf 43 = .ok (.istore 5, 2) := by decide +kernel
theorem dX4_nextOf_45 : decode cX4_nextOf 45 = .ok (.iload 5, 2) := by decide +kernel
theorem dX4_nextOf_47 : decode cX4_nextOf 47 = .ok (.ldc 142, 2) := by decide +kernel
theorem dX4_nextOf_49 : decode cX4_nextOf 49 = .ok (.if_icmp .ge 31, 3) := by decide +kernel
theorem dX4_nextOf_52 : decode cX4_nextOf 52 = .ok (.iload 5, 2) := by decide +kernel
theorem dX4_nextOf_54 : decode cX4_nextOf 54 = .ok (.aload_n 0, 1) := by decide +kernel
theorem dX4_nextOf_55 : decode cX4_nextOf 55 = .ok (.getfield 22, 3) := by decide +kernel
theorem dX4_nextOf_58 : decode cX4_nextOf 58 = .ok (.aload_n 0, 1) := by decide +kernel
theorem dX4_nextOf_59 : decode cX4_nextOf 59 = .ok (.iload_n 1, 1) := by decide +kernel
theorem dX4_nextOf_60 : decode cX4_nextOf 60 = .ok (.iload 4, 2) := by decide +kernel
theorem dX4_nextOf_62 : decode cX4_nextOf 62 = .ok (.invokevirtual 139, 3) := by decide +kernel
theorem dX4_nextOf_65 : decode cX4_nextOf 65 = .ok (.iaload, 1) := by decide +kernel
theorem dX4_nextOf_66 : decode cX4_nextOf 66 = .ok (.iadd, 1) := by decide +kernel
theorem dX4_nextOf_67 : decode cX4_nextOf 67 = .ok (.aload_n 0, 1) := by decide +kernel
theorem dX4_nextOf_68 : decode cX4_nextOf 68 = .ok (.getfield 22, 3) := by decide +kernel
theorem dX4_nextOf_71 : decode cX4_nextOf 71 = .ok (.iload_n 1, 1) := by decide +kernel
theorem dX4_nextOf_72 : decode cX4_nextOf 72 = .ok (.iaload, 1) := by decide +kernel
theorem dX4_nextOf_73 : decode cX4_nextOf 73 = .ok (.if_icmp .ne 7, 3) := by decide +kernel
theorem dX4_nextOf_76 : decode cX4_nextOf 76 = .ok (.iconst 1, 1) := by decide +kernel
theorem dX4_nextOf_77 : decode cX4_nextOf 77 = .ok (.goto 4, 3) := by decide +kernel
theorem dX4_nextOf_80 : decode cX4_nextOf 80 = .ok (.iconst 0, 1) := by decide +kernel
theorem dX4_nextOf_81 : decode cX4_nextOf 81 = .ok (.istore 6, 2) := by decide +kernel
theorem dX4_nextOf_83 : decode cX4_nextOf 83 = .ok (.iload 6, 2) := by decide +kernel
theorem dX4_nextOf_85 : decode cX4_nextOf 85 = .ok (.ifCond .eq 29, 3) := by decide +kernel
theorem dX4_nextOf_88 : decode cX4_nextOf 88 = .ok (.iload_n 3, 1) := by decide +kernel
theorem dX4_nextOf_89 : decode cX4_nextOf 89 = .ok (.iconst (-1), 1) := by decide +kernel
theorem dX4_nextOf_90 : decode cX4_nextOf 90 = .ok (.if_icmp .eq 14, 3) := by decide +kernel
theorem dX4_nextOf_93 : decode cX4_nextOf 93 = .ok (.aload_n 0, 1) := by decide +kernel
theorem dX4_nextOf_94 : decode cX4_nextOf 94 = .ok (.iload_n 1, 1) := by decide +kernel
theorem dX4_nextOf_95 : decode cX4_nextOf 95 = .ok (.iload 4, 2) := by decide +kernel
theorem dX4_nextOf_97 : decode cX4_nextOf 97 = .ok (.invokevirtual 139, 3) := by decide +kernel
theorem dX4_nextOf_100 : decode cX4_nextOf 100 = .ok (.iload_n 3, 1) := by decide +kernel
theorem dX4_nextOf_101 : decode cX4_nextOf 101 = .ok (.if_icmp .ge 13, 3) := by decide +kernel
theorem dX4_nextOf_104 : decode cX4_nextOf 104 = .ok (.aload_n 0, 1) := by decide +kernel
theorem dX4_nextOf_105 : decode cX4_nextOf 105 = .ok (.iload_n 1, 1) := by decide +kernel
theorem dX4_nextOf_106 : decode cX4_nextOf 106 = .ok (.iload 4, 2) := by decide +kernel
theorem dX4_nextOf_108 : decode cX4_nextOf 108 = .ok (.invokevirtual 139, 3) := by decide +kernel
theorem dX4_nextOf_111 : decode cX4_nextOf 111 = .ok (.goto 4, 3) := by decide +kernel
theorem dX4_nextOf_114 : decode cX4_nextOf 114 = .ok (.iload_n 3, 1) := by decide +kernel
theorem dX4_nextOf_115 : decode cX4_nextOf 115 = .ok (.istore_n 3, 1) := by decide +kernel
theorem dX4_nextOf_116 : decode cX4_nextOf 116 = .ok (.iinc 4 1, 3) := by decide +kernel
theorem dX4_nextOf_119 : decode cX4_nextOf 119 = .ok (.goto (-109), 3) := by decide +kernel
theorem dX4_nextOf_122 : decode cX4_nextOf 122 = .ok (.iload_n 3, 1) := by decide +kernel
theorem dX4_nextOf_123 : decode cX4_nextOf 123 = .ok (.ireturn, 1) := by decide +kernel
theorem dX4_next_0 : decode cX4_next 0 = .ok (.aload_n 0, 1) := by decide +kernel
theorem dX4_next_1 : decode cX4_next 1 = .ok (.iload_n 1, 1) := by decide +kernel
theorem dX4_next_2 : decode cX4_next 2 = .ok (.invokevirtual 102, 3) := by decide +kernel
theorem dX4_next_5 : decode cX4_next 5 = .ok (.ifCond .eq 20, 3) := by decide +kernel
theorem dX4_next_8 : decode cX4_next 8 = .ok (.aload_n 0, 1) := by decide +kernel
theorem dX4_next_9 : decode cX4_next 9 = .ok (.iload_n 2, 1) := by decide +kernel
theorem dX4_next_10 : decode cX4_next 10 = .ok (.invokevirtual 102, 3) := by decide +kernel
theorem dX4_next_13 : decode cX4_next 13 = .ok (.ifCond .eq 12, 3) := by decide +kernel
theorem dX4_next_16 : decode cX4_next 16 = .ok (.aload_n 0, 1) := by decide +kernel
theorem dX4_next_17 : decode cX4_next 17 = .ok (.iload_n 1, 1) := by decide +kernel
theorem dX4_next_18 : decode cX4_next 18 = .ok (.iload_n 2, 1) := by decide +kernel
theorem dX4_next_19 : decode cX4_next 19 = .ok (.invokevirtual 153, 3) := by decide +kernel
theorem dX4_next_22 : decode cX4_next 22 = .ok (.goto 5, 3) := by decide +kernel
theorem dX4_next_25 : decode cX4_next 25 = .ok (.bipush (-2), 2) := by decide +kernel
theorem dX4_next_27 : decode cX4_next 27 = .ok (.ireturn, 1) := by decide +kernel
theorem dX4_raceOf_0 : decode cX4_raceOf 0 = .ok (.aload_n 0, 1) := by decide +kernel
theorem dX4_raceOf_1 : decode cX4_raceOf 1 = .ok (.iload_n 3, 1) := by decide +kernel
theorem dX4_raceOf_2 : decode cX4_raceOf 2 = .ok (.invokevirtual 146, 3) := by decide +kernel
theorem dX4_raceOf_5 : decode cX4_raceOf 5 = .ok (.aload_n 0, 1) := by decide +kernel
theorem dX4_raceOf_6 : decode cX4_raceOf 6 = .ok (.getfield 22, 3) := by decide +kernel
theorem dX4_raceOf_9 : decode cX4_raceOf 9 = .ok (.iload_n 1, 1) := by decide +kernel
theorem dX4_raceOf_10 : decode cX4_raceOf 10 = .ok (.iaload, 1) := by decide +kernel
theorem dX4_raceOf_11 : decode cX4_raceOf 11 = .ok (.ldc 142, 2) := by decide +kernel
theorem dX4_raceOf_13 : decode cX4_raceOf 13 = .ok (.if_icmp .ne 18, 3) := by decide +kernel
theorem dX4_raceOf_16 : decode cX4_raceOf 16 = .ok (.aload_n 0, 1) := by decide +kernel
theorem dX4_raceOf_17 : decode cX4_raceOf 17 = .ok (.getfield 22, 3) := by decide +kernel
theorem dX4_raceOf_20 : decode cX4_raceOf 20 = .ok (.iload_n 2, 1) := by decide +kernel
theorem dX4_raceOf_21 : decode cX4_raceOf 21 = .ok (.iaload, 1) := by decide +kernel
theorem dX4_raceOf_22 : decode cX4_raceOf 22 = .ok (.ldc 142, 2) := by decide +kernel
theorem dX4_raceOf_24 : decode cX4_raceOf 24 = .ok (.if_icmp .ne 7, 3) := by decide +kernel
theorem dX4_raceOf_27 : decode cX4_raceOf 27 = .ok (.iconst (-1), 1) := by decide +kernel
theorem dX4_raceOf_28 : decode cX4_raceOf 28 = .ok (.goto 42, 3) := by decide +kernel
theorem dX4_raceOf_31 : decode cX4_raceOf 31 = .ok (.aload_n 0, 1) := by decide +kernel
theorem dX4_raceOf_32 : decode cX4_raceOf 32 = .ok (.getfield 22, 3) := by decide +kernel
theorem dX4_raceOf_35 : decode cX4_raceOf 35 = .ok (.iload_n 1, 1) := by decide +kernel
theorem dX4_raceOf_36 : decode cX4_raceOf 36 = .ok (.iaload, 1) := by decide +kernel
theorem dX4_raceOf_37 : decode cX4_raceOf 37 = .ok (.aload_n 0, 1) := by decide +kernel
theorem dX4_raceOf_38 : decode cX4_raceOf 38 = .ok (.getfield 22, 3) := by decide +kernel
theorem dX4_raceOf_41 : decode cX4_raceOf 41 = .ok (.iload_n 2, 1) := by decide +kernel
theorem dX4_raceOf_42 : decode cX4_raceOf 42 = .ok (.iaload, 1) := by decide +kernel
theorem dX4_raceOf_43 : decode cX4_raceOf 43 = .ok (.if_icmp .ge 7, 3) := by decide +kernel
theorem dX4_raceOf_46 : decode cX4_raceOf 46 = .ok (.iconst 0, 1) := by decide +kernel
theorem dX4_raceOf_47 : decode cX4_raceOf 47 = .ok (.goto 23, 3) := by decide +kernel
theorem dX4_raceOf_50 : decode cX4_raceOf 50 = .ok (.aload_n 0, 1) := by decide +kernel
theorem dX4_raceOf_51 : decode cX4_raceOf 51 = .ok (.getfield 22, 3) := by decide +kernel
theorem dX4_raceOf_54 : decode cX4_raceOf 54 = .ok (.iload_n 1, 1) := by decide +kernel
theorem dX4_raceOf_55 : decode cX4_raceOf 55 = .ok (.iaload, 1) := by decide +kernel
theorem dX4_raceOf_56 : decode cX4_raceOf 56 = .ok (.aload_n 0, 1) := by decide +kernel
theorem dX4_raceOf_57 : decode cX4_raceOf 57 = .ok (.getfield 22, 3) := by decide +kernel
theorem dX4_raceOf_60 : decode cX4_raceOf 60 = .ok (.iload_n 2, 1) := by decide +kernel
theorem dX4_raceOf_61 : decode cX4_raceOf 61 = .ok (.iaload, 1) := by decide +kernel
theorem dX4_raceOf_62 : decode cX4_raceOf 62 = .ok (.if_icmp .le 7, 3) := by decide +kernel
theorem dX4_raceOf_65 : decode cX4_raceOf 65 = .ok (.iconst 1, 1) := by decide +kernel
theorem dX4_raceOf_66 : decode cX4_raceOf 66 = .ok (.goto 4, 3) := by decide +kernel
theorem dX4_raceOf_69 : decode cX4_raceOf 69 = .ok (.iconst 2, 1) := by decide +kernel
theorem dX4_raceOf_70 : decode cX4_raceOf 70 = .ok (.ireturn, 1) := by decide +kernel
theorem dX4_race_0 : decode cX4_race 0 = .ok (.aload_n 0, 1) := by decide +kernel
theorem dX4_race_1 : decode cX4_race 1 = .ok (.iload_n 1, 1) := by decide +kernel
theorem dX4_race_2 : decode cX4_race 2 = .ok (.invokevirtual 102, 3) := by decide +kernel
theorem dX4_race_5 : decode cX4_race 5 = .ok (.ifCond .eq 29, 3) := by decide +kernel
theorem dX4_race_8 : decode cX4_race 8 = .ok (.aload_n 0, 1) := by decide +kernel
theorem dX4_race_9 : decode cX4_race 9 = .ok (.iload_n 2, 1) := by decide +kernel
theorem dX4_race_10 : decode cX4_race 10 = .ok (.invokevirtual 102, 3) := by decide +kernel
theorem dX4_race_13 : decode cX4_race 13 = .ok (.ifCond .eq 21, 3) := by decide +kernel
theorem dX4_race_16 : decode cX4_race 16 = .ok (.aload_n 0, 1) := by decide +kernel
theorem dX4_race_17 : decode cX4_race 17 = .ok (.iload_n 3, 1) := by decide +kernel
theorem dX4_race_18 : decode cX4_race 18 = .ok (.invokevirtual 102, 3) := by decide +kernel
theorem dX4_race_21 : decode cX4_race 21 = .ok (.ifCond .eq 13, 3) := by decide +kernel
theorem dX4_race_24 : decode cX4_race 24 = .ok (.aload_n 0, 1) := by decide +kernel
theorem dX4_race_25 : decode cX4_race 25 = .ok (.iload_n 1, 1) := by decide +kernel
theorem dX4_race_26 : decode cX4_race 26 = .ok (.iload_n 2, 1) := by decide +kernel
theorem dX4_race_27 : decode cX4_race 27 = .ok (.iload_n 3, 1) := by decide +kernel
theorem dX4_race_28 : decode cX4_race 28 = .ok (.invokevirtual 156, 3) := by decide +kernel
theorem dX4_race_31 : decode cX4_race 31 = .ok (.goto 5, 3) := by decide +kernel
theorem dX4_race_34 : decode cX4_race 34 = .ok (.bipush (-2), 2) := by decide +kernel
theorem dX4_race_36 : decode cX4_race 36 = .ok (.ireturn, 1) := by decide +kernel
theorem dX4_reachOf_0 : decode cX4_reachOf 0 = .ok (.iconst 0, 1) := by decide +kernel
theorem dX4_reachOf_1 : decode cX4_reachOf 1 = .ok (.istore_n 2, 1) := by decide +kernel
theorem dX4_reachOf_2 : decode cX4_reachOf 2 = .ok (.iload_n 2, 1) := by decide +kernel
theorem dX4_reachOf_3 : decode cX4_reachOf 3 = .ok (.aload_n 0, 1) := by decide +kernel
theorem dX4_reachOf_4 : decode cX4_reachOf 4 = .ok (.getfield 72, 3) := by decide +kernel
theorem dX4_reachOf_7 : decode cX4_reachOf 7 = .ok (.if_icmp .ge 33, 3) := by decide +kernel
theorem dX4_reachOf_10 : decode cX4_reachOf 10 = .ok (.aload_n 0, 1) := by decide +kernel
theorem dX4_reachOf_11 : decode cX4_reachOf 11 = .ok (.getfield 25, 3) := by decide +kernel
theorem dX4_reachOf_14 : decode cX4_reachOf 14 = .ok (.iload_n 2, 1) := by decide +kernel
theorem dX4_reachOf_15 : decode cX4_reachOf 15 = .ok (.iload_n 2, 1) := by decide +kernel
theorem dX4_reachOf_16 : decode cX4_reachOf 16 = .ok (.iload_n 1, 1) := by decide +kernel
theorem dX4_reachOf_17 : decode cX4_reachOf 17 = .ok (.if_icmp .ne 15, 3) := by decide +kernel
theorem dX4_reachOf_20 : decode cX4_reachOf 20 = .ok (.aload_n 0, 1) := by decide +kernel
theorem dX4_reachOf_21 : decode cX4_reachOf 21 = .ok (.iload_n 2, 1) := by decide +kernel
theorem dX4_reachOf_22 : decode cX4_reachOf 22 = .ok (.invokevirtual 99, 3) := by decide +kernel
theorem dX4_reachOf_25 : decode cX4_reachOf 25 = .ok (.ifCond .eq 7, 3) := by decide +kernel
theorem dX4_reachOf_28 : decode cX4_reachOf 28 = .ok (.iconst 1, 1) := by decide +kernel
theorem dX4_reachOf_29 : decode cX4_reachOf 29 = .ok (.goto 4, 3) := by decide +kernel
theorem dX4_reachOf_32 : decode cX4_reachOf 32 = .ok (.iconst 0, 1) := by decide +kernel
theorem dX4_reachOf_33 : decode cX4_reachOf 33 = .ok (.bastore, 1) := by decide +kernel
theorem dX4_reachOf_34 : decode cX4_reachOf 34 = .ok (.iinc 2 1, 3) := by decide +kernel
theorem dX4_reachOf_37 : decode cX4_reachOf 37 = .ok (.goto (-35), 3) := by decide +kernel
theorem dX4_reachOf_40 : decode cX4_reachOf 40 = .ok (.iconst 1, 1) := by decide +kernel
theorem dX4_reachOf_41 : decode cX4_reachOf 41 = .ok (.istore_n 2, 1) := by decide +kernel
theorem dX4_reachOf_42 : decode cX4_reachOf 42 = .ok (.iload_n 2, 1) := by decide +kernel
theorem dX4_reachOf_43 : decode cX4_reachOf 43 = .ok (.ifCond .eq 90, 3) := by decide +kernel
theorem dX4_reachOf_46 : decode cX4_reachOf 46 = .ok (.iconst 0, 1) := by decide +kernel
theorem dX4_reachOf_47 : decode cX4_reachOf 47 = .ok (.istore_n 2, 1) := by decide +kernel
theorem dX4_reachOf_48 : decode cX4_reachOf 48 = .ok (.iconst 0, 1) := by decide +kernel
theorem dX4_reachOf_49 : decode cX4_reachOf 49 = .ok (.istore_n 3, 1) := by decide +kernel
theorem dX4_reachOf_50 : decode cX4_reachOf 50 = .ok (.iload_n 3, 1) := by decide +kernel
theorem dX4_reachOf_51 : decode cX4_reachOf 51 = .ok (.aload_n 0, 1) := by decide +kernel
theorem dX4_reachOf_52 : decode cX4_reachOf 52 = .ok (.getfield 72, 3) := by decide +kernel
theorem dX4_reachOf_55 : decode cX4_reachOf 55 = .ok (.if_icmp .ge 75, 3) := by decide +kernel
theorem dX4_reachOf_58 : decode cX4_reachOf 58 = .ok (.iconst 0, 1) := by decide +kernel
theorem dX4_reachOf_59 : decode cX4_reachOf 59 = .ok (.istore 4, 2) := by decide +kernel
theorem dX4_reachOf_61 : decode cX4_reachOf 61 = .ok (.iload 4, 2) := by decide +kernel
theorem dX4_reachOf_63 : decode cX4_reachOf 63 = .ok (.iconst 4, 1) := by decide +kernel
theorem dX4_reachOf_64 : decode cX4_reachOf 64 = .ok (.if_icmp .ge 60, 3) := by decide +kernel
theorem dX4_reachOf_67 : decode cX4_reachOf 67 = .ok (.aload_n 0, 1) := by decide +kernel
theorem dX4_reachOf_68 : decode cX4_reachOf 68 = .ok (.getfield 25, 3) := by decide +kernel
theorem dX4_reachOf_71 : decode cX4_reachOf 71 = .ok (.iload_n 3, 1) := by decide +kernel
theorem dX4_reachOf_72 : decode cX4_reachOf 72 = .ok (.baload, 1) := by decide +kernel
theorem dX4_reachOf_73 : decode cX4_reachOf 73 = .ok (.ifCond .eq 51, 3) := by decide +kernel
theorem dX4_reachOf_76 : decode cX4_reachOf 76 = .ok (.aload_n 0, 1) := by decide +kernel
theorem dX4_reachOf_77 : decode cX4_reachOf 77 = .ok (.iload_n 3, 1) := by decide +kernel
theorem dX4_reachOf_78 : decode cX4_reachOf 78 = .ok (.iload 4, 2) := by decide +kernel
theorem dX4_reachOf_80 : decode cX4_reachOf 80 = .ok (.invokevirtual 143, 3) := by decide +kernel
theorem dX4_reachOf_83 : decode cX4_reachOf 83 = .ok (.ldc 142, 2) := by decide +kernel
theorem dX4_reachOf_85 : decode cX4_reachOf 85 = .ok (.if_icmp .ge 33, 3) := by decide +kernel
theorem dX4_reachOf_88 : decode cX4_reachOf 88 = .ok (.aload_n 0, 1) := by decide +kernel
theorem dX4_reachOf_89 : decode cX4_reachOf 89 = .ok (.getfield 25, 3) := by decide +kernel
theorem dX4_reachOf_92 : decode cX4_reachOf 92 = .ok (.aload_n 0, 1) := by decide +kernel
theorem dX4_reachOf_93 : decode cX4_reachOf 93 = .ok (.iload_n 3, 1) := by decide +kernel
theorem dX4_reachOf_94 : decode cX4_reachOf 94 = .ok (.iload 4, 2) := by decide +kernel
theorem dX4_reachOf_96 : decode cX4_reachOf 96 = .ok (.invokevirtual 139, 3) := by decide +kernel
theorem dX4_reachOf_99 : decode cX4_reachOf 99 = .ok (.baload, 1) := by decide +kernel
theorem dX4_reachOf_100 : decode cX4_reachOf 100 = .ok (.ifCond .ne 18, 3) := by decide +kernel
theorem dX4_reachOf_103 : decode cX4_reachOf 103 = .ok (.aload_n 0, 1) := by decide +kernel
theorem dX4_reachOf_104 : decode cX4_reachOf 104 = .ok (.getfield 25, 3) := by decide +kernel
theorem dX4_reachOf_107 : decode cX4_reachOf 107 = .ok (.aload_n 0, 1) := by decide +kernel
theorem dX4_reachOf_108 : decode cX4_reachOf 108 = .ok (.iload_n 3, 1) := by decide +kernel
theorem dX4_reachOf_109 : decode cX4_reachOf 109 = .ok (.iload 4, 2) := by decide +kernel
theorem dX4_reachOf_111 : decode cX4_reachOf 111 = .ok (.invokevirtual 139, 3) := by decide +kernel
theorem dX4_reachOf_114 : decode cX4_reachOf 114 = .ok (.iconst 1, 1) := by decide +kernel
theorem dX4_reachOf_115 : decode cX4_reachOf 115 = .ok (.bastore, 1) := by decide +kernel
theorem dX4_reachOf_116 : decode cX4_reachOf 116 = .ok (.iconst 1, 1) := by decide +kernel
theorem dX4_reachOf_117 : decode cX4_reachOf 117 = .ok (.istore_n 2, 1) := by decide +kernel
theorem dX4_reachOf_118 : decode cX4_reachOf 118 = .ok (.iinc 4 1, 3) := by decide +kernel
theorem dX4_reachOf_121 : decode cX4_reachOf 121 = .ok (.goto (-60), 3) := by decide +kernel
theorem dX4_reachOf_124 : decode cX4_reachOf 124 = .ok (.iinc 3 1, 3) := by decide +kernel
theorem dX4_reachOf_127 : decode cX4_reachOf 127 = .ok (.goto (-77), 3) := by decide +kernel
theorem dX4_reachOf_130 : decode cX4_reachOf 130 = .ok (.goto (-88), 3) := by decide +kernel
theorem dX4_reachOf_133 : decode cX4_reachOf 133 = .ok (.iconst 0, 1) := by decide +kernel
theorem dX4_reachOf_134 : decode cX4_reachOf 134 = .ok (.istore_n 3, 1) := by decide +kernel
theorem dX4_reachOf_135 : decode cX4_reachOf 135 = .ok (.iconst 0, 1) := by decide +kernel
theorem dX4_reachOf_136 : decode cX4_reachOf 136 = .ok (.istore 4, 2) := by decide +kernel
theorem dX4_reachOf_138 : decode cX4_reachOf 138 = .ok (.iload 4, 2) := by decide +kernel
theorem dX4_reachOf_140 : decode cX4_reachOf 140 = .ok (.aload_n 0, 1) := by decide +kernel
theorem dX4_reachOf_141 : decode cX4_reachOf 141 = .ok (.getfield 72, 3) := by decide +kernel
theorem dX4_reachOf_144 : decode cX4_reachOf 144 = .ok (.if_icmp .ge 27, 3) := by decide +kernel
theorem dX4_reachOf_147 : decode cX4_reachOf 147 = .ok (.iload_n 3, 1) := by decide +kernel
theorem dX4_reachOf_148 : decode cX4_reachOf 148 = .ok (.aload_n 0, 1) := by decide +kernel
theorem dX4_reachOf_149 : decode cX4_reachOf 149 = .ok (.getfield 25, 3) := by decide +kernel
theorem dX4_reachOf_152 : decode cX4_reachOf 152 = .ok (.iload 4, 2) := by decide +kernel
theorem dX4_reachOf_154 : decode cX4_reachOf 154 = .ok (.baload, 1) := by decide +kernel
theorem dX4_reachOf_155 : decode cX4_reachOf 155 = .ok (.ifCond .eq 7, 3) := by decide +kernel
theorem dX4_reachOf_158 : decode cX4_reachOf 158 = .ok (.iconst 1, 1) := by decide +kernel
theorem dX4_reachOf_159 : decode cX4_reachOf 159 = .ok (.goto 4, 3) := by decide +kernel
theorem dX4_reachOf_162 : decode cX4_reachOf 162 = .ok (.iconst 0, 1) := by decide +kernel
theorem dX4_reachOf_163 : decode cX4_reachOf 163 = .ok (.iadd, 1) := by decide +kernel
theorem dX4_reachOf_164 : decode cX4_reachOf 164 = .ok (.istore_n 3, 1) := by decide +kernel
theorem dX4_reachOf_165 : decode cX4_reachOf 165 = .ok (.iinc 4 1, 3) := by decide +kernel
theorem dX4_reachOf_168 : decode cX4_reachOf 168 = .ok (.goto (-30), 3) := by decide +kernel
theorem dX4_reachOf_171 : decode cX4_reachOf 171 = .ok (.iload_n 3, 1) := by decide +kernel
theorem dX4_reachOf_172 : decode cX4_reachOf 172 = .ok (.ireturn, 1) := by decide +kernel
theorem dX4_reach_0 : decode cX4_reach 0 = .ok (.aload_n 0, 1) := by decide +kernel
theorem dX4_reach_1 : decode cX4_reach 1 = .ok (.iload_n 1, 1) := by decide +kernel
theorem dX4_reach_2 : decode cX4_reach 2 = .ok (.invokevirtual 102, 3) := by decide +kernel
theorem dX4_reach_5 : decode cX4_reach 5 = .ok (.ifCond .eq 11, 3) := by decide +kernel
theorem dX4_reach_8 : decode cX4_reach 8 = .ok (.aload_n 0, 1) := by decide +kernel
theorem dX4_reach_9 : decode cX4_reach 9 = .ok (.iload_n 1, 1) := by decide +kernel
theorem dX4_reach_10 : decode cX4_reach 10 = .ok (.invokevirtual 160, 3) := by decide +kernel
theorem dX4_reach_13 : decode cX4_reach 13 = .ok (.goto 5, 3) := by decide +kernel
theorem dX4_reach_16 : decode cX4_reach 16 = .ok (.bipush (-2), 2) := by decide +kernel
theorem dX4_reach_18 : decode cX4_reach 18 = .ok (.ireturn, 1) := by decide +kernel
theorem dX4_flows_0 : decode cX4_flows 0 = .ok (.iconst 0, 1) := by decide +kernel
theorem dX4_flows_1 : decode cX4_flows 1 = .ok (.istore_n 2, 1) := by decide +kernel
theorem dX4_flows_2 : decode cX4_flows 2 = .ok (.iconst 0, 1) := by decide +kernel
theorem dX4_flows_3 : decode cX4_flows 3 = .ok (.istore_n 3, 1) := by decide +kernel
theorem dX4_flows_4 : decode cX4_flows 4 = .ok (.iload_n 3, 1) := by decide +kernel
theorem dX4_flows_5 : decode cX4_flows 5 = .ok (.aload_n 0, 1) := by decide +kernel
theorem dX4_flows_6 : decode cX4_flows 6 = .ok (.getfield 72, 3) := by decide +kernel
theorem dX4_flows_9 : decode cX4_flows 9 = .ok (.if_icmp .ge 56, 3) := by decide +kernel
theorem dX4_flows_12 : decode cX4_flows 12 = .ok (.aload_n 0, 1) := by decide +kernel
theorem dX4_flows_13 : decode cX4_flows 13 = .ok (.getfield 29, 3) := by decide +kernel
theorem dX4_flows_16 : decode cX4_flows 16 = .ok (.iload_n 3, 1) := by decide +kernel
theorem dX4_flows_17 : decode cX4_flows 17 = .ok (.aload_n 0, 1) := by decide +kernel
theorem dX4_flows_18 : decode cX4_flows 18 = .ok (.getfield 13, 3) := by decide +kernel
theorem dX4_flows_21 : decode cX4_flows 21 = .ok (.iload_n 3, 1) := by decide +kernel
theorem dX4_flows_22 : decode cX4_flows 22 = .ok (.iaload, 1) := by decide +kernel
theorem dX4_flows_23 : decode cX4_flows 23 = .ok (.iconst 3, 1) := by decide +kernel
theorem dX4_flows_24 : decode cX4_flows 24 = .ok (.if_icmp .ne 15, 3) := by decide +kernel
theorem dX4_flows_27 : decode cX4_flows 27 = .ok (.iload_n 1, 1) := by decide +kernel
theorem dX4_flows_28 : decode cX4_flows 28 = .ok (.iload_n 2, 1) := by decide +kernel
theorem dX4_flows_29 : decode cX4_flows 29 = .ok (.invokestatic 163, 3) := by decide +kernel
theorem dX4_flows_32 : decode cX4_flows 32 = .ok (.ifCond .eq 7, 3) := by decide +kernel
theorem dX4_flows_35 : decode cX4_flows 35 = .ok (.iconst 1, 1) := by decide +kernel
theorem dX4_flows_36 : decode cX4_flows 36 = .ok (.goto 4, 3) := by decide +kernel
theorem dX4_flows_39 : decode cX4_flows 39 = .ok (.iconst 0, 1) := by decide +kernel
theorem dX4_flows_40 : decode cX4_flows 40 = .ok (.bastore, 1) := by decide +kernel
theorem dX4_flows_41 : decode cX4_flows 41 = .ok (.iload_n 2, 1) := by decide +kernel
theorem dX4_flows_42 : decode cX4_flows 42 = .ok (.aload_n 0, 1) := by decide +kernel
theorem dX4_flows_43 : decode cX4_flows 43 = .ok (.getfield 13, 3) := by decide +kernel
theorem dX4_flows_46 : decode cX4_flows 46 = .ok (.iload_n 3, 1) := by decide +kernel
theorem dX4_flows_47 : decode cX4_flows 47 = .ok (.iaload, 1) := by decide +kernel
theorem dX4_flows_48 : decode cX4_flows 48 = .ok (.iconst 3, 1) := by decide +kernel
theorem dX4_flows_49 : decode cX4_flows 49 = .ok (.if_icmp .ne 7, 3) := by decide +kernel
theorem dX4_flows_52 : decode cX4_flows 52 = .ok (.iconst 1, 1) := by decide +kernel
theorem dX4_flows_53 : decode cX4_flows 53 = .ok (.goto 4, 3) := by decide +kernel
theorem dX4_flows_56 : decode cX4_flows 56 = .ok (.iconst 0, 1) := by decide +kernel
theorem dX4_flows_57 : decode cX4_flows 57 = .ok (.iadd, 1) := by decide +kernel
theorem dX4_flows_58 : decode cX4_flows 58 = .ok (.istore_n 2, 1) := by decide +kernel
theorem dX4_flows_59 : decode cX4_flows 59 = .ok (.iinc 3 1, 3) := by decide +kernel
theorem dX4_flows_62 : decode cX4_flows 62 = .ok (.goto (-58), 3) := by decide +kernel
theorem dX4_flows_65 : decode cX4_flows 65 = .ok (.iconst 1, 1) := by decide +kernel
theorem dX4_flows_66 : decode cX4_flows 66 = .ok (.istore_n 3, 1) := by decide +kernel
theorem dX4_flows_67 : decode cX4_flows 67 = .ok (.iload_n 3, 1) := by decide +kernel
theorem dX4_flows_68 : decode cX4_flows 68 = .ok (.ifCond .eq 145, 3) := by decide +kernel
theorem dX4_flows_71 : decode cX4_flows 71 = .ok (.iconst 0, 1) := by decide +kernel
theorem dX4_flows_72 : decode cX4_flows 72 = .ok (.istore_n 3, 1) := by decide +kernel
theorem dX4_flows_73 : decode cX4_flows 73 = .ok (.iconst 0, 1) := by decide +kernel
theorem dX4_flows_74 : decode cX4_flows 74 = .ok (.istore 4, 2) := by decide +kernel
theorem dX4_flows_76 : decode cX4_flows 76 = .ok (.iload 4, 2) := by decide +kernel
theorem dX4_flows_78 : decode cX4_flows 78 = .ok (.aload_n 0, 1) := by decide +kernel
theorem dX4_flows_79 : decode cX4_flows 79 = .ok (.getfield 72, 3) := by decide +kernel
theorem dX4_flows_82 : decode cX4_flows 82 = .ok (.if_icmp .ge 128, 3) := by decide +kernel
theorem dX4_flows_85 : decode cX4_flows 85 = .ok (.iconst 0, 1) := by decide +kernel
theorem dX4_flows_86 : decode cX4_flows 86 = .ok (.istore 5, 2) := by decide +kernel
theorem dX4_flows_88 : decode cX4_flows 88 = .ok (.iload 5, 2) := by decide +kernel
theorem dX4_flows_90 : decode cX4_flows 90 = .ok (.iconst 4, 1) := by decide +kernel
theorem dX4_flows_91 : decode cX4_flows 91 = .ok (.if_icmp .ge 113, 3) := by decide +kernel
theorem dX4_flows_94 : decode cX4_flows 94 = .ok (.aload_n 0, 1) := by decide +kernel
theorem dX4_flows_95 : decode cX4_flows 95 = .ok (.getfield 29, 3) := by decide +kernel
theorem dX4_flows_98 : decode cX4_flows 98 = .ok (.iload 4, 2) := by decide +kernel
theorem dX4_flows_100 : decode cX4_flows 100 = .ok (.baload, 1) := by decide +kernel
theorem dX4_flows_101 : decode cX4_flows 101 = .ok (.ifCond .eq 103, 3) := by decide +kernel
theorem dX4_flows_104 : decode cX4_flows 104 = .ok (.aload_n 0, 1) := by decide +kernel
theorem dX4_flows_105 : decode cX4_flows 105 = .ok (.iload 4, 2) := by decide +kernel
theorem dX4_flows_107 : decode cX4_flows 107 = .ok (.iload 5, 2) := by decide +kernel
theorem dX4_flows_109 : decode cX4_flows 109 = .ok (.invokevirtual 139, 3) := by decide +kernel
theorem dX4_flows_112 : decode cX4_flows 112 = .ok (.istore 6, 2) := by decide +kernel
theorem dX4_flows_114 : decode cX4_flows 114 = .ok (.aload_n 0, 1) := by decide +kernel
theorem dX4_flows_115 : decode cX4_flows 115 = .ok (.aload_n 0, 1) := by decide +kernel
theorem dX4_flows_116 : decode cX4_flows 116 = .ok (.iload 4, 2) := by decide +kernel
theorem dX4_flows_118 : decode cX4_flows 118 = .ok (.invokevirtual 96, 3) := by decide +kernel
theorem dX4_flows_121 : decode cX4_flows 121 = .ok (.invokevirtual 99, 3) := by decide +kernel
theorem dX4_flows_124 : decode cX4_flows 124 = .ok (.istore 7, 2) := by decide +kernel
theorem dX4_flows_126 : decode cX4_flows 126 = .ok (.aload_n 0, 1) := by decide +kernel
theorem dX4_flows_127 : decode cX4_flows 127 = .ok (.iload 6, 2) := by decide +kernel
theorem dX4_flows_129 : decode cX4_flows 129 = .ok (.invokevirtual 99, 3) := by decide +kernel
theorem dX4_flows_132 : decode cX4_flows 132 = .ok (.ifCond .eq 38, 3) := by decide +kernel
theorem dX4_flows_135 : decode cX4_flows 135 = .ok (.iload 7, 2) := by decide +kernel
theorem dX4_flows_137 : decode cX4_flows 137 = .ok (.ifCond .eq 23, 3) := by decide +kernel
theorem dX4_flows_140 : decode cX4_flows 140 = .ok (.iload 5, 2) := by decide +kernel
theorem dX4_flows_142 : decode cX4_flows 142 = .ok (.iconst 1, 1) := by decide +kernel
theorem dX4_flows_143 : decode cX4_flows 143 = .ok (.if_icmp .le 27, 3) := by decide +kernel
theorem dX4_flows_146 : decode cX4_flows 146 = .ok (.iload 6, 2) := by decide +kernel
theorem dX4_flows_148 : decode cX4_flows 148 = .ok (.aload_n 0, 1) := by decide +kernel
theorem dX4_flows_149 : decode cX4_flows 149 = .ok (.iload 4, 2) := by decide +kernel
theorem dX4_flows_151 : decode cX4_flows 151 = .ok (.invokevirtual 96, 3) := by decide +kernel
theorem dX4_flows_154 : decode cX4_flows 154 = .ok (.if_icmp .ne 16, 3) := by decide +kernel
theorem dX4_flows_157 : decode cX4_flows 157 = .ok (.goto 9, 3) := by decide +kernel
theorem dX4_flows_160 : decode cX4_flows 160 = .ok (.iload 5, 2) := by decide +kernel
theorem dX4_flows_162 : decode cX4_flows 162 = .ok (.iconst 2, 1) := by decide +kernel
theorem dX4_flows_163 : decode cX4_flows 163 = .ok (.if_icmp .ge 7, 3) := by decide +kernel
theorem dX4_flows_166 : decode cX4_flows 166 = .ok (.iconst 1, 1) := by decide +kernel
theorem dX4_flows_167 : decode cX4_flows 167 = .ok (.goto 4, 3) := by decide +kernel
theorem dX4_flows_170 : decode cX4_flows 170 = .ok (.iconst 0, 1) := by decide +kernel
theorem dX4_flows_171 : decode cX4_flows 171 = .ok (.istore 8, 2) := by decide +kernel
theorem dX4_flows_173 : decode cX4_flows 173 = .ok (.iload 8, 2) := by decide +kernel
theorem dX4_flows_175 : decode cX4_flows 175 = .ok (.ifCond .eq 23, 3) := by decide +kernel
theorem dX4_flows_178 : decode cX4_flows 178 = .ok (.aload_n 0, 1) := by decide +kernel
theorem dX4_flows_179 : decode cX4_flows 179 = .ok (.getfield 29, 3) := by decide +kernel
theorem dX4_flows_182 : decode cX4_flows 182 = .ok (.iload 6, 2) := by decide +kernel
theorem dX4_flows_184 : decode cX4_flows 184 = .ok (.baload, 1) := by decide +kernel
theorem dX4_flows_185 : decode cX4_flows 185 = .ok (.ifCond .ne 13, 3) := by decide +kernel
theorem dX4_flows_188 : decode cX4_flows 188 = .ok (.aload_n 0, 1) := by decide +kernel
theorem dX4_flows_189 : decode cX4_flows 189 = .ok (.getfield 29, 3) := by decide +kernel
theorem dX4_flows_192 : decode cX4_flows 192 = .ok (.iload 6, 2) := by decide +kernel
theorem dX4_flows_194 : decode cX4_flows 194 = .ok (.iconst 1, 1) := by decide +kernel
theorem dX4_flows_195 : decode cX4_flows 195 = .ok (.bastore, 1) := by decide +kernel
theorem dX4_flows_196 : decode cX4_flows 196 = .ok (.iconst 1, 1) := by decide +kernel
theorem dX4_flows_197 : decode cX4_flows 197 = .ok (.istore_n 3, 1) := by decide +kernel
theorem dX4_flows_198 : decode cX4_flows 198 = .ok (.iinc 5 1, 3) := by decide +kernel
theorem dX4_flows_201 : decode cX4_flows 201 = .ok (.goto (-113), 3) := by decide +kernel
theorem dX4_flows_204 : decode cX4_flows 204 = .ok (.iinc 4 1, 3) := by decide +kernel
theorem dX4_flows_207 : decode cX4_flows 207 = .ok (.goto (-131), 3) := by decide +kernel
theorem dX4_flows_210 : decode cX4_flows 210 = .ok (.goto (-143), 3) := by decide +kernel
theorem dX4_flows_213 : decode cX4_flows 213 = .ok (.return_, 1) := by decide +kernel
theorem dX4_wetOf_0 : decode cX4_wetOf 0 = .ok (.aload_n 0, 1) := by decide +kernel
theorem dX4_wetOf_1 : decode cX4_wetOf 1 = .ok (.iconst (-1), 1) := by decide +kernel
theorem dX4_wetOf_2 : decode cX4_wetOf 2 = .ok (.invokevirtual 167, 3) := by decide +kernel
theorem dX4_wetOf_5 : decode cX4_wetOf 5 = .ok (.aload_n 0, 1) := by decide +kernel
theorem dX4_wetOf_6 : decode cX4_wetOf 6 = .ok (.getfield 29, 3) := by decide +kernel
theorem dX4_wetOf_9 : decode cX4_wetOf 9 = .ok (.iload_n 1, 1) := by decide +kernel
theorem dX4_wetOf_10 : decode cX4_wetOf 10 = .ok (.baload, 1) := by decide +kernel
theorem dX4_wetOf_11 : decode cX4_wetOf 11 = .ok (.ifCond .eq 7, 3) := by decide +kernel
theorem dX4_wetOf_14 : decode cX4_wetOf 14 = .ok (.iconst 1, 1) := by decide +kernel
theorem dX4_wetOf_15 : decode cX4_wetOf 15 = .ok (.goto 4, 3) := by decide +kernel
theorem dX4_wetOf_18 : decode cX4_wetOf 18 = .ok (.iconst 0, 1) := by decide +kernel
theorem dX4_wetOf_19 : decode cX4_wetOf 19 = .ok (.ireturn, 1) := by decide +kernel
theorem dX4_wet_0 : decode cX4_wet 0 = .ok (.aload_n 0, 1) := by decide +kernel
theorem dX4_wet_1 : decode cX4_wet 1 = .ok (.iload_n 1, 1) := by decide +kernel
theorem dX4_wet_2 : decode cX4_wet 2 = .ok (.invokevirtual 102, 3) := by decide +kernel
theorem dX4_wet_5 : decode cX4_wet 5 = .ok (.ifCond .eq 11, 3) := by decide +kernel
theorem dX4_wet_8 : decode cX4_wet 8 = .ok (.aload_n 0, 1) := by decide +kernel
theorem dX4_wet_9 : decode cX4_wet 9 = .ok (.iload_n 1, 1) := by decide +kernel
theorem dX4_wet_10 : decode cX4_wet 10 = .ok (.invokevirtual 170, 3) := by decide +kernel
theorem dX4_wet_13 : decode cX4_wet 13 = .ok (.goto 5, 3) := by decide +kernel
theorem dX4_wet_16 : decode cX4_wet 16 = .ok (.bipush (-2), 2) := by decide +kernel
theorem dX4_wet_18 : decode cX4_wet 18 = .ok (.ireturn, 1) := by decide +kernel
theorem dX4_plugs_0 : decode cX4_plugs 0 = .ok (.iload_n 2, 1) := by decide +kernel
theorem dX4_plugs_1 : decode cX4_plugs 1 = .ok (.iconst (-1), 1) := by decide +kernel
theorem dX4_plugs_2 : decode cX4_plugs 2 = .ok (.if_icmp .ne 7, 3) := by decide +kernel
theorem dX4_plugs_5 : decode cX4_plugs 5 = .ok (.iconst 0, 1) := by decide +kernel
theorem dX4_plugs_6 : decode cX4_plugs 6 = .ok (.goto 9, 3) := by decide +kernel
theorem dX4_plugs_9 : decode cX4_plugs 9 = .ok (.aload_n 0, 1) := by decide +kernel
theorem dX4_plugs_10 : decode cX4_plugs 10 = .ok (.getfield 13, 3) := by decide +kernel
theorem dX4_plugs_13 : decode cX4_plugs 13 = .ok (.iload_n 2, 1) := by decide +kernel
theorem dX4_plugs_14 : decode cX4_plugs 14 = .ok (.iaload, 1) := by decide +kernel
theorem dX4_plugs_15 : decode cX4_plugs 15 = .ok (.istore 4, 2) := by decide +kernel
theorem dX4_plugs_17 : decode cX4_plugs 17 = .ok (.iload_n 3, 1) := by decide +kernel
theorem dX4_plugs_18 : decode cX4_plugs 18 = .ok (.iconst (-1), 1) := by decide +kernel
theorem dX4_plugs_19 : decode cX4_plugs 19 = .ok (.if_icmp .ne 7, 3) := by decide +kernel
theorem dX4_plugs_22 : decode cX4_plugs 22 = .ok (.iconst 0, 1) := by decide +kernel
theorem dX4_plugs_23 : decode cX4_plugs 23 = .ok (.goto 9, 3) := by decide +kernel
theorem dX4_plugs_26 : decode cX4_plugs 26 = .ok (.aload_n 0, 1) := by decide +kernel
theorem dX4_plugs_27 : decode cX4_plugs 27 = .ok (.getfield 13, 3) := by decide +kernel
theorem dX4_plugs_30 : decode cX4_plugs 30 = .ok (.iload_n 3, 1) := by decide +kernel
theorem dX4_plugs_31 : decode cX4_plugs 31 = .ok (.iaload, 1) := by decide +kernel
theorem dX4_plugs_32 : decode cX4_plugs 32 = .ok (.istore 5, 2) := by decide +kernel
theorem dX4_plugs_34 : decode cX4_plugs 34 = .ok (.aload_n 0, 1) := by decide +kernel
theorem dX4_plugs_35 : decode cX4_plugs 35 = .ok (.getfield 13, 3) := by decide +kernel
theorem dX4_plugs_38 : decode cX4_plugs 38 = .ok (.iload_n 2, 1) := by decide +kernel
theorem dX4_plugs_39 : decode cX4_plugs 39 = .ok (.iconst (-1), 1) := by decide +kernel
theorem dX4_plugs_40 : decode cX4_plugs 40 = .ok (.if_icmp .ne 8, 3) := by decide +kernel
theorem dX4_plugs_43 : decode cX4_plugs 43 = .ok (.bipush 35, 2) := by decide +kernel
theorem dX4_plugs_45 : decode cX4_plugs 45 = .ok (.goto 4, 3) := by decide +kernel
theorem dX4_plugs_48 : decode cX4_plugs 48 = .ok (.iload_n 2, 1) := by decide +kernel
theorem dX4_plugs_49 : decode cX4_plugs 49 = .ok (.iconst 0, 1) := by decide +kernel
theorem dX4_plugs_50 : decode cX4_plugs 50 = .ok (.iastore, 1) := by decide +kernel
theorem dX4_plugs_51 : decode cX4_plugs 51 = .ok (.aload_n 0, 1) := by decide +kernel
theorem dX4_plugs_52 : decode cX4_plugs 52 = .ok (.getfield 13, 3) := by decide +kernel
theorem dX4_plugs_55 : decode cX4_plugs 55 = .ok (.iload_n 3, 1) := by decide +kernel
theorem dX4_plugs_56 : decode cX4_plugs 56 = .ok (.iconst (-1), 1) := by decide +kernel
theorem dX4_plugs_57 : decode cX4_plugs 57 = .ok (.if_icmp .ne 8, 3) := by decide +kernel
theorem dX4_plugs_60 : decode cX4_plugs 60 = .ok (.bipush 35, 2) := by decide +kernel
theorem dX4_plugs_62 : decode cX4_plugs 62 = .ok (.goto 4, 3) := by decide +kernel
theorem dX4_plugs_65 : decode cX4_plugs 65 = .ok (.iload_n 3, 1) := by decide +kernel
theorem dX4_plugs_66 : decode cX4_plugs 66 = .ok (.iconst 0, 1) := by decide +kernel
theorem dX4_plugs_67 : decode cX4_plugs 67 = .ok (.iastore, 1) := by decide +kernel
theorem dX4_plugs_68 : decode cX4_plugs 68 = .ok (.aload_n 0, 1) := by decide +kernel
theorem dX4_plugs_69 : decode cX4_plugs 69 = .ok (.iconst (-1), 1) := by decide +kernel
theorem dX4_plugs_70 : decode cX4_plugs 70 = .ok (.invokevirtual 167, 3) := by decide +kernel
theorem dX4_plugs_73 : decode cX4_plugs 73 = .ok (.aload_n 0, 1) := by decide +kernel
theorem dX4_plugs_74 : decode cX4_plugs 74 = .ok (.getfield 13, 3) := by decide +kernel
theorem dX4_plugs_77 : decode cX4_plugs 77 = .ok (.iload_n 2, 1) := by decide +kernel
theorem dX4_plugs_78 : decode cX4_plugs 78 = .ok (.iconst (-1), 1) := by decide +kernel
theorem dX4_plugs_79 : decode cX4_plugs 79 = .ok (.if_icmp .ne 8, 3) := by decide +kernel
theorem dX4_plugs_82 : decode cX4_plugs 82 = .ok (.bipush 35, 2) := by decide +kernel
theorem dX4_plugs_84 : decode cX4_plugs 84 = .ok (.goto 4, 3) := by decide +kernel
theorem dX4_plugs_87 : decode cX4_plugs 87 = .ok (.iload_n 2, 1) := by decide +kernel
theorem dX4_plugs_88 : decode cX4_plugs 88 = .ok (.iload 4, 2) := by decide +kernel
theorem dX4_plugs_90 : decode cX4_plugs 90 = .ok (.iastore, 1) := by decide +kernel
theorem dX4_plugs_91 : decode cX4_plugs 91 = .ok (.aload_n 0, 1) := by decide +kernel
theorem dX4_plugs_92 : decode cX4_plugs 92 = .ok (.getfield 13, 3) := by decide +kernel
theorem dX4_plugs_95 : decode cX4_plugs 95 = .ok (.iload_n 3, 1) := by decide +kernel
theorem dX4_plugs_96 : decode cX4_plugs 96 = .ok (.iconst (-1), 1) := by decide +kernel
theorem dX4_plugs_97 : decode cX4_plugs 97 = .ok (.if_icmp .ne 8, 3) := by decide +kernel
theorem dX4_plugs_100 : decode cX4_plugs 100 = .ok (.bipush 35, 2) := by decide +kernel
theorem dX4_plugs_102 : decode cX4_plugs 102 = .ok (.goto 4, 3) := by decide +kernel
theorem dX4_plugs_105 : decode cX4_plugs 105 = .ok (.iload_n 3, 1) := by decide +kernel
theorem dX4_plugs_106 : decode cX4_plugs 106 = .ok (.iload 5, 2) := by decide +kernel
theorem dX4_plugs_108 : decode cX4_plugs 108 = .ok (.iastore, 1) := by decide +kernel
theorem dX4_plugs_109 : decode cX4_plugs 109 = .ok (.aload_n 0, 1) := by decide +kernel
theorem dX4_plugs_110 : decode cX4_plugs 110 = .ok (.getfield 32, 3) := by decide +kernel
theorem dX4_plugs_113 : decode cX4_plugs 113 = .ok (.iconst 0, 1) := by decide +kernel
theorem dX4_plugs_114 : decode cX4_plugs 114 = .ok (.iload_n 2, 1) := by decide +kernel
theorem dX4_plugs_115 : decode cX4_plugs 115 = .ok (.iastore, 1) := by decide +kernel
theorem dX4_plugs_116 : decode cX4_plugs 116 = .ok (.aload_n 0, 1) := by decide +kernel
theorem dX4_plugs_117 : decode cX4_plugs 117 = .ok (.getfield 32, 3) := by decide +kernel
theorem dX4_plugs_120 : decode cX4_plugs 120 = .ok (.iconst 1, 1) := by decide +kernel
theorem dX4_plugs_121 : decode cX4_plugs 121 = .ok (.iload_n 3, 1) := by decide +kernel
theorem dX4_plugs_122 : decode cX4_plugs 122 = .ok (.iastore, 1) := by decide +kernel
theorem dX4_plugs_123 : decode cX4_plugs 123 = .ok (.aload_n 0, 1) := by decide +kernel
theorem dX4_plugs_124 : decode cX4_plugs 124 = .ok (.getfield 29, 3) := by decide +kernel
theorem dX4_plugs_127 : decode cX4_plugs 127 = .ok (.iload_n 1, 1) := by decide +kernel
theorem dX4_plugs_128 : decode cX4_plugs 128 = .ok (.baload, 1) := by decide +kernel
theorem dX4_plugs_129 : decode cX4_plugs 129 = .ok (.ifCond .ne 7, 3) := by decide +kernel
theorem dX4_plugs_132 : decode cX4_plugs 132 = .ok (.iconst 1, 1) := by decide +kernel
theorem dX4_plugs_133 : decode cX4_plugs 133 = .ok (.goto 4, 3) := by decide +kernel
theorem dX4_plugs_136 : decode cX4_plugs 136 = .ok (.iconst 0, 1) := by decide +kernel
theorem dX4_plugs_137 : decode cX4_plugs 137 = .ok (.ireturn, 1) := by decide +kernel
theorem dX4_mayPlug_0 : decode cX4_mayPlug 0 = .ok (.iload_n 1, 1) := by decide +kernel
theorem dX4_mayPlug_1 : decode cX4_mayPlug 1 = .ok (.iload_n 2, 1) := by decide +kernel
theorem dX4_mayPlug_2 : decode cX4_mayPlug 2 = .ok (.if_icmp .eq 21, 3) := by decide +kernel
theorem dX4_mayPlug_5 : decode cX4_mayPlug 5 = .ok (.aload_n 0, 1) := by decide +kernel
theorem dX4_mayPlug_6 : decode cX4_mayPlug 6 = .ok (.getfield 13, 3) := by decide +kernel
theorem dX4_mayPlug_9 : decode cX4_mayPlug 9 = .ok (.iload_n 1, 1) := by decide +kernel
theorem dX4_mayPlug_10 : decode cX4_mayPlug 10 = .ok (.iaload, 1) := by decide +kernel
theorem dX4_mayPlug_11 : decode cX4_mayPlug 11 = .ok (.iconst 1, 1) := by decide +kernel
theorem dX4_mayPlug_12 : decode cX4_mayPlug 12 = .ok (.iconst 2, 1) := by decide +kernel
theorem dX4_mayPlug_13 : decode cX4_mayPlug 13 = .ok (.invokestatic 65, 3) := by decide +kernel
theorem dX4_mayPlug_16 : decode cX4_mayPlug 16 = .ok (.ifCond .eq 7, 3) := by decide +kernel
theorem dX4_mayPlug_19 : decode cX4_mayPlug 19 = .ok (.iconst 1, 1) := by decide +kernel
theorem dX4_mayPlug_20 : decode cX4_mayPlug 20 = .ok (.goto 4, 3) := by decide +kernel
theorem dX4_mayPlug_23 : decode cX4_mayPlug 23 = .ok (.iconst 0, 1) := by decide +kernel
theorem dX4_mayPlug_24 : decode cX4_mayPlug 24 = .ok (.ireturn, 1) := by decide +kernel
theorem dX4_plugBy_0 : decode cX4_plugBy 0 = .ok (.aload_n 0, 1) := by decide +kernel
theorem dX4_plugBy_1 : decode cX4_plugBy 1 = .ok (.iload_n 1, 1) := by decide +kernel
theorem dX4_plugBy_2 : decode cX4_plugBy 2 = .ok (.iconst (-1), 1) := by decide +kernel
theorem dX4_plugBy_3 : decode cX4_plugBy 3 = .ok (.iconst (-1), 1) := by decide +kernel
theorem dX4_plugBy_4 : decode cX4_plugBy 4 = .ok (.invokevirtual 173, 3) := by decide +kernel
theorem dX4_plugBy_7 : decode cX4_plugBy 7 = .ok (.ifCond .eq 5, 3) := by decide +kernel
theorem dX4_plugBy_10 : decode cX4_plugBy 10 = .ok (.iconst 0, 1) := by decide +kernel
theorem dX4_plugBy_11 : decode cX4_plugBy 11 = .ok (.ireturn, 1) := by decide +kernel
theorem dX4_plugBy_12 : decode cX4_plugBy 12 = .ok (.iconst 0, 1) := by decide +kernel
theorem dX4_plugBy_13 : decode cX4_plugBy 13 = .ok (.istore_n 2, 1) := by decide +kernel
theorem dX4_plugBy_14 : decode cX4_plugBy 14 = .ok (.iload_n 2, 1) := by decide +kernel
theorem dX4_plugBy_15 : decode cX4_plugBy 15 = .ok (.aload_n 0, 1) := by decide +kernel
theorem dX4_plugBy_16 : decode cX4_plugBy 16 = .ok (.getfield 72, 3) := by decide +kernel
theorem dX4_plugBy_19 : decode cX4_plugBy 19 = .ok (.if_icmp .ge 30, 3) := by decide +kernel
theorem dX4_plugBy_22 : decode cX4_plugBy 22 = .ok (.aload_n 0, 1) := by decide +kernel
theorem dX4_plugBy_23 : decode cX4_plugBy 23 = .ok (.iload_n 2, 1) := by decide +kernel
theorem dX4_plugBy_24 : decode cX4_plugBy 24 = .ok (.iload_n 1, 1) := by decide +kernel
theorem dX4_plugBy_25 : decode cX4_plugBy 25 = .ok (.invokevirtual 176, 3) := by decide +kernel
theorem dX4_plugBy_28 : decode cX4_plugBy 28 = .ok (.ifCond .eq 15, 3) := by decide +kernel
theorem dX4_plugBy_31 : decode cX4_plugBy 31 = .ok (.aload_n 0, 1) := by decide +kernel
theorem dX4_plugBy_32 : decode cX4_plugBy 32 = .ok (.iload_n 1, 1) := by decide +kernel
theorem dX4_plugBy_33 : decode cX4_plugBy 33 = .ok (.iload_n 2, 1) := by decide +kernel
theorem dX4_plugBy_34 : decode cX4_plugBy 34 = .ok (.iconst (-1), 1) := by decide +kernel
theorem dX4_plugBy_35 : decode cX4_plugBy 35 = .ok (.invokevirtual 173, 3) := by decide +kernel
theorem dX4_plugBy_38 : decode cX4_plugBy 38 = .ok (.ifCond .eq 5, 3) := by decide +kernel
theorem dX4_plugBy_41 : decode cX4_plugBy 41 = .ok (.iconst 1, 1) := by decide +kernel
theorem dX4_plugBy_42 : decode cX4_plugBy 42 = .ok (.ireturn, 1) := by decide +kernel
theorem dX4_plugBy_43 : decode cX4_plugBy 43 = .ok (.iinc 2 1, 3) := by decide +kernel
theorem dX4_plugBy_46 : decode cX4_plugBy 46 = .ok (.goto (-32), 3) := by decide +kernel
theorem dX4_plugBy_49 : decode cX4_plugBy 49 = .ok (.iconst 0, 1) := by decide +kernel
theorem dX4_plugBy_50 : decode cX4_plugBy 50 = .ok (.istore_n 2, 1) := by decide +kernel
theorem dX4_plugBy_51 : decode cX4_plugBy 51 = .ok (.iload_n 2, 1) := by decide +kernel
theorem dX4_plugBy_52 : decode cX4_plugBy 52 = .ok (.aload_n 0, 1) := by decide +kernel
theorem dX4_plugBy_53 : decode cX4_plugBy 53 = .ok (.getfield 72, 3) := by decide +kernel
theorem dX4_plugBy_56 : decode cX4_plugBy 56 = .ok (.if_icmp .ge 57, 3) := by decide +kernel
theorem dX4_plugBy_59 : decode cX4_plugBy 59 = .ok (.iload_n 2, 1) := by decide +kernel
theorem dX4_plugBy_60 : decode cX4_plugBy 60 = .ok (.iconst 1, 1) := by decide +kernel
theorem dX4_plugBy_61 : decode cX4_plugBy 61 = .ok (.iadd, 1) := by decide +kernel
theorem dX4_plugBy_62 : decode cX4_plugBy 62 = .ok (.istore_n 3, 1) := by decide +kernel
theorem dX4_plugBy_63 : decode cX4_plugBy 63 = .ok (.iload_n 3, 1) := by decide +kernel
theorem dX4_plugBy_64 : decode cX4_plugBy 64 = .ok (.aload_n 0, 1) := by decide +kernel
theorem dX4_plugBy_65 : decode cX4_plugBy 65 = .ok (.getfield 72, 3) := by decide +kernel
theorem dX4_plugBy_68 : decode cX4_plugBy 68 = .ok (.if_icmp .ge 39, 3) := by decide +kernel
theorem dX4_plugBy_71 : decode cX4_plugBy 71 = .ok (.aload_n 0, 1) := by decide +kernel
theorem dX4_plugBy_72 : decode cX4_plugBy 72 = .ok (.iload_n 2, 1) := by decide +kernel
theorem dX4_plugBy_73 : decode cX4_plugBy 73 = .ok (.iload_n 1, 1) := by decide +kernel
theorem dX4_plugBy_74 : decode cX4_plugBy 74 = .ok (.invokevirtual 176, 3) := by decide +kernel
theorem dX4_plugBy_77 : decode cX4_plugBy 77 = .ok (.ifCond .eq 24, 3) := by decide +kernel
theorem dX4_plugBy_80 : decode cX4_plugBy 80 = .ok (.aload_n 0, 1) := by decide +kernel
theorem dX4_plugBy_81 : decode cX4_plugBy 81 = .ok (.iload_n 3, 1) := by decide +kernel
theorem dX4_plugBy_82 : decode cX4_plugBy 82 = .ok (.iload_n 1, 1) := by decide +kernel
theorem dX4_plugBy_83 : decode cX4_plugBy 83 = .ok (.invokevirtual 176, 3) := by decide +kernel
theorem dX4_plugBy_86 : decode cX4_plugBy 86 = .ok (.ifCond .eq 15, 3) := by decide +kernel
theorem dX4_plugBy_89 : decode cX4_plugBy 89 = .ok (.aload_n 0, 1) := by decide +kernel
theorem dX4_plugBy_90 : decode cX4_plugBy 90 = .ok (.iload_n 1, 1) := by decide +kernel
theorem dX4_plugBy_91 : decode cX4_plugBy 91 = .ok (.iload_n 2, 1) := by decide +kernel
theorem dX4_plugBy_92 : decode cX4_plugBy 92 = .ok (.iload_n 3, 1) := by decide +kernel
theorem dX4_plugBy_93 : decode cX4_plugBy 93 = .ok (.invokevirtual 173, 3) := by decide +kernel
theorem dX4_plugBy_96 : decode cX4_plugBy 96 = .ok (.ifCond .eq 5, 3) := by decide +kernel
theorem dX4_plugBy_99 : decode cX4_plugBy 99 = .ok (.iconst 2, 1) := by decide +kernel
theorem dX4_plugBy_100 : decode cX4_plugBy 100 = .ok (.ireturn, 1) := by decide +kernel
theorem dX4_plugBy_101 : decode cX4_plugBy 101 = .ok (.iinc 3 1, 3) := by decide +kernel
theorem dX4_plugBy_104 : decode cX4_plugBy 104 = .ok (.goto (-41), 3) := by decide +kernel
theorem dX4_plugBy_107 : decode cX4_plugBy 107 = .ok (.iinc 2 1, 3) := by decide +kernel
theorem dX4_plugBy_110 : decode cX4_plugBy 110 = .ok (.goto (-59), 3) := by decide +kernel
theorem dX4_plugBy_113 : decode cX4_plugBy 113 = .ok (.iconst (-1), 1) := by decide +kernel
theorem dX4_plugBy_114 : decode cX4_plugBy 114 = .ok (.ireturn, 1) := by decide +kernel
theorem dX4_plugOf_0 : decode cX4_plugOf 0 = .ok (.aload_n 0, 1) := by decide +kernel
theorem dX4_plugOf_1 : decode cX4_plugOf 1 = .ok (.iload_n 1, 1) := by decide +kernel
theorem dX4_plugOf_2 : decode cX4_plugOf 2 = .ok (.invokevirtual 179, 3) := by decide +kernel
theorem dX4_plugOf_5 : decode cX4_plugOf 5 = .ok (.istore_n 3, 1) := by decide +kernel
theorem dX4_plugOf_6 : decode cX4_plugOf 6 = .ok (.iload_n 2, 1) := by decide +kernel
theorem dX4_plugOf_7 : decode cX4_plugOf 7 = .ok (.iconst (-1), 1) := by decide +kernel
theorem dX4_plugOf_8 : decode cX4_plugOf 8 = .ok (.if_icmp .ne 7, 3) := by decide +kernel
theorem dX4_plugOf_11 : decode cX4_plugOf 11 = .ok (.iload_n 3, 1) := by decide +kernel
theorem dX4_plugOf_12 : decode cX4_plugOf 12 = .ok (.goto 18, 3) := by decide +kernel
theorem dX4_plugOf_15 : decode cX4_plugOf 15 = .ok (.iload_n 2, 1) := by decide +kernel
theorem dX4_plugOf_16 : decode cX4_plugOf 16 = .ok (.iload_n 3, 1) := by decide +kernel
theorem dX4_plugOf_17 : decode cX4_plugOf 17 = .ok (.if_icmp .ge 12, 3) := by decide +kernel
theorem dX4_plugOf_20 : decode cX4_plugOf 20 = .ok (.aload_n 0, 1) := by decide +kernel
theorem dX4_plugOf_21 : decode cX4_plugOf 21 = .ok (.getfield 32, 3) := by decide +kernel
theorem dX4_plugOf_24 : decode cX4_plugOf 24 = .ok (.iload_n 2, 1) := by decide +kernel
theorem dX4_plugOf_25 : decode cX4_plugOf 25 = .ok (.iaload, 1) := by decide +kernel
theorem dX4_plugOf_26 : decode cX4_plugOf 26 = .ok (.goto 4, 3) := by decide +kernel
theorem dX4_plugOf_29 : decode cX4_plugOf 29 = .ok (.iconst (-1), 1) := by decide +kernel
theorem dX4_plugOf_30 : decode cX4_plugOf 30 = .ok (.ireturn, 1) := by decide +kernel
theorem dX4_plug_0 : decode cX4_plug 0 = .ok (.aload_n 0, 1) := by decide +kernel
theorem dX4_plug_1 : decode cX4_plug 1 = .ok (.iload_n 1, 1) := by decide +kernel
theorem dX4_plug_2 : decode cX4_plug 2 = .ok (.invokevirtual 102, 3) := by decide +kernel
theorem dX4_plug_5 : decode cX4_plug 5 = .ok (.ifCond .eq 21, 3) := by decide +kernel
theorem dX4_plug_8 : decode cX4_plug 8 = .ok (.iload_n 2, 1) := by decide +kernel
theorem dX4_plug_9 : decode cX4_plug 9 = .ok (.iconst (-1), 1) := by decide +kernel
theorem dX4_plug_10 : decode cX4_plug 10 = .ok (.iconst 1, 1) := by decide +kernel
theorem dX4_plug_11 : decode cX4_plug 11 = .ok (.invokestatic 65, 3) := by decide +kernel
theorem dX4_plug_14 : decode cX4_plug 14 = .ok (.ifCond .eq 12, 3) := by decide +kernel
theorem dX4_plug_17 : decode cX4_plug 17 = .ok (.aload_n 0, 1) := by decide +kernel
theorem dX4_plug_18 : decode cX4_plug 18 = .ok (.iload_n 1, 1) := by decide +kernel
theorem dX4_plug_19 : decode cX4_plug 19 = .ok (.iload_n 2, 1) := by decide +kernel
theorem dX4_plug_20 : decode cX4_plug 20 = .ok (.invokevirtual 182, 3) := by decide +kernel
theorem dX4_plug_23 : decode cX4_plug 23 = .ok (.goto 5, 3) := by decide +kernel
theorem dX4_plug_26 : decode cX4_plug 26 = .ok (.bipush (-2), 2) := by decide +kernel
theorem dX4_plug_28 : decode cX4_plug 28 = .ok (.ireturn, 1) := by decide +kernel
theorem dX4_plumb_0 : decode cX4_plumb 0 = .ok (.iload_n 1, 1) := by decide +kernel
theorem dX4_plumb_1 : decode cX4_plumb 1 = .ok (.iconst 0, 1) := by decide +kernel
theorem dX4_plumb_2 : decode cX4_plumb 2 = .ok (.iconst 4, 1) := by decide +kernel
theorem dX4_plumb_3 : decode cX4_plumb 3 = .ok (.invokestatic 65, 3) := by decide +kernel
theorem dX4_plumb_6 : decode cX4_plumb 6 = .ok (.ifCond .eq 12, 3) := by decide +kernel
theorem dX4_plumb_9 : decode cX4_plumb 9 = .ok (.iload_n 2, 1) := by decide +kernel
theorem dX4_plumb_10 : decode cX4_plumb 10 = .ok (.iconst 0, 1) := by decide +kernel
theorem dX4_plumb_11 : decode cX4_plumb 11 = .ok (.iconst 1, 1) := by decide +kernel
theorem dX4_plumb_12 : decode cX4_plumb 12 = .ok (.invokestatic 65, 3) := by decide +kernel
theorem dX4_plumb_15 : decode cX4_plumb 15 = .ok (.ifCond .ne 6, 3) := by decide +kernel
theorem dX4_plumb_18 : decode cX4_plumb 18 = .ok (.bipush (-2), 2) := by decide +kernel
theorem dX4_plumb_20 : decode cX4_plumb 20 = .ok (.ireturn, 1) := by decide +kernel
theorem dX4_plumb_21 : decode cX4_plumb 21 = .ok (.aload_n 0, 1) := by decide +kernel
theorem dX4_plumb_22 : decode cX4_plumb 22 = .ok (.getfield 185, 3) := by decide +kernel
theorem dX4_plumb_25 : decode cX4_plumb 25 = .ok (.bipush 8, 2) := by decide +kernel
theorem dX4_plumb_27 : decode cX4_plumb 27 = .ok (.if_icmp .ne 6, 3) := by decide +kernel
theorem dX4_plumb_30 : decode cX4_plumb 30 = .ok (.bipush (-4), 2) := by decide +kernel
theorem dX4_plumb_32 : decode cX4_plumb 32 = .ok (.ireturn, 1) := by decide +kernel
theorem dX4_plumb_33 : decode cX4_plumb 33 = .ok (.aload_n 0, 1) := by decide +kernel
theorem dX4_plumb_34 : decode cX4_plumb 34 = .ok (.getfield 35, 3) := by decide +kernel
theorem dX4_plumb_37 : decode cX4_plumb 37 = .ok (.aload_n 0, 1) := by decide +kernel
theorem dX4_plumb_38 : decode cX4_plumb 38 = .ok (.getfield 185, 3) := by decide +kernel
theorem dX4_plumb_41 : decode cX4_plumb 41 = .ok (.iload_n 1, 1) := by decide +kernel
theorem dX4_plumb_42 : decode cX4_plumb 42 = .ok (.iastore, 1) := by decide +kernel
theorem dX4_plumb_43 : decode cX4_plumb 43 = .ok (.aload_n 0, 1) := by decide +kernel
theorem dX4_plumb_44 : decode cX4_plumb 44 = .ok (.getfield 38, 3) := by decide +kernel
theorem dX4_plumb_47 : decode cX4_plumb 47 = .ok (.aload_n 0, 1) := by decide +kernel
theorem dX4_plumb_48 : decode cX4_plumb 48 = .ok (.getfield 185, 3) := by decide +kernel
theorem dX4_plumb_51 : decode cX4_plumb 51 = .ok (.iload_n 2, 1) := by decide +kernel
theorem dX4_plumb_52 : decode cX4_plumb 52 = .ok (.iastore, 1) := by decide +kernel
theorem dX4_plumb_53 : decode cX4_plumb 53 = .ok (.aload_n 0, 1) := by decide +kernel
theorem dX4_plumb_54 : decode cX4_plumb 54 = .ok (.dup, 1) := by decide +kernel
theorem dX4_plumb_55 : decode cX4_plumb 55 = .ok (.getfield 185, 3) := by decide +kernel
theorem dX4_plumb_58 : decode cX4_plumb 58 = .ok (.iconst 1, 1) := by decide +kernel
theorem dX4_plumb_59 : decode cX4_plumb 59 = .ok (.iadd, 1) := by decide +kernel
theorem dX4_plumb_60 : decode cX4_plumb 60 = .ok (.putfield 185, 3) := by decide +kernel
theorem dX4_plumb_63 : decode cX4_plumb 63 = .ok (.aload_n 0, 1) := by decide +kernel
theorem dX4_plumb_64 : decode cX4_plumb 64 = .ok (.getfield 185, 3) := by decide +kernel
theorem dX4_plumb_67 : decode cX4_plumb 67 = .ok (.ireturn, 1) := by decide +kernel
theorem dX4_forget_0 : decode cX4_forget 0 = .ok (.aload_n 0, 1) := by decide +kernel
theorem dX4_forget_1 : decode cX4_forget 1 = .ok (.getfield 185, 3) := by decide +kernel
theorem dX4_forget_4 : decode cX4_forget 4 = .ok (.istore_n 1, 1) := by decide +kernel
theorem dX4_forget_5 : decode cX4_forget 5 = .ok (.aload_n 0, 1) := by decide +kernel
theorem dX4_forget_6 : decode cX4_forget 6 = .ok (.iconst 0, 1) := by decide +kernel
theorem dX4_forget_7 : decode cX4_forget 7 = .ok (.putfield 185, 3) := by decide +kernel
theorem dX4_forget_10 : decode cX4_forget 10 = .ok (.iload_n 1, 1) := by decide +kernel
theorem dX4_forget_11 : decode cX4_forget 11 = .ok (.ireturn, 1) := by decide +kernel
theorem dX4_whereNow_0 : decode cX4_whereNow 0 = .ok (.iconst 0, 1) := by decide +kernel
theorem dX4_whereNow_1 : decode cX4_whereNow 1 = .ok (.istore_n 1, 1) := by decide +kernel
theorem dX4_whereNow_2 : decode cX4_whereNow 2 = .ok (.iconst 0, 1) := by decide +kernel
theorem dX4_whereNow_3 : decode cX4_whereNow 3 = .ok (.istore_n 2, 1) := by decide +kernel
theorem dX4_whereNow_4 : decode cX4_whereNow 4 = .ok (.iload_n 2, 1) := by decide +kernel
theorem dX4_whereNow_5 : decode cX4_whereNow 5 = .ok (.bipush 6, 2) := by decide +kernel
theorem dX4_whereNow_7 : decode cX4_whereNow 7 = .ok (.if_icmp .ge 88, 3) := by decide +kernel
theorem dX4_whereNow_10 : decode cX4_whereNow 10 = .ok (.iconst 1, 1) := by decide +kernel
theorem dX4_whereNow_11 : decode cX4_whereNow 11 = .ok (.istore_n 3, 1) := by decide +kernel
theorem dX4_whereNow_12 : decode cX4_whereNow 12 = .ok (.iconst 0, 1) := by decide +kernel
theorem dX4_whereNow_13 : decode cX4_whereNow 13 = .ok (.istore 4, 2) := by decide +kernel
theorem dX4_whereNow_15 : decode cX4_whereNow 15 = .ok (.iload 4, 2) := by decide +kernel
theorem dX4_whereNow_17 : decode cX4_whereNow 17 = .ok (.aload_n 0, 1) := by decide +kernel
theorem dX4_whereNow_18 : decode cX4_whereNow 18 = .ok (.getfield 185, 3) := by decide +kernel
theorem dX4_whereNow_21 : decode cX4_whereNow 21 = .ok (.if_icmp .ge 54, 3) := by decide +kernel
theorem dX4_whereNow_24 : decode cX4_whereNow 24 = .ok (.iload_n 3, 1) := by decide +kernel
theorem dX4_whereNow_25 : decode cX4_whereNow 25 = .ok (.ifCond .eq 42, 3) := by decide +kernel
theorem dX4_whereNow_28 : decode cX4_whereNow 28 = .ok (.aload_n 0, 1) := by decide +kernel
theorem dX4_whereNow_29 : decode cX4_whereNow 29 = .ok (.getfield 35, 3) := by decide +kernel
theorem dX4_whereNow_32 : decode cX4_whereNow 32 = .ok (.iload 4, 2) := by decide +kernel
theorem dX4_whereNow_34 : decode cX4_whereNow 34 = .ok (.iaload, 1) := by decide +kernel
theorem dX4_whereNow_35 : decode cX4_whereNow 35 = .ok (.iload_n 2, 1) := by decide +kernel
theorem dX4_whereNow_36 : decode cX4_whereNow 36 = .ok (.if_icmp .ge 7, 3) := by decide +kernel
theorem dX4_whereNow_39 : decode cX4_whereNow 39 = .ok (.iconst 1, 1) := by decide +kernel
theorem dX4_whereNow_40 : decode cX4_whereNow 40 = .ok (.goto 4, 3) := by decide +kernel
theorem dX4_whereNow_43 : decode cX4_whereNow 43 = .ok (.iconst 0, 1) := by decide +kernel
theorem dX4_whereNow_44 : decode cX4_whereNow 44 = .ok (.aload_n 0, 1) := by decide +kernel
theorem dX4_whereNow_45 : decode cX4_whereNow 45 = .ok (.getfield 38, 3) := by decide +kernel
theorem dX4_whereNow_48 : decode cX4_whereNow 48 = .ok (.iload 4, 2) := by decide +kernel
theorem dX4_whereNow_50 : decode cX4_whereNow 50 = .ok (.iaload, 1) := by decide +kernel
theorem dX4_whereNow_51 : decode cX4_whereNow 51 = .ok (.iconst 1, 1) := by decide +kernel
theorem dX4_whereNow_52 : decode cX4_whereNow 52 = .ok (.if_icmp .ne 7, 3) := by decide +kernel
theorem dX4_whereNow_55 : decode cX4_whereNow 55 = .ok (.iconst 1, 1) := by decide +kernel
theorem dX4_whereNow_56 : decode cX4_whereNow 56 = .ok (.goto 4, 3) := by decide +kernel
theorem dX4_whereNow_59 : decode cX4_whereNow 59 = .ok (.iconst 0, 1) := by decide +kernel
theorem dX4_whereNow_60 : decode cX4_whereNow 60 = .ok (.if_icmp .ne 7, 3) := by decide +kernel
theorem dX4_whereNow_63 : decode cX4_whereNow 63 = .ok (.iconst 1, 1) := by decide +kernel
theorem dX4_whereNow_64 : decode cX4_whereNow 64 = .ok (.goto 4, 3) := by decide +kernel
theorem dX4_whereNow_67 : decode cX4_whereNow 67 = .ok (.iconst 0, 1) := by decide +kernel
theorem dX4_whereNow_68 : decode cX4_whereNow 68 = .ok (.istore_n 3, 1) := by decide +kernel
theorem dX4_whereNow_69 : decode cX4_whereNow 69 = .ok (.iinc 4 1, 3) := by decide +kernel
theorem dX4_whereNow_72 : decode cX4_whereNow 72 = .ok (.goto (-57), 3) := by decide +kernel
theorem dX4_whereNow_75 : decode cX4_whereNow 75 = .ok (.iload_n 1, 1) := by decide +kernel
theorem dX4_whereNow_76 : decode cX4_whereNow 76 = .ok (.iload_n 3, 1) := by decide +kernel
theorem dX4_whereNow_77 : decode cX4_whereNow 77 = .ok (.ifCond .eq 9, 3) := by decide +kernel
theorem dX4_whereNow_80 : decode cX4_whereNow 80 = .ok (.iconst 1, 1) := by decide +kernel
theorem dX4_whereNow_81 : decode cX4_whereNow 81 = .ok (.iload_n 2, 1) := by decide +kernel
theorem dX4_whereNow_82 : decode cX4_whereNow 82 = .ok (.ishl, 1) := by decide +kernel
theorem dX4_whereNow_83 : decode cX4_whereNow 83 = .ok (.goto 4, 3) := by decide +kernel
theorem dX4_whereNow_86 : decode cX4_whereNow 86 = .ok (.iconst 0, 1) := by decide +kernel
theorem dX4_whereNow_87 : decode cX4_whereNow 87 = .ok (.ior, 1) := by decide +kernel
theorem dX4_whereNow_88 : decode cX4_whereNow 88 = .ok (.istore_n 1, 1) := by decide +kernel
theorem dX4_whereNow_89 : decode cX4_whereNow 89 = .ok (.iinc 2 1, 3) := by decide +kernel
theorem dX4_whereNow_92 : decode cX4_whereNow 92 = .ok (.goto (-88), 3) := by decide +kernel
theorem dX4_whereNow_95 : decode cX4_whereNow 95 = .ok (.iload_n 1, 1) := by decide +kernel
theorem dX4_whereNow_96 : decode cX4_whereNow 96 = .ok (.ireturn, 1) := by decide +kernel
theorem dX4_where_0 : decode cX4_where 0 = .ok (.aload_n 0, 1) := by decide +kernel
theorem dX4_where_1 : decode cX4_where 1 = .ok (.invokevirtual 188, 3) := by decide +kernel
theorem dX4_where_4 : decode cX4_where 4 = .ok (.ireturn, 1) := by decide +kernel
theorem dX4_hangNow_0 : decode cX4_hangNow 0 = .ok (.aload_n 0, 1) := by decide +kernel
theorem dX4_hangNow_1 : decode cX4_hangNow 1 = .ok (.invokevirtual 89, 3) := by decide +kernel
theorem dX4_hangNow_4 : decode cX4_hangNow 4 = .ok (.aload_n 0, 1) := by decide +kernel
theorem dX4_hangNow_5 : decode cX4_hangNow 5 = .ok (.invokevirtual 188, 3) := by decide +kernel
theorem dX4_hangNow_8 : decode cX4_hangNow 8 = .ok (.istore_n 1, 1) := by decide +kernel
theorem dX4_hangNow_9 : decode cX4_hangNow 9 = .ok (.iconst (-1), 1) := by decide +kernel
theorem dX4_hangNow_10 : decode cX4_hangNow 10 = .ok (.istore_n 2, 1) := by decide +kernel
theorem dX4_hangNow_11 : decode cX4_hangNow 11 = .ok (.iconst 0, 1) := by decide +kernel
theorem dX4_hangNow_12 : decode cX4_hangNow 12 = .ok (.istore_n 3, 1) := by decide +kernel
theorem dX4_hangNow_13 : decode cX4_hangNow 13 = .ok (.iconst 0, 1) := by decide +kernel
theorem dX4_hangNow_14 : decode cX4_hangNow 14 = .ok (.istore 4, 2) := by decide +kernel
theorem dX4_hangNow_16 : decode cX4_hangNow 16 = .ok (.iload 4, 2) := by decide +kernel
theorem dX4_hangNow_18 : decode cX4_hangNow 18 = .ok (.aload_n 0, 1) := by decide +kernel
theorem dX4_hangNow_19 : decode cX4_hangNow 19 = .ok (.getfield 75, 3) := by decide +kernel
theorem dX4_hangNow_22 : decode cX4_hangNow 22 = .ok (.if_icmp .ge 140, 3) := by decide +kernel
theorem dX4_hangNow_25 : decode cX4_hangNow 25 = .ok (.iconst 0, 1) := by decide +kernel
theorem dX4_hangNow_26 : decode cX4_hangNow 26 = .ok (.istore 5, 2) := by decide +kernel
theorem dX4_hangNow_28 : decode cX4_hangNow 28 = .ok (.iconst 0, 1) := by decide +kernel
theorem dX4_hangNow_29 : decode cX4_hangNow 29 = .ok (.istore 6, 2) := by decide +kernel
theorem dX4_hangNow_31 : decode cX4_hangNow 31 = .ok (.iconst 0, 1) := by decide +kernel
theorem dX4_hangNow_32 : decode cX4_hangNow 32 = .ok (.istore 7, 2) := by decide +kernel
theorem dX4_hangNow_34 : decode cX4_hangNow 34 = .ok (.iload 7, 2) := by decide +kernel
theorem dX4_hangNow_36 : decode cX4_hangNow 36 = .ok (.bipush 6, 2) := by decide +kernel
theorem dX4_hangNow_38 : decode cX4_hangNow 38 = .ok (.if_icmp .ge 54, 3) := by decide +kernel
theorem dX4_hangNow_41 : decode cX4_hangNow 41 = .ok (.iload 6, 2) := by decide +kernel
theorem dX4_hangNow_43 : decode cX4_hangNow 43 = .ok (.iload_n 1, 1) := by decide +kernel
theorem dX4_hangNow_44 : decode cX4_hangNow 44 = .ok (.iload 7, 2) := by decide +kernel
theorem dX4_hangNow_46 : decode cX4_hangNow 46 = .ok (.invokestatic 163, 3) := by decide +kernel
theorem dX4_hangNow_49 : decode cX4_hangNow 49 = .ok (.ifCond .eq 7, 3) := by decide +kernel
theorem dX4_hangNow_52 : decode cX4_hangNow 52 = .ok (.iconst 1, 1) := by decide +kernel
theorem dX4_hangNow_53 : decode cX4_hangNow 53 = .ok (.goto 4, 3) := by decide +kernel
theorem dX4_hangNow_56 : decode cX4_hangNow 56 = .ok (.iconst 0, 1) := by decide +kernel
theorem dX4_hangNow_57 : decode cX4_hangNow 57 = .ok (.iadd, 1) := by decide +kernel
theorem dX4_hangNow_58 : decode cX4_hangNow 58 = .ok (.istore 6, 2) := by decide +kernel
theorem dX4_hangNow_60 : decode cX4_hangNow 60 = .ok (.iload 5, 2) := by decide +kernel
theorem dX4_hangNow_62 : decode cX4_hangNow 62 = .ok (.iload_n 1, 1) := by decide +kernel
theorem dX4_hangNow_63 : decode cX4_hangNow 63 = .ok (.iload 7, 2) := by decide +kernel
theorem dX4_hangNow_65 : decode cX4_hangNow 65 = .ok (.invokestatic 163, 3) := by decide +kernel
theorem dX4_hangNow_68 : decode cX4_hangNow 68 = .ok (.ifCond .eq 14, 3) := by decide +kernel
theorem dX4_hangNow_71 : decode cX4_hangNow 71 = .ok (.iload 4, 2) := by decide +kernel
theorem dX4_hangNow_73 : decode cX4_hangNow 73 = .ok (.iload 7, 2) := by decide +kernel
theorem dX4_hangNow_75 : decode cX4_hangNow 75 = .ok (.if_icmp .ge 7, 3) := by decide +kernel
theorem dX4_hangNow_78 : decode cX4_hangNow 78 = .ok (.iconst 1, 1) := by decide +kernel
theorem dX4_hangNow_79 : decode cX4_hangNow 79 = .ok (.goto 4, 3) := by decide +kernel
theorem dX4_hangNow_82 : decode cX4_hangNow 82 = .ok (.iconst 0, 1) := by decide +kernel
theorem dX4_hangNow_83 : decode cX4_hangNow 83 = .ok (.iadd, 1) := by decide +kernel
theorem dX4_hangNow_84 : decode cX4_hangNow 84 = .ok (.istore 5, 2) := by decide +kernel
theorem dX4_hangNow_86 : decode cX4_hangNow 86 = .ok (.iinc 7 1, 3) := by decide +kernel
theorem dX4_hangNow_89 : decode cX4_hangNow 89 = .ok (.goto (-55), 3) := by decide +kernel
theorem dX4_hangNow_92 : decode cX4_hangNow 92 = .ok (.iload 5, 2) := by decide +kernel
theorem dX4_hangNow_94 : decode cX4_hangNow 94 = .ok (.iload 6, 2) := by decide +kernel
theorem dX4_hangNow_96 : decode cX4_hangNow 96 = .ok (.iload 5, 2) := by decide +kernel
theorem dX4_hangNow_98 : decode cX4_hangNow 98 = .ok (.isub, 1) := by decide +kernel
theorem dX4_hangNow_99 : decode cX4_hangNow 99 = .ok (.if_icmp .le 8, 3) := by decide +kernel
theorem dX4_hangNow_102 : decode cX4_hangNow 102 = .ok (.iload 5, 2) := by decide +kernel
theorem dX4_hangNow_104 : decode cX4_hangNow 104 = .ok (.goto 8, 3) := by decide +kernel
theorem dX4_hangNow_107 : decode cX4_hangNow 107 = .ok (.iload 6, 2) := by decide +kernel
theorem dX4_hangNow_109 : decode cX4_hangNow 109 = .ok (.iload 5, 2) := by decide +kernel
theorem dX4_hangNow_111 : decode cX4_hangNow 111 = .ok (.isub, 1) := by decide +kernel
theorem dX4_hangNow_112 : decode cX4_hangNow 112 = .ok (.istore 7, 2) := by decide +kernel
theorem dX4_hangNow_114 : decode cX4_hangNow 114 = .ok (.iload_n 2, 1) := by decide +kernel
theorem dX4_hangNow_115 : decode cX4_hangNow 115 = .ok (.iconst (-1), 1) := by decide +kernel
theorem dX4_hangNow_116 : decode cX4_hangNow 116 = .ok (.if_icmp .eq 9, 3) := by decide +kernel
theorem dX4_hangNow_119 : decode cX4_hangNow 119 = .ok (.iload 7, 2) := by decide +kernel
theorem dX4_hangNow_121 : decode cX4_hangNow 121 = .ok (.iload_n 3, 1) := by decide +kernel
theorem dX4_hangNow_122 : decode cX4_hangNow 122 = .ok (.if_icmp .ge 7, 3) := by decide +kernel
theorem dX4_hangNow_125 : decode cX4_hangNow 125 = .ok (.iconst 1, 1) := by decide +kernel
theorem dX4_hangNow_126 : decode cX4_hangNow 126 = .ok (.goto 4, 3) := by decide +kernel
theorem dX4_hangNow_129 : decode cX4_hangNow 129 = .ok (.iconst 0, 1) := by decide +kernel
theorem dX4_hangNow_130 : decode cX4_hangNow 130 = .ok (.istore 8, 2) := by decide +kernel
theorem dX4_hangNow_132 : decode cX4_hangNow 132 = .ok (.iload 8, 2) := by decide +kernel
theorem dX4_hangNow_134 : decode cX4_hangNow 134 = .ok (.ifCond .eq 8, 3) := by decide +kernel
theorem dX4_hangNow_137 : decode cX4_hangNow 137 = .ok (.iload 4, 2) := by decide +kernel
theorem dX4_hangNow_139 : decode cX4_hangNow 139 = .ok (.goto 4, 3) := by decide +kernel
theorem dX4_hangNow_142 : decode cX4_hangNow 142 = .ok (.iload_n 2, 1) := by decide +kernel
theorem dX4_hangNow_143 : decode cX4_hangNow 143 = .ok (.istore_n 2, 1) := by decide +kernel
theorem dX4_hangNow_144 : decode cX4_hangNow 144 = .ok (.iload 8, 2) := by decide +kernel
theorem dX4_hangNow_146 : decode cX4_hangNow 146 = .ok (.ifCond .eq 8, 3) := by decide +kernel
theorem dX4_hangNow_149 : decode cX4_hangNow 149 = .ok (.iload 7, 2) := by decide +kernel
theorem dX4_hangNow_151 : decode cX4_hangNow 151 = .ok (.goto 4, 3) := by decide +kernel
theorem dX4_hangNow_154 : decode cX4_hangNow 154 = .ok (.iload_n 3, 1) := by decide +kernel
theorem dX4_hangNow_155 : decode cX4_hangNow 155 = .ok (.istore_n 3, 1) := by decide +kernel
theorem dX4_hangNow_156 : decode cX4_hangNow 156 = .ok (.iinc 4 1, 3) := by decide +kernel
theorem dX4_hangNow_159 : decode cX4_hangNow 159 = .ok (.goto (-143), 3) := by decide +kernel
theorem dX4_hangNow_162 : decode cX4_hangNow 162 = .ok (.iload_n 2, 1) := by decide +kernel
theorem dX4_hangNow_163 : decode cX4_hangNow 163 = .ok (.ireturn, 1) := by decide +kernel
theorem dX4_hang_0 : decode cX4_hang 0 = .ok (.aload_n 0, 1) := by decide +kernel
theorem dX4_hang_1 : decode cX4_hang 1 = .ok (.invokevirtual 191, 3) := by decide +kernel
theorem dX4_hang_4 : decode cX4_hang 4 = .ok (.ireturn, 1) := by decide +kernel
theorem dX4_fromOf_0 : decode cX4_fromOf 0 = .ok (.iconst 0, 1) := by decide +kernel
theorem dX4_fromOf_1 : decode cX4_fromOf 1 = .ok (.istore 4, 2) := by decide +kernel
theorem dX4_fromOf_3 : decode cX4_fromOf 3 = .ok (.iconst (-1), 1) := by decide +kernel
theorem dX4_fromOf_4 : decode cX4_fromOf 4 = .ok (.istore 5, 2) := by decide +kernel
theorem dX4_fromOf_6 : decode cX4_fromOf 6 = .ok (.iconst 0, 1) := by decide +kernel
theorem dX4_fromOf_7 : decode cX4_fromOf 7 = .ok (.istore 6, 2) := by decide +kernel
theorem dX4_fromOf_9 : decode cX4_fromOf 9 = .ok (.iload 6, 2) := by decide +kernel
theorem dX4_fromOf_11 : decode cX4_fromOf 11 = .ok (.aload_n 0, 1) := by decide +kernel
theorem dX4_fromOf_12 : decode cX4_fromOf 12 = .ok (.getfield 72, 3) := by decide +kernel
theorem dX4_fromOf_15 : decode cX4_fromOf 15 = .ok (.if_icmp .ge 71, 3) := by decide +kernel
theorem dX4_fromOf_18 : decode cX4_fromOf 18 = .ok (.aload_n 0, 1) := by decide +kernel
theorem dX4_fromOf_19 : decode cX4_fromOf 19 = .ok (.iload 6, 2) := by decide +kernel
theorem dX4_fromOf_21 : decode cX4_fromOf 21 = .ok (.invokevirtual 99, 3) := by decide +kernel
theorem dX4_fromOf_24 : decode cX4_fromOf 24 = .ok (.ifCond .eq 18, 3) := by decide +kernel
theorem dX4_fromOf_27 : decode cX4_fromOf 27 = .ok (.aload_n 0, 1) := by decide +kernel
theorem dX4_fromOf_28 : decode cX4_fromOf 28 = .ok (.iload 6, 2) := by decide +kernel
theorem dX4_fromOf_30 : decode cX4_fromOf 30 = .ok (.iload_n 2, 1) := by decide +kernel
theorem dX4_fromOf_31 : decode cX4_fromOf 31 = .ok (.invokevirtual 121, 3) := by decide +kernel
theorem dX4_fromOf_34 : decode cX4_fromOf 34 = .ok (.iload_n 1, 1) := by decide +kernel
theorem dX4_fromOf_35 : decode cX4_fromOf 35 = .ok (.if_icmp .ne 7, 3) := by decide +kernel
theorem dX4_fromOf_38 : decode cX4_fromOf 38 = .ok (.iconst 1, 1) := by decide +kernel
theorem dX4_fromOf_39 : decode cX4_fromOf 39 = .ok (.goto 4, 3) := by decide +kernel
theorem dX4_fromOf_42 : decode cX4_fromOf 42 = .ok (.iconst 0, 1) := by decide +kernel
theorem dX4_fromOf_43 : decode cX4_fromOf 43 = .ok (.istore 7, 2) := by decide +kernel
theorem dX4_fromOf_45 : decode cX4_fromOf 45 = .ok (.iload 7, 2) := by decide +kernel
theorem dX4_fromOf_47 : decode cX4_fromOf 47 = .ok (.ifCond .eq 14, 3) := by decide +kernel
theorem dX4_fromOf_50 : decode cX4_fromOf 50 = .ok (.iload 4, 2) := by decide +kernel
theorem dX4_fromOf_52 : decode cX4_fromOf 52 = .ok (.iload_n 3, 1) := by decide +kernel
theorem dX4_fromOf_53 : decode cX4_fromOf 53 = .ok (.if_icmp .ne 8, 3) := by decide +kernel
theorem dX4_fromOf_56 : decode cX4_fromOf 56 = .ok (.iload 6, 2) := by decide +kernel
theorem dX4_fromOf_58 : decode cX4_fromOf 58 = .ok (.goto 5, 3) := by decide +kernel
theorem dX4_fromOf_61 : decode cX4_fromOf 61 = .ok (.iload 5, 2) := by decide +kernel
theorem dX4_fromOf_63 : decode cX4_fromOf 63 = .ok (.istore 5, 2) := by decide +kernel
theorem dX4_fromOf_65 : decode cX4_fromOf 65 = .ok (.iload 4, 2) := by decide +kernel
theorem dX4_fromOf_67 : decode cX4_fromOf 67 = .ok (.iload 7, 2) := by decide +kernel
theorem dX4_fromOf_69 : decode cX4_fromOf 69 = .ok (.ifCond .eq 7, 3) := by decide +kernel
theorem dX4_fromOf_72 : decode cX4_fromOf 72 = .ok (.iconst 1, 1) := by decide +kernel
theorem dX4_fromOf_73 : decode cX4_fromOf 73 = .ok (.goto 4, 3) := by decide +kernel
theorem dX4_fromOf_76 : decode cX4_fromOf 76 = .ok (.iconst 0, 1) := by decide +kernel
theorem dX4_fromOf_77 : decode cX4_fromOf 77 = .ok (.iadd, 1) := by decide +kernel
theorem dX4_fromOf_78 : decode cX4_fromOf 78 = .ok (.istore 4, 2) := by decide +kernel
theorem dX4_fromOf_80 : decode cX4_fromOf 80 = .ok (.iinc 6 1, 3) := by decide +kernel
theorem dX4_fromOf_83 : decode cX4_fromOf 83 = .ok (.goto (-74), 3) := by decide +kernel
theorem dX4_fromOf_86 : decode cX4_fromOf 86 = .ok (.iload_n 3, 1) := by decide +kernel
theorem dX4_fromOf_87 : decode cX4_fromOf 87 = .ok (.iconst (-1), 1) := by decide +kernel
theorem dX4_fromOf_88 : decode cX4_fromOf 88 = .ok (.if_icmp .ne 8, 3) := by decide +kernel
theorem dX4_fromOf_91 : decode cX4_fromOf 91 = .ok (.iload 4, 2) := by decide +kernel
theorem dX4_fromOf_93 : decode cX4_fromOf 93 = .ok (.goto 5, 3) := by decide +kernel
theorem dX4_fromOf_96 : decode cX4_fromOf 96 = .ok (.iload 5, 2) := by decide +kernel
theorem dX4_fromOf_98 : decode cX4_fromOf 98 = .ok (.ireturn, 1) := by decide +kernel
theorem dX4_from_0 : decode cX4_from 0 = .ok (.aload_n 0, 1) := by decide +kernel
theorem dX4_from_1 : decode cX4_from 1 = .ok (.iload_n 1, 1) := by decide +kernel
theorem dX4_from_2 : decode cX4_from 2 = .ok (.invokevirtual 102, 3) := by decide +kernel
theorem dX4_from_5 : decode cX4_from 5 = .ok (.ifCond .eq 33, 3) := by decide +kernel
theorem dX4_from_8 : decode cX4_from 8 = .ok (.iload_n 2, 1) := by decide +kernel
theorem dX4_from_9 : decode cX4_from 9 = .ok (.iconst 0, 1) := by decide +kernel
theorem dX4_from_10 : decode cX4_from 10 = .ok (.bipush 9, 2) := by decide +kernel
theorem dX4_from_12 : decode cX4_from 12 = .ok (.invokestatic 65, 3) := by decide +kernel
theorem dX4_from_15 : decode cX4_from 15 = .ok (.ifCond .eq 23, 3) := by decide +kernel
theorem dX4_from_18 : decode cX4_from 18 = .ok (.iload_n 3, 1) := by decide +kernel
theorem dX4_from_19 : decode cX4_from 19 = .ok (.iconst (-1), 1) := by decide +kernel
theorem dX4_from_20 : decode cX4_from 20 = .ok (.bipush 34, 2) := by decide +kernel
theorem dX4_from_22 : decode cX4_from 22 = .ok (.invokestatic 65, 3) := by decide +kernel
theorem dX4_from_25 : decode cX4_from 25 = .ok (.ifCond .eq 13, 3) := by decide +kernel
theorem dX4_from_28 : decode cX4_from 28 = .ok (.aload_n 0, 1) := by decide +kernel
theorem dX4_from_29 : decode cX4_from 29 = .ok (.iload_n 1, 1) := by decide +kernel
theorem dX4_from_30 : decode cX4_from 30 = .ok (.iload_n 2, 1) := by decide +kernel
theorem dX4_from_31 : decode cX4_from 31 = .ok (.iload_n 3, 1) := by decide +kernel
theorem dX4_from_32 : decode cX4_from 32 = .ok (.invokevirtual 194, 3) := by decide +kernel
theorem dX4_from_35 : decode cX4_from 35 = .ok (.goto 5, 3) := by decide +kernel
theorem dX4_from_38 : decode cX4_from 38 = .ok (.bipush (-2), 2) := by decide +kernel
theorem dX4_from_40 : decode cX4_from 40 = .ok (.ireturn, 1) := by decide +kernel
theorem dX4_joinedNow_0 : decode cX4_joinedNow 0 = .ok (.aload_n 0, 1) := by decide +kernel
theorem dX4_joinedNow_1 : decode cX4_joinedNow 1 = .ok (.invokevirtual 89, 3) := by decide +kernel
theorem dX4_joinedNow_4 : decode cX4_joinedNow 4 = .ok (.iconst 0, 1) := by decide +kernel
theorem dX4_joinedNow_5 : decode cX4_joinedNow 5 = .ok (.istore_n 1, 1) := by decide +kernel
theorem dX4_joinedNow_6 : decode cX4_joinedNow 6 = .ok (.iconst 0, 1) := by decide +kernel
theorem dX4_joinedNow_7 : decode cX4_joinedNow 7 = .ok (.istore_n 2, 1) := by decide +kernel
theorem dX4_joinedNow_8 : decode cX4_joinedNow 8 = .ok (.iload_n 2, 1) := by decide +kernel
theorem dX4_joinedNow_9 : decode cX4_joinedNow 9 = .ok (.aload_n 0, 1) := by decide +kernel
theorem dX4_joinedNow_10 : decode cX4_joinedNow 10 = .ok (.getfield 72, 3) := by decide +kernel
theorem dX4_joinedNow_13 : decode cX4_joinedNow 13 = .ok (.if_icmp .ge 39, 3) := by decide +kernel
theorem dX4_joinedNow_16 : decode cX4_joinedNow 16 = .ok (.iload_n 1, 1) := by decide +kernel
theorem dX4_joinedNow_17 : decode cX4_joinedNow 17 = .ok (.aload_n 0, 1) := by decide +kernel
theorem dX4_joinedNow_18 : decode cX4_joinedNow 18 = .ok (.getfield 13, 3) := by decide +kernel
theorem dX4_joinedNow_21 : decode cX4_joinedNow 21 = .ok (.iload_n 2, 1) := by decide +kernel
theorem dX4_joinedNow_22 : decode cX4_joinedNow 22 = .ok (.iaload, 1) := by decide +kernel
theorem dX4_joinedNow_23 : decode cX4_joinedNow 23 = .ok (.aload_n 0, 1) := by decide +kernel
theorem dX4_joinedNow_24 : decode cX4_joinedNow 24 = .ok (.getfield 13, 3) := by decide +kernel
theorem dX4_joinedNow_27 : decode cX4_joinedNow 27 = .ok (.aload_n 0, 1) := by decide +kernel
theorem dX4_joinedNow_28 : decode cX4_joinedNow 28 = .ok (.getfield 72, 3) := by decide +kernel
theorem dX4_joinedNow_31 : decode cX4_joinedNow 31 = .ok (.iconst 1, 1) := by decide +kernel
theorem dX4_joinedNow_32 : decode cX4_joinedNow 32 = .ok (.isub, 1) := by decide +kernel
theorem dX4_joinedNow_33 : decode cX4_joinedNow 33 = .ok (.iload_n 2, 1) := by decide +kernel
theorem dX4_joinedNow_34 : decode cX4_joinedNow 34 = .ok (.isub, 1) := by decide +kernel
theorem dX4_joinedNow_35 : decode cX4_joinedNow 35 = .ok (.iaload, 1) := by decide +kernel
theorem dX4_joinedNow_36 : decode cX4_joinedNow 36 = .ok (.if_icmp .eq 7, 3) := by decide +kernel
theorem dX4_joinedNow_39 : decode cX4_joinedNow 39 = .ok (.iconst 1, 1) := by decide +kernel
theorem dX4_joinedNow_40 : decode cX4_joinedNow 40 = .ok (.goto 4, 3) := by decide +kernel
theorem dX4_joinedNow_43 : decode cX4_joinedNow 43 = .ok (.iconst 0, 1) := by decide +kernel
theorem dX4_joinedNow_44 : decode cX4_joinedNow 44 = .ok (.iadd, 1) := by decide +kernel
theorem dX4_joinedNow_45 : decode cX4_joinedNow 45 = .ok (.istore_n 1, 1) := by decide +kernel
theorem dX4_joinedNow_46 : decode cX4_joinedNow 46 = .ok (.iinc 2 1, 3) := by decide +kernel
theorem dX4_joinedNow_49 : decode cX4_joinedNow 49 = .ok (.goto (-41), 3) := by decide +kernel
theorem dX4_joinedNow_52 : decode cX4_joinedNow 52 = .ok (.iload_n 1, 1) := by decide +kernel
theorem dX4_joinedNow_53 : decode cX4_joinedNow 53 = .ok (.ireturn, 1) := by decide +kernel
theorem dX4_joined_0 : decode cX4_joined 0 = .ok (.aload_n 0, 1) := by decide +kernel
theorem dX4_joined_1 : decode cX4_joined 1 = .ok (.invokevirtual 197, 3) := by decide +kernel
theorem dX4_joined_4 : decode cX4_joined 4 = .ok (.ireturn, 1) := by decide +kernel
theorem dX4_likeOf_0 : decode cX4_likeOf 0 = .ok (.aload_n 0, 1) := by decide +kernel
theorem dX4_likeOf_1 : decode cX4_likeOf 1 = .ok (.invokevirtual 89, 3) := by decide +kernel
theorem dX4_likeOf_4 : decode cX4_likeOf 4 = .ok (.iconst 0, 1) := by decide +kernel
theorem dX4_likeOf_5 : decode cX4_likeOf 5 = .ok (.istore_n 2, 1) := by decide +kernel
theorem dX4_likeOf_6 : decode cX4_likeOf 6 = .ok (.iconst 0, 1) := by decide +kernel
theorem dX4_likeOf_7 : decode cX4_likeOf 7 = .ok (.istore_n 3, 1) := by decide +kernel
theorem dX4_likeOf_8 : decode cX4_likeOf 8 = .ok (.iload_n 3, 1) := by decide +kernel
theorem dX4_likeOf_9 : decode cX4_likeOf 9 = .ok (.aload_n 0, 1) := by decide +kernel
theorem dX4_likeOf_10 : decode cX4_likeOf 10 = .ok (.getfield 72, 3) := by decide +kernel
theorem dX4_likeOf_13 : decode cX4_likeOf 13 = .ok (.if_icmp .ge 49, 3) := by decide +kernel
theorem dX4_likeOf_16 : decode cX4_likeOf 16 = .ok (.iload_n 2, 1) := by decide +kernel
theorem dX4_likeOf_17 : decode cX4_likeOf 17 = .ok (.iload_n 3, 1) := by decide +kernel
theorem dX4_likeOf_18 : decode cX4_likeOf 18 = .ok (.aload_n 0, 1) := by decide +kernel
theorem dX4_likeOf_19 : decode cX4_likeOf 19 = .ok (.getfield 78, 3) := by decide +kernel
theorem dX4_likeOf_22 : decode cX4_likeOf 22 = .ok (.irem, 1) := by decide +kernel
theorem dX4_likeOf_23 : decode cX4_likeOf 23 = .ok (.iload_n 1, 1) := by decide +kernel
theorem dX4_likeOf_24 : decode cX4_likeOf 24 = .ok (.iadd, 1) := by decide +kernel
theorem dX4_likeOf_25 : decode cX4_likeOf 25 = .ok (.aload_n 0, 1) := by decide +kernel
theorem dX4_likeOf_26 : decode cX4_likeOf 26 = .ok (.getfield 78, 3) := by decide +kernel
theorem dX4_likeOf_29 : decode cX4_likeOf 29 = .ok (.if_icmp .ge 24, 3) := by decide +kernel
theorem dX4_likeOf_32 : decode cX4_likeOf 32 = .ok (.aload_n 0, 1) := by decide +kernel
theorem dX4_likeOf_33 : decode cX4_likeOf 33 = .ok (.getfield 13, 3) := by decide +kernel
theorem dX4_likeOf_36 : decode cX4_likeOf 36 = .ok (.iload_n 3, 1) := by decide +kernel
theorem dX4_likeOf_37 : decode cX4_likeOf 37 = .ok (.iaload, 1) := by decide +kernel
theorem dX4_likeOf_38 : decode cX4_likeOf 38 = .ok (.aload_n 0, 1) := by decide +kernel
theorem dX4_likeOf_39 : decode cX4_likeOf 39 = .ok (.getfield 13, 3) := by decide +kernel
theorem dX4_likeOf_42 : decode cX4_likeOf 42 = .ok (.iload_n 3, 1) := by decide +kernel
theorem dX4_likeOf_43 : decode cX4_likeOf 43 = .ok (.iload_n 1, 1) := by decide +kernel
theorem dX4_likeOf_44 : decode cX4_likeOf 44 = .ok (.iadd, 1) := by decide +kernel
theorem dX4_likeOf_45 : decode cX4_likeOf 45 = .ok (.iaload, 1) := by decide +kernel
theorem dX4_likeOf_46 : decode cX4_likeOf 46 = .ok (.if_icmp .eq 7, 3) := by decide +kernel
theorem dX4_likeOf_49 : decode cX4_likeOf 49 = .ok (.iconst 1, 1) := by decide +kernel
theorem dX4_likeOf_50 : decode cX4_likeOf 50 = .ok (.goto 4, 3) := by decide +kernel
theorem dX4_likeOf_53 : decode cX4_likeOf 53 = .ok (.iconst 0, 1) := by decide +kernel
theorem dX4_likeOf_54 : decode cX4_likeOf 54 = .ok (.iadd, 1) := by decide +kernel
theorem dX4_likeOf_55 : decode cX4_likeOf 55 = .ok (.istore_n 2, 1) := by decide +kernel
theorem dX4_likeOf_56 : decode cX4_likeOf 56 = .ok (.iinc 3 1, 3) := by decide +kernel
theorem dX4_likeOf_59 : decode cX4_likeOf 59 = .ok (.goto (-51), 3) := by decide +kernel
theorem dX4_likeOf_62 : decode cX4_likeOf 62 = .ok (.iload_n 2, 1) := by decide +kernel
theorem dX4_likeOf_63 : decode cX4_likeOf 63 = .ok (.ireturn, 1) := by decide +kernel
theorem dX4_like_0 : decode cX4_like 0 = .ok (.iload_n 1, 1) := by decide +kernel
theorem dX4_like_1 : decode cX4_like 1 = .ok (.iconst 1, 1) := by decide +kernel
theorem dX4_like_2 : decode cX4_like 2 = .ok (.bipush 6, 2) := by decide +kernel
theorem dX4_like_4 : decode cX4_like 4 = .ok (.invokestatic 65, 3) := by decide +kernel
theorem dX4_like_7 : decode cX4_like 7 = .ok (.ifCond .eq 11, 3) := by decide +kernel
theorem dX4_like_10 : decode cX4_like 10 = .ok (.aload_n 0, 1) := by decide +kernel
theorem dX4_like_11 : decode cX4_like 11 = .ok (.iload_n 1, 1) := by decide +kernel
theorem dX4_like_12 : decode cX4_like 12 = .ok (.invokevirtual 200, 3) := by decide +kernel
theorem dX4_like_15 : decode cX4_like 15 = .ok (.goto 5, 3) := by decide +kernel
theorem dX4_like_18 : decode cX4_like 18 = .ok (.bipush (-2), 2) := by decide +kernel
theorem dX4_like_20 : decode cX4_like 20 = .ok (.ireturn, 1) := by decide +kernel
theorem dX4_springs_0 : decode cX4_springs 0 = .ok (.iconst 0, 1) := by decide +kernel
theorem dX4_springs_1 : decode cX4_springs 1 = .ok (.istore_n 1, 1) := by decide +kernel
theorem dX4_springs_2 : decode cX4_springs 2 = .ok (.iconst 0, 1) := by decide +kernel
theorem dX4_springs_3 : decode cX4_springs 3 = .ok (.istore_n 2, 1) := by decide +kernel
theorem dX4_springs_4 : decode cX4_springs 4 = .ok (.iload_n 2, 1) := by decide +kernel
theorem dX4_springs_5 : decode cX4_springs 5 = .ok (.aload_n 0, 1) := by decide +kernel
theorem dX4_springs_6 : decode cX4_springs 6 = .ok (.getfield 72, 3) := by decide +kernel
theorem dX4_springs_9 : decode cX4_springs 9 = .ok (.if_icmp .ge 27, 3) := by decide +kernel
theorem dX4_springs_12 : decode cX4_springs 12 = .ok (.iload_n 1, 1) := by decide +kernel
theorem dX4_springs_13 : decode cX4_springs 13 = .ok (.aload_n 0, 1) := by decide +kernel
theorem dX4_springs_14 : decode cX4_springs 14 = .ok (.getfield 13, 3) := by decide +kernel
theorem dX4_springs_17 : decode cX4_springs 17 = .ok (.iload_n 2, 1) := by decide +kernel
theorem dX4_springs_18 : decode cX4_springs 18 = .ok (.iaload, 1) := by decide +kernel
theorem dX4_springs_19 : decode cX4_springs 19 = .ok (.iconst 3, 1) := by decide +kernel
theorem dX4_springs_20 : decode cX4_springs 20 = .ok (.if_icmp .ne 7, 3) := by decide +kernel
theorem dX4_springs_23 : decode cX4_springs 23 = .ok (.iconst 1, 1) := by decide +kernel
theorem dX4_springs_24 : decode cX4_springs 24 = .ok (.goto 4, 3) := by decide +kernel
theorem dX4_springs_27 : decode cX4_springs 27 = .ok (.iconst 0, 1) := by decide +kernel
theorem dX4_springs_28 : decode cX4_springs 28 = .ok (.iadd, 1) := by decide +kernel
theorem dX4_springs_29 : decode cX4_springs 29 = .ok (.istore_n 1, 1) := by decide +kernel
theorem dX4_springs_30 : decode cX4_springs 30 = .ok (.iinc 2 1, 3) := by decide +kernel
theorem dX4_springs_33 : decode cX4_springs 33 = .ok (.goto (-29), 3) := by decide +kernel
theorem dX4_springs_36 : decode cX4_springs 36 = .ok (.iload_n 1, 1) := by decide +kernel
theorem dX4_springs_37 : decode cX4_springs 37 = .ok (.ireturn, 1) := by decide +kernel
theorem dX4_floodOf_0 : decode cX4_floodOf 0 = .ok (.aload_n 0, 1) := by decide +kernel
theorem dX4_floodOf_1 : decode cX4_floodOf 1 = .ok (.invokevirtual 203, 3) := by decide +kernel
theorem dX4_floodOf_4 : decode cX4_floodOf 4 = .ok (.istore 4, 2) := by decide +kernel
theorem dX4_floodOf_6 : decode cX4_floodOf 6 = .ok (.lconst 0, 1) := by decide +kernel
theorem dX4_floodOf_7 : decode cX4_floodOf 7 = .ok (.lstore 5, 2) := by decide +kernel
theorem dX4_floodOf_9 : decode cX4_floodOf 9 = .ok (.iconst 0, 1) := by decide +kernel
theorem dX4_floodOf_10 : decode cX4_floodOf 10 = .ok (.istore 7, 2) := by decide +kernel
theorem dX4_floodOf_12 : decode cX4_floodOf 12 = .ok (.iload 7, 2) := by decide +kernel
theorem dX4_floodOf_14 : decode cX4_floodOf 14 = .ok (.iconst 1, 1) := by decide +kernel
theorem dX4_floodOf_15 : decode cX4_floodOf 15 = .ok (.iload 4, 2) := by decide +kernel
theorem dX4_floodOf_17 : decode cX4_floodOf 17 = .ok (.ishl, 1) := by decide +kernel
theorem dX4_floodOf_18 : decode cX4_floodOf 18 = .ok (.if_icmp .ge 79, 3) := by decide +kernel
theorem dX4_floodOf_21 : decode cX4_floodOf 21 = .ok (.lconst 1, 1) := by decide +kernel
theorem dX4_floodOf_22 : decode cX4_floodOf 22 = .ok (.lstore 8, 2) := by decide +kernel
theorem dX4_floodOf_24 : decode cX4_floodOf 24 = .ok (.iconst 0, 1) := by decide +kernel
theorem dX4_floodOf_25 : decode cX4_floodOf 25 = .ok (.istore 10, 2) := by decide +kernel
theorem dX4_floodOf_27 : decode cX4_floodOf 27 = .ok (.iload 10, 2) := by decide +kernel
theorem dX4_floodOf_29 : decode cX4_floodOf 29 = .ok (.iload 4, 2) := by decide +kernel
theorem dX4_floodOf_31 : decode cX4_floodOf 31 = .ok (.if_icmp .ge 34, 3) := by decide +kernel
theorem dX4_floodOf_34 : decode cX4_floodOf 34 = .ok (.lload 8, 2) := by decide +kernel
theorem dX4_floodOf_36 : decode cX4_floodOf 36 = .ok (.iload 7, 2) := by decide +kernel
theorem dX4_floodOf_38 : decode cX4_floodOf 38 = .ok (.iload 10, 2) := by decide +kernel
theorem dX4_floodOf_40 : decode cX4_floodOf 40 = .ok (.invokestatic 163, 3) := by decide +kernel
theorem dX4_floodOf_43 : decode cX4_floodOf 43 = .ok (.ifCond .eq 8, 3) := by decide +kernel
theorem dX4_floodOf_46 : decode cX4_floodOf 46 = .ok (.iload_n 1, 1) := by decide +kernel
theorem dX4_floodOf_47 : decode cX4_floodOf 47 = .ok (.i2l, 1) := by decide +kernel
theorem dX4_floodOf_48 : decode cX4_floodOf 48 = .ok (.goto 8, 3) := by decide +kernel
theorem dX4_floodOf_51 : decode cX4_floodOf 51 = .ok (.bipush 16, 2) := by decide +kernel
theorem dX4_floodOf_53 : decode cX4_floodOf 53 = .ok (.iload_n 1, 1) := by decide +kernel
theorem dX4_floodOf_54 : decode cX4_floodOf 54 = .ok (.isub, 1) := by decide +kernel
theorem dX4_floodOf_55 : decode cX4_floodOf 55 = .ok (.i2l, 1) := by decide +kernel
theorem dX4_floodOf_56 : decode cX4_floodOf 56 = .ok (.lmul, 1) := by decide +kernel
theorem dX4_floodOf_57 : decode cX4_floodOf 57 = .ok (.lstore 8, 2) := by decide +kernel
theorem dX4_floodOf_59 : decode cX4_floodOf 59 = .ok (.iinc 10 1, 3) := by decide +kernel
theorem dX4_floodOf_62 : decode cX4_floodOf 62 = .ok (.goto (-35), 3) := by decide +kernel
theorem dX4_floodOf_65 : decode cX4_floodOf 65 = .ok (.aload_n 0, 1) := by decide +kernel
theorem dX4_floodOf_66 : decode cX4_floodOf 66 = .ok (.iload 7, 2) := by decide +kernel
theorem dX4_floodOf_68 : decode cX4_floodOf 68 = .ok (.invokevirtual 167, 3) := by decide +kernel
theorem dX4_floodOf_71 : decode cX4_floodOf 71 = .ok (.lload 5, 2) := by decide +kernel
theorem dX4_floodOf_73 : decode cX4_floodOf 73 = .ok (.aload_n 0, 1) := by decide +kernel
theorem dX4_floodOf_74 : decode cX4_floodOf 74 = .ok (.getfield 29, 3) := by decide +kernel
theorem dX4_floodOf_77 : decode cX4_floodOf 77 = .ok (.iload_n 2, 1) := by decide +kernel
theorem dX4_floodOf_78 : decode cX4_floodOf 78 = .ok (.baload, 1) := by decide +kernel
theorem dX4_floodOf_79 : decode cX4_floodOf 79 = .ok (.ifCond .eq 8, 3) := by decide +kernel
theorem dX4_floodOf_82 : decode cX4_floodOf 82 = .ok (.lload 8, 2) := by decide +kernel
theorem dX4_floodOf_84 : decode cX4_floodOf 84 = .ok (.goto 4, 3) := by decide +kernel
theorem dX4_floodOf_87 : decode cX4_floodOf 87 = .ok (.lconst 0, 1) := by decide +kernel
theorem dX4_floodOf_88 : decode cX4_floodOf 88 = .ok (.ladd, 1) := by decide +kernel
theorem dX4_floodOf_89 : decode cX4_floodOf 89 = .ok (.lstore 5, 2) := by decide +kernel
theorem dX4_floodOf_91 : decode cX4_floodOf 91 = .ok (.iinc 7 1, 3) := by decide +kernel
theorem dX4_floodOf_94 : decode cX4_floodOf 94 = .ok (.goto (-82), 3) := by decide +kernel
theorem dX4_floodOf_97 : decode cX4_floodOf 97 = .ok (.lload 5, 2) := by decide +kernel
theorem dX4_floodOf_99 : decode cX4_floodOf 99 = .ok (.lconst 1, 1) := by decide +kernel
theorem dX4_floodOf_100 : decode cX4_floodOf 100 = .ok (.iconst 4, 1) := by decide +kernel
theorem dX4_floodOf_101 : decode cX4_floodOf 101 = .ok (.iload 4, 2) := by decide +kernel
theorem dX4_floodOf_103 : decode cX4_floodOf 103 = .ok (.imul, 1) := by decide +kernel
theorem dX4_floodOf_104 : decode cX4_floodOf 104 = .ok (.lshl, 1) := by decide +kernel
theorem dX4_floodOf_105 : decode cX4_floodOf 105 = .ok (.iload_n 3, 1) := by decide +kernel
theorem dX4_floodOf_106 : decode cX4_floodOf 106 = .ok (.invokestatic 206, 3) := by decide +kernel
theorem dX4_floodOf_109 : decode cX4_floodOf 109 = .ok (.lreturn, 1) := by decide +kernel
theorem dX4_flood_0 : decode cX4_flood 0 = .ok (.iload_n 1, 1) := by decide +kernel
theorem dX4_flood_1 : decode cX4_flood 1 = .ok (.iconst 0, 1) := by decide +kernel
theorem dX4_flood_2 : decode cX4_flood 2 = .ok (.bipush 16, 2) := by decide +kernel
theorem dX4_flood_4 : decode cX4_flood 4 = .ok (.invokestatic 65, 3) := by decide +kernel
theorem dX4_flood_7 : decode cX4_flood 7 = .ok (.ifCond .eq 39, 3) := by decide +kernel
theorem dX4_flood_10 : decode cX4_flood 10 = .ok (.aload_n 0, 1) := by decide +kernel
theorem dX4_flood_11 : decode cX4_flood 11 = .ok (.iload_n 2, 1) := by decide +kernel
theorem dX4_flood_12 : decode cX4_flood 12 = .ok (.invokevirtual 102, 3) := by decide +kernel
theorem dX4_flood_15 : decode cX4_flood 15 = .ok (.ifCond .eq 31, 3) := by decide +kernel
theorem dX4_flood_18 : decode cX4_flood 18 = .ok (.iload_n 3, 1) := by decide +kernel
theorem dX4_flood_19 : decode cX4_flood 19 = .ok (.iconst 0, 1) := by decide +kernel
theorem dX4_flood_20 : decode cX4_flood 20 = .ok (.iconst 1, 1) := by decide +kernel
theorem dX4_flood_21 : decode cX4_flood 21 = .ok (.invokestatic 65, 3) := by decide +kernel
theorem dX4_flood_24 : decode cX4_flood 24 = .ok (.ifCond .eq 22, 3) := by decide +kernel
theorem dX4_flood_27 : decode cX4_flood 27 = .ok (.aload_n 0, 1) := by decide +kernel
theorem dX4_flood_28 : decode cX4_flood 28 = .ok (.invokevirtual 203, 3) := by decide +kernel
theorem dX4_flood_31 : decode cX4_flood 31 = .ok (.bipush 10, 2) := by decide +kernel
theorem dX4_flood_33 : decode cX4_flood 33 = .ok (.if_icmp .ge 13, 3) := by decide +kernel
theorem dX4_flood_36 : decode cX4_flood 36 = .ok (.aload_n 0, 1) := by decide +kernel
theorem dX4_flood_37 : decode cX4_flood 37 = .ok (.iload_n 1, 1) := by decide +kernel
theorem dX4_flood_38 : decode cX4_flood 38 = .ok (.iload_n 2, 1) := by decide +kernel
theorem dX4_flood_39 : decode cX4_flood 39 = .ok (.iload_n 3, 1) := by decide +kernel
theorem dX4_flood_40 : decode cX4_flood 40 = .ok (.invokevirtual 210, 3) := by decide +kernel
theorem dX4_flood_43 : decode cX4_flood 43 = .ok (.goto 8, 3) := by decide +kernel
theorem dX4_flood_46 : decode cX4_flood 46 = .ok (.bipush (-2), 2) := by decide +kernel
theorem dX4_flood_48 : decode cX4_flood 48 = .ok (.invokestatic 214, 3) := by decide +kernel
theorem dX4_flood_51 : decode cX4_flood 51 = .ok (.lreturn, 1) := by decide +kernel
theorem dX4_kicksOf_0 : decode cX4_kicksOf 0 = .ok (.iload_n 1, 1) := by decide +kernel
theorem dX4_kicksOf_1 : decode cX4_kicksOf 1 = .ok (.istore 4, 2) := by decide +kernel
theorem dX4_kicksOf_3 : decode cX4_kicksOf 3 = .ok (.iload_n 2, 1) := by decide +kernel
theorem dX4_kicksOf_4 : decode cX4_kicksOf 4 = .ok (.istore 5, 2) := by decide +kernel
theorem dX4_kicksOf_6 : decode cX4_kicksOf 6 = .ok (.iconst 0, 1) := by decide +kernel
theorem dX4_kicksOf_7 : decode cX4_kicksOf 7 = .ok (.istore 6, 2) := by decide +kernel
theorem dX4_kicksOf_9 : decode cX4_kicksOf 9 = .ok (.iload 6, 2) := by decide +kernel
theorem dX4_kicksOf_11 : decode cX4_kicksOf 11 = .ok (.iload_n 3, 1) := by decide +kernel
theorem dX4_kicksOf_12 : decode cX4_kicksOf 12 = .ok (.if_icmp .ge 89, 3) := by decide +kernel
theorem dX4_kicksOf_15 : decode cX4_kicksOf 15 = .ok (.aload_n 0, 1) := by decide +kernel
theorem dX4_kicksOf_16 : decode cX4_kicksOf 16 = .ok (.iload 5, 2) := by decide +kernel
theorem dX4_kicksOf_18 : decode cX4_kicksOf 18 = .ok (.invokevirtual 105, 3) := by decide +kernel
theorem dX4_kicksOf_21 : decode cX4_kicksOf 21 = .ok (.ifCond .ne 14, 3) := by decide +kernel
theorem dX4_kicksOf_24 : decode cX4_kicksOf 24 = .ok (.aload_n 0, 1) := by decide +kernel
theorem dX4_kicksOf_25 : decode cX4_kicksOf 25 = .ok (.iload 5, 2) := by decide +kernel
theorem dX4_kicksOf_27 : decode cX4_kicksOf 27 = .ok (.invokevirtual 96, 3) := by decide +kernel
theorem dX4_kicksOf_30 : decode cX4_kicksOf 30 = .ok (.istore 5, 2) := by decide +kernel
theorem dX4_kicksOf_32 : decode cX4_kicksOf 32 = .ok (.goto 63, 3) := by decide +kernel
theorem dX4_kicksOf_35 : decode cX4_kicksOf 35 = .ok (.ldc 218, 2) := by decide +kernel
theorem dX4_kicksOf_37 : decode cX4_kicksOf 37 = .ok (.iload 4, 2) := by decide +kernel
theorem dX4_kicksOf_39 : decode cX4_kicksOf 39 = .ok (.imul, 1) := by decide +kernel
theorem dX4_kicksOf_40 : decode cX4_kicksOf 40 = .ok (.sipush 12345, 3) := by decide +kernel
theorem dX4_kicksOf_43 : decode cX4_kicksOf 43 = .ok (.iadd, 1) := by decide +kernel
theorem dX4_kicksOf_44 : decode cX4_kicksOf 44 = .ok (.istore 4, 2) := by decide +kernel
theorem dX4_kicksOf_46 : decode cX4_kicksOf 46 = .ok (.iload 4, 2) := by decide +kernel
theorem dX4_kicksOf_48 : decode cX4_kicksOf 48 = .ok (.bipush 16, 2) := by decide +kernel
theorem dX4_kicksOf_50 : decode cX4_kicksOf 50 = .ok (.iushr, 1) := by decide +kernel
theorem dX4_kicksOf_51 : decode cX4_kicksOf 51 = .ok (.iconst 3, 1) := by decide +kernel
theorem dX4_kicksOf_52 : decode cX4_kicksOf 52 = .ok (.irem, 1) := by decide +kernel
theorem dX4_kicksOf_53 : decode cX4_kicksOf 53 = .ok (.istore 7, 2) := by decide +kernel
theorem dX4_kicksOf_55 : decode cX4_kicksOf 55 = .ok (.iload 7, 2) := by decide +kernel
theorem dX4_kicksOf_57 : decode cX4_kicksOf 57 = .ok (.ifCond .ne 8, 3) := by decide +kernel
theorem dX4_kicksOf_60 : decode cX4_kicksOf 60 = .ok (.iload 5, 2) := by decide +kernel
theorem dX4_kicksOf_62 : decode cX4_kicksOf 62 = .ok (.goto 13, 3) := by decide +kernel
theorem dX4_kicksOf_65 : decode cX4_kicksOf 65 = .ok (.aload_n 0, 1) := by decide +kernel
theorem dX4_kicksOf_66 : decode cX4_kicksOf 66 = .ok (.iload 5, 2) := by decide +kernel
theorem dX4_kicksOf_68 : decode cX4_kicksOf 68 = .ok (.iload 7, 2) := by decide +kernel
theorem dX4_kicksOf_70 : decode cX4_kicksOf 70 = .ok (.iconst 1, 1) := by decide +kernel
theorem dX4_kicksOf_71 : decode cX4_kicksOf 71 = .ok (.isub, 1) := by decide +kernel
theorem dX4_kicksOf_72 : decode cX4_kicksOf 72 = .ok (.invokevirtual 139, 3) := by decide +kernel
theorem dX4_kicksOf_75 : decode cX4_kicksOf 75 = .ok (.istore 8, 2) := by decide +kernel
theorem dX4_kicksOf_77 : decode cX4_kicksOf 77 = .ok (.aload_n 0, 1) := by decide +kernel
theorem dX4_kicksOf_78 : decode cX4_kicksOf 78 = .ok (.iload 8, 2) := by decide +kernel
theorem dX4_kicksOf_80 : decode cX4_kicksOf 80 = .ok (.invokevirtual 99, 3) := by decide +kernel
theorem dX4_kicksOf_83 : decode cX4_kicksOf 83 = .ok (.ifCond .eq 8, 3) := by decide +kernel
theorem dX4_kicksOf_86 : decode cX4_kicksOf 86 = .ok (.iload 8, 2) := by decide +kernel
theorem dX4_kicksOf_88 : decode cX4_kicksOf 88 = .ok (.goto 5, 3) := by decide +kernel
theorem dX4_kicksOf_91 : decode cX4_kicksOf 91 = .ok (.iload 5, 2) := by decide +kernel
theorem dX4_kicksOf_93 : decode cX4_kicksOf 93 = .ok (.istore 5, 2) := by decide +kernel
theorem dX4_kicksOf_95 : decode cX4_kicksOf 95 = .ok (.iinc 6 1, 3) := by decide +kernel
theorem dX4_kicksOf_98 : decode cX4_kicksOf 98 = .ok (.goto (-89), 3) := by decide +kernel
theorem dX4_kicksOf_101 : decode cX4_kicksOf 101 = .ok (.iload 5, 2) := by decide +kernel
theorem dX4_kicksOf_103 : decode cX4_kicksOf 103 = .ok (.ireturn, 1) := by decide +kernel
theorem dX4_kicks_0 : decode cX4_kicks 0 = .ok (.aload_n 0, 1) := by decide +kernel
theorem dX4_kicks_1 : decode cX4_kicks 1 = .ok (.iload_n 2, 1) := by decide +kernel
theorem dX4_kicks_2 : decode cX4_kicks 2 = .ok (.invokevirtual 102, 3) := by decide +kernel
theorem dX4_kicks_5 : decode cX4_kicks 5 = .ok (.ifCond .eq 31, 3) := by decide +kernel
theorem dX4_kicks_8 : decode cX4_kicks 8 = .ok (.aload_n 0, 1) := by decide +kernel
theorem dX4_kicks_9 : decode cX4_kicks 9 = .ok (.iload_n 2, 1) := by decide +kernel
theorem dX4_kicks_10 : decode cX4_kicks 10 = .ok (.invokevirtual 99, 3) := by decide +kernel
theorem dX4_kicks_13 : decode cX4_kicks 13 = .ok (.ifCond .eq 23, 3) := by decide +kernel
theorem dX4_kicks_16 : decode cX4_kicks 16 = .ok (.iload_n 3, 1) := by decide +kernel
theorem dX4_kicks_17 : decode cX4_kicks 17 = .ok (.iconst 1, 1) := by decide +kernel
theorem dX4_kicks_18 : decode cX4_kicks 18 = .ok (.bipush 40, 2) := by decide +kernel
theorem dX4_kicks_20 : decode cX4_kicks 20 = .ok (.invokestatic 65, 3) := by decide +kernel
theorem dX4_kicks_23 : decode cX4_kicks 23 = .ok (.ifCond .eq 13, 3) := by decide +kernel
theorem dX4_kicks_26 : decode cX4_kicks 26 = .ok (.aload_n 0, 1) := by decide +kernel
theorem dX4_kicks_27 : decode cX4_kicks 27 = .ok (.iload_n 1, 1) := by decide +kernel
theorem dX4_kicks_28 : decode cX4_kicks 28 = .ok (.iload_n 2, 1) := by decide +kernel
theorem dX4_kicks_29 : decode cX4_kicks 29 = .ok (.iload_n 3, 1) := by decide +kernel
theorem dX4_kicks_30 : decode cX4_kicks 30 = .ok (.invokevirtual 219, 3) := by decide +kernel
theorem dX4_kicks_33 : decode cX4_kicks 33 = .ok (.goto 5, 3) := by decide +kernel
theorem dX4_kicks_36 : decode cX4_kicks 36 = .ok (.bipush (-2), 2) := by decide +kernel
theorem dX4_kicks_38 : decode cX4_kicks 38 = .ok (.ireturn, 1) := by decide +kernel
theorem dX4_meets_0 : decode cX4_meets 0 = .ok (.aload_n 0, 1) := by decide +kernel
theorem dX4_meets_1 : decode cX4_meets 1 = .ok (.iload_n 1, 1) := by decide +kernel
theorem dX4_meets_2 : decode cX4_meets 2 = .ok (.putfield 222, 3) := by decide +kernel
theorem dX4_meets_5 : decode cX4_meets 5 = .ok (.bipush (-10), 2) := by decide +kernel
theorem dX4_meets_7 : decode cX4_meets 7 = .ok (.iload_n 1, 1) := by decide +kernel
theorem dX4_meets_8 : decode cX4_meets 8 = .ok (.isub, 1) := by decide +kernel
theorem dX4_meets_9 : decode cX4_meets 9 = .ok (.ireturn, 1) := by decide +kernel
theorem dX4_isSheet_0 : decode cX4_isSheet 0 = .ok (.iload_n 0, 1) := by decide +kernel
theorem dX4_isSheet_1 : decode cX4_isSheet 1 = .ok (.iconst 0, 1) := by decide +kernel
theorem dX4_isSheet_2 : decode cX4_isSheet 2 = .ok (.iconst 3, 1) := by decide +kernel
theorem dX4_isSheet_3 : decode cX4_isSheet 3 = .ok (.invokestatic 65, 3) := by decide +kernel
theorem dX4_isSheet_6 : decode cX4_isSheet 6 = .ok (.ireturn, 1) := by decide +kernel
theorem dX4_sheet_0 : decode cX4_sheet 0 = .ok (.iload_n 1, 1) := by decide +kernel
theorem dX4_sheet_1 : decode cX4_sheet 1 = .ok (.invokestatic 111, 3) := by decide +kernel
theorem dX4_sheet_4 : decode cX4_sheet 4 = .ok (.ifCond .eq 18, 3) := by decide +kernel
theorem dX4_sheet_7 : decode cX4_sheet 7 = .ok (.iload_n 2, 1) := by decide +kernel
theorem dX4_sheet_8 : decode cX4_sheet 8 = .ok (.iconst 0, 1) := by decide +kernel
theorem dX4_sheet_9 : decode cX4_sheet 9 = .ok (.iconst 2, 1) := by decide +kernel
theorem dX4_sheet_10 : decode cX4_sheet 10 = .ok (.invokestatic 65, 3) := by decide +kernel
theorem dX4_sheet_13 : decode cX4_sheet 13 = .ok (.ifCond .eq 9, 3) := by decide +kernel
theorem dX4_sheet_16 : decode cX4_sheet 16 = .ok (.iload_n 3, 1) := by decide +kernel
theorem dX4_sheet_17 : decode cX4_sheet 17 = .ok (.bipush 48, 2) := by decide +kernel
theorem dX4_sheet_19 : decode cX4_sheet 19 = .ok (.if_icmp .le 6, 3) := by decide +kernel
theorem dX4_sheet_22 : decode cX4_sheet 22 = .ok (.bipush (-2), 2) := by decide +kernel
theorem dX4_sheet_24 : decode cX4_sheet 24 = .ok (.ireturn, 1) := by decide +kernel
theorem dX4_sheet_25 : decode cX4_sheet 25 = .ok (.iload_n 3, 1) := by decide +kernel
theorem dX4_sheet_26 : decode cX4_sheet 26 = .ok (.ifCond .ge 9, 3) := by decide +kernel
theorem dX4_sheet_29 : decode cX4_sheet 29 = .ok (.aload_n 0, 1) := by decide +kernel
theorem dX4_sheet_30 : decode cX4_sheet 30 = .ok (.iconst 5, 1) := by decide +kernel
theorem dX4_sheet_31 : decode cX4_sheet 31 = .ok (.invokevirtual 114, 3) := by decide +kernel
theorem dX4_sheet_34 : decode cX4_sheet 34 = .ok (.ireturn, 1) := by decide +kernel
theorem dX4_sheet_35 : decode cX4_sheet 35 = .ok (.aload_n 0, 1) := by decide +kernel
theorem dX4_sheet_36 : decode cX4_sheet 36 = .ok (.getfield 41, 3) := by decide +kernel
theorem dX4_sheet_39 : decode cX4_sheet 39 = .ok (.iload_n 1, 1) := by decide +kernel
theorem dX4_sheet_40 : decode cX4_sheet 40 = .ok (.iconst 1, 1) := by decide +kernel
theorem dX4_sheet_41 : decode cX4_sheet 41 = .ok (.bastore, 1) := by decide +kernel
theorem dX4_sheet_42 : decode cX4_sheet 42 = .ok (.aload_n 0, 1) := by decide +kernel
theorem dX4_sheet_43 : decode cX4_sheet 43 = .ok (.getfield 44, 3) := by decide +kernel
theorem dX4_sheet_46 : decode cX4_sheet 46 = .ok (.iload_n 1, 1) := by decide +kernel
theorem dX4_sheet_47 : decode cX4_sheet 47 = .ok (.iload_n 2, 1) := by decide +kernel
theorem dX4_sheet_48 : decode cX4_sheet 48 = .ok (.iastore, 1) := by decide +kernel
theorem dX4_sheet_49 : decode cX4_sheet 49 = .ok (.aload_n 0, 1) := by decide +kernel
theorem dX4_sheet_50 : decode cX4_sheet 50 = .ok (.getfield 47, 3) := by decide +kernel
theorem dX4_sheet_53 : decode cX4_sheet 53 = .ok (.iload_n 1, 1) := by decide +kernel
theorem dX4_sheet_54 : decode cX4_sheet 54 = .ok (.iload_n 3, 1) := by decide +kernel
theorem dX4_sheet_55 : decode cX4_sheet 55 = .ok (.iastore, 1) := by decide +kernel
theorem dX4_sheet_56 : decode cX4_sheet 56 = .ok (.iconst 0, 1) := by decide +kernel
theorem dX4_sheet_57 : decode cX4_sheet 57 = .ok (.istore 4, 2) := by decide +kernel
theorem dX4_sheet_59 : decode cX4_sheet 59 = .ok (.iload 4, 2) := by decide +kernel
theorem dX4_sheet_61 : decode cX4_sheet 61 = .ok (.bipush 48, 2) := by decide +kernel
theorem dX4_sheet_63 : decode cX4_sheet 63 = .ok (.if_icmp .ge 22, 3) := by decide +kernel
theorem dX4_sheet_66 : decode cX4_sheet 66 = .ok (.aload_n 0, 1) := by decide +kernel
theorem dX4_sheet_67 : decode cX4_sheet 67 = .ok (.getfield 50, 3) := by decide +kernel
theorem dX4_sheet_70 : decode cX4_sheet 70 = .ok (.bipush 48, 2) := by decide +kernel
theorem dX4_sheet_72 : decode cX4_sheet 72 = .ok (.iload_n 1, 1) := by decide +kernel
theorem dX4_sheet_73 : decode cX4_sheet 73 = .ok (.imul, 1) := by decide +kernel
theorem dX4_sheet_74 : decode cX4_sheet 74 = .ok (.iload 4, 2) := by decide +kernel
theorem dX4_sheet_76 : decode cX4_sheet 76 = .ok (.iadd, 1) := by decide +kernel
theorem dX4_sheet_77 : decode cX4_sheet 77 = .ok (.iconst 0, 1) := by decide +kernel
theorem dX4_sheet_78 : decode cX4_sheet 78 = .ok (.iastore, 1) := by decide +kernel
theorem dX4_sheet_79 : decode cX4_sheet 79 = .ok (.iinc 4 1, 3) := by decide +kernel
theorem dX4_sheet_82 : decode cX4_sheet 82 = .ok (.goto (-23), 3) := by decide +kernel
theorem dX4_sheet_85 : decode cX4_sheet 85 = .ok (.iload_n 3, 1) := by decide +kernel
theorem dX4_sheet_86 : decode cX4_sheet 86 = .ok (.ireturn, 1) := by decide +kernel
theorem dX4_lose_0 : decode cX4_lose 0 = .ok (.iload_n 1, 1) := by decide +kernel
theorem dX4_lose_1 : decode cX4_lose 1 = .ok (.invokestatic 111, 3) := by decide +kernel
theorem dX4_lose_4 : decode cX4_lose 4 = .ok (.ifCond .ne 6, 3) := by decide +kernel
theorem dX4_lose_7 : decode cX4_lose 7 = .ok (.bipush (-2), 2) := by decide +kernel
theorem dX4_lose_9 : decode cX4_lose 9 = .ok (.ireturn, 1) := by decide +kernel
theorem dX4_lose_10 : decode cX4_lose 10 = .ok (.aload_n 0, 1) := by decide +kernel
theorem dX4_lose_11 : decode cX4_lose 11 = .ok (.getfield 41, 3) := by decide +kernel
theorem dX4_lose_14 : decode cX4_lose 14 = .ok (.iload_n 1, 1) := by decide +kernel
theorem dX4_lose_15 : decode cX4_lose 15 = .ok (.baload, 1) := by decide +kernel
theorem dX4_lose_16 : decode cX4_lose 16 = .ok (.ifCond .ne 9, 3) := by decide +kernel
theorem dX4_lose_19 : decode cX4_lose 19 = .ok (.aload_n 0, 1) := by decide +kernel
theorem dX4_lose_20 : decode cX4_lose 20 = .ok (.iconst 1, 1) := by decide +kernel
theorem dX4_lose_21 : decode cX4_lose 21 = .ok (.invokevirtual 114, 3) := by decide +kernel
theorem dX4_lose_24 : decode cX4_lose 24 = .ok (.ireturn, 1) := by decide +kernel
theorem dX4_lose_25 : decode cX4_lose 25 = .ok (.aload_n 0, 1) := by decide +kernel
theorem dX4_lose_26 : decode cX4_lose 26 = .ok (.getfield 41, 3) := by decide +kernel
theorem dX4_lose_29 : decode cX4_lose 29 = .ok (.iload_n 1, 1) := by decide +kernel
theorem dX4_lose_30 : decode cX4_lose 30 = .ok (.iconst 0, 1) := by decide +kernel
theorem dX4_lose_31 : decode cX4_lose 31 = .ok (.bastore, 1) := by decide +kernel
theorem dX4_lose_32 : decode cX4_lose 32 = .ok (.aload_n 0, 1) := by decide +kernel
theorem dX4_lose_33 : decode cX4_lose 33 = .ok (.getfield 47, 3) := by decide +kernel
theorem dX4_lose_36 : decode cX4_lose 36 = .ok (.iload_n 1, 1) := by decide +kernel
theorem dX4_lose_37 : decode cX4_lose 37 = .ok (.iaload, 1) := by decide +kernel
theorem dX4_lose_38 : decode cX4_lose 38 = .ok (.ireturn, 1) := by decide +kernel
theorem dX4_lacks_0 : decode cX4_lacks 0 = .ok (.aload_n 0, 1) := by decide +kernel
theorem dX4_lacks_1 : decode cX4_lacks 1 = .ok (.getfield 41, 3) := by decide +kernel
theorem dX4_lacks_4 : decode cX4_lacks 4 = .ok (.iload_n 1, 1) := by decide +kernel
theorem dX4_lacks_5 : decode cX4_lacks 5 = .ok (.baload, 1) := by decide +kernel
theorem dX4_lacks_6 : decode cX4_lacks 6 = .ok (.ifCond .ne 7, 3) := by decide +kernel
theorem dX4_lacks_9 : decode cX4_lacks 9 = .ok (.iconst 1, 1) := by decide +kernel
theorem dX4_lacks_10 : decode cX4_lacks 10 = .ok (.goto 38, 3) := by decide +kernel
theorem dX4_lacks_13 : decode cX4_lacks 13 = .ok (.aload_n 0, 1) := by decide +kernel
theorem dX4_lacks_14 : decode cX4_lacks 14 = .ok (.getfield 44, 3) := by decide +kernel
theorem dX4_lacks_17 : decode cX4_lacks 17 = .ok (.iload_n 1, 1) := by decide +kernel
theorem dX4_lacks_18 : decode cX4_lacks 18 = .ok (.iaload, 1) := by decide +kernel
theorem dX4_lacks_19 : decode cX4_lacks 19 = .ok (.iload_n 2, 1) := by decide +kernel
theorem dX4_lacks_20 : decode cX4_lacks 20 = .ok (.if_icmp .eq 7, 3) := by decide +kernel
theorem dX4_lacks_23 : decode cX4_lacks 23 = .ok (.iconst 3, 1) := by decide +kernel
theorem dX4_lacks_24 : decode cX4_lacks 24 = .ok (.goto 24, 3) := by decide +kernel
theorem dX4_lacks_27 : decode cX4_lacks 27 = .ok (.iload_n 3, 1) := by decide +kernel
theorem dX4_lacks_28 : decode cX4_lacks 28 = .ok (.iconst 0, 1) := by decide +kernel
theorem dX4_lacks_29 : decode cX4_lacks 29 = .ok (.aload_n 0, 1) := by decide +kernel
theorem dX4_lacks_30 : decode cX4_lacks 30 = .ok (.getfield 47, 3) := by decide +kernel
theorem dX4_lacks_33 : decode cX4_lacks 33 = .ok (.iload_n 1, 1) := by decide +kernel
theorem dX4_lacks_34 : decode cX4_lacks 34 = .ok (.iaload, 1) := by decide +kernel
theorem dX4_lacks_35 : decode cX4_lacks 35 = .ok (.iconst 1, 1) := by decide +kernel
theorem dX4_lacks_36 : decode cX4_lacks 36 = .ok (.isub, 1) := by decide +kernel
theorem dX4_lacks_37 : decode cX4_lacks 37 = .ok (.invokestatic 65, 3) := by decide +kernel
theorem dX4_lacks_40 : decode cX4_lacks 40 = .ok (.ifCond .eq 7, 3) := by decide +kernel
theorem dX4_lacks_43 : decode cX4_lacks 43 = .ok (.iconst 0, 1) := by decide +kernel
theorem dX4_lacks_44 : decode cX4_lacks 44 = .ok (.goto 4, 3) := by decide +kernel
theorem dX4_lacks_47 : decode cX4_lacks 47 = .ok (.iconst 2, 1) := by decide +kernel
theorem dX4_lacks_48 : decode cX4_lacks 48 = .ok (.ireturn, 1) := by decide +kernel
theorem dX4_keep_0 : decode cX4_keep 0 = .ok (.aload_n 0, 1) := by decide +kernel
theorem dX4_keep_1 : decode cX4_keep 1 = .ok (.getfield 50, 3) := by decide +kernel
theorem dX4_keep_4 : decode cX4_keep 4 = .ok (.bipush 48, 2) := by decide +kernel
theorem dX4_keep_6 : decode cX4_keep 6 = .ok (.iload_n 1, 1) := by decide +kernel
theorem dX4_keep_7 : decode cX4_keep 7 = .ok (.imul, 1) := by decide +kernel
theorem dX4_keep_8 : decode cX4_keep 8 = .ok (.iload_n 2, 1) := by decide +kernel
theorem dX4_keep_9 : decode cX4_keep 9 = .ok (.iadd, 1) := by decide +kernel
theorem dX4_keep_10 : decode cX4_keep 10 = .ok (.aload_n 0, 1) := by decide +kernel
theorem dX4_keep_11 : decode cX4_keep 11 = .ok (.getfield 44, 3) := by decide +kernel
theorem dX4_keep_14 : decode cX4_keep 14 = .ok (.iload_n 1, 1) := by decide +kernel
theorem dX4_keep_15 : decode cX4_keep 15 = .ok (.iaload, 1) := by decide +kernel
theorem dX4_keep_16 : decode cX4_keep 16 = .ok (.ifCond .ne 8, 3) := by decide +kernel
theorem dX4_keep_19 : decode cX4_keep 19 = .ok (.iload_n 3, 1) := by decide +kernel
theorem dX4_keep_20 : decode cX4_keep 20 = .ok (.i2b, 1) := by decide +kernel
theorem dX4_keep_21 : decode cX4_keep 21 = .ok (.goto 19, 3) := by decide +kernel
theorem dX4_keep_24 : decode cX4_keep 24 = .ok (.aload_n 0, 1) := by decide +kernel
theorem dX4_keep_25 : decode cX4_keep 25 = .ok (.getfield 44, 3) := by decide +kernel
theorem dX4_keep_28 : decode cX4_keep 28 = .ok (.iload_n 1, 1) := by decide +kernel
theorem dX4_keep_29 : decode cX4_keep 29 = .ok (.iaload, 1) := by decide +kernel
theorem dX4_keep_30 : decode cX4_keep 30 = .ok (.iconst 1, 1) := by decide +kernel
theorem dX4_keep_31 : decode cX4_keep 31 = .ok (.if_icmp .ne 8, 3) := by decide +kernel
theorem dX4_keep_34 : decode cX4_keep 34 = .ok (.iload_n 3, 1) := by decide +kernel
theorem dX4_keep_35 : decode cX4_keep 35 = .ok (.i2s, 1) := by decide +kernel
theorem dX4_keep_36 : decode cX4_keep 36 = .ok (.goto 4, 3) := by decide +kernel
theorem dX4_keep_39 : decode cX4_keep 39 = .ok (.iload_n 3, 1) := by decide +kernel
theorem dX4_keep_40 : decode cX4_keep 40 = .ok (.iastore, 1) := by decide +kernel
theorem dX4_keep_41 : decode cX4_keep 41 = .ok (.return_, 1) := by decide +kernel
theorem dX4_put_0 : decode cX4_put 0 = .ok (.iload_n 1, 1) := by decide +kernel
theorem dX4_put_1 : decode cX4_put 1 = .ok (.invokestatic 111, 3) := by decide +kernel
theorem dX4_put_4 : decode cX4_put 4 = .ok (.ifCond .eq 12, 3) := by decide +kernel
theorem dX4_put_7 : decode cX4_put 7 = .ok (.iload_n 2, 1) := by decide +kernel
theorem dX4_put_8 : decode cX4_put 8 = .ok (.iconst 0, 1) := by decide +kernel
theorem dX4_put_9 : decode cX4_put 9 = .ok (.iconst 2, 1) := by decide +kernel
theorem dX4_put_10 : decode cX4_put 10 = .ok (.invokestatic 65, 3) := by decide +kernel
theorem dX4_put_13 : decode cX4_put 13 = .ok (.ifCond .ne 6, 3) := by decide +kernel
theorem dX4_put_16 : decode cX4_put 16 = .ok (.bipush (-2), 2) := by decide +kernel
theorem dX4_put_18 : decode cX4_put 18 = .ok (.ireturn, 1) := by decide +kernel
theorem dX4_put_19 : decode cX4_put 19 = .ok (.aload_n 0, 1) := by decide +kernel
theorem dX4_put_20 : decode cX4_put 20 = .ok (.iload_n 1, 1) := by decide +kernel
theorem dX4_put_21 : decode cX4_put 21 = .ok (.iload_n 2, 1) := by decide +kernel
theorem dX4_put_22 : decode cX4_put 22 = .ok (.iload_n 3, 1) := by decide +kernel
theorem dX4_put_23 : decode cX4_put 23 = .ok (.invokevirtual 225, 3) := by decide +kernel
theorem dX4_put_26 : decode cX4_put 26 = .ok (.istore 5, 2) := by decide +kernel
theorem dX4_put_28 : decode cX4_put 28 = .ok (.iload 5, 2) := by decide +kernel
theorem dX4_put_30 : decode cX4_put 30 = .ok (.ifCond .le 10, 3) := by decide +kernel
theorem dX4_put_33 : decode cX4_put 33 = .ok (.aload_n 0, 1) := by decide +kernel
theorem dX4_put_34 : decode cX4_put 34 = .ok (.iload 5, 2) := by decide +kernel
theorem dX4_put_36 : decode cX4_put 36 = .ok (.invokevirtual 114, 3) := by decide +kernel
theorem dX4_put_39 : decode cX4_put 39 = .ok (.ireturn, 1) := by decide +kernel
theorem dX4_put_40 : decode cX4_put 40 = .ok (.aload_n 0, 1) := by decide +kernel
theorem dX4_put_41 : decode cX4_put 41 = .ok (.iload_n 1, 1) := by decide +kernel
theorem dX4_put_42 : decode cX4_put 42 = .ok (.iload_n 3, 1) := by decide +kernel
theorem dX4_put_43 : decode cX4_put 43 = .ok (.iload 4, 2) := by decide +kernel
theorem dX4_put_45 : decode cX4_put 45 = .ok (.invokevirtual 228, 3) := by decide +kernel
theorem dX4_put_48 : decode cX4_put 48 = .ok (.iconst 1, 1) := by decide +kernel
theorem dX4_put_49 : decode cX4_put 49 = .ok (.ireturn, 1) := by decide +kernel
theorem dX4_get_0 : decode cX4_get 0 = .ok (.iload_n 1, 1) := by decide +kernel
theorem dX4_get_1 : decode cX4_get 1 = .ok (.invokestatic 111, 3) := by decide +kernel
theorem dX4_get_4 : decode cX4_get 4 = .ok (.ifCond .eq 12, 3) := by decide +kernel
theorem dX4_get_7 : decode cX4_get 7 = .ok (.iload_n 2, 1) := by decide +kernel
theorem dX4_get_8 : decode cX4_get 8 = .ok (.iconst 0, 1) := by decide +kernel
theorem dX4_get_9 : decode cX4_get 9 = .ok (.iconst 2, 1) := by decide +kernel
theorem dX4_get_10 : decode cX4_get 10 = .ok (.invokestatic 65, 3) := by decide +kernel
theorem dX4_get_13 : decode cX4_get 13 = .ok (.ifCond .ne 6, 3) := by decide +kernel
theorem dX4_get_16 : decode cX4_get 16 = .ok (.ldc 232, 2) := by decide +kernel
theorem dX4_get_18 : decode cX4_get 18 = .ok (.ireturn, 1) := by decide +kernel
theorem dX4_get_19 : decode cX4_get 19 = .ok (.aload_n 0, 1) := by decide +kernel
theorem dX4_get_20 : decode cX4_get 20 = .ok (.iload_n 1, 1) := by decide +kernel
theorem dX4_get_21 : decode cX4_get 21 = .ok (.iload_n 2, 1) := by decide +kernel
theorem dX4_get_22 : decode cX4_get 22 = .ok (.iload_n 3, 1) := by decide +kernel
theorem dX4_get_23 : decode cX4_get 23 = .ok (.invokevirtual 225, 3) := by decide +kernel
theorem dX4_get_26 : decode cX4_get 26 = .ok (.istore 4, 2) := by decide +kernel
theorem dX4_get_28 : decode cX4_get 28 = .ok (.iload 4, 2) := by decide +kernel
theorem dX4_get_30 : decode cX4_get 30 = .ok (.ifCond .le 12, 3) := by decide +kernel
theorem dX4_get_33 : decode cX4_get 33 = .ok (.aload_n 0, 1) := by decide +kernel
theorem dX4_get_34 : decode cX4_get 34 = .ok (.iload 4, 2) := by decide +kernel
theorem dX4_get_36 : decode cX4_get 36 = .ok (.putfield 222, 3) := by decide +kernel
theorem dX4_get_39 : decode cX4_get 39 = .ok (.ldc 232, 2) := by decide +kernel
theorem dX4_get_41 : decode cX4_get 41 = .ok (.ireturn, 1) := by decide +kernel
theorem dX4_get_42 : decode cX4_get 42 = .ok (.aload_n 0, 1) := by decide +kernel
theorem dX4_get_43 : decode cX4_get 43 = .ok (.getfield 50, 3) := by decide +kernel
theorem dX4_get_46 : decode cX4_get 46 = .ok (.bipush 48, 2) := by decide +kernel
theorem dX4_get_48 : decode cX4_get 48 = .ok (.iload_n 1, 1) := by decide +kernel
theorem dX4_get_49 : decode cX4_get 49 = .ok (.imul, 1) := by decide +kernel
theorem dX4_get_50 : decode cX4_get 50 = .ok (.iload_n 3, 1) := by decide +kernel
theorem dX4_get_51 : decode cX4_get 51 = .ok (.iadd, 1) := by decide +kernel
theorem dX4_get_52 : decode cX4_get 52 = .ok (.iaload, 1) := by decide +kernel
theorem dX4_get_53 : decode cX4_get 53 = .ok (.ireturn, 1) := by decide +kernel
theorem dX4_copy_0 : decode cX4_copy 0 = .ok (.iload_n 1, 1) := by decide +kernel
theorem dX4_copy_1 : decode cX4_copy 1 = .ok (.invokestatic 111, 3) := by decide +kernel
theorem dX4_copy_4 : decode cX4_copy 4 = .ok (.ifCond .eq 10, 3) := by decide +kernel
theorem dX4_copy_7 : decode cX4_copy 7 = .ok (.iload_n 3, 1) := by decide +kernel
theorem dX4_copy_8 : decode cX4_copy 8 = .ok (.invokestatic 111, 3) := by decide +kernel
theorem dX4_copy_11 : decode cX4_copy 11 = .ok (.ifCond .ne 6, 3) := by decide +kernel
theorem dX4_copy_14 : decode cX4_copy 14 = .ok (.bipush (-2), 2) := by decide +kernel
theorem dX4_copy_16 : decode cX4_copy 16 = .ok (.ireturn, 1) := by decide +kernel
theorem dX4_copy_17 : decode cX4_copy 17 = .ok (.aload_n 0, 1) := by decide +kernel
theorem dX4_copy_18 : decode cX4_copy 18 = .ok (.getfield 41, 3) := by decide +kernel
theorem dX4_copy_21 : decode cX4_copy 21 = .ok (.iload_n 1, 1) := by decide +kernel
theorem dX4_copy_22 : decode cX4_copy 22 = .ok (.baload, 1) := by decide +kernel
theorem dX4_copy_23 : decode cX4_copy 23 = .ok (.ifCond .eq 12, 3) := by decide +kernel
theorem dX4_copy_26 : decode cX4_copy 26 = .ok (.aload_n 0, 1) := by decide +kernel
theorem dX4_copy_27 : decode cX4_copy 27 = .ok (.getfield 41, 3) := by decide +kernel
theorem dX4_copy_30 : decode cX4_copy 30 = .ok (.iload_n 3, 1) := by decide +kernel
theorem dX4_copy_31 : decode cX4_copy 31 = .ok (.baload, 1) := by decide +kernel
theorem dX4_copy_32 : decode cX4_copy 32 = .ok (.ifCond .ne 9, 3) := by decide +kernel
theorem dX4_copy_35 : decode cX4_copy 35 = .ok (.aload_n 0, 1) := by decide +kernel
theorem dX4_copy_36 : decode cX4_copy 36 = .ok (.iconst 1, 1) := by decide +kernel
theorem dX4_copy_37 : decode cX4_copy 37 = .ok (.invokevirtual 114, 3) := by decide +kernel
theorem dX4_copy_40 : decode cX4_copy 40 = .ok (.ireturn, 1) := by decide +kernel
end
section
theorem dX4_copy_41 : decode cX4_copy 41 = .ok (.aload_n 0, 1) := by decide +kernel
theorem dX4_copy_42 : decode cX4_copy 42 = .ok (.getfield 44, 3) := by decide +kernel
theorem dX4_copy_45 : decode cX4_copy 45 = .ok (.iload_n 1, 1) := by decide +kernel
theorem dX4_copy_46 : decode cX4_copy 46 = .ok (.iaload, 1) := by decide +kernel
theorem dX4_copy_47 : decode cX4_copy 47 = .ok (.aload_n 0, 1) := by decide +kernel
theorem dX4_copy_48 : decode cX4_copy 48 = .ok (.getfield 44, 3) := by decide +kernel
theorem dX4_copy_51 : decode cX4_copy 51 = .ok (.iload_n 3, 1) := by decide +kernel
theorem dX4_copy_52 : decode cX4_copy 52 = .ok (.iaload, 1) := by decide +kernel
theorem dX4_copy_53 : decode cX4_copy 53 = .ok (.if_icmp .eq 9, 3) := by decide +kernel
theorem dX4_copy_56 : decode cX4_copy 56 = .ok (.aload_n 0, 1) := by decide +kernel
theorem dX4_copy_57 : decode cX4_copy 57 = .ok (.iconst 4, 1) := by decide +kernel
theorem dX4_copy_58 : decode cX4_copy 58 = .ok (.invokevirtual 114, 3) := by decide +kernel
theorem dX4_copy_61 : decode cX4_copy 61 = .ok (.ireturn, 1) := by decide +kernel
theorem dX4_copy_62 : decode cX4_copy 62 = .ok (.iload_n 2, 1) := by decide +kernel
theorem dX4_copy_63 : decode cX4_copy 63 = .ok (.ifCond .lt 48, 3) := by decide +kernel
theorem dX4_copy_66 : decode cX4_copy 66 = .ok (.iload 4, 2) := by decide +kernel
theorem dX4_copy_68 : decode cX4_copy 68 = .ok (.ifCond .lt 43, 3) := by decide +kernel
theorem dX4_copy_71 : decode cX4_copy 71 = .ok (.iload 5, 2) := by decide +kernel
theorem dX4_copy_73 : decode cX4_copy 73 = .ok (.ifCond .lt 38, 3) := by decide +kernel
theorem dX4_copy_76 : decode cX4_copy 76 = .ok (.iload_n 2, 1) := by decide +kernel
theorem dX4_copy_77 : decode cX4_copy 77 = .ok (.i2l, 1) := by decide +kernel
theorem dX4_copy_78 : decode cX4_copy 78 = .ok (.iload 5, 2) := by decide +kernel
theorem dX4_copy_80 : decode cX4_copy 80 = .ok (.i2l, 1) := by decide +kernel
theorem dX4_copy_81 : decode cX4_copy 81 = .ok (.ladd, 1) := by decide +kernel
theorem dX4_copy_82 : decode cX4_copy 82 = .ok (.aload_n 0, 1) := by decide +kernel
theorem dX4_copy_83 : decode cX4_copy 83 = .ok (.getfield 47, 3) := by decide +kernel
theorem dX4_copy_86 : decode cX4_copy 86 = .ok (.iload_n 1, 1) := by decide +kernel
theorem dX4_copy_87 : decode cX4_copy 87 = .ok (.iaload, 1) := by decide +kernel
theorem dX4_copy_88 : decode cX4_copy 88 = .ok (.i2l, 1) := by decide +kernel
theorem dX4_copy_89 : decode cX4_copy 89 = .ok (.lcmp, 1) := by decide +kernel
theorem dX4_copy_90 : decode cX4_copy 90 = .ok (.ifCond .gt 21, 3) := by decide +kernel
theorem dX4_copy_93 : decode cX4_copy 93 = .ok (.iload 4, 2) := by decide +kernel
theorem dX4_copy_95 : decode cX4_copy 95 = .ok (.i2l, 1) := by decide +kernel
theorem dX4_copy_96 : decode cX4_copy 96 = .ok (.iload 5, 2) := by decide +kernel
theorem dX4_copy_98 : decode cX4_copy 98 = .ok (.i2l, 1) := by decide +kernel
theorem dX4_copy_99 : decode cX4_copy 99 = .ok (.ladd, 1) := by decide +kernel
theorem dX4_copy_100 : decode cX4_copy 100 = .ok (.aload_n 0, 1) := by decide +kernel
theorem dX4_copy_101 : decode cX4_copy 101 = .ok (.getfield 47, 3) := by decide +kernel
theorem dX4_copy_104 : decode cX4_copy 104 = .ok (.iload_n 3, 1) := by decide +kernel
theorem dX4_copy_105 : decode cX4_copy 105 = .ok (.iaload, 1) := by decide +kernel
theorem dX4_copy_106 : decode cX4_copy 106 = .ok (.i2l, 1) := by decide +kernel
theorem dX4_copy_107 : decode cX4_copy 107 = .ok (.lcmp, 1) := by decide +kernel
theorem dX4_copy_108 : decode cX4_copy 108 = .ok (.ifCond .le 9, 3) := by decide +kernel
theorem dX4_copy_111 : decode cX4_copy 111 = .ok (.aload_n 0, 1) := by decide +kernel
theorem dX4_copy_112 : decode cX4_copy 112 = .ok (.iconst 2, 1) := by decide +kernel
theorem dX4_copy_113 : decode cX4_copy 113 = .ok (.invokevirtual 114, 3) := by decide +kernel
theorem dX4_copy_116 : decode cX4_copy 116 = .ok (.ireturn, 1) := by decide +kernel
theorem dX4_copy_117 : decode cX4_copy 117 = .ok (.iconst 0, 1) := by decide +kernel
theorem dX4_copy_118 : decode cX4_copy 118 = .ok (.istore 6, 2) := by decide +kernel
theorem dX4_copy_120 : decode cX4_copy 120 = .ok (.iload 6, 2) := by decide +kernel
theorem dX4_copy_122 : decode cX4_copy 122 = .ok (.iload 5, 2) := by decide +kernel
theorem dX4_copy_124 : decode cX4_copy 124 = .ok (.if_icmp .ge 30, 3) := by decide +kernel
theorem dX4_copy_127 : decode cX4_copy 127 = .ok (.aload_n 0, 1) := by decide +kernel
theorem dX4_copy_128 : decode cX4_copy 128 = .ok (.getfield 53, 3) := by decide +kernel
theorem dX4_copy_131 : decode cX4_copy 131 = .ok (.iload 6, 2) := by decide +kernel
theorem dX4_copy_133 : decode cX4_copy 133 = .ok (.aload_n 0, 1) := by decide +kernel
theorem dX4_copy_134 : decode cX4_copy 134 = .ok (.getfield 50, 3) := by decide +kernel
theorem dX4_copy_137 : decode cX4_copy 137 = .ok (.bipush 48, 2) := by decide +kernel
theorem dX4_copy_139 : decode cX4_copy 139 = .ok (.iload_n 1, 1) := by decide +kernel
theorem dX4_copy_140 : decode cX4_copy 140 = .ok (.imul, 1) := by decide +kernel
theorem dX4_copy_141 : decode cX4_copy 141 = .ok (.iload_n 2, 1) := by decide +kernel
theorem dX4_copy_142 : decode cX4_copy 142 = .ok (.iadd, 1) := by decide +kernel
theorem dX4_copy_143 : decode cX4_copy 143 = .ok (.iload 6, 2) := by decide +kernel
theorem dX4_copy_145 : decode cX4_copy 145 = .ok (.iadd, 1) := by decide +kernel
theorem dX4_copy_146 : decode cX4_copy 146 = .ok (.iaload, 1) := by decide +kernel
theorem dX4_copy_147 : decode cX4_copy 147 = .ok (.iastore, 1) := by decide +kernel
theorem dX4_copy_148 : decode cX4_copy 148 = .ok (.iinc 6 1, 3) := by decide +kernel
theorem dX4_copy_151 : decode cX4_copy 151 = .ok (.goto (-31), 3) := by decide +kernel
theorem dX4_copy_154 : decode cX4_copy 154 = .ok (.iconst 0, 1) := by decide +kernel
theorem dX4_copy_155 : decode cX4_copy 155 = .ok (.istore 6, 2) := by decide +kernel
theorem dX4_copy_157 : decode cX4_copy 157 = .ok (.iload 6, 2) := by decide +kernel
theorem dX4_copy_159 : decode cX4_copy 159 = .ok (.iload 5, 2) := by decide +kernel
theorem dX4_copy_161 : decode cX4_copy 161 = .ok (.if_icmp .ge 31, 3) := by decide +kernel
theorem dX4_copy_164 : decode cX4_copy 164 = .ok (.aload_n 0, 1) := by decide +kernel
theorem dX4_copy_165 : decode cX4_copy 165 = .ok (.getfield 50, 3) := by decide +kernel
theorem dX4_copy_168 : decode cX4_copy 168 = .ok (.bipush 48, 2) := by decide +kernel
theorem dX4_copy_170 : decode cX4_copy 170 = .ok (.iload_n 3, 1) := by decide +kernel
theorem dX4_copy_171 : decode cX4_copy 171 = .ok (.imul, 1) := by decide +kernel
theorem dX4_copy_172 : decode cX4_copy 172 = .ok (.iload 4, 2) := by decide +kernel
theorem dX4_copy_174 : decode cX4_copy 174 = .ok (.iadd, 1) := by decide +kernel
theorem dX4_copy_175 : decode cX4_copy 175 = .ok (.iload 6, 2) := by decide +kernel
theorem dX4_copy_177 : decode cX4_copy 177 = .ok (.iadd, 1) := by decide +kernel
theorem dX4_copy_178 : decode cX4_copy 178 = .ok (.aload_n 0, 1) := by decide +kernel
theorem dX4_copy_179 : decode cX4_copy 179 = .ok (.getfield 53, 3) := by decide +kernel
theorem dX4_copy_182 : decode cX4_copy 182 = .ok (.iload 6, 2) := by decide +kernel
theorem dX4_copy_184 : decode cX4_copy 184 = .ok (.iaload, 1) := by decide +kernel
theorem dX4_copy_185 : decode cX4_copy 185 = .ok (.iastore, 1) := by decide +kernel
theorem dX4_copy_186 : decode cX4_copy 186 = .ok (.iinc 6 1, 3) := by decide +kernel
theorem dX4_copy_189 : decode cX4_copy 189 = .ok (.goto (-32), 3) := by decide +kernel
theorem dX4_copy_192 : decode cX4_copy 192 = .ok (.iconst 1, 1) := by decide +kernel
theorem dX4_copy_193 : decode cX4_copy 193 = .ok (.ireturn, 1) := by decide +kernel
theorem dX4_write_0 : decode cX4_write 0 = .ok (.aload_n 0, 1) := by decide +kernel
theorem dX4_write_1 : decode cX4_write 1 = .ok (.iload_n 1, 1) := by decide +kernel
theorem dX4_write_2 : decode cX4_write 2 = .ok (.invokevirtual 102, 3) := by decide +kernel
theorem dX4_write_5 : decode cX4_write 5 = .ok (.ifCond .eq 10, 3) := by decide +kernel
theorem dX4_write_8 : decode cX4_write 8 = .ok (.iload_n 2, 1) := by decide +kernel
theorem dX4_write_9 : decode cX4_write 9 = .ok (.invokestatic 111, 3) := by decide +kernel
theorem dX4_write_12 : decode cX4_write 12 = .ok (.ifCond .ne 6, 3) := by decide +kernel
theorem dX4_write_15 : decode cX4_write 15 = .ok (.bipush (-2), 2) := by decide +kernel
theorem dX4_write_17 : decode cX4_write 17 = .ok (.ireturn, 1) := by decide +kernel
theorem dX4_write_18 : decode cX4_write 18 = .ok (.aload_n 0, 1) := by decide +kernel
theorem dX4_write_19 : decode cX4_write 19 = .ok (.getfield 41, 3) := by decide +kernel
theorem dX4_write_22 : decode cX4_write 22 = .ok (.iload_n 2, 1) := by decide +kernel
theorem dX4_write_23 : decode cX4_write 23 = .ok (.baload, 1) := by decide +kernel
theorem dX4_write_24 : decode cX4_write 24 = .ok (.ifCond .ne 9, 3) := by decide +kernel
theorem dX4_write_27 : decode cX4_write 27 = .ok (.aload_n 0, 1) := by decide +kernel
theorem dX4_write_28 : decode cX4_write 28 = .ok (.iconst 1, 1) := by decide +kernel
theorem dX4_write_29 : decode cX4_write 29 = .ok (.invokevirtual 114, 3) := by decide +kernel
theorem dX4_write_32 : decode cX4_write 32 = .ok (.ireturn, 1) := by decide +kernel
theorem dX4_write_33 : decode cX4_write 33 = .ok (.iconst 0, 1) := by decide +kernel
theorem dX4_write_34 : decode cX4_write 34 = .ok (.istore_n 3, 1) := by decide +kernel
theorem dX4_write_35 : decode cX4_write 35 = .ok (.iload_n 3, 1) := by decide +kernel
theorem dX4_write_36 : decode cX4_write 36 = .ok (.aload_n 0, 1) := by decide +kernel
theorem dX4_write_37 : decode cX4_write 37 = .ok (.getfield 47, 3) := by decide +kernel
theorem dX4_write_40 : decode cX4_write 40 = .ok (.iload_n 2, 1) := by decide +kernel
theorem dX4_write_41 : decode cX4_write 41 = .ok (.iaload, 1) := by decide +kernel
theorem dX4_write_42 : decode cX4_write 42 = .ok (.if_icmp .ge 29, 3) := by decide +kernel
theorem dX4_write_45 : decode cX4_write 45 = .ok (.iload_n 3, 1) := by decide +kernel
theorem dX4_write_46 : decode cX4_write 46 = .ok (.aload_n 0, 1) := by decide +kernel
theorem dX4_write_47 : decode cX4_write 47 = .ok (.getfield 72, 3) := by decide +kernel
theorem dX4_write_50 : decode cX4_write 50 = .ok (.if_icmp .ge 21, 3) := by decide +kernel
theorem dX4_write_53 : decode cX4_write 53 = .ok (.aload_n 0, 1) := by decide +kernel
theorem dX4_write_54 : decode cX4_write 54 = .ok (.iload_n 2, 1) := by decide +kernel
theorem dX4_write_55 : decode cX4_write 55 = .ok (.iload_n 3, 1) := by decide +kernel
theorem dX4_write_56 : decode cX4_write 56 = .ok (.aload_n 0, 1) := by decide +kernel
theorem dX4_write_57 : decode cX4_write 57 = .ok (.iload_n 1, 1) := by decide +kernel
theorem dX4_write_58 : decode cX4_write 58 = .ok (.iload_n 3, 1) := by decide +kernel
theorem dX4_write_59 : decode cX4_write 59 = .ok (.invokevirtual 150, 3) := by decide +kernel
theorem dX4_write_62 : decode cX4_write 62 = .ok (.invokevirtual 228, 3) := by decide +kernel
theorem dX4_write_65 : decode cX4_write 65 = .ok (.iinc 3 1, 3) := by decide +kernel
theorem dX4_write_68 : decode cX4_write 68 = .ok (.goto (-33), 3) := by decide +kernel
theorem dX4_write_71 : decode cX4_write 71 = .ok (.iload_n 3, 1) := by decide +kernel
theorem dX4_write_72 : decode cX4_write 72 = .ok (.ireturn, 1) := by decide +kernel
theorem dX4_sumOf_0 : decode cX4_sumOf 0 = .ok (.aload_n 0, 1) := by decide +kernel
theorem dX4_sumOf_1 : decode cX4_sumOf 1 = .ok (.invokevirtual 89, 3) := by decide +kernel
theorem dX4_sumOf_4 : decode cX4_sumOf 4 = .ok (.aload_n 0, 1) := by decide +kernel
theorem dX4_sumOf_5 : decode cX4_sumOf 5 = .ok (.iconst (-1), 1) := by decide +kernel
theorem dX4_sumOf_6 : decode cX4_sumOf 6 = .ok (.invokevirtual 167, 3) := by decide +kernel
theorem dX4_sumOf_9 : decode cX4_sumOf 9 = .ok (.iconst 0, 1) := by decide +kernel
theorem dX4_sumOf_10 : decode cX4_sumOf 10 = .ok (.istore_n 2, 1) := by decide +kernel
theorem dX4_sumOf_11 : decode cX4_sumOf 11 = .ok (.iconst 0, 1) := by decide +kernel
theorem dX4_sumOf_12 : decode cX4_sumOf 12 = .ok (.istore_n 3, 1) := by decide +kernel
theorem dX4_sumOf_13 : decode cX4_sumOf 13 = .ok (.iload_n 3, 1) := by decide +kernel
theorem dX4_sumOf_14 : decode cX4_sumOf 14 = .ok (.aload_n 0, 1) := by decide +kernel
theorem dX4_sumOf_15 : decode cX4_sumOf 15 = .ok (.getfield 72, 3) := by decide +kernel
theorem dX4_sumOf_18 : decode cX4_sumOf 18 = .ok (.if_icmp .ge 43, 3) := by decide +kernel
theorem dX4_sumOf_21 : decode cX4_sumOf 21 = .ok (.iload_n 2, 1) := by decide +kernel
theorem dX4_sumOf_22 : decode cX4_sumOf 22 = .ok (.iload_n 1, 1) := by decide +kernel
theorem dX4_sumOf_23 : decode cX4_sumOf 23 = .ok (.bipush 6, 2) := by decide +kernel
theorem dX4_sumOf_25 : decode cX4_sumOf 25 = .ok (.if_icmp .ne 15, 3) := by decide +kernel
theorem dX4_sumOf_28 : decode cX4_sumOf 28 = .ok (.aload_n 0, 1) := by decide +kernel
theorem dX4_sumOf_29 : decode cX4_sumOf 29 = .ok (.getfield 29, 3) := by decide +kernel
theorem dX4_sumOf_32 : decode cX4_sumOf 32 = .ok (.iload_n 3, 1) := by decide +kernel
theorem dX4_sumOf_33 : decode cX4_sumOf 33 = .ok (.baload, 1) := by decide +kernel
theorem dX4_sumOf_34 : decode cX4_sumOf 34 = .ok (.ifCond .eq 18, 3) := by decide +kernel
theorem dX4_sumOf_37 : decode cX4_sumOf 37 = .ok (.goto 11, 3) := by decide +kernel
theorem dX4_sumOf_40 : decode cX4_sumOf 40 = .ok (.aload_n 0, 1) := by decide +kernel
theorem dX4_sumOf_41 : decode cX4_sumOf 41 = .ok (.iload_n 3, 1) := by decide +kernel
theorem dX4_sumOf_42 : decode cX4_sumOf 42 = .ok (.invokevirtual 105, 3) := by decide +kernel
theorem dX4_sumOf_45 : decode cX4_sumOf 45 = .ok (.ifCond .eq 7, 3) := by decide +kernel
theorem dX4_sumOf_48 : decode cX4_sumOf 48 = .ok (.iconst 1, 1) := by decide +kernel
theorem dX4_sumOf_49 : decode cX4_sumOf 49 = .ok (.goto 4, 3) := by decide +kernel
theorem dX4_sumOf_52 : decode cX4_sumOf 52 = .ok (.iconst 0, 1) := by decide +kernel
theorem dX4_sumOf_53 : decode cX4_sumOf 53 = .ok (.iadd, 1) := by decide +kernel
theorem dX4_sumOf_54 : decode cX4_sumOf 54 = .ok (.istore_n 2, 1) := by decide +kernel
theorem dX4_sumOf_55 : decode cX4_sumOf 55 = .ok (.iinc 3 1, 3) := by decide +kernel
theorem dX4_sumOf_58 : decode cX4_sumOf 58 = .ok (.goto (-45), 3) := by decide +kernel
theorem dX4_sumOf_61 : decode cX4_sumOf 61 = .ok (.iload_n 1, 1) := by decide +kernel
theorem dX4_sumOf_62 : decode cX4_sumOf 62 = .ok (.ifCond .ne 10, 3) := by decide +kernel
theorem dX4_sumOf_65 : decode cX4_sumOf 65 = .ok (.aload_n 0, 1) := by decide +kernel
theorem dX4_sumOf_66 : decode cX4_sumOf 66 = .ok (.getfield 72, 3) := by decide +kernel
theorem dX4_sumOf_69 : decode cX4_sumOf 69 = .ok (.goto 28, 3) := by decide +kernel
theorem dX4_sumOf_72 : decode cX4_sumOf 72 = .ok (.iload_n 1, 1) := by decide +kernel
theorem dX4_sumOf_73 : decode cX4_sumOf 73 = .ok (.iconst 1, 1) := by decide +kernel
theorem dX4_sumOf_74 : decode cX4_sumOf 74 = .ok (.if_icmp .ne 10, 3) := by decide +kernel
theorem dX4_sumOf_77 : decode cX4_sumOf 77 = .ok (.aload_n 0, 1) := by decide +kernel
theorem dX4_sumOf_78 : decode cX4_sumOf 78 = .ok (.getfield 75, 3) := by decide +kernel
theorem dX4_sumOf_81 : decode cX4_sumOf 81 = .ok (.goto 16, 3) := by decide +kernel
theorem dX4_sumOf_84 : decode cX4_sumOf 84 = .ok (.iload_n 1, 1) := by decide +kernel
theorem dX4_sumOf_85 : decode cX4_sumOf 85 = .ok (.iconst 5, 1) := by decide +kernel
theorem dX4_sumOf_86 : decode cX4_sumOf 86 = .ok (.if_icmp .ne 10, 3) := by decide +kernel
theorem dX4_sumOf_89 : decode cX4_sumOf 89 = .ok (.aload_n 0, 1) := by decide +kernel
theorem dX4_sumOf_90 : decode cX4_sumOf 90 = .ok (.invokevirtual 203, 3) := by decide +kernel
theorem dX4_sumOf_93 : decode cX4_sumOf 93 = .ok (.goto 4, 3) := by decide +kernel
theorem dX4_sumOf_96 : decode cX4_sumOf 96 = .ok (.iload_n 2, 1) := by decide +kernel
theorem dX4_sumOf_97 : decode cX4_sumOf 97 = .ok (.ireturn, 1) := by decide +kernel
theorem dX4_count_0 : decode cX4_count 0 = .ok (.iload_n 1, 1) := by decide +kernel
theorem dX4_count_1 : decode cX4_count 1 = .ok (.tableswitch 77 0 8 #[51, 51, 57, 62, 67, 51, 51, 51, 72], 51) := by decide +kernel
theorem dX4_count_52 : decode cX4_count 52 = .ok (.aload_n 0, 1) := by decide +kernel
theorem dX4_count_53 : decode cX4_count 53 = .ok (.iload_n 1, 1) := by decide +kernel
theorem dX4_count_54 : decode cX4_count 54 = .ok (.invokevirtual 233, 3) := by decide +kernel
theorem dX4_count_57 : decode cX4_count 57 = .ok (.ireturn, 1) := by decide +kernel
theorem dX4_count_58 : decode cX4_count 58 = .ok (.aload_n 0, 1) := by decide +kernel
theorem dX4_count_59 : decode cX4_count 59 = .ok (.getfield 69, 3) := by decide +kernel
theorem dX4_count_62 : decode cX4_count 62 = .ok (.ireturn, 1) := by decide +kernel
theorem dX4_count_63 : decode cX4_count 63 = .ok (.aload_n 0, 1) := by decide +kernel
theorem dX4_count_64 : decode cX4_count 64 = .ok (.getfield 108, 3) := by decide +kernel
theorem dX4_count_67 : decode cX4_count 67 = .ok (.ireturn, 1) := by decide +kernel
theorem dX4_count_68 : decode cX4_count 68 = .ok (.aload_n 0, 1) := by decide +kernel
theorem dX4_count_69 : decode cX4_count 69 = .ok (.getfield 185, 3) := by decide +kernel
theorem dX4_count_72 : decode cX4_count 72 = .ok (.ireturn, 1) := by decide +kernel
theorem dX4_count_73 : decode cX4_count 73 = .ok (.aload_n 0, 1) := by decide +kernel
theorem dX4_count_74 : decode cX4_count 74 = .ok (.getfield 222, 3) := by decide +kernel
theorem dX4_count_77 : decode cX4_count 77 = .ok (.ireturn, 1) := by decide +kernel
theorem dX4_count_78 : decode cX4_count 78 = .ok (.bipush (-2), 2) := by decide +kernel
theorem dX4_count_80 : decode cX4_count 80 = .ok (.ireturn, 1) := by decide +kernel
theorem dX4_cellDigest_0 : decode cX4_cellDigest 0 = .ok (.lload_n 1, 1) := by decide +kernel
theorem dX4_cellDigest_1 : decode cX4_cellDigest 1 = .ok (.lstore 4, 2) := by decide +kernel
theorem dX4_cellDigest_3 : decode cX4_cellDigest 3 = .ok (.iconst 0, 1) := by decide +kernel
theorem dX4_cellDigest_4 : decode cX4_cellDigest 4 = .ok (.istore 6, 2) := by decide +kernel
theorem dX4_cellDigest_6 : decode cX4_cellDigest 6 = .ok (.iload 6, 2) := by decide +kernel
theorem dX4_cellDigest_8 : decode cX4_cellDigest 8 = .ok (.iconst 3, 1) := by decide +kernel
theorem dX4_cellDigest_9 : decode cX4_cellDigest 9 = .ok (.if_icmp .ge 26, 3) := by decide +kernel
theorem dX4_cellDigest_12 : decode cX4_cellDigest 12 = .ok (.ldc2_w 236, 3) := by decide +kernel
theorem dX4_cellDigest_15 : decode cX4_cellDigest 15 = .ok (.lload 4, 2) := by decide +kernel
theorem dX4_cellDigest_17 : decode cX4_cellDigest 17 = .ok (.lmul, 1) := by decide +kernel
theorem dX4_cellDigest_18 : decode cX4_cellDigest 18 = .ok (.aload_n 0, 1) := by decide +kernel
theorem dX4_cellDigest_19 : decode cX4_cellDigest 19 = .ok (.iload_n 3, 1) := by decide +kernel
theorem dX4_cellDigest_20 : decode cX4_cellDigest 20 = .ok (.iload 6, 2) := by decide +kernel
theorem dX4_cellDigest_22 : decode cX4_cellDigest 22 = .ok (.invokevirtual 238, 3) := by decide +kernel
theorem dX4_cellDigest_25 : decode cX4_cellDigest 25 = .ok (.i2l, 1) := by decide +kernel
theorem dX4_cellDigest_26 : decode cX4_cellDigest 26 = .ok (.ladd, 1) := by decide +kernel
theorem dX4_cellDigest_27 : decode cX4_cellDigest 27 = .ok (.lstore 4, 2) := by decide +kernel
theorem dX4_cellDigest_29 : decode cX4_cellDigest 29 = .ok (.iinc 6 1, 3) := by decide +kernel
theorem dX4_cellDigest_32 : decode cX4_cellDigest 32 = .ok (.goto (-26), 3) := by decide +kernel
theorem dX4_cellDigest_35 : decode cX4_cellDigest 35 = .ok (.ldc2_w 236, 3) := by decide +kernel
theorem dX4_cellDigest_38 : decode cX4_cellDigest 38 = .ok (.lload 4, 2) := by decide +kernel
theorem dX4_cellDigest_40 : decode cX4_cellDigest 40 = .ok (.lmul, 1) := by decide +kernel
theorem dX4_cellDigest_41 : decode cX4_cellDigest 41 = .ok (.aload_n 0, 1) := by decide +kernel
theorem dX4_cellDigest_42 : decode cX4_cellDigest 42 = .ok (.iload_n 3, 1) := by decide +kernel
theorem dX4_cellDigest_43 : decode cX4_cellDigest 43 = .ok (.invokevirtual 160, 3) := by decide +kernel
theorem dX4_cellDigest_46 : decode cX4_cellDigest 46 = .ok (.i2l, 1) := by decide +kernel
theorem dX4_cellDigest_47 : decode cX4_cellDigest 47 = .ok (.ladd, 1) := by decide +kernel
theorem dX4_cellDigest_48 : decode cX4_cellDigest 48 = .ok (.lstore 4, 2) := by decide +kernel
theorem dX4_cellDigest_50 : decode cX4_cellDigest 50 = .ok (.ldc2_w 236, 3) := by decide +kernel
theorem dX4_cellDigest_53 : decode cX4_cellDigest 53 = .ok (.lload 4, 2) := by decide +kernel
theorem dX4_cellDigest_55 : decode cX4_cellDigest 55 = .ok (.lmul, 1) := by decide +kernel
theorem dX4_cellDigest_56 : decode cX4_cellDigest 56 = .ok (.aload_n 0, 1) := by decide +kernel
theorem dX4_cellDigest_57 : decode cX4_cellDigest 57 = .ok (.iload_n 3, 1) := by decide +kernel
theorem dX4_cellDigest_58 : decode cX4_cellDigest 58 = .ok (.invokevirtual 170, 3) := by decide +kernel
theorem dX4_cellDigest_61 : decode cX4_cellDigest 61 = .ok (.i2l, 1) := by decide +kernel
theorem dX4_cellDigest_62 : decode cX4_cellDigest 62 = .ok (.ladd, 1) := by decide +kernel
theorem dX4_cellDigest_63 : decode cX4_cellDigest 63 = .ok (.lstore 4, 2) := by decide +kernel
theorem dX4_cellDigest_65 : decode cX4_cellDigest 65 = .ok (.ldc2_w 236, 3) := by decide +kernel
theorem dX4_cellDigest_68 : decode cX4_cellDigest 68 = .ok (.lload 4, 2) := by decide +kernel
theorem dX4_cellDigest_70 : decode cX4_cellDigest 70 = .ok (.lmul, 1) := by decide +kernel
theorem dX4_cellDigest_71 : decode cX4_cellDigest 71 = .ok (.aload_n 0, 1) := by decide +kernel
theorem dX4_cellDigest_72 : decode cX4_cellDigest 72 = .ok (.iload_n 3, 1) := by decide +kernel
theorem dX4_cellDigest_73 : decode cX4_cellDigest 73 = .ok (.iconst 0, 1) := by decide +kernel
theorem dX4_cellDigest_74 : decode cX4_cellDigest 74 = .ok (.invokevirtual 150, 3) := by decide +kernel
theorem dX4_cellDigest_77 : decode cX4_cellDigest 77 = .ok (.i2l, 1) := by decide +kernel
theorem dX4_cellDigest_78 : decode cX4_cellDigest 78 = .ok (.ladd, 1) := by decide +kernel
theorem dX4_cellDigest_79 : decode cX4_cellDigest 79 = .ok (.lstore 4, 2) := by decide +kernel
theorem dX4_cellDigest_81 : decode cX4_cellDigest 81 = .ok (.ldc2_w 236, 3) := by decide +kernel
theorem dX4_cellDigest_84 : decode cX4_cellDigest 84 = .ok (.lload 4, 2) := by decide +kernel
theorem dX4_cellDigest_86 : decode cX4_cellDigest 86 = .ok (.lmul, 1) := by decide +kernel
theorem dX4_cellDigest_87 : decode cX4_cellDigest 87 = .ok (.aload_n 0, 1) := by decide +kernel
theorem dX4_cellDigest_88 : decode cX4_cellDigest 88 = .ok (.iconst 0, 1) := by decide +kernel
theorem dX4_cellDigest_89 : decode cX4_cellDigest 89 = .ok (.iload_n 3, 1) := by decide +kernel
theorem dX4_cellDigest_90 : decode cX4_cellDigest 90 = .ok (.invokevirtual 153, 3) := by decide +kernel
theorem dX4_cellDigest_93 : decode cX4_cellDigest 93 = .ok (.i2l, 1) := by decide +kernel
theorem dX4_cellDigest_94 : decode cX4_cellDigest 94 = .ok (.ladd, 1) := by decide +kernel
theorem dX4_cellDigest_95 : decode cX4_cellDigest 95 = .ok (.lstore 4, 2) := by decide +kernel
theorem dX4_cellDigest_97 : decode cX4_cellDigest 97 = .ok (.ldc2_w 236, 3) := by decide +kernel
theorem dX4_cellDigest_100 : decode cX4_cellDigest 100 = .ok (.lload 4, 2) := by decide +kernel
theorem dX4_cellDigest_102 : decode cX4_cellDigest 102 = .ok (.lmul, 1) := by decide +kernel
theorem dX4_cellDigest_103 : decode cX4_cellDigest 103 = .ok (.aload_n 0, 1) := by decide +kernel
theorem dX4_cellDigest_104 : decode cX4_cellDigest 104 = .ok (.iload_n 3, 1) := by decide +kernel
theorem dX4_cellDigest_105 : decode cX4_cellDigest 105 = .ok (.iconst 2, 1) := by decide +kernel
theorem dX4_cellDigest_106 : decode cX4_cellDigest 106 = .ok (.iconst (-1), 1) := by decide +kernel
theorem dX4_cellDigest_107 : decode cX4_cellDigest 107 = .ok (.invokevirtual 194, 3) := by decide +kernel
theorem dX4_cellDigest_110 : decode cX4_cellDigest 110 = .ok (.i2l, 1) := by decide +kernel
theorem dX4_cellDigest_111 : decode cX4_cellDigest 111 = .ok (.ladd, 1) := by decide +kernel
theorem dX4_cellDigest_112 : decode cX4_cellDigest 112 = .ok (.lstore 4, 2) := by decide +kernel
theorem dX4_cellDigest_114 : decode cX4_cellDigest 114 = .ok (.ldc2_w 236, 3) := by decide +kernel
theorem dX4_cellDigest_117 : decode cX4_cellDigest 117 = .ok (.lload 4, 2) := by decide +kernel
theorem dX4_cellDigest_119 : decode cX4_cellDigest 119 = .ok (.lmul, 1) := by decide +kernel
theorem dX4_cellDigest_120 : decode cX4_cellDigest 120 = .ok (.aload_n 0, 1) := by decide +kernel
theorem dX4_cellDigest_121 : decode cX4_cellDigest 121 = .ok (.iload_n 3, 1) := by decide +kernel
theorem dX4_cellDigest_122 : decode cX4_cellDigest 122 = .ok (.iconst 2, 1) := by decide +kernel
theorem dX4_cellDigest_123 : decode cX4_cellDigest 123 = .ok (.iconst 0, 1) := by decide +kernel
theorem dX4_cellDigest_124 : decode cX4_cellDigest 124 = .ok (.invokevirtual 194, 3) := by decide +kernel
theorem dX4_cellDigest_127 : decode cX4_cellDigest 127 = .ok (.i2l, 1) := by decide +kernel
theorem dX4_cellDigest_128 : decode cX4_cellDigest 128 = .ok (.ladd, 1) := by decide +kernel
theorem dX4_cellDigest_129 : decode cX4_cellDigest 129 = .ok (.lreturn, 1) := by decide +kernel
theorem dX4_digest_0 : decode cX4_digest 0 = .ok (.ldc2_w 241, 3) := by decide +kernel
theorem dX4_digest_3 : decode cX4_digest 3 = .ok (.lstore_n 1, 1) := by decide +kernel
theorem dX4_digest_4 : decode cX4_digest 4 = .ok (.iconst 0, 1) := by decide +kernel
theorem dX4_digest_5 : decode cX4_digest 5 = .ok (.istore_n 3, 1) := by decide +kernel
theorem dX4_digest_6 : decode cX4_digest 6 = .ok (.iload_n 3, 1) := by decide +kernel
theorem dX4_digest_7 : decode cX4_digest 7 = .ok (.bipush 8, 2) := by decide +kernel
theorem dX4_digest_9 : decode cX4_digest 9 = .ok (.if_icmp .ge 22, 3) := by decide +kernel
theorem dX4_digest_12 : decode cX4_digest 12 = .ok (.ldc2_w 236, 3) := by decide +kernel
theorem dX4_digest_15 : decode cX4_digest 15 = .ok (.lload_n 1, 1) := by decide +kernel
theorem dX4_digest_16 : decode cX4_digest 16 = .ok (.lmul, 1) := by decide +kernel
theorem dX4_digest_17 : decode cX4_digest 17 = .ok (.aload_n 0, 1) := by decide +kernel
theorem dX4_digest_18 : decode cX4_digest 18 = .ok (.iload_n 3, 1) := by decide +kernel
theorem dX4_digest_19 : decode cX4_digest 19 = .ok (.invokevirtual 243, 3) := by decide +kernel
theorem dX4_digest_22 : decode cX4_digest 22 = .ok (.i2l, 1) := by decide +kernel
theorem dX4_digest_23 : decode cX4_digest 23 = .ok (.ladd, 1) := by decide +kernel
theorem dX4_digest_24 : decode cX4_digest 24 = .ok (.lstore_n 1, 1) := by decide +kernel
theorem dX4_digest_25 : decode cX4_digest 25 = .ok (.iinc 3 1, 3) := by decide +kernel
theorem dX4_digest_28 : decode cX4_digest 28 = .ok (.goto (-22), 3) := by decide +kernel
theorem dX4_digest_31 : decode cX4_digest 31 = .ok (.ldc2_w 236, 3) := by decide +kernel
theorem dX4_digest_34 : decode cX4_digest 34 = .ok (.lload_n 1, 1) := by decide +kernel
theorem dX4_digest_35 : decode cX4_digest 35 = .ok (.lmul, 1) := by decide +kernel
theorem dX4_digest_36 : decode cX4_digest 36 = .ok (.aload_n 0, 1) := by decide +kernel
theorem dX4_digest_37 : decode cX4_digest 37 = .ok (.invokevirtual 85, 3) := by decide +kernel
theorem dX4_digest_40 : decode cX4_digest 40 = .ok (.i2l, 1) := by decide +kernel
theorem dX4_digest_41 : decode cX4_digest 41 = .ok (.ladd, 1) := by decide +kernel
theorem dX4_digest_42 : decode cX4_digest 42 = .ok (.lstore_n 1, 1) := by decide +kernel
theorem dX4_digest_43 : decode cX4_digest 43 = .ok (.iconst 0, 1) := by decide +kernel
theorem dX4_digest_44 : decode cX4_digest 44 = .ok (.istore_n 3, 1) := by decide +kernel
theorem dX4_digest_45 : decode cX4_digest 45 = .ok (.iload_n 3, 1) := by decide +kernel
theorem dX4_digest_46 : decode cX4_digest 46 = .ok (.aload_n 0, 1) := by decide +kernel
theorem dX4_digest_47 : decode cX4_digest 47 = .ok (.getfield 72, 3) := by decide +kernel
theorem dX4_digest_50 : decode cX4_digest 50 = .ok (.if_icmp .ge 16, 3) := by decide +kernel
theorem dX4_digest_53 : decode cX4_digest 53 = .ok (.aload_n 0, 1) := by decide +kernel
theorem dX4_digest_54 : decode cX4_digest 54 = .ok (.lload_n 1, 1) := by decide +kernel
theorem dX4_digest_55 : decode cX4_digest 55 = .ok (.iload_n 3, 1) := by decide +kernel
theorem dX4_digest_56 : decode cX4_digest 56 = .ok (.invokevirtual 246, 3) := by decide +kernel
theorem dX4_digest_59 : decode cX4_digest 59 = .ok (.lstore_n 1, 1) := by decide +kernel
theorem dX4_digest_60 : decode cX4_digest 60 = .ok (.iinc 3 1, 3) := by decide +kernel
theorem dX4_digest_63 : decode cX4_digest 63 = .ok (.goto (-18), 3) := by decide +kernel
theorem dX4_digest_66 : decode cX4_digest 66 = .ok (.iconst 0, 1) := by decide +kernel
theorem dX4_digest_67 : decode cX4_digest 67 = .ok (.istore_n 3, 1) := by decide +kernel
theorem dX4_digest_68 : decode cX4_digest 68 = .ok (.iload_n 3, 1) := by decide +kernel
theorem dX4_digest_69 : decode cX4_digest 69 = .ok (.aload_n 0, 1) := by decide +kernel
theorem dX4_digest_70 : decode cX4_digest 70 = .ok (.getfield 108, 3) := by decide +kernel
theorem dX4_digest_73 : decode cX4_digest 73 = .ok (.if_icmp .ge 51, 3) := by decide +kernel
theorem dX4_digest_76 : decode cX4_digest 76 = .ok (.ldc2_w 236, 3) := by decide +kernel
theorem dX4_digest_79 : decode cX4_digest 79 = .ok (.lload_n 1, 1) := by decide +kernel
theorem dX4_digest_80 : decode cX4_digest 80 = .ok (.lmul, 1) := by decide +kernel
theorem dX4_digest_81 : decode cX4_digest 81 = .ok (.aload_n 0, 1) := by decide +kernel
theorem dX4_digest_82 : decode cX4_digest 82 = .ok (.iload_n 3, 1) := by decide +kernel
theorem dX4_digest_83 : decode cX4_digest 83 = .ok (.iconst 5, 1) := by decide +kernel
theorem dX4_digest_84 : decode cX4_digest 84 = .ok (.invokevirtual 127, 3) := by decide +kernel
theorem dX4_digest_87 : decode cX4_digest 87 = .ok (.i2l, 1) := by decide +kernel
theorem dX4_digest_88 : decode cX4_digest 88 = .ok (.ladd, 1) := by decide +kernel
theorem dX4_digest_89 : decode cX4_digest 89 = .ok (.lstore_n 1, 1) := by decide +kernel
theorem dX4_digest_90 : decode cX4_digest 90 = .ok (.ldc2_w 236, 3) := by decide +kernel
theorem dX4_digest_93 : decode cX4_digest 93 = .ok (.lload_n 1, 1) := by decide +kernel
theorem dX4_digest_94 : decode cX4_digest 94 = .ok (.lmul, 1) := by decide +kernel
theorem dX4_digest_95 : decode cX4_digest 95 = .ok (.aload_n 0, 1) := by decide +kernel
theorem dX4_digest_96 : decode cX4_digest 96 = .ok (.iload_n 3, 1) := by decide +kernel
theorem dX4_digest_97 : decode cX4_digest 97 = .ok (.iconst 0, 1) := by decide +kernel
theorem dX4_digest_98 : decode cX4_digest 98 = .ok (.invokevirtual 130, 3) := by decide +kernel
theorem dX4_digest_101 : decode cX4_digest 101 = .ok (.i2l, 1) := by decide +kernel
theorem dX4_digest_102 : decode cX4_digest 102 = .ok (.ladd, 1) := by decide +kernel
theorem dX4_digest_103 : decode cX4_digest 103 = .ok (.lstore_n 1, 1) := by decide +kernel
theorem dX4_digest_104 : decode cX4_digest 104 = .ok (.ldc2_w 236, 3) := by decide +kernel
theorem dX4_digest_107 : decode cX4_digest 107 = .ok (.lload_n 1, 1) := by decide +kernel
theorem dX4_digest_108 : decode cX4_digest 108 = .ok (.lmul, 1) := by decide +kernel
theorem dX4_digest_109 : decode cX4_digest 109 = .ok (.aload_n 0, 1) := by decide +kernel
theorem dX4_digest_110 : decode cX4_digest 110 = .ok (.iload_n 3, 1) := by decide +kernel
theorem dX4_digest_111 : decode cX4_digest 111 = .ok (.iconst 1, 1) := by decide +kernel
theorem dX4_digest_112 : decode cX4_digest 112 = .ok (.invokevirtual 130, 3) := by decide +kernel
theorem dX4_digest_115 : decode cX4_digest 115 = .ok (.i2l, 1) := by decide +kernel
theorem dX4_digest_116 : decode cX4_digest 116 = .ok (.ladd, 1) := by decide +kernel
theorem dX4_digest_117 : decode cX4_digest 117 = .ok (.lstore_n 1, 1) := by decide +kernel
theorem dX4_digest_118 : decode cX4_digest 118 = .ok (.iinc 3 1, 3) := by decide +kernel
theorem dX4_digest_121 : decode cX4_digest 121 = .ok (.goto (-53), 3) := by decide +kernel
theorem dX4_digest_124 : decode cX4_digest 124 = .ok (.ldc2_w 236, 3) := by decide +kernel
theorem dX4_digest_127 : decode cX4_digest 127 = .ok (.lload_n 1, 1) := by decide +kernel
theorem dX4_digest_128 : decode cX4_digest 128 = .ok (.lmul, 1) := by decide +kernel
theorem dX4_digest_129 : decode cX4_digest 129 = .ok (.aload_n 0, 1) := by decide +kernel
theorem dX4_digest_130 : decode cX4_digest 130 = .ok (.invokevirtual 133, 3) := by decide +kernel
theorem dX4_digest_133 : decode cX4_digest 133 = .ok (.i2l, 1) := by decide +kernel
theorem dX4_digest_134 : decode cX4_digest 134 = .ok (.ladd, 1) := by decide +kernel
theorem dX4_digest_135 : decode cX4_digest 135 = .ok (.lstore_n 1, 1) := by decide +kernel
theorem dX4_digest_136 : decode cX4_digest 136 = .ok (.ldc2_w 236, 3) := by decide +kernel
theorem dX4_digest_139 : decode cX4_digest 139 = .ok (.lload_n 1, 1) := by decide +kernel
theorem dX4_digest_140 : decode cX4_digest 140 = .ok (.lmul, 1) := by decide +kernel
theorem dX4_digest_141 : decode cX4_digest 141 = .ok (.aload_n 0, 1) := by decide +kernel
theorem dX4_digest_142 : decode cX4_digest 142 = .ok (.iconst 0, 1) := by decide +kernel
theorem dX4_digest_143 : decode cX4_digest 143 = .ok (.iconst 1, 1) := by decide +kernel
theorem dX4_digest_144 : decode cX4_digest 144 = .ok (.invokevirtual 250, 3) := by decide +kernel
theorem dX4_digest_147 : decode cX4_digest 147 = .ok (.i2l, 1) := by decide +kernel
theorem dX4_digest_148 : decode cX4_digest 148 = .ok (.ladd, 1) := by decide +kernel
theorem dX4_digest_149 : decode cX4_digest 149 = .ok (.lstore_n 1, 1) := by decide +kernel
theorem dX4_digest_150 : decode cX4_digest 150 = .ok (.ldc2_w 236, 3) := by decide +kernel
theorem dX4_digest_153 : decode cX4_digest 153 = .ok (.lload_n 1, 1) := by decide +kernel
theorem dX4_digest_154 : decode cX4_digest 154 = .ok (.lmul, 1) := by decide +kernel
theorem dX4_digest_155 : decode cX4_digest 155 = .ok (.aload_n 0, 1) := by decide +kernel
theorem dX4_digest_156 : decode cX4_digest 156 = .ok (.iconst 0, 1) := by decide +kernel
theorem dX4_digest_157 : decode cX4_digest 157 = .ok (.iconst 1, 1) := by decide +kernel
theorem dX4_digest_158 : decode cX4_digest 158 = .ok (.iconst 2, 1) := by decide +kernel
theorem dX4_digest_159 : decode cX4_digest 159 = .ok (.invokevirtual 253, 3) := by decide +kernel
theorem dX4_digest_162 : decode cX4_digest 162 = .ok (.i2l, 1) := by decide +kernel
theorem dX4_digest_163 : decode cX4_digest 163 = .ok (.ladd, 1) := by decide +kernel
theorem dX4_digest_164 : decode cX4_digest 164 = .ok (.lstore_n 1, 1) := by decide +kernel
theorem dX4_digest_165 : decode cX4_digest 165 = .ok (.ldc2_w 236, 3) := by decide +kernel
theorem dX4_digest_168 : decode cX4_digest 168 = .ok (.lload_n 1, 1) := by decide +kernel
theorem dX4_digest_169 : decode cX4_digest 169 = .ok (.lmul, 1) := by decide +kernel
theorem dX4_digest_170 : decode cX4_digest 170 = .ok (.aload_n 0, 1) := by decide +kernel
theorem dX4_digest_171 : decode cX4_digest 171 = .ok (.iconst 3, 1) := by decide +kernel
theorem dX4_digest_172 : decode cX4_digest 172 = .ok (.iconst (-1), 1) := by decide +kernel
theorem dX4_digest_173 : decode cX4_digest 173 = .ok (.invokevirtual 256, 3) := by decide +kernel
theorem dX4_digest_176 : decode cX4_digest 176 = .ok (.i2l, 1) := by decide +kernel
theorem dX4_digest_177 : decode cX4_digest 177 = .ok (.ladd, 1) := by decide +kernel
theorem dX4_digest_178 : decode cX4_digest 178 = .ok (.lstore_n 1, 1) := by decide +kernel
theorem dX4_digest_179 : decode cX4_digest 179 = .ok (.ldc2_w 236, 3) := by decide +kernel
theorem dX4_digest_182 : decode cX4_digest 182 = .ok (.lload_n 1, 1) := by decide +kernel
theorem dX4_digest_183 : decode cX4_digest 183 = .ok (.lmul, 1) := by decide +kernel
theorem dX4_digest_184 : decode cX4_digest 184 = .ok (.aload_n 0, 1) := by decide +kernel
theorem dX4_digest_185 : decode cX4_digest 185 = .ok (.iconst 3, 1) := by decide +kernel
theorem dX4_digest_186 : decode cX4_digest 186 = .ok (.iconst 0, 1) := by decide +kernel
theorem dX4_digest_187 : decode cX4_digest 187 = .ok (.invokevirtual 256, 3) := by decide +kernel
theorem dX4_digest_190 : decode cX4_digest 190 = .ok (.i2l, 1) := by decide +kernel
theorem dX4_digest_191 : decode cX4_digest 191 = .ok (.ladd, 1) := by decide +kernel
theorem dX4_digest_192 : decode cX4_digest 192 = .ok (.lstore_n 1, 1) := by decide +kernel
theorem dX4_digest_193 : decode cX4_digest 193 = .ok (.ldc2_w 236, 3) := by decide +kernel
theorem dX4_digest_196 : decode cX4_digest 196 = .ok (.lload_n 1, 1) := by decide +kernel
theorem dX4_digest_197 : decode cX4_digest 197 = .ok (.lmul, 1) := by decide +kernel
theorem dX4_digest_198 : decode cX4_digest 198 = .ok (.aload_n 0, 1) := by decide +kernel
theorem dX4_digest_199 : decode cX4_digest 199 = .ok (.invokevirtual 188, 3) := by decide +kernel
theorem dX4_digest_202 : decode cX4_digest 202 = .ok (.i2l, 1) := by decide +kernel
theorem dX4_digest_203 : decode cX4_digest 203 = .ok (.ladd, 1) := by decide +kernel
theorem dX4_digest_204 : decode cX4_digest 204 = .ok (.lstore_n 1, 1) := by decide +kernel
theorem dX4_digest_205 : decode cX4_digest 205 = .ok (.ldc2_w 236, 3) := by decide +kernel
theorem dX4_digest_208 : decode cX4_digest 208 = .ok (.lload_n 1, 1) := by decide +kernel
theorem dX4_digest_209 : decode cX4_digest 209 = .ok (.lmul, 1) := by decide +kernel
theorem dX4_digest_210 : decode cX4_digest 210 = .ok (.aload_n 0, 1) := by decide +kernel
theorem dX4_digest_211 : decode cX4_digest 211 = .ok (.invokevirtual 191, 3) := by decide +kernel
theorem dX4_digest_214 : decode cX4_digest 214 = .ok (.i2l, 1) := by decide +kernel
theorem dX4_digest_215 : decode cX4_digest 215 = .ok (.ladd, 1) := by decide +kernel
theorem dX4_digest_216 : decode cX4_digest 216 = .ok (.lstore_n 1, 1) := by decide +kernel
theorem dX4_digest_217 : decode cX4_digest 217 = .ok (.ldc2_w 236, 3) := by decide +kernel
theorem dX4_digest_220 : decode cX4_digest 220 = .ok (.lload_n 1, 1) := by decide +kernel
theorem dX4_digest_221 : decode cX4_digest 221 = .ok (.lmul, 1) := by decide +kernel
theorem dX4_digest_222 : decode cX4_digest 222 = .ok (.aload_n 0, 1) := by decide +kernel
theorem dX4_digest_223 : decode cX4_digest 223 = .ok (.invokevirtual 197, 3) := by decide +kernel
theorem dX4_digest_226 : decode cX4_digest 226 = .ok (.i2l, 1) := by decide +kernel
theorem dX4_digest_227 : decode cX4_digest 227 = .ok (.ladd, 1) := by decide +kernel
theorem dX4_digest_228 : decode cX4_digest 228 = .ok (.lstore_n 1, 1) := by decide +kernel
theorem dX4_digest_229 : decode cX4_digest 229 = .ok (.ldc2_w 236, 3) := by decide +kernel
theorem dX4_digest_232 : decode cX4_digest 232 = .ok (.lload_n 1, 1) := by decide +kernel
theorem dX4_digest_233 : decode cX4_digest 233 = .ok (.lmul, 1) := by decide +kernel
theorem dX4_digest_234 : decode cX4_digest 234 = .ok (.aload_n 0, 1) := by decide +kernel
theorem dX4_digest_235 : decode cX4_digest 235 = .ok (.iconst 1, 1) := by decide +kernel
theorem dX4_digest_236 : decode cX4_digest 236 = .ok (.invokevirtual 200, 3) := by decide +kernel
theorem dX4_digest_239 : decode cX4_digest 239 = .ok (.i2l, 1) := by decide +kernel
theorem dX4_digest_240 : decode cX4_digest 240 = .ok (.ladd, 1) := by decide +kernel
theorem dX4_digest_241 : decode cX4_digest 241 = .ok (.lstore_n 1, 1) := by decide +kernel
theorem dX4_digest_242 : decode cX4_digest 242 = .ok (.ldc2_w 236, 3) := by decide +kernel
theorem dX4_digest_245 : decode cX4_digest 245 = .ok (.lload_n 1, 1) := by decide +kernel
theorem dX4_digest_246 : decode cX4_digest 246 = .ok (.lmul, 1) := by decide +kernel
theorem dX4_digest_247 : decode cX4_digest 247 = .ok (.aload_n 0, 1) := by decide +kernel
theorem dX4_digest_248 : decode cX4_digest 248 = .ok (.iconst 5, 1) := by decide +kernel
theorem dX4_digest_249 : decode cX4_digest 249 = .ok (.iconst 3, 1) := by decide +kernel
theorem dX4_digest_250 : decode cX4_digest 250 = .ok (.iconst 0, 1) := by decide +kernel
theorem dX4_digest_251 : decode cX4_digest 251 = .ok (.invokevirtual 259, 3) := by decide +kernel
theorem dX4_digest_254 : decode cX4_digest 254 = .ok (.ladd, 1) := by decide +kernel
theorem dX4_digest_255 : decode cX4_digest 255 = .ok (.lstore_n 1, 1) := by decide +kernel
theorem dX4_digest_256 : decode cX4_digest 256 = .ok (.ldc2_w 236, 3) := by decide +kernel
theorem dX4_digest_259 : decode cX4_digest 259 = .ok (.lload_n 1, 1) := by decide +kernel
theorem dX4_digest_260 : decode cX4_digest 260 = .ok (.lmul, 1) := by decide +kernel
theorem dX4_digest_261 : decode cX4_digest 261 = .ok (.aload_n 0, 1) := by decide +kernel
theorem dX4_digest_262 : decode cX4_digest 262 = .ok (.iconst 5, 1) := by decide +kernel
theorem dX4_digest_263 : decode cX4_digest 263 = .ok (.iconst 3, 1) := by decide +kernel
theorem dX4_digest_264 : decode cX4_digest 264 = .ok (.iconst 1, 1) := by decide +kernel
theorem dX4_digest_265 : decode cX4_digest 265 = .ok (.invokevirtual 259, 3) := by decide +kernel
theorem dX4_digest_268 : decode cX4_digest 268 = .ok (.ladd, 1) := by decide +kernel
theorem dX4_digest_269 : decode cX4_digest 269 = .ok (.lstore_n 1, 1) := by decide +kernel
theorem dX4_digest_270 : decode cX4_digest 270 = .ok (.ldc2_w 236, 3) := by decide +kernel
theorem dX4_digest_273 : decode cX4_digest 273 = .ok (.lload_n 1, 1) := by decide +kernel
theorem dX4_digest_274 : decode cX4_digest 274 = .ok (.lmul, 1) := by decide +kernel
theorem dX4_digest_275 : decode cX4_digest 275 = .ok (.aload_n 0, 1) := by decide +kernel
theorem dX4_digest_276 : decode cX4_digest 276 = .ok (.bipush 7, 2) := by decide +kernel
theorem dX4_digest_278 : decode cX4_digest 278 = .ok (.iconst 0, 1) := by decide +kernel
theorem dX4_digest_279 : decode cX4_digest 279 = .ok (.bipush 9, 2) := by decide +kernel
theorem dX4_digest_281 : decode cX4_digest 281 = .ok (.invokevirtual 262, 3) := by decide +kernel
theorem dX4_digest_284 : decode cX4_digest 284 = .ok (.i2l, 1) := by decide +kernel
theorem dX4_digest_285 : decode cX4_digest 285 = .ok (.ladd, 1) := by decide +kernel
theorem dX4_digest_286 : decode cX4_digest 286 = .ok (.lreturn, 1) := by decide +kernel
theorem dL_law_0 : decode cL_law 0 = .ok (.new 7, 3) := by decide +kernel
theorem dL_law_3 : decode cL_law 3 = .ok (.dup, 1) := by decide +kernel
theorem dL_law_4 : decode cL_law 4 = .ok (.invokespecial 9, 3) := by decide +kernel
theorem dL_law_7 : decode cL_law 7 = .ok (.astore_n 1, 1) := by decide +kernel
theorem dL_law_8 : decode cL_law 8 = .ok (.new 10, 3) := by decide +kernel
theorem dL_law_11 : decode cL_law 11 = .ok (.dup, 1) := by decide +kernel
theorem dL_law_12 : decode cL_law 12 = .ok (.invokespecial 12, 3) := by decide +kernel
theorem dL_law_15 : decode cL_law 15 = .ok (.astore_n 2, 1) := by decide +kernel
theorem dL_law_16 : decode cL_law 16 = .ok (.iconst 0, 1) := by decide +kernel
theorem dL_law_17 : decode cL_law 17 = .ok (.istore_n 3, 1) := by decide +kernel
theorem dL_law_18 : decode cL_law 18 = .ok (.iload_n 3, 1) := by decide +kernel
theorem dL_law_19 : decode cL_law 19 = .ok (.aload_n 0, 1) := by decide +kernel
theorem dL_law_20 : decode cL_law 20 = .ok (.arraylength, 1) := by decide +kernel
theorem dL_law_21 : decode cL_law 21 = .ok (.bipush 6, 2) := by decide +kernel
theorem dL_law_23 : decode cL_law 23 = .ok (.isub, 1) := by decide +kernel
theorem dL_law_24 : decode cL_law 24 = .ok (.if_icmp .gt 1204, 3) := by decide +kernel
theorem dL_law_27 : decode cL_law 27 = .ok (.aload_n 0, 1) := by decide +kernel
theorem dL_law_28 : decode cL_law 28 = .ok (.iload_n 3, 1) := by decide +kernel
theorem dL_law_29 : decode cL_law 29 = .ok (.iaload, 1) := by decide +kernel
theorem dL_law_30 : decode cL_law 30 = .ok (.bipush 63, 2) := by decide +kernel
theorem dL_law_32 : decode cL_law 32 = .ok (.iand, 1) := by decide +kernel
theorem dL_law_33 : decode cL_law 33 = .ok (.tableswitch 1189 0 35 #[159, 182, 195, 208, 221, 254, 287, 320, 333, 356, 389, 422, 435, 468, 501, 534, 577, 600, 623, 656, 689, 702, 715, 728, 771, 784, 807, 851, 894, 937, 960, 1013, 1056, 1119, 1152, 1175], 159) := by decide +kernel
theorem dL_law_192 : decode cL_law 192 = .ok (.aload_n 1, 1) := by decide +kernel
theorem dL_law_193 : decode cL_law 193 = .ok (.aload_n 0, 1) := by decide +kernel
theorem dL_law_194 : decode cL_law 194 = .ok (.iload_n 3, 1) := by decide +kernel
theorem dL_law_195 : decode cL_law 195 = .ok (.iconst 1, 1) := by decide +kernel
theorem dL_law_196 : decode cL_law 196 = .ok (.iadd, 1) := by decide +kernel
theorem dL_law_197 : decode cL_law 197 = .ok (.iaload, 1) := by decide +kernel
theorem dL_law_198 : decode cL_law 198 = .ok (.invokevirtual 13, 3) := by decide +kernel
theorem dL_law_201 : decode cL_law 201 = .ok (.aload_n 2, 1) := by decide +kernel
theorem dL_law_202 : decode cL_law 202 = .ok (.aload_n 0, 1) := by decide +kernel
theorem dL_law_203 : decode cL_law 203 = .ok (.iload_n 3, 1) := by decide +kernel
theorem dL_law_204 : decode cL_law 204 = .ok (.iconst 1, 1) := by decide +kernel
theorem dL_law_205 : decode cL_law 205 = .ok (.iadd, 1) := by decide +kernel
theorem dL_law_206 : decode cL_law 206 = .ok (.iaload, 1) := by decide +kernel
theorem dL_law_207 : decode cL_law 207 = .ok (.invokevirtual 17, 3) := by decide +kernel
theorem dL_law_210 : decode cL_law 210 = .ok (.if_icmp .eq 1012, 3) := by decide +kernel
theorem dL_law_213 : decode cL_law 213 = .ok (.iconst 0, 1) := by decide +kernel
theorem dL_law_214 : decode cL_law 214 = .ok (.ireturn, 1) := by decide +kernel
theorem dL_law_215 : decode cL_law 215 = .ok (.aload_n 1, 1) := by decide +kernel
theorem dL_law_216 : decode cL_law 216 = .ok (.invokevirtual 18, 3) := by decide +kernel
theorem dL_law_219 : decode cL_law 219 = .ok (.aload_n 2, 1) := by decide +kernel
theorem dL_law_220 : decode cL_law 220 = .ok (.invokevirtual 22, 3) := by decide +kernel
theorem dL_law_223 : decode cL_law 223 = .ok (.if_icmp .eq 999, 3) := by decide +kernel
theorem dL_law_226 : decode cL_law 226 = .ok (.iconst 0, 1) := by decide +kernel
theorem dL_law_227 : decode cL_law 227 = .ok (.ireturn, 1) := by decide +kernel
theorem dL_law_228 : decode cL_law 228 = .ok (.aload_n 1, 1) := by decide +kernel
theorem dL_law_229 : decode cL_law 229 = .ok (.invokevirtual 23, 3) := by decide +kernel
theorem dL_law_232 : decode cL_law 232 = .ok (.aload_n 2, 1) := by decide +kernel
theorem dL_law_233 : decode cL_law 233 = .ok (.invokevirtual 26, 3) := by decide +kernel
theorem dL_law_236 : decode cL_law 236 = .ok (.if_icmp .eq 986, 3) := by decide +kernel
theorem dL_law_239 : decode cL_law 239 = .ok (.iconst 0, 1) := by decide +kernel
theorem dL_law_240 : decode cL_law 240 = .ok (.ireturn, 1) := by decide +kernel
theorem dL_law_241 : decode cL_law 241 = .ok (.aload_n 1, 1) := by decide +kernel
theorem dL_law_242 : decode cL_law 242 = .ok (.invokevirtual 27, 3) := by decide +kernel
theorem dL_law_245 : decode cL_law 245 = .ok (.aload_n 2, 1) := by decide +kernel
theorem dL_law_246 : decode cL_law 246 = .ok (.invokevirtual 30, 3) := by decide +kernel
theorem dL_law_249 : decode cL_law 249 = .ok (.if_icmp .eq 973, 3) := by decide +kernel
theorem dL_law_252 : decode cL_law 252 = .ok (.iconst 0, 1) := by decide +kernel
theorem dL_law_253 : decode cL_law 253 = .ok (.ireturn, 1) := by decide +kernel
theorem dL_law_254 : decode cL_law 254 = .ok (.aload_n 1, 1) := by decide +kernel
theorem dL_law_255 : decode cL_law 255 = .ok (.aload_n 0, 1) := by decide +kernel
theorem dL_law_256 : decode cL_law 256 = .ok (.iload_n 3, 1) := by decide +kernel
theorem dL_law_257 : decode cL_law 257 = .ok (.iconst 1, 1) := by decide +kernel
theorem dL_law_258 : decode cL_law 258 = .ok (.iadd, 1) := by decide +kernel
theorem dL_law_259 : decode cL_law 259 = .ok (.iaload, 1) := by decide +kernel
theorem dL_law_260 : decode cL_law 260 = .ok (.aload_n 0, 1) := by decide +kernel
theorem dL_law_261 : decode cL_law 261 = .ok (.iload_n 3, 1) := by decide +kernel
theorem dL_law_262 : decode cL_law 262 = .ok (.iconst 2, 1) := by decide +kernel
theorem dL_law_263 : decode cL_law 263 = .ok (.iadd, 1) := by decide +kernel
theorem dL_law_264 : decode cL_law 264 = .ok (.iaload, 1) := by decide +kernel
theorem dL_law_265 : decode cL_law 265 = .ok (.invokevirtual 31, 3) := by decide +kernel
theorem dL_law_268 : decode cL_law 268 = .ok (.aload_n 2, 1) := by decide +kernel
theorem dL_law_269 : decode cL_law 269 = .ok (.aload_n 0, 1) := by decide +kernel
theorem dL_law_270 : decode cL_law 270 = .ok (.iload_n 3, 1) := by decide +kernel
theorem dL_law_271 : decode cL_law 271 = .ok (.iconst 1, 1) := by decide +kernel
theorem dL_law_272 : decode cL_law 272 = .ok (.iadd, 1) := by decide +kernel
theorem dL_law_273 : decode cL_law 273 = .ok (.iaload, 1) := by decide +kernel
theorem dL_law_274 : decode cL_law 274 = .ok (.aload_n 0, 1) := by decide +kernel
theorem dL_law_275 : decode cL_law 275 = .ok (.iload_n 3, 1) := by decide +kernel
theorem dL_law_276 : decode cL_law 276 = .ok (.iconst 2, 1) := by decide +kernel
theorem dL_law_277 : decode cL_law 277 = .ok (.iadd, 1) := by decide +kernel
theorem dL_law_278 : decode cL_law 278 = .ok (.iaload, 1) := by decide +kernel
theorem dL_law_279 : decode cL_law 279 = .ok (.invokevirtual 35, 3) := by decide +kernel
theorem dL_law_282 : decode cL_law 282 = .ok (.if_icmp .eq 940, 3) := by decide +kernel
theorem dL_law_285 : decode cL_law 285 = .ok (.iconst 0, 1) := by decide +kernel
theorem dL_law_286 : decode cL_law 286 = .ok (.ireturn, 1) := by decide +kernel
theorem dL_law_287 : decode cL_law 287 = .ok (.aload_n 1, 1) := by decide +kernel
theorem dL_law_288 : decode cL_law 288 = .ok (.aload_n 0, 1) := by decide +kernel
theorem dL_law_289 : decode cL_law 289 = .ok (.iload_n 3, 1) := by decide +kernel
theorem dL_law_290 : decode cL_law 290 = .ok (.iconst 1, 1) := by decide +kernel
theorem dL_law_291 : decode cL_law 291 = .ok (.iadd, 1) := by decide +kernel
theorem dL_law_292 : decode cL_law 292 = .ok (.iaload, 1) := by decide +kernel
theorem dL_law_293 : decode cL_law 293 = .ok (.aload_n 0, 1) := by decide +kernel
theorem dL_law_294 : decode cL_law 294 = .ok (.iload_n 3, 1) := by decide +kernel
theorem dL_law_295 : decode cL_law 295 = .ok (.iconst 2, 1) := by decide +kernel
theorem dL_law_296 : decode cL_law 296 = .ok (.iadd, 1) := by decide +kernel
theorem dL_law_297 : decode cL_law 297 = .ok (.iaload, 1) := by decide +kernel
theorem dL_law_298 : decode cL_law 298 = .ok (.invokevirtual 36, 3) := by decide +kernel
theorem dL_law_301 : decode cL_law 301 = .ok (.aload_n 2, 1) := by decide +kernel
theorem dL_law_302 : decode cL_law 302 = .ok (.aload_n 0, 1) := by decide +kernel
theorem dL_law_303 : decode cL_law 303 = .ok (.iload_n 3, 1) := by decide +kernel
theorem dL_law_304 : decode cL_law 304 = .ok (.iconst 1, 1) := by decide +kernel
theorem dL_law_305 : decode cL_law 305 = .ok (.iadd, 1) := by decide +kernel
theorem dL_law_306 : decode cL_law 306 = .ok (.iaload, 1) := by decide +kernel
theorem dL_law_307 : decode cL_law 307 = .ok (.aload_n 0, 1) := by decide +kernel
theorem dL_law_308 : decode cL_law 308 = .ok (.iload_n 3, 1) := by decide +kernel
theorem dL_law_309 : decode cL_law 309 = .ok (.iconst 2, 1) := by decide +kernel
theorem dL_law_310 : decode cL_law 310 = .ok (.iadd, 1) := by decide +kernel
theorem dL_law_311 : decode cL_law 311 = .ok (.iaload, 1) := by decide +kernel
theorem dL_law_312 : decode cL_law 312 = .ok (.invokevirtual 39, 3) := by decide +kernel
theorem dL_law_315 : decode cL_law 315 = .ok (.if_icmp .eq 907, 3) := by decide +kernel
theorem dL_law_318 : decode cL_law 318 = .ok (.iconst 0, 1) := by decide +kernel
theorem dL_law_319 : decode cL_law 319 = .ok (.ireturn, 1) := by decide +kernel
theorem dL_law_320 : decode cL_law 320 = .ok (.aload_n 1, 1) := by decide +kernel
theorem dL_law_321 : decode cL_law 321 = .ok (.aload_n 0, 1) := by decide +kernel
theorem dL_law_322 : decode cL_law 322 = .ok (.iload_n 3, 1) := by decide +kernel
theorem dL_law_323 : decode cL_law 323 = .ok (.iconst 1, 1) := by decide +kernel
theorem dL_law_324 : decode cL_law 324 = .ok (.iadd, 1) := by decide +kernel
theorem dL_law_325 : decode cL_law 325 = .ok (.iaload, 1) := by decide +kernel
theorem dL_law_326 : decode cL_law 326 = .ok (.aload_n 0, 1) := by decide +kernel
theorem dL_law_327 : decode cL_law 327 = .ok (.iload_n 3, 1) := by decide +kernel
theorem dL_law_328 : decode cL_law 328 = .ok (.iconst 2, 1) := by decide +kernel
theorem dL_law_329 : decode cL_law 329 = .ok (.iadd, 1) := by decide +kernel
theorem dL_law_330 : decode cL_law 330 = .ok (.iaload, 1) := by decide +kernel
theorem dL_law_331 : decode cL_law 331 = .ok (.invokevirtual 40, 3) := by decide +kernel
theorem dL_law_334 : decode cL_law 334 = .ok (.aload_n 2, 1) := by decide +kernel
theorem dL_law_335 : decode cL_law 335 = .ok (.aload_n 0, 1) := by decide +kernel
theorem dL_law_336 : decode cL_law 336 = .ok (.iload_n 3, 1) := by decide +kernel
theorem dL_law_337 : decode cL_law 337 = .ok (.iconst 1, 1) := by decide +kernel
theorem dL_law_338 : decode cL_law 338 = .ok (.iadd, 1) := by decide +kernel
theorem dL_law_339 : decode cL_law 339 = .ok (.iaload, 1) := by decide +kernel
theorem dL_law_340 : decode cL_law 340 = .ok (.aload_n 0, 1) := by decide +kernel
theorem dL_law_341 : decode cL_law 341 = .ok (.iload_n 3, 1) := by decide +kernel
theorem dL_law_342 : decode cL_law 342 = .ok (.iconst 2, 1) := by decide +kernel
theorem dL_law_343 : decode cL_law 343 = .ok (.iadd, 1) := by decide +kernel
theorem dL_law_344 : decode cL_law 344 = .ok (.iaload, 1) := by decide +kernel
theorem dL_law_345 : decode cL_law 345 = .ok (.invokevirtual 43, 3) := by decide +kernel
theorem dL_law_348 : decode cL_law 348 = .ok (.if_icmp .eq 874, 3) := by decide +kernel
theorem dL_law_351 : decode cL_law 351 = .ok (.iconst 0, 1) := by decide +kernel
theorem dL_law_352 : decode cL_law 352 = .ok (.ireturn, 1) := by decide +kernel
theorem dL_law_353 : decode cL_law 353 = .ok (.aload_n 1, 1) := by decide +kernel
theorem dL_law_354 : decode cL_law 354 = .ok (.invokevirtual 44, 3) := by decide +kernel
theorem dL_law_357 : decode cL_law 357 = .ok (.aload_n 2, 1) := by decide +kernel
theorem dL_law_358 : decode cL_law 358 = .ok (.invokevirtual 47, 3) := by decide +kernel
theorem dL_law_361 : decode cL_law 361 = .ok (.if_icmp .eq 861, 3) := by decide +kernel
theorem dL_law_364 : decode cL_law 364 = .ok (.iconst 0, 1) := by decide +kernel
theorem dL_law_365 : decode cL_law 365 = .ok (.ireturn, 1) := by decide +kernel
theorem dL_law_366 : decode cL_law 366 = .ok (.aload_n 1, 1) := by decide +kernel
theorem dL_law_367 : decode cL_law 367 = .ok (.aload_n 0, 1) := by decide +kernel
theorem dL_law_368 : decode cL_law 368 = .ok (.iload_n 3, 1) := by decide +kernel
theorem dL_law_369 : decode cL_law 369 = .ok (.iconst 1, 1) := by decide +kernel
theorem dL_law_370 : decode cL_law 370 = .ok (.iadd, 1) := by decide +kernel
theorem dL_law_371 : decode cL_law 371 = .ok (.iaload, 1) := by decide +kernel
theorem dL_law_372 : decode cL_law 372 = .ok (.invokevirtual 48, 3) := by decide +kernel
theorem dL_law_375 : decode cL_law 375 = .ok (.aload_n 2, 1) := by decide +kernel
theorem dL_law_376 : decode cL_law 376 = .ok (.aload_n 0, 1) := by decide +kernel
theorem dL_law_377 : decode cL_law 377 = .ok (.iload_n 3, 1) := by decide +kernel
theorem dL_law_378 : decode cL_law 378 = .ok (.iconst 1, 1) := by decide +kernel
theorem dL_law_379 : decode cL_law 379 = .ok (.iadd, 1) := by decide +kernel
theorem dL_law_380 : decode cL_law 380 = .ok (.iaload, 1) := by decide +kernel
theorem dL_law_381 : decode cL_law 381 = .ok (.invokevirtual 51, 3) := by decide +kernel
theorem dL_law_384 : decode cL_law 384 = .ok (.if_icmp .eq 838, 3) := by decide +kernel
theorem dL_law_387 : decode cL_law 387 = .ok (.iconst 0, 1) := by decide +kernel
theorem dL_law_388 : decode cL_law 388 = .ok (.ireturn, 1) := by decide +kernel
theorem dL_law_389 : decode cL_law 389 = .ok (.aload_n 1, 1) := by decide +kernel
theorem dL_law_390 : decode cL_law 390 = .ok (.aload_n 0, 1) := by decide +kernel
theorem dL_law_391 : decode cL_law 391 = .ok (.iload_n 3, 1) := by decide +kernel
theorem dL_law_392 : decode cL_law 392 = .ok (.iconst 1, 1) := by decide +kernel
theorem dL_law_393 : decode cL_law 393 = .ok (.iadd, 1) := by decide +kernel
theorem dL_law_394 : decode cL_law 394 = .ok (.iaload, 1) := by decide +kernel
theorem dL_law_395 : decode cL_law 395 = .ok (.aload_n 0, 1) := by decide +kernel
theorem dL_law_396 : decode cL_law 396 = .ok (.iload_n 3, 1) := by decide +kernel
theorem dL_law_397 : decode cL_law 397 = .ok (.iconst 2, 1) := by decide +kernel
theorem dL_law_398 : decode cL_law 398 = .ok (.iadd, 1) := by decide +kernel
theorem dL_law_399 : decode cL_law 399 = .ok (.iaload, 1) := by decide +kernel
theorem dL_law_400 : decode cL_law 400 = .ok (.invokevirtual 52, 3) := by decide +kernel
theorem dL_law_403 : decode cL_law 403 = .ok (.aload_n 2, 1) := by decide +kernel
theorem dL_law_404 : decode cL_law 404 = .ok (.aload_n 0, 1) := by decide +kernel
theorem dL_law_405 : decode cL_law 405 = .ok (.iload_n 3, 1) := by decide +kernel
theorem dL_law_406 : decode cL_law 406 = .ok (.iconst 1, 1) := by decide +kernel
theorem dL_law_407 : decode cL_law 407 = .ok (.iadd, 1) := by decide +kernel
theorem dL_law_408 : decode cL_law 408 = .ok (.iaload, 1) := by decide +kernel
theorem dL_law_409 : decode cL_law 409 = .ok (.aload_n 0, 1) := by decide +kernel
theorem dL_law_410 : decode cL_law 410 = .ok (.iload_n 3, 1) := by decide +kernel
theorem dL_law_411 : decode cL_law 411 = .ok (.iconst 2, 1) := by decide +kernel
theorem dL_law_412 : decode cL_law 412 = .ok (.iadd, 1) := by decide +kernel
theorem dL_law_413 : decode cL_law 413 = .ok (.iaload, 1) := by decide +kernel
theorem dL_law_414 : decode cL_law 414 = .ok (.invokevirtual 55, 3) := by decide +kernel
theorem dL_law_417 : decode cL_law 417 = .ok (.if_icmp .eq 805, 3) := by decide +kernel
theorem dL_law_420 : decode cL_law 420 = .ok (.iconst 0, 1) := by decide +kernel
theorem dL_law_421 : decode cL_law 421 = .ok (.ireturn, 1) := by decide +kernel
theorem dL_law_422 : decode cL_law 422 = .ok (.aload_n 1, 1) := by decide +kernel
theorem dL_law_423 : decode cL_law 423 = .ok (.aload_n 0, 1) := by decide +kernel
theorem dL_law_424 : decode cL_law 424 = .ok (.iload_n 3, 1) := by decide +kernel
theorem dL_law_425 : decode cL_law 425 = .ok (.iconst 1, 1) := by decide +kernel
theorem dL_law_426 : decode cL_law 426 = .ok (.iadd, 1) := by decide +kernel
theorem dL_law_427 : decode cL_law 427 = .ok (.iaload, 1) := by decide +kernel
theorem dL_law_428 : decode cL_law 428 = .ok (.aload_n 0, 1) := by decide +kernel
theorem dL_law_429 : decode cL_law 429 = .ok (.iload_n 3, 1) := by decide +kernel
theorem dL_law_430 : decode cL_law 430 = .ok (.iconst 2, 1) := by decide +kernel
theorem dL_law_431 : decode cL_law 431 = .ok (.iadd, 1) := by decide +kernel
theorem dL_law_432 : decode cL_law 432 = .ok (.iaload, 1) := by decide +kernel
theorem dL_law_433 : decode cL_law 433 = .ok (.invokevirtual 56, 3) := by decide +kernel
theorem dL_law_436 : decode cL_law 436 = .ok (.aload_n 2, 1) := by decide +kernel
theorem dL_law_437 : decode cL_law 437 = .ok (.aload_n 0, 1) := by decide +kernel
theorem dL_law_438 : decode cL_law 438 = .ok (.iload_n 3, 1) := by decide +kernel
theorem dL_law_439 : decode cL_law 439 = .ok (.iconst 1, 1) := by decide +kernel
theorem dL_law_440 : decode cL_law 440 = .ok (.iadd, 1) := by decide +kernel
theorem dL_law_441 : decode cL_law 441 = .ok (.iaload, 1) := by decide +kernel
theorem dL_law_442 : decode cL_law 442 = .ok (.aload_n 0, 1) := by decide +kernel
theorem dL_law_443 : decode cL_law 443 = .ok (.iload_n 3, 1) := by decide +kernel
theorem dL_law_444 : decode cL_law 444 = .ok (.iconst 2, 1) := by decide +kernel
theorem dL_law_445 : decode cL_law 445 = .ok (.iadd, 1) := by decide +kernel
theorem dL_law_446 : decode cL_law 446 = .ok (.iaload, 1) := by decide +kernel
theorem dL_law_447 : decode cL_law 447 = .ok (.invokevirtual 59, 3) := by decide +kernel
theorem dL_law_450 : decode cL_law 450 = .ok (.if_icmp .eq 772, 3) := by decide +kernel
theorem dL_law_453 : decode cL_law 453 = .ok (.iconst 0, 1) := by decide +kernel
theorem dL_law_454 : decode cL_law 454 = .ok (.ireturn, 1) := by decide +kernel
theorem dL_law_455 : decode cL_law 455 = .ok (.aload_n 1, 1) := by decide +kernel
theorem dL_law_456 : decode cL_law 456 = .ok (.invokevirtual 60, 3) := by decide +kernel
theorem dL_law_459 : decode cL_law 459 = .ok (.aload_n 2, 1) := by decide +kernel
theorem dL_law_460 : decode cL_law 460 = .ok (.invokevirtual 63, 3) := by decide +kernel
theorem dL_law_463 : decode cL_law 463 = .ok (.if_icmp .eq 759, 3) := by decide +kernel
theorem dL_law_466 : decode cL_law 466 = .ok (.iconst 0, 1) := by decide +kernel
theorem dL_law_467 : decode cL_law 467 = .ok (.ireturn, 1) := by decide +kernel
theorem dL_law_468 : decode cL_law 468 = .ok (.aload_n 1, 1) := by decide +kernel
theorem dL_law_469 : decode cL_law 469 = .ok (.aload_n 0, 1) := by decide +kernel
theorem dL_law_470 : decode cL_law 470 = .ok (.iload_n 3, 1) := by decide +kernel
theorem dL_law_471 : decode cL_law 471 = .ok (.iconst 1, 1) := by decide +kernel
theorem dL_law_472 : decode cL_law 472 = .ok (.iadd, 1) := by decide +kernel
theorem dL_law_473 : decode cL_law 473 = .ok (.iaload, 1) := by decide +kernel
theorem dL_law_474 : decode cL_law 474 = .ok (.aload_n 0, 1) := by decide +kernel
theorem dL_law_475 : decode cL_law 475 = .ok (.iload_n 3, 1) := by decide +kernel
theorem dL_law_476 : decode cL_law 476 = .ok (.iconst 2, 1) := by decide +kernel
theorem dL_law_477 : decode cL_law 477 = .ok (.iadd, 1) := by decide +kernel
theorem dL_law_478 : decode cL_law 478 = .ok (.iaload, 1) := by decide +kernel
theorem dL_law_479 : decode cL_law 479 = .ok (.invokevirtual 64, 3) := by decide +kernel
theorem dL_law_482 : decode cL_law 482 = .ok (.aload_n 2, 1) := by decide +kernel
theorem dL_law_483 : decode cL_law 483 = .ok (.aload_n 0, 1) := by decide +kernel
theorem dL_law_484 : decode cL_law 484 = .ok (.iload_n 3, 1) := by decide +kernel
theorem dL_law_485 : decode cL_law 485 = .ok (.iconst 1, 1) := by decide +kernel
theorem dL_law_486 : decode cL_law 486 = .ok (.iadd, 1) := by decide +kernel
theorem dL_law_487 : decode cL_law 487 = .ok (.iaload, 1) := by decide +kernel
theorem dL_law_488 : decode cL_law 488 = .ok (.aload_n 0, 1) := by decide +kernel
theorem dL_law_489 : decode cL_law 489 = .ok (.iload_n 3, 1) := by decide +kernel
theorem dL_law_490 : decode cL_law 490 = .ok (.iconst 2, 1) := by decide +kernel
theorem dL_law_491 : decode cL_law 491 = .ok (.iadd, 1) := by decide +kernel
theorem dL_law_492 : decode cL_law 492 = .ok (.iaload, 1) := by decide +kernel
theorem dL_law_493 : decode cL_law 493 = .ok (.invokevirtual 67, 3) := by decide +kernel
theorem dL_law_496 : decode cL_law 496 = .ok (.if_icmp .eq 726, 3) := by decide +kernel
theorem dL_law_499 : decode cL_law 499 = .ok (.iconst 0, 1) := by decide +kernel
theorem dL_law_500 : decode cL_law 500 = .ok (.ireturn, 1) := by decide +kernel
theorem dL_law_501 : decode cL_law 501 = .ok (.aload_n 1, 1) := by decide +kernel
theorem dL_law_502 : decode cL_law 502 = .ok (.aload_n 0, 1) := by decide +kernel
theorem dL_law_503 : decode cL_law 503 = .ok (.iload_n 3, 1) := by decide +kernel
theorem dL_law_504 : decode cL_law 504 = .ok (.iconst 1, 1) := by decide +kernel
theorem dL_law_505 : decode cL_law 505 = .ok (.iadd, 1) := by decide +kernel
theorem dL_law_506 : decode cL_law 506 = .ok (.iaload, 1) := by decide +kernel
theorem dL_law_507 : decode cL_law 507 = .ok (.aload_n 0, 1) := by decide +kernel
theorem dL_law_508 : decode cL_law 508 = .ok (.iload_n 3, 1) := by decide +kernel
theorem dL_law_509 : decode cL_law 509 = .ok (.iconst 2, 1) := by decide +kernel
theorem dL_law_510 : decode cL_law 510 = .ok (.iadd, 1) := by decide +kernel
theorem dL_law_511 : decode cL_law 511 = .ok (.iaload, 1) := by decide +kernel
theorem dL_law_512 : decode cL_law 512 = .ok (.invokevirtual 68, 3) := by decide +kernel
theorem dL_law_515 : decode cL_law 515 = .ok (.aload_n 2, 1) := by decide +kernel
theorem dL_law_516 : decode cL_law 516 = .ok (.aload_n 0, 1) := by decide +kernel
theorem dL_law_517 : decode cL_law 517 = .ok (.iload_n 3, 1) := by decide +kernel
theorem dL_law_518 : decode cL_law 518 = .ok (.iconst 1, 1) := by decide +kernel
theorem dL_law_519 : decode cL_law 519 = .ok (.iadd, 1) := by decide +kernel
theorem dL_law_520 : decode cL_law 520 = .ok (.iaload, 1) := by decide +kernel
theorem dL_law_521 : decode cL_law 521 = .ok (.aload_n 0, 1) := by decide +kernel
theorem dL_law_522 : decode cL_law 522 = .ok (.iload_n 3, 1) := by decide +kernel
theorem dL_law_523 : decode cL_law 523 = .ok (.iconst 2, 1) := by decide +kernel
theorem dL_law_524 : decode cL_law 524 = .ok (.iadd, 1) := by decide +kernel
theorem dL_law_525 : decode cL_law 525 = .ok (.iaload, 1) := by decide +kernel
theorem dL_law_526 : decode cL_law 526 = .ok (.invokevirtual 71, 3) := by decide +kernel
theorem dL_law_529 : decode cL_law 529 = .ok (.if_icmp .eq 693, 3) := by decide +kernel
theorem dL_law_532 : decode cL_law 532 = .ok (.iconst 0, 1) := by decide +kernel
theorem dL_law_533 : decode cL_law 533 = .ok (.ireturn, 1) := by decide +kernel
theorem dL_law_534 : decode cL_law 534 = .ok (.aload_n 1, 1) := by decide +kernel
theorem dL_law_535 : decode cL_law 535 = .ok (.aload_n 0, 1) := by decide +kernel
theorem dL_law_536 : decode cL_law 536 = .ok (.iload_n 3, 1) := by decide +kernel
theorem dL_law_537 : decode cL_law 537 = .ok (.iconst 1, 1) := by decide +kernel
theorem dL_law_538 : decode cL_law 538 = .ok (.iadd, 1) := by decide +kernel
theorem dL_law_539 : decode cL_law 539 = .ok (.iaload, 1) := by decide +kernel
theorem dL_law_540 : decode cL_law 540 = .ok (.aload_n 0, 1) := by decide +kernel
theorem dL_law_541 : decode cL_law 541 = .ok (.iload_n 3, 1) := by decide +kernel
theorem dL_law_542 : decode cL_law 542 = .ok (.iconst 2, 1) := by decide +kernel
theorem dL_law_543 : decode cL_law 543 = .ok (.iadd, 1) := by decide +kernel
theorem dL_law_544 : decode cL_law 544 = .ok (.iaload, 1) := by decide +kernel
theorem dL_law_545 : decode cL_law 545 = .ok (.invokevirtual 72, 3) := by decide +kernel
theorem dL_law_548 : decode cL_law 548 = .ok (.aload_n 2, 1) := by decide +kernel
theorem dL_law_549 : decode cL_law 549 = .ok (.aload_n 0, 1) := by decide +kernel
theorem dL_law_550 : decode cL_law 550 = .ok (.iload_n 3, 1) := by decide +kernel
theorem dL_law_551 : decode cL_law 551 = .ok (.iconst 1, 1) := by decide +kernel
theorem dL_law_552 : decode cL_law 552 = .ok (.iadd, 1) := by decide +kernel
theorem dL_law_553 : decode cL_law 553 = .ok (.iaload, 1) := by decide +kernel
theorem dL_law_554 : decode cL_law 554 = .ok (.aload_n 0, 1) := by decide +kernel
theorem dL_law_555 : decode cL_law 555 = .ok (.iload_n 3, 1) := by decide +kernel
theorem dL_law_556 : decode cL_law 556 = .ok (.iconst 2, 1) := by decide +kernel
theorem dL_law_557 : decode cL_law 557 = .ok (.iadd, 1) := by decide +kernel
theorem dL_law_558 : decode cL_law 558 = .ok (.iaload, 1) := by decide +kernel
theorem dL_law_559 : decode cL_law 559 = .ok (.invokevirtual 75, 3) := by decide +kernel
theorem dL_law_562 : decode cL_law 562 = .ok (.if_icmp .eq 660, 3) := by decide +kernel
theorem dL_law_565 : decode cL_law 565 = .ok (.iconst 0, 1) := by decide +kernel
theorem dL_law_566 : decode cL_law 566 = .ok (.ireturn, 1) := by decide +kernel
theorem dL_law_567 : decode cL_law 567 = .ok (.aload_n 1, 1) := by decide +kernel
theorem dL_law_568 : decode cL_law 568 = .ok (.aload_n 0, 1) := by decide +kernel
theorem dL_law_569 : decode cL_law 569 = .ok (.iload_n 3, 1) := by decide +kernel
theorem dL_law_570 : decode cL_law 570 = .ok (.iconst 1, 1) := by decide +kernel
theorem dL_law_571 : decode cL_law 571 = .ok (.iadd, 1) := by decide +kernel
theorem dL_law_572 : decode cL_law 572 = .ok (.iaload, 1) := by decide +kernel
theorem dL_law_573 : decode cL_law 573 = .ok (.aload_n 0, 1) := by decide +kernel
theorem dL_law_574 : decode cL_law 574 = .ok (.iload_n 3, 1) := by decide +kernel
theorem dL_law_575 : decode cL_law 575 = .ok (.iconst 2, 1) := by decide +kernel
theorem dL_law_576 : decode cL_law 576 = .ok (.iadd, 1) := by decide +kernel
theorem dL_law_577 : decode cL_law 577 = .ok (.iaload, 1) := by decide +kernel
theorem dL_law_578 : decode cL_law 578 = .ok (.aload_n 0, 1) := by decide +kernel
theorem dL_law_579 : decode cL_law 579 = .ok (.iload_n 3, 1) := by decide +kernel
theorem dL_law_580 : decode cL_law 580 = .ok (.iconst 3, 1) := by decide +kernel
theorem dL_law_581 : decode cL_law 581 = .ok (.iadd, 1) := by decide +kernel
theorem dL_law_582 : decode cL_law 582 = .ok (.iaload, 1) := by decide +kernel
theorem dL_law_583 : decode cL_law 583 = .ok (.invokevirtual 76, 3) := by decide +kernel
theorem dL_law_586 : decode cL_law 586 = .ok (.aload_n 2, 1) := by decide +kernel
theorem dL_law_587 : decode cL_law 587 = .ok (.aload_n 0, 1) := by decide +kernel
theorem dL_law_588 : decode cL_law 588 = .ok (.iload_n 3, 1) := by decide +kernel
theorem dL_law_589 : decode cL_law 589 = .ok (.iconst 1, 1) := by decide +kernel
theorem dL_law_590 : decode cL_law 590 = .ok (.iadd, 1) := by decide +kernel
theorem dL_law_591 : decode cL_law 591 = .ok (.iaload, 1) := by decide +kernel
theorem dL_law_592 : decode cL_law 592 = .ok (.aload_n 0, 1) := by decide +kernel
theorem dL_law_593 : decode cL_law 593 = .ok (.iload_n 3, 1) := by decide +kernel
theorem dL_law_594 : decode cL_law 594 = .ok (.iconst 2, 1) := by decide +kernel
theorem dL_law_595 : decode cL_law 595 = .ok (.iadd, 1) := by decide +kernel
theorem dL_law_596 : decode cL_law 596 = .ok (.iaload, 1) := by decide +kernel
theorem dL_law_597 : decode cL_law 597 = .ok (.aload_n 0, 1) := by decide +kernel
theorem dL_law_598 : decode cL_law 598 = .ok (.iload_n 3, 1) := by decide +kernel
theorem dL_law_599 : decode cL_law 599 = .ok (.iconst 3, 1) := by decide +kernel
theorem dL_law_600 : decode cL_law 600 = .ok (.iadd, 1) := by decide +kernel
theorem dL_law_601 : decode cL_law 601 = .ok (.iaload, 1) := by decide +kernel
theorem dL_law_602 : decode cL_law 602 = .ok (.invokevirtual 80, 3) := by decide +kernel
theorem dL_law_605 : decode cL_law 605 = .ok (.if_icmp .eq 617, 3) := by decide +kernel
theorem dL_law_608 : decode cL_law 608 = .ok (.iconst 0, 1) := by decide +kernel
theorem dL_law_609 : decode cL_law 609 = .ok (.ireturn, 1) := by decide +kernel
theorem dL_law_610 : decode cL_law 610 = .ok (.aload_n 1, 1) := by decide +kernel
theorem dL_law_611 : decode cL_law 611 = .ok (.aload_n 0, 1) := by decide +kernel
theorem dL_law_612 : decode cL_law 612 = .ok (.iload_n 3, 1) := by decide +kernel
theorem dL_law_613 : decode cL_law 613 = .ok (.iconst 1, 1) := by decide +kernel
theorem dL_law_614 : decode cL_law 614 = .ok (.iadd, 1) := by decide +kernel
theorem dL_law_615 : decode cL_law 615 = .ok (.iaload, 1) := by decide +kernel
theorem dL_law_616 : decode cL_law 616 = .ok (.invokevirtual 81, 3) := by decide +kernel
theorem dL_law_619 : decode cL_law 619 = .ok (.aload_n 2, 1) := by decide +kernel
theorem dL_law_620 : decode cL_law 620 = .ok (.aload_n 0, 1) := by decide +kernel
theorem dL_law_621 : decode cL_law 621 = .ok (.iload_n 3, 1) := by decide +kernel
theorem dL_law_622 : decode cL_law 622 = .ok (.iconst 1, 1) := by decide +kernel
theorem dL_law_623 : decode cL_law 623 = .ok (.iadd, 1) := by decide +kernel
theorem dL_law_624 : decode cL_law 624 = .ok (.iaload, 1) := by decide +kernel
theorem dL_law_625 : decode cL_law 625 = .ok (.invokevirtual 84, 3) := by decide +kernel
theorem dL_law_628 : decode cL_law 628 = .ok (.if_icmp .eq 594, 3) := by decide +kernel
theorem dL_law_631 : decode cL_law 631 = .ok (.iconst 0, 1) := by decide +kernel
theorem dL_law_632 : decode cL_law 632 = .ok (.ireturn, 1) := by decide +kernel
theorem dL_law_633 : decode cL_law 633 = .ok (.aload_n 1, 1) := by decide +kernel
theorem dL_law_634 : decode cL_law 634 = .ok (.aload_n 0, 1) := by decide +kernel
theorem dL_law_635 : decode cL_law 635 = .ok (.iload_n 3, 1) := by decide +kernel
theorem dL_law_636 : decode cL_law 636 = .ok (.iconst 1, 1) := by decide +kernel
theorem dL_law_637 : decode cL_law 637 = .ok (.iadd, 1) := by decide +kernel
theorem dL_law_638 : decode cL_law 638 = .ok (.iaload, 1) := by decide +kernel
theorem dL_law_639 : decode cL_law 639 = .ok (.invokevirtual 85, 3) := by decide +kernel
theorem dL_law_642 : decode cL_law 642 = .ok (.aload_n 2, 1) := by decide +kernel
theorem dL_law_643 : decode cL_law 643 = .ok (.aload_n 0, 1) := by decide +kernel
theorem dL_law_644 : decode cL_law 644 = .ok (.iload_n 3, 1) := by decide +kernel
theorem dL_law_645 : decode cL_law 645 = .ok (.iconst 1, 1) := by decide +kernel
theorem dL_law_646 : decode cL_law 646 = .ok (.iadd, 1) := by decide +kernel
theorem dL_law_647 : decode cL_law 647 = .ok (.iaload, 1) := by decide +kernel
theorem dL_law_648 : decode cL_law 648 = .ok (.invokevirtual 88, 3) := by decide +kernel
theorem dL_law_651 : decode cL_law 651 = .ok (.if_icmp .eq 571, 3) := by decide +kernel
theorem dL_law_654 : decode cL_law 654 = .ok (.iconst 0, 1) := by decide +kernel
theorem dL_law_655 : decode cL_law 655 = .ok (.ireturn, 1) := by decide +kernel
theorem dL_law_656 : decode cL_law 656 = .ok (.aload_n 1, 1) := by decide +kernel
theorem dL_law_657 : decode cL_law 657 = .ok (.aload_n 0, 1) := by decide +kernel
theorem dL_law_658 : decode cL_law 658 = .ok (.iload_n 3, 1) := by decide +kernel
theorem dL_law_659 : decode cL_law 659 = .ok (.iconst 1, 1) := by decide +kernel
theorem dL_law_660 : decode cL_law 660 = .ok (.iadd, 1) := by decide +kernel
theorem dL_law_661 : decode cL_law 661 = .ok (.iaload, 1) := by decide +kernel
theorem dL_law_662 : decode cL_law 662 = .ok (.aload_n 0, 1) := by decide +kernel
theorem dL_law_663 : decode cL_law 663 = .ok (.iload_n 3, 1) := by decide +kernel
theorem dL_law_664 : decode cL_law 664 = .ok (.iconst 2, 1) := by decide +kernel
theorem dL_law_665 : decode cL_law 665 = .ok (.iadd, 1) := by decide +kernel
theorem dL_law_666 : decode cL_law 666 = .ok (.iaload, 1) := by decide +kernel
theorem dL_law_667 : decode cL_law 667 = .ok (.invokevirtual 89, 3) := by decide +kernel
theorem dL_law_670 : decode cL_law 670 = .ok (.aload_n 2, 1) := by decide +kernel
theorem dL_law_671 : decode cL_law 671 = .ok (.aload_n 0, 1) := by decide +kernel
theorem dL_law_672 : decode cL_law 672 = .ok (.iload_n 3, 1) := by decide +kernel
theorem dL_law_673 : decode cL_law 673 = .ok (.iconst 1, 1) := by decide +kernel
theorem dL_law_674 : decode cL_law 674 = .ok (.iadd, 1) := by decide +kernel
theorem dL_law_675 : decode cL_law 675 = .ok (.iaload, 1) := by decide +kernel
theorem dL_law_676 : decode cL_law 676 = .ok (.aload_n 0, 1) := by decide +kernel
theorem dL_law_677 : decode cL_law 677 = .ok (.iload_n 3, 1) := by decide +kernel
theorem dL_law_678 : decode cL_law 678 = .ok (.iconst 2, 1) := by decide +kernel
theorem dL_law_679 : decode cL_law 679 = .ok (.iadd, 1) := by decide +kernel
theorem dL_law_680 : decode cL_law 680 = .ok (.iaload, 1) := by decide +kernel
theorem dL_law_681 : decode cL_law 681 = .ok (.invokevirtual 92, 3) := by decide +kernel
theorem dL_law_684 : decode cL_law 684 = .ok (.if_icmp .eq 538, 3) := by decide +kernel
theorem dL_law_687 : decode cL_law 687 = .ok (.iconst 0, 1) := by decide +kernel
theorem dL_law_688 : decode cL_law 688 = .ok (.ireturn, 1) := by decide +kernel
theorem dL_law_689 : decode cL_law 689 = .ok (.aload_n 1, 1) := by decide +kernel
theorem dL_law_690 : decode cL_law 690 = .ok (.aload_n 0, 1) := by decide +kernel
theorem dL_law_691 : decode cL_law 691 = .ok (.iload_n 3, 1) := by decide +kernel
theorem dL_law_692 : decode cL_law 692 = .ok (.iconst 1, 1) := by decide +kernel
theorem dL_law_693 : decode cL_law 693 = .ok (.iadd, 1) := by decide +kernel
theorem dL_law_694 : decode cL_law 694 = .ok (.iaload, 1) := by decide +kernel
theorem dL_law_695 : decode cL_law 695 = .ok (.aload_n 0, 1) := by decide +kernel
theorem dL_law_696 : decode cL_law 696 = .ok (.iload_n 3, 1) := by decide +kernel
theorem dL_law_697 : decode cL_law 697 = .ok (.iconst 2, 1) := by decide +kernel
theorem dL_law_698 : decode cL_law 698 = .ok (.iadd, 1) := by decide +kernel
theorem dL_law_699 : decode cL_law 699 = .ok (.iaload, 1) := by decide +kernel
theorem dL_law_700 : decode cL_law 700 = .ok (.invokevirtual 93, 3) := by decide +kernel
theorem dL_law_703 : decode cL_law 703 = .ok (.aload_n 2, 1) := by decide +kernel
theorem dL_law_704 : decode cL_law 704 = .ok (.aload_n 0, 1) := by decide +kernel
theorem dL_law_705 : decode cL_law 705 = .ok (.iload_n 3, 1) := by decide +kernel
theorem dL_law_706 : decode cL_law 706 = .ok (.iconst 1, 1) := by decide +kernel
theorem dL_law_707 : decode cL_law 707 = .ok (.iadd, 1) := by decide +kernel
theorem dL_law_708 : decode cL_law 708 = .ok (.iaload, 1) := by decide +kernel
theorem dL_law_709 : decode cL_law 709 = .ok (.aload_n 0, 1) := by decide +kernel
theorem dL_law_710 : decode cL_law 710 = .ok (.iload_n 3, 1) := by decide +kernel
theorem dL_law_711 : decode cL_law 711 = .ok (.iconst 2, 1) := by decide +kernel
theorem dL_law_712 : decode cL_law 712 = .ok (.iadd, 1) := by decide +kernel
theorem dL_law_713 : decode cL_law 713 = .ok (.iaload, 1) := by decide +kernel
theorem dL_law_714 : decode cL_law 714 = .ok (.invokevirtual 96, 3) := by decide +kernel
theorem dL_law_717 : decode cL_law 717 = .ok (.if_icmp .eq 505, 3) := by decide +kernel
theorem dL_law_720 : decode cL_law 720 = .ok (.iconst 0, 1) := by decide +kernel
theorem dL_law_721 : decode cL_law 721 = .ok (.ireturn, 1) := by decide +kernel
theorem dL_law_722 : decode cL_law 722 = .ok (.aload_n 1, 1) := by decide +kernel
theorem dL_law_723 : decode cL_law 723 = .ok (.invokevirtual 97, 3) := by decide +kernel
theorem dL_law_726 : decode cL_law 726 = .ok (.aload_n 2, 1) := by decide +kernel
theorem dL_law_727 : decode cL_law 727 = .ok (.invokevirtual 100, 3) := by decide +kernel
theorem dL_law_730 : decode cL_law 730 = .ok (.if_icmp .eq 492, 3) := by decide +kernel
theorem dL_law_733 : decode cL_law 733 = .ok (.iconst 0, 1) := by decide +kernel
theorem dL_law_734 : decode cL_law 734 = .ok (.ireturn, 1) := by decide +kernel
theorem dL_law_735 : decode cL_law 735 = .ok (.aload_n 1, 1) := by decide +kernel
theorem dL_law_736 : decode cL_law 736 = .ok (.invokevirtual 101, 3) := by decide +kernel
theorem dL_law_739 : decode cL_law 739 = .ok (.aload_n 2, 1) := by decide +kernel
theorem dL_law_740 : decode cL_law 740 = .ok (.invokevirtual 104, 3) := by decide +kernel
theorem dL_law_743 : decode cL_law 743 = .ok (.if_icmp .eq 479, 3) := by decide +kernel
theorem dL_law_746 : decode cL_law 746 = .ok (.iconst 0, 1) := by decide +kernel
theorem dL_law_747 : decode cL_law 747 = .ok (.ireturn, 1) := by decide +kernel
theorem dL_law_748 : decode cL_law 748 = .ok (.aload_n 1, 1) := by decide +kernel
theorem dL_law_749 : decode cL_law 749 = .ok (.invokevirtual 105, 3) := by decide +kernel
theorem dL_law_752 : decode cL_law 752 = .ok (.aload_n 2, 1) := by decide +kernel
theorem dL_law_753 : decode cL_law 753 = .ok (.invokevirtual 108, 3) := by decide +kernel
theorem dL_law_756 : decode cL_law 756 = .ok (.if_icmp .eq 466, 3) := by decide +kernel
theorem dL_law_759 : decode cL_law 759 = .ok (.iconst 0, 1) := by decide +kernel
theorem dL_law_760 : decode cL_law 760 = .ok (.ireturn, 1) := by decide +kernel
theorem dL_law_761 : decode cL_law 761 = .ok (.aload_n 1, 1) := by decide +kernel
theorem dL_law_762 : decode cL_law 762 = .ok (.aload_n 0, 1) := by decide +kernel
theorem dL_law_763 : decode cL_law 763 = .ok (.iload_n 3, 1) := by decide +kernel
theorem dL_law_764 : decode cL_law 764 = .ok (.iconst 1, 1) := by decide +kernel
theorem dL_law_765 : decode cL_law 765 = .ok (.iadd, 1) := by decide +kernel
theorem dL_law_766 : decode cL_law 766 = .ok (.iaload, 1) := by decide +kernel
theorem dL_law_767 : decode cL_law 767 = .ok (.aload_n 0, 1) := by decide +kernel
theorem dL_law_768 : decode cL_law 768 = .ok (.iload_n 3, 1) := by decide +kernel
theorem dL_law_769 : decode cL_law 769 = .ok (.iconst 2, 1) := by decide +kernel
theorem dL_law_770 : decode cL_law 770 = .ok (.iadd, 1) := by decide +kernel
theorem dL_law_771 : decode cL_law 771 = .ok (.iaload, 1) := by decide +kernel
theorem dL_law_772 : decode cL_law 772 = .ok (.aload_n 0, 1) := by decide +kernel
theorem dL_law_773 : decode cL_law 773 = .ok (.iload_n 3, 1) := by decide +kernel
theorem dL_law_774 : decode cL_law 774 = .ok (.iconst 3, 1) := by decide +kernel
theorem dL_law_775 : decode cL_law 775 = .ok (.iadd, 1) := by decide +kernel
theorem dL_law_776 : decode cL_law 776 = .ok (.iaload, 1) := by decide +kernel
theorem dL_law_777 : decode cL_law 777 = .ok (.invokevirtual 109, 3) := by decide +kernel
theorem dL_law_780 : decode cL_law 780 = .ok (.aload_n 2, 1) := by decide +kernel
theorem dL_law_781 : decode cL_law 781 = .ok (.aload_n 0, 1) := by decide +kernel
theorem dL_law_782 : decode cL_law 782 = .ok (.iload_n 3, 1) := by decide +kernel
theorem dL_law_783 : decode cL_law 783 = .ok (.iconst 1, 1) := by decide +kernel
theorem dL_law_784 : decode cL_law 784 = .ok (.iadd, 1) := by decide +kernel
theorem dL_law_785 : decode cL_law 785 = .ok (.iaload, 1) := by decide +kernel
theorem dL_law_786 : decode cL_law 786 = .ok (.aload_n 0, 1) := by decide +kernel
theorem dL_law_787 : decode cL_law 787 = .ok (.iload_n 3, 1) := by decide +kernel
theorem dL_law_788 : decode cL_law 788 = .ok (.iconst 2, 1) := by decide +kernel
theorem dL_law_789 : decode cL_law 789 = .ok (.iadd, 1) := by decide +kernel
theorem dL_law_790 : decode cL_law 790 = .ok (.iaload, 1) := by decide +kernel
theorem dL_law_791 : decode cL_law 791 = .ok (.aload_n 0, 1) := by decide +kernel
theorem dL_law_792 : decode cL_law 792 = .ok (.iload_n 3, 1) := by decide +kernel
theorem dL_law_793 : decode cL_law 793 = .ok (.iconst 3, 1) := by decide +kernel
theorem dL_law_794 : decode cL_law 794 = .ok (.iadd, 1) := by decide +kernel
theorem dL_law_795 : decode cL_law 795 = .ok (.iaload, 1) := by decide +kernel
theorem dL_law_796 : decode cL_law 796 = .ok (.invokevirtual 112, 3) := by decide +kernel
theorem dL_law_799 : decode cL_law 799 = .ok (.if_icmp .eq 423, 3) := by decide +kernel
theorem dL_law_802 : decode cL_law 802 = .ok (.iconst 0, 1) := by decide +kernel
theorem dL_law_803 : decode cL_law 803 = .ok (.ireturn, 1) := by decide +kernel
theorem dL_law_804 : decode cL_law 804 = .ok (.aload_n 1, 1) := by decide +kernel
theorem dL_law_805 : decode cL_law 805 = .ok (.invokevirtual 113, 3) := by decide +kernel
theorem dL_law_808 : decode cL_law 808 = .ok (.aload_n 2, 1) := by decide +kernel
theorem dL_law_809 : decode cL_law 809 = .ok (.invokevirtual 116, 3) := by decide +kernel
theorem dL_law_812 : decode cL_law 812 = .ok (.if_icmp .eq 410, 3) := by decide +kernel
theorem dL_law_815 : decode cL_law 815 = .ok (.iconst 0, 1) := by decide +kernel
theorem dL_law_816 : decode cL_law 816 = .ok (.ireturn, 1) := by decide +kernel
theorem dL_law_817 : decode cL_law 817 = .ok (.aload_n 1, 1) := by decide +kernel
theorem dL_law_818 : decode cL_law 818 = .ok (.aload_n 0, 1) := by decide +kernel
theorem dL_law_819 : decode cL_law 819 = .ok (.iload_n 3, 1) := by decide +kernel
theorem dL_law_820 : decode cL_law 820 = .ok (.iconst 1, 1) := by decide +kernel
theorem dL_law_821 : decode cL_law 821 = .ok (.iadd, 1) := by decide +kernel
theorem dL_law_822 : decode cL_law 822 = .ok (.iaload, 1) := by decide +kernel
theorem dL_law_823 : decode cL_law 823 = .ok (.invokevirtual 117, 3) := by decide +kernel
theorem dL_law_826 : decode cL_law 826 = .ok (.aload_n 2, 1) := by decide +kernel
theorem dL_law_827 : decode cL_law 827 = .ok (.aload_n 0, 1) := by decide +kernel
theorem dL_law_828 : decode cL_law 828 = .ok (.iload_n 3, 1) := by decide +kernel
theorem dL_law_829 : decode cL_law 829 = .ok (.iconst 1, 1) := by decide +kernel
theorem dL_law_830 : decode cL_law 830 = .ok (.iadd, 1) := by decide +kernel
theorem dL_law_831 : decode cL_law 831 = .ok (.iaload, 1) := by decide +kernel
theorem dL_law_832 : decode cL_law 832 = .ok (.invokevirtual 120, 3) := by decide +kernel
theorem dL_law_835 : decode cL_law 835 = .ok (.if_icmp .eq 387, 3) := by decide +kernel
theorem dL_law_838 : decode cL_law 838 = .ok (.iconst 0, 1) := by decide +kernel
theorem dL_law_839 : decode cL_law 839 = .ok (.ireturn, 1) := by decide +kernel
theorem dL_law_840 : decode cL_law 840 = .ok (.aload_n 1, 1) := by decide +kernel
theorem dL_law_841 : decode cL_law 841 = .ok (.aload_n 0, 1) := by decide +kernel
theorem dL_law_842 : decode cL_law 842 = .ok (.iload_n 3, 1) := by decide +kernel
theorem dL_law_843 : decode cL_law 843 = .ok (.iconst 1, 1) := by decide +kernel
theorem dL_law_844 : decode cL_law 844 = .ok (.iadd, 1) := by decide +kernel
theorem dL_law_845 : decode cL_law 845 = .ok (.iaload, 1) := by decide +kernel
theorem dL_law_846 : decode cL_law 846 = .ok (.aload_n 0, 1) := by decide +kernel
theorem dL_law_847 : decode cL_law 847 = .ok (.iload_n 3, 1) := by decide +kernel
theorem dL_law_848 : decode cL_law 848 = .ok (.iconst 2, 1) := by decide +kernel
theorem dL_law_849 : decode cL_law 849 = .ok (.iadd, 1) := by decide +kernel
theorem dL_law_850 : decode cL_law 850 = .ok (.iaload, 1) := by decide +kernel
theorem dL_law_851 : decode cL_law 851 = .ok (.aload_n 0, 1) := by decide +kernel
theorem dL_law_852 : decode cL_law 852 = .ok (.iload_n 3, 1) := by decide +kernel
theorem dL_law_853 : decode cL_law 853 = .ok (.iconst 3, 1) := by decide +kernel
theorem dL_law_854 : decode cL_law 854 = .ok (.iadd, 1) := by decide +kernel
theorem dL_law_855 : decode cL_law 855 = .ok (.iaload, 1) := by decide +kernel
theorem dL_law_856 : decode cL_law 856 = .ok (.invokevirtual 121, 3) := by decide +kernel
theorem dL_law_859 : decode cL_law 859 = .ok (.aload_n 2, 1) := by decide +kernel
theorem dL_law_860 : decode cL_law 860 = .ok (.aload_n 0, 1) := by decide +kernel
theorem dL_law_861 : decode cL_law 861 = .ok (.iload_n 3, 1) := by decide +kernel
theorem dL_law_862 : decode cL_law 862 = .ok (.iconst 1, 1) := by decide +kernel
theorem dL_law_863 : decode cL_law 863 = .ok (.iadd, 1) := by decide +kernel
theorem dL_law_864 : decode cL_law 864 = .ok (.iaload, 1) := by decide +kernel
theorem dL_law_865 : decode cL_law 865 = .ok (.aload_n 0, 1) := by decide +kernel
theorem dL_law_866 : decode cL_law 866 = .ok (.iload_n 3, 1) := by decide +kernel
theorem dL_law_867 : decode cL_law 867 = .ok (.iconst 2, 1) := by decide +kernel
theorem dL_law_868 : decode cL_law 868 = .ok (.iadd, 1) := by decide +kernel
theorem dL_law_869 : decode cL_law 869 = .ok (.iaload, 1) := by decide +kernel
theorem dL_law_870 : decode cL_law 870 = .ok (.aload_n 0, 1) := by decide +kernel
theorem dL_law_871 : decode cL_law 871 = .ok (.iload_n 3, 1) := by decide +kernel
theorem dL_law_872 : decode cL_law 872 = .ok (.iconst 3, 1) := by decide +kernel
theorem dL_law_873 : decode cL_law 873 = .ok (.iadd, 1) := by decide +kernel
theorem dL_law_874 : decode cL_law 874 = .ok (.iaload, 1) := by decide +kernel
theorem dL_law_875 : decode cL_law 875 = .ok (.invokevirtual 125, 3) := by decide +kernel
theorem dL_law_878 : decode cL_law 878 = .ok (.lcmp, 1) := by decide +kernel
theorem dL_law_879 : decode cL_law 879 = .ok (.ifCond .eq 343, 3) := by decide +kernel
theorem dL_law_882 : decode cL_law 882 = .ok (.iconst 0, 1) := by decide +kernel
theorem dL_law_883 : decode cL_law 883 = .ok (.ireturn, 1) := by decide +kernel
theorem dL_law_884 : decode cL_law 884 = .ok (.aload_n 1, 1) := by decide +kernel
theorem dL_law_885 : decode cL_law 885 = .ok (.aload_n 0, 1) := by decide +kernel
theorem dL_law_886 : decode cL_law 886 = .ok (.iload_n 3, 1) := by decide +kernel
theorem dL_law_887 : decode cL_law 887 = .ok (.iconst 1, 1) := by decide +kernel
theorem dL_law_888 : decode cL_law 888 = .ok (.iadd, 1) := by decide +kernel
theorem dL_law_889 : decode cL_law 889 = .ok (.iaload, 1) := by decide +kernel
theorem dL_law_890 : decode cL_law 890 = .ok (.aload_n 0, 1) := by decide +kernel
theorem dL_law_891 : decode cL_law 891 = .ok (.iload_n 3, 1) := by decide +kernel
theorem dL_law_892 : decode cL_law 892 = .ok (.iconst 2, 1) := by decide +kernel
theorem dL_law_893 : decode cL_law 893 = .ok (.iadd, 1) := by decide +kernel
theorem dL_law_894 : decode cL_law 894 = .ok (.iaload, 1) := by decide +kernel
theorem dL_law_895 : decode cL_law 895 = .ok (.aload_n 0, 1) := by decide +kernel
theorem dL_law_896 : decode cL_law 896 = .ok (.iload_n 3, 1) := by decide +kernel
theorem dL_law_897 : decode cL_law 897 = .ok (.iconst 3, 1) := by decide +kernel
theorem dL_law_898 : decode cL_law 898 = .ok (.iadd, 1) := by decide +kernel
theorem dL_law_899 : decode cL_law 899 = .ok (.iaload, 1) := by decide +kernel
theorem dL_law_900 : decode cL_law 900 = .ok (.invokevirtual 126, 3) := by decide +kernel
theorem dL_law_903 : decode cL_law 903 = .ok (.aload_n 2, 1) := by decide +kernel
theorem dL_law_904 : decode cL_law 904 = .ok (.aload_n 0, 1) := by decide +kernel
theorem dL_law_905 : decode cL_law 905 = .ok (.iload_n 3, 1) := by decide +kernel
theorem dL_law_906 : decode cL_law 906 = .ok (.iconst 1, 1) := by decide +kernel
theorem dL_law_907 : decode cL_law 907 = .ok (.iadd, 1) := by decide +kernel
theorem dL_law_908 : decode cL_law 908 = .ok (.iaload, 1) := by decide +kernel
theorem dL_law_909 : decode cL_law 909 = .ok (.aload_n 0, 1) := by decide +kernel
theorem dL_law_910 : decode cL_law 910 = .ok (.iload_n 3, 1) := by decide +kernel
theorem dL_law_911 : decode cL_law 911 = .ok (.iconst 2, 1) := by decide +kernel
theorem dL_law_912 : decode cL_law 912 = .ok (.iadd, 1) := by decide +kernel
theorem dL_law_913 : decode cL_law 913 = .ok (.iaload, 1) := by decide +kernel
theorem dL_law_914 : decode cL_law 914 = .ok (.aload_n 0, 1) := by decide +kernel
theorem dL_law_915 : decode cL_law 915 = .ok (.iload_n 3, 1) := by decide +kernel
theorem dL_law_916 : decode cL_law 916 = .ok (.iconst 3, 1) := by decide +kernel
theorem dL_law_917 : decode cL_law 917 = .ok (.iadd, 1) := by decide +kernel
theorem dL_law_918 : decode cL_law 918 = .ok (.iaload, 1) := by decide +kernel
theorem dL_law_919 : decode cL_law 919 = .ok (.invokevirtual 129, 3) := by decide +kernel
theorem dL_law_922 : decode cL_law 922 = .ok (.if_icmp .eq 300, 3) := by decide +kernel
theorem dL_law_925 : decode cL_law 925 = .ok (.iconst 0, 1) := by decide +kernel
theorem dL_law_926 : decode cL_law 926 = .ok (.ireturn, 1) := by decide +kernel
theorem dL_law_927 : decode cL_law 927 = .ok (.aload_n 1, 1) := by decide +kernel
theorem dL_law_928 : decode cL_law 928 = .ok (.aload_n 0, 1) := by decide +kernel
theorem dL_law_929 : decode cL_law 929 = .ok (.iload_n 3, 1) := by decide +kernel
theorem dL_law_930 : decode cL_law 930 = .ok (.iconst 1, 1) := by decide +kernel
theorem dL_law_931 : decode cL_law 931 = .ok (.iadd, 1) := by decide +kernel
theorem dL_law_932 : decode cL_law 932 = .ok (.iaload, 1) := by decide +kernel
theorem dL_law_933 : decode cL_law 933 = .ok (.aload_n 0, 1) := by decide +kernel
theorem dL_law_934 : decode cL_law 934 = .ok (.iload_n 3, 1) := by decide +kernel
theorem dL_law_935 : decode cL_law 935 = .ok (.iconst 2, 1) := by decide +kernel
theorem dL_law_936 : decode cL_law 936 = .ok (.iadd, 1) := by decide +kernel
theorem dL_law_937 : decode cL_law 937 = .ok (.iaload, 1) := by decide +kernel
theorem dL_law_938 : decode cL_law 938 = .ok (.aload_n 0, 1) := by decide +kernel
theorem dL_law_939 : decode cL_law 939 = .ok (.iload_n 3, 1) := by decide +kernel
theorem dL_law_940 : decode cL_law 940 = .ok (.iconst 3, 1) := by decide +kernel
theorem dL_law_941 : decode cL_law 941 = .ok (.iadd, 1) := by decide +kernel
theorem dL_law_942 : decode cL_law 942 = .ok (.iaload, 1) := by decide +kernel
theorem dL_law_943 : decode cL_law 943 = .ok (.invokevirtual 130, 3) := by decide +kernel
theorem dL_law_946 : decode cL_law 946 = .ok (.aload_n 2, 1) := by decide +kernel
theorem dL_law_947 : decode cL_law 947 = .ok (.aload_n 0, 1) := by decide +kernel
theorem dL_law_948 : decode cL_law 948 = .ok (.iload_n 3, 1) := by decide +kernel
theorem dL_law_949 : decode cL_law 949 = .ok (.iconst 1, 1) := by decide +kernel
theorem dL_law_950 : decode cL_law 950 = .ok (.iadd, 1) := by decide +kernel
theorem dL_law_951 : decode cL_law 951 = .ok (.iaload, 1) := by decide +kernel
theorem dL_law_952 : decode cL_law 952 = .ok (.aload_n 0, 1) := by decide +kernel
theorem dL_law_953 : decode cL_law 953 = .ok (.iload_n 3, 1) := by decide +kernel
theorem dL_law_954 : decode cL_law 954 = .ok (.iconst 2, 1) := by decide +kernel
theorem dL_law_955 : decode cL_law 955 = .ok (.iadd, 1) := by decide +kernel
theorem dL_law_956 : decode cL_law 956 = .ok (.iaload, 1) := by decide +kernel
theorem dL_law_957 : decode cL_law 957 = .ok (.aload_n 0, 1) := by decide +kernel
theorem dL_law_958 : decode cL_law 958 = .ok (.iload_n 3, 1) := by decide +kernel
theorem dL_law_959 : decode cL_law 959 = .ok (.iconst 3, 1) := by decide +kernel
theorem dL_law_960 : decode cL_law 960 = .ok (.iadd, 1) := by decide +kernel
theorem dL_law_961 : decode cL_law 961 = .ok (.iaload, 1) := by decide +kernel
theorem dL_law_962 : decode cL_law 962 = .ok (.invokevirtual 133, 3) := by decide +kernel
theorem dL_law_965 : decode cL_law 965 = .ok (.if_icmp .eq 257, 3) := by decide +kernel
theorem dL_law_968 : decode cL_law 968 = .ok (.iconst 0, 1) := by decide +kernel
theorem dL_law_969 : decode cL_law 969 = .ok (.ireturn, 1) := by decide +kernel
theorem dL_law_970 : decode cL_law 970 = .ok (.aload_n 1, 1) := by decide +kernel
theorem dL_law_971 : decode cL_law 971 = .ok (.aload_n 0, 1) := by decide +kernel
theorem dL_law_972 : decode cL_law 972 = .ok (.iload_n 3, 1) := by decide +kernel
theorem dL_law_973 : decode cL_law 973 = .ok (.iconst 1, 1) := by decide +kernel
theorem dL_law_974 : decode cL_law 974 = .ok (.iadd, 1) := by decide +kernel
theorem dL_law_975 : decode cL_law 975 = .ok (.iaload, 1) := by decide +kernel
theorem dL_law_976 : decode cL_law 976 = .ok (.invokevirtual 134, 3) := by decide +kernel
theorem dL_law_979 : decode cL_law 979 = .ok (.aload_n 2, 1) := by decide +kernel
theorem dL_law_980 : decode cL_law 980 = .ok (.aload_n 0, 1) := by decide +kernel
theorem dL_law_981 : decode cL_law 981 = .ok (.iload_n 3, 1) := by decide +kernel
theorem dL_law_982 : decode cL_law 982 = .ok (.iconst 1, 1) := by decide +kernel
theorem dL_law_983 : decode cL_law 983 = .ok (.iadd, 1) := by decide +kernel
theorem dL_law_984 : decode cL_law 984 = .ok (.iaload, 1) := by decide +kernel
theorem dL_law_985 : decode cL_law 985 = .ok (.invokevirtual 137, 3) := by decide +kernel
theorem dL_law_988 : decode cL_law 988 = .ok (.if_icmp .eq 234, 3) := by decide +kernel
theorem dL_law_991 : decode cL_law 991 = .ok (.iconst 0, 1) := by decide +kernel
theorem dL_law_992 : decode cL_law 992 = .ok (.ireturn, 1) := by decide +kernel
theorem dL_law_993 : decode cL_law 993 = .ok (.aload_n 1, 1) := by decide +kernel
theorem dL_law_994 : decode cL_law 994 = .ok (.aload_n 0, 1) := by decide +kernel
theorem dL_law_995 : decode cL_law 995 = .ok (.iload_n 3, 1) := by decide +kernel
theorem dL_law_996 : decode cL_law 996 = .ok (.iconst 1, 1) := by decide +kernel
theorem dL_law_997 : decode cL_law 997 = .ok (.iadd, 1) := by decide +kernel
theorem dL_law_998 : decode cL_law 998 = .ok (.iaload, 1) := by decide +kernel
theorem dL_law_999 : decode cL_law 999 = .ok (.aload_n 0, 1) := by decide +kernel
theorem dL_law_1000 : decode cL_law 1000 = .ok (.iload_n 3, 1) := by decide +kernel
theorem dL_law_1001 : decode cL_law 1001 = .ok (.iconst 2, 1) := by decide +kernel
theorem dL_law_1002 : decode cL_law 1002 = .ok (.iadd, 1) := by decide +kernel
theorem dL_law_1003 : decode cL_law 1003 = .ok (.iaload, 1) := by decide +kernel
theorem dL_law_1004 : decode cL_law 1004 = .ok (.aload_n 0, 1) := by decide +kernel
theorem dL_law_1005 : decode cL_law 1005 = .ok (.iload_n 3, 1) := by decide +kernel
theorem dL_law_1006 : decode cL_law 1006 = .ok (.iconst 3, 1) := by decide +kernel
theorem dL_law_1007 : decode cL_law 1007 = .ok (.iadd, 1) := by decide +kernel
theorem dL_law_1008 : decode cL_law 1008 = .ok (.iaload, 1) := by decide +kernel
theorem dL_law_1009 : decode cL_law 1009 = .ok (.aload_n 0, 1) := by decide +kernel
theorem dL_law_1010 : decode cL_law 1010 = .ok (.iload_n 3, 1) := by decide +kernel
theorem dL_law_1011 : decode cL_law 1011 = .ok (.iconst 4, 1) := by decide +kernel
theorem dL_law_1012 : decode cL_law 1012 = .ok (.iadd, 1) := by decide +kernel
theorem dL_law_1013 : decode cL_law 1013 = .ok (.iaload, 1) := by decide +kernel
theorem dL_law_1014 : decode cL_law 1014 = .ok (.invokevirtual 138, 3) := by decide +kernel
theorem dL_law_1017 : decode cL_law 1017 = .ok (.aload_n 2, 1) := by decide +kernel
theorem dL_law_1018 : decode cL_law 1018 = .ok (.aload_n 0, 1) := by decide +kernel
theorem dL_law_1019 : decode cL_law 1019 = .ok (.iload_n 3, 1) := by decide +kernel
theorem dL_law_1020 : decode cL_law 1020 = .ok (.iconst 1, 1) := by decide +kernel
theorem dL_law_1021 : decode cL_law 1021 = .ok (.iadd, 1) := by decide +kernel
theorem dL_law_1022 : decode cL_law 1022 = .ok (.iaload, 1) := by decide +kernel
theorem dL_law_1023 : decode cL_law 1023 = .ok (.aload_n 0, 1) := by decide +kernel
theorem dL_law_1024 : decode cL_law 1024 = .ok (.iload_n 3, 1) := by decide +kernel
theorem dL_law_1025 : decode cL_law 1025 = .ok (.iconst 2, 1) := by decide +kernel
theorem dL_law_1026 : decode cL_law 1026 = .ok (.iadd, 1) := by decide +kernel
theorem dL_law_1027 : decode cL_law 1027 = .ok (.iaload, 1) := by decide +kernel
theorem dL_law_1028 : decode cL_law 1028 = .ok (.aload_n 0, 1) := by decide +kernel
theorem dL_law_1029 : decode cL_law 1029 = .ok (.iload_n 3, 1) := by decide +kernel
theorem dL_law_1030 : decode cL_law 1030 = .ok (.iconst 3, 1) := by decide +kernel
theorem dL_law_1031 : decode cL_law 1031 = .ok (.iadd, 1) := by decide +kernel
theorem dL_law_1032 : decode cL_law 1032 = .ok (.iaload, 1) := by decide +kernel
theorem dL_law_1033 : decode cL_law 1033 = .ok (.aload_n 0, 1) := by decide +kernel
theorem dL_law_1034 : decode cL_law 1034 = .ok (.iload_n 3, 1) := by decide +kernel
theorem dL_law_1035 : decode cL_law 1035 = .ok (.iconst 4, 1) := by decide +kernel
theorem dL_law_1036 : decode cL_law 1036 = .ok (.iadd, 1) := by decide +kernel
theorem dL_law_1037 : decode cL_law 1037 = .ok (.iaload, 1) := by decide +kernel
theorem dL_law_1038 : decode cL_law 1038 = .ok (.invokevirtual 142, 3) := by decide +kernel
theorem dL_law_1041 : decode cL_law 1041 = .ok (.if_icmp .eq 181, 3) := by decide +kernel
theorem dL_law_1044 : decode cL_law 1044 = .ok (.iconst 0, 1) := by decide +kernel
theorem dL_law_1045 : decode cL_law 1045 = .ok (.ireturn, 1) := by decide +kernel
theorem dL_law_1046 : decode cL_law 1046 = .ok (.aload_n 1, 1) := by decide +kernel
theorem dL_law_1047 : decode cL_law 1047 = .ok (.aload_n 0, 1) := by decide +kernel
theorem dL_law_1048 : decode cL_law 1048 = .ok (.iload_n 3, 1) := by decide +kernel
theorem dL_law_1049 : decode cL_law 1049 = .ok (.iconst 1, 1) := by decide +kernel
theorem dL_law_1050 : decode cL_law 1050 = .ok (.iadd, 1) := by decide +kernel
theorem dL_law_1051 : decode cL_law 1051 = .ok (.iaload, 1) := by decide +kernel
theorem dL_law_1052 : decode cL_law 1052 = .ok (.aload_n 0, 1) := by decide +kernel
theorem dL_law_1053 : decode cL_law 1053 = .ok (.iload_n 3, 1) := by decide +kernel
theorem dL_law_1054 : decode cL_law 1054 = .ok (.iconst 2, 1) := by decide +kernel
theorem dL_law_1055 : decode cL_law 1055 = .ok (.iadd, 1) := by decide +kernel
theorem dL_law_1056 : decode cL_law 1056 = .ok (.iaload, 1) := by decide +kernel
theorem dL_law_1057 : decode cL_law 1057 = .ok (.aload_n 0, 1) := by decide +kernel
theorem dL_law_1058 : decode cL_law 1058 = .ok (.iload_n 3, 1) := by decide +kernel
theorem dL_law_1059 : decode cL_law 1059 = .ok (.iconst 3, 1) := by decide +kernel
theorem dL_law_1060 : decode cL_law 1060 = .ok (.iadd, 1) := by decide +kernel
theorem dL_law_1061 : decode cL_law 1061 = .ok (.iaload, 1) := by decide +kernel
theorem dL_law_1062 : decode cL_law 1062 = .ok (.invokevirtual 143, 3) := by decide +kernel
theorem dL_law_1065 : decode cL_law 1065 = .ok (.aload_n 2, 1) := by decide +kernel
theorem dL_law_1066 : decode cL_law 1066 = .ok (.aload_n 0, 1) := by decide +kernel
theorem dL_law_1067 : decode cL_law 1067 = .ok (.iload_n 3, 1) := by decide +kernel
theorem dL_law_1068 : decode cL_law 1068 = .ok (.iconst 1, 1) := by decide +kernel
theorem dL_law_1069 : decode cL_law 1069 = .ok (.iadd, 1) := by decide +kernel
theorem dL_law_1070 : decode cL_law 1070 = .ok (.iaload, 1) := by decide +kernel
theorem dL_law_1071 : decode cL_law 1071 = .ok (.aload_n 0, 1) := by decide +kernel
theorem dL_law_1072 : decode cL_law 1072 = .ok (.iload_n 3, 1) := by decide +kernel
theorem dL_law_1073 : decode cL_law 1073 = .ok (.iconst 2, 1) := by decide +kernel
theorem dL_law_1074 : decode cL_law 1074 = .ok (.iadd, 1) := by decide +kernel
theorem dL_law_1075 : decode cL_law 1075 = .ok (.iaload, 1) := by decide +kernel
theorem dL_law_1076 : decode cL_law 1076 = .ok (.aload_n 0, 1) := by decide +kernel
theorem dL_law_1077 : decode cL_law 1077 = .ok (.iload_n 3, 1) := by decide +kernel
theorem dL_law_1078 : decode cL_law 1078 = .ok (.iconst 3, 1) := by decide +kernel
theorem dL_law_1079 : decode cL_law 1079 = .ok (.iadd, 1) := by decide +kernel
theorem dL_law_1080 : decode cL_law 1080 = .ok (.iaload, 1) := by decide +kernel
theorem dL_law_1081 : decode cL_law 1081 = .ok (.invokevirtual 146, 3) := by decide +kernel
theorem dL_law_1084 : decode cL_law 1084 = .ok (.if_icmp .eq 138, 3) := by decide +kernel
theorem dL_law_1087 : decode cL_law 1087 = .ok (.iconst 0, 1) := by decide +kernel
theorem dL_law_1088 : decode cL_law 1088 = .ok (.ireturn, 1) := by decide +kernel
theorem dL_law_1089 : decode cL_law 1089 = .ok (.aload_n 1, 1) := by decide +kernel
theorem dL_law_1090 : decode cL_law 1090 = .ok (.aload_n 0, 1) := by decide +kernel
theorem dL_law_1091 : decode cL_law 1091 = .ok (.iload_n 3, 1) := by decide +kernel
theorem dL_law_1092 : decode cL_law 1092 = .ok (.iconst 1, 1) := by decide +kernel
theorem dL_law_1093 : decode cL_law 1093 = .ok (.iadd, 1) := by decide +kernel
theorem dL_law_1094 : decode cL_law 1094 = .ok (.iaload, 1) := by decide +kernel
theorem dL_law_1095 : decode cL_law 1095 = .ok (.aload_n 0, 1) := by decide +kernel
theorem dL_law_1096 : decode cL_law 1096 = .ok (.iload_n 3, 1) := by decide +kernel
theorem dL_law_1097 : decode cL_law 1097 = .ok (.iconst 2, 1) := by decide +kernel
theorem dL_law_1098 : decode cL_law 1098 = .ok (.iadd, 1) := by decide +kernel
theorem dL_law_1099 : decode cL_law 1099 = .ok (.iaload, 1) := by decide +kernel
theorem dL_law_1100 : decode cL_law 1100 = .ok (.aload_n 0, 1) := by decide +kernel
theorem dL_law_1101 : decode cL_law 1101 = .ok (.iload_n 3, 1) := by decide +kernel
theorem dL_law_1102 : decode cL_law 1102 = .ok (.iconst 3, 1) := by decide +kernel
theorem dL_law_1103 : decode cL_law 1103 = .ok (.iadd, 1) := by decide +kernel
theorem dL_law_1104 : decode cL_law 1104 = .ok (.iaload, 1) := by decide +kernel
theorem dL_law_1105 : decode cL_law 1105 = .ok (.aload_n 0, 1) := by decide +kernel
theorem dL_law_1106 : decode cL_law 1106 = .ok (.iload_n 3, 1) := by decide +kernel
theorem dL_law_1107 : decode cL_law 1107 = .ok (.iconst 4, 1) := by decide +kernel
theorem dL_law_1108 : decode cL_law 1108 = .ok (.iadd, 1) := by decide +kernel
theorem dL_law_1109 : decode cL_law 1109 = .ok (.iaload, 1) := by decide +kernel
theorem dL_law_1110 : decode cL_law 1110 = .ok (.aload_n 0, 1) := by decide +kernel
theorem dL_law_1111 : decode cL_law 1111 = .ok (.iload_n 3, 1) := by decide +kernel
theorem dL_law_1112 : decode cL_law 1112 = .ok (.iconst 5, 1) := by decide +kernel
theorem dL_law_1113 : decode cL_law 1113 = .ok (.iadd, 1) := by decide +kernel
theorem dL_law_1114 : decode cL_law 1114 = .ok (.iaload, 1) := by decide +kernel
theorem dL_law_1115 : decode cL_law 1115 = .ok (.invokevirtual 147, 3) := by decide +kernel
theorem dL_law_1118 : decode cL_law 1118 = .ok (.aload_n 2, 1) := by decide +kernel
theorem dL_law_1119 : decode cL_law 1119 = .ok (.aload_n 0, 1) := by decide +kernel
theorem dL_law_1120 : decode cL_law 1120 = .ok (.iload_n 3, 1) := by decide +kernel
theorem dL_law_1121 : decode cL_law 1121 = .ok (.iconst 1, 1) := by decide +kernel
theorem dL_law_1122 : decode cL_law 1122 = .ok (.iadd, 1) := by decide +kernel
theorem dL_law_1123 : decode cL_law 1123 = .ok (.iaload, 1) := by decide +kernel
theorem dL_law_1124 : decode cL_law 1124 = .ok (.aload_n 0, 1) := by decide +kernel
theorem dL_law_1125 : decode cL_law 1125 = .ok (.iload_n 3, 1) := by decide +kernel
theorem dL_law_1126 : decode cL_law 1126 = .ok (.iconst 2, 1) := by decide +kernel
theorem dL_law_1127 : decode cL_law 1127 = .ok (.iadd, 1) := by decide +kernel
theorem dL_law_1128 : decode cL_law 1128 = .ok (.iaload, 1) := by decide +kernel
theorem dL_law_1129 : decode cL_law 1129 = .ok (.aload_n 0, 1) := by decide +kernel
theorem dL_law_1130 : decode cL_law 1130 = .ok (.iload_n 3, 1) := by decide +kernel
theorem dL_law_1131 : decode cL_law 1131 = .ok (.iconst 3, 1) := by decide +kernel
theorem dL_law_1132 : decode cL_law 1132 = .ok (.iadd, 1) := by decide +kernel
theorem dL_law_1133 : decode cL_law 1133 = .ok (.iaload, 1) := by decide +kernel
theorem dL_law_1134 : decode cL_law 1134 = .ok (.aload_n 0, 1) := by decide +kernel
theorem dL_law_1135 : decode cL_law 1135 = .ok (.iload_n 3, 1) := by decide +kernel
theorem dL_law_1136 : decode cL_law 1136 = .ok (.iconst 4, 1) := by decide +kernel
theorem dL_law_1137 : decode cL_law 1137 = .ok (.iadd, 1) := by decide +kernel
theorem dL_law_1138 : decode cL_law 1138 = .ok (.iaload, 1) := by decide +kernel
theorem dL_law_1139 : decode cL_law 1139 = .ok (.aload_n 0, 1) := by decide +kernel
theorem dL_law_1140 : decode cL_law 1140 = .ok (.iload_n 3, 1) := by decide +kernel
theorem dL_law_1141 : decode cL_law 1141 = .ok (.iconst 5, 1) := by decide +kernel
theorem dL_law_1142 : decode cL_law 1142 = .ok (.iadd, 1) := by decide +kernel
theorem dL_law_1143 : decode cL_law 1143 = .ok (.iaload, 1) := by decide +kernel
theorem dL_law_1144 : decode cL_law 1144 = .ok (.invokevirtual 151, 3) := by decide +kernel
theorem dL_law_1147 : decode cL_law 1147 = .ok (.if_icmp .eq 75, 3) := by decide +kernel
theorem dL_law_1150 : decode cL_law 1150 = .ok (.iconst 0, 1) := by decide +kernel
theorem dL_law_1151 : decode cL_law 1151 = .ok (.ireturn, 1) := by decide +kernel
theorem dL_law_1152 : decode cL_law 1152 = .ok (.aload_n 1, 1) := by decide +kernel
theorem dL_law_1153 : decode cL_law 1153 = .ok (.aload_n 0, 1) := by decide +kernel
theorem dL_law_1154 : decode cL_law 1154 = .ok (.iload_n 3, 1) := by decide +kernel
theorem dL_law_1155 : decode cL_law 1155 = .ok (.iconst 1, 1) := by decide +kernel
theorem dL_law_1156 : decode cL_law 1156 = .ok (.iadd, 1) := by decide +kernel
theorem dL_law_1157 : decode cL_law 1157 = .ok (.iaload, 1) := by decide +kernel
theorem dL_law_1158 : decode cL_law 1158 = .ok (.aload_n 0, 1) := by decide +kernel
theorem dL_law_1159 : decode cL_law 1159 = .ok (.iload_n 3, 1) := by decide +kernel
theorem dL_law_1160 : decode cL_law 1160 = .ok (.iconst 2, 1) := by decide +kernel
theorem dL_law_1161 : decode cL_law 1161 = .ok (.iadd, 1) := by decide +kernel
theorem dL_law_1162 : decode cL_law 1162 = .ok (.iaload, 1) := by decide +kernel
theorem dL_law_1163 : decode cL_law 1163 = .ok (.invokevirtual 152, 3) := by decide +kernel
theorem dL_law_1166 : decode cL_law 1166 = .ok (.aload_n 2, 1) := by decide +kernel
theorem dL_law_1167 : decode cL_law 1167 = .ok (.aload_n 0, 1) := by decide +kernel
theorem dL_law_1168 : decode cL_law 1168 = .ok (.iload_n 3, 1) := by decide +kernel
theorem dL_law_1169 : decode cL_law 1169 = .ok (.iconst 1, 1) := by decide +kernel
theorem dL_law_1170 : decode cL_law 1170 = .ok (.iadd, 1) := by decide +kernel
theorem dL_law_1171 : decode cL_law 1171 = .ok (.iaload, 1) := by decide +kernel
theorem dL_law_1172 : decode cL_law 1172 = .ok (.aload_n 0, 1) := by decide +kernel
theorem dL_law_1173 : decode cL_law 1173 = .ok (.iload_n 3, 1) := by decide +kernel
theorem dL_law_1174 : decode cL_law 1174 = .ok (.iconst 2, 1) := by decide +kernel
theorem dL_law_1175 : decode cL_law 1175 = .ok (.iadd, 1) := by decide +kernel
theorem dL_law_1176 : decode cL_law 1176 = .ok (.iaload, 1) := by decide +kernel
theorem dL_law_1177 : decode cL_law 1177 = .ok (.invokevirtual 155, 3) := by decide +kernel
theorem dL_law_1180 : decode cL_law 1180 = .ok (.if_icmp .eq 42, 3) := by decide +kernel
theorem dL_law_1183 : decode cL_law 1183 = .ok (.iconst 0, 1) := by decide +kernel
theorem dL_law_1184 : decode cL_law 1184 = .ok (.ireturn, 1) := by decide +kernel
theorem dL_law_1185 : decode cL_law 1185 = .ok (.aload_n 1, 1) := by decide +kernel
theorem dL_law_1186 : decode cL_law 1186 = .ok (.aload_n 0, 1) := by decide +kernel
theorem dL_law_1187 : decode cL_law 1187 = .ok (.iload_n 3, 1) := by decide +kernel
theorem dL_law_1188 : decode cL_law 1188 = .ok (.iconst 1, 1) := by decide +kernel
theorem dL_law_1189 : decode cL_law 1189 = .ok (.iadd, 1) := by decide +kernel
theorem dL_law_1190 : decode cL_law 1190 = .ok (.iaload, 1) := by decide +kernel
theorem dL_law_1191 : decode cL_law 1191 = .ok (.invokevirtual 156, 3) := by decide +kernel
theorem dL_law_1194 : decode cL_law 1194 = .ok (.aload_n 2, 1) := by decide +kernel
theorem dL_law_1195 : decode cL_law 1195 = .ok (.aload_n 0, 1) := by decide +kernel
theorem dL_law_1196 : decode cL_law 1196 = .ok (.iload_n 3, 1) := by decide +kernel
theorem dL_law_1197 : decode cL_law 1197 = .ok (.iconst 1, 1) := by decide +kernel
theorem dL_law_1198 : decode cL_law 1198 = .ok (.iadd, 1) := by decide +kernel
theorem dL_law_1199 : decode cL_law 1199 = .ok (.iaload, 1) := by decide +kernel
theorem dL_law_1200 : decode cL_law 1200 = .ok (.invokevirtual 159, 3) := by decide +kernel
theorem dL_law_1203 : decode cL_law 1203 = .ok (.if_icmp .eq 19, 3) := by decide +kernel
theorem dL_law_1206 : decode cL_law 1206 = .ok (.iconst 0, 1) := by decide +kernel
theorem dL_law_1207 : decode cL_law 1207 = .ok (.ireturn, 1) := by decide +kernel
theorem dL_law_1208 : decode cL_law 1208 = .ok (.aload_n 1, 1) := by decide +kernel
theorem dL_law_1209 : decode cL_law 1209 = .ok (.invokevirtual 160, 3) := by decide +kernel
theorem dL_law_1212 : decode cL_law 1212 = .ok (.aload_n 2, 1) := by decide +kernel
theorem dL_law_1213 : decode cL_law 1213 = .ok (.invokevirtual 164, 3) := by decide +kernel
theorem dL_law_1216 : decode cL_law 1216 = .ok (.lcmp, 1) := by decide +kernel
theorem dL_law_1217 : decode cL_law 1217 = .ok (.ifCond .eq 5, 3) := by decide +kernel
theorem dL_law_1220 : decode cL_law 1220 = .ok (.iconst 0, 1) := by decide +kernel
theorem dL_law_1221 : decode cL_law 1221 = .ok (.ireturn, 1) := by decide +kernel
theorem dL_law_1222 : decode cL_law 1222 = .ok (.iinc 3 6, 3) := by decide +kernel
theorem dL_law_1225 : decode cL_law 1225 = .ok (.goto (-1207), 3) := by decide +kernel
theorem dL_law_1228 : decode cL_law 1228 = .ok (.iconst 1, 1) := by decide +kernel
theorem dL_law_1229 : decode cL_law 1229 = .ok (.ireturn, 1) := by decide +kernel
theorem dJ6_bitCount_0f7a4_0 : decode cJ6_bitCount_0f7a4 0 = .ok (.iload_n 0, 1) := by decide +kernel
theorem dJ6_bitCount_0f7a4_1 : decode cJ6_bitCount_0f7a4 1 = .ok (.iload_n 0, 1) := by decide +kernel
theorem dJ6_bitCount_0f7a4_2 : decode cJ6_bitCount_0f7a4 2 = .ok (.iconst 1, 1) := by decide +kernel
theorem dJ6_bitCount_0f7a4_3 : decode cJ6_bitCount_0f7a4 3 = .ok (.iushr, 1) := by decide +kernel
theorem dJ6_bitCount_0f7a4_4 : decode cJ6_bitCount_0f7a4 4 = .ok (.ldc_w 265, 3) := by decide +kernel
theorem dJ6_bitCount_0f7a4_7 : decode cJ6_bitCount_0f7a4 7 = .ok (.iand, 1) := by decide +kernel
theorem dJ6_bitCount_0f7a4_8 : decode cJ6_bitCount_0f7a4 8 = .ok (.isub, 1) := by decide +kernel
theorem dJ6_bitCount_0f7a4_9 : decode cJ6_bitCount_0f7a4 9 = .ok (.istore_n 0, 1) := by decide +kernel
theorem dJ6_bitCount_0f7a4_10 : decode cJ6_bitCount_0f7a4 10 = .ok (.iload_n 0, 1) := by decide +kernel
theorem dJ6_bitCount_0f7a4_11 : decode cJ6_bitCount_0f7a4 11 = .ok (.ldc_w 266, 3) := by decide +kernel
theorem dJ6_bitCount_0f7a4_14 : decode cJ6_bitCount_0f7a4 14 = .ok (.iand, 1) := by decide +kernel
theorem dJ6_bitCount_0f7a4_15 : decode cJ6_bitCount_0f7a4 15 = .ok (.iload_n 0, 1) := by decide +kernel
theorem dJ6_bitCount_0f7a4_16 : decode cJ6_bitCount_0f7a4 16 = .ok (.iconst 2, 1) := by decide +kernel
theorem dJ6_bitCount_0f7a4_17 : decode cJ6_bitCount_0f7a4 17 = .ok (.iushr, 1) := by decide +kernel
theorem dJ6_bitCount_0f7a4_18 : decode cJ6_bitCount_0f7a4 18 = .ok (.ldc_w 266, 3) := by decide +kernel
theorem dJ6_bitCount_0f7a4_21 : decode cJ6_bitCount_0f7a4 21 = .ok (.iand, 1) := by decide +kernel
theorem dJ6_bitCount_0f7a4_22 : decode cJ6_bitCount_0f7a4 22 = .ok (.iadd, 1) := by decide +kernel
theorem dJ6_bitCount_0f7a4_23 : decode cJ6_bitCount_0f7a4 23 = .ok (.istore_n 0, 1) := by decide +kernel
theorem dJ6_bitCount_0f7a4_24 : decode cJ6_bitCount_0f7a4 24 = .ok (.iload_n 0, 1) := by decide +kernel
theorem dJ6_bitCount_0f7a4_25 : decode cJ6_bitCount_0f7a4 25 = .ok (.iload_n 0, 1) := by decide +kernel
theorem dJ6_bitCount_0f7a4_26 : decode cJ6_bitCount_0f7a4 26 = .ok (.iconst 4, 1) := by decide +kernel
theorem dJ6_bitCount_0f7a4_27 : decode cJ6_bitCount_0f7a4 27 = .ok (.iushr, 1) := by decide +kernel
theorem dJ6_bitCount_0f7a4_28 : decode cJ6_bitCount_0f7a4 28 = .ok (.iadd, 1) := by decide +kernel
theorem dJ6_bitCount_0f7a4_29 : decode cJ6_bitCount_0f7a4 29 = .ok (.ldc_w 267, 3) := by decide +kernel
theorem dJ6_bitCount_0f7a4_32 : decode cJ6_bitCount_0f7a4 32 = .ok (.iand, 1) := by decide +kernel
theorem dJ6_bitCount_0f7a4_33 : decode cJ6_bitCount_0f7a4 33 = .ok (.istore_n 0, 1) := by decide +kernel
theorem dJ6_bitCount_0f7a4_34 : decode cJ6_bitCount_0f7a4 34 = .ok (.iload_n 0, 1) := by decide +kernel
theorem dJ6_bitCount_0f7a4_35 : decode cJ6_bitCount_0f7a4 35 = .ok (.iload_n 0, 1) := by decide +kernel
theorem dJ6_bitCount_0f7a4_36 : decode cJ6_bitCount_0f7a4 36 = .ok (.bipush 8, 2) := by decide +kernel
theorem dJ6_bitCount_0f7a4_38 : decode cJ6_bitCount_0f7a4 38 = .ok (.iushr, 1) := by decide +kernel
theorem dJ6_bitCount_0f7a4_39 : decode cJ6_bitCount_0f7a4 39 = .ok (.iadd, 1) := by decide +kernel
theorem dJ6_bitCount_0f7a4_40 : decode cJ6_bitCount_0f7a4 40 = .ok (.istore_n 0, 1) := by decide +kernel
theorem dJ6_bitCount_0f7a4_41 : decode cJ6_bitCount_0f7a4 41 = .ok (.iload_n 0, 1) := by decide +kernel
theorem dJ6_bitCount_0f7a4_42 : decode cJ6_bitCount_0f7a4 42 = .ok (.iload_n 0, 1) := by decide +kernel
theorem dJ6_bitCount_0f7a4_43 : decode cJ6_bitCount_0f7a4 43 = .ok (.bipush 16, 2) := by decide +kernel
theorem dJ6_bitCount_0f7a4_45 : decode cJ6_bitCount_0f7a4 45 = .ok (.iushr, 1) := by decide +kernel
theorem dJ6_bitCount_0f7a4_46 : decode cJ6_bitCount_0f7a4 46 = .ok (.iadd, 1) := by decide +kernel
theorem dJ6_bitCount_0f7a4_47 : decode cJ6_bitCount_0f7a4 47 = .ok (.istore_n 0, 1) := by decide +kernel
theorem dJ6_bitCount_0f7a4_48 : decode cJ6_bitCount_0f7a4 48 = .ok (.iload_n 0, 1) := by decide +kernel
theorem dJ6_bitCount_0f7a4_49 : decode cJ6_bitCount_0f7a4 49 = .ok (.bipush 63, 2) := by decide +kernel
theorem dJ6_bitCount_0f7a4_51 : decode cJ6_bitCount_0f7a4 51 = .ok (.iand, 1) := by decide +kernel
theorem dJ6_bitCount_0f7a4_52 : decode cJ6_bitCount_0f7a4 52 = .ok (.ireturn, 1) := by decide +kernel
theorem dJ13_bitCount_95d88_0 : decode cJ13_bitCount_95d88 0 = .ok (.lload_n 0, 1) := by decide +kernel
theorem dJ13_bitCount_95d88_1 : decode cJ13_bitCount_95d88 1 = .ok (.lload_n 0, 1) := by decide +kernel
theorem dJ13_bitCount_95d88_2 : decode cJ13_bitCount_95d88 2 = .ok (.iconst 1, 1) := by decide +kernel
theorem dJ13_bitCount_95d88_3 : decode cJ13_bitCount_95d88 3 = .ok (.lushr, 1) := by decide +kernel
theorem dJ13_bitCount_95d88_4 : decode cJ13_bitCount_95d88 4 = .ok (.ldc2_w 314, 3) := by decide +kernel
theorem dJ13_bitCount_95d88_7 : decode cJ13_bitCount_95d88 7 = .ok (.land, 1) := by decide +kernel
theorem dJ13_bitCount_95d88_8 : decode cJ13_bitCount_95d88 8 = .ok (.lsub, 1) := by decide +kernel
theorem dJ13_bitCount_95d88_9 : decode cJ13_bitCount_95d88 9 = .ok (.lstore_n 0, 1) := by decide +kernel
theorem dJ13_bitCount_95d88_10 : decode cJ13_bitCount_95d88 10 = .ok (.lload_n 0, 1) := by decide +kernel
theorem dJ13_bitCount_95d88_11 : decode cJ13_bitCount_95d88 11 = .ok (.ldc2_w 316, 3) := by decide +kernel
theorem dJ13_bitCount_95d88_14 : decode cJ13_bitCount_95d88 14 = .ok (.land, 1) := by decide +kernel
theorem dJ13_bitCount_95d88_15 : decode cJ13_bitCount_95d88 15 = .ok (.lload_n 0, 1) := by decide +kernel
theorem dJ13_bitCount_95d88_16 : decode cJ13_bitCount_95d88 16 = .ok (.iconst 2, 1) := by decide +kernel
theorem dJ13_bitCount_95d88_17 : decode cJ13_bitCount_95d88 17 = .ok (.lushr, 1) := by decide +kernel
theorem dJ13_bitCount_95d88_18 : decode cJ13_bitCount_95d88 18 = .ok (.ldc2_w 316, 3) := by decide +kernel
theorem dJ13_bitCount_95d88_21 : decode cJ13_bitCount_95d88 21 = .ok (.land, 1) := by decide +kernel
theorem dJ13_bitCount_95d88_22 : decode cJ13_bitCount_95d88 22 = .ok (.ladd, 1) := by decide +kernel
theorem dJ13_bitCount_95d88_23 : decode cJ13_bitCount_95d88 23 = .ok (.lstore_n 0, 1) := by decide +kernel
theorem dJ13_bitCount_95d88_24 : decode cJ13_bitCount_95d88 24 = .ok (.lload_n 0, 1) := by decide +kernel
theorem dJ13_bitCount_95d88_25 : decode cJ13_bitCount_95d88 25 = .ok (.lload_n 0, 1) := by decide +kernel
theorem dJ13_bitCount_95d88_26 : decode cJ13_bitCount_95d88 26 = .ok (.iconst 4, 1) := by decide +kernel
theorem dJ13_bitCount_95d88_27 : decode cJ13_bitCount_95d88 27 = .ok (.lushr, 1) := by decide +kernel
theorem dJ13_bitCount_95d88_28 : decode cJ13_bitCount_95d88 28 = .ok (.ladd, 1) := by decide +kernel
theorem dJ13_bitCount_95d88_29 : decode cJ13_bitCount_95d88 29 = .ok (.ldc2_w 318, 3) := by decide +kernel
theorem dJ13_bitCount_95d88_32 : decode cJ13_bitCount_95d88 32 = .ok (.land, 1) := by decide +kernel
theorem dJ13_bitCount_95d88_33 : decode cJ13_bitCount_95d88 33 = .ok (.lstore_n 0, 1) := by decide +kernel
theorem dJ13_bitCount_95d88_34 : decode cJ13_bitCount_95d88 34 = .ok (.lload_n 0, 1) := by decide +kernel
theorem dJ13_bitCount_95d88_35 : decode cJ13_bitCount_95d88 35 = .ok (.lload_n 0, 1) := by decide +kernel
theorem dJ13_bitCount_95d88_36 : decode cJ13_bitCount_95d88 36 = .ok (.bipush 8, 2) := by decide +kernel
theorem dJ13_bitCount_95d88_38 : decode cJ13_bitCount_95d88 38 = .ok (.lushr, 1) := by decide +kernel
theorem dJ13_bitCount_95d88_39 : decode cJ13_bitCount_95d88 39 = .ok (.ladd, 1) := by decide +kernel
theorem dJ13_bitCount_95d88_40 : decode cJ13_bitCount_95d88 40 = .ok (.lstore_n 0, 1) := by decide +kernel
theorem dJ13_bitCount_95d88_41 : decode cJ13_bitCount_95d88 41 = .ok (.lload_n 0, 1) := by decide +kernel
theorem dJ13_bitCount_95d88_42 : decode cJ13_bitCount_95d88 42 = .ok (.lload_n 0, 1) := by decide +kernel
theorem dJ13_bitCount_95d88_43 : decode cJ13_bitCount_95d88 43 = .ok (.bipush 16, 2) := by decide +kernel
theorem dJ13_bitCount_95d88_45 : decode cJ13_bitCount_95d88 45 = .ok (.lushr, 1) := by decide +kernel
theorem dJ13_bitCount_95d88_46 : decode cJ13_bitCount_95d88 46 = .ok (.ladd, 1) := by decide +kernel
theorem dJ13_bitCount_95d88_47 : decode cJ13_bitCount_95d88 47 = .ok (.lstore_n 0, 1) := by decide +kernel
theorem dJ13_bitCount_95d88_48 : decode cJ13_bitCount_95d88 48 = .ok (.lload_n 0, 1) := by decide +kernel
theorem dJ13_bitCount_95d88_49 : decode cJ13_bitCount_95d88 49 = .ok (.lload_n 0, 1) := by decide +kernel
theorem dJ13_bitCount_95d88_50 : decode cJ13_bitCount_95d88 50 = .ok (.bipush 32, 2) := by decide +kernel
theorem dJ13_bitCount_95d88_52 : decode cJ13_bitCount_95d88 52 = .ok (.lushr, 1) := by decide +kernel
theorem dJ13_bitCount_95d88_53 : decode cJ13_bitCount_95d88 53 = .ok (.ladd, 1) := by decide +kernel
theorem dJ13_bitCount_95d88_54 : decode cJ13_bitCount_95d88 54 = .ok (.lstore_n 0, 1) := by decide +kernel
theorem dJ13_bitCount_95d88_55 : decode cJ13_bitCount_95d88 55 = .ok (.lload_n 0, 1) := by decide +kernel
theorem dJ13_bitCount_95d88_56 : decode cJ13_bitCount_95d88 56 = .ok (.l2i, 1) := by decide +kernel
theorem dJ13_bitCount_95d88_57 : decode cJ13_bitCount_95d88 57 = .ok (.bipush 127, 2) := by decide +kernel
theorem dJ13_bitCount_95d88_59 : decode cJ13_bitCount_95d88 59 = .ok (.iand, 1) := by decide +kernel
theorem dJ13_bitCount_95d88_60 : decode cJ13_bitCount_95d88 60 = .ok (.ireturn, 1) := by decide +kernel
theorem dJ9_max_7cf53_0 : decode cJ9_max_7cf53 0 = .ok (.iload_n 0, 1) := by decide +kernel
theorem dJ9_max_7cf53_1 : decode cJ9_max_7cf53 1 = .ok (.iload_n 1, 1) := by decide +kernel
theorem dJ9_max_7cf53_2 : decode cJ9_max_7cf53 2 = .ok (.if_icmp .lt 7, 3) := by decide +kernel
theorem dJ9_max_7cf53_5 : decode cJ9_max_7cf53 5 = .ok (.iload_n 0, 1) := by decide +kernel
theorem dJ9_max_7cf53_6 : decode cJ9_max_7cf53 6 = .ok (.goto 4, 3) := by decide +kernel
theorem dJ9_max_7cf53_9 : decode cJ9_max_7cf53 9 = .ok (.iload_n 1, 1) := by decide +kernel
theorem dJ9_max_7cf53_10 : decode cJ9_max_7cf53 10 = .ok (.ireturn, 1) := by decide +kernel
theorem dJ9_min_7cf53_0 : decode cJ9_min_7cf53 0 = .ok (.iload_n 0, 1) := by decide +kernel
theorem dJ9_min_7cf53_1 : decode cJ9_min_7cf53 1 = .ok (.iload_n 1, 1) := by decide +kernel
theorem dJ9_min_7cf53_2 : decode cJ9_min_7cf53 2 = .ok (.if_icmp .gt 7, 3) := by decide +kernel
theorem dJ9_min_7cf53_5 : decode cJ9_min_7cf53 5 = .ok (.iload_n 0, 1) := by decide +kernel
theorem dJ9_min_7cf53_6 : decode cJ9_min_7cf53 6 = .ok (.goto 4, 3) := by decide +kernel
theorem dJ9_min_7cf53_9 : decode cJ9_min_7cf53 9 = .ok (.iload_n 1, 1) := by decide +kernel
theorem dJ9_min_7cf53_10 : decode cJ9_min_7cf53 10 = .ok (.ireturn, 1) := by decide +kernel
end
section

/-! the abstract machine: ints as Int (in range), longs as BitVec 64, references as numbers of cells -/
abbrev aV : Type := Int ⊕ (BitVec 64 ⊕ Nat)
abbrev aS : Type := (Nat → Nat → Int) × (Nat → Nat → BitVec 64)
abbrev aL : Type := List (Option aV)
abbrev aQ : Type := Option aV → aS → Prop
abbrev aC : Type := Nat → List aV → aS → aQ → Prop
abbrev aP : Type := Nat → aL → List aV → aS → Prop
abbrev vi (x : Int) : aV := Sum.inl x
abbrev vl (x : BitVec 64) : aV := Sum.inr (Sum.inl x)
abbrev vr (x : Nat) : aV := Sum.inr (Sum.inr x)
def in32 (x : Int) : Prop := -2147483648 ≤ x ∧ x < 2147483648
def w32 (x : Int) : Int := (x + 2147483648) % 4294967296 - 2147483648
theorem w32_id {x : Int} (h1 : -2147483648 ≤ x) (h2 : x < 2147483648) : w32 x = x := by unfold w32; omega
theorem w32_in (x : Int) : in32 (w32 x) := by unfold w32 in32; omega
/-- the cells of the two objects: kinds of fields 0 int, 1 long, 2 boolean, r + 3 the cell r; arrays 0 of int, 1 of long, 2 of boolean, 3 the SHEETS -/
def cd (c : Nat) : (Nat × List Nat) ⊕ (Nat × Nat) := match c with
  | 0 => .inl (3, [4, 0, 0, 0, 5, 6, 0, 0, 0, 7, 0, 16, 19])
  | 1 => .inr (0, 39)
  | 2 => .inr (0, 8)
  | 3 => .inr (0, 8)
  | 4 => .inr (3, 4)
  | 5 => .inl (1, [2, 0, 0, 12])
  | 6 => .inl (1, [2, 0, 0, 13])
  | 7 => .inl (1, [2, 0, 0, 14])
  | 8 => .inl (1, [2, 0, 0, 15])
  | 9 => .inr (0, 48)
  | 10 => .inr (0, 48)
  | 11 => .inr (0, 48)
  | 12 => .inr (0, 48)
  | 13 => .inl (0, [0, 0, 0, 0, 1, 1, 1, 1, 1, 1, 1, 1, 17, 18])
  | 14 => .inr (1, 4)
  | 15 => .inr (1, 4)
  | 16 => .inl (2, [16, 20, 1, 0])
  | 17 => .inr (0, 1225)
  | 18 => .inl (4, [22, 0, 0, 0, 0, 23, 0, 0, 0, 24, 25, 26, 27, 28, 29, 0, 30, 31, 32, 33, 34, 35, 36, 0])
  | 19 => .inr (0, 39)
  | 20 => .inr (0, 36)
  | 21 => .inr (0, 8)
  | 22 => .inr (0, 8)
  | 23 => .inr (0, 36)
  | 24 => .inr (2, 36)
  | 25 => .inr (2, 36)
  | 26 => .inr (0, 2)
  | 27 => .inr (0, 8)
  | 28 => .inr (0, 8)
  | 29 => .inr (2, 4)
  | 30 => .inr (0, 4)
  | 31 => .inr (0, 4)
  | 32 => .inr (0, 192)
  | 33 => .inr (0, 48)
  | _ => .inr (9, 0)
def sI (σ : aS) (c k : Nat) (x : Int) : aS := (fun c' k' => if c' = c ∧ k' = k then x else σ.1 c' k', σ.2)
def sJ (σ : aS) (c k : Nat) (x : BitVec 64) : aS := (σ.1, fun c' k' => if c' = c ∧ k' = k then x else σ.2 c' k')
def sC (σ : aS) (s i t j n : Nat) : aS := (fun c' k' => if c' = t ∧ (j ≤ k' ∧ k' < j + n) then σ.1 s (i + (k' - j)) else σ.1 c' k', σ.2)
def isL (v : aV) : Bool := match v with
  | .inr (.inl _) => true
  | _ => false
def catV (v : aV) : Nat := match v with
  | .inr (.inl _) => 2
  | _ => 1
def stw (st : List aV) : Nat := (st.map catV).sum
/-- a local is overwritten: a long that lay before it is gone -/
def clrL (L : aL) (i : Nat) : aL := match i with
  | 0 => L
  | j + 1 => match L[j]? with
    | some (some (.inr (.inl _))) => L.set j none
    | _ => L
def st1 (L : aL) (i : Nat) (v : aV) : aL := (clrL L i).set i (some v)
def st2 (L : aL) (i : Nat) (v : aV) : aL := ((clrL L i).set i (some v)).set (i + 1) none
/-- the locals that a mask keeps -/
def kpL (ms : List Bool) (L : aL) : aL := match ms, L with
  | [], L => L
  | _, [] => []
  | b :: ms, v :: L => (if b then v else none) :: kpL ms L
def icmp (o : Jvm.ClassFile.Cond) (x y : Int) : Prop := match o with
  | .eq => x = y
  | .ne => x ≠ y
  | .lt => x < y
  | .ge => y ≤ x
  | .gt => y < x
  | .le => x ≤ y
def bi32 (f : BitVec 32 → BitVec 32 → BitVec 32) (x y : Int) : Int := (f (BitVec.ofInt 32 x) (BitVec.ofInt 32 y)).toInt
def lcm (x y : BitVec 64) : Int := if y.toInt < x.toInt then 1 else if x = y then 0 else -1
/-- words of the tables that every method may use -/
abbrev gw (w : Cond) : Prop := w ∈ lw_tbl ∧ goodWord w = true
def lw_good : List Cond := lw_tbl.filter goodWord
def clsR (ci : Nat) : String := match ci with | 0 => RX0 | 1 => RX1 | 2 => RX2 | 3 => RX3 | _ => RX4
def clsT (ci : Nat) : u_T := match ci with | 0 => TX0 | 1 => TX1 | 2 => TX2 | 3 => TX3 | _ => TX4
def clsY (ci : Nat) : Nat → FieldType := match ci with | 0 => tyX0 | 1 => tyX1 | 2 => tyX2 | 3 => tyX3 | _ => tyX4
def clsN (ci : Nat) : Nat := match ci with | 0 => 14 | 1 => 4 | 2 => 4 | 3 => 13 | _ => 24
def fLink (own : String) (idx ci k : Nat) : Prop := ci < 5 ∧ k < clsN ci ∧ gw (.fieldLink own idx (clsT ci k).1 (clsT ci k).2.1 (clsT ci k).2.2.1)
def kLink (own : String) (idx : Nat) (v : Int) : Prop := in32 v ∧ gw (.constant own idx (Int32.ofInt v))
def lLink (own : String) (idx : Nat) (v : BitVec 64) : Prop := gw (.constantLong own idx (Int64.ofBitVec v))

/-- the methods, by number -/
def mYs : List MethodName := [yX0_init, yX0_clear, yX0_endsRow, yX0_kindOf, yX3_bit, yX0_dig, yX0_spell, yX0_markRows, yX0_loose, yX0_soaked, yX0_markMoves, yX0_survey, yX0_isCell, yX3_has, yX0_kind, yX0_fallen, yX0_placeBehind, yX0_falls, yX0_goneTo, yX0_moveSteps, yX0_kicked, yX0_springsThatWet, yX0_keepsDry, yX0_plugsFor, yX1_init, yX1_begin, yX1_holds, yX1_store, yX2_init, yX2_renew, yX2_isSooner, yX2_goOn, yX2_measure, yX2_between, yX3_renew, yX3_init, yX3_type, yX3_wipe, yX3_undo, yX3_fault, yX3_asNumber, yX3_cell, yX3_set, yX3_isStep, yX3_thing, yX3_back, yX3_isSheet, yX3_found, yX3_read, yX3_isThing, yX3_at, yX3_rests, yX3_longest, yX3_meet, yX3_way, yX3_next, yX3_race, yX3_reach, yX3_wet, yJ13_bitCount_95d88, yX3_sizeOrItem, yX3_plug, yX3_middlesUpAt, yX3_plumb, yX3_forget, yX3_where, yJ6_bitCount_0f7a4, yX3_hang, yX3_from, yX3_joined, yX3_like, yX3_flood, yX3_kicks, yX3_isForm, yX3_sheet, yX3_lose, yX3_refusalOfItem, yX3_put, yX3_get, yX3_copy, yX3_write, yX3_count, yX3_mixed, yX3_digest, yX4_init, yX4_in, yX4_isIn, yX4_no, yX4_lowest, yX4_type, yX4_wipe, yX4_undo, yX4_kindOf, yX4_faultNow, yX4_fault, yX4_reads, yX4_isCell, yX4_isOpen, yX4_isUp, yX4_below, yX4_isHeld, yX4_cell, yX4_set, yX4_thing, yX4_back, yX4_isSheet, yX4_meets, yX4_read, yX4_isThing, yX4_fallen, yX4_atOf, yX4_at, yX4_restsOf, yX4_rests, yX4_longestNow, yX4_longest, yX4_meetOf, yX4_meet, yX4_target, yX4_cost, yX4_laysFar, yX4_wayOf, yX4_way, yX4_nextOf, yX4_next, yX4_raceOf, yX4_race, yX4_reachOf, yX4_reach, yX4_flows, yX4_wetOf, yX4_wet, yX4_plugs, yX4_mayPlug, yX4_plugBy, yX4_plugOf, yX4_plug, yX4_plumb, yX4_forget, yX4_whereNow, yX4_where, yX4_hangNow, yX4_hang, yX4_fromOf, yX4_from, yX4_joinedNow, yX4_joined, yX4_likeOf, yX4_like, yX4_springs, yX4_floodOf, yX4_flood, yX4_kicksOf, yX4_kicks, yX4_sheet, yX4_lose, yX4_lacks, yX4_keep, yX4_put, yX4_get, yX4_copy, yX4_write, yX4_sumOf, yX4_count, yX4_cellDigest, yX4_digest, yJ9_max_7cf53, yJ9_min_7cf53]
def mCs : List ByteArray := [cX0_init, cX0_clear, cX0_endsRow, cX0_kindOf, cX3_bit, cX0_dig, cX0_spell, cX0_markRows, cX0_loose, cX0_soaked, cX0_markMoves, cX0_survey, cX0_isCell, cX3_has, cX0_kind, cX0_fallen, cX0_placeBehind, cX0_falls, cX0_goneTo, cX0_moveSteps, cX0_kicked, cX0_springsThatWet, cX0_keepsDry, cX0_plugsFor, cX1_init, cX1_begin, cX1_holds, cX1_store, cX2_init, cX2_renew, cX2_isSooner, cX2_goOn, cX2_measure, cX2_between, cX3_renew, cX3_init, cX3_type, cX3_wipe, cX3_undo, cX3_fault, cX3_asNumber, cX3_cell, cX3_set, cX3_isStep, cX3_thing, cX3_back, cX3_isSheet, cX3_found, cX3_read, cX3_isThing, cX3_at, cX3_rests, cX3_longest, cX3_meet, cX3_way, cX3_next, cX3_race, cX3_reach, cX3_wet, cJ13_bitCount_95d88, cX3_sizeOrItem, cX3_plug, cX3_middlesUpAt, cX3_plumb, cX3_forget, cX3_where, cJ6_bitCount_0f7a4, cX3_hang, cX3_from, cX3_joined, cX3_like, cX3_flood, cX3_kicks, cX3_isForm, cX3_sheet, cX3_lose, cX3_refusalOfItem, cX3_put, cX3_get, cX3_copy, cX3_write, cX3_count, cX3_mixed, cX3_digest, cX4_init, cX4_in, cX4_isIn, cX4_no, cX4_lowest, cX4_type, cX4_wipe, cX4_undo, cX4_kindOf, cX4_faultNow, cX4_fault, cX4_reads, cX4_isCell, cX4_isOpen, cX4_isUp, cX4_below, cX4_isHeld, cX4_cell, cX4_set, cX4_thing, cX4_back, cX4_isSheet, cX4_meets, cX4_read, cX4_isThing, cX4_fallen, cX4_atOf, cX4_at, cX4_restsOf, cX4_rests, cX4_longestNow, cX4_longest, cX4_meetOf, cX4_meet, cX4_target, cX4_cost, cX4_laysFar, cX4_wayOf, cX4_way, cX4_nextOf, cX4_next, cX4_raceOf, cX4_race, cX4_reachOf, cX4_reach, cX4_flows, cX4_wetOf, cX4_wet, cX4_plugs, cX4_mayPlug, cX4_plugBy, cX4_plugOf, cX4_plug, cX4_plumb, cX4_forget, cX4_whereNow, cX4_where, cX4_hangNow, cX4_hang, cX4_fromOf, cX4_from, cX4_joinedNow, cX4_joined, cX4_likeOf, cX4_like, cX4_springs, cX4_floodOf, cX4_flood, cX4_kicksOf, cX4_kicks, cX4_sheet, cX4_lose, cX4_lacks, cX4_keep, cX4_put, cX4_get, cX4_copy, cX4_write, cX4_sumOf, cX4_count, cX4_cellDigest, cX4_digest, cJ9_max_7cf53, cJ9_min_7cf53]
def mLs : List Nat := [1, 1, 2, 1, 1, 2, 7, 4, 3, 16, 7, 4, 2, 3, 2, 2, 5, 5, 3, 4, 4, 4, 4, 6, 1, 4, 3, 3, 2, 2, 2, 8, 5, 3, 1, 2, 2, 2, 1, 1, 1, 3, 4, 1, 3, 1, 1, 2, 5, 2, 3, 3, 6, 5, 3, 7, 6, 4, 2, 2, 5, 5, 1, 4, 2, 1, 1, 6, 7, 3, 6, 12, 7, 1, 4, 2, 4, 6, 4, 8, 6, 2, 4, 4, 1, 3, 2, 1, 11, 2, 2, 1, 1, 6, 1, 2, 2, 2, 2, 2, 2, 3, 4, 3, 1, 1, 2, 3, 2, 5, 3, 3, 5, 3, 4, 1, 5, 3, 3, 4, 6, 3, 3, 7, 3, 4, 4, 5, 2, 9, 2, 2, 6, 3, 4, 4, 3, 3, 2, 5, 1, 9, 1, 8, 4, 3, 1, 4, 2, 3, 11, 4, 9, 4, 5, 2, 4, 4, 6, 5, 7, 4, 4, 2, 7, 4, 2, 2]
def mRs : List (Option FieldType) := [none, none, (some .boolean), (some .int), (some .long), none, (some .int), none, (some .long), (some .long), none, none, (some .boolean), (some .boolean), (some .int), (some .int), (some .int), (some .int), (some .int), (some .int), (some .int), (some .int), (some .boolean), (some .long), none, none, (some .boolean), none, none, none, (some .boolean), (some .boolean), none, (some .int), none, none, (some .int), (some .int), (some .int), (some .int), (some .int), (some .int), (some .int), (some .boolean), (some .int), (some .int), (some .boolean), (some .int), (some .int), (some .boolean), (some .int), (some .int), (some .int), (some .int), (some .int), (some .int), (some .int), (some .int), (some .int), (some .int), (some .int), (some .int), (some .int), (some .int), (some .int), (some .int), (some .int), (some .int), (some .int), (some .int), (some .int), (some .long), (some .int), (some .boolean), (some .int), (some .int), (some .int), (some .int), (some .int), (some .int), (some .int), (some .int), (some .long), (some .long), none, (some .boolean), (some .boolean), (some .long), (some .long), (some .int), (some .int), (some .int), (some .int), (some .int), (some .int), none, (some .boolean), (some .boolean), (some .boolean), (some .int), (some .boolean), (some .int), (some .int), (some .int), (some .int), (some .boolean), (some .int), (some .int), (some .boolean), (some .int), (some .int), (some .int), (some .int), (some .int), (some .int), (some .int), (some .int), (some .int), (some .int), (some .int), none, (some .int), (some .int), (some .int), (some .int), (some .int), (some .int), (some .int), (some .int), none, (some .int), (some .int), (some .boolean), (some .boolean), (some .int), (some .int), (some .int), (some .int), (some .int), (some .int), (some .int), (some .int), (some .int), (some .int), (some .int), (some .int), (some .int), (some .int), (some .int), (some .int), (some .long), (some .long), (some .int), (some .int), (some .int), (some .int), (some .int), none, (some .int), (some .int), (some .int), (some .int), (some .int), (some .int), (some .long), (some .long), (some .int), (some .int)]
def mY (m : Nat) : MethodName := mYs.getD m yX3_has
def mC (m : Nat) : ByteArray := mCs.getD m cX3_has
def mL (m : Nat) : Nat := mLs.getD m 3
def mR (m : Nat) : Option FieldType := mRs.getD m none
abbrev mX0_init : Nat := 0
abbrev mX0_clear : Nat := 1
abbrev mX0_endsRow : Nat := 2
abbrev mX0_kindOf : Nat := 3
abbrev mX3_bit : Nat := 4
abbrev mX0_dig : Nat := 5
abbrev mX0_spell : Nat := 6
abbrev mX0_markRows : Nat := 7
abbrev mX0_loose : Nat := 8
abbrev mX0_soaked : Nat := 9
abbrev mX0_markMoves : Nat := 10
abbrev mX0_survey : Nat := 11
abbrev mX0_isCell : Nat := 12
abbrev mX3_has : Nat := 13
abbrev mX0_kind : Nat := 14
abbrev mX0_fallen : Nat := 15
abbrev mX0_placeBehind : Nat := 16
abbrev mX0_falls : Nat := 17
abbrev mX0_goneTo : Nat := 18
abbrev mX0_moveSteps : Nat := 19
abbrev mX0_kicked : Nat := 20
abbrev mX0_springsThatWet : Nat := 21
abbrev mX0_keepsDry : Nat := 22
abbrev mX0_plugsFor : Nat := 23
abbrev mX1_init : Nat := 24
abbrev mX1_begin : Nat := 25
abbrev mX1_holds : Nat := 26
abbrev mX1_store : Nat := 27
abbrev mX2_init : Nat := 28
abbrev mX2_renew : Nat := 29
abbrev mX2_isSooner : Nat := 30
abbrev mX2_goOn : Nat := 31
abbrev mX2_measure : Nat := 32
abbrev mX2_between : Nat := 33
abbrev mX3_renew : Nat := 34
abbrev mX3_init : Nat := 35
abbrev mX3_type : Nat := 36
abbrev mX3_wipe : Nat := 37
abbrev mX3_undo : Nat := 38
abbrev mX3_fault : Nat := 39
abbrev mX3_asNumber : Nat := 40
abbrev mX3_cell : Nat := 41
abbrev mX3_set : Nat := 42
abbrev mX3_isStep : Nat := 43
abbrev mX3_thing : Nat := 44
abbrev mX3_back : Nat := 45
abbrev mX3_isSheet : Nat := 46
abbrev mX3_found : Nat := 47
abbrev mX3_read : Nat := 48
abbrev mX3_isThing : Nat := 49
abbrev mX3_at : Nat := 50
abbrev mX3_rests : Nat := 51
abbrev mX3_longest : Nat := 52
abbrev mX3_meet : Nat := 53
abbrev mX3_way : Nat := 54
abbrev mX3_next : Nat := 55
abbrev mX3_race : Nat := 56
abbrev mX3_reach : Nat := 57
abbrev mX3_wet : Nat := 58
abbrev mJ13_bitCount_95d88 : Nat := 59
abbrev mX3_sizeOrItem : Nat := 60
abbrev mX3_plug : Nat := 61
abbrev mX3_middlesUpAt : Nat := 62
abbrev mX3_plumb : Nat := 63
abbrev mX3_forget : Nat := 64
abbrev mX3_where : Nat := 65
abbrev mJ6_bitCount_0f7a4 : Nat := 66
abbrev mX3_hang : Nat := 67
abbrev mX3_from : Nat := 68
abbrev mX3_joined : Nat := 69
abbrev mX3_like : Nat := 70
abbrev mX3_flood : Nat := 71
abbrev mX3_kicks : Nat := 72
abbrev mX3_isForm : Nat := 73
abbrev mX3_sheet : Nat := 74
abbrev mX3_lose : Nat := 75
abbrev mX3_refusalOfItem : Nat := 76
abbrev mX3_put : Nat := 77
abbrev mX3_get : Nat := 78
abbrev mX3_copy : Nat := 79
abbrev mX3_write : Nat := 80
abbrev mX3_count : Nat := 81
abbrev mX3_mixed : Nat := 82
abbrev mX3_digest : Nat := 83
abbrev mX4_init : Nat := 84
abbrev mX4_in : Nat := 85
abbrev mX4_isIn : Nat := 86
abbrev mX4_no : Nat := 87
abbrev mX4_lowest : Nat := 88
abbrev mX4_type : Nat := 89
abbrev mX4_wipe : Nat := 90
abbrev mX4_undo : Nat := 91
abbrev mX4_kindOf : Nat := 92
abbrev mX4_faultNow : Nat := 93
abbrev mX4_fault : Nat := 94
abbrev mX4_reads : Nat := 95
abbrev mX4_isCell : Nat := 96
abbrev mX4_isOpen : Nat := 97
abbrev mX4_isUp : Nat := 98
abbrev mX4_below : Nat := 99
abbrev mX4_isHeld : Nat := 100
abbrev mX4_cell : Nat := 101
abbrev mX4_set : Nat := 102
abbrev mX4_thing : Nat := 103
abbrev mX4_back : Nat := 104
abbrev mX4_isSheet : Nat := 105
abbrev mX4_meets : Nat := 106
abbrev mX4_read : Nat := 107
abbrev mX4_isThing : Nat := 108
abbrev mX4_fallen : Nat := 109
abbrev mX4_atOf : Nat := 110
abbrev mX4_at : Nat := 111
abbrev mX4_restsOf : Nat := 112
abbrev mX4_rests : Nat := 113
abbrev mX4_longestNow : Nat := 114
abbrev mX4_longest : Nat := 115
abbrev mX4_meetOf : Nat := 116
abbrev mX4_meet : Nat := 117
abbrev mX4_target : Nat := 118
abbrev mX4_cost : Nat := 119
abbrev mX4_laysFar : Nat := 120
abbrev mX4_wayOf : Nat := 121
abbrev mX4_way : Nat := 122
abbrev mX4_nextOf : Nat := 123
abbrev mX4_next : Nat := 124
abbrev mX4_raceOf : Nat := 125
abbrev mX4_race : Nat := 126
abbrev mX4_reachOf : Nat := 127
abbrev mX4_reach : Nat := 128
abbrev mX4_flows : Nat := 129
abbrev mX4_wetOf : Nat := 130
abbrev mX4_wet : Nat := 131
abbrev mX4_plugs : Nat := 132
abbrev mX4_mayPlug : Nat := 133
abbrev mX4_plugBy : Nat := 134
abbrev mX4_plugOf : Nat := 135
abbrev mX4_plug : Nat := 136
abbrev mX4_plumb : Nat := 137
abbrev mX4_forget : Nat := 138
abbrev mX4_whereNow : Nat := 139
abbrev mX4_where : Nat := 140
abbrev mX4_hangNow : Nat := 141
abbrev mX4_hang : Nat := 142
abbrev mX4_fromOf : Nat := 143
abbrev mX4_from : Nat := 144
abbrev mX4_joinedNow : Nat := 145
abbrev mX4_joined : Nat := 146
abbrev mX4_likeOf : Nat := 147
abbrev mX4_like : Nat := 148
abbrev mX4_springs : Nat := 149
abbrev mX4_floodOf : Nat := 150
abbrev mX4_flood : Nat := 151
abbrev mX4_kicksOf : Nat := 152
abbrev mX4_kicks : Nat := 153
abbrev mX4_sheet : Nat := 154
abbrev mX4_lose : Nat := 155
abbrev mX4_lacks : Nat := 156
abbrev mX4_keep : Nat := 157
abbrev mX4_put : Nat := 158
abbrev mX4_get : Nat := 159
abbrev mX4_copy : Nat := 160
abbrev mX4_write : Nat := 161
abbrev mX4_sumOf : Nat := 162
abbrev mX4_count : Nat := 163
abbrev mX4_cellDigest : Nat := 164
abbrev mX4_digest : Nat := 165
abbrev mJ9_max_7cf53 : Nat := 166
abbrev mJ9_min_7cf53 : Nat := 167
def mOK (m n : Nat) : Prop := gw (.code (mY m) (mC m) (mL m) (mR m)) ∧ ((mY m).cls ≠ "java/lang/invoke/MethodHandle" ∧ (mY m).cls ≠ "java/lang/invoke/VarHandle" ∧ (parseMethodDescriptor (mY m).desc).map (fun d => d.parameters.length) = some n) ∧ mL m ≤ 16
def nestW : List Cond := [.methodLinkNest RX0 80 yX3_bit RX3, .methodLinkNest RX0 95 yX3_has RX3, .methodLinkNest RX2 33 yX3_has RX3, .methodLinkNest RX2 47 yX3_bit RX3]
def vLink (own : String) (i m ci n : Nat) : Prop := gw (.methodLink own i (mY m)) ∧ gw (.instanceMethod (mY m)) ∧ gw (.selects (clsR ci) (mY m) (mY m)) ∧ gw (.initialized (clsR ci)) ∧ (mY m).cls = clsR ci ∧ ci < 5 ∧ mOK m n
def zLink (own : String) (i m n : Nat) : Prop := (gw (.methodLink own i (mY m)) ∨ Cond.methodLinkNest own i (mY m) RX3 ∈ nestW) ∧ gw (.static (mY m)) ∧ gw (.initialized (mY m).cls) ∧ mOK m n
def yLink (own : String) (i : Nat) : Prop := gw (.methodLink own i arraycopyName) ∧ gw (.native arraycopyName) ∧ gw (.static arraycopyName) ∧ gw (.initialized "java/lang/System")
def xLink (own : String) (i : Nat) : Prop := gw (.methodLink own i Lib.Math.max.name) ∧ gw (.static Lib.Math.max.name) ∧ gw (.initialized "java/lang/Math") ∧ gw (.code Lib.Math.max.name Lib.Math.max.code 2 (some .int))
def nLink (own : String) (i : Nat) : Prop := gw (.methodLink own i Lib.Math.min.name) ∧ gw (.static Lib.Math.min.name) ∧ gw (.initialized "java/lang/Math") ∧ gw (.code Lib.Math.min.name Lib.Math.min.code 2 (some .int))

def rl_iconst (own : String) (cc : ByteArray) (NC : Nat) (C : aC) (Q : aQ) (rk : Nat) (sc : Bool) (xl : Nat) (xs : Nat → Int) (P : aP) : Prop := ∀ (pc : Nat) (L : aL) (st : List aV) (σ : aS) (n : Int), decode cc pc = .ok (.iconst n, 1) → (-128 ≤ n ∧ n < 128) → P (pc + 1) L (vi n :: st) σ → P pc L (st) σ
def rl_bipush (own : String) (cc : ByteArray) (NC : Nat) (C : aC) (Q : aQ) (rk : Nat) (sc : Bool) (xl : Nat) (xs : Nat → Int) (P : aP) : Prop := ∀ (pc : Nat) (L : aL) (st : List aV) (σ : aS) (n : Int), decode cc pc = .ok (.bipush n, 2) → (-128 ≤ n ∧ n < 128) → P (pc + 2) L (vi n :: st) σ → P pc L (st) σ
def rl_sipush (own : String) (cc : ByteArray) (NC : Nat) (C : aC) (Q : aQ) (rk : Nat) (sc : Bool) (xl : Nat) (xs : Nat → Int) (P : aP) : Prop := ∀ (pc : Nat) (L : aL) (st : List aV) (σ : aS) (n : Int), decode cc pc = .ok (.sipush n, 3) → (-32768 ≤ n ∧ n < 32768) → P (pc + 3) L (vi n :: st) σ → P pc L (st) σ
def rl_lconst (own : String) (cc : ByteArray) (NC : Nat) (C : aC) (Q : aQ) (rk : Nat) (sc : Bool) (xl : Nat) (xs : Nat → Int) (P : aP) : Prop := ∀ (pc : Nat) (L : aL) (st : List aV) (σ : aS) (n : Fin 2), decode cc pc = .ok (.lconst n, 1) → P (pc + 1) L (vl (BitVec.ofNat 64 n.val) :: st) σ → P pc L (st) σ
def rl_ldc (own : String) (cc : ByteArray) (NC : Nat) (C : aC) (Q : aQ) (rk : Nat) (sc : Bool) (xl : Nat) (xs : Nat → Int) (P : aP) : Prop := ∀ (pc : Nat) (L : aL) (st : List aV) (σ : aS) (i : Nat) (v : Int), decode cc pc = .ok (.ldc i, 2) → (kLink own i v) → P (pc + 2) L (vi v :: st) σ → P pc L (st) σ
def rl_ldcw (own : String) (cc : ByteArray) (NC : Nat) (C : aC) (Q : aQ) (rk : Nat) (sc : Bool) (xl : Nat) (xs : Nat → Int) (P : aP) : Prop := ∀ (pc : Nat) (L : aL) (st : List aV) (σ : aS) (i : Nat) (v : Int), decode cc pc = .ok (.ldc_w i, 3) → (kLink own i v) → P (pc + 3) L (vi v :: st) σ → P pc L (st) σ
def rl_ldc2 (own : String) (cc : ByteArray) (NC : Nat) (C : aC) (Q : aQ) (rk : Nat) (sc : Bool) (xl : Nat) (xs : Nat → Int) (P : aP) : Prop := ∀ (pc : Nat) (L : aL) (st : List aV) (σ : aS) (i : Nat) (v : BitVec 64), decode cc pc = .ok (.ldc2_w i, 3) → (lLink own i v) → P (pc + 3) L (vl v :: st) σ → P pc L (st) σ
def rl_iload_n (own : String) (cc : ByteArray) (NC : Nat) (C : aC) (Q : aQ) (rk : Nat) (sc : Bool) (xl : Nat) (xs : Nat → Int) (P : aP) : Prop := ∀ (pc : Nat) (L : aL) (st : List aV) (σ : aS) (k : Fin 4) (x : Int), decode cc pc = .ok (.iload_n k, 1) → (L[k.val]? = some (some (vi x))) → P (pc + 1) L (vi x :: st) σ → P pc L (st) σ
def rl_iload (own : String) (cc : ByteArray) (NC : Nat) (C : aC) (Q : aQ) (rk : Nat) (sc : Bool) (xl : Nat) (xs : Nat → Int) (P : aP) : Prop := ∀ (pc : Nat) (L : aL) (st : List aV) (σ : aS) (k : Nat) (x : Int), decode cc pc = .ok (.iload k, 2) → (L[k]? = some (some (vi x))) → P (pc + 2) L (vi x :: st) σ → P pc L (st) σ
def rl_istore_n (own : String) (cc : ByteArray) (NC : Nat) (C : aC) (Q : aQ) (rk : Nat) (sc : Bool) (xl : Nat) (xs : Nat → Int) (P : aP) : Prop := ∀ (pc : Nat) (L : aL) (st : List aV) (σ : aS) (k : Fin 4) (x : Int), decode cc pc = .ok (.istore_n k, 1) → (k.val < L.length) → P (pc + 1) (st1 L k.val (vi x)) st σ → P pc L (vi x :: st) σ
def rl_istore (own : String) (cc : ByteArray) (NC : Nat) (C : aC) (Q : aQ) (rk : Nat) (sc : Bool) (xl : Nat) (xs : Nat → Int) (P : aP) : Prop := ∀ (pc : Nat) (L : aL) (st : List aV) (σ : aS) (k : Nat) (x : Int), decode cc pc = .ok (.istore k, 2) → (k < L.length) → P (pc + 2) (st1 L k (vi x)) st σ → P pc L (vi x :: st) σ
def rl_lload_n (own : String) (cc : ByteArray) (NC : Nat) (C : aC) (Q : aQ) (rk : Nat) (sc : Bool) (xl : Nat) (xs : Nat → Int) (P : aP) : Prop := ∀ (pc : Nat) (L : aL) (st : List aV) (σ : aS) (k : Fin 4) (x : BitVec 64), decode cc pc = .ok (.lload_n k, 1) → (L[k.val]? = some (some (vl x))) → P (pc + 1) L (vl x :: st) σ → P pc L (st) σ
def rl_lload (own : String) (cc : ByteArray) (NC : Nat) (C : aC) (Q : aQ) (rk : Nat) (sc : Bool) (xl : Nat) (xs : Nat → Int) (P : aP) : Prop := ∀ (pc : Nat) (L : aL) (st : List aV) (σ : aS) (k : Nat) (x : BitVec 64), decode cc pc = .ok (.lload k, 2) → (L[k]? = some (some (vl x))) → P (pc + 2) L (vl x :: st) σ → P pc L (st) σ
def rl_lstore_n (own : String) (cc : ByteArray) (NC : Nat) (C : aC) (Q : aQ) (rk : Nat) (sc : Bool) (xl : Nat) (xs : Nat → Int) (P : aP) : Prop := ∀ (pc : Nat) (L : aL) (st : List aV) (σ : aS) (k : Fin 4) (x : BitVec 64), decode cc pc = .ok (.lstore_n k, 1) → (k.val + 1 < L.length) → P (pc + 1) (st2 L k.val (vl x)) st σ → P pc L (vl x :: st) σ
def rl_lstore (own : String) (cc : ByteArray) (NC : Nat) (C : aC) (Q : aQ) (rk : Nat) (sc : Bool) (xl : Nat) (xs : Nat → Int) (P : aP) : Prop := ∀ (pc : Nat) (L : aL) (st : List aV) (σ : aS) (k : Nat) (x : BitVec 64), decode cc pc = .ok (.lstore k, 2) → (k + 1 < L.length) → P (pc + 2) (st2 L k (vl x)) st σ → P pc L (vl x :: st) σ
def rl_aload_n (own : String) (cc : ByteArray) (NC : Nat) (C : aC) (Q : aQ) (rk : Nat) (sc : Bool) (xl : Nat) (xs : Nat → Int) (P : aP) : Prop := ∀ (pc : Nat) (L : aL) (st : List aV) (σ : aS) (k : Fin 4) (x : Nat), decode cc pc = .ok (.aload_n k, 1) → (L[k.val]? = some (some (vr x))) → P (pc + 1) L (vr x :: st) σ → P pc L (st) σ
def rl_aload (own : String) (cc : ByteArray) (NC : Nat) (C : aC) (Q : aQ) (rk : Nat) (sc : Bool) (xl : Nat) (xs : Nat → Int) (P : aP) : Prop := ∀ (pc : Nat) (L : aL) (st : List aV) (σ : aS) (k : Nat) (x : Nat), decode cc pc = .ok (.aload k, 2) → (L[k]? = some (some (vr x))) → P (pc + 2) L (vr x :: st) σ → P pc L (st) σ
def rl_astore_n (own : String) (cc : ByteArray) (NC : Nat) (C : aC) (Q : aQ) (rk : Nat) (sc : Bool) (xl : Nat) (xs : Nat → Int) (P : aP) : Prop := ∀ (pc : Nat) (L : aL) (st : List aV) (σ : aS) (k : Fin 4) (x : Nat), decode cc pc = .ok (.astore_n k, 1) → (k.val < L.length) → P (pc + 1) (st1 L k.val (vr x)) st σ → P pc L (vr x :: st) σ
def rl_astore (own : String) (cc : ByteArray) (NC : Nat) (C : aC) (Q : aQ) (rk : Nat) (sc : Bool) (xl : Nat) (xs : Nat → Int) (P : aP) : Prop := ∀ (pc : Nat) (L : aL) (st : List aV) (σ : aS) (k : Nat) (x : Nat), decode cc pc = .ok (.astore k, 2) → (k < L.length) → P (pc + 2) (st1 L k (vr x)) st σ → P pc L (vr x :: st) σ
def rl_iinc (own : String) (cc : ByteArray) (NC : Nat) (C : aC) (Q : aQ) (rk : Nat) (sc : Bool) (xl : Nat) (xs : Nat → Int) (P : aP) : Prop := ∀ (pc : Nat) (L : aL) (st : List aV) (σ : aS) (k : Nat) (x n : Int), decode cc pc = .ok (.iinc k n, 3) → (L[k]? = some (some (vi x))) → P (pc + 3) (st1 L k (vi (w32 (x + n)))) st σ → P pc L (st) σ
def rl_iadd (own : String) (cc : ByteArray) (NC : Nat) (C : aC) (Q : aQ) (rk : Nat) (sc : Bool) (xl : Nat) (xs : Nat → Int) (P : aP) : Prop := ∀ (pc : Nat) (L : aL) (st : List aV) (σ : aS) (x y : Int), decode cc pc = .ok (.iadd, 1) → P (pc + 1) L (vi (w32 (x + y)) :: st) σ → P pc L (vi y :: vi x :: st) σ
def rl_isub (own : String) (cc : ByteArray) (NC : Nat) (C : aC) (Q : aQ) (rk : Nat) (sc : Bool) (xl : Nat) (xs : Nat → Int) (P : aP) : Prop := ∀ (pc : Nat) (L : aL) (st : List aV) (σ : aS) (x y : Int), decode cc pc = .ok (.isub, 1) → P (pc + 1) L (vi (w32 (x - y)) :: st) σ → P pc L (vi y :: vi x :: st) σ
def rl_imul (own : String) (cc : ByteArray) (NC : Nat) (C : aC) (Q : aQ) (rk : Nat) (sc : Bool) (xl : Nat) (xs : Nat → Int) (P : aP) : Prop := ∀ (pc : Nat) (L : aL) (st : List aV) (σ : aS) (x y : Int), decode cc pc = .ok (.imul, 1) → P (pc + 1) L (vi (w32 (x * y)) :: st) σ → P pc L (vi y :: vi x :: st) σ
def rl_iand (own : String) (cc : ByteArray) (NC : Nat) (C : aC) (Q : aQ) (rk : Nat) (sc : Bool) (xl : Nat) (xs : Nat → Int) (P : aP) : Prop := ∀ (pc : Nat) (L : aL) (st : List aV) (σ : aS) (x y : Int), decode cc pc = .ok (.iand, 1) → P (pc + 1) L (vi (bi32 (· &&& ·) x y) :: st) σ → P pc L (vi y :: vi x :: st) σ
def rl_ior (own : String) (cc : ByteArray) (NC : Nat) (C : aC) (Q : aQ) (rk : Nat) (sc : Bool) (xl : Nat) (xs : Nat → Int) (P : aP) : Prop := ∀ (pc : Nat) (L : aL) (st : List aV) (σ : aS) (x y : Int), decode cc pc = .ok (.ior, 1) → P (pc + 1) L (vi (bi32 (· ||| ·) x y) :: st) σ → P pc L (vi y :: vi x :: st) σ
def rl_ixor (own : String) (cc : ByteArray) (NC : Nat) (C : aC) (Q : aQ) (rk : Nat) (sc : Bool) (xl : Nat) (xs : Nat → Int) (P : aP) : Prop := ∀ (pc : Nat) (L : aL) (st : List aV) (σ : aS) (x y : Int), decode cc pc = .ok (.ixor, 1) → P (pc + 1) L (vi (bi32 (· ^^^ ·) x y) :: st) σ → P pc L (vi y :: vi x :: st) σ
def rl_ineg (own : String) (cc : ByteArray) (NC : Nat) (C : aC) (Q : aQ) (rk : Nat) (sc : Bool) (xl : Nat) (xs : Nat → Int) (P : aP) : Prop := ∀ (pc : Nat) (L : aL) (st : List aV) (σ : aS) (x : Int), decode cc pc = .ok (.ineg, 1) → P (pc + 1) L (vi (w32 (-x)) :: st) σ → P pc L (vi x :: st) σ
def rl_idiv (own : String) (cc : ByteArray) (NC : Nat) (C : aC) (Q : aQ) (rk : Nat) (sc : Bool) (xl : Nat) (xs : Nat → Int) (P : aP) : Prop := ∀ (pc : Nat) (L : aL) (st : List aV) (σ : aS) (x y : Int), decode cc pc = .ok (.idiv, 1) → (0 ≤ x) → (0 < y) → P (pc + 1) L (vi (x / y) :: st) σ → P pc L (vi y :: vi x :: st) σ
def rl_irem (own : String) (cc : ByteArray) (NC : Nat) (C : aC) (Q : aQ) (rk : Nat) (sc : Bool) (xl : Nat) (xs : Nat → Int) (P : aP) : Prop := ∀ (pc : Nat) (L : aL) (st : List aV) (σ : aS) (x y : Int), decode cc pc = .ok (.irem, 1) → (0 ≤ x) → (0 < y) → P (pc + 1) L (vi (x % y) :: st) σ → P pc L (vi y :: vi x :: st) σ
def rl_ishl (own : String) (cc : ByteArray) (NC : Nat) (C : aC) (Q : aQ) (rk : Nat) (sc : Bool) (xl : Nat) (xs : Nat → Int) (P : aP) : Prop := ∀ (pc : Nat) (L : aL) (st : List aV) (σ : aS) (x y : Int), decode cc pc = .ok (.ishl, 1) → (0 ≤ y) → (y < 32) → P (pc + 1) L (vi (w32 (x * 2 ^ y.toNat)) :: st) σ → P pc L (vi y :: vi x :: st) σ
def rl_ishr (own : String) (cc : ByteArray) (NC : Nat) (C : aC) (Q : aQ) (rk : Nat) (sc : Bool) (xl : Nat) (xs : Nat → Int) (P : aP) : Prop := ∀ (pc : Nat) (L : aL) (st : List aV) (σ : aS) (x y : Int), decode cc pc = .ok (.ishr, 1) → (0 ≤ y) → (y < 32) → P (pc + 1) L (vi (x / 2 ^ y.toNat) :: st) σ → P pc L (vi y :: vi x :: st) σ
def rl_iushr (own : String) (cc : ByteArray) (NC : Nat) (C : aC) (Q : aQ) (rk : Nat) (sc : Bool) (xl : Nat) (xs : Nat → Int) (P : aP) : Prop := ∀ (pc : Nat) (L : aL) (st : List aV) (σ : aS) (x y : Int), decode cc pc = .ok (.iushr, 1) → (0 ≤ y) → (y < 32) → P (pc + 1) L (vi (w32 (x % 4294967296 / 2 ^ y.toNat)) :: st) σ → P pc L (vi y :: vi x :: st) σ
def rl_ladd (own : String) (cc : ByteArray) (NC : Nat) (C : aC) (Q : aQ) (rk : Nat) (sc : Bool) (xl : Nat) (xs : Nat → Int) (P : aP) : Prop := ∀ (pc : Nat) (L : aL) (st : List aV) (σ : aS) (x y : BitVec 64), decode cc pc = .ok (.ladd, 1) → P (pc + 1) L (vl (x + y) :: st) σ → P pc L (vl y :: vl x :: st) σ
def rl_lsub (own : String) (cc : ByteArray) (NC : Nat) (C : aC) (Q : aQ) (rk : Nat) (sc : Bool) (xl : Nat) (xs : Nat → Int) (P : aP) : Prop := ∀ (pc : Nat) (L : aL) (st : List aV) (σ : aS) (x y : BitVec 64), decode cc pc = .ok (.lsub, 1) → P (pc + 1) L (vl (x - y) :: st) σ → P pc L (vl y :: vl x :: st) σ
def rl_lmul (own : String) (cc : ByteArray) (NC : Nat) (C : aC) (Q : aQ) (rk : Nat) (sc : Bool) (xl : Nat) (xs : Nat → Int) (P : aP) : Prop := ∀ (pc : Nat) (L : aL) (st : List aV) (σ : aS) (x y : BitVec 64), decode cc pc = .ok (.lmul, 1) → P (pc + 1) L (vl (x * y) :: st) σ → P pc L (vl y :: vl x :: st) σ
def rl_land (own : String) (cc : ByteArray) (NC : Nat) (C : aC) (Q : aQ) (rk : Nat) (sc : Bool) (xl : Nat) (xs : Nat → Int) (P : aP) : Prop := ∀ (pc : Nat) (L : aL) (st : List aV) (σ : aS) (x y : BitVec 64), decode cc pc = .ok (.land, 1) → P (pc + 1) L (vl (x &&& y) :: st) σ → P pc L (vl y :: vl x :: st) σ
def rl_lor (own : String) (cc : ByteArray) (NC : Nat) (C : aC) (Q : aQ) (rk : Nat) (sc : Bool) (xl : Nat) (xs : Nat → Int) (P : aP) : Prop := ∀ (pc : Nat) (L : aL) (st : List aV) (σ : aS) (x y : BitVec 64), decode cc pc = .ok (.lor, 1) → P (pc + 1) L (vl (x ||| y) :: st) σ → P pc L (vl y :: vl x :: st) σ
def rl_lxor (own : String) (cc : ByteArray) (NC : Nat) (C : aC) (Q : aQ) (rk : Nat) (sc : Bool) (xl : Nat) (xs : Nat → Int) (P : aP) : Prop := ∀ (pc : Nat) (L : aL) (st : List aV) (σ : aS) (x y : BitVec 64), decode cc pc = .ok (.lxor, 1) → P (pc + 1) L (vl (x ^^^ y) :: st) σ → P pc L (vl y :: vl x :: st) σ
def rl_ldiv (own : String) (cc : ByteArray) (NC : Nat) (C : aC) (Q : aQ) (rk : Nat) (sc : Bool) (xl : Nat) (xs : Nat → Int) (P : aP) : Prop := ∀ (pc : Nat) (L : aL) (st : List aV) (σ : aS) (x y : BitVec 64), decode cc pc = .ok (.ldiv, 1) → (x.toNat < 2 ^ 63) → (y.toNat < 2 ^ 63) → (0 < y.toNat) → P (pc + 1) L (vl (x / y) :: st) σ → P pc L (vl y :: vl x :: st) σ
def rl_lrem (own : String) (cc : ByteArray) (NC : Nat) (C : aC) (Q : aQ) (rk : Nat) (sc : Bool) (xl : Nat) (xs : Nat → Int) (P : aP) : Prop := ∀ (pc : Nat) (L : aL) (st : List aV) (σ : aS) (x y : BitVec 64), decode cc pc = .ok (.lrem, 1) → (x.toNat < 2 ^ 63) → (y.toNat < 2 ^ 63) → (0 < y.toNat) → P (pc + 1) L (vl (x % y) :: st) σ → P pc L (vl y :: vl x :: st) σ
def rl_lshl (own : String) (cc : ByteArray) (NC : Nat) (C : aC) (Q : aQ) (rk : Nat) (sc : Bool) (xl : Nat) (xs : Nat → Int) (P : aP) : Prop := ∀ (pc : Nat) (L : aL) (st : List aV) (σ : aS) (x : BitVec 64) (y : Int), decode cc pc = .ok (.lshl, 1) → (0 ≤ y) → (y < 64) → P (pc + 1) L (vl (x <<< y.toNat) :: st) σ → P pc L (vi y :: vl x :: st) σ
def rl_lushr (own : String) (cc : ByteArray) (NC : Nat) (C : aC) (Q : aQ) (rk : Nat) (sc : Bool) (xl : Nat) (xs : Nat → Int) (P : aP) : Prop := ∀ (pc : Nat) (L : aL) (st : List aV) (σ : aS) (x : BitVec 64) (y : Int), decode cc pc = .ok (.lushr, 1) → (0 ≤ y) → (y < 64) → P (pc + 1) L (vl (x >>> y.toNat) :: st) σ → P pc L (vi y :: vl x :: st) σ
def rl_lshr (own : String) (cc : ByteArray) (NC : Nat) (C : aC) (Q : aQ) (rk : Nat) (sc : Bool) (xl : Nat) (xs : Nat → Int) (P : aP) : Prop := ∀ (pc : Nat) (L : aL) (st : List aV) (σ : aS) (x : BitVec 64) (y : Int), decode cc pc = .ok (.lshr, 1) → (0 ≤ y) → (y < 64) → P (pc + 1) L (vl (x.sshiftRight y.toNat) :: st) σ → P pc L (vi y :: vl x :: st) σ
def rl_lcmp (own : String) (cc : ByteArray) (NC : Nat) (C : aC) (Q : aQ) (rk : Nat) (sc : Bool) (xl : Nat) (xs : Nat → Int) (P : aP) : Prop := ∀ (pc : Nat) (L : aL) (st : List aV) (σ : aS) (x y : BitVec 64), decode cc pc = .ok (.lcmp, 1) → P (pc + 1) L (vi (lcm x y) :: st) σ → P pc L (vl y :: vl x :: st) σ
def rl_i2l (own : String) (cc : ByteArray) (NC : Nat) (C : aC) (Q : aQ) (rk : Nat) (sc : Bool) (xl : Nat) (xs : Nat → Int) (P : aP) : Prop := ∀ (pc : Nat) (L : aL) (st : List aV) (σ : aS) (x : Int), decode cc pc = .ok (.i2l, 1) → P (pc + 1) L (vl (BitVec.ofInt 64 x) :: st) σ → P pc L (vi x :: st) σ
def rl_l2i (own : String) (cc : ByteArray) (NC : Nat) (C : aC) (Q : aQ) (rk : Nat) (sc : Bool) (xl : Nat) (xs : Nat → Int) (P : aP) : Prop := ∀ (pc : Nat) (L : aL) (st : List aV) (σ : aS) (x : BitVec 64), decode cc pc = .ok (.l2i, 1) → P (pc + 1) L (vi (x.setWidth 32).toInt :: st) σ → P pc L (vl x :: st) σ
def rl_i2b (own : String) (cc : ByteArray) (NC : Nat) (C : aC) (Q : aQ) (rk : Nat) (sc : Bool) (xl : Nat) (xs : Nat → Int) (P : aP) : Prop := ∀ (pc : Nat) (L : aL) (st : List aV) (σ : aS) (x : Int), decode cc pc = .ok (.i2b, 1) → P (pc + 1) L (vi ((x + 128) % 256 - 128) :: st) σ → P pc L (vi x :: st) σ
def rl_i2s (own : String) (cc : ByteArray) (NC : Nat) (C : aC) (Q : aQ) (rk : Nat) (sc : Bool) (xl : Nat) (xs : Nat → Int) (P : aP) : Prop := ∀ (pc : Nat) (L : aL) (st : List aV) (σ : aS) (x : Int), decode cc pc = .ok (.i2s, 1) → P (pc + 1) L (vi ((x + 32768) % 65536 - 32768) :: st) σ → P pc L (vi x :: st) σ
def rl_dup (own : String) (cc : ByteArray) (NC : Nat) (C : aC) (Q : aQ) (rk : Nat) (sc : Bool) (xl : Nat) (xs : Nat → Int) (P : aP) : Prop := ∀ (pc : Nat) (L : aL) (st : List aV) (σ : aS) (v : aV), decode cc pc = .ok (.dup, 1) → (isL v = false) → P (pc + 1) L (v :: v :: st) σ → P pc L (v :: st) σ
def rl_if (own : String) (cc : ByteArray) (NC : Nat) (C : aC) (Q : aQ) (rk : Nat) (sc : Bool) (xl : Nat) (xs : Nat → Int) (P : aP) : Prop := ∀ (pc : Nat) (L : aL) (st : List aV) (σ : aS) (o : Jvm.ClassFile.Cond) (off : Int) (tgt : Nat) (x : Int), decode cc pc = .ok (.ifCond o off, 3) → ((pc : Int) + off = (tgt : Int)) → (icmp o x 0 → P tgt L st σ) → (¬ icmp o x 0 → P (pc + 3) L st σ) → P pc L (vi x :: st) σ
def rl_icmp (own : String) (cc : ByteArray) (NC : Nat) (C : aC) (Q : aQ) (rk : Nat) (sc : Bool) (xl : Nat) (xs : Nat → Int) (P : aP) : Prop := ∀ (pc : Nat) (L : aL) (st : List aV) (σ : aS) (o : Jvm.ClassFile.Cond) (off : Int) (tgt : Nat) (x y : Int), decode cc pc = .ok (.if_icmp o off, 3) → ((pc : Int) + off = (tgt : Int)) → (icmp o x y → P tgt L st σ) → (¬ icmp o x y → P (pc + 3) L st σ) → P pc L (vi y :: vi x :: st) σ
def rl_goto (own : String) (cc : ByteArray) (NC : Nat) (C : aC) (Q : aQ) (rk : Nat) (sc : Bool) (xl : Nat) (xs : Nat → Int) (P : aP) : Prop := ∀ (pc : Nat) (L : aL) (st : List aV) (σ : aS) (off : Int) (tgt : Nat), decode cc pc = .ok (.goto off, 3) → ((pc : Int) + off = (tgt : Int)) → P tgt L st σ → P pc L (st) σ
def rl_tabIn (own : String) (cc : ByteArray) (NC : Nat) (C : aC) (Q : aQ) (rk : Nat) (sc : Bool) (xl : Nat) (xs : Nat → Int) (P : aP) : Prop := ∀ (pc : Nat) (L : aL) (st : List aV) (σ : aS) (dflt lo hi off : Int) (offs : Array Int) (len tgt : Nat) (x : Int), decode cc pc = .ok (.tableswitch dflt lo hi offs, len) → (lo ≤ x) → (x ≤ hi) → (offs[(x - lo).toNat]? = some off) → ((pc : Int) + off = (tgt : Int)) → P tgt L st σ → P pc L (vi x :: st) σ
def rl_tabOut (own : String) (cc : ByteArray) (NC : Nat) (C : aC) (Q : aQ) (rk : Nat) (sc : Bool) (xl : Nat) (xs : Nat → Int) (P : aP) : Prop := ∀ (pc : Nat) (L : aL) (st : List aV) (σ : aS) (dflt lo hi : Int) (offs : Array Int) (len tgt : Nat) (x : Int), decode cc pc = .ok (.tableswitch dflt lo hi offs, len) → (x < lo ∨ hi < x) → ((pc : Int) + dflt = (tgt : Int)) → P tgt L st σ → P pc L (vi x :: st) σ
def rl_lookup (own : String) (cc : ByteArray) (NC : Nat) (C : aC) (Q : aQ) (rk : Nat) (sc : Bool) (xl : Nat) (xs : Nat → Int) (P : aP) : Prop := ∀ (pc : Nat) (L : aL) (st : List aV) (σ : aS) (dflt off : Int) (ps : Array (Int × Int)) (len tgt : Nat) (x : Int), decode cc pc = .ok (.lookupswitch dflt ps, len) → ((ps.toList.zip (ps.toList.drop 1)).all (fun (a, next) => a.1 < next.1) = true) → (Op.lookupswitch.offset ps.toList dflt x = off) → ((pc : Int) + off = (tgt : Int)) → P tgt L st σ → P pc L (vi x :: st) σ
def rl_getI (own : String) (cc : ByteArray) (NC : Nat) (C : aC) (Q : aQ) (rk : Nat) (sc : Bool) (xl : Nat) (xs : Nat → Int) (P : aP) : Prop := ∀ (pc : Nat) (L : aL) (st : List aV) (σ : aS) (i ci k c : Nat) (fk : List Nat), decode cc pc = .ok (.getfield i, 3) → (fLink own i ci k) → (c < NC) → (cd c = .inl (ci, fk)) → (fk[k]? = some 0 ∨ fk[k]? = some 2) → P (pc + 3) L (vi (σ.1 c k) :: st) σ → P pc L (vr c :: st) σ
def rl_getJ (own : String) (cc : ByteArray) (NC : Nat) (C : aC) (Q : aQ) (rk : Nat) (sc : Bool) (xl : Nat) (xs : Nat → Int) (P : aP) : Prop := ∀ (pc : Nat) (L : aL) (st : List aV) (σ : aS) (i ci k c : Nat) (fk : List Nat), decode cc pc = .ok (.getfield i, 3) → (fLink own i ci k) → (c < NC) → (cd c = .inl (ci, fk)) → (fk[k]? = some 1) → P (pc + 3) L (vl (σ.2 c k) :: st) σ → P pc L (vr c :: st) σ
def rl_getR (own : String) (cc : ByteArray) (NC : Nat) (C : aC) (Q : aQ) (rk : Nat) (sc : Bool) (xl : Nat) (xs : Nat → Int) (P : aP) : Prop := ∀ (pc : Nat) (L : aL) (st : List aV) (σ : aS) (i ci k c r : Nat) (fk : List Nat), decode cc pc = .ok (.getfield i, 3) → (fLink own i ci k) → (c < NC) → (cd c = .inl (ci, fk)) → (fk[k]? = some (r + 3)) → P (pc + 3) L (vr r :: st) σ → P pc L (vr c :: st) σ
def rl_putI (own : String) (cc : ByteArray) (NC : Nat) (C : aC) (Q : aQ) (rk : Nat) (sc : Bool) (xl : Nat) (xs : Nat → Int) (P : aP) : Prop := ∀ (pc : Nat) (L : aL) (st : List aV) (σ : aS) (i ci k c : Nat) (fk : List Nat) (x : Int), decode cc pc = .ok (.putfield i, 3) → (fLink own i ci k) → (c < NC) → (cd c = .inl (ci, fk)) → (fk[k]? = some 0) → ((clsT ci k).2.2.2 = false) → (clsY ci k = .int) → P (pc + 3) L st (sI σ c k x) → P pc L (vi x :: vr c :: st) σ
def rl_putZ (own : String) (cc : ByteArray) (NC : Nat) (C : aC) (Q : aQ) (rk : Nat) (sc : Bool) (xl : Nat) (xs : Nat → Int) (P : aP) : Prop := ∀ (pc : Nat) (L : aL) (st : List aV) (σ : aS) (i ci k c : Nat) (fk : List Nat) (x : Int), decode cc pc = .ok (.putfield i, 3) → (fLink own i ci k) → (c < NC) → (cd c = .inl (ci, fk)) → (fk[k]? = some 2) → ((clsT ci k).2.2.2 = false) → (clsY ci k = .boolean) → (x = 0 ∨ x = 1) → P (pc + 3) L st (sI σ c k x) → P pc L (vi x :: vr c :: st) σ
def rl_putJ (own : String) (cc : ByteArray) (NC : Nat) (C : aC) (Q : aQ) (rk : Nat) (sc : Bool) (xl : Nat) (xs : Nat → Int) (P : aP) : Prop := ∀ (pc : Nat) (L : aL) (st : List aV) (σ : aS) (i ci k c : Nat) (fk : List Nat) (x : BitVec 64), decode cc pc = .ok (.putfield i, 3) → (fLink own i ci k) → (c < NC) → (cd c = .inl (ci, fk)) → (fk[k]? = some 1) → ((clsT ci k).2.2.2 = false) → (clsY ci k = .long) → P (pc + 3) L st (sJ σ c k x) → P pc L (vl x :: vr c :: st) σ
def rl_iaload (own : String) (cc : ByteArray) (NC : Nat) (C : aC) (Q : aQ) (rk : Nat) (sc : Bool) (xl : Nat) (xs : Nat → Int) (P : aP) : Prop := ∀ (pc : Nat) (L : aL) (st : List aV) (σ : aS) (c n : Nat) (j : Int), decode cc pc = .ok (.iaload, 1) → (c < NC) → (cd c = .inr (0, n)) → (0 ≤ j) → (j < n) → (n < 2 ^ 31) → P (pc + 1) L (vi (σ.1 c j.toNat) :: st) σ → P pc L (vi j :: vr c :: st) σ
def rl_baload (own : String) (cc : ByteArray) (NC : Nat) (C : aC) (Q : aQ) (rk : Nat) (sc : Bool) (xl : Nat) (xs : Nat → Int) (P : aP) : Prop := ∀ (pc : Nat) (L : aL) (st : List aV) (σ : aS) (c n : Nat) (j : Int), decode cc pc = .ok (.baload, 1) → (c < NC) → (cd c = .inr (2, n)) → (0 ≤ j) → (j < n) → (n < 2 ^ 31) → P (pc + 1) L (vi (σ.1 c j.toNat) :: st) σ → P pc L (vi j :: vr c :: st) σ
def rl_laload (own : String) (cc : ByteArray) (NC : Nat) (C : aC) (Q : aQ) (rk : Nat) (sc : Bool) (xl : Nat) (xs : Nat → Int) (P : aP) : Prop := ∀ (pc : Nat) (L : aL) (st : List aV) (σ : aS) (c n : Nat) (j : Int), decode cc pc = .ok (.laload, 1) → (c < NC) → (cd c = .inr (1, n)) → (0 ≤ j) → (j < n) → (n < 2 ^ 31) → P (pc + 1) L (vl (σ.2 c j.toNat) :: st) σ → P pc L (vi j :: vr c :: st) σ
def rl_aaload (own : String) (cc : ByteArray) (NC : Nat) (C : aC) (Q : aQ) (rk : Nat) (sc : Bool) (xl : Nat) (xs : Nat → Int) (P : aP) : Prop := ∀ (pc : Nat) (L : aL) (st : List aV) (σ : aS) (c n : Nat) (j : Int), decode cc pc = .ok (.aaload, 1) → (c < NC) → (cd c = .inr (3, n)) → (0 ≤ j) → (j < n) → (n < 2 ^ 31) → P (pc + 1) L (vr (5 + j.toNat) :: st) σ → P pc L (vi j :: vr c :: st) σ
def rl_iastore (own : String) (cc : ByteArray) (NC : Nat) (C : aC) (Q : aQ) (rk : Nat) (sc : Bool) (xl : Nat) (xs : Nat → Int) (P : aP) : Prop := ∀ (pc : Nat) (L : aL) (st : List aV) (σ : aS) (c n : Nat) (j x : Int), decode cc pc = .ok (.iastore, 1) → (c < NC) → (cd c = .inr (0, n)) → (0 ≤ j) → (j < n) → (n < 2 ^ 31) → P (pc + 1) L st (sI σ c j.toNat x) → P pc L (vi x :: vi j :: vr c :: st) σ
def rl_bastore (own : String) (cc : ByteArray) (NC : Nat) (C : aC) (Q : aQ) (rk : Nat) (sc : Bool) (xl : Nat) (xs : Nat → Int) (P : aP) : Prop := ∀ (pc : Nat) (L : aL) (st : List aV) (σ : aS) (c n : Nat) (j x : Int), decode cc pc = .ok (.bastore, 1) → (c < NC) → (cd c = .inr (2, n)) → (0 ≤ j) → (j < n) → (n < 2 ^ 31) → (x = 0 ∨ x = 1) → P (pc + 1) L st (sI σ c j.toNat x) → P pc L (vi x :: vi j :: vr c :: st) σ
def rl_lastore (own : String) (cc : ByteArray) (NC : Nat) (C : aC) (Q : aQ) (rk : Nat) (sc : Bool) (xl : Nat) (xs : Nat → Int) (P : aP) : Prop := ∀ (pc : Nat) (L : aL) (st : List aV) (σ : aS) (c n : Nat) (j : Int) (x : BitVec 64), decode cc pc = .ok (.lastore, 1) → (c < NC) → (cd c = .inr (1, n)) → (0 ≤ j) → (j < n) → (n < 2 ^ 31) → P (pc + 1) L st (sJ σ c j.toNat x) → P pc L (vl x :: vi j :: vr c :: st) σ
def rl_alen (own : String) (cc : ByteArray) (NC : Nat) (C : aC) (Q : aQ) (rk : Nat) (sc : Bool) (xl : Nat) (xs : Nat → Int) (P : aP) : Prop := ∀ (pc : Nat) (L : aL) (st : List aV) (σ : aS) (c t n : Nat), decode cc pc = .ok (.arraylength, 1) → (c < NC) → (cd c = .inr (t, n)) → (t < 3) → (n < 2 ^ 31) → P (pc + 1) L (vi n :: st) σ → P pc L (vr c :: st) σ
def rl_ialoadX (own : String) (cc : ByteArray) (NC : Nat) (C : aC) (Q : aQ) (rk : Nat) (sc : Bool) (xl : Nat) (xs : Nat → Int) (P : aP) : Prop := ∀ (pc : Nat) (L : aL) (st : List aV) (σ : aS) (j : Int), decode cc pc = .ok (.iaload, 1) → (sc = true) → (0 ≤ j) → (j < xl) → (xl < 2 ^ 31) → P (pc + 1) L (vi (xs j.toNat) :: st) σ → P pc L (vi j :: vr 99 :: st) σ
def rl_alenX (own : String) (cc : ByteArray) (NC : Nat) (C : aC) (Q : aQ) (rk : Nat) (sc : Bool) (xl : Nat) (xs : Nat → Int) (P : aP) : Prop := ∀ (pc : Nat) (L : aL) (st : List aV) (σ : aS) , decode cc pc = .ok (.arraylength, 1) → (sc = true) → (xl < 2 ^ 31) → P (pc + 1) L (vi xl :: st) σ → P pc L (vr 99 :: st) σ
def rl_callV (own : String) (cc : ByteArray) (NC : Nat) (C : aC) (Q : aQ) (rk : Nat) (sc : Bool) (xl : Nat) (xs : Nat → Int) (P : aP) : Prop := ∀ (pc : Nat) (L : aL) (st : List aV) (σ : aS) (i m ci c : Nat) (fk : List Nat) (as : List aV) (K : aQ), decode cc pc = .ok (.invokevirtual i, 3) → (vLink own i m ci as.length) → (c < NC) → (cd c = .inl (ci, fk)) → (stw st ≤ 8) → (C m (vr c :: as) σ K) → (∀ r σ', K r σ' → P (pc + 3) L (r.toList ++ st) σ') → P pc L (as.reverse ++ vr c :: st) σ
def rl_callS (own : String) (cc : ByteArray) (NC : Nat) (C : aC) (Q : aQ) (rk : Nat) (sc : Bool) (xl : Nat) (xs : Nat → Int) (P : aP) : Prop := ∀ (pc : Nat) (L : aL) (st : List aV) (σ : aS) (i m : Nat) (as : List aV) (K : aQ), decode cc pc = .ok (.invokestatic i, 3) → (zLink own i m as.length) → (stw st ≤ 8) → (C m as σ K) → (∀ r σ', K r σ' → P (pc + 3) L (r.toList ++ st) σ') → P pc L (as.reverse ++ st) σ
def rl_acopy (own : String) (cc : ByteArray) (NC : Nat) (C : aC) (Q : aQ) (rk : Nat) (sc : Bool) (xl : Nat) (xs : Nat → Int) (P : aP) : Prop := ∀ (pc : Nat) (L : aL) (st : List aV) (σ : aS) (i c0 n0 c1 n1 : Nat) (sp dp n : Int), decode cc pc = .ok (.invokestatic i, 3) → (yLink own i) → (stw st ≤ 8) → (c0 < NC) → (cd c0 = .inr (0, n0)) → (c1 < NC) → (cd c1 = .inr (0, n1)) → (n0 < 2 ^ 31) → (n1 < 2 ^ 31) → (0 ≤ sp) → (0 ≤ dp) → (0 ≤ n) → (sp + n ≤ n0) → (dp + n ≤ n1) → P (pc + 3) L st (sC σ c0 sp.toNat c1 dp.toNat n.toNat) → P pc L (vi n :: vi dp :: vr c1 :: vi sp :: vr c0 :: st) σ
def rl_mmax (own : String) (cc : ByteArray) (NC : Nat) (C : aC) (Q : aQ) (rk : Nat) (sc : Bool) (xl : Nat) (xs : Nat → Int) (P : aP) : Prop := ∀ (pc : Nat) (L : aL) (st : List aV) (σ : aS) (i : Nat) (x y : Int), decode cc pc = .ok (.invokestatic i, 3) → (xLink own i) → (stw st ≤ 8) → P (pc + 3) L (vi (if x < y then y else x) :: st) σ → P pc L (vi y :: vi x :: st) σ
def rl_mmin (own : String) (cc : ByteArray) (NC : Nat) (C : aC) (Q : aQ) (rk : Nat) (sc : Bool) (xl : Nat) (xs : Nat → Int) (P : aP) : Prop := ∀ (pc : Nat) (L : aL) (st : List aV) (σ : aS) (i : Nat) (x y : Int), decode cc pc = .ok (.invokestatic i, 3) → (nLink own i) → (stw st ≤ 8) → P (pc + 3) L (vi (if y < x then y else x) :: st) σ → P pc L (vi y :: vi x :: st) σ
def rl_iret (own : String) (cc : ByteArray) (NC : Nat) (C : aC) (Q : aQ) (rk : Nat) (sc : Bool) (xl : Nat) (xs : Nat → Int) (P : aP) : Prop := ∀ (pc : Nat) (L : aL) (σ : aS) (x : Int), decode cc pc = .ok (.ireturn, 1) → (rk = 0 ∨ (rk = 1 ∧ (x = 0 ∨ x = 1))) → (Q (some (vi x)) σ) → P pc L ([vi x]) σ
def rl_lret (own : String) (cc : ByteArray) (NC : Nat) (C : aC) (Q : aQ) (rk : Nat) (sc : Bool) (xl : Nat) (xs : Nat → Int) (P : aP) : Prop := ∀ (pc : Nat) (L : aL) (σ : aS) (x : BitVec 64), decode cc pc = .ok (.lreturn, 1) → (rk = 2) → (Q (some (vl x)) σ) → P pc L ([vl x]) σ
def rl_vret (own : String) (cc : ByteArray) (NC : Nat) (C : aC) (Q : aQ) (rk : Nat) (sc : Bool) (xl : Nat) (xs : Nat → Int) (P : aP) : Prop := ∀ (pc : Nat) (L : aL) (σ : aS) , decode cc pc = .ok (.return_, 1) → (rk = 3) → (Q none σ) → P pc L ([]) σ
def rl_keep (own : String) (cc : ByteArray) (NC : Nat) (C : aC) (Q : aQ) (rk : Nat) (sc : Bool) (xl : Nat) (xs : Nat → Int) (P : aP) : Prop := ∀ (pc : Nat) (ms : List Bool) (L : aL) (st : List aV) (σ : aS), P pc (kpL ms L) st σ → P pc L st σ
def Clos (own : String) (cc : ByteArray) (NC : Nat) (C : aC) (Q : aQ) (rk : Nat) (sc : Bool) (xl : Nat) (xs : Nat → Int) (P : aP) : Prop := rl_iconst own cc NC C Q rk sc xl xs P ∧ rl_bipush own cc NC C Q rk sc xl xs P ∧ rl_sipush own cc NC C Q rk sc xl xs P ∧ rl_lconst own cc NC C Q rk sc xl xs P ∧ rl_ldc own cc NC C Q rk sc xl xs P ∧ rl_ldcw own cc NC C Q rk sc xl xs P ∧ rl_ldc2 own cc NC C Q rk sc xl xs P ∧ rl_iload_n own cc NC C Q rk sc xl xs P ∧ rl_iload own cc NC C Q rk sc xl xs P ∧ rl_istore_n own cc NC C Q rk sc xl xs P ∧ rl_istore own cc NC C Q rk sc xl xs P ∧ rl_lload_n own cc NC C Q rk sc xl xs P ∧ rl_lload own cc NC C Q rk sc xl xs P ∧ rl_lstore_n own cc NC C Q rk sc xl xs P ∧ rl_lstore own cc NC C Q rk sc xl xs P ∧ rl_aload_n own cc NC C Q rk sc xl xs P ∧ rl_aload own cc NC C Q rk sc xl xs P ∧ rl_astore_n own cc NC C Q rk sc xl xs P ∧ rl_astore own cc NC C Q rk sc xl xs P ∧ rl_iinc own cc NC C Q rk sc xl xs P ∧ rl_iadd own cc NC C Q rk sc xl xs P ∧ rl_isub own cc NC C Q rk sc xl xs P ∧ rl_imul own cc NC C Q rk sc xl xs P ∧ rl_iand own cc NC C Q rk sc xl xs P ∧ rl_ior own cc NC C Q rk sc xl xs P ∧ rl_ixor own cc NC C Q rk sc xl xs P ∧ rl_ineg own cc NC C Q rk sc xl xs P ∧ rl_idiv own cc NC C Q rk sc xl xs P ∧ rl_irem own cc NC C Q rk sc xl xs P ∧ rl_ishl own cc NC C Q rk sc xl xs P ∧ rl_ishr own cc NC C Q rk sc xl xs P ∧ rl_iushr own cc NC C Q rk sc xl xs P ∧ rl_ladd own cc NC C Q rk sc xl xs P ∧ rl_lsub own cc NC C Q rk sc xl xs P ∧ rl_lmul own cc NC C Q rk sc xl xs P ∧ rl_land own cc NC C Q rk sc xl xs P ∧ rl_lor own cc NC C Q rk sc xl xs P ∧ rl_lxor own cc NC C Q rk sc xl xs P ∧ rl_ldiv own cc NC C Q rk sc xl xs P ∧ rl_lrem own cc NC C Q rk sc xl xs P ∧ rl_lshl own cc NC C Q rk sc xl xs P ∧ rl_lushr own cc NC C Q rk sc xl xs P ∧ rl_lshr own cc NC C Q rk sc xl xs P ∧ rl_lcmp own cc NC C Q rk sc xl xs P ∧ rl_i2l own cc NC C Q rk sc xl xs P ∧ rl_l2i own cc NC C Q rk sc xl xs P ∧ rl_i2b own cc NC C Q rk sc xl xs P ∧ rl_i2s own cc NC C Q rk sc xl xs P ∧ rl_dup own cc NC C Q rk sc xl xs P ∧ rl_if own cc NC C Q rk sc xl xs P ∧ rl_icmp own cc NC C Q rk sc xl xs P ∧ rl_goto own cc NC C Q rk sc xl xs P ∧ rl_tabIn own cc NC C Q rk sc xl xs P ∧ rl_tabOut own cc NC C Q rk sc xl xs P ∧ rl_lookup own cc NC C Q rk sc xl xs P ∧ rl_getI own cc NC C Q rk sc xl xs P ∧ rl_getJ own cc NC C Q rk sc xl xs P ∧ rl_getR own cc NC C Q rk sc xl xs P ∧ rl_putI own cc NC C Q rk sc xl xs P ∧ rl_putZ own cc NC C Q rk sc xl xs P ∧ rl_putJ own cc NC C Q rk sc xl xs P ∧ rl_iaload own cc NC C Q rk sc xl xs P ∧ rl_baload own cc NC C Q rk sc xl xs P ∧ rl_laload own cc NC C Q rk sc xl xs P ∧ rl_aaload own cc NC C Q rk sc xl xs P ∧ rl_iastore own cc NC C Q rk sc xl xs P ∧ rl_bastore own cc NC C Q rk sc xl xs P ∧ rl_lastore own cc NC C Q rk sc xl xs P ∧ rl_alen own cc NC C Q rk sc xl xs P ∧ rl_ialoadX own cc NC C Q rk sc xl xs P ∧ rl_alenX own cc NC C Q rk sc xl xs P ∧ rl_callV own cc NC C Q rk sc xl xs P ∧ rl_callS own cc NC C Q rk sc xl xs P ∧ rl_acopy own cc NC C Q rk sc xl xs P ∧ rl_mmax own cc NC C Q rk sc xl xs P ∧ rl_mmin own cc NC C Q rk sc xl xs P ∧ rl_iret own cc NC C Q rk sc xl xs P ∧ rl_lret own cc NC C Q rk sc xl xs P ∧ rl_vret own cc NC C Q rk sc xl xs P ∧ rl_keep own cc NC C Q rk sc xl xs P
/-- total correctness: the least predicate that is closed under the rules -/
def Wp (own : String) (cc : ByteArray) (NC : Nat) (C : aC) (Q : aQ) (rk : Nat) (sc : Bool) (xl : Nat) (xs : Nat → Int) : aP := fun pc L st σ => ∀ P : aP, Clos own cc NC C Q rk sc xl xs P → P pc L st σ
section WPS
variable {own : String} {cc : ByteArray} {NC : Nat} {C : aC} {Q : aQ} {rk : Nat} {sc : Bool} {xl : Nat} {xs : Nat → Int}
theorem wp_iconst {pc : Nat} {L : aL} {st : List aV} {σ : aS} {n : Int} (hd : decode cc pc = .ok (.iconst n, 1)) (h0 : -128 ≤ n ∧ n < 128) (k0 : Wp own cc NC C Q rk sc xl xs (pc + 1) L (vi n :: st) σ) : Wp own cc NC C Q rk sc xl xs pc L (st) σ := fun P hP => hP.1 _ _ _ _ _ hd h0 (k0 P hP)
theorem wp_bipush {pc : Nat} {L : aL} {st : List aV} {σ : aS} {n : Int} (hd : decode cc pc = .ok (.bipush n, 2)) (h0 : -128 ≤ n ∧ n < 128) (k0 : Wp own cc NC C Q rk sc xl xs (pc + 2) L (vi n :: st) σ) : Wp own cc NC C Q rk sc xl xs pc L (st) σ := fun P hP => hP.2.1 _ _ _ _ _ hd h0 (k0 P hP)
theorem wp_sipush {pc : Nat} {L : aL} {st : List aV} {σ : aS} {n : Int} (hd : decode cc pc = .ok (.sipush n, 3)) (h0 : -32768 ≤ n ∧ n < 32768) (k0 : Wp own cc NC C Q rk sc xl xs (pc + 3) L (vi n :: st) σ) : Wp own cc NC C Q rk sc xl xs pc L (st) σ := fun P hP => hP.2.2.1 _ _ _ _ _ hd h0 (k0 P hP)
theorem wp_lconst {pc : Nat} {L : aL} {st : List aV} {σ : aS} {n : Fin 2} (hd : decode cc pc = .ok (.lconst n, 1)) (k0 : Wp own cc NC C Q rk sc xl xs (pc + 1) L (vl (BitVec.ofNat 64 n.val) :: st) σ) : Wp own cc NC C Q rk sc xl xs pc L (st) σ := fun P hP => hP.2.2.2.1 _ _ _ _ _ hd (k0 P hP)
theorem wp_ldc {pc : Nat} {L : aL} {st : List aV} {σ : aS} {i : Nat} {v : Int} (hd : decode cc pc = .ok (.ldc i, 2)) (h0 : kLink own i v) (k0 : Wp own cc NC C Q rk sc xl xs (pc + 2) L (vi v :: st) σ) : Wp own cc NC C Q rk sc xl xs pc L (st) σ := fun P hP => hP.2.2.2.2.1 _ _ _ _ _ _ hd h0 (k0 P hP)
theorem wp_ldcw {pc : Nat} {L : aL} {st : List aV} {σ : aS} {i : Nat} {v : Int} (hd : decode cc pc = .ok (.ldc_w i, 3)) (h0 : kLink own i v) (k0 : Wp own cc NC C Q rk sc xl xs (pc + 3) L (vi v :: st) σ) : Wp own cc NC C Q rk sc xl xs pc L (st) σ := fun P hP => hP.2.2.2.2.2.1 _ _ _ _ _ _ hd h0 (k0 P hP)
theorem wp_ldc2 {pc : Nat} {L : aL} {st : List aV} {σ : aS} {i : Nat} {v : BitVec 64} (hd : decode cc pc = .ok (.ldc2_w i, 3)) (h0 : lLink own i v) (k0 : Wp own cc NC C Q rk sc xl xs (pc + 3) L (vl v :: st) σ) : Wp own cc NC C Q rk sc xl xs pc L (st) σ := fun P hP => hP.2.2.2.2.2.2.1 _ _ _ _ _ _ hd h0 (k0 P hP)
theorem wp_iload_n {pc : Nat} {L : aL} {st : List aV} {σ : aS} {k : Fin 4} {x : Int} (hd : decode cc pc = .ok (.iload_n k, 1)) (h0 : L[k.val]? = some (some (vi x))) (k0 : Wp own cc NC C Q rk sc xl xs (pc + 1) L (vi x :: st) σ) : Wp own cc NC C Q rk sc xl xs pc L (st) σ := fun P hP => hP.2.2.2.2.2.2.2.1 _ _ _ _ _ _ hd h0 (k0 P hP)
theorem wp_iload {pc : Nat} {L : aL} {st : List aV} {σ : aS} {k : Nat} {x : Int} (hd : decode cc pc = .ok (.iload k, 2)) (h0 : L[k]? = some (some (vi x))) (k0 : Wp own cc NC C Q rk sc xl xs (pc + 2) L (vi x :: st) σ) : Wp own cc NC C Q rk sc xl xs pc L (st) σ := fun P hP => hP.2.2.2.2.2.2.2.2.1 _ _ _ _ _ _ hd h0 (k0 P hP)
theorem wp_istore_n {pc : Nat} {L : aL} {st : List aV} {σ : aS} {k : Fin 4} {x : Int} (hd : decode cc pc = .ok (.istore_n k, 1)) (h0 : k.val < L.length) (k0 : Wp own cc NC C Q rk sc xl xs (pc + 1) (st1 L k.val (vi x)) st σ) : Wp own cc NC C Q rk sc xl xs pc L (vi x :: st) σ := fun P hP => hP.2.2.2.2.2.2.2.2.2.1 _ _ _ _ _ _ hd h0 (k0 P hP)
theorem wp_istore {pc : Nat} {L : aL} {st : List aV} {σ : aS} {k : Nat} {x : Int} (hd : decode cc pc = .ok (.istore k, 2)) (h0 : k < L.length) (k0 : Wp own cc NC C Q rk sc xl xs (pc + 2) (st1 L k (vi x)) st σ) : Wp own cc NC C Q rk sc xl xs pc L (vi x :: st) σ := fun P hP => hP.2.2.2.2.2.2.2.2.2.2.1 _ _ _ _ _ _ hd h0 (k0 P hP)
theorem wp_lload_n {pc : Nat} {L : aL} {st : List aV} {σ : aS} {k : Fin 4} {x : BitVec 64} (hd : decode cc pc = .ok (.lload_n k, 1)) (h0 : L[k.val]? = some (some (vl x))) (k0 : Wp own cc NC C Q rk sc xl xs (pc + 1) L (vl x :: st) σ) : Wp own cc NC C Q rk sc xl xs pc L (st) σ := fun P hP => hP.2.2.2.2.2.2.2.2.2.2.2.1 _ _ _ _ _ _ hd h0 (k0 P hP)
theorem wp_lload {pc : Nat} {L : aL} {st : List aV} {σ : aS} {k : Nat} {x : BitVec 64} (hd : decode cc pc = .ok (.lload k, 2)) (h0 : L[k]? = some (some (vl x))) (k0 : Wp own cc NC C Q rk sc xl xs (pc + 2) L (vl x :: st) σ) : Wp own cc NC C Q rk sc xl xs pc L (st) σ := fun P hP => hP.2.2.2.2.2.2.2.2.2.2.2.2.1 _ _ _ _ _ _ hd h0 (k0 P hP)
theorem wp_lstore_n {pc : Nat} {L : aL} {st : List aV} {σ : aS} {k : Fin 4} {x : BitVec 64} (hd : decode cc pc = .ok (.lstore_n k, 1)) (h0 : k.val + 1 < L.length) (k0 : Wp own cc NC C Q rk sc xl xs (pc + 1) (st2 L k.val (vl x)) st σ) : Wp own cc NC C Q rk sc xl xs pc L (vl x :: st) σ := fun P hP => hP.2.2.2.2.2.2.2.2.2.2.2.2.2.1 _ _ _ _ _ _ hd h0 (k0 P hP)
theorem wp_lstore {pc : Nat} {L : aL} {st : List aV} {σ : aS} {k : Nat} {x : BitVec 64} (hd : decode cc pc = .ok (.lstore k, 2)) (h0 : k + 1 < L.length) (k0 : Wp own cc NC C Q rk sc xl xs (pc + 2) (st2 L k (vl x)) st σ) : Wp own cc NC C Q rk sc xl xs pc L (vl x :: st) σ := fun P hP => hP.2.2.2.2.2.2.2.2.2.2.2.2.2.2.1 _ _ _ _ _ _ hd h0 (k0 P hP)
theorem wp_aload_n {pc : Nat} {L : aL} {st : List aV} {σ : aS} {k : Fin 4} {x : Nat} (hd : decode cc pc = .ok (.aload_n k, 1)) (h0 : L[k.val]? = some (some (vr x))) (k0 : Wp own cc NC C Q rk sc xl xs (pc + 1) L (vr x :: st) σ) : Wp own cc NC C Q rk sc xl xs pc L (st) σ := fun P hP => hP.2.2.2.2.2.2.2.2.2.2.2.2.2.2.2.1 _ _ _ _ _ _ hd h0 (k0 P hP)
theorem wp_aload {pc : Nat} {L : aL} {st : List aV} {σ : aS} {k : Nat} {x : Nat} (hd : decode cc pc = .ok (.aload k, 2)) (h0 : L[k]? = some (some (vr x))) (k0 : Wp own cc NC C Q rk sc xl xs (pc + 2) L (vr x :: st) σ) : Wp own cc NC C Q rk sc xl xs pc L (st) σ := fun P hP => hP.2.2.2.2.2.2.2.2.2.2.2.2.2.2.2.2.1 _ _ _ _ _ _ hd h0 (k0 P hP)
theorem wp_astore_n {pc : Nat} {L : aL} {st : List aV} {σ : aS} {k : Fin 4} {x : Nat} (hd : decode cc pc = .ok (.astore_n k, 1)) (h0 : k.val < L.length) (k0 : Wp own cc NC C Q rk sc xl xs (pc + 1) (st1 L k.val (vr x)) st σ) : Wp own cc NC C Q rk sc xl xs pc L (vr x :: st) σ := fun P hP => hP.2.2.2.2.2.2.2.2.2.2.2.2.2.2.2.2.2.1 _ _ _ _ _ _ hd h0 (k0 P hP)
theorem wp_astore {pc : Nat} {L : aL} {st : List aV} {σ : aS} {k : Nat} {x : Nat} (hd : decode cc pc = .ok (.astore k, 2)) (h0 : k < L.length) (k0 : Wp own cc NC C Q rk sc xl xs (pc + 2) (st1 L k (vr x)) st σ) : Wp own cc NC C Q rk sc xl xs pc L (vr x :: st) σ := fun P hP => hP.2.2.2.2.2.2.2.2.2.2.2.2.2.2.2.2.2.2.1 _ _ _ _ _ _ hd h0 (k0 P hP)
theorem wp_iinc {pc : Nat} {L : aL} {st : List aV} {σ : aS} {k : Nat} {x n : Int} (hd : decode cc pc = .ok (.iinc k n, 3)) (h0 : L[k]? = some (some (vi x))) (k0 : Wp own cc NC C Q rk sc xl xs (pc + 3) (st1 L k (vi (w32 (x + n)))) st σ) : Wp own cc NC C Q rk sc xl xs pc L (st) σ := fun P hP => hP.2.2.2.2.2.2.2.2.2.2.2.2.2.2.2.2.2.2.2.1 _ _ _ _ _ _ _ hd h0 (k0 P hP)
theorem wp_iadd {pc : Nat} {L : aL} {st : List aV} {σ : aS} {x y : Int} (hd : decode cc pc = .ok (.iadd, 1)) (k0 : Wp own cc NC C Q rk sc xl xs (pc + 1) L (vi (w32 (x + y)) :: st) σ) : Wp own cc NC C Q rk sc xl xs pc L (vi y :: vi x :: st) σ := fun P hP => hP.2.2.2.2.2.2.2.2.2.2.2.2.2.2.2.2.2.2.2.2.1 _ _ _ _ _ _ hd (k0 P hP)
theorem wp_isub {pc : Nat} {L : aL} {st : List aV} {σ : aS} {x y : Int} (hd : decode cc pc = .ok (.isub, 1)) (k0 : Wp own cc NC C Q rk sc xl xs (pc + 1) L (vi (w32 (x - y)) :: st) σ) : Wp own cc NC C Q rk sc xl xs pc L (vi y :: vi x :: st) σ := fun P hP => hP.2.2.2.2.2.2.2.2.2.2.2.2.2.2.2.2.2.2.2.2.2.1 _ _ _ _ _ _ hd (k0 P hP)
theorem wp_imul {pc : Nat} {L : aL} {st : List aV} {σ : aS} {x y : Int} (hd : decode cc pc = .ok (.imul, 1)) (k0 : Wp own cc NC C Q rk sc xl xs (pc + 1) L (vi (w32 (x * y)) :: st) σ) : Wp own cc NC C Q rk sc xl xs pc L (vi y :: vi x :: st) σ := fun P hP => hP.2.2.2.2.2.2.2.2.2.2.2.2.2.2.2.2.2.2.2.2.2.2.1 _ _ _ _ _ _ hd (k0 P hP)
theorem wp_iand {pc : Nat} {L : aL} {st : List aV} {σ : aS} {x y : Int} (hd : decode cc pc = .ok (.iand, 1)) (k0 : Wp own cc NC C Q rk sc xl xs (pc + 1) L (vi (bi32 (· &&& ·) x y) :: st) σ) : Wp own cc NC C Q rk sc xl xs pc L (vi y :: vi x :: st) σ := fun P hP => hP.2.2.2.2.2.2.2.2.2.2.2.2.2.2.2.2.2.2.2.2.2.2.2.1 _ _ _ _ _ _ hd (k0 P hP)
theorem wp_ior {pc : Nat} {L : aL} {st : List aV} {σ : aS} {x y : Int} (hd : decode cc pc = .ok (.ior, 1)) (k0 : Wp own cc NC C Q rk sc xl xs (pc + 1) L (vi (bi32 (· ||| ·) x y) :: st) σ) : Wp own cc NC C Q rk sc xl xs pc L (vi y :: vi x :: st) σ := fun P hP => hP.2.2.2.2.2.2.2.2.2.2.2.2.2.2.2.2.2.2.2.2.2.2.2.2.1 _ _ _ _ _ _ hd (k0 P hP)
theorem wp_ixor {pc : Nat} {L : aL} {st : List aV} {σ : aS} {x y : Int} (hd : decode cc pc = .ok (.ixor, 1)) (k0 : Wp own cc NC C Q rk sc xl xs (pc + 1) L (vi (bi32 (· ^^^ ·) x y) :: st) σ) : Wp own cc NC C Q rk sc xl xs pc L (vi y :: vi x :: st) σ := fun P hP => hP.2.2.2.2.2.2.2.2.2.2.2.2.2.2.2.2.2.2.2.2.2.2.2.2.2.1 _ _ _ _ _ _ hd (k0 P hP)
theorem wp_ineg {pc : Nat} {L : aL} {st : List aV} {σ : aS} {x : Int} (hd : decode cc pc = .ok (.ineg, 1)) (k0 : Wp own cc NC C Q rk sc xl xs (pc + 1) L (vi (w32 (-x)) :: st) σ) : Wp own cc NC C Q rk sc xl xs pc L (vi x :: st) σ := fun P hP => hP.2.2.2.2.2.2.2.2.2.2.2.2.2.2.2.2.2.2.2.2.2.2.2.2.2.2.1 _ _ _ _ _ hd (k0 P hP)
theorem wp_idiv {pc : Nat} {L : aL} {st : List aV} {σ : aS} {x y : Int} (hd : decode cc pc = .ok (.idiv, 1)) (h0 : 0 ≤ x) (h1 : 0 < y) (k0 : Wp own cc NC C Q rk sc xl xs (pc + 1) L (vi (x / y) :: st) σ) : Wp own cc NC C Q rk sc xl xs pc L (vi y :: vi x :: st) σ := fun P hP => hP.2.2.2.2.2.2.2.2.2.2.2.2.2.2.2.2.2.2.2.2.2.2.2.2.2.2.2.1 _ _ _ _ _ _ hd h0 h1 (k0 P hP)
theorem wp_irem {pc : Nat} {L : aL} {st : List aV} {σ : aS} {x y : Int} (hd : decode cc pc = .ok (.irem, 1)) (h0 : 0 ≤ x) (h1 : 0 < y) (k0 : Wp own cc NC C Q rk sc xl xs (pc + 1) L (vi (x % y) :: st) σ) : Wp own cc NC C Q rk sc xl xs pc L (vi y :: vi x :: st) σ := fun P hP => hP.2.2.2.2.2.2.2.2.2.2.2.2.2.2.2.2.2.2.2.2.2.2.2.2.2.2.2.2.1 _ _ _ _ _ _ hd h0 h1 (k0 P hP)
theorem wp_ishl {pc : Nat} {L : aL} {st : List aV} {σ : aS} {x y : Int} (hd : decode cc pc = .ok (.ishl, 1)) (h0 : 0 ≤ y) (h1 : y < 32) (k0 : Wp own cc NC C Q rk sc xl xs (pc + 1) L (vi (w32 (x * 2 ^ y.toNat)) :: st) σ) : Wp own cc NC C Q rk sc xl xs pc L (vi y :: vi x :: st) σ := fun P hP => hP.2.2.2.2.2.2.2.2.2.2.2.2.2.2.2.2.2.2.2.2.2.2.2.2.2.2.2.2.2.1 _ _ _ _ _ _ hd h0 h1 (k0 P hP)
theorem wp_ishr {pc : Nat} {L : aL} {st : List aV} {σ : aS} {x y : Int} (hd : decode cc pc = .ok (.ishr, 1)) (h0 : 0 ≤ y) (h1 : y < 32) (k0 : Wp own cc NC C Q rk sc xl xs (pc + 1) L (vi (x / 2 ^ y.toNat) :: st) σ) : Wp own cc NC C Q rk sc xl xs pc L (vi y :: vi x :: st) σ := fun P hP => hP.2.2.2.2.2.2.2.2.2.2.2.2.2.2.2.2.2.2.2.2.2.2.2.2.2.2.2.2.2.2.1 _ _ _ _ _ _ hd h0 h1 (k0 P hP)
theorem wp_iushr {pc : Nat} {L : aL} {st : List aV} {σ : aS} {x y : Int} (hd : decode cc pc = .ok (.iushr, 1)) (h0 : 0 ≤ y) (h1 : y < 32) (k0 : Wp own cc NC C Q rk sc xl xs (pc + 1) L (vi (w32 (x % 4294967296 / 2 ^ y.toNat)) :: st) σ) : Wp own cc NC C Q rk sc xl xs pc L (vi y :: vi x :: st) σ := fun P hP => hP.2.2.2.2.2.2.2.2.2.2.2.2.2.2.2.2.2.2.2.2.2.2.2.2.2.2.2.2.2.2.2.1 _ _ _ _ _ _ hd h0 h1 (k0 P hP)
theorem wp_ladd {pc : Nat} {L : aL} {st : List aV} {σ : aS} {x y : BitVec 64} (hd : decode cc pc = .ok (.ladd, 1)) (k0 : Wp own cc NC C Q rk sc xl xs (pc + 1) L (vl (x + y) :: st) σ) : Wp own cc NC C Q rk sc xl xs pc L (vl y :: vl x :: st) σ := fun P hP => hP.2.2.2.2.2.2.2.2.2.2.2.2.2.2.2.2.2.2.2.2.2.2.2.2.2.2.2.2.2.2.2.2.1 _ _ _ _ _ _ hd (k0 P hP)
theorem wp_lsub {pc : Nat} {L : aL} {st : List aV} {σ : aS} {x y : BitVec 64} (hd : decode cc pc = .ok (.lsub, 1)) (k0 : Wp own cc NC C Q rk sc xl xs (pc + 1) L (vl (x - y) :: st) σ) : Wp own cc NC C Q rk sc xl xs pc L (vl y :: vl x :: st) σ := fun P hP => hP.2.2.2.2.2.2.2.2.2.2.2.2.2.2.2.2.2.2.2.2.2.2.2.2.2.2.2.2.2.2.2.2.2.1 _ _ _ _ _ _ hd (k0 P hP)
theorem wp_lmul {pc : Nat} {L : aL} {st : List aV} {σ : aS} {x y : BitVec 64} (hd : decode cc pc = .ok (.lmul, 1)) (k0 : Wp own cc NC C Q rk sc xl xs (pc + 1) L (vl (x * y) :: st) σ) : Wp own cc NC C Q rk sc xl xs pc L (vl y :: vl x :: st) σ := fun P hP => hP.2.2.2.2.2.2.2.2.2.2.2.2.2.2.2.2.2.2.2.2.2.2.2.2.2.2.2.2.2.2.2.2.2.2.1 _ _ _ _ _ _ hd (k0 P hP)
theorem wp_land {pc : Nat} {L : aL} {st : List aV} {σ : aS} {x y : BitVec 64} (hd : decode cc pc = .ok (.land, 1)) (k0 : Wp own cc NC C Q rk sc xl xs (pc + 1) L (vl (x &&& y) :: st) σ) : Wp own cc NC C Q rk sc xl xs pc L (vl y :: vl x :: st) σ := fun P hP => hP.2.2.2.2.2.2.2.2.2.2.2.2.2.2.2.2.2.2.2.2.2.2.2.2.2.2.2.2.2.2.2.2.2.2.2.1 _ _ _ _ _ _ hd (k0 P hP)
theorem wp_lor {pc : Nat} {L : aL} {st : List aV} {σ : aS} {x y : BitVec 64} (hd : decode cc pc = .ok (.lor, 1)) (k0 : Wp own cc NC C Q rk sc xl xs (pc + 1) L (vl (x ||| y) :: st) σ) : Wp own cc NC C Q rk sc xl xs pc L (vl y :: vl x :: st) σ := fun P hP => hP.2.2.2.2.2.2.2.2.2.2.2.2.2.2.2.2.2.2.2.2.2.2.2.2.2.2.2.2.2.2.2.2.2.2.2.2.1 _ _ _ _ _ _ hd (k0 P hP)
theorem wp_lxor {pc : Nat} {L : aL} {st : List aV} {σ : aS} {x y : BitVec 64} (hd : decode cc pc = .ok (.lxor, 1)) (k0 : Wp own cc NC C Q rk sc xl xs (pc + 1) L (vl (x ^^^ y) :: st) σ) : Wp own cc NC C Q rk sc xl xs pc L (vl y :: vl x :: st) σ := fun P hP => hP.2.2.2.2.2.2.2.2.2.2.2.2.2.2.2.2.2.2.2.2.2.2.2.2.2.2.2.2.2.2.2.2.2.2.2.2.2.1 _ _ _ _ _ _ hd (k0 P hP)
theorem wp_ldiv {pc : Nat} {L : aL} {st : List aV} {σ : aS} {x y : BitVec 64} (hd : decode cc pc = .ok (.ldiv, 1)) (h0 : x.toNat < 2 ^ 63) (h1 : y.toNat < 2 ^ 63) (h2 : 0 < y.toNat) (k0 : Wp own cc NC C Q rk sc xl xs (pc + 1) L (vl (x / y) :: st) σ) : Wp own cc NC C Q rk sc xl xs pc L (vl y :: vl x :: st) σ := fun P hP => hP.2.2.2.2.2.2.2.2.2.2.2.2.2.2.2.2.2.2.2.2.2.2.2.2.2.2.2.2.2.2.2.2.2.2.2.2.2.2.1 _ _ _ _ _ _ hd h0 h1 h2 (k0 P hP)
theorem wp_lrem {pc : Nat} {L : aL} {st : List aV} {σ : aS} {x y : BitVec 64} (hd : decode cc pc = .ok (.lrem, 1)) (h0 : x.toNat < 2 ^ 63) (h1 : y.toNat < 2 ^ 63) (h2 : 0 < y.toNat) (k0 : Wp own cc NC C Q rk sc xl xs (pc + 1) L (vl (x % y) :: st) σ) : Wp own cc NC C Q rk sc xl xs pc L (vl y :: vl x :: st) σ := fun P hP => hP.2.2.2.2.2.2.2.2.2.2.2.2.2.2.2.2.2.2.2.2.2.2.2.2.2.2.2.2.2.2.2.2.2.2.2.2.2.2.2.1 _ _ _ _ _ _ hd h0 h1 h2 (k0 P hP)
theorem wp_lshl {pc : Nat} {L : aL} {st : List aV} {σ : aS} {x : BitVec 64} {y : Int} (hd : decode cc pc = .ok (.lshl, 1)) (h0 : 0 ≤ y) (h1 : y < 64) (k0 : Wp own cc NC C Q rk sc xl xs (pc + 1) L (vl (x <<< y.toNat) :: st) σ) : Wp own cc NC C Q rk sc xl xs pc L (vi y :: vl x :: st) σ := fun P hP => hP.2.2.2.2.2.2.2.2.2.2.2.2.2.2.2.2.2.2.2.2.2.2.2.2.2.2.2.2.2.2.2.2.2.2.2.2.2.2.2.2.1 _ _ _ _ _ _ hd h0 h1 (k0 P hP)
theorem wp_lushr {pc : Nat} {L : aL} {st : List aV} {σ : aS} {x : BitVec 64} {y : Int} (hd : decode cc pc = .ok (.lushr, 1)) (h0 : 0 ≤ y) (h1 : y < 64) (k0 : Wp own cc NC C Q rk sc xl xs (pc + 1) L (vl (x >>> y.toNat) :: st) σ) : Wp own cc NC C Q rk sc xl xs pc L (vi y :: vl x :: st) σ := fun P hP => hP.2.2.2.2.2.2.2.2.2.2.2.2.2.2.2.2.2.2.2.2.2.2.2.2.2.2.2.2.2.2.2.2.2.2.2.2.2.2.2.2.2.1 _ _ _ _ _ _ hd h0 h1 (k0 P hP)
theorem wp_lshr {pc : Nat} {L : aL} {st : List aV} {σ : aS} {x : BitVec 64} {y : Int} (hd : decode cc pc = .ok (.lshr, 1)) (h0 : 0 ≤ y) (h1 : y < 64) (k0 : Wp own cc NC C Q rk sc xl xs (pc + 1) L (vl (x.sshiftRight y.toNat) :: st) σ) : Wp own cc NC C Q rk sc xl xs pc L (vi y :: vl x :: st) σ := fun P hP => hP.2.2.2.2.2.2.2.2.2.2.2.2.2.2.2.2.2.2.2.2.2.2.2.2.2.2.2.2.2.2.2.2.2.2.2.2.2.2.2.2.2.2.1 _ _ _ _ _ _ hd h0 h1 (k0 P hP)
theorem wp_lcmp {pc : Nat} {L : aL} {st : List aV} {σ : aS} {x y : BitVec 64} (hd : decode cc pc = .ok (.lcmp, 1)) (k0 : Wp own cc NC C Q rk sc xl xs (pc + 1) L (vi (lcm x y) :: st) σ) : Wp own cc NC C Q rk sc xl xs pc L (vl y :: vl x :: st) σ := fun P hP => hP.2.2.2.2.2.2.2.2.2.2.2.2.2.2.2.2.2.2.2.2.2.2.2.2.2.2.2.2.2.2.2.2.2.2.2.2.2.2.2.2.2.2.2.1 _ _ _ _ _ _ hd (k0 P hP)
theorem wp_i2l {pc : Nat} {L : aL} {st : List aV} {σ : aS} {x : Int} (hd : decode cc pc = .ok (.i2l, 1)) (k0 : Wp own cc NC C Q rk sc xl xs (pc + 1) L (vl (BitVec.ofInt 64 x) :: st) σ) : Wp own cc NC C Q rk sc xl xs pc L (vi x :: st) σ := fun P hP => hP.2.2.2.2.2.2.2.2.2.2.2.2.2.2.2.2.2.2.2.2.2.2.2.2.2.2.2.2.2.2.2.2.2.2.2.2.2.2.2.2.2.2.2.2.1 _ _ _ _ _ hd (k0 P hP)
theorem wp_l2i {pc : Nat} {L : aL} {st : List aV} {σ : aS} {x : BitVec 64} (hd : decode cc pc = .ok (.l2i, 1)) (k0 : Wp own cc NC C Q rk sc xl xs (pc + 1) L (vi (x.setWidth 32).toInt :: st) σ) : Wp own cc NC C Q rk sc xl xs pc L (vl x :: st) σ := fun P hP => hP.2.2.2.2.2.2.2.2.2.2.2.2.2.2.2.2.2.2.2.2.2.2.2.2.2.2.2.2.2.2.2.2.2.2.2.2.2.2.2.2.2.2.2.2.2.1 _ _ _ _ _ hd (k0 P hP)
theorem wp_i2b {pc : Nat} {L : aL} {st : List aV} {σ : aS} {x : Int} (hd : decode cc pc = .ok (.i2b, 1)) (k0 : Wp own cc NC C Q rk sc xl xs (pc + 1) L (vi ((x + 128) % 256 - 128) :: st) σ) : Wp own cc NC C Q rk sc xl xs pc L (vi x :: st) σ := fun P hP => hP.2.2.2.2.2.2.2.2.2.2.2.2.2.2.2.2.2.2.2.2.2.2.2.2.2.2.2.2.2.2.2.2.2.2.2.2.2.2.2.2.2.2.2.2.2.2.1 _ _ _ _ _ hd (k0 P hP)
theorem wp_i2s {pc : Nat} {L : aL} {st : List aV} {σ : aS} {x : Int} (hd : decode cc pc = .ok (.i2s, 1)) (k0 : Wp own cc NC C Q rk sc xl xs (pc + 1) L (vi ((x + 32768) % 65536 - 32768) :: st) σ) : Wp own cc NC C Q rk sc xl xs pc L (vi x :: st) σ := fun P hP => hP.2.2.2.2.2.2.2.2.2.2.2.2.2.2.2.2.2.2.2.2.2.2.2.2.2.2.2.2.2.2.2.2.2.2.2.2.2.2.2.2.2.2.2.2.2.2.2.1 _ _ _ _ _ hd (k0 P hP)
theorem wp_dup {pc : Nat} {L : aL} {st : List aV} {σ : aS} {v : aV} (hd : decode cc pc = .ok (.dup, 1)) (h0 : isL v = false) (k0 : Wp own cc NC C Q rk sc xl xs (pc + 1) L (v :: v :: st) σ) : Wp own cc NC C Q rk sc xl xs pc L (v :: st) σ := fun P hP => hP.2.2.2.2.2.2.2.2.2.2.2.2.2.2.2.2.2.2.2.2.2.2.2.2.2.2.2.2.2.2.2.2.2.2.2.2.2.2.2.2.2.2.2.2.2.2.2.2.1 _ _ _ _ _ hd h0 (k0 P hP)
theorem wp_if {pc : Nat} {L : aL} {st : List aV} {σ : aS} {o : Jvm.ClassFile.Cond} {off : Int} {tgt : Nat} {x : Int} (hd : decode cc pc = .ok (.ifCond o off, 3)) (h0 : (pc : Int) + off = (tgt : Int)) (k0 : icmp o x 0 → Wp own cc NC C Q rk sc xl xs tgt L st σ) (k1 : ¬ icmp o x 0 → Wp own cc NC C Q rk sc xl xs (pc + 3) L st σ) : Wp own cc NC C Q rk sc xl xs pc L (vi x :: st) σ := fun P hP => hP.2.2.2.2.2.2.2.2.2.2.2.2.2.2.2.2.2.2.2.2.2.2.2.2.2.2.2.2.2.2.2.2.2.2.2.2.2.2.2.2.2.2.2.2.2.2.2.2.2.1 _ _ _ _ _ _ _ _ hd h0 (fun q => k0 q P hP) (fun q => k1 q P hP)
theorem wp_icmp {pc : Nat} {L : aL} {st : List aV} {σ : aS} {o : Jvm.ClassFile.Cond} {off : Int} {tgt : Nat} {x y : Int} (hd : decode cc pc = .ok (.if_icmp o off, 3)) (h0 : (pc : Int) + off = (tgt : Int)) (k0 : icmp o x y → Wp own cc NC C Q rk sc xl xs tgt L st σ) (k1 : ¬ icmp o x y → Wp own cc NC C Q rk sc xl xs (pc + 3) L st σ) : Wp own cc NC C Q rk sc xl xs pc L (vi y :: vi x :: st) σ := fun P hP => hP.2.2.2.2.2.2.2.2.2.2.2.2.2.2.2.2.2.2.2.2.2.2.2.2.2.2.2.2.2.2.2.2.2.2.2.2.2.2.2.2.2.2.2.2.2.2.2.2.2.2.1 _ _ _ _ _ _ _ _ _ hd h0 (fun q => k0 q P hP) (fun q => k1 q P hP)
theorem wp_goto {pc : Nat} {L : aL} {st : List aV} {σ : aS} {off : Int} {tgt : Nat} (hd : decode cc pc = .ok (.goto off, 3)) (h0 : (pc : Int) + off = (tgt : Int)) (k0 : Wp own cc NC C Q rk sc xl xs tgt L st σ) : Wp own cc NC C Q rk sc xl xs pc L (st) σ := fun P hP => hP.2.2.2.2.2.2.2.2.2.2.2.2.2.2.2.2.2.2.2.2.2.2.2.2.2.2.2.2.2.2.2.2.2.2.2.2.2.2.2.2.2.2.2.2.2.2.2.2.2.2.2.1 _ _ _ _ _ _ hd h0 (k0 P hP)
theorem wp_tabIn {pc : Nat} {L : aL} {st : List aV} {σ : aS} {dflt lo hi off : Int} {offs : Array Int} {len tgt : Nat} {x : Int} (hd : decode cc pc = .ok (.tableswitch dflt lo hi offs, len)) (h0 : lo ≤ x) (h1 : x ≤ hi) (h2 : offs[(x - lo).toNat]? = some off) (h3 : (pc : Int) + off = (tgt : Int)) (k0 : Wp own cc NC C Q rk sc xl xs tgt L st σ) : Wp own cc NC C Q rk sc xl xs pc L (vi x :: st) σ := fun P hP => hP.2.2.2.2.2.2.2.2.2.2.2.2.2.2.2.2.2.2.2.2.2.2.2.2.2.2.2.2.2.2.2.2.2.2.2.2.2.2.2.2.2.2.2.2.2.2.2.2.2.2.2.2.1 _ _ _ _ _ _ _ _ _ _ _ _ hd h0 h1 h2 h3 (k0 P hP)
theorem wp_tabOut {pc : Nat} {L : aL} {st : List aV} {σ : aS} {dflt lo hi : Int} {offs : Array Int} {len tgt : Nat} {x : Int} (hd : decode cc pc = .ok (.tableswitch dflt lo hi offs, len)) (h0 : x < lo ∨ hi < x) (h1 : (pc : Int) + dflt = (tgt : Int)) (k0 : Wp own cc NC C Q rk sc xl xs tgt L st σ) : Wp own cc NC C Q rk sc xl xs pc L (vi x :: st) σ := fun P hP => hP.2.2.2.2.2.2.2.2.2.2.2.2.2.2.2.2.2.2.2.2.2.2.2.2.2.2.2.2.2.2.2.2.2.2.2.2.2.2.2.2.2.2.2.2.2.2.2.2.2.2.2.2.2.1 _ _ _ _ _ _ _ _ _ _ _ hd h0 h1 (k0 P hP)
theorem wp_lookup {pc : Nat} {L : aL} {st : List aV} {σ : aS} {dflt off : Int} {ps : Array (Int × Int)} {len tgt : Nat} {x : Int} (hd : decode cc pc = .ok (.lookupswitch dflt ps, len)) (h0 : (ps.toList.zip (ps.toList.drop 1)).all (fun (a, next) => a.1 < next.1) = true) (h1 : Op.lookupswitch.offset ps.toList dflt x = off) (h2 : (pc : Int) + off = (tgt : Int)) (k0 : Wp own cc NC C Q rk sc xl xs tgt L st σ) : Wp own cc NC C Q rk sc xl xs pc L (vi x :: st) σ := fun P hP => hP.2.2.2.2.2.2.2.2.2.2.2.2.2.2.2.2.2.2.2.2.2.2.2.2.2.2.2.2.2.2.2.2.2.2.2.2.2.2.2.2.2.2.2.2.2.2.2.2.2.2.2.2.2.2.1 _ _ _ _ _ _ _ _ _ _ hd h0 h1 h2 (k0 P hP)
theorem wp_getI {pc : Nat} {L : aL} {st : List aV} {σ : aS} {i ci k c : Nat} {fk : List Nat} (hd : decode cc pc = .ok (.getfield i, 3)) (h0 : fLink own i ci k) (h1 : c < NC) (h2 : cd c = .inl (ci, fk)) (h3 : fk[k]? = some 0 ∨ fk[k]? = some 2) (k0 : Wp own cc NC C Q rk sc xl xs (pc + 3) L (vi (σ.1 c k) :: st) σ) : Wp own cc NC C Q rk sc xl xs pc L (vr c :: st) σ := fun P hP => hP.2.2.2.2.2.2.2.2.2.2.2.2.2.2.2.2.2.2.2.2.2.2.2.2.2.2.2.2.2.2.2.2.2.2.2.2.2.2.2.2.2.2.2.2.2.2.2.2.2.2.2.2.2.2.2.1 _ _ _ _ _ _ _ _ _ hd h0 h1 h2 h3 (k0 P hP)
theorem wp_getJ {pc : Nat} {L : aL} {st : List aV} {σ : aS} {i ci k c : Nat} {fk : List Nat} (hd : decode cc pc = .ok (.getfield i, 3)) (h0 : fLink own i ci k) (h1 : c < NC) (h2 : cd c = .inl (ci, fk)) (h3 : fk[k]? = some 1) (k0 : Wp own cc NC C Q rk sc xl xs (pc + 3) L (vl (σ.2 c k) :: st) σ) : Wp own cc NC C Q rk sc xl xs pc L (vr c :: st) σ := fun P hP => hP.2.2.2.2.2.2.2.2.2.2.2.2.2.2.2.2.2.2.2.2.2.2.2.2.2.2.2.2.2.2.2.2.2.2.2.2.2.2.2.2.2.2.2.2.2.2.2.2.2.2.2.2.2.2.2.2.1 _ _ _ _ _ _ _ _ _ hd h0 h1 h2 h3 (k0 P hP)
theorem wp_getR {pc : Nat} {L : aL} {st : List aV} {σ : aS} {i ci k c r : Nat} {fk : List Nat} (hd : decode cc pc = .ok (.getfield i, 3)) (h0 : fLink own i ci k) (h1 : c < NC) (h2 : cd c = .inl (ci, fk)) (h3 : fk[k]? = some (r + 3)) (k0 : Wp own cc NC C Q rk sc xl xs (pc + 3) L (vr r :: st) σ) : Wp own cc NC C Q rk sc xl xs pc L (vr c :: st) σ := fun P hP => hP.2.2.2.2.2.2.2.2.2.2.2.2.2.2.2.2.2.2.2.2.2.2.2.2.2.2.2.2.2.2.2.2.2.2.2.2.2.2.2.2.2.2.2.2.2.2.2.2.2.2.2.2.2.2.2.2.2.1 _ _ _ _ _ _ _ _ _ _ hd h0 h1 h2 h3 (k0 P hP)
theorem wp_putI {pc : Nat} {L : aL} {st : List aV} {σ : aS} {i ci k c : Nat} {fk : List Nat} {x : Int} (hd : decode cc pc = .ok (.putfield i, 3)) (h0 : fLink own i ci k) (h1 : c < NC) (h2 : cd c = .inl (ci, fk)) (h3 : fk[k]? = some 0) (h4 : (clsT ci k).2.2.2 = false) (h5 : clsY ci k = .int) (k0 : Wp own cc NC C Q rk sc xl xs (pc + 3) L st (sI σ c k x)) : Wp own cc NC C Q rk sc xl xs pc L (vi x :: vr c :: st) σ := fun P hP => hP.2.2.2.2.2.2.2.2.2.2.2.2.2.2.2.2.2.2.2.2.2.2.2.2.2.2.2.2.2.2.2.2.2.2.2.2.2.2.2.2.2.2.2.2.2.2.2.2.2.2.2.2.2.2.2.2.2.2.1 _ _ _ _ _ _ _ _ _ _ hd h0 h1 h2 h3 h4 h5 (k0 P hP)
theorem wp_putZ {pc : Nat} {L : aL} {st : List aV} {σ : aS} {i ci k c : Nat} {fk : List Nat} {x : Int} (hd : decode cc pc = .ok (.putfield i, 3)) (h0 : fLink own i ci k) (h1 : c < NC) (h2 : cd c = .inl (ci, fk)) (h3 : fk[k]? = some 2) (h4 : (clsT ci k).2.2.2 = false) (h5 : clsY ci k = .boolean) (h6 : x = 0 ∨ x = 1) (k0 : Wp own cc NC C Q rk sc xl xs (pc + 3) L st (sI σ c k x)) : Wp own cc NC C Q rk sc xl xs pc L (vi x :: vr c :: st) σ := fun P hP => hP.2.2.2.2.2.2.2.2.2.2.2.2.2.2.2.2.2.2.2.2.2.2.2.2.2.2.2.2.2.2.2.2.2.2.2.2.2.2.2.2.2.2.2.2.2.2.2.2.2.2.2.2.2.2.2.2.2.2.2.1 _ _ _ _ _ _ _ _ _ _ hd h0 h1 h2 h3 h4 h5 h6 (k0 P hP)
theorem wp_putJ {pc : Nat} {L : aL} {st : List aV} {σ : aS} {i ci k c : Nat} {fk : List Nat} {x : BitVec 64} (hd : decode cc pc = .ok (.putfield i, 3)) (h0 : fLink own i ci k) (h1 : c < NC) (h2 : cd c = .inl (ci, fk)) (h3 : fk[k]? = some 1) (h4 : (clsT ci k).2.2.2 = false) (h5 : clsY ci k = .long) (k0 : Wp own cc NC C Q rk sc xl xs (pc + 3) L st (sJ σ c k x)) : Wp own cc NC C Q rk sc xl xs pc L (vl x :: vr c :: st) σ := fun P hP => hP.2.2.2.2.2.2.2.2.2.2.2.2.2.2.2.2.2.2.2.2.2.2.2.2.2.2.2.2.2.2.2.2.2.2.2.2.2.2.2.2.2.2.2.2.2.2.2.2.2.2.2.2.2.2.2.2.2.2.2.2.1 _ _ _ _ _ _ _ _ _ _ hd h0 h1 h2 h3 h4 h5 (k0 P hP)
theorem wp_iaload {pc : Nat} {L : aL} {st : List aV} {σ : aS} {c n : Nat} {j : Int} (hd : decode cc pc = .ok (.iaload, 1)) (h0 : c < NC) (h1 : cd c = .inr (0, n)) (h2 : 0 ≤ j) (h3 : j < n) (h4 : n < 2 ^ 31) (k0 : Wp own cc NC C Q rk sc xl xs (pc + 1) L (vi (σ.1 c j.toNat) :: st) σ) : Wp own cc NC C Q rk sc xl xs pc L (vi j :: vr c :: st) σ := fun P hP => hP.2.2.2.2.2.2.2.2.2.2.2.2.2.2.2.2.2.2.2.2.2.2.2.2.2.2.2.2.2.2.2.2.2.2.2.2.2.2.2.2.2.2.2.2.2.2.2.2.2.2.2.2.2.2.2.2.2.2.2.2.2.1 _ _ _ _ _ _ _ hd h0 h1 h2 h3 h4 (k0 P hP)
theorem wp_baload {pc : Nat} {L : aL} {st : List aV} {σ : aS} {c n : Nat} {j : Int} (hd : decode cc pc = .ok (.baload, 1)) (h0 : c < NC) (h1 : cd c = .inr (2, n)) (h2 : 0 ≤ j) (h3 : j < n) (h4 : n < 2 ^ 31) (k0 : Wp own cc NC C Q rk sc xl xs (pc + 1) L (vi (σ.1 c j.toNat) :: st) σ) : Wp own cc NC C Q rk sc xl xs pc L (vi j :: vr c :: st) σ := fun P hP => hP.2.2.2.2.2.2.2.2.2.2.2.2.2.2.2.2.2.2.2.2.2.2.2.2.2.2.2.2.2.2.2.2.2.2.2.2.2.2.2.2.2.2.2.2.2.2.2.2.2.2.2.2.2.2.2.2.2.2.2.2.2.2.1 _ _ _ _ _ _ _ hd h0 h1 h2 h3 h4 (k0 P hP)
theorem wp_laload {pc : Nat} {L : aL} {st : List aV} {σ : aS} {c n : Nat} {j : Int} (hd : decode cc pc = .ok (.laload, 1)) (h0 : c < NC) (h1 : cd c = .inr (1, n)) (h2 : 0 ≤ j) (h3 : j < n) (h4 : n < 2 ^ 31) (k0 : Wp own cc NC C Q rk sc xl xs (pc + 1) L (vl (σ.2 c j.toNat) :: st) σ) : Wp own cc NC C Q rk sc xl xs pc L (vi j :: vr c :: st) σ := fun P hP => hP.2.2.2.2.2.2.2.2.2.2.2.2.2.2.2.2.2.2.2.2.2.2.2.2.2.2.2.2.2.2.2.2.2.2.2.2.2.2.2.2.2.2.2.2.2.2.2.2.2.2.2.2.2.2.2.2.2.2.2.2.2.2.2.1 _ _ _ _ _ _ _ hd h0 h1 h2 h3 h4 (k0 P hP)
theorem wp_aaload {pc : Nat} {L : aL} {st : List aV} {σ : aS} {c n : Nat} {j : Int} (hd : decode cc pc = .ok (.aaload, 1)) (h0 : c < NC) (h1 : cd c = .inr (3, n)) (h2 : 0 ≤ j) (h3 : j < n) (h4 : n < 2 ^ 31) (k0 : Wp own cc NC C Q rk sc xl xs (pc + 1) L (vr (5 + j.toNat) :: st) σ) : Wp own cc NC C Q rk sc xl xs pc L (vi j :: vr c :: st) σ := fun P hP => hP.2.2.2.2.2.2.2.2.2.2.2.2.2.2.2.2.2.2.2.2.2.2.2.2.2.2.2.2.2.2.2.2.2.2.2.2.2.2.2.2.2.2.2.2.2.2.2.2.2.2.2.2.2.2.2.2.2.2.2.2.2.2.2.2.1 _ _ _ _ _ _ _ hd h0 h1 h2 h3 h4 (k0 P hP)
theorem wp_iastore {pc : Nat} {L : aL} {st : List aV} {σ : aS} {c n : Nat} {j x : Int} (hd : decode cc pc = .ok (.iastore, 1)) (h0 : c < NC) (h1 : cd c = .inr (0, n)) (h2 : 0 ≤ j) (h3 : j < n) (h4 : n < 2 ^ 31) (k0 : Wp own cc NC C Q rk sc xl xs (pc + 1) L st (sI σ c j.toNat x)) : Wp own cc NC C Q rk sc xl xs pc L (vi x :: vi j :: vr c :: st) σ := fun P hP => hP.2.2.2.2.2.2.2.2.2.2.2.2.2.2.2.2.2.2.2.2.2.2.2.2.2.2.2.2.2.2.2.2.2.2.2.2.2.2.2.2.2.2.2.2.2.2.2.2.2.2.2.2.2.2.2.2.2.2.2.2.2.2.2.2.2.1 _ _ _ _ _ _ _ _ hd h0 h1 h2 h3 h4 (k0 P hP)
theorem wp_bastore {pc : Nat} {L : aL} {st : List aV} {σ : aS} {c n : Nat} {j x : Int} (hd : decode cc pc = .ok (.bastore, 1)) (h0 : c < NC) (h1 : cd c = .inr (2, n)) (h2 : 0 ≤ j) (h3 : j < n) (h4 : n < 2 ^ 31) (h5 : x = 0 ∨ x = 1) (k0 : Wp own cc NC C Q rk sc xl xs (pc + 1) L st (sI σ c j.toNat x)) : Wp own cc NC C Q rk sc xl xs pc L (vi x :: vi j :: vr c :: st) σ := fun P hP => hP.2.2.2.2.2.2.2.2.2.2.2.2.2.2.2.2.2.2.2.2.2.2.2.2.2.2.2.2.2.2.2.2.2.2.2.2.2.2.2.2.2.2.2.2.2.2.2.2.2.2.2.2.2.2.2.2.2.2.2.2.2.2.2.2.2.2.1 _ _ _ _ _ _ _ _ hd h0 h1 h2 h3 h4 h5 (k0 P hP)
theorem wp_lastore {pc : Nat} {L : aL} {st : List aV} {σ : aS} {c n : Nat} {j : Int} {x : BitVec 64} (hd : decode cc pc = .ok (.lastore, 1)) (h0 : c < NC) (h1 : cd c = .inr (1, n)) (h2 : 0 ≤ j) (h3 : j < n) (h4 : n < 2 ^ 31) (k0 : Wp own cc NC C Q rk sc xl xs (pc + 1) L st (sJ σ c j.toNat x)) : Wp own cc NC C Q rk sc xl xs pc L (vl x :: vi j :: vr c :: st) σ := fun P hP => hP.2.2.2.2.2.2.2.2.2.2.2.2.2.2.2.2.2.2.2.2.2.2.2.2.2.2.2.2.2.2.2.2.2.2.2.2.2.2.2.2.2.2.2.2.2.2.2.2.2.2.2.2.2.2.2.2.2.2.2.2.2.2.2.2.2.2.2.1 _ _ _ _ _ _ _ _ hd h0 h1 h2 h3 h4 (k0 P hP)
theorem wp_alen {pc : Nat} {L : aL} {st : List aV} {σ : aS} {c t n : Nat} (hd : decode cc pc = .ok (.arraylength, 1)) (h0 : c < NC) (h1 : cd c = .inr (t, n)) (h2 : t < 3) (h3 : n < 2 ^ 31) (k0 : Wp own cc NC C Q rk sc xl xs (pc + 1) L (vi n :: st) σ) : Wp own cc NC C Q rk sc xl xs pc L (vr c :: st) σ := fun P hP => hP.2.2.2.2.2.2.2.2.2.2.2.2.2.2.2.2.2.2.2.2.2.2.2.2.2.2.2.2.2.2.2.2.2.2.2.2.2.2.2.2.2.2.2.2.2.2.2.2.2.2.2.2.2.2.2.2.2.2.2.2.2.2.2.2.2.2.2.2.1 _ _ _ _ _ _ _ hd h0 h1 h2 h3 (k0 P hP)
theorem wp_ialoadX {pc : Nat} {L : aL} {st : List aV} {σ : aS} {j : Int} (hd : decode cc pc = .ok (.iaload, 1)) (h0 : sc = true) (h1 : 0 ≤ j) (h2 : j < xl) (h3 : xl < 2 ^ 31) (k0 : Wp own cc NC C Q rk sc xl xs (pc + 1) L (vi (xs j.toNat) :: st) σ) : Wp own cc NC C Q rk sc xl xs pc L (vi j :: vr 99 :: st) σ := fun P hP => hP.2.2.2.2.2.2.2.2.2.2.2.2.2.2.2.2.2.2.2.2.2.2.2.2.2.2.2.2.2.2.2.2.2.2.2.2.2.2.2.2.2.2.2.2.2.2.2.2.2.2.2.2.2.2.2.2.2.2.2.2.2.2.2.2.2.2.2.2.2.1 _ _ _ _ _ hd h0 h1 h2 h3 (k0 P hP)
theorem wp_alenX {pc : Nat} {L : aL} {st : List aV} {σ : aS}  (hd : decode cc pc = .ok (.arraylength, 1)) (h0 : sc = true) (h1 : xl < 2 ^ 31) (k0 : Wp own cc NC C Q rk sc xl xs (pc + 1) L (vi xl :: st) σ) : Wp own cc NC C Q rk sc xl xs pc L (vr 99 :: st) σ := fun P hP => hP.2.2.2.2.2.2.2.2.2.2.2.2.2.2.2.2.2.2.2.2.2.2.2.2.2.2.2.2.2.2.2.2.2.2.2.2.2.2.2.2.2.2.2.2.2.2.2.2.2.2.2.2.2.2.2.2.2.2.2.2.2.2.2.2.2.2.2.2.2.2.1 _ _ _ _  hd h0 h1 (k0 P hP)
theorem wp_callV {pc : Nat} {L : aL} {st : List aV} {σ : aS} {i m ci c : Nat} {fk : List Nat} {as : List aV}  (hd : decode cc pc = .ok (.invokevirtual i, 3)) (h0 : vLink own i m ci as.length) (h1 : c < NC) (h2 : cd c = .inl (ci, fk)) (h3 : stw st ≤ 8) (k : C m (vr c :: as) σ (fun r σ' => Wp own cc NC C Q rk sc xl xs (pc + 3) L (r.toList ++ st) σ')) : Wp own cc NC C Q rk sc xl xs pc L (as.reverse ++ vr c :: st) σ := fun P hP => hP.2.2.2.2.2.2.2.2.2.2.2.2.2.2.2.2.2.2.2.2.2.2.2.2.2.2.2.2.2.2.2.2.2.2.2.2.2.2.2.2.2.2.2.2.2.2.2.2.2.2.2.2.2.2.2.2.2.2.2.2.2.2.2.2.2.2.2.2.2.2.2.1 _ _ _ _ _ _ _ _ _ _ _ hd h0 h1 h2 h3 k (fun r σ' q => q P hP)
theorem wp_callS {pc : Nat} {L : aL} {st : List aV} {σ : aS} {i m : Nat} {as : List aV}  (hd : decode cc pc = .ok (.invokestatic i, 3)) (h0 : zLink own i m as.length) (h1 : stw st ≤ 8) (k : C m as σ (fun r σ' => Wp own cc NC C Q rk sc xl xs (pc + 3) L (r.toList ++ st) σ')) : Wp own cc NC C Q rk sc xl xs pc L (as.reverse ++ st) σ := fun P hP => hP.2.2.2.2.2.2.2.2.2.2.2.2.2.2.2.2.2.2.2.2.2.2.2.2.2.2.2.2.2.2.2.2.2.2.2.2.2.2.2.2.2.2.2.2.2.2.2.2.2.2.2.2.2.2.2.2.2.2.2.2.2.2.2.2.2.2.2.2.2.2.2.2.1 _ _ _ _ _ _ _ _ hd h0 h1 k (fun r σ' q => q P hP)
theorem wp_acopy {pc : Nat} {L : aL} {st : List aV} {σ : aS} {i c0 n0 c1 n1 : Nat} {sp dp n : Int} (hd : decode cc pc = .ok (.invokestatic i, 3)) (h0 : yLink own i) (h1 : stw st ≤ 8) (h2 : c0 < NC) (h3 : cd c0 = .inr (0, n0)) (h4 : c1 < NC) (h5 : cd c1 = .inr (0, n1)) (h6 : n0 < 2 ^ 31) (h7 : n1 < 2 ^ 31) (h8 : 0 ≤ sp) (h9 : 0 ≤ dp) (h10 : 0 ≤ n) (h11 : sp + n ≤ n0) (h12 : dp + n ≤ n1) (k0 : Wp own cc NC C Q rk sc xl xs (pc + 3) L st (sC σ c0 sp.toNat c1 dp.toNat n.toNat)) : Wp own cc NC C Q rk sc xl xs pc L (vi n :: vi dp :: vr c1 :: vi sp :: vr c0 :: st) σ := fun P hP => hP.2.2.2.2.2.2.2.2.2.2.2.2.2.2.2.2.2.2.2.2.2.2.2.2.2.2.2.2.2.2.2.2.2.2.2.2.2.2.2.2.2.2.2.2.2.2.2.2.2.2.2.2.2.2.2.2.2.2.2.2.2.2.2.2.2.2.2.2.2.2.2.2.2.1 _ _ _ _ _ _ _ _ _ _ _ _ hd h0 h1 h2 h3 h4 h5 h6 h7 h8 h9 h10 h11 h12 (k0 P hP)
theorem wp_mmax {pc : Nat} {L : aL} {st : List aV} {σ : aS} {i : Nat} {x y : Int} (hd : decode cc pc = .ok (.invokestatic i, 3)) (h0 : xLink own i) (h1 : stw st ≤ 8) (k0 : Wp own cc NC C Q rk sc xl xs (pc + 3) L (vi (if x < y then y else x) :: st) σ) : Wp own cc NC C Q rk sc xl xs pc L (vi y :: vi x :: st) σ := fun P hP => hP.2.2.2.2.2.2.2.2.2.2.2.2.2.2.2.2.2.2.2.2.2.2.2.2.2.2.2.2.2.2.2.2.2.2.2.2.2.2.2.2.2.2.2.2.2.2.2.2.2.2.2.2.2.2.2.2.2.2.2.2.2.2.2.2.2.2.2.2.2.2.2.2.2.2.1 _ _ _ _ _ _ _ hd h0 h1 (k0 P hP)
theorem wp_mmin {pc : Nat} {L : aL} {st : List aV} {σ : aS} {i : Nat} {x y : Int} (hd : decode cc pc = .ok (.invokestatic i, 3)) (h0 : nLink own i) (h1 : stw st ≤ 8) (k0 : Wp own cc NC C Q rk sc xl xs (pc + 3) L (vi (if y < x then y else x) :: st) σ) : Wp own cc NC C Q rk sc xl xs pc L (vi y :: vi x :: st) σ := fun P hP => hP.2.2.2.2.2.2.2.2.2.2.2.2.2.2.2.2.2.2.2.2.2.2.2.2.2.2.2.2.2.2.2.2.2.2.2.2.2.2.2.2.2.2.2.2.2.2.2.2.2.2.2.2.2.2.2.2.2.2.2.2.2.2.2.2.2.2.2.2.2.2.2.2.2.2.2.1 _ _ _ _ _ _ _ hd h0 h1 (k0 P hP)
theorem wp_iret {pc : Nat} {L : aL} {σ : aS} {x : Int} (hd : decode cc pc = .ok (.ireturn, 1)) (h0 : rk = 0 ∨ (rk = 1 ∧ (x = 0 ∨ x = 1))) (h1 : Q (some (vi x)) σ) : Wp own cc NC C Q rk sc xl xs pc L ([vi x]) σ := fun P hP => hP.2.2.2.2.2.2.2.2.2.2.2.2.2.2.2.2.2.2.2.2.2.2.2.2.2.2.2.2.2.2.2.2.2.2.2.2.2.2.2.2.2.2.2.2.2.2.2.2.2.2.2.2.2.2.2.2.2.2.2.2.2.2.2.2.2.2.2.2.2.2.2.2.2.2.2.2.1 _ _ _ _ hd h0 h1
theorem wp_lret {pc : Nat} {L : aL} {σ : aS} {x : BitVec 64} (hd : decode cc pc = .ok (.lreturn, 1)) (h0 : rk = 2) (h1 : Q (some (vl x)) σ) : Wp own cc NC C Q rk sc xl xs pc L ([vl x]) σ := fun P hP => hP.2.2.2.2.2.2.2.2.2.2.2.2.2.2.2.2.2.2.2.2.2.2.2.2.2.2.2.2.2.2.2.2.2.2.2.2.2.2.2.2.2.2.2.2.2.2.2.2.2.2.2.2.2.2.2.2.2.2.2.2.2.2.2.2.2.2.2.2.2.2.2.2.2.2.2.2.2.1 _ _ _ _ hd h0 h1
theorem wp_vret {pc : Nat} {L : aL} {σ : aS}  (hd : decode cc pc = .ok (.return_, 1)) (h0 : rk = 3) (h1 : Q none σ) : Wp own cc NC C Q rk sc xl xs pc L ([]) σ := fun P hP => hP.2.2.2.2.2.2.2.2.2.2.2.2.2.2.2.2.2.2.2.2.2.2.2.2.2.2.2.2.2.2.2.2.2.2.2.2.2.2.2.2.2.2.2.2.2.2.2.2.2.2.2.2.2.2.2.2.2.2.2.2.2.2.2.2.2.2.2.2.2.2.2.2.2.2.2.2.2.2.1 _ _ _  hd h0 h1
theorem wp_keep {pc : Nat} (ms : List Bool) {L : aL} {st : List aV} {σ : aS} (k : Wp own cc NC C Q rk sc xl xs pc (kpL ms L) st σ) : Wp own cc NC C Q rk sc xl xs pc L st σ := fun P hP => hP.2.2.2.2.2.2.2.2.2.2.2.2.2.2.2.2.2.2.2.2.2.2.2.2.2.2.2.2.2.2.2.2.2.2.2.2.2.2.2.2.2.2.2.2.2.2.2.2.2.2.2.2.2.2.2.2.2.2.2.2.2.2.2.2.2.2.2.2.2.2.2.2.2.2.2.2.2.2.2 _ _ _ _ _ (k P hP)
theorem wp_mono {Q' : aQ} {pc : Nat} {L : aL} {st : List aV} {σ : aS} (h : Wp own cc NC C Q rk sc xl xs pc L st σ) (hq : ∀ r σ', Q r σ' → Q' r σ') : Wp own cc NC C Q' rk sc xl xs pc L st σ := by
  intro P hP
  refine h P ?_
  obtain ⟨h_iconst, h_bipush, h_sipush, h_lconst, h_ldc, h_ldcw, h_ldc2, h_iload_n, h_iload, h_istore_n, h_istore, h_lload_n, h_lload, h_lstore_n, h_lstore, h_aload_n, h_aload, h_astore_n, h_astore, h_iinc, h_iadd, h_isub, h_imul, h_iand, h_ior, h_ixor, h_ineg, h_idiv, h_irem, h_ishl, h_ishr, h_iushr, h_ladd, h_lsub, h_lmul, h_land, h_lor, h_lxor, h_ldiv, h_lrem, h_lshl, h_lushr, h_lshr, h_lcmp, h_i2l, h_l2i, h_i2b, h_i2s, h_dup, h_if, h_icmp, h_goto, h_tabIn, h_tabOut, h_lookup, h_getI, h_getJ, h_getR, h_putI, h_putZ, h_putJ, h_iaload, h_baload, h_laload, h_aaload, h_iastore, h_bastore, h_lastore, h_alen, h_ialoadX, h_alenX, h_callV, h_callS, h_acopy, h_mmax, h_mmin, h_iret, h_lret, h_vret, h_keep⟩ := hP
  exact ⟨h_iconst, h_bipush, h_sipush, h_lconst, h_ldc, h_ldcw, h_ldc2, h_iload_n, h_iload, h_istore_n, h_istore, h_lload_n, h_lload, h_lstore_n, h_lstore, h_aload_n, h_aload, h_astore_n, h_astore, h_iinc, h_iadd, h_isub, h_imul, h_iand, h_ior, h_ixor, h_ineg, h_idiv, h_irem, h_ishl, h_ishr, h_iushr, h_ladd, h_lsub, h_lmul, h_land, h_lor, h_lxor, h_ldiv, h_lrem, h_lshl, h_lushr, h_lshr, h_lcmp, h_i2l, h_l2i, h_i2b, h_i2s, h_dup, h_if, h_icmp, h_goto, h_tabIn, h_tabOut, h_lookup, h_getI, h_getJ, h_getR, h_putI, h_putZ, h_putJ, h_iaload, h_baload, h_laload, h_aaload, h_iastore, h_bastore, h_lastore, h_alen, h_ialoadX, h_alenX, h_callV, h_callS, h_acopy, h_mmax, h_mmin, fun pc L σ x a b c => h_iret pc L σ x a b (hq _ _ c), fun pc L σ x a b c => h_lret pc L σ x a b (hq _ _ c), fun pc L σ a b c => h_vret pc L σ a b (hq _ _ c), h_keep⟩
end WPS
/-- the locals at a method's entry -/
def aEnt (as : List aV) (n : Nat) : aL := match as with
  | [] => List.replicate n none
  | v :: as => if isL v then some v :: none :: aEnt as (n - 2) else some v :: aEnt as (n - 1)
def aWd (as : List aV) : Nat := (as.map catV).sum
def mK (m : Nat) : Nat := match mR m with
  | some .int => 0
  | some .boolean => 1
  | some .long => 2
  | none => 3
  | _ => 9
/-- a call, at most d deep -/
def aCall (NC : Nat) : Nat → aC
  | 0 => fun _ _ _ _ => False
  | d + 1 => fun m as σ Q => (m < 166 ∧ aWd as ≤ mL m) ∧ Wp (mY m).cls (mC m) NC (aCall NC d) Q (mK m) false 0 (fun _ => 0) 0 (aEnt as (mL m)) [] σ
end
section
/-! bridges between the machine's numbers and the abstract ones -/
theorem nb_in {x : Int} (h : in32 x) : (Int32.ofInt x).toInt = x := Int32.toInt_ofInt_of_le h.1 h.2
theorem nb_bm (z : Int) : z.bmod 4294967296 = w32 z := by
  unfold w32
  rw [Int.bmod_def]
  split <;> omega
theorem nb_toInt (z : Int) : (Int32.ofInt z).toInt = w32 z := by rw [Int32.toInt_ofInt]; exact nb_bm z
theorem nb_w (z : Int) : Int32.ofInt (w32 z) = Int32.ofInt z := by
  apply Int32.toInt.inj
  rw [nb_toInt, nb_toInt]
  exact w32_id (w32_in z).1 (w32_in z).2
theorem nb_add (x y : Int) : Int32.ofInt x + Int32.ofInt y = Int32.ofInt (w32 (x + y)) := by
  rw [nb_w, Int32.ofInt_add]
theorem nb_sub (x y : Int) : Int32.ofInt x - Int32.ofInt y = Int32.ofInt (w32 (x - y)) := by
  rw [nb_w, Int32.ofInt_sub]
theorem nb_mul (x y : Int) : Int32.ofInt x * Int32.ofInt y = Int32.ofInt (w32 (x * y)) := by
  rw [nb_w, Int32.ofInt_mul]
theorem nb_neg (x : Int) : -Int32.ofInt x = Int32.ofInt (w32 (-x)) := by
  rw [nb_w, Int32.ofInt_neg]
theorem nb_bits (b : BitVec 32) : Int32.ofInt b.toInt = Int32.ofBitVec b := by
  apply Int32.toBitVec.inj
  simp
theorem nb_and (x y : Int) : Int32.ofInt x &&& Int32.ofInt y = Int32.ofInt (bi32 (· &&& ·) x y) := by
  unfold bi32; rw [nb_bits]; apply Int32.toBitVec.inj; simp
theorem nb_or (x y : Int) : Int32.ofInt x ||| Int32.ofInt y = Int32.ofInt (bi32 (· ||| ·) x y) := by
  unfold bi32; rw [nb_bits]; apply Int32.toBitVec.inj; simp
theorem nb_xor (x y : Int) : Int32.ofInt x ^^^ Int32.ofInt y = Int32.ofInt (bi32 (· ^^^ ·) x y) := by
  unfold bi32; rw [nb_bits]; apply Int32.toBitVec.inj; simp
theorem nb_bin (b : BitVec 32) : in32 b.toInt := by
  have h1 := BitVec.le_toInt b
  have h2 := BitVec.toInt_lt (x := b)
  unfold in32
  simp at h1 h2
  omega
theorem nb_bi (f : BitVec 32 → BitVec 32 → BitVec 32) (x y : Int) : in32 (bi32 f x y) := nb_bin _
theorem nb_div {x y : Int} (hx : in32 x) (hy : in32 y) (h0 : 0 ≤ x) (h1 : 0 < y) : Int32.ofInt x / Int32.ofInt y = Int32.ofInt (x / y) := by
  apply Int32.toInt.inj
  have hd : 0 ≤ x / y := Int.ediv_nonneg h0 (by omega)
  have hd2 : x / y ≤ x := Int.ediv_le_self _ h0
  have h2 : in32 (x / y) := ⟨by omega, by have := hx.2; omega⟩
  rw [Int32.toInt_div, nb_in hx, nb_in hy, nb_in h2, Int.tdiv_eq_ediv_of_nonneg h0]
  show (x / y).bmod 4294967296 = x / y
  rw [nb_bm]
  exact w32_id h2.1 h2.2
theorem nb_rem {x y : Int} (hx : in32 x) (hy : in32 y) (h0 : 0 ≤ x) (h1 : 0 < y) : Int32.ofInt x - Int32.ofInt x / Int32.ofInt y * Int32.ofInt y = Int32.ofInt (x % y) := by
  apply Int32.toInt.inj
  have hd : 0 ≤ x % y := Int.emod_nonneg _ (by omega)
  have hd2 : x % y < y := Int.emod_lt_of_pos _ h1
  have h2 : in32 (x % y) := ⟨by omega, by have := hy.2; omega⟩
  rw [rem_toInt, nb_in hx, nb_in hy, nb_in h2, Int.tmod_eq_emod_of_nonneg h0]
theorem nb_a32 : ∀ n : Nat, n < 32 → ((Int32.ofInt (n : Int) &&& 31).toBitVec.smod 32).toNat = n := by decide +kernel
theorem nb_u32 : ∀ n : Nat, n < 32 → (((Int32.ofInt (n : Int)).toUInt32 &&& Int32.toUInt32 31).toBitVec % 32).toNat = n := by decide +kernel
theorem nb_a64 : ∀ n : Nat, n < 64 → (((Int32.ofInt (n : Int)).toInt64 &&& 63).toBitVec.smod 64).toNat = n := by decide +kernel
theorem nb_u64 : ∀ n : Nat, n < 64 → (((Int32.ofInt (n : Int)).toInt64.toUInt64 &&& Int64.toUInt64 63).toBitVec % 64).toNat = n := by decide +kernel
theorem nb_shl (x y : Int) (h0 : 0 ≤ y) (h1 : y < 32) : Int32.ofInt x <<< (Int32.ofInt y &&& 31) = Int32.ofInt (w32 (x * 2 ^ y.toNat)) := by
  obtain ⟨n, rfl⟩ := Int.eq_ofNat_of_zero_le h0
  have hn : n < 32 := by omega
  rw [nb_w, Int32.ofInt_mul]
  apply Int32.toBitVec.inj
  apply BitVec.eq_of_toNat_eq
  rw [pk_shl _ _ n (nb_a32 n hn)]
  simp only [Int32.toBitVec_mul, Int32.toBitVec_ofInt, BitVec.toNat_mul, Int.toNat_natCast]
  have e : (BitVec.ofInt 32 (2 ^ n)).toNat = 2 ^ n := by
    have : ((2 : Int) ^ n) = ((2 ^ n : Nat) : Int) := by simp
    rw [this, BitVec.ofInt_natCast, BitVec.toNat_ofNat]
    exact Nat.mod_eq_of_lt (Nat.pow_lt_pow_right (by decide) hn)
  rw [e]
theorem nb_shr {x y : Int} (hx : in32 x) (h0 : 0 ≤ y) (h1 : y < 32) : Int32.ofInt x >>> (Int32.ofInt y &&& 31) = Int32.ofInt (x / 2 ^ y.toNat) ∧ in32 (x / 2 ^ y.toNat) := by
  obtain ⟨n, rfl⟩ := Int.eq_ofNat_of_zero_le h0
  have hn : n < 32 := by omega
  have e : (Int32.ofInt x >>> (Int32.ofInt (n : Int) &&& 31)).toInt = x / 2 ^ n := by
    rw [pk_shr _ _ n (nb_a32 n hn), nb_in hx, Int.shiftRight_eq_div_pow]
    simp
  have h2 : in32 (x / 2 ^ n) := by
    rw [← e]
    exact ⟨by have := Int32.le_toInt (Int32.ofInt x >>> (Int32.ofInt (n : Int) &&& 31)); simpa using this, by have := Int32.toInt_lt (Int32.ofInt x >>> (Int32.ofInt (n : Int) &&& 31)); simpa using this⟩
  simp only [Int.toNat_natCast]
  refine ⟨Int32.toInt.inj ?_, h2⟩
  rw [e, nb_in h2]
theorem nb_ushr (x y : Int) (h0 : 0 ≤ y) (h1 : y < 32) : ((Int32.ofInt x).toUInt32 >>> ((Int32.ofInt y).toUInt32 &&& Int32.toUInt32 31)).toInt32 = Int32.ofInt (w32 (x % 4294967296 / 2 ^ y.toNat)) := by
  obtain ⟨n, rfl⟩ := Int.eq_ofNat_of_zero_le h0
  have hn : n < 32 := by omega
  rw [nb_w]
  apply Int32.toBitVec.inj
  apply BitVec.eq_of_toNat_eq
  rw [pk_ushr _ _ n (nb_u32 n hn)]
  simp only [Int32.toBitVec_ofInt, BitVec.toNat_ofInt, Int.toNat_natCast]
  have hm : 0 ≤ x % 4294967296 := Int.emod_nonneg _ (by decide)
  obtain ⟨k, hk⟩ := Int.eq_ofNat_of_zero_le hm
  have hk2 : k < 4294967296 := by omega
  have e2 : ((2 : Int) ^ n) = ((2 ^ n : Nat) : Int) := by simp
  have h3 : k / 2 ^ n ≤ k := Nat.div_le_self _ _
  have e3 : (x % ((2 ^ 32 : Nat) : Int)).toNat = k := by
    have : ((2 ^ 32 : Nat) : Int) = 4294967296 := by decide
    rw [this, hk]; simp
  rw [e3, hk, e2, ← Int.natCast_ediv]
  have : ((2 ^ 32 : Nat) : Int) = 4294967296 := by decide
  rw [this]
  generalize k / 2 ^ n = q at h3 ⊢
  omega
theorem nb_ladd (x y : BitVec 64) : Int64.ofBitVec x + Int64.ofBitVec y = Int64.ofBitVec (x + y) := rfl
theorem nb_lsub (x y : BitVec 64) : Int64.ofBitVec x - Int64.ofBitVec y = Int64.ofBitVec (x - y) := rfl
theorem nb_lmul (x y : BitVec 64) : Int64.ofBitVec x * Int64.ofBitVec y = Int64.ofBitVec (x * y) := rfl
theorem nb_land (x y : BitVec 64) : Int64.ofBitVec x &&& Int64.ofBitVec y = Int64.ofBitVec (x &&& y) := rfl
theorem nb_lor (x y : BitVec 64) : Int64.ofBitVec x ||| Int64.ofBitVec y = Int64.ofBitVec (x ||| y) := rfl
theorem nb_lxor (x y : BitVec 64) : Int64.ofBitVec x ^^^ Int64.ofBitVec y = Int64.ofBitVec (x ^^^ y) := rfl
theorem nb_msb {x : BitVec 64} (h : x.toNat < 2 ^ 63) : x.msb = false := by
  rw [BitVec.msb_eq_decide]
  simp at h ⊢
  omega
theorem nb_ldiv {x y : BitVec 64} (hx : x.toNat < 2 ^ 63) (hy : y.toNat < 2 ^ 63) : Int64.ofBitVec x / Int64.ofBitVec y = Int64.ofBitVec (x / y) := by
  apply Int64.toBitVec.inj
  rw [Int64.toBitVec_div]
  simp only [Int64.toBitVec_ofBitVec]
  rw [BitVec.sdiv_eq, nb_msb hx, nb_msb hy]
  rfl
theorem nb_lrem {x y : BitVec 64} (hx : x.toNat < 2 ^ 63) (hy : y.toNat < 2 ^ 63) : Int64.ofBitVec x - Int64.ofBitVec x / Int64.ofBitVec y * Int64.ofBitVec y = Int64.ofBitVec (x % y) := by
  rw [nb_ldiv hx hy, nb_lmul, nb_lsub]
  congr 1
  apply BitVec.eq_of_toNat_eq
  have h1 : x.toNat / y.toNat * y.toNat ≤ x.toNat := Nat.div_mul_le_self _ _
  have h2 := Nat.mod_add_div x.toNat y.toNat
  have h3 : x.toNat / y.toNat * y.toNat = y.toNat * (x.toNat / y.toNat) := Nat.mul_comm _ _
  rw [BitVec.toNat_sub, BitVec.toNat_mul, BitVec.toNat_udiv, BitVec.toNat_umod]
  rw [Nat.mod_eq_of_lt (show x.toNat / y.toNat * y.toNat < 2 ^ 64 by omega)]
  omega
theorem nb_lshl (x : BitVec 64) {y : Int} (h0 : 0 ≤ y) (h1 : y < 64) : Int64.ofBitVec x <<< ((Int32.ofInt y).toInt64 &&& 63) = Int64.ofBitVec (x <<< y.toNat) := by
  obtain ⟨n, rfl⟩ := Int.eq_ofNat_of_zero_le h0
  have hn : n < 64 := by omega
  apply Int64.toBitVec.inj
  rw [Int64.toBitVec_shiftLeft, BitVec.shiftLeft_eq', nb_a64 n hn]
  rfl
theorem nb_lshr (x : BitVec 64) {y : Int} (h0 : 0 ≤ y) (h1 : y < 64) : Int64.ofBitVec x >>> ((Int32.ofInt y).toInt64 &&& 63) = Int64.ofBitVec (x.sshiftRight y.toNat) := by
  obtain ⟨n, rfl⟩ := Int.eq_ofNat_of_zero_le h0
  have hn : n < 64 := by omega
  apply Int64.toBitVec.inj
  rw [Int64.toBitVec_shiftRight, BitVec.sshiftRight_eq', nb_a64 n hn]
  rfl
theorem nb_lushr (x : BitVec 64) {y : Int} (h0 : 0 ≤ y) (h1 : y < 64) : ((Int64.ofBitVec x).toUInt64 >>> ((Int32.ofInt y).toInt64.toUInt64 &&& Int64.toUInt64 63)).toInt64 = Int64.ofBitVec (x >>> y.toNat) := by
  obtain ⟨n, rfl⟩ := Int.eq_ofNat_of_zero_le h0
  have hn : n < 64 := by omega
  apply Int64.toBitVec.inj
  rw [UInt64.toBitVec_toInt64, UInt64.toBitVec_shiftRight, BitVec.ushiftRight_eq', nb_u64 n hn]
  rfl
theorem nb_lcmp (x y : BitVec 64) : lg_cmp (Int64.ofBitVec x) (Int64.ofBitVec y) = Int32.ofInt (lcm x y) ∧ in32 (lcm x y) := by
  have e1 : (Int64.ofBitVec x > Int64.ofBitVec y) ↔ y.toInt < x.toInt := by
    rw [gt_iff_lt, Int64.lt_iff_toInt_lt]; rfl
  have e2 : (Int64.ofBitVec x = Int64.ofBitVec y) ↔ x = y := ⟨fun h => by have := congrArg Int64.toBitVec h; simpa using this, fun h => by rw [h]⟩
  unfold lg_cmp lcm
  simp only [e1, e2]
  constructor
  · split
    · rfl
    · split <;> rfl
  · unfold in32
    split
    · omega
    · split <;> omega
theorem nb_i2l {x : Int} (hx : in32 x) : (Int32.ofInt x).toInt64 = Int64.ofBitVec (BitVec.ofInt 64 x) := by
  apply Int64.toBitVec.inj
  rw [Int32.toBitVec_toInt64, Int32.toBitVec_ofInt, Int64.toBitVec_ofBitVec, BitVec.signExtend]
  have e : (BitVec.ofInt 32 x).toInt = x := by
    have := nb_in hx
    simpa using this
  rw [e]
theorem nb_l2i (x : BitVec 64) : (Int64.ofBitVec x).toInt32 = Int32.ofInt (x.setWidth 32).toInt := by
  apply Int32.toBitVec.inj
  rw [Int64.toBitVec_toInt32, nb_bits]
  simp only [Int64.toBitVec_ofBitVec, Int32.toBitVec_ofBitVec]
  exact BitVec.signExtend_eq_setWidth_of_le _ (by decide)
theorem nb_i2b {x : Int} (hx : in32 x) : (Int32.ofInt x).toInt8.toInt32 = Int32.ofInt ((x + 128) % 256 - 128) := by
  have h2 : in32 ((x + 128) % 256 - 128) := by unfold in32; omega
  apply Int32.toInt.inj
  rw [Int8.toInt_toInt32, Int32.toInt_toInt8, nb_in hx, nb_in h2, Int.bmod_def]
  simp only [show (2 ^ 8 : Nat) = 256 by decide]
  split <;> omega
theorem nb_i2s {x : Int} (hx : in32 x) : (Int32.ofInt x).toInt16.toInt32 = Int32.ofInt ((x + 32768) % 65536 - 32768) := by
  have h2 : in32 ((x + 32768) % 65536 - 32768) := by unfold in32; omega
  apply Int32.toInt.inj
  rw [Int16.toInt_toInt32, Int32.toInt_toInt16, nb_in hx, nb_in h2, Int.bmod_def]
  simp only [show (2 ^ 16 : Nat) = 65536 by decide]
  split <;> omega
theorem nb_i8 {n : Int} (h1 : -128 ≤ n) (h2 : n < 128) : (Int8.ofInt n).toInt32 = Int32.ofInt n := by
  apply Int32.toInt.inj
  rw [Int8.toInt_toInt32, Int8.toInt_ofInt_of_le (by simpa using h1) (by simpa using h2), nb_in ⟨by omega, by omega⟩]
theorem nb_i16 {n : Int} (h1 : -32768 ≤ n) (h2 : n < 32768) : (Int16.ofInt n).toInt32 = Int32.ofInt n := by
  apply Int32.toInt.inj
  rw [Int16.toInt_toInt32, Int16.toInt_ofInt_of_le (by simpa using h1) (by simpa using h2), nb_in ⟨by omega, by omega⟩]
theorem nb_vp {j : Int} {n : Nat} (h0 : 0 ≤ j) (h1 : j < n) (hn : n < 2 ^ 31) : vp_in (Int32.ofInt j) n ∧ (Int32.ofInt j).toNatClampNeg = j.toNat ∧ ¬ Int32.ofInt j < 0 := by
  have hi : in32 j := ⟨by omega, by omega⟩
  refine ⟨vp_in_iff.mpr (by rw [nb_in hi]; exact ⟨h0, h1⟩), ?_, ?_⟩
  · show (Int32.ofInt j).toInt.toNat = _
    rw [nb_in hi]
  · rw [Int32.lt_iff_toInt_lt, nb_in hi, Int32.toInt_zero]; omega
theorem nb_eq {x y : Int} (hx : in32 x) (hy : in32 y) : Int32.ofInt x = Int32.ofInt y ↔ x = y := by
  constructor
  · intro h
    have := congrArg Int32.toInt h
    rwa [nb_in hx, nb_in hy] at this
  · intro h; rw [h]
theorem nb_lt {x y : Int} (hx : in32 x) (hy : in32 y) : Int32.ofInt x < Int32.ofInt y ↔ x < y := by
  rw [Int32.lt_iff_toInt_lt, nb_in hx, nb_in hy]
theorem nb_le {x y : Int} (hx : in32 x) (hy : in32 y) : Int32.ofInt x ≤ Int32.ofInt y ↔ x ≤ y := by
  rw [Int32.le_iff_toInt_le, nb_in hx, nb_in hy]
theorem nb_0 : (0 : Int32) = Int32.ofInt 0 := by decide
theorem nb_i0 : in32 0 := by unfold in32; omega
end
section
/-! how a state of the abstract machine lies in the heap -/
def tr (ad : Nat → Nat) (v : aV) : Value := match v with
  | .inl x => .int (Int32.ofInt x)
  | .inr (.inl x) => .long (Int64.ofBitVec x)
  | .inr (.inr c) => .ref (ad c)
def fv (ad : Nat → Nat) (σ : aS) (c k t : Nat) : Value := match t with
  | 0 => .int (Int32.ofInt (σ.1 c k))
  | 1 => .long (Int64.ofBitVec (σ.2 c k))
  | 2 => .int (Int32.ofInt (σ.1 c k))
  | r + 3 => .ref (ad r)
def fvs (ad : Nat → Nat) (σ : aS) (c : Nat) (fk : List Nat) : List Value := (List.range fk.length).map (fun k => fv ad σ c k (fk.getD k 0))
def entA (cA : Nat → ClassId) (ad : Nat → Nat) (σ : aS) (c t n : Nat) : va_E := match t with
  | 1 => .inl (cA 1, n, .inr (.inl (fun k => Int64.ofBitVec (σ.2 c k))))
  | 3 => .inl (cA 3, n, .inr (.inr (.inr (.inr (fun k => some (ad (5 + k)))))))
  | t => .inl (cA t, n, .inl (fun k => Int32.ofInt (σ.1 c k)))
def ent (cA : Nat → ClassId) (ad : Nat → Nat) (σ : aS) (c : Nat) : va_E := match cd c with
  | .inl (ci, fk) => .inr (ci, fvs ad σ c fk)
  | .inr (t, n) => entA cA ad σ c t n
def aw (NC : Nat) (cA : Nat → ClassId) (ad : Nat → Nat) (σ : aS) : va_W := (List.range NC).map (fun c => (ad c, ent cA ad σ c))
theorem aw_at {NC c : Nat} {cA : Nat → ClassId} {ad : Nat → Nat} {σ : aS} (h : c < NC) : (aw NC cA ad σ)[c]? = some (ad c, ent cA ad σ c) := by
  simp [aw, h]
theorem aw_len {NC : Nat} {cA : Nat → ClassId} {ad : Nat → Nat} {σ : aS} : (aw NC cA ad σ).length = NC := by simp [aw]
theorem aw_set {NC c : Nat} {cA : Nat → ClassId} {ad : Nat → Nat} {σ σ' : aS} (he : ∀ c', c' ≠ c → ent cA ad σ' c' = ent cA ad σ c') : (aw NC cA ad σ).set c (ad c, ent cA ad σ' c) = aw NC cA ad σ' := by
  apply List.ext_getElem?
  intro i
  rw [List.getElem?_set]
  by_cases hi : i < NC
  · by_cases hc : c = i
    · subst hc
      simp [aw, hi]
    · rw [if_neg hc, aw_at hi, aw_at hi, he i (fun h => hc h.symm)]
  · by_cases hc : c = i
    · subst hc
      simp [aw, hi]
    · rw [if_neg hc]
      simp [aw, hi]
theorem sI_at (σ : aS) (c k : Nat) (x : Int) (c' k' : Nat) : (sI σ c k x).1 c' k' = if c' = c ∧ k' = k then x else σ.1 c' k' := rfl
theorem sI_2 (σ : aS) (c k : Nat) (x : Int) : (sI σ c k x).2 = σ.2 := rfl
theorem sJ_at (σ : aS) (c k : Nat) (x : BitVec 64) (c' k' : Nat) : (sJ σ c k x).2 c' k' = if c' = c ∧ k' = k then x else σ.2 c' k' := rfl
theorem sJ_1 (σ : aS) (c k : Nat) (x : BitVec 64) : (sJ σ c k x).1 = σ.1 := rfl
theorem sC_at (σ : aS) (s i t j n c' k' : Nat) : (sC σ s i t j n).1 c' k' = if c' = t ∧ (j ≤ k' ∧ k' < j + n) then σ.1 s (i + (k' - j)) else σ.1 c' k' := rfl
theorem sC_2 (σ : aS) (s i t j n : Nat) : (sC σ s i t j n).2 = σ.2 := rfl
theorem ent_cong {cA : Nat → ClassId} {ad : Nat → Nat} {σ σ' : aS} {c : Nat} (h1 : ∀ k, σ'.1 c k = σ.1 c k) (h2 : ∀ k, σ'.2 c k = σ.2 c k) : ent cA ad σ' c = ent cA ad σ c := by
  unfold ent
  split
  · unfold fvs
    congr 2
    apply List.map_congr_left
    intro k _
    unfold fv
    split <;> simp [h1, h2]
  · unfold entA
    split <;> simp [h1, h2]
theorem fvs_at {ad : Nat → Nat} {σ : aS} {c k t : Nat} {fk : List Nat} (h : fk[k]? = some t) : (fvs ad σ c fk)[k]? = some (fv ad σ c k t) := by
  have hl : k < fk.length := (List.getElem?_eq_some_iff.mp h).1
  have hg : fk.getD k 0 = t := by rw [List.getD_eq_getElem?_getD, h]; rfl
  simp only [fvs, List.getElem?_map, List.getElem?_range hl, Option.map_some, hg]
theorem fvs_len {ad : Nat → Nat} {σ : aS} {c : Nat} {fk : List Nat} : (fvs ad σ c fk).length = fk.length := by simp [fvs]
theorem fvs_sI {ad : Nat → Nat} {σ : aS} {c k t : Nat} {fk : List Nat} {x : Int} (h : fk[k]? = some t) (ht : t = 0 ∨ t = 2) : (fvs ad σ c fk).set k (.int (Int32.ofInt x)) = fvs ad (sI σ c k x) c fk := by
  apply List.ext_getElem?
  intro i
  rw [List.getElem?_set]
  have hl : k < fk.length := (List.getElem?_eq_some_iff.mp h).1
  by_cases hi : i < fk.length
  · by_cases hk : k = i
    · subst hk
      rw [if_pos rfl, fvs_len, if_pos hl, fvs_at h]
      rcases ht with rfl | rfl <;> simp [fv, sI]
    · rw [if_neg hk, fvs_at (t := fk[i]) (List.getElem?_eq_getElem hi), fvs_at (t := fk[i]) (List.getElem?_eq_getElem hi)]
      unfold fv
      have : ¬ i = k := fun h => hk h.symm
      split <;> simp [sI, this]
  · have e1 : (fvs ad σ c fk)[i]? = none := List.getElem?_eq_none (by rw [fvs_len]; omega)
    have e2 : (fvs ad (sI σ c k x) c fk)[i]? = none := List.getElem?_eq_none (by rw [fvs_len]; omega)
    rw [e1, e2, fvs_len]
    rw [if_neg (by omega)]
theorem fvs_sJ {ad : Nat → Nat} {σ : aS} {c k : Nat} {fk : List Nat} {x : BitVec 64} (h : fk[k]? = some 1) : (fvs ad σ c fk).set k (.long (Int64.ofBitVec x)) = fvs ad (sJ σ c k x) c fk := by
  apply List.ext_getElem?
  intro i
  rw [List.getElem?_set]
  have hl : k < fk.length := (List.getElem?_eq_some_iff.mp h).1
  by_cases hi : i < fk.length
  · by_cases hk : k = i
    · subst hk
      rw [if_pos rfl, fvs_len, if_pos hl, fvs_at h]
      simp [fv, sJ]
    · rw [if_neg hk, fvs_at (t := fk[i]) (List.getElem?_eq_getElem hi), fvs_at (t := fk[i]) (List.getElem?_eq_getElem hi)]
      unfold fv
      have : ¬ i = k := fun h => hk h.symm
      split <;> simp [sJ, this]
  · have e1 : (fvs ad σ c fk)[i]? = none := List.getElem?_eq_none (by rw [fvs_len]; omega)
    have e2 : (fvs ad (sJ σ c k x) c fk)[i]? = none := List.getElem?_eq_none (by rw [fvs_len]; omega)
    rw [e1, e2, fvs_len]
    rw [if_neg (by omega)]
theorem ent_o {cA : Nat → ClassId} {ad : Nat → Nat} {σ : aS} {c ci : Nat} {fk : List Nat} (h : cd c = .inl (ci, fk)) : ent cA ad σ c = .inr (ci, fvs ad σ c fk) := by
  unfold ent; rw [h]
theorem ent_a {cA : Nat → ClassId} {ad : Nat → Nat} {σ : aS} {c t n : Nat} (h : cd c = .inr (t, n)) : ent cA ad σ c = entA cA ad σ c t n := by
  unfold ent; rw [h]
theorem ent_sI_ne {cA : Nat → ClassId} {ad : Nat → Nat} {σ : aS} {c k : Nat} {x : Int} (c' : Nat) (h : c' ≠ c) : ent cA ad (sI σ c k x) c' = ent cA ad σ c' :=
  ent_cong (fun j => by rw [sI_at, if_neg (fun q => h q.1)]) (fun _ => rfl)
theorem ent_sJ_ne {cA : Nat → ClassId} {ad : Nat → Nat} {σ : aS} {c k : Nat} {x : BitVec 64} (c' : Nat) (h : c' ≠ c) : ent cA ad (sJ σ c k x) c' = ent cA ad σ c' :=
  ent_cong (fun _ => rfl) (fun j => by rw [sJ_at, if_neg (fun q => h q.1)])
theorem ent_sC_ne {cA : Nat → ClassId} {ad : Nat → Nat} {σ : aS} {s i c j n : Nat} (c' : Nat) (h : c' ≠ c) : ent cA ad (sC σ s i c j n) c' = ent cA ad σ c' :=
  ent_cong (fun k => by rw [sC_at, if_neg (fun q => h q.1)]) (fun _ => rfl)
def InS (σ : aS) : Prop := ∀ c k, in32 (σ.1 c k)
theorem InS_sI {σ : aS} {c k : Nat} {x : Int} (h : InS σ) (hx : in32 x) : InS (sI σ c k x) := by
  intro c' k'
  rw [sI_at]
  split
  · exact hx
  · exact h c' k'
theorem InS_sJ {σ : aS} {c k : Nat} {x : BitVec 64} (h : InS σ) : InS (sJ σ c k x) := h
theorem InS_sC {σ : aS} {s i t j n : Nat} (h : InS σ) : InS (sC σ s i t j n) := by
  intro c' k'
  rw [sC_at]
  split
  · exact h _ _
  · exact h c' k'
def OkV (v : aV) : Prop := match v with
  | .inl x => in32 x
  | _ => True
def OkL (L : aL) : Prop := ∀ (k : Nat) (v : aV), L[k]? = some (some v) → OkV v
def OkT (st : List aV) : Prop := ∀ v ∈ st, OkV v
theorem OkT_cons {v : aV} {st : List aV} (h : OkV v) (hs : OkT st) : OkT (v :: st) := fun w hw => (List.mem_cons.mp hw).elim (fun e => e ▸ h) (hs w)
theorem OkT_tail {v : aV} {st : List aV} (hs : OkT (v :: st)) : OkT st := fun w hw => hs w (List.mem_cons_of_mem _ hw)
theorem OkT_head {v : aV} {st : List aV} (hs : OkT (v :: st)) : OkV v := hs v List.mem_cons_self
theorem tr_cat (ad : Nat → Nat) (v : aV) : (tr ad v).category = catV v := by
  rcases v with x | x | x <;> rfl
def hasL (ad : Nat → Nat) (ls : Array Slot) (nL : Nat) (L : aL) : Prop := ls.size = nL ∧ L.length = nL ∧ lv_wf ls ∧ ∀ (k : Nat) (v : aV), L[k]? = some (some v) → ls[k]? = some (.val (tr ad v))
def prs (ad : Nat → Nat) (L : aL) : List (Nat × Value) := (List.range L.length).filterMap (fun k => match L[k]? with
  | some (some v) => some (k, tr ad v)
  | _ => none)
theorem prs_mem {ad : Nat → Nat} {L : aL} {q : Nat × Value} : q ∈ prs ad L ↔ ∃ v, L[q.1]? = some (some v) ∧ q.2 = tr ad v := by
  unfold prs
  rw [List.mem_filterMap]
  constructor
  · rintro ⟨k, -, hk⟩
    split at hk
    · rename_i v hv
      cases hk
      exact ⟨v, hv, rfl⟩
    · cases hk
  · rintro ⟨v, hv, e⟩
    refine ⟨q.1, List.mem_range.mpr (List.getElem?_eq_some_iff.mp hv).1, ?_⟩
    rw [hv]
    simp only []
    rw [← e]
theorem hasL_lv {ad : Nat → Nat} {ls : Array Slot} {nL : Nat} {L : aL} (h : hasL ad ls nL L) : lv_has ls nL (prs ad L) := by
  refine ⟨h.1, h.2.2.1, fun q hq => ?_⟩
  obtain ⟨v, hv, e⟩ := prs_mem.mp hq
  rw [e]
  exact h.2.2.2 _ v hv
theorem clrL_len (L : aL) (i : Nat) : (clrL L i).length = L.length := by
  unfold clrL
  split
  · rfl
  · split
    · simp
    · rfl
theorem clrL_get {L : aL} {i k : Nat} {w : aV} (h : (clrL L i)[k]? = some (some w)) : L[k]? = some (some w) ∧ ¬ (k + 1 = i ∧ isL w = true) := by
  unfold clrL at h
  split at h
  · exact ⟨h, fun q => by omega⟩
  · rename_i j
    split at h
    · rename_i x hx
      rw [List.getElem?_set] at h
      by_cases hj : j = k
      · rw [if_pos hj] at h
        split at h <;> cases h
      · rw [if_neg hj] at h
        exact ⟨h, fun q => by omega⟩
    · rename_i hn
      refine ⟨h, fun q => ?_⟩
      have hk : k = j := by omega
      subst hk
      rcases w with x | x | x
      · exact Bool.noConfusion q.2
      · exact hn x h
      · exact Bool.noConfusion q.2
theorem isL_cat {w : aV} : catV w = 2 ↔ isL w = true := by rcases w with x | x | x <;> simp [catV, isL]
theorem hasL_st1 {ad : Nat → Nat} {ls' : Array Slot} {nL i : Nat} {L : aL} {v : aV} (hn : L.length = nL) (h : lv_has ls' nL ((i, tr ad v) :: (prs ad L).filter (fun q => !(q.1 == i) && !(q.1 + 1 == i && q.2.category == 2)))) : hasL ad ls' nL (st1 L i v) := by
  refine ⟨h.1, by unfold st1; rw [List.length_set, clrL_len, hn], h.2.1, fun k w hw => ?_⟩
  unfold st1 at hw
  rw [List.getElem?_set] at hw
  by_cases hk : i = k
  · subst hk
    rw [if_pos rfl] at hw
    split at hw
    · cases hw
      exact h.2.2 (i, tr ad v) List.mem_cons_self
    · cases hw
  · rw [if_neg hk] at hw
    obtain ⟨h1, h2⟩ := clrL_get hw
    refine h.2.2 (k, tr ad w) (List.mem_cons_of_mem _ (List.mem_filter.mpr ⟨prs_mem.mpr ⟨w, h1, rfl⟩, ?_⟩))
    have hk' : ¬ k = i := fun q => hk q.symm
    simp only [tr_cat, Bool.and_eq_true, Bool.not_eq_true', beq_eq_false_iff_ne, ne_eq, Bool.and_eq_false_iff]
    refine ⟨hk', ?_⟩
    by_cases hx : k + 1 = i
    · exact Or.inr fun q => h2 ⟨hx, isL_cat.mp q⟩
    · exact Or.inl hx
theorem hasL_st2 {ad : Nat → Nat} {ls' : Array Slot} {nL i : Nat} {L : aL} {v : aV} (hn : L.length = nL) (h : lv_has ls' nL ((i, tr ad v) :: (prs ad L).filter (fun q => !(q.1 == i) && (!(q.1 == i + 1) && !(q.1 + 1 == i && q.2.category == 2))))) : hasL ad ls' nL (st2 L i v) := by
  refine ⟨h.1, by unfold st2; rw [List.length_set, List.length_set, clrL_len, hn], h.2.1, fun k w hw => ?_⟩
  unfold st2 at hw
  rw [List.getElem?_set] at hw
  by_cases hk1 : i + 1 = k
  · rw [if_pos hk1] at hw
    split at hw <;> cases hw
  · rw [if_neg hk1, List.getElem?_set] at hw
    by_cases hk : i = k
    · subst hk
      rw [if_pos rfl] at hw
      split at hw
      · cases hw
        exact h.2.2 (i, tr ad v) List.mem_cons_self
      · cases hw
    · rw [if_neg hk] at hw
      obtain ⟨h1, h2⟩ := clrL_get hw
      refine h.2.2 (k, tr ad w) (List.mem_cons_of_mem _ (List.mem_filter.mpr ⟨prs_mem.mpr ⟨w, h1, rfl⟩, ?_⟩))
      have hk' : ¬ k = i := fun q => hk q.symm
      have hk1' : ¬ k = i + 1 := fun q => hk1 q.symm
      simp only [tr_cat, Bool.and_eq_true, Bool.not_eq_true', beq_eq_false_iff_ne, ne_eq, Bool.and_eq_false_iff]
      refine ⟨hk', hk1', ?_⟩
      by_cases hx : k + 1 = i
      · exact Or.inr fun q => h2 ⟨hx, isL_cat.mp q⟩
      · exact Or.inl hx
theorem OkL_st1 {L : aL} {i : Nat} {v : aV} (h : OkL L) (hv : OkV v) : OkL (st1 L i v) := by
  intro k w hw
  unfold st1 at hw
  rw [List.getElem?_set] at hw
  split at hw
  · split at hw
    · cases hw; exact hv
    · cases hw
  · exact h k w (clrL_get hw).1
theorem OkL_st2 {L : aL} {i : Nat} {v : aV} (h : OkL L) (hv : OkV v) : OkL (st2 L i v) := by
  intro k w hw
  unfold st2 at hw
  rw [List.getElem?_set] at hw
  split at hw
  · split at hw <;> cases hw
  · rw [List.getElem?_set] at hw
    split at hw
    · split at hw
      · cases hw; exact hv
      · cases hw
    · exact h k w (clrL_get hw).1
theorem kpL_get {k : Nat} {w : aV} : ∀ {ms : List Bool} {L : aL}, (kpL ms L)[k]? = some (some w) → L[k]? = some (some w) := by
  intro ms
  induction ms generalizing k with
  | nil => intro L h; simpa [kpL] using h
  | cons b ms ih =>
    intro L h
    cases L with
    | nil => simp [kpL] at h
    | cons v L =>
      cases k with
      | zero =>
        cases b
        · simp [kpL] at h
        · simpa [kpL] using h
      | succ k =>
        simp only [kpL, List.getElem?_cons_succ] at h ⊢
        exact ih h
theorem kpL_len : ∀ (ms : List Bool) (L : aL), (kpL ms L).length = L.length := by
  intro ms
  induction ms with
  | nil => intro L; simp [kpL]
  | cons b ms ih =>
    intro L
    cases L with
    | nil => simp [kpL]
    | cons v L => simp [kpL, ih]
end
section
/-! the rules hold of the machine -/
def aT (cA : Nat → ClassId) : List (ClassId × FieldType) := [(cA 0, .int), (cA 1, .long), (cA 2, .boolean), (cA 3, .object RX1)]
theorem gw_in {w : Cond} (h : gw w) : w ∈ lw_good := List.mem_filter.mpr h
theorem cls_in0 : ∀ w ∈ u_ws RX0 TX0 14, gw w := by decide +kernel
theorem cls_in1 : ∀ w ∈ u_ws RX1 TX1 4, gw w := by decide +kernel
theorem cls_in2 : ∀ w ∈ u_ws RX2 TX2 4, gw w := by decide +kernel
theorem cls_in3 : ∀ w ∈ u_ws RX3 TX3 13, gw w := by decide +kernel
theorem cls_in4 : ∀ w ∈ u_ws RX4 TX4 24, gw w := by decide +kernel
theorem cls_in {ci : Nat} (h : ci < 5) : ∀ w ∈ u_ws (clsR ci) (clsT ci) (clsN ci), w ∈ lw_good := by
  intro w hw
  apply gw_in
  match ci, h with
  | 0, _ => exact cls_in0 w hw
  | 1, _ => exact cls_in1 w hw
  | 2, _ => exact cls_in2 w hw
  | 3, _ => exact cls_in3 w hw
  | 4, _ => exact cls_in4 w hw
theorem cls_vw {ci : Nat} (h : ci < 5) : vwCl[ci]? = some (clsR ci, clsT ci, clsN ci) := by
  match ci, h with
  | 0, _ => rfl
  | 1, _ => rfl
  | 2, _ => rfl
  | 3, _ => rfl
  | 4, _ => rfl
theorem cls_ty {ci : Nat} (h : ci < 5) : ∀ k, k < clsN ci → parseFieldDescriptor (clsT ci k).2.2.1 = some (clsY ci k) := by
  match ci, h with
  | 0, _ => exact tyX0_ok
  | 1, _ => exact tyX1_ok
  | 2, _ => exact tyX2_ok
  | 3, _ => exact tyX3_ok
  | 4, _ => exact tyX4_ok
theorem cls_nm {ci : Nat} (h : ci < 5) : ∀ a, a < clsN ci → ∀ b, b < clsN ci → a ≠ b → (clsT ci a).2.1 ≠ (clsT ci b).2.1 := by
  match ci, h with
  | 0, _ => exact nmX0
  | 1, _ => exact nmX1
  | 2, _ => exact nmX2
  | 3, _ => exact nmX3
  | 4, _ => exact nmX4
def aFx (p : Program) (s : State) (m : MethodId) (args : Array Value) (c : Code) (cc : ByteArray) (own : String) (nL : Nat) (D : va_G) (cA : Nat → ClassId) : Prop :=
  p.tables.exec = Jvm.exec ∧ c.code = cc ∧ c.maxLocals = nL ∧ s.vm.findClass own = some m.cls ∧ (∀ w ∈ lw_good, w.before args s = true) ∧ va_K D vwCl (aT cA) s ∧ (∀ w ∈ nestW, va_Nw w s)
/-- a rule's predicate, read as a walk of the machine -/
def aI (p : Program) (l : Launch) (e : Env) (R : Room) (s : State) (m : MethodId) (args : Array Value) (below : List Frame) (meth : Method) (c : Code) (cells slots nL NC : Nat) (D : va_G) (cA : Nat → ClassId) (ad : Nat → Nat) (A : Nat → Prop) (Qw : State → Prop) : aP := fun pc L st σ =>
  ∀ (H : Heap) (locs : List Loc) (ls : Array Slot), InS σ → va_P D vwCl (aw NC cA ad σ) H → va_D A (aw NC cA ad σ) → va_S A s.heap H locs → hasL ad ls nL L → OkL L → OkT st → W p l e R s m args below meth c H locs cells slots Qw (F0 m pc ls (st.map (tr ad)))
section SND
variable {p : Program} {l : Launch} {e : Env} {R : Room} {s : State} {m : MethodId} {args : Array Value} {below : List Frame} {meth : Method} {c : Code} {cells slots nL NC : Nat} {cc : ByteArray} {own : String} {D : va_G} {cA : Nat → ClassId} {ad : Nat → Nat} {A : Nat → Prop} {Qw : State → Prop} {C : aC} {Q : aQ} {rk : Nat} {sc : Bool} {xl : Nat} {xs : Nat → Int}
set_option maxHeartbeats 2000000 in
theorem sd_iconst (F : aFx p s m args c cc own nL D cA) : rl_iconst own cc NC C Q rk sc xl xs (aI p l e R s m args below meth c cells slots nL NC D cA ad A Qw) := by
  intro pc L st σ n hd h0 k H locs ls hI hP hD hS hl hL hT
  refine lv_iconst F.1 F.2.1 hd rfl ?_
  exact k H locs ls hI hP hD hS hl hL (OkT_cons (show in32 n from ⟨by omega, by omega⟩) hT)
set_option maxHeartbeats 2000000 in
theorem sd_bipush (F : aFx p s m args c cc own nL D cA) : rl_bipush own cc NC C Q rk sc xl xs (aI p l e R s m args below meth c cells slots nL NC D cA ad A Qw) := by
  intro pc L st σ n hd h0 k H locs ls hI hP hD hS hl hL hT
  refine lv_bipush F.1 F.2.1 hd (nb_i8 h0.1 h0.2) ?_
  exact k H locs ls hI hP hD hS hl hL (OkT_cons (show in32 n from ⟨by omega, by omega⟩) hT)
set_option maxHeartbeats 2000000 in
theorem sd_sipush (F : aFx p s m args c cc own nL D cA) : rl_sipush own cc NC C Q rk sc xl xs (aI p l e R s m args below meth c cells slots nL NC D cA ad A Qw) := by
  intro pc L st σ n hd h0 k H locs ls hI hP hD hS hl hL hT
  refine lv_sipush F.1 F.2.1 hd (nb_i16 h0.1 h0.2) ?_
  exact k H locs ls hI hP hD hS hl hL (OkT_cons (show in32 n from ⟨by omega, by omega⟩) hT)
set_option maxHeartbeats 2000000 in
theorem sd_lconst (F : aFx p s m args c cc own nL D cA) : rl_lconst own cc NC C Q rk sc xl xs (aI p l e R s m args below meth c cells slots nL NC D cA ad A Qw) := by
  intro pc L st σ n hd k H locs ls hI hP hD hS hl hL hT
  refine lv_lconst (v := Int64.ofBitVec (BitVec.ofNat 64 n.val)) F.1 F.2.1 hd rfl ?_
  exact k H locs ls hI hP hD hS hl hL (OkT_cons trivial hT)
set_option maxHeartbeats 2000000 in
theorem sd_ldc (F : aFx p s m args c cc own nL D cA) : rl_ldc own cc NC C Q rk sc xl xs (aI p l e R s m args below meth c cells slots nL NC D cA ad A Qw) := by
  intro pc L st σ i v hd h0 k H locs ls hI hP hD hS hl hL hT
  refine lv_ldc F.1 F.2.1 F.2.2.2.1 (F.2.2.2.2.1 _ (gw_in h0.2)) hd ?_
  exact k H locs ls hI hP hD hS hl hL (OkT_cons h0.1 hT)
set_option maxHeartbeats 2000000 in
theorem sd_ldcw (F : aFx p s m args c cc own nL D cA) : rl_ldcw own cc NC C Q rk sc xl xs (aI p l e R s m args below meth c cells slots nL NC D cA ad A Qw) := by
  intro pc L st σ i v hd h0 k H locs ls hI hP hD hS hl hL hT
  refine lv_ldcw F.1 F.2.1 F.2.2.2.1 (F.2.2.2.2.1 _ (gw_in h0.2)) hd ?_
  exact k H locs ls hI hP hD hS hl hL (OkT_cons h0.1 hT)
set_option maxHeartbeats 2000000 in
theorem sd_ldc2 (F : aFx p s m args c cc own nL D cA) : rl_ldc2 own cc NC C Q rk sc xl xs (aI p l e R s m args below meth c cells slots nL NC D cA ad A Qw) := by
  intro pc L st σ i v hd h0 k H locs ls hI hP hD hS hl hL hT
  refine lv_ldc2 F.1 F.2.1 F.2.2.2.1 (F.2.2.2.2.1 _ (gw_in h0)) hd ?_
  exact k H locs ls hI hP hD hS hl hL (OkT_cons trivial hT)
set_option maxHeartbeats 2000000 in
theorem sd_iload_n (F : aFx p s m args c cc own nL D cA) : rl_iload_n own cc NC C Q rk sc xl xs (aI p l e R s m args below meth c cells slots nL NC D cA ad A Qw) := by
  intro pc L st σ k x hd h0 kk H locs ls hI hP hD hS hl hL hT
  refine lv_iload_n F.1 F.2.1 hd rfl (hl.2.2.2 _ _ h0) ?_
  exact kk H locs ls hI hP hD hS hl hL (OkT_cons (hL _ _ h0) hT)
set_option maxHeartbeats 2000000 in
theorem sd_iload (F : aFx p s m args c cc own nL D cA) : rl_iload own cc NC C Q rk sc xl xs (aI p l e R s m args below meth c cells slots nL NC D cA ad A Qw) := by
  intro pc L st σ k x hd h0 kk H locs ls hI hP hD hS hl hL hT
  refine lv_iload F.1 F.2.1 hd (hl.2.2.2 _ _ h0) ?_
  exact kk H locs ls hI hP hD hS hl hL (OkT_cons (hL _ _ h0) hT)
set_option maxHeartbeats 2000000 in
theorem sd_istore_n (F : aFx p s m args c cc own nL D cA) : rl_istore_n own cc NC C Q rk sc xl xs (aI p l e R s m args below meth c cells slots nL NC D cA ad A Qw) := by
  intro pc L st σ k x hd h0 kk H locs ls hI hP hD hS hl hL hT
  refine lv_istore_n F.1 F.2.1 hd rfl (hasL_lv hl) (by rw [← hl.2.1]; exact h0) rfl (fun ls' h' => ?_)
  exact kk H locs ls' hI hP hD hS (hasL_st1 hl.2.1 h') (OkL_st1 hL (OkT_head hT)) (OkT_tail hT)
set_option maxHeartbeats 2000000 in
theorem sd_istore (F : aFx p s m args c cc own nL D cA) : rl_istore own cc NC C Q rk sc xl xs (aI p l e R s m args below meth c cells slots nL NC D cA ad A Qw) := by
  intro pc L st σ k x hd h0 kk H locs ls hI hP hD hS hl hL hT
  refine lv_istore F.1 F.2.1 hd (hasL_lv hl) (by rw [← hl.2.1]; exact h0) rfl (fun ls' h' => ?_)
  exact kk H locs ls' hI hP hD hS (hasL_st1 hl.2.1 h') (OkL_st1 hL (OkT_head hT)) (OkT_tail hT)
set_option maxHeartbeats 2000000 in
theorem sd_lload_n (F : aFx p s m args c cc own nL D cA) : rl_lload_n own cc NC C Q rk sc xl xs (aI p l e R s m args below meth c cells slots nL NC D cA ad A Qw) := by
  intro pc L st σ k x hd h0 kk H locs ls hI hP hD hS hl hL hT
  refine lv_lload_n F.1 F.2.1 hd rfl (hl.2.2.2 _ _ h0) ?_
  exact kk H locs ls hI hP hD hS hl hL (OkT_cons (hL _ _ h0) hT)
set_option maxHeartbeats 2000000 in
theorem sd_lload (F : aFx p s m args c cc own nL D cA) : rl_lload own cc NC C Q rk sc xl xs (aI p l e R s m args below meth c cells slots nL NC D cA ad A Qw) := by
  intro pc L st σ k x hd h0 kk H locs ls hI hP hD hS hl hL hT
  refine lv_lload F.1 F.2.1 hd (hl.2.2.2 _ _ h0) ?_
  exact kk H locs ls hI hP hD hS hl hL (OkT_cons (hL _ _ h0) hT)
set_option maxHeartbeats 2000000 in
theorem sd_lstore_n (F : aFx p s m args c cc own nL D cA) : rl_lstore_n own cc NC C Q rk sc xl xs (aI p l e R s m args below meth c cells slots nL NC D cA ad A Qw) := by
  intro pc L st σ k x hd h0 kk H locs ls hI hP hD hS hl hL hT
  refine lv_lstore_n F.1 F.2.1 hd rfl (hasL_lv hl) (by rw [← hl.2.1]; exact h0) rfl (fun ls' h' => ?_)
  exact kk H locs ls' hI hP hD hS (hasL_st2 hl.2.1 h') (OkL_st2 hL (OkT_head hT)) (OkT_tail hT)
set_option maxHeartbeats 2000000 in
theorem sd_lstore (F : aFx p s m args c cc own nL D cA) : rl_lstore own cc NC C Q rk sc xl xs (aI p l e R s m args below meth c cells slots nL NC D cA ad A Qw) := by
  intro pc L st σ k x hd h0 kk H locs ls hI hP hD hS hl hL hT
  refine lv_lstore F.1 F.2.1 hd (hasL_lv hl) (by rw [← hl.2.1]; exact h0) rfl (fun ls' h' => ?_)
  exact kk H locs ls' hI hP hD hS (hasL_st2 hl.2.1 h') (OkL_st2 hL (OkT_head hT)) (OkT_tail hT)
set_option maxHeartbeats 2000000 in
theorem sd_aload_n (F : aFx p s m args c cc own nL D cA) : rl_aload_n own cc NC C Q rk sc xl xs (aI p l e R s m args below meth c cells slots nL NC D cA ad A Qw) := by
  intro pc L st σ k x hd h0 kk H locs ls hI hP hD hS hl hL hT
  refine lv_aload_n F.1 F.2.1 hd rfl (hl.2.2.2 _ _ h0) ?_
  exact kk H locs ls hI hP hD hS hl hL (OkT_cons (hL _ _ h0) hT)
set_option maxHeartbeats 2000000 in
theorem sd_aload (F : aFx p s m args c cc own nL D cA) : rl_aload own cc NC C Q rk sc xl xs (aI p l e R s m args below meth c cells slots nL NC D cA ad A Qw) := by
  intro pc L st σ k x hd h0 kk H locs ls hI hP hD hS hl hL hT
  refine lv_aload F.1 F.2.1 hd (hl.2.2.2 _ _ h0) ?_
  exact kk H locs ls hI hP hD hS hl hL (OkT_cons (hL _ _ h0) hT)
set_option maxHeartbeats 2000000 in
theorem sd_astore_n (F : aFx p s m args c cc own nL D cA) : rl_astore_n own cc NC C Q rk sc xl xs (aI p l e R s m args below meth c cells slots nL NC D cA ad A Qw) := by
  intro pc L st σ k x hd h0 kk H locs ls hI hP hD hS hl hL hT
  refine lv_astore_n F.1 F.2.1 hd rfl (hasL_lv hl) (by rw [← hl.2.1]; exact h0) rfl (fun ls' h' => ?_)
  exact kk H locs ls' hI hP hD hS (hasL_st1 hl.2.1 h') (OkL_st1 hL (OkT_head hT)) (OkT_tail hT)
set_option maxHeartbeats 2000000 in
theorem sd_astore (F : aFx p s m args c cc own nL D cA) : rl_astore own cc NC C Q rk sc xl xs (aI p l e R s m args below meth c cells slots nL NC D cA ad A Qw) := by
  intro pc L st σ k x hd h0 kk H locs ls hI hP hD hS hl hL hT
  refine lv_astore F.1 F.2.1 hd (hasL_lv hl) (by rw [← hl.2.1]; exact h0) rfl (fun ls' h' => ?_)
  exact kk H locs ls' hI hP hD hS (hasL_st1 hl.2.1 h') (OkL_st1 hL (OkT_head hT)) (OkT_tail hT)
set_option maxHeartbeats 2000000 in
theorem sd_iinc (F : aFx p s m args c cc own nL D cA) : rl_iinc own cc NC C Q rk sc xl xs (aI p l e R s m args below meth c cells slots nL NC D cA ad A Qw) := by
  intro pc L st σ k x n hd h0 kk H locs ls hI hP hD hS hl hL hT
  obtain ⟨j, hj⟩ := List.getElem?_of_mem (prs_mem (ad := ad) (L := L) (q := (k, tr ad (vi x))) |>.mpr ⟨vi x, h0, rfl⟩)
  have hk : k < nL := by rw [← hl.2.1]; exact (List.getElem?_eq_some_iff.mp h0).1
  refine lv_iinc (v := Int32.ofInt (w32 (x + n))) F.1 F.2.1 hd (hasL_lv hl) hj (nb_add x n) hk rfl (fun ls' h' => ?_)
  exact kk H locs ls' hI hP hD hS (hasL_st1 (v := vi (w32 (x + n))) hl.2.1 h') (OkL_st1 hL (w32_in _)) hT
set_option maxHeartbeats 2000000 in
theorem sd_iadd (F : aFx p s m args c cc own nL D cA) : rl_iadd own cc NC C Q rk sc xl xs (aI p l e R s m args below meth c cells slots nL NC D cA ad A Qw) := by
  intro pc L st σ x y hd k H locs ls hI hP hD hS hl hL hT
  refine lv_iadd F.1 F.2.1 hd ?_
  rw [nb_add]
  exact k H locs ls hI hP hD hS hl hL (OkT_cons (w32_in _) (OkT_tail (OkT_tail hT)))
set_option maxHeartbeats 2000000 in
theorem sd_isub (F : aFx p s m args c cc own nL D cA) : rl_isub own cc NC C Q rk sc xl xs (aI p l e R s m args below meth c cells slots nL NC D cA ad A Qw) := by
  intro pc L st σ x y hd k H locs ls hI hP hD hS hl hL hT
  refine lv_isub F.1 F.2.1 hd ?_
  rw [nb_sub]
  exact k H locs ls hI hP hD hS hl hL (OkT_cons (w32_in _) (OkT_tail (OkT_tail hT)))
set_option maxHeartbeats 2000000 in
theorem sd_imul (F : aFx p s m args c cc own nL D cA) : rl_imul own cc NC C Q rk sc xl xs (aI p l e R s m args below meth c cells slots nL NC D cA ad A Qw) := by
  intro pc L st σ x y hd k H locs ls hI hP hD hS hl hL hT
  refine lv_imul F.1 F.2.1 hd ?_
  rw [nb_mul]
  exact k H locs ls hI hP hD hS hl hL (OkT_cons (w32_in _) (OkT_tail (OkT_tail hT)))
set_option maxHeartbeats 2000000 in
theorem sd_iand (F : aFx p s m args c cc own nL D cA) : rl_iand own cc NC C Q rk sc xl xs (aI p l e R s m args below meth c cells slots nL NC D cA ad A Qw) := by
  intro pc L st σ x y hd k H locs ls hI hP hD hS hl hL hT
  refine lv_iand F.1 F.2.1 hd ?_
  rw [nb_and]
  exact k H locs ls hI hP hD hS hl hL (OkT_cons (nb_bi _ _ _) (OkT_tail (OkT_tail hT)))
set_option maxHeartbeats 2000000 in
theorem sd_ior (F : aFx p s m args c cc own nL D cA) : rl_ior own cc NC C Q rk sc xl xs (aI p l e R s m args below meth c cells slots nL NC D cA ad A Qw) := by
  intro pc L st σ x y hd k H locs ls hI hP hD hS hl hL hT
  refine lv_ior F.1 F.2.1 hd ?_
  rw [nb_or]
  exact k H locs ls hI hP hD hS hl hL (OkT_cons (nb_bi _ _ _) (OkT_tail (OkT_tail hT)))
set_option maxHeartbeats 2000000 in
theorem sd_ixor (F : aFx p s m args c cc own nL D cA) : rl_ixor own cc NC C Q rk sc xl xs (aI p l e R s m args below meth c cells slots nL NC D cA ad A Qw) := by
  intro pc L st σ x y hd k H locs ls hI hP hD hS hl hL hT
  refine lv_ixor F.1 F.2.1 hd ?_
  rw [nb_xor]
  exact k H locs ls hI hP hD hS hl hL (OkT_cons (nb_bi _ _ _) (OkT_tail (OkT_tail hT)))
set_option maxHeartbeats 2000000 in
theorem sd_ineg (F : aFx p s m args c cc own nL D cA) : rl_ineg own cc NC C Q rk sc xl xs (aI p l e R s m args below meth c cells slots nL NC D cA ad A Qw) := by
  intro pc L st σ x hd k H locs ls hI hP hD hS hl hL hT
  refine lv_ineg F.1 F.2.1 hd ?_
  rw [nb_neg]
  exact k H locs ls hI hP hD hS hl hL (OkT_cons (w32_in _) (OkT_tail hT))
set_option maxHeartbeats 2000000 in
theorem sd_idiv (F : aFx p s m args c cc own nL D cA) : rl_idiv own cc NC C Q rk sc xl xs (aI p l e R s m args below meth c cells slots nL NC D cA ad A Qw) := by
  intro pc L st σ x y hd h0 h1 k H locs ls hI hP hD hS hl hL hT
  have hy : in32 y := OkT_head hT
  have hx : in32 x := OkT_head (OkT_tail hT)
  refine lv_idiv F.1 F.2.1 hd (by rw [nb_0, nb_eq hy nb_i0]; omega) ?_
  rw [nb_div hx hy h0 h1]
  have hd1 : 0 ≤ x / y := Int.ediv_nonneg h0 (by omega)
  have hd2 : x / y ≤ x := Int.ediv_le_self _ h0
  have h2 : in32 (x / y) := ⟨by omega, by have := hx.2; omega⟩
  exact k H locs ls hI hP hD hS hl hL (OkT_cons h2 (OkT_tail (OkT_tail hT)))
set_option maxHeartbeats 2000000 in
theorem sd_irem (F : aFx p s m args c cc own nL D cA) : rl_irem own cc NC C Q rk sc xl xs (aI p l e R s m args below meth c cells slots nL NC D cA ad A Qw) := by
  intro pc L st σ x y hd h0 h1 k H locs ls hI hP hD hS hl hL hT
  have hy : in32 y := OkT_head hT
  have hx : in32 x := OkT_head (OkT_tail hT)
  refine lv_irem F.1 F.2.1 hd (by rw [nb_0, nb_eq hy nb_i0]; omega) ?_
  rw [nb_rem hx hy h0 h1]
  have hd1 : 0 ≤ x % y := Int.emod_nonneg _ (by omega)
  have hd2 : x % y < y := Int.emod_lt_of_pos _ h1
  have h2 : in32 (x % y) := ⟨by omega, by have := hy.2; omega⟩
  exact k H locs ls hI hP hD hS hl hL (OkT_cons h2 (OkT_tail (OkT_tail hT)))
set_option maxHeartbeats 2000000 in
theorem sd_ishl (F : aFx p s m args c cc own nL D cA) : rl_ishl own cc NC C Q rk sc xl xs (aI p l e R s m args below meth c cells slots nL NC D cA ad A Qw) := by
  intro pc L st σ x y hd h0 h1 k H locs ls hI hP hD hS hl hL hT
  refine lv_ishl F.1 F.2.1 hd ?_
  rw [nb_shl x y h0 h1]
  exact k H locs ls hI hP hD hS hl hL (OkT_cons (w32_in _) (OkT_tail (OkT_tail hT)))
set_option maxHeartbeats 2000000 in
theorem sd_ishr (F : aFx p s m args c cc own nL D cA) : rl_ishr own cc NC C Q rk sc xl xs (aI p l e R s m args below meth c cells slots nL NC D cA ad A Qw) := by
  intro pc L st σ x y hd h0 h1 k H locs ls hI hP hD hS hl hL hT
  have hx : in32 x := OkT_head (OkT_tail hT)
  refine lv_ishr F.1 F.2.1 hd ?_
  rw [(nb_shr hx h0 h1).1]
  exact k H locs ls hI hP hD hS hl hL (OkT_cons (nb_shr hx h0 h1).2 (OkT_tail (OkT_tail hT)))
set_option maxHeartbeats 2000000 in
theorem sd_iushr (F : aFx p s m args c cc own nL D cA) : rl_iushr own cc NC C Q rk sc xl xs (aI p l e R s m args below meth c cells slots nL NC D cA ad A Qw) := by
  intro pc L st σ x y hd h0 h1 k H locs ls hI hP hD hS hl hL hT
  refine lv_iushr F.1 F.2.1 hd (nb_ushr x y h0 h1) ?_
  exact k H locs ls hI hP hD hS hl hL (OkT_cons (w32_in _) (OkT_tail (OkT_tail hT)))
set_option maxHeartbeats 2000000 in
theorem sd_ladd (F : aFx p s m args c cc own nL D cA) : rl_ladd own cc NC C Q rk sc xl xs (aI p l e R s m args below meth c cells slots nL NC D cA ad A Qw) := by
  intro pc L st σ x y hd k H locs ls hI hP hD hS hl hL hT
  refine lv_ladd F.1 F.2.1 hd ?_
  exact k H locs ls hI hP hD hS hl hL (OkT_cons trivial (OkT_tail (OkT_tail hT)))
set_option maxHeartbeats 2000000 in
theorem sd_lsub (F : aFx p s m args c cc own nL D cA) : rl_lsub own cc NC C Q rk sc xl xs (aI p l e R s m args below meth c cells slots nL NC D cA ad A Qw) := by
  intro pc L st σ x y hd k H locs ls hI hP hD hS hl hL hT
  refine lv_lsub F.1 F.2.1 hd ?_
  exact k H locs ls hI hP hD hS hl hL (OkT_cons trivial (OkT_tail (OkT_tail hT)))
set_option maxHeartbeats 2000000 in
theorem sd_lmul (F : aFx p s m args c cc own nL D cA) : rl_lmul own cc NC C Q rk sc xl xs (aI p l e R s m args below meth c cells slots nL NC D cA ad A Qw) := by
  intro pc L st σ x y hd k H locs ls hI hP hD hS hl hL hT
  refine lv_lmul F.1 F.2.1 hd ?_
  exact k H locs ls hI hP hD hS hl hL (OkT_cons trivial (OkT_tail (OkT_tail hT)))
set_option maxHeartbeats 2000000 in
theorem sd_land (F : aFx p s m args c cc own nL D cA) : rl_land own cc NC C Q rk sc xl xs (aI p l e R s m args below meth c cells slots nL NC D cA ad A Qw) := by
  intro pc L st σ x y hd k H locs ls hI hP hD hS hl hL hT
  refine lv_land F.1 F.2.1 hd ?_
  exact k H locs ls hI hP hD hS hl hL (OkT_cons trivial (OkT_tail (OkT_tail hT)))
set_option maxHeartbeats 2000000 in
theorem sd_lor (F : aFx p s m args c cc own nL D cA) : rl_lor own cc NC C Q rk sc xl xs (aI p l e R s m args below meth c cells slots nL NC D cA ad A Qw) := by
  intro pc L st σ x y hd k H locs ls hI hP hD hS hl hL hT
  refine lv_lor F.1 F.2.1 hd ?_
  exact k H locs ls hI hP hD hS hl hL (OkT_cons trivial (OkT_tail (OkT_tail hT)))
set_option maxHeartbeats 2000000 in
theorem sd_lxor (F : aFx p s m args c cc own nL D cA) : rl_lxor own cc NC C Q rk sc xl xs (aI p l e R s m args below meth c cells slots nL NC D cA ad A Qw) := by
  intro pc L st σ x y hd k H locs ls hI hP hD hS hl hL hT
  refine lv_lxor F.1 F.2.1 hd ?_
  exact k H locs ls hI hP hD hS hl hL (OkT_cons trivial (OkT_tail (OkT_tail hT)))
set_option maxHeartbeats 2000000 in
theorem sd_ldiv (F : aFx p s m args c cc own nL D cA) : rl_ldiv own cc NC C Q rk sc xl xs (aI p l e R s m args below meth c cells slots nL NC D cA ad A Qw) := by
  intro pc L st σ x y hd h0 h1 h2 k H locs ls hI hP hD hS hl hL hT
  refine lv_ldiv F.1 F.2.1 hd (fun q => by have q := congrArg (fun z => z.toBitVec.toNat) q; simp at q; rw [q] at h2; simp at h2) ?_
  rw [nb_ldiv h0 h1]
  exact k H locs ls hI hP hD hS hl hL (OkT_cons trivial (OkT_tail (OkT_tail hT)))
set_option maxHeartbeats 2000000 in
theorem sd_lrem (F : aFx p s m args c cc own nL D cA) : rl_lrem own cc NC C Q rk sc xl xs (aI p l e R s m args below meth c cells slots nL NC D cA ad A Qw) := by
  intro pc L st σ x y hd h0 h1 h2 k H locs ls hI hP hD hS hl hL hT
  refine lv_lrem F.1 F.2.1 hd (fun q => by have q := congrArg (fun z => z.toBitVec.toNat) q; simp at q; rw [q] at h2; simp at h2) ?_
  rw [nb_lrem h0 h1]
  exact k H locs ls hI hP hD hS hl hL (OkT_cons trivial (OkT_tail (OkT_tail hT)))
set_option maxHeartbeats 2000000 in
theorem sd_lshl (F : aFx p s m args c cc own nL D cA) : rl_lshl own cc NC C Q rk sc xl xs (aI p l e R s m args below meth c cells slots nL NC D cA ad A Qw) := by
  intro pc L st σ x y hd h0 h1 k H locs ls hI hP hD hS hl hL hT
  refine lv_lshl F.1 F.2.1 hd (nb_lshl x h0 h1) ?_
  exact k H locs ls hI hP hD hS hl hL (OkT_cons trivial (OkT_tail (OkT_tail hT)))
set_option maxHeartbeats 2000000 in
theorem sd_lushr (F : aFx p s m args c cc own nL D cA) : rl_lushr own cc NC C Q rk sc xl xs (aI p l e R s m args below meth c cells slots nL NC D cA ad A Qw) := by
  intro pc L st σ x y hd h0 h1 k H locs ls hI hP hD hS hl hL hT
  refine lv_lushr F.1 F.2.1 hd (nb_lushr x h0 h1) ?_
  exact k H locs ls hI hP hD hS hl hL (OkT_cons trivial (OkT_tail (OkT_tail hT)))
set_option maxHeartbeats 2000000 in
theorem sd_lshr (F : aFx p s m args c cc own nL D cA) : rl_lshr own cc NC C Q rk sc xl xs (aI p l e R s m args below meth c cells slots nL NC D cA ad A Qw) := by
  intro pc L st σ x y hd h0 h1 k H locs ls hI hP hD hS hl hL hT
  refine lv_lshr F.1 F.2.1 hd (nb_lshr x h0 h1) ?_
  exact k H locs ls hI hP hD hS hl hL (OkT_cons trivial (OkT_tail (OkT_tail hT)))
set_option maxHeartbeats 2000000 in
theorem sd_lcmp (F : aFx p s m args c cc own nL D cA) : rl_lcmp own cc NC C Q rk sc xl xs (aI p l e R s m args below meth c cells slots nL NC D cA ad A Qw) := by
  intro pc L st σ x y hd k H locs ls hI hP hD hS hl hL hT
  refine W.lcmp F.1 F.2.1 hd ?_
  rw [(nb_lcmp x y).1]
  exact k H locs ls hI hP hD hS hl hL (OkT_cons (nb_lcmp x y).2 (OkT_tail (OkT_tail hT)))
set_option maxHeartbeats 2000000 in
theorem sd_i2l (F : aFx p s m args c cc own nL D cA) : rl_i2l own cc NC C Q rk sc xl xs (aI p l e R s m args below meth c cells slots nL NC D cA ad A Qw) := by
  intro pc L st σ x hd k H locs ls hI hP hD hS hl hL hT
  refine lv_i2l F.1 F.2.1 hd (nb_i2l (OkT_head hT)) ?_
  exact k H locs ls hI hP hD hS hl hL (OkT_cons trivial (OkT_tail hT))
set_option maxHeartbeats 2000000 in
theorem sd_l2i (F : aFx p s m args c cc own nL D cA) : rl_l2i own cc NC C Q rk sc xl xs (aI p l e R s m args below meth c cells slots nL NC D cA ad A Qw) := by
  intro pc L st σ x hd k H locs ls hI hP hD hS hl hL hT
  refine lv_l2i F.1 F.2.1 hd (nb_l2i x) ?_
  exact k H locs ls hI hP hD hS hl hL (OkT_cons (nb_bin _) (OkT_tail hT))
set_option maxHeartbeats 2000000 in
theorem sd_i2b (F : aFx p s m args c cc own nL D cA) : rl_i2b own cc NC C Q rk sc xl xs (aI p l e R s m args below meth c cells slots nL NC D cA ad A Qw) := by
  intro pc L st σ x hd k H locs ls hI hP hD hS hl hL hT
  refine lv_i2b F.1 F.2.1 hd (nb_i2b (OkT_head hT)) ?_
  exact k H locs ls hI hP hD hS hl hL (OkT_cons (show in32 _ by unfold in32; omega) (OkT_tail hT))
set_option maxHeartbeats 2000000 in
theorem sd_i2s (F : aFx p s m args c cc own nL D cA) : rl_i2s own cc NC C Q rk sc xl xs (aI p l e R s m args below meth c cells slots nL NC D cA ad A Qw) := by
  intro pc L st σ x hd k H locs ls hI hP hD hS hl hL hT
  refine lv_i2s F.1 F.2.1 hd (nb_i2s (OkT_head hT)) ?_
  exact k H locs ls hI hP hD hS hl hL (OkT_cons (show in32 _ by unfold in32; omega) (OkT_tail hT))
set_option maxHeartbeats 2000000 in
theorem sd_dup (F : aFx p s m args c cc own nL D cA) : rl_dup own cc NC C Q rk sc xl xs (aI p l e R s m args below meth c cells slots nL NC D cA ad A Qw) := by
  intro pc L st σ v hd h0 k H locs ls hI hP hD hS hl hL hT
  refine lv_dup F.1 F.2.1 hd (by rw [tr_cat]; rcases v with x | x | x; rfl; exact Bool.noConfusion h0; rfl) ?_
  exact k H locs ls hI hP hD hS hl hL (OkT_cons (OkT_head hT) hT)
set_option maxHeartbeats 2000000 in
theorem sd_if (F : aFx p s m args c cc own nL D cA) : rl_if own cc NC C Q rk sc xl xs (aI p l e R s m args below meth c cells slots nL NC D cA ad A Qw) := by
  intro pc L st σ o off tgt x hd h0 k0 k1 H locs ls hI hP hD hS hl hL hT
  have hx : in32 x := OkT_head hT
  have h1 := OkT_tail hT
  cases o
  · refine lv_if_eq F.1 F.2.1 hd h0 (fun q => k0 ?_ H locs ls hI hP hD hS hl hL h1) (fun q => k1 ?_ H locs ls hI hP hD hS hl hL h1)
    · exact (nb_eq hx nb_i0).mp (by rw [← nb_0]; exact q)
    · exact fun z => q (by rw [nb_0]; exact (nb_eq hx nb_i0).mpr z)
  · refine lv_if_ne F.1 F.2.1 hd h0 (fun q => k0 ?_ H locs ls hI hP hD hS hl hL h1) (fun q => k1 ?_ H locs ls hI hP hD hS hl hL h1)
    · exact fun z => q (by rw [nb_0]; exact (nb_eq hx nb_i0).mpr z)
    · exact fun z => z ((nb_eq hx nb_i0).mp (by rw [← nb_0]; exact q))
  · refine lv_if_lt F.1 F.2.1 hd h0 (fun q => k0 ?_ H locs ls hI hP hD hS hl hL h1) (fun q => k1 ?_ H locs ls hI hP hD hS hl hL h1)
    · exact (nb_lt hx nb_i0).mp (by rw [← nb_0]; exact q)
    · exact fun z => q (by rw [nb_0]; exact (nb_lt hx nb_i0).mpr z)
  · refine lv_if_ge F.1 F.2.1 hd h0 (fun q => k0 ?_ H locs ls hI hP hD hS hl hL h1) (fun q => k1 ?_ H locs ls hI hP hD hS hl hL h1)
    · exact (nb_le nb_i0 hx).mp (by rw [← nb_0]; exact q)
    · exact fun z => q (by rw [nb_0]; exact (nb_le nb_i0 hx).mpr z)
  · refine lv_if_gt F.1 F.2.1 hd h0 (fun q => k0 ?_ H locs ls hI hP hD hS hl hL h1) (fun q => k1 ?_ H locs ls hI hP hD hS hl hL h1)
    · exact (nb_lt nb_i0 hx).mp (by rw [← nb_0]; exact q)
    · exact fun z => q (by rw [nb_0]; exact (nb_lt nb_i0 hx).mpr z)
  · refine lv_if_le F.1 F.2.1 hd h0 (fun q => k0 ?_ H locs ls hI hP hD hS hl hL h1) (fun q => k1 ?_ H locs ls hI hP hD hS hl hL h1)
    · exact (nb_le hx nb_i0).mp (by rw [← nb_0]; exact q)
    · exact fun z => q (by rw [nb_0]; exact (nb_le hx nb_i0).mpr z)
set_option maxHeartbeats 2000000 in
theorem sd_icmp (F : aFx p s m args c cc own nL D cA) : rl_icmp own cc NC C Q rk sc xl xs (aI p l e R s m args below meth c cells slots nL NC D cA ad A Qw) := by
  intro pc L st σ o off tgt x y hd h0 k0 k1 H locs ls hI hP hD hS hl hL hT
  have hy : in32 y := OkT_head hT
  have hx : in32 x := OkT_head (OkT_tail hT)
  have h1 := OkT_tail (OkT_tail hT)
  cases o
  · refine lv_icmp_eq F.1 F.2.1 hd h0 (fun q => k0 ?_ H locs ls hI hP hD hS hl hL h1) (fun q => k1 ?_ H locs ls hI hP hD hS hl hL h1)
    · exact (nb_eq hx hy).mp q
    · exact fun z => q ((nb_eq hx hy).mpr z)
  · refine lv_icmp_ne F.1 F.2.1 hd h0 (fun q => k0 ?_ H locs ls hI hP hD hS hl hL h1) (fun q => k1 ?_ H locs ls hI hP hD hS hl hL h1)
    · exact fun z => q ((nb_eq hx hy).mpr z)
    · exact fun z => z ((nb_eq hx hy).mp q)
  · refine lv_icmp_lt F.1 F.2.1 hd h0 (fun q => k0 ?_ H locs ls hI hP hD hS hl hL h1) (fun q => k1 ?_ H locs ls hI hP hD hS hl hL h1)
    · exact (nb_lt hx hy).mp q
    · exact fun z => q ((nb_lt hx hy).mpr z)
  · refine lv_icmp_ge F.1 F.2.1 hd h0 (fun q => k0 ?_ H locs ls hI hP hD hS hl hL h1) (fun q => k1 ?_ H locs ls hI hP hD hS hl hL h1)
    · exact (nb_le hy hx).mp q
    · exact fun z => q ((nb_le hy hx).mpr z)
  · refine lv_icmp_gt F.1 F.2.1 hd h0 (fun q => k0 ?_ H locs ls hI hP hD hS hl hL h1) (fun q => k1 ?_ H locs ls hI hP hD hS hl hL h1)
    · exact (nb_lt hy hx).mp q
    · exact fun z => q ((nb_lt hy hx).mpr z)
  · refine lv_icmp_le F.1 F.2.1 hd h0 (fun q => k0 ?_ H locs ls hI hP hD hS hl hL h1) (fun q => k1 ?_ H locs ls hI hP hD hS hl hL h1)
    · exact (nb_le hx hy).mp q
    · exact fun z => q ((nb_le hx hy).mpr z)
set_option maxHeartbeats 2000000 in
theorem sd_goto (F : aFx p s m args c cc own nL D cA) : rl_goto own cc NC C Q rk sc xl xs (aI p l e R s m args below meth c cells slots nL NC D cA ad A Qw) := by
  intro pc L st σ off tgt hd h0 k H locs ls hI hP hD hS hl hL hT
  refine lv_goto F.1 F.2.1 hd h0 ?_
  exact k H locs ls hI hP hD hS hl hL hT
set_option maxHeartbeats 2000000 in
theorem sd_tabIn (F : aFx p s m args c cc own nL D cA) : rl_tabIn own cc NC C Q rk sc xl xs (aI p l e R s m args below meth c cells slots nL NC D cA ad A Qw) := by
  intro pc L st σ dflt lo hi off offs len tgt x hd h0 h1 h2 h3 k H locs ls hI hP hD hS hl hL hT
  have hx : in32 x := OkT_head hT
  refine lv_tableIn F.1 F.2.1 hd (by rw [nb_in hx]; omega) (by rw [nb_in hx]; omega) (by rw [nb_in hx]; exact h2) h3 ?_
  exact k H locs ls hI hP hD hS hl hL (OkT_tail hT)
set_option maxHeartbeats 2000000 in
theorem sd_tabOut (F : aFx p s m args c cc own nL D cA) : rl_tabOut own cc NC C Q rk sc xl xs (aI p l e R s m args below meth c cells slots nL NC D cA ad A Qw) := by
  intro pc L st σ dflt lo hi offs len tgt x hd h0 h1 k H locs ls hI hP hD hS hl hL hT
  have hx : in32 x := OkT_head hT
  refine lv_tableOut F.1 F.2.1 hd (by rw [nb_in hx]; exact h0) h1 ?_
  exact k H locs ls hI hP hD hS hl hL (OkT_tail hT)
set_option maxHeartbeats 2000000 in
theorem sd_lookup (F : aFx p s m args c cc own nL D cA) : rl_lookup own cc NC C Q rk sc xl xs (aI p l e R s m args below meth c cells slots nL NC D cA ad A Qw) := by
  intro pc L st σ dflt off ps len tgt x hd h0 h1 h2 k H locs ls hI hP hD hS hl hL hT
  have hx : in32 x := OkT_head hT
  refine lv_lookup F.1 F.2.1 hd h0 (by rw [nb_in hx]; exact h1) h2 ?_
  exact k H locs ls hI hP hD hS hl hL (OkT_tail hT)
set_option maxHeartbeats 2000000 in
theorem sd_getI (F : aFx p s m args c cc own nL D cA) : rl_getI own cc NC C Q rk sc xl xs (aI p l e R s m args below meth c cells slots nL NC D cA ad A Qw) := by
  intro pc L st σ i ci k q fk hd h0 h1 h2 h3 kk H locs ls hI hP hD hS hl hL hT
  have he : (aw NC cA ad σ)[q]? = some (ad q, .inr (ci, fvs ad σ q fk)) := by rw [aw_at h1, ent_o h2]
  refine va_get (D := D) (ci := ci) (C := clsR ci) (T := clsT ci) (N := clsN ci) F.1 F.2.1 F.2.2.2.2.1 (cls_in h0.1) F.2.2.2.1 F.2.2.2.2.2.1 hP q he (cls_vw h0.1) k h0.2.1 (F.2.2.2.2.1 _ (gw_in h0.2.2)) (fun _ h => h) (v := .int (Int32.ofInt (σ.1 q k))) (by rcases h3 with h3 | h3 <;> rw [fvs_at h3] <;> rfl) hd ?_
  exact kk H locs ls hI hP hD hS hl hL (OkT_cons (hI q k) (OkT_tail hT))
set_option maxHeartbeats 2000000 in
theorem sd_getJ (F : aFx p s m args c cc own nL D cA) : rl_getJ own cc NC C Q rk sc xl xs (aI p l e R s m args below meth c cells slots nL NC D cA ad A Qw) := by
  intro pc L st σ i ci k q fk hd h0 h1 h2 h3 kk H locs ls hI hP hD hS hl hL hT
  have he : (aw NC cA ad σ)[q]? = some (ad q, .inr (ci, fvs ad σ q fk)) := by rw [aw_at h1, ent_o h2]
  refine va_get (D := D) (ci := ci) (C := clsR ci) (T := clsT ci) (N := clsN ci) F.1 F.2.1 F.2.2.2.2.1 (cls_in h0.1) F.2.2.2.1 F.2.2.2.2.2.1 hP q he (cls_vw h0.1) k h0.2.1 (F.2.2.2.2.1 _ (gw_in h0.2.2)) (fun _ h => h) (v := .long (Int64.ofBitVec (σ.2 q k))) (by rw [fvs_at h3]; rfl) hd ?_
  exact kk H locs ls hI hP hD hS hl hL (OkT_cons trivial (OkT_tail hT))
set_option maxHeartbeats 2000000 in
theorem sd_getR (F : aFx p s m args c cc own nL D cA) : rl_getR own cc NC C Q rk sc xl xs (aI p l e R s m args below meth c cells slots nL NC D cA ad A Qw) := by
  intro pc L st σ i ci k q r fk hd h0 h1 h2 h3 kk H locs ls hI hP hD hS hl hL hT
  have he : (aw NC cA ad σ)[q]? = some (ad q, .inr (ci, fvs ad σ q fk)) := by rw [aw_at h1, ent_o h2]
  refine va_get (D := D) (ci := ci) (C := clsR ci) (T := clsT ci) (N := clsN ci) F.1 F.2.1 F.2.2.2.2.1 (cls_in h0.1) F.2.2.2.1 F.2.2.2.2.2.1 hP q he (cls_vw h0.1) k h0.2.1 (F.2.2.2.2.1 _ (gw_in h0.2.2)) (fun _ h => h) (v := .ref (ad r)) (by rw [fvs_at h3]; rfl) hd ?_
  exact kk H locs ls hI hP hD hS hl hL (OkT_cons trivial (OkT_tail hT))
set_option maxHeartbeats 2000000 in
theorem sd_putI (F : aFx p s m args c cc own nL D cA) : rl_putI own cc NC C Q rk sc xl xs (aI p l e R s m args below meth c cells slots nL NC D cA ad A Qw) := by
  intro pc L st σ i ci k q fk x hd h0 h1 h2 h3 h4 h5 kk H locs ls hI hP hD hS hl hL hT
  have he : (aw NC cA ad σ)[q]? = some (ad q, .inr (ci, fvs ad σ q fk)) := by rw [aw_at h1, ent_o h2]
  refine va_put (v := .int (Int32.ofInt x)) (D := D) (ci := ci) (C := clsR ci) (T := clsT ci) (N := clsN ci) (ty := clsY ci k) F.1 F.2.1 F.2.2.2.2.1 (cls_in h0.1) (clsY ci) (cls_ty h0.1) (cls_nm h0.1) F.2.2.2.1 F.2.2.2.2.2.1 hP hD hS q he (cls_vw h0.1) k h0.2.1 (F.2.2.2.2.1 _ (gw_in h0.2.2)) (fun _ h => h) h4 (cls_ty h0.1 k h0.2.1) (by rw [h5]; rfl) (by rw [h5]; rfl) (by rw [fvs_len]; exact (List.getElem?_eq_some_iff.mp h3).1) hd (fun H1 locs1 hP1 hD1 hS1 => ?_)
  have e : (aw NC cA ad σ).set q (ad q, .inr (ci, (fvs ad σ q fk).set k (.int (Int32.ofInt x)))) = aw NC cA ad (sI σ q k x) := by
    rw [fvs_sI h3 (Or.inl rfl), ← ent_o (cA := cA) h2]; exact aw_set ent_sI_ne
  rw [e] at hP1 hD1
  exact kk H1 locs1 ls (InS_sI hI (OkT_head hT)) hP1 hD1 hS1 hl hL (OkT_tail (OkT_tail hT))
set_option maxHeartbeats 2000000 in
theorem sd_putZ (F : aFx p s m args c cc own nL D cA) : rl_putZ own cc NC C Q rk sc xl xs (aI p l e R s m args below meth c cells slots nL NC D cA ad A Qw) := by
  intro pc L st σ i ci k q fk x hd h0 h1 h2 h3 h4 h5 h6 kk H locs ls hI hP hD hS hl hL hT
  have he : (aw NC cA ad σ)[q]? = some (ad q, .inr (ci, fvs ad σ q fk)) := by rw [aw_at h1, ent_o h2]
  refine va_put (v := .int (Int32.ofInt x)) (D := D) (ci := ci) (C := clsR ci) (T := clsT ci) (N := clsN ci) (ty := clsY ci k) F.1 F.2.1 F.2.2.2.2.1 (cls_in h0.1) (clsY ci) (cls_ty h0.1) (cls_nm h0.1) F.2.2.2.1 F.2.2.2.2.2.1 hP hD hS q he (cls_vw h0.1) k h0.2.1 (F.2.2.2.2.1 _ (gw_in h0.2.2)) (fun _ h => h) h4 (cls_ty h0.1 k h0.2.1) (by rw [h5]; rcases h6 with rfl | rfl <;> decide) (by rw [h5]; rcases h6 with rfl | rfl <;> decide) (by rw [fvs_len]; exact (List.getElem?_eq_some_iff.mp h3).1) hd (fun H1 locs1 hP1 hD1 hS1 => ?_)
  have e : (aw NC cA ad σ).set q (ad q, .inr (ci, (fvs ad σ q fk).set k (.int (Int32.ofInt x)))) = aw NC cA ad (sI σ q k x) := by
    rw [fvs_sI h3 (Or.inr rfl), ← ent_o (cA := cA) h2]; exact aw_set ent_sI_ne
  rw [e] at hP1 hD1
  exact kk H1 locs1 ls (InS_sI hI (OkT_head hT)) hP1 hD1 hS1 hl hL (OkT_tail (OkT_tail hT))
set_option maxHeartbeats 2000000 in
theorem sd_putJ (F : aFx p s m args c cc own nL D cA) : rl_putJ own cc NC C Q rk sc xl xs (aI p l e R s m args below meth c cells slots nL NC D cA ad A Qw) := by
  intro pc L st σ i ci k q fk x hd h0 h1 h2 h3 h4 h5 kk H locs ls hI hP hD hS hl hL hT
  have he : (aw NC cA ad σ)[q]? = some (ad q, .inr (ci, fvs ad σ q fk)) := by rw [aw_at h1, ent_o h2]
  refine va_put (v := .long (Int64.ofBitVec x)) (D := D) (ci := ci) (C := clsR ci) (T := clsT ci) (N := clsN ci) (ty := clsY ci k) F.1 F.2.1 F.2.2.2.2.1 (cls_in h0.1) (clsY ci) (cls_ty h0.1) (cls_nm h0.1) F.2.2.2.1 F.2.2.2.2.2.1 hP hD hS q he (cls_vw h0.1) k h0.2.1 (F.2.2.2.2.1 _ (gw_in h0.2.2)) (fun _ h => h) h4 (cls_ty h0.1 k h0.2.1) (by rw [h5]; rfl) (by rw [h5]; rfl) (by rw [fvs_len]; exact (List.getElem?_eq_some_iff.mp h3).1) hd (fun H1 locs1 hP1 hD1 hS1 => ?_)
  have e : (aw NC cA ad σ).set q (ad q, .inr (ci, (fvs ad σ q fk).set k (.long (Int64.ofBitVec x)))) = aw NC cA ad (sJ σ q k x) := by
    rw [fvs_sJ h3, ← ent_o (cA := cA) h2]; exact aw_set ent_sJ_ne
  rw [e] at hP1 hD1
  exact kk H1 locs1 ls (InS_sJ hI) hP1 hD1 hS1 hl hL (OkT_tail (OkT_tail hT))
set_option maxHeartbeats 2000000 in
theorem sd_iaload (F : aFx p s m args c cc own nL D cA) : rl_iaload own cc NC C Q rk sc xl xs (aI p l e R s m args below meth c cells slots nL NC D cA ad A Qw) := by
  intro pc L st σ q n j hd h0 h1 h2 h3 h4 kk H locs ls hI hP hD hS hl hL hT
  have he : (aw NC cA ad σ)[q]? = some (ad q, .inl (cA 0, n, .inl (fun k => Int32.ofInt (σ.1 q k)))) := by rw [aw_at h0, ent_a h1]; rfl
  have hv := nb_vp h2 h3 h4
  refine va_iald F.1 F.2.1 F.2.2.2.2.2.1 hP q 0 he rfl hv.1 hd ?_
  rw [hv.2.1]
  exact kk H locs ls hI hP hD hS hl hL (OkT_cons (hI q _) (OkT_tail (OkT_tail hT)))
set_option maxHeartbeats 2000000 in
theorem sd_baload (F : aFx p s m args c cc own nL D cA) : rl_baload own cc NC C Q rk sc xl xs (aI p l e R s m args below meth c cells slots nL NC D cA ad A Qw) := by
  intro pc L st σ q n j hd h0 h1 h2 h3 h4 kk H locs ls hI hP hD hS hl hL hT
  have he : (aw NC cA ad σ)[q]? = some (ad q, .inl (cA 2, n, .inl (fun k => Int32.ofInt (σ.1 q k)))) := by rw [aw_at h0, ent_a h1]; rfl
  have hv := nb_vp h2 h3 h4
  refine va_zald F.1 F.2.1 F.2.2.2.2.2.1 hP q 2 he rfl hv.1 hd ?_
  rw [hv.2.1]
  exact kk H locs ls hI hP hD hS hl hL (OkT_cons (hI q _) (OkT_tail (OkT_tail hT)))
set_option maxHeartbeats 2000000 in
theorem sd_laload (F : aFx p s m args c cc own nL D cA) : rl_laload own cc NC C Q rk sc xl xs (aI p l e R s m args below meth c cells slots nL NC D cA ad A Qw) := by
  intro pc L st σ q n j hd h0 h1 h2 h3 h4 kk H locs ls hI hP hD hS hl hL hT
  have he : (aw NC cA ad σ)[q]? = some (ad q, .inl (cA 1, n, .inr (.inl (fun k => Int64.ofBitVec (σ.2 q k))))) := by rw [aw_at h0, ent_a h1]; rfl
  have hv := nb_vp h2 h3 h4
  refine va_lald F.1 F.2.1 F.2.2.2.2.2.1 hP q 1 he rfl hv.1 hd ?_
  rw [hv.2.1]
  exact kk H locs ls hI hP hD hS hl hL (OkT_cons (trivial) (OkT_tail (OkT_tail hT)))
set_option maxHeartbeats 2000000 in
theorem sd_aaload (F : aFx p s m args c cc own nL D cA) : rl_aaload own cc NC C Q rk sc xl xs (aI p l e R s m args below meth c cells slots nL NC D cA ad A Qw) := by
  intro pc L st σ q n j hd h0 h1 h2 h3 h4 kk H locs ls hI hP hD hS hl hL hT
  have he : (aw NC cA ad σ)[q]? = some (ad q, .inl (cA 3, n, .inr (.inr (.inr (.inr (fun k => some (ad (5 + k)))))))) := by rw [aw_at h0, ent_a h1]; rfl
  have hv := nb_vp h2 h3 h4
  refine va_aldq F.1 F.2.1 F.2.2.2.2.2.1 hP q 3 he rfl hv.1 hd ?_
  rw [hv.2.1]
  exact kk H locs ls hI hP hD hS hl hL (OkT_cons (trivial) (OkT_tail (OkT_tail hT)))
set_option maxHeartbeats 2000000 in
theorem sd_iastore (F : aFx p s m args c cc own nL D cA) : rl_iastore own cc NC C Q rk sc xl xs (aI p l e R s m args below meth c cells slots nL NC D cA ad A Qw) := by
  intro pc L st σ q n j x hd h0 h1 h2 h3 h4 kk H locs ls hI hP hD hS hl hL hT
  have he : (aw NC cA ad σ)[q]? = some (ad q, .inl (cA 0, n, .inl (fun k => Int32.ofInt (σ.1 q k)))) := by rw [aw_at h0, ent_a h1]; rfl
  have hv := nb_vp h2 h3 h4
  refine va_iast F.1 F.2.1 F.2.2.2.2.2.1 hP hD hS q 0 he rfl hv.1 hd (fun H1 locs1 hP1 hD1 hS1 => ?_)
  rw [hv.2.1] at hP1 hD1
  have e : (aw NC cA ad σ).set q (ad q, .inl (cA 0, n, .inl (upd (fun k => Int32.ofInt (σ.1 q k)) j.toNat (Int32.ofInt x)))) = aw NC cA ad (sI σ q j.toNat x) := by
    have e2 : ent cA ad (sI σ q j.toNat x) q = .inl (cA 0, n, .inl (upd (fun k => Int32.ofInt (σ.1 q k)) j.toNat (Int32.ofInt x))) := by
      rw [ent_a h1]
      show Sum.inl (cA 0, n, Sum.inl _) = _
      congr 4
      funext k
      unfold upd
      rw [sI_at]
      by_cases hk : k = j.toNat <;> simp [hk]
    rw [← e2]; exact aw_set ent_sI_ne
  rw [e] at hP1 hD1
  exact kk H1 locs1 ls (InS_sI hI (OkT_head hT)) hP1 hD1 hS1 hl hL (OkT_tail (OkT_tail (OkT_tail hT)))
set_option maxHeartbeats 2000000 in
theorem sd_bastore (F : aFx p s m args c cc own nL D cA) : rl_bastore own cc NC C Q rk sc xl xs (aI p l e R s m args below meth c cells slots nL NC D cA ad A Qw) := by
  intro pc L st σ q n j x hd h0 h1 h2 h3 h4 h5 kk H locs ls hI hP hD hS hl hL hT
  have he : (aw NC cA ad σ)[q]? = some (ad q, .inl (cA 2, n, .inl (fun k => Int32.ofInt (σ.1 q k)))) := by rw [aw_at h0, ent_a h1]; rfl
  have hv := nb_vp h2 h3 h4
  have hb : vp_nar .boolean (Int32.ofInt x) = Int32.ofInt x := by rcases h5 with rfl | rfl <;> decide
  refine va_zast F.1 F.2.1 F.2.2.2.2.2.1 hP hD hS q 2 he rfl hv.1 hd (fun H1 locs1 hP1 hD1 hS1 => ?_)
  rw [hb] at hP1 hD1
  rw [hv.2.1] at hP1 hD1
  have e : (aw NC cA ad σ).set q (ad q, .inl (cA 2, n, .inl (upd (fun k => Int32.ofInt (σ.1 q k)) j.toNat (Int32.ofInt x)))) = aw NC cA ad (sI σ q j.toNat x) := by
    have e2 : ent cA ad (sI σ q j.toNat x) q = .inl (cA 2, n, .inl (upd (fun k => Int32.ofInt (σ.1 q k)) j.toNat (Int32.ofInt x))) := by
      rw [ent_a h1]
      show Sum.inl (cA 2, n, Sum.inl _) = _
      congr 4
      funext k
      unfold upd
      rw [sI_at]
      by_cases hk : k = j.toNat <;> simp [hk]
    rw [← e2]; exact aw_set ent_sI_ne
  rw [e] at hP1 hD1
  exact kk H1 locs1 ls (InS_sI hI (OkT_head hT)) hP1 hD1 hS1 hl hL (OkT_tail (OkT_tail (OkT_tail hT)))
set_option maxHeartbeats 2000000 in
theorem sd_lastore (F : aFx p s m args c cc own nL D cA) : rl_lastore own cc NC C Q rk sc xl xs (aI p l e R s m args below meth c cells slots nL NC D cA ad A Qw) := by
  intro pc L st σ q n j x hd h0 h1 h2 h3 h4 kk H locs ls hI hP hD hS hl hL hT
  have he : (aw NC cA ad σ)[q]? = some (ad q, .inl (cA 1, n, .inr (.inl (fun k => Int64.ofBitVec (σ.2 q k))))) := by rw [aw_at h0, ent_a h1]; rfl
  have hv := nb_vp h2 h3 h4
  refine va_last F.1 F.2.1 F.2.2.2.2.2.1 hP hD hS q 1 he rfl hv.1 hd (fun H1 locs1 hP1 hD1 hS1 => ?_)
  rw [hv.2.1] at hP1 hD1
  have e : (aw NC cA ad σ).set q (ad q, .inl (cA 1, n, .inr (.inl (vp_updL (fun k => Int64.ofBitVec (σ.2 q k)) j.toNat (Int64.ofBitVec x))))) = aw NC cA ad (sJ σ q j.toNat x) := by
    have e2 : ent cA ad (sJ σ q j.toNat x) q = .inl (cA 1, n, .inr (.inl (vp_updL (fun k => Int64.ofBitVec (σ.2 q k)) j.toNat (Int64.ofBitVec x)))) := by
      rw [ent_a h1]
      show Sum.inl (cA 1, n, Sum.inr (Sum.inl _)) = _
      congr 5
      funext k
      unfold vp_updL
      rw [sJ_at]
      by_cases hk : k = j.toNat <;> simp [hk]
    rw [← e2]; exact aw_set ent_sJ_ne
  rw [e] at hP1 hD1
  exact kk H1 locs1 ls (InS_sJ hI) hP1 hD1 hS1 hl hL (OkT_tail (OkT_tail (OkT_tail hT)))
set_option maxHeartbeats 2000000 in
theorem sd_alen (F : aFx p s m args c cc own nL D cA) : rl_alen own cc NC C Q rk sc xl xs (aI p l e R s m args below meth c cells slots nL NC D cA ad A Qw) := by
  intro pc L st σ q t n hd h0 h1 h2 h3 kk H locs ls hI hP hD hS hl hL hT
  have e3 : Int32.ofNat n = Int32.ofInt (n : Int) := Int32.ofInt_eq_ofNat.symm
  have hn : in32 (n : Int) := ⟨by omega, by omega⟩
  match t, h2 with
  | 0, _ =>
    have he : (aw NC cA ad σ)[q]? = some (ad q, .inl (cA 0, n, .inl (fun k => Int32.ofInt (σ.1 q k)))) := by rw [aw_at h0, ent_a h1]; rfl
    exact va_alen F.1 F.2.1 F.2.2.2.2.2.1 hP q 0 he (ty := .int) rfl e3 hd (kk H locs ls hI hP hD hS hl hL (OkT_cons hn (OkT_tail hT)))
  | 1, _ =>
    have he : (aw NC cA ad σ)[q]? = some (ad q, .inl (cA 1, n, .inr (.inl (fun k => Int64.ofBitVec (σ.2 q k))))) := by rw [aw_at h0, ent_a h1]; rfl
    exact va_alen F.1 F.2.1 F.2.2.2.2.2.1 hP q 1 he (ty := .long) rfl e3 hd (kk H locs ls hI hP hD hS hl hL (OkT_cons hn (OkT_tail hT)))
  | 2, _ =>
    have he : (aw NC cA ad σ)[q]? = some (ad q, .inl (cA 2, n, .inl (fun k => Int32.ofInt (σ.1 q k)))) := by rw [aw_at h0, ent_a h1]; rfl
    exact va_alen F.1 F.2.1 F.2.2.2.2.2.1 hP q 2 he (ty := .boolean) rfl e3 hd (kk H locs ls hI hP hD hS hl hL (OkT_cons hn (OkT_tail hT)))
set_option maxHeartbeats 2000000 in
theorem sd_ialoadX (F : aFx p s m args c cc own nL D cA) (hX : sc = true → ∃ ys : Nat → Int32, va_X (ad 99) xl ys s s.heap ∧ ad 99 < s.heap.size ∧ ¬ A (ad 99) ∧ ∀ j, ys j = Int32.ofInt (xs j) ∧ in32 (xs j)) : rl_ialoadX own cc NC C Q rk sc xl xs (aI p l e R s m args below meth c cells slots nL NC D cA ad A Qw) := by
  intro pc L st σ j hd h0 h1 h2 h3 kk H locs ls hI hP hD hS hl hL hT
  obtain ⟨ys, x1, x2, x3, x4⟩ := hX h0
  have hv := nb_vp h1 h2 h3
  refine va_sld F.1 F.2.1 x1 x2 x3 hS hv.1 hd ?_
  rw [hv.2.1, (x4 j.toNat).1]
  exact kk H locs ls hI hP hD hS hl hL (OkT_cons (x4 j.toNat).2 (OkT_tail (OkT_tail hT)))
set_option maxHeartbeats 2000000 in
theorem sd_alenX (F : aFx p s m args c cc own nL D cA) (hX : sc = true → ∃ ys : Nat → Int32, va_X (ad 99) xl ys s s.heap ∧ ad 99 < s.heap.size ∧ ¬ A (ad 99) ∧ ∀ j, ys j = Int32.ofInt (xs j) ∧ in32 (xs j)) : rl_alenX own cc NC C Q rk sc xl xs (aI p l e R s m args below meth c cells slots nL NC D cA ad A Qw) := by
  intro pc L st σ hd h0 h1 kk H locs ls hI hP hD hS hl hL hT
  obtain ⟨ys, x1, x2, x3, x4⟩ := hX h0
  refine va_slen F.1 F.2.1 x1 x2 x3 hS hd ?_
  have e3 : Int32.ofNat xl = Int32.ofInt (xl : Int) := Int32.ofInt_eq_ofNat.symm
  rw [e3]
  exact kk H locs ls hI hP hD hS hl hL (OkT_cons (show in32 (xl : Int) from ⟨by omega, by omega⟩) (OkT_tail hT))
theorem sd_keep (F : aFx p s m args c cc own nL D cA) : rl_keep own cc NC C Q rk sc xl xs (aI p l e R s m args below meth c cells slots nL NC D cA ad A Qw) := by
  intro pc ms L st σ k H locs ls hI hP hD hS hl hL hT
  exact k H locs ls hI hP hD hS ⟨hl.1, by rw [kpL_len]; exact hl.2.1, hl.2.2.1, fun j v h => hl.2.2.2 j v (kpL_get h)⟩ (fun j v h => hL j v (kpL_get h)) hT
end SND
end
section
/-! calls -/
def aRm (d : Nat) : Room := { frames := d, cells := 0, slots := 0, locals := 35 * d }
def mW (m : Nat) : List Cond := .code (mY m) (mC m) (mL m) (mR m) :: lw_good
def aWorld (D : va_G) (cA : Nat → ClassId) (ad : Nat → Nat) (A : Nat → Prop) (NC : Nat) (σ : aS) (U : State) : Prop := InS σ ∧ va_P D vwCl (aw NC cA ad σ) U.heap ∧ va_K D vwCl (aT cA) U ∧ va_D A (aw NC cA ad σ) ∧ ∀ w ∈ nestW, va_Nw w U
def aPc (D : va_G) (cA : Nat → ClassId) (ad : Nat → Nat) (A : Nat → Prop) (NC : Nat) (as : List aV) (σ : aS) : Array Value → State → Prop := va_Pc (as.map (tr ad)) (aWorld D cA ad A NC σ)
def aQc (D : va_G) (cA : Nat → ClassId) (ad : Nat → Nat) (A : Nat → Prop) (NC : Nat) (K : aQ) : Array Value → State → Outcome → State → Prop := fun _ st o t => (∃ (r : Option aV) (σ' : aS), o = .returned (r.map (tr ad)) ∧ K r σ' ∧ (∀ v, r = some v → OkV v) ∧ aWorld D cA ad A NC σ' t) ∧ va_F A st t
def aMet (l : Launch) (D : va_G) (cA : Nat → ClassId) (ad : Nat → Nat) (A : Nat → Prop) (NC d m : Nat) (as : List aV) (σ : aS) (K : aQ) : Prop := Met l (mY m) (mW m) (aRm d) (aPc D cA ad A NC as σ) (aQc D cA ad A NC K) 0 0 A
theorem nw_warm {s U : State} (h : ∀ w ∈ nestW, va_Nw w s) (hW : s.WarmedH U.vm) : ∀ w ∈ nestW, va_Nw w U := by
  intro w hw
  have h1 := h w hw
  simp only [nestW, List.mem_cons, List.not_mem_nil, or_false] at hw
  rcases hw with rfl | rfl | rfl | rfl <;> exact va_Nw.warmM hW h1
theorem nw_same {u U : State} (h : ∀ w ∈ nestW, va_Nw w u) (hv : u.vm = U.vm) : ∀ w ∈ nestW, va_Nw w U := by
  intro w hw
  have h1 := h w hw
  simp only [nestW, List.mem_cons, List.not_mem_nil, or_false] at hw
  rcases hw with rfl | rfl | rfl | rfl <;> exact va_Nw.same rfl hv h1
theorem aPc_blind {D : va_G} {cA : Nat → ClassId} {ad : Nat → Nat} {A : Nat → Prop} {NC : Nat} {as : List aV} {σ : aS} : FrameBlind (aPc D cA ad A NC as σ) := by
  intro a U g mk h
  obtain ⟨h1, hI, hP, hK, hD, hN⟩ := h
  exact ⟨h1, hI, hP, va_K.moved (u := U) (U := U.calling g mk a) (Vm.Alike.refl U.vm) hK, hD, nw_same hN rfl⟩
theorem lw_good_gw {w : Cond} (h : w ∈ lw_good) : gw w := List.mem_filter.mp h
theorem gw_good {w : Cond} (h : gw w) : w ∈ lw_good ∧ ((w.onTables && w.keeps) = true ∨ ∃ ty, w = .arrayClass ty) := ⟨gw_in h, good_of_word h.2⟩
theorem mW_good {m : Nat} (h : gw (.code (mY m) (mC m) (mL m) (mR m))) : GoodIn lw_good (mW m) := by
  intro w hw
  rcases List.mem_cons.mp hw with rfl | hw
  · exact gw_good h
  · exact gw_good (lw_good_gw hw)
section SNC
variable {p : Program} {l : Launch} {e : Env} {R : Room} {s : State} {m : MethodId} {args : Array Value} {below : List Frame} {meth : Method} {c : Code} {cells slots nL NC : Nat} {cc : ByteArray} {own : String} {D : va_G} {cA : Nat → ClassId} {ad : Nat → Nat} {A : Nat → Prop} {Qw : State → Prop} {C : aC} {Q : aQ} {rk : Nat} {sc : Bool} {xl : Nat} {xs : Nat → Int}
set_option maxHeartbeats 2000000 in
theorem sd_back {d m' : Nat} {as : List aV} {rest : List aV} {σ : aS} {K : aQ} {pc : Nat} {L : aL} {H : Heap} {locs : List Loc} {ls : Array Slot} {st0 : List Value} {a : Array Value}
    (hr : va_Run p l e R s m args below meth c H locs cells slots 0 0 (F0 m pc ls st0) (rest.map (tr ad)) (aQc D cA ad A NC K a) A)
    (kk : ∀ r σ', K r σ' → aI p l e R s m args below meth c cells slots nL NC D cA ad A Qw (pc + 3) L (r.toList ++ rest) σ') (hS : va_S A s.heap H locs) (hl : hasL ad ls nL L) (hL : OkL L) (hT : OkT rest) :
    W p l e R s m args below meth c H locs cells slots Qw (F0 m pc ls st0) := by
  intro T hT' X
  obtain ⟨v, st₀, t, T', L2, e0, X', hL2, e1, e2, ⟨⟨r, σ', hv, hK', hok, hI', hP', hKK, hD', hN'⟩, hz, hk⟩, go⟩ := hr T hT' X
  cases hv
  rw [e0] at hz hk
  have hS' : va_S A s.heap t.heap (locs ++ L2) := ⟨Nat.le_trans hS.1 hz, fun q h1 h2 => by rw [hk q (Nat.lt_of_lt_of_le h1 hS.1) h2]; exact hS.2.1 q h1 h2, fun q hq => by
    rcases List.mem_append.mp hq with h | h
    · exact hS.2.2 q h
    · exact hL2 q h⟩
  have hT2 : OkT (r.toList ++ rest) := by
    intro w hw
    rcases List.mem_append.mp hw with h | h
    · exact hok w (by cases r <;> simp_all)
    · exact hT w h
  obtain ⟨t2, a1, b1⟩ := kk r σ' hK' t.heap (locs ++ L2) ls hI' hP' hD' hS' hl hL hT2 T' e1 X'
  refine ⟨t2, go t2 ?_, b1⟩
  have e3 : (r.toList ++ rest).map (tr ad) = (r.map (tr ad)).toList ++ rest.map (tr ad) := by cases r <;> simp
  rw [e3] at a1
  exact a1
set_option maxHeartbeats 2000000 in
theorem sd_callV {d : Nat} (F : aFx p s m args c cc own nL D cA) (hC : ∀ (m' : Nat) (as : List aV) (σ : aS) (K : aQ), C m' as σ K → (∀ v ∈ as, OkV v) → aMet l D cA ad A NC d m' as σ K) (hR : (d + 1 ≤ R.frames ∧ 35 * (d + 1) ≤ R.locals) ∧ (cells ≤ R.cells ∧ slots ≤ R.slots)) : rl_callV own cc NC C Q rk sc xl xs (aI p l e R s m args below meth c cells slots nL NC D cA ad A Qw) := by
  intro pc L st σ i m' ci q fk as K hd h0 h1 h2 h3 h4 kk H locs ls hI hP hD hS hl hL hT
  obtain ⟨v1, v2, v3, v4, v5, v6, o1, o2, o3⟩ := h0
  have hTa : ∀ v ∈ as, OkV v := fun v hv => hT v (List.mem_append_left _ (List.mem_reverse.mpr hv))
  have hTr : OkT st := fun v hv => hT v (List.mem_append_right _ (List.mem_cons_of_mem _ hv))
  have hM := hC m' (vr q :: as) σ K h4 (fun v hv => (List.mem_cons.mp hv).elim (fun e => e ▸ trivial) (hTa v))
  have he : (aw NC cA ad σ)[q]? = some (ad q, .inr (ci, fvs ad σ q fk)) := by rw [aw_at h1, ent_o h2]
  have hG : GoodIn lw_good (wsV own i (clsR ci) (mY m') (mW m')) := by
    intro w hw
    rcases List.mem_append.mp hw with hw | hw
    · simp only [List.mem_cons, List.not_mem_nil, or_false] at hw
      rcases hw with rfl | rfl | rfl | rfl
      · exact gw_good v1
      · exact gw_good v2
      · exact gw_good v3
      · exact gw_good v4
    · exact mW_good o1 w hw
  have hW8 : ((st.map (tr ad)).map fun v => v.category).sum ≤ 8 := by
    have : (st.map (tr ad)).map (fun v => v.category) = st.map catV := by
      rw [List.map_map]; exact List.map_congr_left fun v _ => tr_cat ad v
    rw [this]; exact h3
  refine sd_back (K := K) (d := d) (m' := m') (as := as) (σ := σ) (a := (Value.ref (ad q) :: as.map (tr ad)).toArray) (va_runV (As := as.map (tr ad)) (rest := st.map (tr ad)) (b := ad q) (C := clsR ci) ⟨F.1, F.2.1, F.2.2.1, F.2.2.2.1, F.2.2.2.2.1⟩ hM (cwV as.length F.2.2.2.2.1 hG rfl rfl rfl ⟨v5, o2⟩ ⟨hR.1.1, by have := hR.1.2; simp only [aRm]; omega⟩) ⟨aPc_blind, va_recv F.2.2.2.2.2.1 hP (cls_vw v6) he, fun U hU hW => ⟨rfl, hI, by rw [hU]; exact hP, va_K.moved hW.alike F.2.2.2.2.2.1, hD, nw_warm F.2.2.2.2.2.2 hW⟩⟩ rfl (by simp) hl.1 (by simp [tr]) (lv_room hW8) hd ⟨hR.2.1, hR.2.2⟩) kk hS hl hL hTr
set_option maxHeartbeats 2000000 in
theorem sd_callS {d : Nat} (F : aFx p s m args c cc own nL D cA) (hC : ∀ (m' : Nat) (as : List aV) (σ : aS) (K : aQ), C m' as σ K → (∀ v ∈ as, OkV v) → aMet l D cA ad A NC d m' as σ K) (hR : (d + 1 ≤ R.frames ∧ 35 * (d + 1) ≤ R.locals) ∧ (cells ≤ R.cells ∧ slots ≤ R.slots)) : rl_callS own cc NC C Q rk sc xl xs (aI p l e R s m args below meth c cells slots nL NC D cA ad A Qw) := by
  intro pc L st σ i m' as K hd h0 h3 h4 kk H locs ls hI hP hD hS hl hL hT
  obtain ⟨v1, v2, v3, o1, o2, o3⟩ := h0
  have hTa : ∀ v ∈ as, OkV v := fun v hv => hT v (List.mem_append_left _ (List.mem_reverse.mpr hv))
  have hTr : OkT st := fun v hv => hT v (List.mem_append_right _ hv)
  have hM := hC m' as σ K h4 hTa
  have hW8 : ((st.map (tr ad)).map fun v => v.category).sum ≤ 8 := by
    have : (st.map (tr ad)).map (fun v => v.category) = st.map catV := by
      rw [List.map_map]; exact List.map_congr_left fun v _ => tr_cat ad v
    rw [this]; exact h3
  rcases v1 with v1 | v1
  · have hG : GoodIn lw_good (va_wsS own i (mY m') (mW m')) := by
      intro w hw
      rcases List.mem_append.mp hw with hw | hw
      · simp only [List.mem_cons, List.not_mem_nil, or_false] at hw
        rcases hw with rfl | rfl | rfl
        · exact gw_good v1
        · exact gw_good v2
        · exact gw_good v3
      · exact mW_good o1 w hw
    exact sd_back (K := K) (d := d) (m' := m') (as := as) (σ := σ) (a := (as.map (tr ad)).toArray) (va_runS (As := as.map (tr ad)) (rest := st.map (tr ad)) ⟨F.1, F.2.1, F.2.2.1, F.2.2.2.1, F.2.2.2.2.1⟩ hM (va_cwS as.length F.2.2.2.2.1 hG rfl rfl rfl o2 ⟨hR.1.1, by have := hR.1.2; simp only [aRm]; omega⟩) ⟨aPc_blind, fun U hU hW => ⟨rfl, hI, by rw [hU]; exact hP, va_K.moved hW.alike F.2.2.2.2.2.1, hD, nw_warm F.2.2.2.2.2.2 hW⟩⟩ rfl (by simp) hl.1 (by simp) (lv_room hW8) hd ⟨hR.2.1, hR.2.2⟩) kk hS hl hL hTr
  · exact sd_back (K := K) (d := d) (m' := m') (as := as) (σ := σ) (a := (as.map (tr ad)).toArray) (va_runSN (As := as.map (tr ad)) (rest := st.map (tr ad)) ⟨F.1, F.2.1, F.2.2.1, F.2.2.2.1, F.2.2.2.2.1⟩ hM ⟨va_cnB as.length F.2.2.2.2.1 (mW_good o1) rfl rfl rfl (F.2.2.2.2.2.2 _ v1) (F.2.2.2.2.1 _ (gw_in v3)) o2 ⟨hR.1.1, by have := hR.1.2; simp only [aRm]; omega⟩, F.2.2.2.2.1 _ (gw_in v2), trivial⟩ ⟨aPc_blind, fun U hU hW => ⟨rfl, hI, by rw [hU]; exact hP, va_K.moved hW.alike F.2.2.2.2.2.1, hD, nw_warm F.2.2.2.2.2.2 hW⟩⟩ rfl (by simp) hl.1 (by simp) (lv_room hW8) hd ⟨hR.2.1, hR.2.2⟩) kk hS hl hL hTr
set_option maxHeartbeats 2000000 in
theorem sd_acopy (F : aFx p s m args c cc own nL D cA) (hR : 1 ≤ R.frames ∧ 35 ≤ R.locals) : rl_acopy own cc NC C Q rk sc xl xs (aI p l e R s m args below meth c cells slots nL NC D cA ad A Qw) := by
  intro pc L st σ i c0 n0 c1 n1 sp dp n hd h0 h1 h2 h3 h4 h5 h6 h7 h8 h9 h10 h11 h12 kk H locs ls hI hP hD hS hl hL hT
  obtain ⟨y1, y2, y3, y4⟩ := h0
  have hn : in32 n := OkT_head hT
  have he0 : (aw NC cA ad σ)[c0]? = some (ad c0, .inl (cA 0, n0, .inl (fun k => Int32.ofInt (σ.1 c0 k)))) := by rw [aw_at h2, ent_a h3]; rfl
  have he1 : (aw NC cA ad σ)[c1]? = some (ad c1, .inl (cA 0, n1, .inl (fun k => Int32.ofInt (σ.1 c1 k)))) := by rw [aw_at h4, ent_a h5]; rfl
  have nn : ∀ z : Int, in32 z → 0 ≤ z → (Int32.ofInt z).toNatClampNeg = z.toNat ∧ ¬ Int32.ofInt z < 0 := by
    intro z hz hz0
    refine ⟨?_, ?_⟩
    · show (Int32.ofInt z).toInt.toNat = _
      rw [nb_in hz]
    · rw [Int32.lt_iff_toInt_lt, nb_in hz, Int32.toInt_zero]; omega
  have hsp := nn sp (OkT_head (OkT_tail (OkT_tail (OkT_tail hT)))) h8
  have hdp := nn dp (OkT_head (OkT_tail hT)) h9
  have hnn := nn n hn h10
  have hW8 : ((st.map (tr ad)).map fun v => v.category).sum ≤ 8 := by
    have : (st.map (tr ad)).map (fun v => v.category) = st.map catV := by
      rw [List.map_map]; exact List.map_congr_left fun v _ => tr_cat ad v
    rw [this]; exact h1
  have e7 : nativeFrameWords "java/lang/System" "arraycopy" 5 = 7 := by decide
  refine va_copyi (rest := st.map (tr ad)) (ty := .int) F.1 F.2.1 (F.2.2.1.trans hl.1.symm) F.2.2.2.1 (F.2.2.2.2.1 _ (gw_in y1)) (F.2.2.2.2.1 _ (gw_in y2)) (F.2.2.2.2.1 _ (gw_in y3)) (F.2.2.2.2.1 _ (gw_in y4)) F.2.2.2.2.2.1 hP hD hS c0 c1 0 0 he0 he1 rfl rfl rfl hsp.2 hdp.2 hnn.2 (by rw [hsp.1, hnn.1]; omega) (by rw [hdp.1, hnn.1]; omega) (fun _ _ => rfl) hR.1 (by rw [e7]; have := hR.2; omega) hd (fun H1 locs1 hP1 hD1 hS1 => ?_)
  rw [hsp.1, hdp.1, hnn.1] at hP1 hD1
  have e : (aw NC cA ad σ).set c1 (ad c1, .inl (cA 0, n1, .inl (va_cpy (fun k => Int32.ofInt (σ.1 c0 k)) (fun k => Int32.ofInt (σ.1 c1 k)) sp.toNat dp.toNat n.toNat))) = aw NC cA ad (sC σ c0 sp.toNat c1 dp.toNat n.toNat) := by
    have e2 : ent cA ad (sC σ c0 sp.toNat c1 dp.toNat n.toNat) c1 = .inl (cA 0, n1, .inl (va_cpy (fun k => Int32.ofInt (σ.1 c0 k)) (fun k => Int32.ofInt (σ.1 c1 k)) sp.toNat dp.toNat n.toNat)) := by
      rw [ent_a h5]
      show Sum.inl (cA 0, n1, Sum.inl _) = _
      congr 4
      funext k
      unfold va_cpy
      rw [sC_at]
      by_cases hk : dp.toNat ≤ k ∧ k < dp.toNat + n.toNat
      · rw [if_pos hk, if_pos ⟨rfl, hk⟩]
      · rw [if_neg hk, if_neg (fun q => hk q.2)]
    rw [← e2]; exact aw_set ent_sC_ne
  rw [e] at hP1 hD1
  exact kk H1 locs1 ls (InS_sC hI) hP1 hD1 hS1 hl hL (OkT_tail (OkT_tail (OkT_tail (OkT_tail (OkT_tail hT)))))
set_option maxHeartbeats 2000000 in
theorem sd_mmax (F : aFx p s m args c cc own nL D cA) (hR : 1 ≤ R.frames ∧ 35 ≤ R.locals) (hR2 : cells ≤ R.cells ∧ slots ≤ R.slots) : rl_mmax own cc NC C Q rk sc xl xs (aI p l e R s m args below meth c cells slots nL NC D cA ad A Qw) := by
  intro pc L st σ i x y hd h0 h1 kk H locs ls hI hP hD hS hl hL hT
  obtain ⟨y1, y2, y3, y4⟩ := h0
  have hy : in32 y := OkT_head hT
  have hx : in32 x := OkT_head (OkT_tail hT)
  have hW8 : ((st.map (tr ad)).map fun v => v.category).sum ≤ 8 := by
    have : (st.map (tr ad)).map (fun v => v.category) = st.map catV := by
      rw [List.map_map]; exact List.map_congr_left fun v _ => tr_cat ad v
    rw [this]; exact h1
  refine va_mmax (rest := st.map (tr ad)) F.1 F.2.1 (F.2.2.1.trans hl.1.symm) F.2.2.2.1 (F.2.2.2.2.1 _ (gw_in y1)) (F.2.2.2.2.1 _ (gw_in y2)) (F.2.2.2.2.1 _ (gw_in y3)) (F.2.2.2.2.1 _ (gw_in y4)) hR.1 (by have := hR.2; omega) hR2.1 hR2.2 hd ?_
  have e : (if Int32.ofInt x < Int32.ofInt y then Int32.ofInt y else Int32.ofInt x) = Int32.ofInt (if x < y then y else x) := by
    by_cases h : x < y
    · rw [if_pos h, if_pos ((nb_lt hx hy).mpr h)]
    · rw [if_neg h, if_neg (fun q => h ((nb_lt hx hy).mp q))]
  rw [e]
  exact kk H locs ls hI hP hD hS hl hL (OkT_cons (show in32 _ by split <;> assumption) (OkT_tail (OkT_tail hT)))
set_option maxHeartbeats 2000000 in
theorem sd_mmin (F : aFx p s m args c cc own nL D cA) (hR : 1 ≤ R.frames ∧ 35 ≤ R.locals) (hR2 : cells ≤ R.cells ∧ slots ≤ R.slots) : rl_mmin own cc NC C Q rk sc xl xs (aI p l e R s m args below meth c cells slots nL NC D cA ad A Qw) := by
  intro pc L st σ i x y hd h0 h1 kk H locs ls hI hP hD hS hl hL hT
  obtain ⟨y1, y2, y3, y4⟩ := h0
  have hy : in32 y := OkT_head hT
  have hx : in32 x := OkT_head (OkT_tail hT)
  have hW8 : ((st.map (tr ad)).map fun v => v.category).sum ≤ 8 := by
    have : (st.map (tr ad)).map (fun v => v.category) = st.map catV := by
      rw [List.map_map]; exact List.map_congr_left fun v _ => tr_cat ad v
    rw [this]; exact h1
  refine va_mmin (rest := st.map (tr ad)) F.1 F.2.1 (F.2.2.1.trans hl.1.symm) F.2.2.2.1 (F.2.2.2.2.1 _ (gw_in y1)) (F.2.2.2.2.1 _ (gw_in y2)) (F.2.2.2.2.1 _ (gw_in y3)) (F.2.2.2.2.1 _ (gw_in y4)) hR.1 (by have := hR.2; omega) hR2.1 hR2.2 hd ?_
  have e : (if Int32.ofInt y < Int32.ofInt x then Int32.ofInt y else Int32.ofInt x) = Int32.ofInt (if y < x then y else x) := by
    by_cases h : y < x
    · rw [if_pos h, if_pos ((nb_lt hy hx).mpr h)]
    · rw [if_neg h, if_neg (fun q => h ((nb_lt hy hx).mp q))]
  rw [e]
  exact kk H locs ls hI hP hD hS hl hL (OkT_cons (show in32 _ by split <;> assumption) (OkT_tail (OkT_tail hT)))
theorem sound {d : Nat} (F : aFx p s m args c cc own nL D cA) (hC : ∀ (m' : Nat) (as : List aV) (σ : aS) (K : aQ), C m' as σ K → (∀ v ∈ as, OkV v) → aMet l D cA ad A NC d m' as σ K) (hR : (d + 1 ≤ R.frames ∧ 35 * (d + 1) ≤ R.locals) ∧ (cells ≤ R.cells ∧ slots ≤ R.slots)) (hX : sc = true → ∃ ys : Nat → Int32, va_X (ad 99) xl ys s s.heap ∧ ad 99 < s.heap.size ∧ ¬ A (ad 99) ∧ ∀ j, ys j = Int32.ofInt (xs j) ∧ in32 (xs j)) (hi : rl_iret own cc NC C Q rk sc xl xs (aI p l e R s m args below meth c cells slots nL NC D cA ad A Qw)) (hj : rl_lret own cc NC C Q rk sc xl xs (aI p l e R s m args below meth c cells slots nL NC D cA ad A Qw)) (hv : rl_vret own cc NC C Q rk sc xl xs (aI p l e R s m args below meth c cells slots nL NC D cA ad A Qw)) : Clos own cc NC C Q rk sc xl xs (aI p l e R s m args below meth c cells slots nL NC D cA ad A Qw) :=
  ⟨sd_iconst F, sd_bipush F, sd_sipush F, sd_lconst F, sd_ldc F, sd_ldcw F, sd_ldc2 F, sd_iload_n F, sd_iload F, sd_istore_n F, sd_istore F, sd_lload_n F, sd_lload F, sd_lstore_n F, sd_lstore F, sd_aload_n F, sd_aload F, sd_astore_n F, sd_astore F, sd_iinc F, sd_iadd F, sd_isub F, sd_imul F, sd_iand F, sd_ior F, sd_ixor F, sd_ineg F, sd_idiv F, sd_irem F, sd_ishl F, sd_ishr F, sd_iushr F, sd_ladd F, sd_lsub F, sd_lmul F, sd_land F, sd_lor F, sd_lxor F, sd_ldiv F, sd_lrem F, sd_lshl F, sd_lushr F, sd_lshr F, sd_lcmp F, sd_i2l F, sd_l2i F, sd_i2b F, sd_i2s F, sd_dup F, sd_if F, sd_icmp F, sd_goto F, sd_tabIn F, sd_tabOut F, sd_lookup F, sd_getI F, sd_getJ F, sd_getR F, sd_putI F, sd_putZ F, sd_putJ F, sd_iaload F, sd_baload F, sd_laload F, sd_aaload F, sd_iastore F, sd_bastore F, sd_lastore F, sd_alen F, sd_ialoadX F hX, sd_alenX F hX, sd_callV F hC hR, sd_callS F hC hR, sd_acopy F ⟨by have := hR.1.1; omega, by have := hR.1.2; omega⟩, sd_mmax F ⟨by have := hR.1.1; omega, by have := hR.1.2; omega⟩ hR.2, sd_mmin F ⟨by have := hR.1.1; omega, by have := hR.1.2; omega⟩ hR.2, hi, hj, hv, sd_keep F⟩
end SNC
theorem mK_0 {m : Nat} (h : mK m = 0) : mR m = some .int := by
  unfold mK at h
  split at h <;> first | assumption | (exact absurd h (by decide))
theorem mK_1 {m : Nat} (h : mK m = 1) : mR m = some .boolean := by
  unfold mK at h
  split at h <;> first | assumption | (exact absurd h (by decide))
theorem mK_2 {m : Nat} (h : mK m = 2) : mR m = some .long := by
  unfold mK at h
  split at h <;> first | assumption | (exact absurd h (by decide))
theorem mK_3 {m : Nat} (h : mK m = 3) : mR m = none := by
  unfold mK at h
  split at h <;> first | assumption | (exact absurd h (by decide))
theorem m_plain : ∀ m, m < 166 → plainName (mY m).cls = true := by decide +kernel
theorem aEnt_len : ∀ (as : List aV) (n : Nat), aWd as ≤ n → (aEnt as n).length = n := by
  intro as
  induction as with
  | nil => intro n _; simp [aEnt]
  | cons v as ih =>
    intro n h
    unfold aEnt
    have e : aWd (v :: as) = catV v + aWd as := by simp [aWd]
    rw [e] at h
    split
    · rename_i hv
      have : catV v = 2 := isL_cat.mpr hv
      rw [List.length_cons, List.length_cons, ih (n - 2) (by omega)]
      omega
    · rename_i hv
      have : catV v = 1 := by rcases v with x | x | x <;> first | rfl | exact absurd rfl hv
      rw [List.length_cons, ih (n - 1) (by omega)]
      omega
theorem aEnt_get {ad : Nat → Nat} {v : aV} : ∀ (as : List aV) (n i k : Nat), (aEnt as n)[k]? = some (some v) → (i + k, tr ad v) ∈ lv_args i (as.map (tr ad)) ∧ v ∈ as := by
  intro as
  induction as with
  | nil =>
    intro n i k h
    simp only [aEnt, List.getElem?_replicate] at h
    split at h <;> cases h
  | cons w as ih =>
    intro n i k h
    unfold aEnt at h
    simp only [List.map_cons, lv_args, tr_cat]
    split at h
    · rename_i hv
      rw [if_pos (isL_cat.mpr hv)]
      match k, h with
      | 0, h => cases h; exact ⟨List.mem_cons_self, List.mem_cons_self⟩
      | 1, h => simp at h
      | k + 2, h =>
        simp only [List.getElem?_cons_succ] at h
        have h2 := ih (n - 2) (i + 2) k h
        rw [show i + (k + 2) = i + 2 + k by omega]
        exact ⟨List.mem_cons_of_mem _ h2.1, List.mem_cons_of_mem _ h2.2⟩
    · rename_i hv
      rw [if_neg (fun q => hv (isL_cat.mp q))]
      match k, h with
      | 0, h => cases h; exact ⟨List.mem_cons_self, List.mem_cons_self⟩
      | k + 1, h =>
        simp only [List.getElem?_cons_succ] at h
        have h2 := ih (n - 1) (i + 1) k h
        rw [show i + (k + 1) = i + 1 + k by omega]
        exact ⟨List.mem_cons_of_mem _ h2.1, List.mem_cons_of_mem _ h2.2⟩
theorem aSl_len {ad : Nat → Nat} : ∀ as : List aV, (lg_sl (as.map (tr ad))).length = aWd as := by
  intro as
  induction as with
  | nil => rfl
  | cons v as ih =>
    have e : aWd (v :: as) = catV v + aWd as := by simp [aWd]
    rw [e, ← ih]
    unfold lg_sl
    simp only [List.map_cons, List.flatMap_cons, List.length_append, tr_cat]
    rcases v with x | x | x <;> simp [catV]
set_option maxHeartbeats 4000000 in
/-- an abstract call is a call of the machine -/
theorem aCall_met {l : Launch} {D : va_G} {cA : Nat → ClassId} {ad : Nat → Nat} {A : Nat → Prop} {NC : Nat} : ∀ (d m : Nat) (as : List aV) (σ : aS) (K : aQ), aCall NC d m as σ K → (∀ v ∈ as, OkV v) → aMet l D cA ad A NC d m as σ K := by
  intro d
  induction d with
  | zero => intro m as σ K h; exact h.elim
  | succ d ih =>
    intro m as σ K h hok
    obtain ⟨⟨hm, hw⟩, hWp⟩ := h
    refine Met.ofW (cc := mC m) (maxL := mL m) (ret := mR m) (m_plain m hm) rfl ?_
    intro p e s mi args below meth c s₁ B hml hv
    obtain ⟨rfl, hI, hP, hK, hD, hN⟩ := hv
    have hts := atoms_spec (ws := mW m) B.pre
    have hown : s.vm.findClass (mY m).cls = some mi.cls := findClass_of_methodNamed B.named
    have hlocks := B.notSynchronized
    have F : aFx p s mi (as.map (tr ad)).toArray c (mC m) (mY m).cls (mL m) D cA := ⟨B.exec, B.bytes, hml, hown, fun w h => hts w (List.mem_cons_of_mem _ h), hK, hN⟩
    have S := hWp (aI p l e (headSpec (mW m) (aRm (d + 1))).room s mi (as.map (tr ad)).toArray below meth c 0 0 (mL m) NC D cA ad A (MQ below (aQc D cA ad A NC K) (as.map (tr ad)).toArray s 0 0 A)) (sound F ih ⟨⟨Nat.le_refl _, Nat.le_refl _⟩, Nat.zero_le _, Nat.zero_le _⟩ (fun h => Bool.noConfusion h) ?_ ?_ ?_)
    · rw [lg_entry_eq]
      have hl := lv_entry (as.map (tr ad)) (n := mL m) (by rw [aSl_len]; exact hw)
      refine S s.heap [] _ hI hP hD va_S.rf ⟨hl.1, aEnt_len as _ hw, hl.2.1, fun k v h => ?_⟩ (fun k v h => ?_) (fun v h => absurd h List.not_mem_nil)
      · have := (aEnt_get (ad := ad) as (mL m) 0 k h).1
        rw [Nat.zero_add] at this
        exact hl.2.2 _ this
      · exact hok v (aEnt_get (ad := ad) as (mL m) 0 k h).2
    · intro pc L σ' x hd h0 h1 H locs ls hI hP hD hS hl hL hT
      rcases h0 with h0 | ⟨h0, hx⟩
      · have hr := B.returns
        rw [mK_0 h0] at hr
        exact W.iret B.exec B.bytes hr (fun t ht hW => ⟨⟨some (vi x), σ', rfl, h1, fun v hv => by cases hv; exact OkT_head hT, hI, by rw [ht]; exact hP, va_K.moved hW.alike hK, hD, nw_warm hN hW⟩, hS.F ht⟩) hS.2.2 hd
      · have hr := B.returns
        rw [mK_1 h0] at hr
        exact W.zret B.exec B.bytes hr (by rcases hx with rfl | rfl <;> decide) (fun t ht hW => ⟨⟨some (vi x), σ', rfl, h1, fun v hv => by cases hv; exact OkT_head hT, hI, by rw [ht]; exact hP, va_K.moved hW.alike hK, hD, nw_warm hN hW⟩, hS.F ht⟩) hS.2.2 hd
    · intro pc L σ' x hd h0 h1 H locs ls hI hP hD hS hl hL hT
      have hr := B.returns
      rw [mK_2 h0] at hr
      exact W.lret B.exec B.bytes hr (fun t ht hW => ⟨⟨some (vl x), σ', rfl, h1, fun v hv => by cases hv; exact OkT_head hT, hI, by rw [ht]; exact hP, va_K.moved hW.alike hK, hD, nw_warm hN hW⟩, hS.F ht⟩) hS.2.2 hd
    · intro pc L σ' hd h0 h1 H locs ls hI hP hD hS hl hL hT
      have hr := B.returns
      rw [mK_3 h0] at hr
      exact W.vret B.exec B.bytes hr (fun t ht hW => ⟨⟨none, σ', rfl, h1, (fun v hv => absurd hv (by simp)), hI, by rw [ht]; exact hP, va_K.moved hW.alike hK, hD, nw_warm hN hW⟩, hS.F ht⟩) hS.2.2 hd
end
section
/-! links of the constant pools -/
theorem flX0_15 : fLink RX0 15 0 13 := ⟨by decide, by decide, by decide +kernel⟩
theorem flX0_25 : fLink RX0 25 0 0 := ⟨by decide, by decide, by decide +kernel⟩
theorem flX0_33 : fLink RX0 33 0 4 := ⟨by decide, by decide, by decide +kernel⟩
theorem flX0_37 : fLink RX0 37 0 5 := ⟨by decide, by decide, by decide +kernel⟩
theorem flX0_46 : fLink RX0 46 0 10 := ⟨by decide, by decide, by decide +kernel⟩
theorem flX0_49 : fLink RX0 49 0 6 := ⟨by decide, by decide, by decide +kernel⟩
theorem flX0_56 : fLink RX0 56 0 11 := ⟨by decide, by decide, by decide +kernel⟩
theorem flX0_62 : fLink RX0 62 0 1 := ⟨by decide, by decide, by decide +kernel⟩
theorem flX0_65 : fLink RX0 65 0 2 := ⟨by decide, by decide, by decide +kernel⟩
theorem flX0_68 : fLink RX0 68 0 3 := ⟨by decide, by decide, by decide +kernel⟩
theorem flX0_71 : fLink RX0 71 0 7 := ⟨by decide, by decide, by decide +kernel⟩
theorem flX0_74 : fLink RX0 74 0 8 := ⟨by decide, by decide, by decide +kernel⟩
theorem flX0_77 : fLink RX0 77 0 9 := ⟨by decide, by decide, by decide +kernel⟩
theorem flX0_9 : fLink RX0 9 0 12 := ⟨by decide, by decide, by decide +kernel⟩
theorem flX1_15 : fLink RX1 15 1 3 := ⟨by decide, by decide, by decide +kernel⟩
theorem flX1_19 : fLink RX1 19 1 1 := ⟨by decide, by decide, by decide +kernel⟩
theorem flX1_23 : fLink RX1 23 1 2 := ⟨by decide, by decide, by decide +kernel⟩
theorem flX1_9 : fLink RX1 9 1 0 := ⟨by decide, by decide, by decide +kernel⟩
theorem flX2_15 : fLink RX2 15 2 1 := ⟨by decide, by decide, by decide +kernel⟩
theorem flX2_19 : fLink RX2 19 2 3 := ⟨by decide, by decide, by decide +kernel⟩
theorem flX2_23 : fLink RX2 23 2 2 := ⟨by decide, by decide, by decide +kernel⟩
theorem flX2_41 : fLink RX2 41 0 4 := ⟨by decide, by decide, by decide +kernel⟩
theorem flX2_51 : fLink RX2 51 0 3 := ⟨by decide, by decide, by decide +kernel⟩
theorem flX2_9 : fLink RX2 9 2 0 := ⟨by decide, by decide, by decide +kernel⟩
theorem flX3_100 : fLink RX3 100 1 2 := ⟨by decide, by decide, by decide +kernel⟩
theorem flX3_103 : fLink RX3 103 1 3 := ⟨by decide, by decide, by decide +kernel⟩
theorem flX3_119 : fLink RX3 119 0 4 := ⟨by decide, by decide, by decide +kernel⟩
theorem flX3_13 : fLink RX3 13 3 2 := ⟨by decide, by decide, by decide +kernel⟩
theorem flX3_135 : fLink RX3 135 0 3 := ⟨by decide, by decide, by decide +kernel⟩
theorem flX3_138 : fLink RX3 138 0 11 := ⟨by decide, by decide, by decide +kernel⟩
theorem flX3_151 : fLink RX3 151 3 7 := ⟨by decide, by decide, by decide +kernel⟩
theorem flX3_157 : fLink RX3 157 0 1 := ⟨by decide, by decide, by decide +kernel⟩
theorem flX3_17 : fLink RX3 17 3 3 := ⟨by decide, by decide, by decide +kernel⟩
theorem flX3_173 : fLink RX3 173 0 2 := ⟨by decide, by decide, by decide +kernel⟩
theorem flX3_176 : fLink RX3 176 0 6 := ⟨by decide, by decide, by decide +kernel⟩
theorem flX3_20 : fLink RX3 20 3 4 := ⟨by decide, by decide, by decide +kernel⟩
theorem flX3_212 : fLink RX3 212 1 1 := ⟨by decide, by decide, by decide +kernel⟩
theorem flX3_228 : fLink RX3 228 3 10 := ⟨by decide, by decide, by decide +kernel⟩
theorem flX3_23 : fLink RX3 23 3 5 := ⟨by decide, by decide, by decide +kernel⟩
theorem flX3_26 : fLink RX3 26 3 8 := ⟨by decide, by decide, by decide +kernel⟩
theorem flX3_31 : fLink RX3 31 3 9 := ⟨by decide, by decide, by decide +kernel⟩
theorem flX3_39 : fLink RX3 39 3 11 := ⟨by decide, by decide, by decide +kernel⟩
theorem flX3_48 : fLink RX3 48 3 12 := ⟨by decide, by decide, by decide +kernel⟩
theorem flX3_55 : fLink RX3 55 3 1 := ⟨by decide, by decide, by decide +kernel⟩
theorem flX3_58 : fLink RX3 58 0 0 := ⟨by decide, by decide, by decide +kernel⟩
theorem flX3_69 : fLink RX3 69 0 9 := ⟨by decide, by decide, by decide +kernel⟩
theorem flX3_73 : fLink RX3 73 0 10 := ⟨by decide, by decide, by decide +kernel⟩
theorem flX3_87 : fLink RX3 87 3 6 := ⟨by decide, by decide, by decide +kernel⟩
theorem flX3_9 : fLink RX3 9 3 0 := ⟨by decide, by decide, by decide +kernel⟩
theorem flX3_93 : fLink RX3 93 1 0 := ⟨by decide, by decide, by decide +kernel⟩
theorem flX4_108 : fLink RX4 108 4 8 := ⟨by decide, by decide, by decide +kernel⟩
theorem flX4_13 : fLink RX4 13 4 5 := ⟨by decide, by decide, by decide +kernel⟩
theorem flX4_16 : fLink RX4 16 4 9 := ⟨by decide, by decide, by decide +kernel⟩
theorem flX4_185 : fLink RX4 185 4 15 := ⟨by decide, by decide, by decide +kernel⟩
theorem flX4_19 : fLink RX4 19 4 10 := ⟨by decide, by decide, by decide +kernel⟩
theorem flX4_22 : fLink RX4 22 4 11 := ⟨by decide, by decide, by decide +kernel⟩
theorem flX4_222 : fLink RX4 222 4 23 := ⟨by decide, by decide, by decide +kernel⟩
theorem flX4_25 : fLink RX4 25 4 12 := ⟨by decide, by decide, by decide +kernel⟩
theorem flX4_29 : fLink RX4 29 4 13 := ⟨by decide, by decide, by decide +kernel⟩
theorem flX4_32 : fLink RX4 32 4 14 := ⟨by decide, by decide, by decide +kernel⟩
theorem flX4_35 : fLink RX4 35 4 16 := ⟨by decide, by decide, by decide +kernel⟩
theorem flX4_38 : fLink RX4 38 4 17 := ⟨by decide, by decide, by decide +kernel⟩
theorem flX4_41 : fLink RX4 41 4 18 := ⟨by decide, by decide, by decide +kernel⟩
theorem flX4_44 : fLink RX4 44 4 19 := ⟨by decide, by decide, by decide +kernel⟩
theorem flX4_47 : fLink RX4 47 4 20 := ⟨by decide, by decide, by decide +kernel⟩
theorem flX4_50 : fLink RX4 50 4 21 := ⟨by decide, by decide, by decide +kernel⟩
theorem flX4_53 : fLink RX4 53 4 22 := ⟨by decide, by decide, by decide +kernel⟩
theorem flX4_56 : fLink RX4 56 4 6 := ⟨by decide, by decide, by decide +kernel⟩
theorem flX4_60 : fLink RX4 60 4 7 := ⟨by decide, by decide, by decide +kernel⟩
theorem flX4_69 : fLink RX4 69 4 1 := ⟨by decide, by decide, by decide +kernel⟩
theorem flX4_7 : fLink RX4 7 4 0 := ⟨by decide, by decide, by decide +kernel⟩
theorem flX4_72 : fLink RX4 72 4 4 := ⟨by decide, by decide, by decide +kernel⟩
theorem flX4_75 : fLink RX4 75 4 3 := ⟨by decide, by decide, by decide +kernel⟩
theorem flX4_78 : fLink RX4 78 4 2 := ⟨by decide, by decide, by decide +kernel⟩
theorem klJ6_265 : kLink RJ6 265 (1431655765) := ⟨by unfold in32; decide, by decide +kernel⟩
theorem klJ6_266 : kLink RJ6 266 (858993459) := ⟨by unfold in32; decide, by decide +kernel⟩
theorem klJ6_267 : kLink RJ6 267 (252645135) := ⟨by unfold in32; decide, by decide +kernel⟩
theorem klX3_191 : kLink RX3 191 (1103515245) := ⟨by unfold in32; decide, by decide +kernel⟩
theorem klX3_211 : kLink RX3 211 (-2147483648) := ⟨by unfold in32; decide, by decide +kernel⟩
theorem klX4_142 : kLink RX4 142 (1000000) := ⟨by unfold in32; decide, by decide +kernel⟩
theorem klX4_218 : kLink RX4 218 (1103515245) := ⟨by unfold in32; decide, by decide +kernel⟩
theorem klX4_232 : kLink RX4 232 (-2147483648) := ⟨by unfold in32; decide, by decide +kernel⟩
theorem llJ13_314 : lLink RJ13 314 6148914691236517205#64 := by unfold lLink; decide +kernel
theorem llJ13_316 : lLink RJ13 316 3689348814741910323#64 := by unfold lLink; decide +kernel
theorem llJ13_318 : lLink RJ13 318 1085102592571150095#64 := by unfold lLink; decide +kernel
theorem llX0_44 : lLink RX0 44 18446744073709551615#64 := by unfold lLink; decide +kernel
theorem llX3_145 : lLink RX3 145 18446744073709551615#64 := by unfold lLink; decide +kernel
theorem llX3_184 : lLink RX3 184 9223372036854775810#64 := by unfold lLink; decide +kernel
theorem llX3_189 : lLink RX3 189 16#64 := by unfold lLink; decide +kernel
theorem llX3_231 : lLink RX3 231 17#64 := by unfold lLink; decide +kernel
theorem llX3_296 : lLink RX3 296 31#64 := by unfold lLink; decide +kernel
theorem llX4_236 : lLink RX4 236 31#64 := by unfold lLink; decide +kernel
theorem llX4_241 : lLink RX4 241 17#64 := by unfold lLink; decide +kernel
theorem llX4_63 : lLink RX4 63 9223372036854775808#64 := by unfold lLink; decide +kernel
theorem okX0_init : mOK mX0_init 0 := ⟨by decide +kernel, ⟨by decide +kernel, by decide +kernel, by decide +kernel⟩, by decide⟩
theorem okX0_clear : mOK mX0_clear 0 := ⟨by decide +kernel, ⟨by decide +kernel, by decide +kernel, by decide +kernel⟩, by decide⟩
theorem okX0_endsRow : mOK mX0_endsRow 1 := ⟨by decide +kernel, ⟨by decide +kernel, by decide +kernel, by decide +kernel⟩, by decide⟩
theorem okX0_kindOf : mOK mX0_kindOf 1 := ⟨by decide +kernel, ⟨by decide +kernel, by decide +kernel, by decide +kernel⟩, by decide⟩
theorem okX3_bit : mOK mX3_bit 1 := ⟨by decide +kernel, ⟨by decide +kernel, by decide +kernel, by decide +kernel⟩, by decide⟩
theorem okX0_dig : mOK mX0_dig 1 := ⟨by decide +kernel, ⟨by decide +kernel, by decide +kernel, by decide +kernel⟩, by decide⟩
theorem okX0_spell : mOK mX0_spell 2 := ⟨by decide +kernel, ⟨by decide +kernel, by decide +kernel, by decide +kernel⟩, by decide⟩
theorem okX0_markRows : mOK mX0_markRows 1 := ⟨by decide +kernel, ⟨by decide +kernel, by decide +kernel, by decide +kernel⟩, by decide⟩
theorem okX0_loose : mOK mX0_loose 1 := ⟨by decide +kernel, ⟨by decide +kernel, by decide +kernel, by decide +kernel⟩, by decide⟩
theorem okX0_soaked : mOK mX0_soaked 2 := ⟨by decide +kernel, ⟨by decide +kernel, by decide +kernel, by decide +kernel⟩, by decide⟩
theorem okX0_markMoves : mOK mX0_markMoves 0 := ⟨by decide +kernel, ⟨by decide +kernel, by decide +kernel, by decide +kernel⟩, by decide⟩
theorem okX0_survey : mOK mX0_survey 3 := ⟨by decide +kernel, ⟨by decide +kernel, by decide +kernel, by decide +kernel⟩, by decide⟩
theorem okX0_isCell : mOK mX0_isCell 1 := ⟨by decide +kernel, ⟨by decide +kernel, by decide +kernel, by decide +kernel⟩, by decide⟩
theorem okX3_has : mOK mX3_has 2 := ⟨by decide +kernel, ⟨by decide +kernel, by decide +kernel, by decide +kernel⟩, by decide⟩
theorem okX0_kind : mOK mX0_kind 1 := ⟨by decide +kernel, ⟨by decide +kernel, by decide +kernel, by decide +kernel⟩, by decide⟩
theorem okX0_fallen : mOK mX0_fallen 1 := ⟨by decide +kernel, ⟨by decide +kernel, by decide +kernel, by decide +kernel⟩, by decide⟩
theorem okX0_placeBehind : mOK mX0_placeBehind 2 := ⟨by decide +kernel, ⟨by decide +kernel, by decide +kernel, by decide +kernel⟩, by decide⟩
theorem okX0_falls : mOK mX0_falls 1 := ⟨by decide +kernel, ⟨by decide +kernel, by decide +kernel, by decide +kernel⟩, by decide⟩
theorem okX0_goneTo : mOK mX0_goneTo 2 := ⟨by decide +kernel, ⟨by decide +kernel, by decide +kernel, by decide +kernel⟩, by decide⟩
theorem okX0_moveSteps : mOK mX0_moveSteps 3 := ⟨by decide +kernel, ⟨by decide +kernel, by decide +kernel, by decide +kernel⟩, by decide⟩
theorem okX0_kicked : mOK mX0_kicked 2 := ⟨by decide +kernel, ⟨by decide +kernel, by decide +kernel, by decide +kernel⟩, by decide⟩
theorem okX0_springsThatWet : mOK mX0_springsThatWet 1 := ⟨by decide +kernel, ⟨by decide +kernel, by decide +kernel, by decide +kernel⟩, by decide⟩
theorem okX0_keepsDry : mOK mX0_keepsDry 2 := ⟨by decide +kernel, ⟨by decide +kernel, by decide +kernel, by decide +kernel⟩, by decide⟩
theorem okX0_plugsFor : mOK mX0_plugsFor 1 := ⟨by decide +kernel, ⟨by decide +kernel, by decide +kernel, by decide +kernel⟩, by decide⟩
theorem okX1_init : mOK mX1_init 0 := ⟨by decide +kernel, ⟨by decide +kernel, by decide +kernel, by decide +kernel⟩, by decide⟩
theorem okX1_begin : mOK mX1_begin 2 := ⟨by decide +kernel, ⟨by decide +kernel, by decide +kernel, by decide +kernel⟩, by decide⟩
theorem okX1_holds : mOK mX1_holds 2 := ⟨by decide +kernel, ⟨by decide +kernel, by decide +kernel, by decide +kernel⟩, by decide⟩
theorem okX1_store : mOK mX1_store 2 := ⟨by decide +kernel, ⟨by decide +kernel, by decide +kernel, by decide +kernel⟩, by decide⟩
theorem okX2_init : mOK mX2_init 1 := ⟨by decide +kernel, ⟨by decide +kernel, by decide +kernel, by decide +kernel⟩, by decide⟩
theorem okX2_renew : mOK mX2_renew 1 := ⟨by decide +kernel, ⟨by decide +kernel, by decide +kernel, by decide +kernel⟩, by decide⟩
theorem okX2_isSooner : mOK mX2_isSooner 2 := ⟨by decide +kernel, ⟨by decide +kernel, by decide +kernel, by decide +kernel⟩, by decide⟩
theorem okX2_goOn : mOK mX2_goOn 1 := ⟨by decide +kernel, ⟨by decide +kernel, by decide +kernel, by decide +kernel⟩, by decide⟩
theorem okX2_measure : mOK mX2_measure 1 := ⟨by decide +kernel, ⟨by decide +kernel, by decide +kernel, by decide +kernel⟩, by decide⟩
theorem okX2_between : mOK mX2_between 2 := ⟨by decide +kernel, ⟨by decide +kernel, by decide +kernel, by decide +kernel⟩, by decide⟩
theorem okX3_renew : mOK mX3_renew 0 := ⟨by decide +kernel, ⟨by decide +kernel, by decide +kernel, by decide +kernel⟩, by decide⟩
theorem okX3_init : mOK mX3_init 0 := ⟨by decide +kernel, ⟨by decide +kernel, by decide +kernel, by decide +kernel⟩, by decide⟩
theorem okX3_type : mOK mX3_type 1 := ⟨by decide +kernel, ⟨by decide +kernel, by decide +kernel, by decide +kernel⟩, by decide⟩
theorem okX3_wipe : mOK mX3_wipe 0 := ⟨by decide +kernel, ⟨by decide +kernel, by decide +kernel, by decide +kernel⟩, by decide⟩
theorem okX3_undo : mOK mX3_undo 0 := ⟨by decide +kernel, ⟨by decide +kernel, by decide +kernel, by decide +kernel⟩, by decide⟩
theorem okX3_fault : mOK mX3_fault 0 := ⟨by decide +kernel, ⟨by decide +kernel, by decide +kernel, by decide +kernel⟩, by decide⟩
theorem okX3_asNumber : mOK mX3_asNumber 1 := ⟨by decide +kernel, ⟨by decide +kernel, by decide +kernel, by decide +kernel⟩, by decide⟩
theorem okX3_cell : mOK mX3_cell 2 := ⟨by decide +kernel, ⟨by decide +kernel, by decide +kernel, by decide +kernel⟩, by decide⟩
theorem okX3_set : mOK mX3_set 2 := ⟨by decide +kernel, ⟨by decide +kernel, by decide +kernel, by decide +kernel⟩, by decide⟩
theorem okX3_isStep : mOK mX3_isStep 1 := ⟨by decide +kernel, ⟨by decide +kernel, by decide +kernel, by decide +kernel⟩, by decide⟩
theorem okX3_thing : mOK mX3_thing 2 := ⟨by decide +kernel, ⟨by decide +kernel, by decide +kernel, by decide +kernel⟩, by decide⟩
theorem okX3_back : mOK mX3_back 0 := ⟨by decide +kernel, ⟨by decide +kernel, by decide +kernel, by decide +kernel⟩, by decide⟩
theorem okX3_isSheet : mOK mX3_isSheet 1 := ⟨by decide +kernel, ⟨by decide +kernel, by decide +kernel, by decide +kernel⟩, by decide⟩
theorem okX3_found : mOK mX3_found 1 := ⟨by decide +kernel, ⟨by decide +kernel, by decide +kernel, by decide +kernel⟩, by decide⟩
theorem okX3_read : mOK mX3_read 1 := ⟨by decide +kernel, ⟨by decide +kernel, by decide +kernel, by decide +kernel⟩, by decide⟩
theorem okX3_isThing : mOK mX3_isThing 1 := ⟨by decide +kernel, ⟨by decide +kernel, by decide +kernel, by decide +kernel⟩, by decide⟩
theorem okX3_at : mOK mX3_at 2 := ⟨by decide +kernel, ⟨by decide +kernel, by decide +kernel, by decide +kernel⟩, by decide⟩
theorem okX3_rests : mOK mX3_rests 2 := ⟨by decide +kernel, ⟨by decide +kernel, by decide +kernel, by decide +kernel⟩, by decide⟩
theorem okX3_longest : mOK mX3_longest 0 := ⟨by decide +kernel, ⟨by decide +kernel, by decide +kernel, by decide +kernel⟩, by decide⟩
theorem okX3_meet : mOK mX3_meet 2 := ⟨by decide +kernel, ⟨by decide +kernel, by decide +kernel, by decide +kernel⟩, by decide⟩
theorem okX3_way : mOK mX3_way 2 := ⟨by decide +kernel, ⟨by decide +kernel, by decide +kernel, by decide +kernel⟩, by decide⟩
theorem okX3_next : mOK mX3_next 2 := ⟨by decide +kernel, ⟨by decide +kernel, by decide +kernel, by decide +kernel⟩, by decide⟩
theorem okX3_race : mOK mX3_race 3 := ⟨by decide +kernel, ⟨by decide +kernel, by decide +kernel, by decide +kernel⟩, by decide⟩
theorem okX3_reach : mOK mX3_reach 1 := ⟨by decide +kernel, ⟨by decide +kernel, by decide +kernel, by decide +kernel⟩, by decide⟩
theorem okX3_wet : mOK mX3_wet 1 := ⟨by decide +kernel, ⟨by decide +kernel, by decide +kernel, by decide +kernel⟩, by decide⟩
theorem okJ13_bitCount_95d88 : mOK mJ13_bitCount_95d88 1 := ⟨by decide +kernel, ⟨by decide +kernel, by decide +kernel, by decide +kernel⟩, by decide⟩
theorem okX3_sizeOrItem : mOK mX3_sizeOrItem 2 := ⟨by decide +kernel, ⟨by decide +kernel, by decide +kernel, by decide +kernel⟩, by decide⟩
theorem okX3_plug : mOK mX3_plug 2 := ⟨by decide +kernel, ⟨by decide +kernel, by decide +kernel, by decide +kernel⟩, by decide⟩
theorem okX3_middlesUpAt : mOK mX3_middlesUpAt 1 := ⟨by decide +kernel, ⟨by decide +kernel, by decide +kernel, by decide +kernel⟩, by decide⟩
theorem okX3_plumb : mOK mX3_plumb 2 := ⟨by decide +kernel, ⟨by decide +kernel, by decide +kernel, by decide +kernel⟩, by decide⟩
theorem okX3_forget : mOK mX3_forget 0 := ⟨by decide +kernel, ⟨by decide +kernel, by decide +kernel, by decide +kernel⟩, by decide⟩
theorem okX3_where : mOK mX3_where 0 := ⟨by decide +kernel, ⟨by decide +kernel, by decide +kernel, by decide +kernel⟩, by decide⟩
theorem okJ6_bitCount_0f7a4 : mOK mJ6_bitCount_0f7a4 1 := ⟨by decide +kernel, ⟨by decide +kernel, by decide +kernel, by decide +kernel⟩, by decide⟩
theorem okX3_hang : mOK mX3_hang 0 := ⟨by decide +kernel, ⟨by decide +kernel, by decide +kernel, by decide +kernel⟩, by decide⟩
theorem okX3_from : mOK mX3_from 3 := ⟨by decide +kernel, ⟨by decide +kernel, by decide +kernel, by decide +kernel⟩, by decide⟩
theorem okX3_joined : mOK mX3_joined 0 := ⟨by decide +kernel, ⟨by decide +kernel, by decide +kernel, by decide +kernel⟩, by decide⟩
theorem okX3_like : mOK mX3_like 1 := ⟨by decide +kernel, ⟨by decide +kernel, by decide +kernel, by decide +kernel⟩, by decide⟩
theorem okX3_flood : mOK mX3_flood 3 := ⟨by decide +kernel, ⟨by decide +kernel, by decide +kernel, by decide +kernel⟩, by decide⟩
theorem okX3_kicks : mOK mX3_kicks 3 := ⟨by decide +kernel, ⟨by decide +kernel, by decide +kernel, by decide +kernel⟩, by decide⟩
theorem okX3_isForm : mOK mX3_isForm 1 := ⟨by decide +kernel, ⟨by decide +kernel, by decide +kernel, by decide +kernel⟩, by decide⟩
theorem okX3_sheet : mOK mX3_sheet 3 := ⟨by decide +kernel, ⟨by decide +kernel, by decide +kernel, by decide +kernel⟩, by decide⟩
theorem okX3_lose : mOK mX3_lose 1 := ⟨by decide +kernel, ⟨by decide +kernel, by decide +kernel, by decide +kernel⟩, by decide⟩
theorem okX3_refusalOfItem : mOK mX3_refusalOfItem 3 := ⟨by decide +kernel, ⟨by decide +kernel, by decide +kernel, by decide +kernel⟩, by decide⟩
theorem okX3_put : mOK mX3_put 4 := ⟨by decide +kernel, ⟨by decide +kernel, by decide +kernel, by decide +kernel⟩, by decide⟩
theorem okX3_get : mOK mX3_get 3 := ⟨by decide +kernel, ⟨by decide +kernel, by decide +kernel, by decide +kernel⟩, by decide⟩
theorem okX3_copy : mOK mX3_copy 5 := ⟨by decide +kernel, ⟨by decide +kernel, by decide +kernel, by decide +kernel⟩, by decide⟩
theorem okX3_write : mOK mX3_write 2 := ⟨by decide +kernel, ⟨by decide +kernel, by decide +kernel, by decide +kernel⟩, by decide⟩
theorem okX3_count : mOK mX3_count 1 := ⟨by decide +kernel, ⟨by decide +kernel, by decide +kernel, by decide +kernel⟩, by decide⟩
theorem okX3_mixed : mOK mX3_mixed 2 := ⟨by decide +kernel, ⟨by decide +kernel, by decide +kernel, by decide +kernel⟩, by decide⟩
theorem okX3_digest : mOK mX3_digest 0 := ⟨by decide +kernel, ⟨by decide +kernel, by decide +kernel, by decide +kernel⟩, by decide⟩
theorem okX4_init : mOK mX4_init 0 := ⟨by decide +kernel, ⟨by decide +kernel, by decide +kernel, by decide +kernel⟩, by decide⟩
theorem okX4_in : mOK mX4_in 3 := ⟨by decide +kernel, ⟨by decide +kernel, by decide +kernel, by decide +kernel⟩, by decide⟩
theorem okX4_isIn : mOK mX4_isIn 2 := ⟨by decide +kernel, ⟨by decide +kernel, by decide +kernel, by decide +kernel⟩, by decide⟩
theorem okX4_no : mOK mX4_no 1 := ⟨by decide +kernel, ⟨by decide +kernel, by decide +kernel, by decide +kernel⟩, by decide⟩
theorem okX4_lowest : mOK mX4_lowest 3 := ⟨by decide +kernel, ⟨by decide +kernel, by decide +kernel, by decide +kernel⟩, by decide⟩
theorem okX4_type : mOK mX4_type 1 := ⟨by decide +kernel, ⟨by decide +kernel, by decide +kernel, by decide +kernel⟩, by decide⟩
theorem okX4_wipe : mOK mX4_wipe 0 := ⟨by decide +kernel, ⟨by decide +kernel, by decide +kernel, by decide +kernel⟩, by decide⟩
theorem okX4_undo : mOK mX4_undo 0 := ⟨by decide +kernel, ⟨by decide +kernel, by decide +kernel, by decide +kernel⟩, by decide⟩
theorem okX4_kindOf : mOK mX4_kindOf 1 := ⟨by decide +kernel, ⟨by decide +kernel, by decide +kernel, by decide +kernel⟩, by decide⟩
theorem okX4_faultNow : mOK mX4_faultNow 0 := ⟨by decide +kernel, ⟨by decide +kernel, by decide +kernel, by decide +kernel⟩, by decide⟩
theorem okX4_fault : mOK mX4_fault 0 := ⟨by decide +kernel, ⟨by decide +kernel, by decide +kernel, by decide +kernel⟩, by decide⟩
theorem okX4_reads : mOK mX4_reads 0 := ⟨by decide +kernel, ⟨by decide +kernel, by decide +kernel, by decide +kernel⟩, by decide⟩
theorem okX4_isCell : mOK mX4_isCell 1 := ⟨by decide +kernel, ⟨by decide +kernel, by decide +kernel, by decide +kernel⟩, by decide⟩
theorem okX4_isOpen : mOK mX4_isOpen 1 := ⟨by decide +kernel, ⟨by decide +kernel, by decide +kernel, by decide +kernel⟩, by decide⟩
theorem okX4_isUp : mOK mX4_isUp 1 := ⟨by decide +kernel, ⟨by decide +kernel, by decide +kernel, by decide +kernel⟩, by decide⟩
theorem okX4_below : mOK mX4_below 1 := ⟨by decide +kernel, ⟨by decide +kernel, by decide +kernel, by decide +kernel⟩, by decide⟩
theorem okX4_isHeld : mOK mX4_isHeld 1 := ⟨by decide +kernel, ⟨by decide +kernel, by decide +kernel, by decide +kernel⟩, by decide⟩
theorem okX4_cell : mOK mX4_cell 2 := ⟨by decide +kernel, ⟨by decide +kernel, by decide +kernel, by decide +kernel⟩, by decide⟩
theorem okX4_set : mOK mX4_set 2 := ⟨by decide +kernel, ⟨by decide +kernel, by decide +kernel, by decide +kernel⟩, by decide⟩
theorem okX4_thing : mOK mX4_thing 2 := ⟨by decide +kernel, ⟨by decide +kernel, by decide +kernel, by decide +kernel⟩, by decide⟩
theorem okX4_back : mOK mX4_back 0 := ⟨by decide +kernel, ⟨by decide +kernel, by decide +kernel, by decide +kernel⟩, by decide⟩
theorem okX4_isSheet : mOK mX4_isSheet 1 := ⟨by decide +kernel, ⟨by decide +kernel, by decide +kernel, by decide +kernel⟩, by decide⟩
theorem okX4_meets : mOK mX4_meets 1 := ⟨by decide +kernel, ⟨by decide +kernel, by decide +kernel, by decide +kernel⟩, by decide⟩
theorem okX4_read : mOK mX4_read 1 := ⟨by decide +kernel, ⟨by decide +kernel, by decide +kernel, by decide +kernel⟩, by decide⟩
theorem okX4_isThing : mOK mX4_isThing 1 := ⟨by decide +kernel, ⟨by decide +kernel, by decide +kernel, by decide +kernel⟩, by decide⟩
theorem okX4_fallen : mOK mX4_fallen 2 := ⟨by decide +kernel, ⟨by decide +kernel, by decide +kernel, by decide +kernel⟩, by decide⟩
theorem okX4_atOf : mOK mX4_atOf 2 := ⟨by decide +kernel, ⟨by decide +kernel, by decide +kernel, by decide +kernel⟩, by decide⟩
theorem okX4_at : mOK mX4_at 2 := ⟨by decide +kernel, ⟨by decide +kernel, by decide +kernel, by decide +kernel⟩, by decide⟩
theorem okX4_restsOf : mOK mX4_restsOf 2 := ⟨by decide +kernel, ⟨by decide +kernel, by decide +kernel, by decide +kernel⟩, by decide⟩
theorem okX4_rests : mOK mX4_rests 2 := ⟨by decide +kernel, ⟨by decide +kernel, by decide +kernel, by decide +kernel⟩, by decide⟩
theorem okX4_longestNow : mOK mX4_longestNow 0 := ⟨by decide +kernel, ⟨by decide +kernel, by decide +kernel, by decide +kernel⟩, by decide⟩
theorem okX4_longest : mOK mX4_longest 0 := ⟨by decide +kernel, ⟨by decide +kernel, by decide +kernel, by decide +kernel⟩, by decide⟩
theorem okX4_meetOf : mOK mX4_meetOf 2 := ⟨by decide +kernel, ⟨by decide +kernel, by decide +kernel, by decide +kernel⟩, by decide⟩
theorem okX4_meet : mOK mX4_meet 2 := ⟨by decide +kernel, ⟨by decide +kernel, by decide +kernel, by decide +kernel⟩, by decide⟩
theorem okX4_target : mOK mX4_target 2 := ⟨by decide +kernel, ⟨by decide +kernel, by decide +kernel, by decide +kernel⟩, by decide⟩
theorem okX4_cost : mOK mX4_cost 2 := ⟨by decide +kernel, ⟨by decide +kernel, by decide +kernel, by decide +kernel⟩, by decide⟩
theorem okX4_laysFar : mOK mX4_laysFar 1 := ⟨by decide +kernel, ⟨by decide +kernel, by decide +kernel, by decide +kernel⟩, by decide⟩
theorem okX4_wayOf : mOK mX4_wayOf 2 := ⟨by decide +kernel, ⟨by decide +kernel, by decide +kernel, by decide +kernel⟩, by decide⟩
theorem okX4_way : mOK mX4_way 2 := ⟨by decide +kernel, ⟨by decide +kernel, by decide +kernel, by decide +kernel⟩, by decide⟩
theorem okX4_nextOf : mOK mX4_nextOf 2 := ⟨by decide +kernel, ⟨by decide +kernel, by decide +kernel, by decide +kernel⟩, by decide⟩
theorem okX4_next : mOK mX4_next 2 := ⟨by decide +kernel, ⟨by decide +kernel, by decide +kernel, by decide +kernel⟩, by decide⟩
theorem okX4_raceOf : mOK mX4_raceOf 3 := ⟨by decide +kernel, ⟨by decide +kernel, by decide +kernel, by decide +kernel⟩, by decide⟩
theorem okX4_race : mOK mX4_race 3 := ⟨by decide +kernel, ⟨by decide +kernel, by decide +kernel, by decide +kernel⟩, by decide⟩
theorem okX4_reachOf : mOK mX4_reachOf 1 := ⟨by decide +kernel, ⟨by decide +kernel, by decide +kernel, by decide +kernel⟩, by decide⟩
theorem okX4_reach : mOK mX4_reach 1 := ⟨by decide +kernel, ⟨by decide +kernel, by decide +kernel, by decide +kernel⟩, by decide⟩
theorem okX4_flows : mOK mX4_flows 1 := ⟨by decide +kernel, ⟨by decide +kernel, by decide +kernel, by decide +kernel⟩, by decide⟩
theorem okX4_wetOf : mOK mX4_wetOf 1 := ⟨by decide +kernel, ⟨by decide +kernel, by decide +kernel, by decide +kernel⟩, by decide⟩
theorem okX4_wet : mOK mX4_wet 1 := ⟨by decide +kernel, ⟨by decide +kernel, by decide +kernel, by decide +kernel⟩, by decide⟩
theorem okX4_plugs : mOK mX4_plugs 3 := ⟨by decide +kernel, ⟨by decide +kernel, by decide +kernel, by decide +kernel⟩, by decide⟩
theorem okX4_mayPlug : mOK mX4_mayPlug 2 := ⟨by decide +kernel, ⟨by decide +kernel, by decide +kernel, by decide +kernel⟩, by decide⟩
theorem okX4_plugBy : mOK mX4_plugBy 1 := ⟨by decide +kernel, ⟨by decide +kernel, by decide +kernel, by decide +kernel⟩, by decide⟩
theorem okX4_plugOf : mOK mX4_plugOf 2 := ⟨by decide +kernel, ⟨by decide +kernel, by decide +kernel, by decide +kernel⟩, by decide⟩
theorem okX4_plug : mOK mX4_plug 2 := ⟨by decide +kernel, ⟨by decide +kernel, by decide +kernel, by decide +kernel⟩, by decide⟩
theorem okX4_plumb : mOK mX4_plumb 2 := ⟨by decide +kernel, ⟨by decide +kernel, by decide +kernel, by decide +kernel⟩, by decide⟩
theorem okX4_forget : mOK mX4_forget 0 := ⟨by decide +kernel, ⟨by decide +kernel, by decide +kernel, by decide +kernel⟩, by decide⟩
theorem okX4_whereNow : mOK mX4_whereNow 0 := ⟨by decide +kernel, ⟨by decide +kernel, by decide +kernel, by decide +kernel⟩, by decide⟩
theorem okX4_where : mOK mX4_where 0 := ⟨by decide +kernel, ⟨by decide +kernel, by decide +kernel, by decide +kernel⟩, by decide⟩
theorem okX4_hangNow : mOK mX4_hangNow 0 := ⟨by decide +kernel, ⟨by decide +kernel, by decide +kernel, by decide +kernel⟩, by decide⟩
theorem okX4_hang : mOK mX4_hang 0 := ⟨by decide +kernel, ⟨by decide +kernel, by decide +kernel, by decide +kernel⟩, by decide⟩
theorem okX4_fromOf : mOK mX4_fromOf 3 := ⟨by decide +kernel, ⟨by decide +kernel, by decide +kernel, by decide +kernel⟩, by decide⟩
theorem okX4_from : mOK mX4_from 3 := ⟨by decide +kernel, ⟨by decide +kernel, by decide +kernel, by decide +kernel⟩, by decide⟩
theorem okX4_joinedNow : mOK mX4_joinedNow 0 := ⟨by decide +kernel, ⟨by decide +kernel, by decide +kernel, by decide +kernel⟩, by decide⟩
theorem okX4_joined : mOK mX4_joined 0 := ⟨by decide +kernel, ⟨by decide +kernel, by decide +kernel, by decide +kernel⟩, by decide⟩
theorem okX4_likeOf : mOK mX4_likeOf 1 := ⟨by decide +kernel, ⟨by decide +kernel, by decide +kernel, by decide +kernel⟩, by decide⟩
theorem okX4_like : mOK mX4_like 1 := ⟨by decide +kernel, ⟨by decide +kernel, by decide +kernel, by decide +kernel⟩, by decide⟩
theorem okX4_springs : mOK mX4_springs 0 := ⟨by decide +kernel, ⟨by decide +kernel, by decide +kernel, by decide +kernel⟩, by decide⟩
theorem okX4_floodOf : mOK mX4_floodOf 3 := ⟨by decide +kernel, ⟨by decide +kernel, by decide +kernel, by decide +kernel⟩, by decide⟩
theorem okX4_flood : mOK mX4_flood 3 := ⟨by decide +kernel, ⟨by decide +kernel, by decide +kernel, by decide +kernel⟩, by decide⟩
theorem okX4_kicksOf : mOK mX4_kicksOf 3 := ⟨by decide +kernel, ⟨by decide +kernel, by decide +kernel, by decide +kernel⟩, by decide⟩
theorem okX4_kicks : mOK mX4_kicks 3 := ⟨by decide +kernel, ⟨by decide +kernel, by decide +kernel, by decide +kernel⟩, by decide⟩
theorem okX4_sheet : mOK mX4_sheet 3 := ⟨by decide +kernel, ⟨by decide +kernel, by decide +kernel, by decide +kernel⟩, by decide⟩
theorem okX4_lose : mOK mX4_lose 1 := ⟨by decide +kernel, ⟨by decide +kernel, by decide +kernel, by decide +kernel⟩, by decide⟩
theorem okX4_lacks : mOK mX4_lacks 3 := ⟨by decide +kernel, ⟨by decide +kernel, by decide +kernel, by decide +kernel⟩, by decide⟩
theorem okX4_keep : mOK mX4_keep 3 := ⟨by decide +kernel, ⟨by decide +kernel, by decide +kernel, by decide +kernel⟩, by decide⟩
theorem okX4_put : mOK mX4_put 4 := ⟨by decide +kernel, ⟨by decide +kernel, by decide +kernel, by decide +kernel⟩, by decide⟩
theorem okX4_get : mOK mX4_get 3 := ⟨by decide +kernel, ⟨by decide +kernel, by decide +kernel, by decide +kernel⟩, by decide⟩
theorem okX4_copy : mOK mX4_copy 5 := ⟨by decide +kernel, ⟨by decide +kernel, by decide +kernel, by decide +kernel⟩, by decide⟩
theorem okX4_write : mOK mX4_write 2 := ⟨by decide +kernel, ⟨by decide +kernel, by decide +kernel, by decide +kernel⟩, by decide⟩
theorem okX4_sumOf : mOK mX4_sumOf 1 := ⟨by decide +kernel, ⟨by decide +kernel, by decide +kernel, by decide +kernel⟩, by decide⟩
theorem okX4_count : mOK mX4_count 1 := ⟨by decide +kernel, ⟨by decide +kernel, by decide +kernel, by decide +kernel⟩, by decide⟩
theorem okX4_cellDigest : mOK mX4_cellDigest 2 := ⟨by decide +kernel, ⟨by decide +kernel, by decide +kernel, by decide +kernel⟩, by decide⟩
theorem okX4_digest : mOK mX4_digest 0 := ⟨by decide +kernel, ⟨by decide +kernel, by decide +kernel, by decide +kernel⟩, by decide⟩
theorem okJ9_max_7cf53 : mOK mJ9_max_7cf53 2 := ⟨by decide +kernel, ⟨by decide +kernel, by decide +kernel, by decide +kernel⟩, by decide⟩
theorem okJ9_min_7cf53 : mOK mJ9_min_7cf53 2 := ⟨by decide +kernel, ⟨by decide +kernel, by decide +kernel, by decide +kernel⟩, by decide⟩
theorem vlL_100 : vLink RL 100 mX4_forget 4 0 := ⟨by decide +kernel, by decide +kernel, by decide +kernel, by decide +kernel, by rfl, by decide, okX4_forget⟩
theorem vlL_101 : vLink RL 101 mX3_where 3 0 := ⟨by decide +kernel, by decide +kernel, by decide +kernel, by decide +kernel, by rfl, by decide, okX3_where⟩
theorem vlL_104 : vLink RL 104 mX4_where 4 0 := ⟨by decide +kernel, by decide +kernel, by decide +kernel, by decide +kernel, by rfl, by decide, okX4_where⟩
theorem vlL_105 : vLink RL 105 mX3_hang 3 0 := ⟨by decide +kernel, by decide +kernel, by decide +kernel, by decide +kernel, by rfl, by decide, okX3_hang⟩
theorem vlL_108 : vLink RL 108 mX4_hang 4 0 := ⟨by decide +kernel, by decide +kernel, by decide +kernel, by decide +kernel, by rfl, by decide, okX4_hang⟩
theorem vlL_109 : vLink RL 109 mX3_from 3 3 := ⟨by decide +kernel, by decide +kernel, by decide +kernel, by decide +kernel, by rfl, by decide, okX3_from⟩
theorem vlL_112 : vLink RL 112 mX4_from 4 3 := ⟨by decide +kernel, by decide +kernel, by decide +kernel, by decide +kernel, by rfl, by decide, okX4_from⟩
theorem vlL_113 : vLink RL 113 mX3_joined 3 0 := ⟨by decide +kernel, by decide +kernel, by decide +kernel, by decide +kernel, by rfl, by decide, okX3_joined⟩
theorem vlL_116 : vLink RL 116 mX4_joined 4 0 := ⟨by decide +kernel, by decide +kernel, by decide +kernel, by decide +kernel, by rfl, by decide, okX4_joined⟩
theorem vlL_117 : vLink RL 117 mX3_like 3 1 := ⟨by decide +kernel, by decide +kernel, by decide +kernel, by decide +kernel, by rfl, by decide, okX3_like⟩
theorem vlL_120 : vLink RL 120 mX4_like 4 1 := ⟨by decide +kernel, by decide +kernel, by decide +kernel, by decide +kernel, by rfl, by decide, okX4_like⟩
theorem vlL_121 : vLink RL 121 mX3_flood 3 3 := ⟨by decide +kernel, by decide +kernel, by decide +kernel, by decide +kernel, by rfl, by decide, okX3_flood⟩
theorem vlL_125 : vLink RL 125 mX4_flood 4 3 := ⟨by decide +kernel, by decide +kernel, by decide +kernel, by decide +kernel, by rfl, by decide, okX4_flood⟩
theorem vlL_126 : vLink RL 126 mX3_kicks 3 3 := ⟨by decide +kernel, by decide +kernel, by decide +kernel, by decide +kernel, by rfl, by decide, okX3_kicks⟩
theorem vlL_129 : vLink RL 129 mX4_kicks 4 3 := ⟨by decide +kernel, by decide +kernel, by decide +kernel, by decide +kernel, by rfl, by decide, okX4_kicks⟩
theorem vlL_13 : vLink RL 13 mX3_type 3 1 := ⟨by decide +kernel, by decide +kernel, by decide +kernel, by decide +kernel, by rfl, by decide, okX3_type⟩
theorem vlL_130 : vLink RL 130 mX3_sheet 3 3 := ⟨by decide +kernel, by decide +kernel, by decide +kernel, by decide +kernel, by rfl, by decide, okX3_sheet⟩
theorem vlL_133 : vLink RL 133 mX4_sheet 4 3 := ⟨by decide +kernel, by decide +kernel, by decide +kernel, by decide +kernel, by rfl, by decide, okX4_sheet⟩
theorem vlL_134 : vLink RL 134 mX3_lose 3 1 := ⟨by decide +kernel, by decide +kernel, by decide +kernel, by decide +kernel, by rfl, by decide, okX3_lose⟩
theorem vlL_137 : vLink RL 137 mX4_lose 4 1 := ⟨by decide +kernel, by decide +kernel, by decide +kernel, by decide +kernel, by rfl, by decide, okX4_lose⟩
theorem vlL_138 : vLink RL 138 mX3_put 3 4 := ⟨by decide +kernel, by decide +kernel, by decide +kernel, by decide +kernel, by rfl, by decide, okX3_put⟩
theorem vlL_142 : vLink RL 142 mX4_put 4 4 := ⟨by decide +kernel, by decide +kernel, by decide +kernel, by decide +kernel, by rfl, by decide, okX4_put⟩
theorem vlL_143 : vLink RL 143 mX3_get 3 3 := ⟨by decide +kernel, by decide +kernel, by decide +kernel, by decide +kernel, by rfl, by decide, okX3_get⟩
theorem vlL_146 : vLink RL 146 mX4_get 4 3 := ⟨by decide +kernel, by decide +kernel, by decide +kernel, by decide +kernel, by rfl, by decide, okX4_get⟩
theorem vlL_147 : vLink RL 147 mX3_copy 3 5 := ⟨by decide +kernel, by decide +kernel, by decide +kernel, by decide +kernel, by rfl, by decide, okX3_copy⟩
theorem vlL_151 : vLink RL 151 mX4_copy 4 5 := ⟨by decide +kernel, by decide +kernel, by decide +kernel, by decide +kernel, by rfl, by decide, okX4_copy⟩
theorem vlL_152 : vLink RL 152 mX3_write 3 2 := ⟨by decide +kernel, by decide +kernel, by decide +kernel, by decide +kernel, by rfl, by decide, okX3_write⟩
theorem vlL_155 : vLink RL 155 mX4_write 4 2 := ⟨by decide +kernel, by decide +kernel, by decide +kernel, by decide +kernel, by rfl, by decide, okX4_write⟩
theorem vlL_156 : vLink RL 156 mX3_count 3 1 := ⟨by decide +kernel, by decide +kernel, by decide +kernel, by decide +kernel, by rfl, by decide, okX3_count⟩
theorem vlL_159 : vLink RL 159 mX4_count 4 1 := ⟨by decide +kernel, by decide +kernel, by decide +kernel, by decide +kernel, by rfl, by decide, okX4_count⟩
theorem vlL_160 : vLink RL 160 mX3_digest 3 0 := ⟨by decide +kernel, by decide +kernel, by decide +kernel, by decide +kernel, by rfl, by decide, okX3_digest⟩
theorem vlL_164 : vLink RL 164 mX4_digest 4 0 := ⟨by decide +kernel, by decide +kernel, by decide +kernel, by decide +kernel, by rfl, by decide, okX4_digest⟩
theorem vlL_17 : vLink RL 17 mX4_type 4 1 := ⟨by decide +kernel, by decide +kernel, by decide +kernel, by decide +kernel, by rfl, by decide, okX4_type⟩
theorem vlL_18 : vLink RL 18 mX3_wipe 3 0 := ⟨by decide +kernel, by decide +kernel, by decide +kernel, by decide +kernel, by rfl, by decide, okX3_wipe⟩
theorem vlL_22 : vLink RL 22 mX4_wipe 4 0 := ⟨by decide +kernel, by decide +kernel, by decide +kernel, by decide +kernel, by rfl, by decide, okX4_wipe⟩
theorem vlL_23 : vLink RL 23 mX3_undo 3 0 := ⟨by decide +kernel, by decide +kernel, by decide +kernel, by decide +kernel, by rfl, by decide, okX3_undo⟩
theorem vlL_26 : vLink RL 26 mX4_undo 4 0 := ⟨by decide +kernel, by decide +kernel, by decide +kernel, by decide +kernel, by rfl, by decide, okX4_undo⟩
theorem vlL_27 : vLink RL 27 mX3_fault 3 0 := ⟨by decide +kernel, by decide +kernel, by decide +kernel, by decide +kernel, by rfl, by decide, okX3_fault⟩
theorem vlL_30 : vLink RL 30 mX4_fault 4 0 := ⟨by decide +kernel, by decide +kernel, by decide +kernel, by decide +kernel, by rfl, by decide, okX4_fault⟩
theorem vlL_31 : vLink RL 31 mX3_cell 3 2 := ⟨by decide +kernel, by decide +kernel, by decide +kernel, by decide +kernel, by rfl, by decide, okX3_cell⟩
theorem vlL_35 : vLink RL 35 mX4_cell 4 2 := ⟨by decide +kernel, by decide +kernel, by decide +kernel, by decide +kernel, by rfl, by decide, okX4_cell⟩
theorem vlL_36 : vLink RL 36 mX3_set 3 2 := ⟨by decide +kernel, by decide +kernel, by decide +kernel, by decide +kernel, by rfl, by decide, okX3_set⟩
theorem vlL_39 : vLink RL 39 mX4_set 4 2 := ⟨by decide +kernel, by decide +kernel, by decide +kernel, by decide +kernel, by rfl, by decide, okX4_set⟩
theorem vlL_40 : vLink RL 40 mX3_thing 3 2 := ⟨by decide +kernel, by decide +kernel, by decide +kernel, by decide +kernel, by rfl, by decide, okX3_thing⟩
theorem vlL_43 : vLink RL 43 mX4_thing 4 2 := ⟨by decide +kernel, by decide +kernel, by decide +kernel, by decide +kernel, by rfl, by decide, okX4_thing⟩
theorem vlL_44 : vLink RL 44 mX3_back 3 0 := ⟨by decide +kernel, by decide +kernel, by decide +kernel, by decide +kernel, by rfl, by decide, okX3_back⟩
theorem vlL_47 : vLink RL 47 mX4_back 4 0 := ⟨by decide +kernel, by decide +kernel, by decide +kernel, by decide +kernel, by rfl, by decide, okX4_back⟩
theorem vlL_48 : vLink RL 48 mX3_read 3 1 := ⟨by decide +kernel, by decide +kernel, by decide +kernel, by decide +kernel, by rfl, by decide, okX3_read⟩
theorem vlL_51 : vLink RL 51 mX4_read 4 1 := ⟨by decide +kernel, by decide +kernel, by decide +kernel, by decide +kernel, by rfl, by decide, okX4_read⟩
theorem vlL_52 : vLink RL 52 mX3_at 3 2 := ⟨by decide +kernel, by decide +kernel, by decide +kernel, by decide +kernel, by rfl, by decide, okX3_at⟩
theorem vlL_55 : vLink RL 55 mX4_at 4 2 := ⟨by decide +kernel, by decide +kernel, by decide +kernel, by decide +kernel, by rfl, by decide, okX4_at⟩
theorem vlL_56 : vLink RL 56 mX3_rests 3 2 := ⟨by decide +kernel, by decide +kernel, by decide +kernel, by decide +kernel, by rfl, by decide, okX3_rests⟩
theorem vlL_59 : vLink RL 59 mX4_rests 4 2 := ⟨by decide +kernel, by decide +kernel, by decide +kernel, by decide +kernel, by rfl, by decide, okX4_rests⟩
theorem vlL_60 : vLink RL 60 mX3_longest 3 0 := ⟨by decide +kernel, by decide +kernel, by decide +kernel, by decide +kernel, by rfl, by decide, okX3_longest⟩
theorem vlL_63 : vLink RL 63 mX4_longest 4 0 := ⟨by decide +kernel, by decide +kernel, by decide +kernel, by decide +kernel, by rfl, by decide, okX4_longest⟩
theorem vlL_64 : vLink RL 64 mX3_meet 3 2 := ⟨by decide +kernel, by decide +kernel, by decide +kernel, by decide +kernel, by rfl, by decide, okX3_meet⟩
theorem vlL_67 : vLink RL 67 mX4_meet 4 2 := ⟨by decide +kernel, by decide +kernel, by decide +kernel, by decide +kernel, by rfl, by decide, okX4_meet⟩
theorem vlL_68 : vLink RL 68 mX3_way 3 2 := ⟨by decide +kernel, by decide +kernel, by decide +kernel, by decide +kernel, by rfl, by decide, okX3_way⟩
theorem vlL_71 : vLink RL 71 mX4_way 4 2 := ⟨by decide +kernel, by decide +kernel, by decide +kernel, by decide +kernel, by rfl, by decide, okX4_way⟩
theorem vlL_72 : vLink RL 72 mX3_next 3 2 := ⟨by decide +kernel, by decide +kernel, by decide +kernel, by decide +kernel, by rfl, by decide, okX3_next⟩
theorem vlL_75 : vLink RL 75 mX4_next 4 2 := ⟨by decide +kernel, by decide +kernel, by decide +kernel, by decide +kernel, by rfl, by decide, okX4_next⟩
theorem vlL_76 : vLink RL 76 mX3_race 3 3 := ⟨by decide +kernel, by decide +kernel, by decide +kernel, by decide +kernel, by rfl, by decide, okX3_race⟩
theorem vlL_80 : vLink RL 80 mX4_race 4 3 := ⟨by decide +kernel, by decide +kernel, by decide +kernel, by decide +kernel, by rfl, by decide, okX4_race⟩
theorem vlL_81 : vLink RL 81 mX3_reach 3 1 := ⟨by decide +kernel, by decide +kernel, by decide +kernel, by decide +kernel, by rfl, by decide, okX3_reach⟩
theorem vlL_84 : vLink RL 84 mX4_reach 4 1 := ⟨by decide +kernel, by decide +kernel, by decide +kernel, by decide +kernel, by rfl, by decide, okX4_reach⟩
theorem vlL_85 : vLink RL 85 mX3_wet 3 1 := ⟨by decide +kernel, by decide +kernel, by decide +kernel, by decide +kernel, by rfl, by decide, okX3_wet⟩
theorem vlL_88 : vLink RL 88 mX4_wet 4 1 := ⟨by decide +kernel, by decide +kernel, by decide +kernel, by decide +kernel, by rfl, by decide, okX4_wet⟩
theorem vlL_89 : vLink RL 89 mX3_plug 3 2 := ⟨by decide +kernel, by decide +kernel, by decide +kernel, by decide +kernel, by rfl, by decide, okX3_plug⟩
theorem vlL_92 : vLink RL 92 mX4_plug 4 2 := ⟨by decide +kernel, by decide +kernel, by decide +kernel, by decide +kernel, by rfl, by decide, okX4_plug⟩
theorem vlL_93 : vLink RL 93 mX3_plumb 3 2 := ⟨by decide +kernel, by decide +kernel, by decide +kernel, by decide +kernel, by rfl, by decide, okX3_plumb⟩
theorem vlL_96 : vLink RL 96 mX4_plumb 4 2 := ⟨by decide +kernel, by decide +kernel, by decide +kernel, by decide +kernel, by rfl, by decide, okX4_plumb⟩
theorem vlL_97 : vLink RL 97 mX3_forget 3 0 := ⟨by decide +kernel, by decide +kernel, by decide +kernel, by decide +kernel, by rfl, by decide, okX3_forget⟩
theorem vlX0_102 : vLink RX0 102 mX0_goneTo 0 2 := ⟨by decide +kernel, by decide +kernel, by decide +kernel, by decide +kernel, by rfl, by decide, okX0_goneTo⟩
theorem vlX0_106 : vLink RX0 106 mX0_keepsDry 0 2 := ⟨by decide +kernel, by decide +kernel, by decide +kernel, by decide +kernel, by rfl, by decide, okX0_keepsDry⟩
theorem vlX0_18 : vLink RX0 18 mX0_clear 0 0 := ⟨by decide +kernel, by decide +kernel, by decide +kernel, by decide +kernel, by rfl, by decide, okX0_clear⟩
theorem vlX0_21 : vLink RX0 21 mX0_spell 0 2 := ⟨by decide +kernel, by decide +kernel, by decide +kernel, by decide +kernel, by rfl, by decide, okX0_spell⟩
theorem vlX0_29 : vLink RX0 29 mX0_markRows 0 1 := ⟨by decide +kernel, by decide +kernel, by decide +kernel, by decide +kernel, by rfl, by decide, okX0_markRows⟩
theorem vlX0_40 : vLink RX0 40 mX0_loose 0 1 := ⟨by decide +kernel, by decide +kernel, by decide +kernel, by decide +kernel, by rfl, by decide, okX0_loose⟩
theorem vlX0_52 : vLink RX0 52 mX0_soaked 0 2 := ⟨by decide +kernel, by decide +kernel, by decide +kernel, by decide +kernel, by rfl, by decide, okX0_soaked⟩
theorem vlX0_59 : vLink RX0 59 mX0_markMoves 0 0 := ⟨by decide +kernel, by decide +kernel, by decide +kernel, by decide +kernel, by rfl, by decide, okX0_markMoves⟩
theorem vlX0_84 : vLink RX0 84 mX0_endsRow 0 1 := ⟨by decide +kernel, by decide +kernel, by decide +kernel, by decide +kernel, by rfl, by decide, okX0_endsRow⟩
theorem zlX0_88 : zLink RX0 88 mX0_kindOf 1 := ⟨Or.inl (by decide +kernel), by decide +kernel, by decide +kernel, okX0_kindOf⟩
theorem vlX0_92 : vLink RX0 92 mX0_dig 0 1 := ⟨by decide +kernel, by decide +kernel, by decide +kernel, by decide +kernel, by rfl, by decide, okX0_dig⟩
theorem vlX0_99 : vLink RX0 99 mX0_fallen 0 1 := ⟨by decide +kernel, by decide +kernel, by decide +kernel, by decide +kernel, by rfl, by decide, okX0_fallen⟩
theorem vlX1_26 : vLink RX1 26 mX1_holds 1 2 := ⟨by decide +kernel, by decide +kernel, by decide +kernel, by decide +kernel, by rfl, by decide, okX1_holds⟩
theorem vlX2_27 : vLink RX2 27 mX0_isCell 0 1 := ⟨by decide +kernel, by decide +kernel, by decide +kernel, by decide +kernel, by rfl, by decide, okX0_isCell⟩
theorem vlX2_37 : vLink RX2 37 mX2_measure 2 1 := ⟨by decide +kernel, by decide +kernel, by decide +kernel, by decide +kernel, by rfl, by decide, okX2_measure⟩
theorem vlX2_44 : vLink RX2 44 mX2_goOn 2 1 := ⟨by decide +kernel, by decide +kernel, by decide +kernel, by decide +kernel, by rfl, by decide, okX2_goOn⟩
theorem vlX2_54 : vLink RX2 54 mX0_goneTo 0 2 := ⟨by decide +kernel, by decide +kernel, by decide +kernel, by decide +kernel, by rfl, by decide, okX0_goneTo⟩
theorem vlX2_58 : vLink RX2 58 mX0_moveSteps 0 3 := ⟨by decide +kernel, by decide +kernel, by decide +kernel, by decide +kernel, by rfl, by decide, okX0_moveSteps⟩
theorem zlX2_62 : zLink RX2 62 mX2_isSooner 2 := ⟨Or.inl (by decide +kernel), by decide +kernel, by decide +kernel, okX2_isSooner⟩
theorem vlX3_106 : vLink RX3 106 mX3_thing 3 2 := ⟨by decide +kernel, by decide +kernel, by decide +kernel, by decide +kernel, by rfl, by decide, okX3_thing⟩
theorem vlX3_110 : vLink RX3 110 mX3_isThing 3 1 := ⟨by decide +kernel, by decide +kernel, by decide +kernel, by decide +kernel, by rfl, by decide, okX3_isThing⟩
theorem vlX3_113 : vLink RX3 113 mX0_placeBehind 0 2 := ⟨by decide +kernel, by decide +kernel, by decide +kernel, by decide +kernel, by rfl, by decide, okX0_placeBehind⟩
theorem vlX3_116 : vLink RX3 116 mX0_falls 0 1 := ⟨by decide +kernel, by decide +kernel, by decide +kernel, by decide +kernel, by rfl, by decide, okX0_falls⟩
theorem vlX3_122 : vLink RX3 122 mX3_at 3 2 := ⟨by decide +kernel, by decide +kernel, by decide +kernel, by decide +kernel, by rfl, by decide, okX3_at⟩
theorem vlX3_125 : vLink RX3 125 mX2_between 2 2 := ⟨by decide +kernel, by decide +kernel, by decide +kernel, by decide +kernel, by rfl, by decide, okX2_between⟩
theorem vlX3_128 : vLink RX3 128 mX0_goneTo 0 2 := ⟨by decide +kernel, by decide +kernel, by decide +kernel, by decide +kernel, by rfl, by decide, okX0_goneTo⟩
theorem vlX3_131 : vLink RX3 131 mX0_moveSteps 0 3 := ⟨by decide +kernel, by decide +kernel, by decide +kernel, by decide +kernel, by rfl, by decide, okX0_moveSteps⟩
theorem vlX3_141 : vLink RX3 141 mX0_plugsFor 0 1 := ⟨by decide +kernel, by decide +kernel, by decide +kernel, by decide +kernel, by rfl, by decide, okX0_plugsFor⟩
theorem zlX3_147 : zLink RX3 147 mX3_sizeOrItem 2 := ⟨Or.inl (by decide +kernel), by decide +kernel, by decide +kernel, okX3_sizeOrItem⟩
theorem zlX3_154 : zLink RX3 154 mX3_middlesUpAt 1 := ⟨Or.inl (by decide +kernel), by decide +kernel, by decide +kernel, okX3_middlesUpAt⟩
theorem zlX3_160 : zLink RX3 160 mJ6_bitCount_0f7a4 1 := ⟨Or.inl (by decide +kernel), by decide +kernel, by decide +kernel, okJ6_bitCount_0f7a4⟩
theorem zlX3_170 : zLink RX3 170 mX3_bit 1 := ⟨Or.inl (by decide +kernel), by decide +kernel, by decide +kernel, okX3_bit⟩
theorem zlX3_179 : zLink RX3 179 mJ13_bitCount_95d88 1 := ⟨Or.inl (by decide +kernel), by decide +kernel, by decide +kernel, okJ13_bitCount_95d88⟩
theorem vlX3_186 : vLink RX3 186 mX0_springsThatWet 0 1 := ⟨by decide +kernel, by decide +kernel, by decide +kernel, by decide +kernel, by rfl, by decide, okX0_springsThatWet⟩
theorem vlX3_192 : vLink RX3 192 mX0_kicked 0 2 := ⟨by decide +kernel, by decide +kernel, by decide +kernel, by decide +kernel, by rfl, by decide, okX0_kicked⟩
theorem vlX3_195 : vLink RX3 195 mX0_fallen 0 1 := ⟨by decide +kernel, by decide +kernel, by decide +kernel, by decide +kernel, by rfl, by decide, okX0_fallen⟩
theorem zlX3_198 : zLink RX3 198 mX3_isForm 1 := ⟨Or.inl (by decide +kernel), by decide +kernel, by decide +kernel, okX3_isForm⟩
theorem vlX3_201 : vLink RX3 201 mX1_begin 1 2 := ⟨by decide +kernel, by decide +kernel, by decide +kernel, by decide +kernel, by rfl, by decide, okX1_begin⟩
theorem vlX3_205 : vLink RX3 205 mX3_refusalOfItem 3 3 := ⟨by decide +kernel, by decide +kernel, by decide +kernel, by decide +kernel, by rfl, by decide, okX3_refusalOfItem⟩
theorem vlX3_208 : vLink RX3 208 mX1_store 1 2 := ⟨by decide +kernel, by decide +kernel, by decide +kernel, by decide +kernel, by rfl, by decide, okX1_store⟩
theorem vlX3_215 : vLink RX3 215 mX1_holds 1 2 := ⟨by decide +kernel, by decide +kernel, by decide +kernel, by decide +kernel, by rfl, by decide, okX1_holds⟩
theorem vlX3_233 : vLink RX3 233 mX3_count 3 1 := ⟨by decide +kernel, by decide +kernel, by decide +kernel, by decide +kernel, by rfl, by decide, okX3_count⟩
theorem zlX3_236 : zLink RX3 236 mX3_mixed 2 := ⟨Or.inl (by decide +kernel), by decide +kernel, by decide +kernel, okX3_mixed⟩
theorem vlX3_240 : vLink RX3 240 mX3_fault 3 0 := ⟨by decide +kernel, by decide +kernel, by decide +kernel, by decide +kernel, by rfl, by decide, okX3_fault⟩
theorem vlX3_244 : vLink RX3 244 mX3_cell 3 2 := ⟨by decide +kernel, by decide +kernel, by decide +kernel, by decide +kernel, by rfl, by decide, okX3_cell⟩
theorem vlX3_247 : vLink RX3 247 mX3_reach 3 1 := ⟨by decide +kernel, by decide +kernel, by decide +kernel, by decide +kernel, by rfl, by decide, okX3_reach⟩
theorem vlX3_250 : vLink RX3 250 mX3_wet 3 1 := ⟨by decide +kernel, by decide +kernel, by decide +kernel, by decide +kernel, by rfl, by decide, okX3_wet⟩
theorem vlX3_253 : vLink RX3 253 mX3_way 3 2 := ⟨by decide +kernel, by decide +kernel, by decide +kernel, by decide +kernel, by rfl, by decide, okX3_way⟩
theorem vlX3_256 : vLink RX3 256 mX3_next 3 2 := ⟨by decide +kernel, by decide +kernel, by decide +kernel, by decide +kernel, by rfl, by decide, okX3_next⟩
theorem vlX3_259 : vLink RX3 259 mX3_from 3 3 := ⟨by decide +kernel, by decide +kernel, by decide +kernel, by decide +kernel, by rfl, by decide, okX3_from⟩
theorem vlX3_262 : vLink RX3 262 mX3_rests 3 2 := ⟨by decide +kernel, by decide +kernel, by decide +kernel, by decide +kernel, by rfl, by decide, okX3_rests⟩
theorem vlX3_265 : vLink RX3 265 mX3_longest 3 0 := ⟨by decide +kernel, by decide +kernel, by decide +kernel, by decide +kernel, by rfl, by decide, okX3_longest⟩
theorem vlX3_268 : vLink RX3 268 mX3_meet 3 2 := ⟨by decide +kernel, by decide +kernel, by decide +kernel, by decide +kernel, by rfl, by decide, okX3_meet⟩
theorem vlX3_271 : vLink RX3 271 mX3_race 3 3 := ⟨by decide +kernel, by decide +kernel, by decide +kernel, by decide +kernel, by rfl, by decide, okX3_race⟩
theorem vlX3_274 : vLink RX3 274 mX3_plug 3 2 := ⟨by decide +kernel, by decide +kernel, by decide +kernel, by decide +kernel, by rfl, by decide, okX3_plug⟩
theorem vlX3_277 : vLink RX3 277 mX3_where 3 0 := ⟨by decide +kernel, by decide +kernel, by decide +kernel, by decide +kernel, by rfl, by decide, okX3_where⟩
theorem vlX3_280 : vLink RX3 280 mX3_hang 3 0 := ⟨by decide +kernel, by decide +kernel, by decide +kernel, by decide +kernel, by rfl, by decide, okX3_hang⟩
theorem vlX3_283 : vLink RX3 283 mX3_joined 3 0 := ⟨by decide +kernel, by decide +kernel, by decide +kernel, by decide +kernel, by rfl, by decide, okX3_joined⟩
theorem vlX3_286 : vLink RX3 286 mX3_like 3 1 := ⟨by decide +kernel, by decide +kernel, by decide +kernel, by decide +kernel, by rfl, by decide, okX3_like⟩
theorem vlX3_289 : vLink RX3 289 mX3_flood 3 3 := ⟨by decide +kernel, by decide +kernel, by decide +kernel, by decide +kernel, by rfl, by decide, okX3_flood⟩
theorem vlX3_293 : vLink RX3 293 mX3_kicks 3 3 := ⟨by decide +kernel, by decide +kernel, by decide +kernel, by decide +kernel, by rfl, by decide, okX3_kicks⟩
theorem vlX3_298 : vLink RX3 298 mX0_survey 0 3 := ⟨by decide +kernel, by decide +kernel, by decide +kernel, by decide +kernel, by rfl, by decide, okX0_survey⟩
theorem vlX3_302 : vLink RX3 302 mX2_renew 2 1 := ⟨by decide +kernel, by decide +kernel, by decide +kernel, by decide +kernel, by rfl, by decide, okX2_renew⟩
theorem vlX3_52 : vLink RX3 52 mX3_renew 3 0 := ⟨by decide +kernel, by decide +kernel, by decide +kernel, by decide +kernel, by rfl, by decide, okX3_renew⟩
theorem vlX3_61 : vLink RX3 61 mX0_isCell 0 1 := ⟨by decide +kernel, by decide +kernel, by decide +kernel, by decide +kernel, by rfl, by decide, okX0_isCell⟩
theorem vlX3_65 : vLink RX3 65 mX0_kind 0 1 := ⟨by decide +kernel, by decide +kernel, by decide +kernel, by decide +kernel, by rfl, by decide, okX0_kind⟩
theorem zlX3_76 : zLink RX3 76 mX3_has 2 := ⟨Or.inl (by decide +kernel), by decide +kernel, by decide +kernel, okX3_has⟩
theorem zlX3_80 : zLink RX3 80 mX3_asNumber 1 := ⟨Or.inl (by decide +kernel), by decide +kernel, by decide +kernel, okX3_asNumber⟩
theorem zlX3_84 : zLink RX3 84 mX3_isStep 1 := ⟨Or.inl (by decide +kernel), by decide +kernel, by decide +kernel, okX3_isStep⟩
theorem zlX3_90 : zLink RX3 90 mX3_isSheet 1 := ⟨Or.inl (by decide +kernel), by decide +kernel, by decide +kernel, okX3_isSheet⟩
theorem vlX3_97 : vLink RX3 97 mX3_found 3 1 := ⟨by decide +kernel, by decide +kernel, by decide +kernel, by decide +kernel, by rfl, by decide, okX3_found⟩
theorem vlX4_102 : vLink RX4 102 mX4_isCell 4 1 := ⟨by decide +kernel, by decide +kernel, by decide +kernel, by decide +kernel, by rfl, by decide, okX4_isCell⟩
theorem vlX4_105 : vLink RX4 105 mX4_isHeld 4 1 := ⟨by decide +kernel, by decide +kernel, by decide +kernel, by decide +kernel, by rfl, by decide, okX4_isHeld⟩
theorem zlX4_111 : zLink RX4 111 mX4_isSheet 1 := ⟨Or.inl (by decide +kernel), by decide +kernel, by decide +kernel, okX4_isSheet⟩
theorem vlX4_114 : vLink RX4 114 mX4_meets 4 1 := ⟨by decide +kernel, by decide +kernel, by decide +kernel, by decide +kernel, by rfl, by decide, okX4_meets⟩
theorem vlX4_117 : vLink RX4 117 mX4_thing 4 2 := ⟨by decide +kernel, by decide +kernel, by decide +kernel, by decide +kernel, by rfl, by decide, okX4_thing⟩
theorem vlX4_121 : vLink RX4 121 mX4_fallen 4 2 := ⟨by decide +kernel, by decide +kernel, by decide +kernel, by decide +kernel, by rfl, by decide, okX4_fallen⟩
theorem vlX4_124 : vLink RX4 124 mX4_isThing 4 1 := ⟨by decide +kernel, by decide +kernel, by decide +kernel, by decide +kernel, by rfl, by decide, okX4_isThing⟩
theorem vlX4_127 : vLink RX4 127 mX4_atOf 4 2 := ⟨by decide +kernel, by decide +kernel, by decide +kernel, by decide +kernel, by rfl, by decide, okX4_atOf⟩
theorem vlX4_130 : vLink RX4 130 mX4_restsOf 4 2 := ⟨by decide +kernel, by decide +kernel, by decide +kernel, by decide +kernel, by rfl, by decide, okX4_restsOf⟩
theorem vlX4_133 : vLink RX4 133 mX4_longestNow 4 0 := ⟨by decide +kernel, by decide +kernel, by decide +kernel, by decide +kernel, by rfl, by decide, okX4_longestNow⟩
theorem vlX4_136 : vLink RX4 136 mX4_meetOf 4 2 := ⟨by decide +kernel, by decide +kernel, by decide +kernel, by decide +kernel, by rfl, by decide, okX4_meetOf⟩
theorem vlX4_139 : vLink RX4 139 mX4_target 4 2 := ⟨by decide +kernel, by decide +kernel, by decide +kernel, by decide +kernel, by rfl, by decide, okX4_target⟩
theorem vlX4_143 : vLink RX4 143 mX4_cost 4 2 := ⟨by decide +kernel, by decide +kernel, by decide +kernel, by decide +kernel, by rfl, by decide, okX4_cost⟩
theorem vlX4_146 : vLink RX4 146 mX4_laysFar 4 1 := ⟨by decide +kernel, by decide +kernel, by decide +kernel, by decide +kernel, by rfl, by decide, okX4_laysFar⟩
theorem vlX4_150 : vLink RX4 150 mX4_wayOf 4 2 := ⟨by decide +kernel, by decide +kernel, by decide +kernel, by decide +kernel, by rfl, by decide, okX4_wayOf⟩
theorem vlX4_153 : vLink RX4 153 mX4_nextOf 4 2 := ⟨by decide +kernel, by decide +kernel, by decide +kernel, by decide +kernel, by rfl, by decide, okX4_nextOf⟩
theorem vlX4_156 : vLink RX4 156 mX4_raceOf 4 3 := ⟨by decide +kernel, by decide +kernel, by decide +kernel, by decide +kernel, by rfl, by decide, okX4_raceOf⟩
theorem vlX4_160 : vLink RX4 160 mX4_reachOf 4 1 := ⟨by decide +kernel, by decide +kernel, by decide +kernel, by decide +kernel, by rfl, by decide, okX4_reachOf⟩
theorem zlX4_163 : zLink RX4 163 mX4_isIn 2 := ⟨Or.inl (by decide +kernel), by decide +kernel, by decide +kernel, okX4_isIn⟩
theorem vlX4_167 : vLink RX4 167 mX4_flows 4 1 := ⟨by decide +kernel, by decide +kernel, by decide +kernel, by decide +kernel, by rfl, by decide, okX4_flows⟩
theorem vlX4_170 : vLink RX4 170 mX4_wetOf 4 1 := ⟨by decide +kernel, by decide +kernel, by decide +kernel, by decide +kernel, by rfl, by decide, okX4_wetOf⟩
theorem vlX4_173 : vLink RX4 173 mX4_plugs 4 3 := ⟨by decide +kernel, by decide +kernel, by decide +kernel, by decide +kernel, by rfl, by decide, okX4_plugs⟩
theorem vlX4_176 : vLink RX4 176 mX4_mayPlug 4 2 := ⟨by decide +kernel, by decide +kernel, by decide +kernel, by decide +kernel, by rfl, by decide, okX4_mayPlug⟩
theorem vlX4_179 : vLink RX4 179 mX4_plugBy 4 1 := ⟨by decide +kernel, by decide +kernel, by decide +kernel, by decide +kernel, by rfl, by decide, okX4_plugBy⟩
theorem vlX4_182 : vLink RX4 182 mX4_plugOf 4 2 := ⟨by decide +kernel, by decide +kernel, by decide +kernel, by decide +kernel, by rfl, by decide, okX4_plugOf⟩
theorem vlX4_188 : vLink RX4 188 mX4_whereNow 4 0 := ⟨by decide +kernel, by decide +kernel, by decide +kernel, by decide +kernel, by rfl, by decide, okX4_whereNow⟩
theorem vlX4_191 : vLink RX4 191 mX4_hangNow 4 0 := ⟨by decide +kernel, by decide +kernel, by decide +kernel, by decide +kernel, by rfl, by decide, okX4_hangNow⟩
theorem vlX4_194 : vLink RX4 194 mX4_fromOf 4 3 := ⟨by decide +kernel, by decide +kernel, by decide +kernel, by decide +kernel, by rfl, by decide, okX4_fromOf⟩
theorem vlX4_197 : vLink RX4 197 mX4_joinedNow 4 0 := ⟨by decide +kernel, by decide +kernel, by decide +kernel, by decide +kernel, by rfl, by decide, okX4_joinedNow⟩
theorem vlX4_200 : vLink RX4 200 mX4_likeOf 4 1 := ⟨by decide +kernel, by decide +kernel, by decide +kernel, by decide +kernel, by rfl, by decide, okX4_likeOf⟩
theorem vlX4_203 : vLink RX4 203 mX4_springs 4 0 := ⟨by decide +kernel, by decide +kernel, by decide +kernel, by decide +kernel, by rfl, by decide, okX4_springs⟩
theorem zlX4_206 : zLink RX4 206 mX4_lowest 3 := ⟨Or.inl (by decide +kernel), by decide +kernel, by decide +kernel, okX4_lowest⟩
theorem vlX4_210 : vLink RX4 210 mX4_floodOf 4 3 := ⟨by decide +kernel, by decide +kernel, by decide +kernel, by decide +kernel, by rfl, by decide, okX4_floodOf⟩
theorem zlX4_214 : zLink RX4 214 mX4_no 1 := ⟨Or.inl (by decide +kernel), by decide +kernel, by decide +kernel, okX4_no⟩
theorem vlX4_219 : vLink RX4 219 mX4_kicksOf 4 3 := ⟨by decide +kernel, by decide +kernel, by decide +kernel, by decide +kernel, by rfl, by decide, okX4_kicksOf⟩
theorem vlX4_225 : vLink RX4 225 mX4_lacks 4 3 := ⟨by decide +kernel, by decide +kernel, by decide +kernel, by decide +kernel, by rfl, by decide, okX4_lacks⟩
theorem vlX4_228 : vLink RX4 228 mX4_keep 4 3 := ⟨by decide +kernel, by decide +kernel, by decide +kernel, by decide +kernel, by rfl, by decide, okX4_keep⟩
theorem vlX4_233 : vLink RX4 233 mX4_sumOf 4 1 := ⟨by decide +kernel, by decide +kernel, by decide +kernel, by decide +kernel, by rfl, by decide, okX4_sumOf⟩
theorem vlX4_238 : vLink RX4 238 mX4_cell 4 2 := ⟨by decide +kernel, by decide +kernel, by decide +kernel, by decide +kernel, by rfl, by decide, okX4_cell⟩
theorem vlX4_243 : vLink RX4 243 mX4_count 4 1 := ⟨by decide +kernel, by decide +kernel, by decide +kernel, by decide +kernel, by rfl, by decide, okX4_count⟩
theorem vlX4_246 : vLink RX4 246 mX4_cellDigest 4 2 := ⟨by decide +kernel, by decide +kernel, by decide +kernel, by decide +kernel, by rfl, by decide, okX4_cellDigest⟩
theorem vlX4_250 : vLink RX4 250 mX4_meet 4 2 := ⟨by decide +kernel, by decide +kernel, by decide +kernel, by decide +kernel, by rfl, by decide, okX4_meet⟩
theorem vlX4_253 : vLink RX4 253 mX4_race 4 3 := ⟨by decide +kernel, by decide +kernel, by decide +kernel, by decide +kernel, by rfl, by decide, okX4_race⟩
theorem vlX4_256 : vLink RX4 256 mX4_plug 4 2 := ⟨by decide +kernel, by decide +kernel, by decide +kernel, by decide +kernel, by rfl, by decide, okX4_plug⟩
theorem vlX4_259 : vLink RX4 259 mX4_flood 4 3 := ⟨by decide +kernel, by decide +kernel, by decide +kernel, by decide +kernel, by rfl, by decide, okX4_flood⟩
theorem vlX4_262 : vLink RX4 262 mX4_kicks 4 3 := ⟨by decide +kernel, by decide +kernel, by decide +kernel, by decide +kernel, by rfl, by decide, okX4_kicks⟩
theorem zlX4_65 : zLink RX4 65 mX4_in 3 := ⟨Or.inl (by decide +kernel), by decide +kernel, by decide +kernel, okX4_in⟩
theorem zlX4_81 : zLink RX4 81 mX4_kindOf 1 := ⟨Or.inl (by decide +kernel), by decide +kernel, by decide +kernel, okX4_kindOf⟩
theorem vlX4_85 : vLink RX4 85 mX4_faultNow 4 0 := ⟨by decide +kernel, by decide +kernel, by decide +kernel, by decide +kernel, by rfl, by decide, okX4_faultNow⟩
theorem vlX4_89 : vLink RX4 89 mX4_reads 4 0 := ⟨by decide +kernel, by decide +kernel, by decide +kernel, by decide +kernel, by rfl, by decide, okX4_reads⟩
theorem vlX4_92 : vLink RX4 92 mX4_isUp 4 1 := ⟨by decide +kernel, by decide +kernel, by decide +kernel, by decide +kernel, by rfl, by decide, okX4_isUp⟩
theorem vlX4_96 : vLink RX4 96 mX4_below 4 1 := ⟨by decide +kernel, by decide +kernel, by decide +kernel, by decide +kernel, by rfl, by decide, okX4_below⟩
theorem vlX4_99 : vLink RX4 99 mX4_isOpen 4 1 := ⟨by decide +kernel, by decide +kernel, by decide +kernel, by decide +kernel, by rfl, by decide, okX4_isOpen⟩
theorem zlX0_80 : zLink RX0 80 mX3_bit 1 := ⟨Or.inr (by decide +kernel), by decide +kernel, by decide +kernel, okX3_bit⟩
theorem zlX0_95 : zLink RX0 95 mX3_has 2 := ⟨Or.inr (by decide +kernel), by decide +kernel, by decide +kernel, okX3_has⟩
theorem zlX2_33 : zLink RX2 33 mX3_has 2 := ⟨Or.inr (by decide +kernel), by decide +kernel, by decide +kernel, okX3_has⟩
theorem zlX2_47 : zLink RX2 47 mX3_bit 1 := ⟨Or.inr (by decide +kernel), by decide +kernel, by decide +kernel, okX3_bit⟩
theorem ylX3_219 : yLink RX3 219 := ⟨by decide +kernel, by decide +kernel, by decide +kernel, by decide +kernel⟩
end
section
/-! derived rules, as the walks use them -/
noncomputable def bi (P : Prop) : Int := @ite Int P (Classical.propDecidable P) 1 0
theorem bi_t {P : Prop} (h : P) : bi P = 1 := by unfold bi; rw [if_pos h]
theorem bi_f {P : Prop} (h : ¬ P) : bi P = 0 := by unfold bi; rw [if_neg h]
theorem bi_0 {P : Prop} : bi P = 0 ↔ ¬ P := ⟨fun h q => by rw [bi_t q] at h; omega, bi_f⟩
theorem bi_1 {P : Prop} : bi P = 1 ↔ P := ⟨fun h => Classical.byContradiction fun q => by rw [bi_f q] at h; omega, bi_t⟩
theorem bi_01 (P : Prop) : bi P = 0 ∨ bi P = 1 := by
  by_cases h : P
  · exact Or.inr (bi_t h)
  · exact Or.inl (bi_f h)
theorem bi_10 (P : Prop) : 0 ≤ bi P ∧ bi P ≤ 1 := by rcases bi_01 P with h | h <;> omega
theorem bi_c {P P' : Prop} (h : P ↔ P') : bi P = bi P' := by rw [propext h]
theorem cl_in {own : String} {cc : ByteArray} {rk NC d m : Nat} {L : aL} {as : List aV} {σ : aS} {Q : aQ} (h1 : (mY m).cls = own) (h2 : mC m = cc) (h3 : mK m = rk) (h4 : aEnt as (mL m) = L) (hm : m < 166) (hw : aWd as ≤ mL m) (k : Wp own cc NC (aCall NC d) Q rk false 0 (fun _ => 0) 0 L [] σ) : aCall NC (d + 1) m as σ Q := by
  subst h1; subst h2; subst h3; subst h4
  exact ⟨⟨hm, hw⟩, k⟩
def rs (r : Option aV) (st : List aV) : List aV := match r with
  | some v => v :: st
  | none => st
theorem rs_eq (r : Option aV) (st : List aV) : r.toList ++ st = rs r st := by cases r <;> rfl
theorem sI_eq {σ : aS} {c k : Nat} {x : Int} : (sI σ c k x).1 c k = x := by rw [sI_at, if_pos ⟨rfl, rfl⟩]
theorem sI_ne {σ : aS} {c k c' k' : Nat} {x : Int} (h : ¬ (c' = c ∧ k' = k)) : (sI σ c k x).1 c' k' = σ.1 c' k' := by rw [sI_at, if_neg h]
theorem sJ_eq {σ : aS} {c k : Nat} {x : BitVec 64} : (sJ σ c k x).2 c k = x := by rw [sJ_at, if_pos ⟨rfl, rfl⟩]
theorem sJ_ne {σ : aS} {c k c' k' : Nat} {x : BitVec 64} (h : ¬ (c' = c ∧ k' = k)) : (sJ σ c k x).2 c' k' = σ.2 c' k' := by rw [sJ_at, if_neg h]
theorem q_t {P : Prop} {Q : aQ} {σ : aS} (h : P) (hQ : Q (some (vi (bi P))) σ) : Q (some (vi 1)) σ := by rw [bi_t h] at hQ; exact hQ
theorem q_f {P : Prop} {Q : aQ} {σ : aS} (h : ¬ P) (hQ : Q (some (vi (bi P))) σ) : Q (some (vi 0)) σ := by rw [bi_f h] at hQ; exact hQ
theorem q_b {P P' : Prop} {Q : aQ} {σ : aS} (h : P' ↔ P) (hQ : Q (some (vi (bi P))) σ) : Q (some (vi (bi P'))) σ := by rw [bi_c h]; exact hQ
theorem q_i {x y : Int} {Q : aQ} {σ : aS} (h : x = y) (hQ : Q (some (vi y)) σ) : Q (some (vi x)) σ := by rw [h]; exact hQ
section DRV
variable {own : String} {cc : ByteArray} {NC : Nat} {C : aC} {Q : aQ} {rk : Nat} {sc : Bool} {xl : Nat} {xs : Nat → Int} {pc : Nat} {L L' : aL} {st : List aV} {σ : aS}
theorem wp_iaddN {x y : Int} (hd : decode cc pc = .ok (.iadd, 1)) (h : -2147483648 ≤ x + y ∧ x + y < 2147483648) (k : Wp own cc NC C Q rk sc xl xs (pc + 1) L (vi (x + y) :: st) σ) : Wp own cc NC C Q rk sc xl xs pc L (vi y :: vi x :: st) σ := wp_iadd hd (by rw [w32_id h.1 h.2]; exact k)
theorem wp_isubN {x y : Int} (hd : decode cc pc = .ok (.isub, 1)) (h : -2147483648 ≤ x - y ∧ x - y < 2147483648) (k : Wp own cc NC C Q rk sc xl xs (pc + 1) L (vi (x - y) :: st) σ) : Wp own cc NC C Q rk sc xl xs pc L (vi y :: vi x :: st) σ := wp_isub hd (by rw [w32_id h.1 h.2]; exact k)
theorem wp_imulN {x y : Int} (hd : decode cc pc = .ok (.imul, 1)) (h : -2147483648 ≤ x * y ∧ x * y < 2147483648) (k : Wp own cc NC C Q rk sc xl xs (pc + 1) L (vi (x * y) :: st) σ) : Wp own cc NC C Q rk sc xl xs pc L (vi y :: vi x :: st) σ := wp_imul hd (by rw [w32_id h.1 h.2]; exact k)
theorem wp_inegN {x : Int} (hd : decode cc pc = .ok (.ineg, 1)) (h : -2147483648 < x ∧ x < 2147483648) (k : Wp own cc NC C Q rk sc xl xs (pc + 1) L (vi (-x) :: st) σ) : Wp own cc NC C Q rk sc xl xs pc L (vi x :: st) σ := wp_ineg hd (by rw [w32_id (by omega) (by omega)]; exact k)
theorem wp_iincN {i : Nat} {x n : Int} (hd : decode cc pc = .ok (.iinc i n, 3)) (h0 : L[i]? = some (some (vi x))) (h : -2147483648 ≤ x + n ∧ x + n < 2147483648) (hL : st1 L i (vi (x + n)) = L') (k : Wp own cc NC C Q rk sc xl xs (pc + 3) L' st σ) : Wp own cc NC C Q rk sc xl xs pc L st σ := wp_iinc hd h0 (by rw [w32_id h.1 h.2, hL]; exact k)
theorem wp_istN {i : Fin 4} {x : Int} (hd : decode cc pc = .ok (.istore_n i, 1)) (h0 : i.val < L.length) (hL : st1 L i.val (vi x) = L') (k : Wp own cc NC C Q rk sc xl xs (pc + 1) L' st σ) : Wp own cc NC C Q rk sc xl xs pc L (vi x :: st) σ := wp_istore_n hd h0 (hL ▸ k)
theorem wp_ist {i : Nat} {x : Int} (hd : decode cc pc = .ok (.istore i, 2)) (h0 : i < L.length) (hL : st1 L i (vi x) = L') (k : Wp own cc NC C Q rk sc xl xs (pc + 2) L' st σ) : Wp own cc NC C Q rk sc xl xs pc L (vi x :: st) σ := wp_istore hd h0 (hL ▸ k)
theorem wp_lstN {i : Fin 4} {x : BitVec 64} (hd : decode cc pc = .ok (.lstore_n i, 1)) (h0 : i.val + 1 < L.length) (hL : st2 L i.val (vl x) = L') (k : Wp own cc NC C Q rk sc xl xs (pc + 1) L' st σ) : Wp own cc NC C Q rk sc xl xs pc L (vl x :: st) σ := wp_lstore_n hd h0 (hL ▸ k)
theorem wp_lst {i : Nat} {x : BitVec 64} (hd : decode cc pc = .ok (.lstore i, 2)) (h0 : i + 1 < L.length) (hL : st2 L i (vl x) = L') (k : Wp own cc NC C Q rk sc xl xs (pc + 2) L' st σ) : Wp own cc NC C Q rk sc xl xs pc L (vl x :: st) σ := wp_lstore hd h0 (hL ▸ k)
theorem wp_astN {i : Fin 4} {x : Nat} (hd : decode cc pc = .ok (.astore_n i, 1)) (h0 : i.val < L.length) (hL : st1 L i.val (vr x) = L') (k : Wp own cc NC C Q rk sc xl xs (pc + 1) L' st σ) : Wp own cc NC C Q rk sc xl xs pc L (vr x :: st) σ := wp_astore_n hd h0 (hL ▸ k)
theorem wp_ast {i : Nat} {x : Nat} (hd : decode cc pc = .ok (.astore i, 2)) (h0 : i < L.length) (hL : st1 L i (vr x) = L') (k : Wp own cc NC C Q rk sc xl xs (pc + 2) L' st σ) : Wp own cc NC C Q rk sc xl xs pc L (vr x :: st) σ := wp_astore hd h0 (hL ▸ k)
theorem wp_if_eq {off x : Int} (tgt : Nat) (hd : decode cc pc = .ok (.ifCond .eq off, 3)) (ht : (pc : Int) + off = (tgt : Int)) (k0 : x = 0 → Wp own cc NC C Q rk sc xl xs tgt L st σ) (k1 : ¬ (x = 0) → Wp own cc NC C Q rk sc xl xs (pc + 3) L st σ) : Wp own cc NC C Q rk sc xl xs pc L (vi x :: st) σ := wp_if hd ht k0 k1
theorem wp_ic_eq {off x y : Int} (tgt : Nat) (hd : decode cc pc = .ok (.if_icmp .eq off, 3)) (ht : (pc : Int) + off = (tgt : Int)) (k0 : x = y → Wp own cc NC C Q rk sc xl xs tgt L st σ) (k1 : ¬ (x = y) → Wp own cc NC C Q rk sc xl xs (pc + 3) L st σ) : Wp own cc NC C Q rk sc xl xs pc L (vi y :: vi x :: st) σ := wp_icmp hd ht k0 k1
theorem wp_if_ne {off x : Int} (tgt : Nat) (hd : decode cc pc = .ok (.ifCond .ne off, 3)) (ht : (pc : Int) + off = (tgt : Int)) (k0 : x ≠ 0 → Wp own cc NC C Q rk sc xl xs tgt L st σ) (k1 : ¬ (x ≠ 0) → Wp own cc NC C Q rk sc xl xs (pc + 3) L st σ) : Wp own cc NC C Q rk sc xl xs pc L (vi x :: st) σ := wp_if hd ht k0 k1
theorem wp_ic_ne {off x y : Int} (tgt : Nat) (hd : decode cc pc = .ok (.if_icmp .ne off, 3)) (ht : (pc : Int) + off = (tgt : Int)) (k0 : x ≠ y → Wp own cc NC C Q rk sc xl xs tgt L st σ) (k1 : ¬ (x ≠ y) → Wp own cc NC C Q rk sc xl xs (pc + 3) L st σ) : Wp own cc NC C Q rk sc xl xs pc L (vi y :: vi x :: st) σ := wp_icmp hd ht k0 k1
theorem wp_if_lt {off x : Int} (tgt : Nat) (hd : decode cc pc = .ok (.ifCond .lt off, 3)) (ht : (pc : Int) + off = (tgt : Int)) (k0 : x < 0 → Wp own cc NC C Q rk sc xl xs tgt L st σ) (k1 : ¬ (x < 0) → Wp own cc NC C Q rk sc xl xs (pc + 3) L st σ) : Wp own cc NC C Q rk sc xl xs pc L (vi x :: st) σ := wp_if hd ht k0 k1
theorem wp_ic_lt {off x y : Int} (tgt : Nat) (hd : decode cc pc = .ok (.if_icmp .lt off, 3)) (ht : (pc : Int) + off = (tgt : Int)) (k0 : x < y → Wp own cc NC C Q rk sc xl xs tgt L st σ) (k1 : ¬ (x < y) → Wp own cc NC C Q rk sc xl xs (pc + 3) L st σ) : Wp own cc NC C Q rk sc xl xs pc L (vi y :: vi x :: st) σ := wp_icmp hd ht k0 k1
theorem wp_if_ge {off x : Int} (tgt : Nat) (hd : decode cc pc = .ok (.ifCond .ge off, 3)) (ht : (pc : Int) + off = (tgt : Int)) (k0 : 0 ≤ x → Wp own cc NC C Q rk sc xl xs tgt L st σ) (k1 : ¬ (0 ≤ x) → Wp own cc NC C Q rk sc xl xs (pc + 3) L st σ) : Wp own cc NC C Q rk sc xl xs pc L (vi x :: st) σ := wp_if hd ht k0 k1
theorem wp_ic_ge {off x y : Int} (tgt : Nat) (hd : decode cc pc = .ok (.if_icmp .ge off, 3)) (ht : (pc : Int) + off = (tgt : Int)) (k0 : y ≤ x → Wp own cc NC C Q rk sc xl xs tgt L st σ) (k1 : ¬ (y ≤ x) → Wp own cc NC C Q rk sc xl xs (pc + 3) L st σ) : Wp own cc NC C Q rk sc xl xs pc L (vi y :: vi x :: st) σ := wp_icmp hd ht k0 k1
theorem wp_if_gt {off x : Int} (tgt : Nat) (hd : decode cc pc = .ok (.ifCond .gt off, 3)) (ht : (pc : Int) + off = (tgt : Int)) (k0 : 0 < x → Wp own cc NC C Q rk sc xl xs tgt L st σ) (k1 : ¬ (0 < x) → Wp own cc NC C Q rk sc xl xs (pc + 3) L st σ) : Wp own cc NC C Q rk sc xl xs pc L (vi x :: st) σ := wp_if hd ht k0 k1
theorem wp_ic_gt {off x y : Int} (tgt : Nat) (hd : decode cc pc = .ok (.if_icmp .gt off, 3)) (ht : (pc : Int) + off = (tgt : Int)) (k0 : y < x → Wp own cc NC C Q rk sc xl xs tgt L st σ) (k1 : ¬ (y < x) → Wp own cc NC C Q rk sc xl xs (pc + 3) L st σ) : Wp own cc NC C Q rk sc xl xs pc L (vi y :: vi x :: st) σ := wp_icmp hd ht k0 k1
theorem wp_if_le {off x : Int} (tgt : Nat) (hd : decode cc pc = .ok (.ifCond .le off, 3)) (ht : (pc : Int) + off = (tgt : Int)) (k0 : x ≤ 0 → Wp own cc NC C Q rk sc xl xs tgt L st σ) (k1 : ¬ (x ≤ 0) → Wp own cc NC C Q rk sc xl xs (pc + 3) L st σ) : Wp own cc NC C Q rk sc xl xs pc L (vi x :: st) σ := wp_if hd ht k0 k1
theorem wp_ic_le {off x y : Int} (tgt : Nat) (hd : decode cc pc = .ok (.if_icmp .le off, 3)) (ht : (pc : Int) + off = (tgt : Int)) (k0 : x ≤ y → Wp own cc NC C Q rk sc xl xs tgt L st σ) (k1 : ¬ (x ≤ y) → Wp own cc NC C Q rk sc xl xs (pc + 3) L st σ) : Wp own cc NC C Q rk sc xl xs pc L (vi y :: vi x :: st) σ := wp_icmp hd ht k0 k1
theorem wp_ifB_eq {off : Int} {P : Prop} (tgt : Nat) (hd : decode cc pc = .ok (.ifCond .eq off, 3)) (ht : (pc : Int) + off = (tgt : Int)) (k0 : ¬ P → Wp own cc NC C Q rk sc xl xs tgt L st σ) (k1 : P → Wp own cc NC C Q rk sc xl xs (pc + 3) L st σ) : Wp own cc NC C Q rk sc xl xs pc L (vi (bi P) :: st) σ := wp_if hd ht (fun h => k0 (bi_0.mp h)) (fun h => k1 (Classical.byContradiction fun q => h (bi_f q)))
theorem wp_ifB_ne {off : Int} {P : Prop} (tgt : Nat) (hd : decode cc pc = .ok (.ifCond .ne off, 3)) (ht : (pc : Int) + off = (tgt : Int)) (k0 : P → Wp own cc NC C Q rk sc xl xs tgt L st σ) (k1 : ¬ P → Wp own cc NC C Q rk sc xl xs (pc + 3) L st σ) : Wp own cc NC C Q rk sc xl xs pc L (vi (bi P) :: st) σ := wp_if hd ht (fun h => k0 (Classical.byContradiction fun q => h (bi_f q))) (fun h => k1 (fun q => h (by show bi P ≠ 0; rw [bi_t q]; decide)))
theorem wp_gotoN {off : Int} (tgt : Nat) (hd : decode cc pc = .ok (.goto off, 3)) (ht : (pc : Int) + off = (tgt : Int)) (k : Wp own cc NC C Q rk sc xl xs tgt L st σ) : Wp own cc NC C Q rk sc xl xs pc L st σ := wp_goto hd ht k
theorem wp_lconst0 (hd : decode cc pc = .ok (.lconst 0, 1)) (k : Wp own cc NC C Q rk sc xl xs (pc + 1) L (vl 0#64 :: st) σ) : Wp own cc NC C Q rk sc xl xs pc L st σ := wp_lconst hd k
theorem wp_lconst1 (hd : decode cc pc = .ok (.lconst 1, 1)) (k : Wp own cc NC C Q rk sc xl xs (pc + 1) L (vl 1#64 :: st) σ) : Wp own cc NC C Q rk sc xl xs pc L st σ := wp_lconst hd k
theorem wp_V0 {i m ci q : Nat} {fk : List Nat} (hd : decode cc pc = .ok (.invokevirtual i, 3)) (hl : vLink own i m ci 0) (hq : q < NC) (hc : cd q = .inl (ci, fk)) (hs : stw st ≤ 8) (k : C m (vr q :: []) σ (fun r σ' => Wp own cc NC C Q rk sc xl xs (pc + 3) L (rs r st) σ')) : Wp own cc NC C Q rk sc xl xs pc L (vr q :: st) σ := wp_callV (as := []) hd hl hq hc hs (by simp only [rs_eq]; exact k)
theorem wp_V1 {i m ci q : Nat} {fk : List Nat} {a : aV} (hd : decode cc pc = .ok (.invokevirtual i, 3)) (hl : vLink own i m ci 1) (hq : q < NC) (hc : cd q = .inl (ci, fk)) (hs : stw st ≤ 8) (k : C m (vr q :: [a]) σ (fun r σ' => Wp own cc NC C Q rk sc xl xs (pc + 3) L (rs r st) σ')) : Wp own cc NC C Q rk sc xl xs pc L (a :: vr q :: st) σ := wp_callV (as := [a]) hd hl hq hc hs (by simp only [rs_eq]; exact k)
theorem wp_S1 {i m : Nat} {a : aV} (hd : decode cc pc = .ok (.invokestatic i, 3)) (hl : zLink own i m 1) (hs : stw st ≤ 8) (k : C m [a] σ (fun r σ' => Wp own cc NC C Q rk sc xl xs (pc + 3) L (rs r st) σ')) : Wp own cc NC C Q rk sc xl xs pc L (a :: st) σ := wp_callS (as := [a]) hd hl hs (by simp only [rs_eq]; exact k)
theorem wp_V2 {i m ci q : Nat} {fk : List Nat} {a b : aV} (hd : decode cc pc = .ok (.invokevirtual i, 3)) (hl : vLink own i m ci 2) (hq : q < NC) (hc : cd q = .inl (ci, fk)) (hs : stw st ≤ 8) (k : C m (vr q :: [a, b]) σ (fun r σ' => Wp own cc NC C Q rk sc xl xs (pc + 3) L (rs r st) σ')) : Wp own cc NC C Q rk sc xl xs pc L (b :: a :: vr q :: st) σ := wp_callV (as := [a, b]) hd hl hq hc hs (by simp only [rs_eq]; exact k)
theorem wp_S2 {i m : Nat} {a b : aV} (hd : decode cc pc = .ok (.invokestatic i, 3)) (hl : zLink own i m 2) (hs : stw st ≤ 8) (k : C m [a, b] σ (fun r σ' => Wp own cc NC C Q rk sc xl xs (pc + 3) L (rs r st) σ')) : Wp own cc NC C Q rk sc xl xs pc L (b :: a :: st) σ := wp_callS (as := [a, b]) hd hl hs (by simp only [rs_eq]; exact k)
theorem wp_V3 {i m ci q : Nat} {fk : List Nat} {a b c : aV} (hd : decode cc pc = .ok (.invokevirtual i, 3)) (hl : vLink own i m ci 3) (hq : q < NC) (hc : cd q = .inl (ci, fk)) (hs : stw st ≤ 8) (k : C m (vr q :: [a, b, c]) σ (fun r σ' => Wp own cc NC C Q rk sc xl xs (pc + 3) L (rs r st) σ')) : Wp own cc NC C Q rk sc xl xs pc L (c :: b :: a :: vr q :: st) σ := wp_callV (as := [a, b, c]) hd hl hq hc hs (by simp only [rs_eq]; exact k)
theorem wp_S3 {i m : Nat} {a b c : aV} (hd : decode cc pc = .ok (.invokestatic i, 3)) (hl : zLink own i m 3) (hs : stw st ≤ 8) (k : C m [a, b, c] σ (fun r σ' => Wp own cc NC C Q rk sc xl xs (pc + 3) L (rs r st) σ')) : Wp own cc NC C Q rk sc xl xs pc L (c :: b :: a :: st) σ := wp_callS (as := [a, b, c]) hd hl hs (by simp only [rs_eq]; exact k)
theorem wp_V4 {i m ci q : Nat} {fk : List Nat} {a b c f : aV} (hd : decode cc pc = .ok (.invokevirtual i, 3)) (hl : vLink own i m ci 4) (hq : q < NC) (hc : cd q = .inl (ci, fk)) (hs : stw st ≤ 8) (k : C m (vr q :: [a, b, c, f]) σ (fun r σ' => Wp own cc NC C Q rk sc xl xs (pc + 3) L (rs r st) σ')) : Wp own cc NC C Q rk sc xl xs pc L (f :: c :: b :: a :: vr q :: st) σ := wp_callV (as := [a, b, c, f]) hd hl hq hc hs (by simp only [rs_eq]; exact k)
theorem wp_S4 {i m : Nat} {a b c f : aV} (hd : decode cc pc = .ok (.invokestatic i, 3)) (hl : zLink own i m 4) (hs : stw st ≤ 8) (k : C m [a, b, c, f] σ (fun r σ' => Wp own cc NC C Q rk sc xl xs (pc + 3) L (rs r st) σ')) : Wp own cc NC C Q rk sc xl xs pc L (f :: c :: b :: a :: st) σ := wp_callS (as := [a, b, c, f]) hd hl hs (by simp only [rs_eq]; exact k)
theorem wp_V5 {i m ci q : Nat} {fk : List Nat} {a b c f g : aV} (hd : decode cc pc = .ok (.invokevirtual i, 3)) (hl : vLink own i m ci 5) (hq : q < NC) (hc : cd q = .inl (ci, fk)) (hs : stw st ≤ 8) (k : C m (vr q :: [a, b, c, f, g]) σ (fun r σ' => Wp own cc NC C Q rk sc xl xs (pc + 3) L (rs r st) σ')) : Wp own cc NC C Q rk sc xl xs pc L (g :: f :: c :: b :: a :: vr q :: st) σ := wp_callV (as := [a, b, c, f, g]) hd hl hq hc hs (by simp only [rs_eq]; exact k)
theorem wp_S5 {i m : Nat} {a b c f g : aV} (hd : decode cc pc = .ok (.invokestatic i, 3)) (hl : zLink own i m 5) (hs : stw st ≤ 8) (k : C m [a, b, c, f, g] σ (fun r σ' => Wp own cc NC C Q rk sc xl xs (pc + 3) L (rs r st) σ')) : Wp own cc NC C Q rk sc xl xs pc L (g :: f :: c :: b :: a :: st) σ := wp_callS (as := [a, b, c, f, g]) hd hl hs (by simp only [rs_eq]; exact k)
end DRV
end
section
set_option maxRecDepth 20000 in
theorem s4_in {d : Nat} {σ : aS} {Q : aQ} {v a b : Int} {NC : Nat} (hQ : Q (some (vi (bi (a ≤ v ∧ v ≤ b)))) σ) : aCall NC (d + 1) mX4_in [vi v, vi a, vi b] σ Q := by
  refine cl_in (own := RX4) (cc := cX4_in) (rk := 1) (L := [some (vi v), some (vi a), some (vi b)]) rfl rfl rfl rfl (by decide) (Nat.le_of_ble_eq_true rfl) ?_
  refine wp_iload_n dX4_in_0 rfl ?_
  refine wp_iload_n dX4_in_1 rfl ?_
  refine wp_ic_lt 14 dX4_in_2 (by decide) (fun h2 => ?_) (fun h2 => ?_)
  · refine wp_iconst dX4_in_14 (by decide) ?_
    refine wp_iret dX4_in_15 (Or.inr ⟨rfl, by decide⟩) ?_
    exact q_f (by omega) hQ
  · refine wp_iload_n dX4_in_5 rfl ?_
    refine wp_iload_n dX4_in_6 rfl ?_
    refine wp_ic_gt 14 dX4_in_7 (by decide) (fun h7 => ?_) (fun h7 => ?_)
    · refine wp_iconst dX4_in_14 (by decide) ?_
      refine wp_iret dX4_in_15 (Or.inr ⟨rfl, by decide⟩) ?_
      exact q_f (by omega) hQ
    · refine wp_iconst dX4_in_10 (by decide) ?_
      refine wp_gotoN 15 dX4_in_11 (by decide) ?_
      refine wp_iret dX4_in_15 (Or.inr ⟨rfl, by decide⟩) ?_
      exact q_t (by omega) hQ
/-- the mine as the model sees it: width, cells, MIDDLE, TURN, kinds -/
abbrev aG : Type := Int × Int × Int × Int × (Nat → Int)
def gOf (σ : aS) : aG := (if σ.1 18 4 ≤ 0 then 0 else σ.1 18 2, σ.1 18 4, σ.1 18 6, σ.1 18 7, fun i => if (i : Int) < σ.1 18 4 then σ.1 20 i else 0)
abbrev ggw (g : aG) : Int := g.1
abbrev ggn (g : aG) : Int := g.2.1
abbrev ggm (g : aG) : Int := g.2.2.1
abbrev ggt (g : aG) : Int := g.2.2.2.1
abbrev ggk (g : aG) (c : Int) : Int := g.2.2.2.2 c.toNat
/-- what every mine keeps to -/
def GV (g : aG) : Prop := 0 ≤ ggn g ∧ ggn g ≤ 35 ∧ (0 < ggn g → 1 ≤ ggw g ∧ ggw g ≤ 7 ∧ ggn g % ggw g = 0) ∧ 0 ≤ ggm g ∧ ggm g ≤ 5 ∧ 0 ≤ ggt g ∧ ggt g ≤ 9 ∧ ∀ c : Nat, 0 ≤ g.2.2.2.2 c ∧ g.2.2.2.2 c ≤ 3
def opn (g : aG) (c : Int) : Prop := 0 ≤ c ∧ c ≤ ggn g - 1 ∧ ggk g c ≠ 0
abbrev upp (g : aG) (c : Int) : Prop := c / ggw g < ggm g
def blw (g : aG) (c : Int) : Int := if upp g c then c - ggw g else c + ggw g
def hld (g : aG) (c : Int) : Prop := ggk g c ≠ 0 ∧ (ggk g c = 2 ∨ ¬ opn g (blw g c))
def tgt (g : aG) (c y : Int) : Int := if y = 0 then (if c % ggw g > 0 then c - 1 else -1) else if y = 1 then (if c % ggw g < ggw g - 1 then c + 1 else -1) else if y = 2 then c - ggw g else c + ggw g
theorem gk_of {σ : aS} {c : Int} (h0 : 0 ≤ c) (h1 : c < σ.1 18 4) : ggk (gOf σ) c = σ.1 20 c.toNat := by
  show (if ((c.toNat : Nat) : Int) < σ.1 18 4 then σ.1 20 c.toNat else 0) = _
  rw [if_pos (by rw [Int.toNat_of_nonneg h0]; exact h1)]
theorem gw_of {σ : aS} (h : 0 < σ.1 18 4) : ggw (gOf σ) = σ.1 18 2 := by
  show (if σ.1 18 4 ≤ 0 then 0 else σ.1 18 2) = _
  rw [if_neg (by omega)]
theorem GVn {σ : aS} (h : GV (gOf σ)) : 0 ≤ σ.1 18 4 ∧ σ.1 18 4 ≤ 35 ∧ 0 ≤ σ.1 18 6 ∧ σ.1 18 6 ≤ 5 ∧ 0 ≤ σ.1 18 7 ∧ σ.1 18 7 ≤ 9 := ⟨h.1, h.2.1, h.2.2.2.1, h.2.2.2.2.1, h.2.2.2.2.2.1, h.2.2.2.2.2.2.1⟩
theorem GVw {σ : aS} (h : GV (gOf σ)) (h0 : 0 < σ.1 18 4) : 1 ≤ σ.1 18 2 ∧ σ.1 18 2 ≤ 7 ∧ σ.1 18 4 % σ.1 18 2 = 0 := by
  have h1 := h.2.2.1 h0
  rw [gw_of h0] at h1
  exact h1
set_option maxRecDepth 20000 in
theorem s4_isOpen {d : Nat} {σ : aS} {Q : aQ} {c : Int} (hg : GV (gOf σ)) (hQ : Q (some (vi (bi (opn (gOf σ) c)))) σ) : aCall 34 (d + 2) mX4_isOpen [vr 18, vi c] σ Q := by
  refine cl_in (own := RX4) (cc := cX4_isOpen) (rk := 1) (L := [some (vr 18), some (vi c)]) rfl rfl rfl rfl (by decide) (Nat.le_of_ble_eq_true rfl) ?_
  have hn := GVn hg
  refine wp_iload_n dX4_isOpen_0 rfl ?_
  refine wp_iconst dX4_isOpen_1 (by decide) ?_
  refine wp_aload_n dX4_isOpen_2 rfl ?_
  refine wp_getI dX4_isOpen_3 flX4_72 (by decide) rfl (Or.inl rfl) ?_
  refine wp_iconst dX4_isOpen_6 (by decide) ?_
  refine wp_isubN dX4_isOpen_7 (by omega) ?_
  refine wp_S3 dX4_isOpen_8 zlX4_65 (Nat.le_of_ble_eq_true rfl) ?_
  refine s4_in ?_
  refine wp_ifB_eq 27 dX4_isOpen_11 (by decide) (fun h11 => ?_) (fun h11 => ?_)
  · refine wp_iconst dX4_isOpen_27 (by decide) ?_
    refine wp_iret dX4_isOpen_28 (Or.inr ⟨rfl, by decide⟩) ?_
    exact q_f (fun h => h11 ⟨h.1, h.2.1⟩) hQ
  · refine wp_aload_n dX4_isOpen_14 rfl ?_
    refine wp_getR dX4_isOpen_15 flX4_13 (by decide) rfl rfl ?_
    refine wp_iload_n dX4_isOpen_18 rfl ?_
    refine wp_iaload dX4_isOpen_19 (by decide) rfl (by omega) (by omega) (by decide) ?_
    refine wp_if_eq 27 dX4_isOpen_20 (by decide) (fun h20 => ?_) (fun h20 => ?_)
    · refine wp_iconst dX4_isOpen_27 (by decide) ?_
      refine wp_iret dX4_isOpen_28 (Or.inr ⟨rfl, by decide⟩) ?_
      exact q_f (fun h => h.2.2 (by rw [gk_of (by omega) (by omega)]; exact h20)) hQ
    · refine wp_iconst dX4_isOpen_23 (by decide) ?_
      refine wp_gotoN 28 dX4_isOpen_24 (by decide) ?_
      refine wp_iret dX4_isOpen_28 (Or.inr ⟨rfl, by decide⟩) ?_
      exact q_t ⟨h11.1, h11.2, by rw [gk_of (by omega) (by omega)]; exact h20⟩ hQ
set_option maxRecDepth 20000 in
theorem s4_isUp {d : Nat} {σ : aS} {Q : aQ} {c : Int} (hg : GV (gOf σ)) (h0 : 0 ≤ c) (hp : 0 < σ.1 18 4) (hQ : Q (some (vi (bi (upp (gOf σ) c)))) σ) : aCall 34 (d + 1) mX4_isUp [vr 18, vi c] σ Q := by
  refine cl_in (own := RX4) (cc := cX4_isUp) (rk := 1) (L := [some (vr 18), some (vi c)]) rfl rfl rfl rfl (by decide) (Nat.le_of_ble_eq_true rfl) ?_
  have hw := GVw hg hp
  refine wp_iload_n dX4_isUp_0 rfl ?_
  refine wp_aload_n dX4_isUp_1 rfl ?_
  refine wp_getI dX4_isUp_2 flX4_78 (by decide) rfl (Or.inl rfl) ?_
  refine wp_idiv dX4_isUp_5 (by omega) (by omega) ?_
  refine wp_aload_n dX4_isUp_6 rfl ?_
  refine wp_getI dX4_isUp_7 flX4_56 (by decide) rfl (Or.inl rfl) ?_
  refine wp_ic_ge 17 dX4_isUp_10 (by decide) (fun h10 => ?_) (fun h10 => ?_)
  · refine wp_iconst dX4_isUp_17 (by decide) ?_
    refine wp_iret dX4_isUp_18 (Or.inr ⟨rfl, by decide⟩) ?_
    exact q_f (by show ¬ c / ggw (gOf σ) < σ.1 18 6; rw [gw_of hp]; omega) hQ
  · refine wp_iconst dX4_isUp_13 (by decide) ?_
    refine wp_gotoN 18 dX4_isUp_14 (by decide) ?_
    refine wp_iret dX4_isUp_18 (Or.inr ⟨rfl, by decide⟩) ?_
    exact q_t (by show c / ggw (gOf σ) < σ.1 18 6; rw [gw_of hp]; omega) hQ
set_option maxRecDepth 20000 in
theorem s4_below {d : Nat} {σ : aS} {Q : aQ} {c : Int} (hg : GV (gOf σ)) (h0 : 0 ≤ c) (h1 : c ≤ 1000) (hp : 0 < σ.1 18 4) (hQ : Q (some (vi (blw (gOf σ) c))) σ) : aCall 34 (d + 2) mX4_below [vr 18, vi c] σ Q := by
  refine cl_in (own := RX4) (cc := cX4_below) (rk := 0) (L := [some (vr 18), some (vi c)]) rfl rfl rfl rfl (by decide) (Nat.le_of_ble_eq_true rfl) ?_
  have hw := GVw hg hp
  refine wp_aload_n dX4_below_0 rfl ?_
  refine wp_iload_n dX4_below_1 rfl ?_
  refine wp_V1 dX4_below_2 vlX4_92 (by decide) rfl (Nat.le_of_ble_eq_true rfl) ?_
  refine s4_isUp hg (by omega) (by omega) ?_
  refine wp_ifB_eq 17 dX4_below_5 (by decide) (fun h5 => ?_) (fun h5 => ?_)
  · refine wp_iload_n dX4_below_17 rfl ?_
    refine wp_aload_n dX4_below_18 rfl ?_
    refine wp_getI dX4_below_19 flX4_78 (by decide) rfl (Or.inl rfl) ?_
    refine wp_iaddN dX4_below_22 (by omega) ?_
    refine wp_iret dX4_below_23 (Or.inl rfl) ?_
    exact q_i (by unfold blw; rw [if_neg h5, gw_of hp]) hQ
  · refine wp_iload_n dX4_below_8 rfl ?_
    refine wp_aload_n dX4_below_9 rfl ?_
    refine wp_getI dX4_below_10 flX4_78 (by decide) rfl (Or.inl rfl) ?_
    refine wp_isubN dX4_below_13 (by omega) ?_
    refine wp_gotoN 23 dX4_below_14 (by decide) ?_
    refine wp_iret dX4_below_23 (Or.inl rfl) ?_
    exact q_i (by unfold blw; rw [if_pos h5, gw_of hp]) hQ
end
section
noncomputable def cif {α : Type} (P : Prop) (a b : α) : α := @ite α P (Classical.propDecidable P) a b
theorem cif_t {α : Type} {P : Prop} {a b : α} (h : P) : cif P a b = a := by unfold cif; rw [if_pos h]
theorem cif_f {α : Type} {P : Prop} {a b : α} (h : ¬ P) : cif P a b = b := by unfold cif; rw [if_neg h]
noncomputable def cst (g : aG) (c y : Int) : Int := cif (opn g c ∧ opn g (tgt g c y)) (cif (hld g c) (cif (y < 2) (cif (tgt g c y / ggw g = c / ggw g) 1 1000000) (cif (ggk g c ≠ 2 ∧ ggk g (tgt g c y) ≠ 2) 1000000 (cif (upp g c ↔ upp g (tgt g c y)) 1 (1 + ggt g)))) (cif (tgt g c y = blw g c) 1 1000000)) 1000000
def kOf (b : Int) : Int := if b = 35 then 0 else if b = 46 then 1 else if b = 108 then 2 else if b = 119 then 3 else -1
theorem bi_iff {P P' : Prop} (h : bi P = bi P') : P ↔ P' := ⟨fun q => bi_1.mp (h ▸ bi_t q), fun q => bi_1.mp (h.symm ▸ bi_t q)⟩
set_option maxRecDepth 20000 in
theorem s4_isHeld {d : Nat} {σ : aS} {Q : aQ} {c : Int} (hg : GV (gOf σ)) (h0 : 0 ≤ c) (h1 : c < σ.1 18 4) (hQ : Q (some (vi (bi (hld (gOf σ) c)))) σ) : aCall 34 (d + 3) mX4_isHeld [vr 18, vi c] σ Q := by
  refine cl_in (own := RX4) (cc := cX4_isHeld) (rk := 1) (L := [some (vr 18), some (vi c)]) rfl rfl rfl rfl (by decide) (Nat.le_of_ble_eq_true rfl) ?_
  have hn := GVn hg
  have hk := gk_of h0 h1
  refine wp_aload_n dX4_isHeld_0 rfl ?_
  refine wp_getR dX4_isHeld_1 flX4_13 (by decide) rfl rfl ?_
  refine wp_iload_n dX4_isHeld_4 rfl ?_
  refine wp_iaload dX4_isHeld_5 (by decide) rfl (by omega) (by omega) (by decide) ?_
  refine wp_if_eq 35 dX4_isHeld_6 (by decide) (fun h6 => ?_) (fun h6 => ?_)
  · refine wp_iconst dX4_isHeld_35 (by decide) ?_
    refine wp_iret dX4_isHeld_36 (Or.inr ⟨rfl, by decide⟩) ?_
    exact q_f (fun h => h.1 (hk.trans h6)) hQ
  · refine wp_aload_n dX4_isHeld_9 rfl ?_
    refine wp_getR dX4_isHeld_10 flX4_13 (by decide) rfl rfl ?_
    refine wp_iload_n dX4_isHeld_13 rfl ?_
    refine wp_iaload dX4_isHeld_14 (by decide) rfl (by omega) (by omega) (by decide) ?_
    refine wp_iconst dX4_isHeld_15 (by decide) ?_
    refine wp_ic_eq 31 dX4_isHeld_16 (by decide) (fun h16 => ?_) (fun h16 => ?_)
    · refine wp_iconst dX4_isHeld_31 (by decide) ?_
      refine wp_gotoN 36 dX4_isHeld_32 (by decide) ?_
      refine wp_iret dX4_isHeld_36 (Or.inr ⟨rfl, by decide⟩) ?_
      exact q_t ⟨fun h => h6 (hk.symm.trans h), Or.inl (hk.trans h16)⟩ hQ
    · refine wp_aload_n dX4_isHeld_19 rfl ?_
      refine wp_aload_n dX4_isHeld_20 rfl ?_
      refine wp_iload_n dX4_isHeld_21 rfl ?_
      refine wp_V1 dX4_isHeld_22 vlX4_96 (by decide) rfl (Nat.le_of_ble_eq_true rfl) ?_
      refine s4_below hg (by omega) (by omega) (by omega) ?_
      refine wp_V1 dX4_isHeld_25 vlX4_99 (by decide) rfl (Nat.le_of_ble_eq_true rfl) ?_
      refine s4_isOpen hg ?_
      refine wp_ifB_ne 35 dX4_isHeld_28 (by decide) (fun h28 => ?_) (fun h28 => ?_)
      · refine wp_iconst dX4_isHeld_35 (by decide) ?_
        refine wp_iret dX4_isHeld_36 (Or.inr ⟨rfl, by decide⟩) ?_
        exact q_f (fun h => h.2.elim (fun q => h16 (hk.symm.trans q)) (fun q => q h28)) hQ
      · refine wp_iconst dX4_isHeld_31 (by decide) ?_
        refine wp_gotoN 36 dX4_isHeld_32 (by decide) ?_
        refine wp_iret dX4_isHeld_36 (Or.inr ⟨rfl, by decide⟩) ?_
        exact q_t ⟨fun h => h6 (hk.symm.trans h), Or.inr h28⟩ hQ
set_option maxRecDepth 20000 in
theorem s4_target {d : Nat} {σ : aS} {Q : aQ} {c y : Int} (hg : GV (gOf σ)) (h0 : 0 ≤ c) (h1 : c ≤ 1000) (hp : 0 < σ.1 18 4) (hQ : Q (some (vi (tgt (gOf σ) c y))) σ) : aCall 34 (d + 1) mX4_target [vr 18, vi c, vi y] σ Q := by
  refine cl_in (own := RX4) (cc := cX4_target) (rk := 0) (L := [some (vr 18), some (vi c), some (vi y)]) rfl rfl rfl rfl (by decide) (Nat.le_of_ble_eq_true rfl) ?_
  have hw := GVw hg hp
  refine wp_iload_n dX4_target_0 rfl ?_
  refine wp_if_ne 23 dX4_target_1 (by decide) (fun hh1 => ?_) (fun hh1 => ?_)
  · refine wp_iload_n dX4_target_23 rfl ?_
    refine wp_iconst dX4_target_24 (by decide) ?_
    refine wp_ic_ne 53 dX4_target_25 (by decide) (fun hh25 => ?_) (fun hh25 => ?_)
    · refine wp_iload_n dX4_target_53 rfl ?_
      refine wp_iconst dX4_target_54 (by decide) ?_
      refine wp_ic_ne 67 dX4_target_55 (by decide) (fun hh55 => ?_) (fun hh55 => ?_)
      · refine wp_iload_n dX4_target_67 rfl ?_
        refine wp_aload_n dX4_target_68 rfl ?_
        refine wp_getI dX4_target_69 flX4_78 (by decide) rfl (Or.inl rfl) ?_
        refine wp_iaddN dX4_target_72 (by omega) ?_
        refine wp_iret dX4_target_73 (Or.inl rfl) ?_
        exact q_i (by unfold tgt; simp only [gw_of hp]; repeat (first | rw [if_pos (by omega)] | rw [if_neg (by omega)])) hQ
      · refine wp_iload_n dX4_target_58 rfl ?_
        refine wp_aload_n dX4_target_59 rfl ?_
        refine wp_getI dX4_target_60 flX4_78 (by decide) rfl (Or.inl rfl) ?_
        refine wp_isubN dX4_target_63 (by omega) ?_
        refine wp_gotoN 73 dX4_target_64 (by decide) ?_
        refine wp_iret dX4_target_73 (Or.inl rfl) ?_
        exact q_i (by unfold tgt; simp only [gw_of hp]; repeat (first | rw [if_pos (by omega)] | rw [if_neg (by omega)])) hQ
    · refine wp_iload_n dX4_target_28 rfl ?_
      refine wp_aload_n dX4_target_29 rfl ?_
      refine wp_getI dX4_target_30 flX4_78 (by decide) rfl (Or.inl rfl) ?_
      refine wp_irem dX4_target_33 (by omega) (by omega) ?_
      refine wp_aload_n dX4_target_34 rfl ?_
      refine wp_getI dX4_target_35 flX4_78 (by decide) rfl (Or.inl rfl) ?_
      refine wp_iconst dX4_target_38 (by decide) ?_
      refine wp_isubN dX4_target_39 (by omega) ?_
      refine wp_ic_ge 49 dX4_target_40 (by decide) (fun hh40 => ?_) (fun hh40 => ?_)
      · refine wp_iconst dX4_target_49 (by decide) ?_
        refine wp_gotoN 73 dX4_target_50 (by decide) ?_
        refine wp_iret dX4_target_73 (Or.inl rfl) ?_
        exact q_i (by unfold tgt; simp only [gw_of hp]; repeat (first | rw [if_pos (by omega)] | rw [if_neg (by omega)])) hQ
      · refine wp_iload_n dX4_target_43 rfl ?_
        refine wp_iconst dX4_target_44 (by decide) ?_
        refine wp_iaddN dX4_target_45 (by omega) ?_
        refine wp_gotoN 73 dX4_target_46 (by decide) ?_
        refine wp_iret dX4_target_73 (Or.inl rfl) ?_
        exact q_i (by unfold tgt; simp only [gw_of hp]; repeat (first | rw [if_pos (by omega)] | rw [if_neg (by omega)])) hQ
  · refine wp_iload_n dX4_target_4 rfl ?_
    refine wp_aload_n dX4_target_5 rfl ?_
    refine wp_getI dX4_target_6 flX4_78 (by decide) rfl (Or.inl rfl) ?_
    refine wp_irem dX4_target_9 (by omega) (by omega) ?_
    refine wp_if_le 19 dX4_target_10 (by decide) (fun hh10 => ?_) (fun hh10 => ?_)
    · refine wp_iconst dX4_target_19 (by decide) ?_
      refine wp_gotoN 73 dX4_target_20 (by decide) ?_
      refine wp_iret dX4_target_73 (Or.inl rfl) ?_
      exact q_i (by unfold tgt; simp only [gw_of hp]; repeat (first | rw [if_pos (by omega)] | rw [if_neg (by omega)])) hQ
    · refine wp_iload_n dX4_target_13 rfl ?_
      refine wp_iconst dX4_target_14 (by decide) ?_
      refine wp_isubN dX4_target_15 (by omega) ?_
      refine wp_gotoN 73 dX4_target_16 (by decide) ?_
      refine wp_iret dX4_target_73 (Or.inl rfl) ?_
      exact q_i (by unfold tgt; simp only [gw_of hp]; repeat (first | rw [if_pos (by omega)] | rw [if_neg (by omega)])) hQ
set_option maxRecDepth 20000 in
theorem s4_cost {d : Nat} {σ : aS} {Q : aQ} {c y : Int} (hg : GV (gOf σ)) (h0 : 0 ≤ c) (h1 : c < σ.1 18 4) (hQ : Q (some (vi (cst (gOf σ) c y))) σ) : aCall 34 (d + 4) mX4_cost [vr 18, vi c, vi y] σ Q := by
  refine cl_in (own := RX4) (cc := cX4_cost) (rk := 0) (L := [some (vr 18), some (vi c), some (vi y), none]) rfl rfl rfl rfl (by decide) (Nat.le_of_ble_eq_true rfl) ?_
  have hn := GVn hg
  have hw := GVw hg (by omega)
  have hk := gk_of h0 h1
  refine wp_aload_n dX4_cost_0 rfl ?_
  refine wp_iload_n dX4_cost_1 rfl ?_
  refine wp_iload_n dX4_cost_2 rfl ?_
  refine wp_V2 dX4_cost_3 vlX4_139 (by decide) rfl (Nat.le_of_ble_eq_true rfl) ?_
  refine s4_target hg (by omega) (by omega) (by omega) ?_
  refine wp_istN (L' := [some (vr _), some (vi _), some (vi _), some (vi _)]) dX4_cost_6 (Nat.le_of_ble_eq_true rfl) rfl ?_
  refine wp_aload_n dX4_cost_7 rfl ?_
  refine wp_iload_n dX4_cost_8 rfl ?_
  refine wp_V1 dX4_cost_9 vlX4_99 (by decide) rfl (Nat.le_of_ble_eq_true rfl) ?_
  refine s4_isOpen hg ?_
  refine wp_ifB_eq 23 dX4_cost_12 (by decide) (fun hh12 => ?_) (fun hh12 => ?_)
  · refine wp_ldc dX4_cost_23 klX4_142 ?_
    refine wp_iret dX4_cost_25 (Or.inl rfl) ?_
    exact q_i (by unfold cst; rw [cif_f (fun q => hh12 q.1)]) hQ
  · refine wp_aload_n dX4_cost_15 rfl ?_
    refine wp_iload_n dX4_cost_16 rfl ?_
    refine wp_V1 dX4_cost_17 vlX4_99 (by decide) rfl (Nat.le_of_ble_eq_true rfl) ?_
    refine s4_isOpen hg ?_
    refine wp_ifB_ne 26 dX4_cost_20 (by decide) (fun hh20 => ?_) (fun hh20 => ?_)
    · have hh2 := hh20
      obtain ⟨ho1, ho2, ho3⟩ := hh2
      have ho2 : tgt (gOf σ) c y ≤ σ.1 18 4 - 1 := ho2
      have hk2 := gk_of (σ := σ) ho1 (by omega)
      refine wp_aload_n dX4_cost_26 rfl ?_
      refine wp_iload_n dX4_cost_27 rfl ?_
      refine wp_V1 dX4_cost_28 vlX4_105 (by decide) rfl (Nat.le_of_ble_eq_true rfl) ?_
      refine s4_isHeld hg (by omega) (by omega) ?_
      refine wp_ifB_ne 50 dX4_cost_31 (by decide) (fun hh31 => ?_) (fun hh31 => ?_)
      · refine wp_iload_n dX4_cost_50 rfl ?_
        refine wp_iconst dX4_cost_51 (by decide) ?_
        
        refine wp_ic_ge 77 dX4_cost_52 (by decide) (fun hh52 => ?_) (fun hh52 => ?_)
        · have hh52 : ¬ y < 2 := by omega
          refine wp_aload_n dX4_cost_77 rfl ?_
          refine wp_getR dX4_cost_78 flX4_13 (by decide) rfl rfl ?_
          refine wp_iload_n dX4_cost_81 rfl ?_
          refine wp_iaload dX4_cost_82 (by decide) rfl (by omega) (by omega) (by decide) ?_
          refine wp_iconst dX4_cost_83 (by decide) ?_
          refine wp_ic_eq 102 dX4_cost_84 (by decide) (fun hh84 => ?_) (fun hh84 => ?_)
          · refine wp_aload_n dX4_cost_102 rfl ?_
            refine wp_iload_n dX4_cost_103 rfl ?_
            refine wp_V1 dX4_cost_104 vlX4_92 (by decide) rfl (Nat.le_of_ble_eq_true rfl) ?_
            refine s4_isUp hg (by omega) (by omega) ?_
            refine wp_aload_n dX4_cost_107 rfl ?_
            refine wp_iload_n dX4_cost_108 rfl ?_
            refine wp_V1 dX4_cost_109 vlX4_92 (by decide) rfl (Nat.le_of_ble_eq_true rfl) ?_
            refine s4_isUp hg (by omega) (by omega) ?_
            refine wp_ic_eq 124 dX4_cost_112 (by decide) (fun hh112 => ?_) (fun hh112 => ?_)
            · refine wp_iconst dX4_cost_124 (by decide) ?_
              refine wp_iret dX4_cost_125 (Or.inl rfl) ?_
              exact q_i (by unfold cst; rw [cif_t ⟨hh12, hh20⟩, cif_t hh31, cif_f hh52, cif_f (fun q => q.1 (hk.trans hh84)), cif_t (bi_iff hh112)]) hQ
            · refine wp_iconst dX4_cost_115 (by decide) ?_
              refine wp_aload_n dX4_cost_116 rfl ?_
              refine wp_getI dX4_cost_117 flX4_60 (by decide) rfl (Or.inl rfl) ?_
              refine wp_iaddN dX4_cost_120 (by omega) ?_
              refine wp_gotoN 125 dX4_cost_121 (by decide) ?_
              refine wp_iret dX4_cost_125 (Or.inl rfl) ?_
              exact q_i (by unfold cst; rw [cif_t ⟨hh12, hh20⟩, cif_t hh31, cif_f hh52, cif_f (fun q => q.1 (hk.trans hh84)), cif_f (fun q => hh112 (bi_c q))]; rfl) hQ
          · refine wp_aload_n dX4_cost_87 rfl ?_
            refine wp_getR dX4_cost_88 flX4_13 (by decide) rfl rfl ?_
            refine wp_iload_n dX4_cost_91 rfl ?_
            refine wp_iaload dX4_cost_92 (by decide) rfl (by omega) (by omega) (by decide) ?_
            refine wp_iconst dX4_cost_93 (by decide) ?_
            refine wp_ic_eq 102 dX4_cost_94 (by decide) (fun hh94 => ?_) (fun hh94 => ?_)
            · refine wp_aload_n dX4_cost_102 rfl ?_
              refine wp_iload_n dX4_cost_103 rfl ?_
              refine wp_V1 dX4_cost_104 vlX4_92 (by decide) rfl (Nat.le_of_ble_eq_true rfl) ?_
              refine s4_isUp hg (by omega) (by omega) ?_
              refine wp_aload_n dX4_cost_107 rfl ?_
              refine wp_iload_n dX4_cost_108 rfl ?_
              refine wp_V1 dX4_cost_109 vlX4_92 (by decide) rfl (Nat.le_of_ble_eq_true rfl) ?_
              refine s4_isUp hg (by omega) (by omega) ?_
              refine wp_ic_eq 124 dX4_cost_112 (by decide) (fun hh112 => ?_) (fun hh112 => ?_)
              · refine wp_iconst dX4_cost_124 (by decide) ?_
                refine wp_iret dX4_cost_125 (Or.inl rfl) ?_
                exact q_i (by unfold cst; rw [cif_t ⟨hh12, hh20⟩, cif_t hh31, cif_f hh52, cif_f (fun q => q.2 (hk2.trans hh94)), cif_t (bi_iff hh112)]) hQ
              · refine wp_iconst dX4_cost_115 (by decide) ?_
                refine wp_aload_n dX4_cost_116 rfl ?_
                refine wp_getI dX4_cost_117 flX4_60 (by decide) rfl (Or.inl rfl) ?_
                refine wp_iaddN dX4_cost_120 (by omega) ?_
                refine wp_gotoN 125 dX4_cost_121 (by decide) ?_
                refine wp_iret dX4_cost_125 (Or.inl rfl) ?_
                exact q_i (by unfold cst; rw [cif_t ⟨hh12, hh20⟩, cif_t hh31, cif_f hh52, cif_f (fun q => q.2 (hk2.trans hh94)), cif_f (fun q => hh112 (bi_c q))]; rfl) hQ
            · refine wp_ldc dX4_cost_97 klX4_142 ?_
              refine wp_gotoN 125 dX4_cost_99 (by decide) ?_
              refine wp_iret dX4_cost_125 (Or.inl rfl) ?_
              exact q_i (by unfold cst; rw [cif_t ⟨hh12, hh20⟩, cif_t hh31, cif_f hh52, cif_t ⟨fun q => hh84 (hk.symm.trans q), fun q => hh94 (hk2.symm.trans q)⟩]) hQ
        · refine wp_iload_n dX4_cost_55 rfl ?_
          refine wp_aload_n dX4_cost_56 rfl ?_
          refine wp_getI dX4_cost_57 flX4_78 (by decide) rfl (Or.inl rfl) ?_
          refine wp_idiv dX4_cost_60 (by omega) (by omega) ?_
          refine wp_iload_n dX4_cost_61 rfl ?_
          refine wp_aload_n dX4_cost_62 rfl ?_
          refine wp_getI dX4_cost_63 flX4_78 (by decide) rfl (Or.inl rfl) ?_
          refine wp_idiv dX4_cost_66 (by omega) (by omega) ?_
          refine wp_ic_ne 74 dX4_cost_67 (by decide) (fun hh67 => ?_) (fun hh67 => ?_)
          · refine wp_ldc dX4_cost_74 klX4_142 ?_
            refine wp_iret dX4_cost_76 (Or.inl rfl) ?_
            exact q_i (by unfold cst; rw [gw_of (by omega), cif_t ⟨hh12, hh20⟩, cif_t hh31, cif_t (by omega), cif_f hh67]) hQ
          · refine wp_iconst dX4_cost_70 (by decide) ?_
            refine wp_gotoN 76 dX4_cost_71 (by decide) ?_
            refine wp_iret dX4_cost_76 (Or.inl rfl) ?_
            exact q_i (by unfold cst; rw [gw_of (by omega), cif_t ⟨hh12, hh20⟩, cif_t hh31, cif_t (by omega), cif_t (by omega)]) hQ
      · refine wp_iload_n dX4_cost_34 rfl ?_
        refine wp_aload_n dX4_cost_35 rfl ?_
        refine wp_iload_n dX4_cost_36 rfl ?_
        refine wp_V1 dX4_cost_37 vlX4_96 (by decide) rfl (Nat.le_of_ble_eq_true rfl) ?_
        refine s4_below hg (by omega) (by omega) (by omega) ?_
        refine wp_ic_ne 47 dX4_cost_40 (by decide) (fun hh40 => ?_) (fun hh40 => ?_)
        · refine wp_ldc dX4_cost_47 klX4_142 ?_
          refine wp_iret dX4_cost_49 (Or.inl rfl) ?_
          exact q_i (by unfold cst; rw [cif_t ⟨hh12, hh20⟩, cif_f hh31, cif_f hh40]) hQ
        · refine wp_iconst dX4_cost_43 (by decide) ?_
          refine wp_gotoN 49 dX4_cost_44 (by decide) ?_
          refine wp_iret dX4_cost_49 (Or.inl rfl) ?_
          exact q_i (by unfold cst; rw [cif_t ⟨hh12, hh20⟩, cif_f hh31, cif_t (by omega)]) hQ
    · refine wp_ldc dX4_cost_23 klX4_142 ?_
      refine wp_iret dX4_cost_25 (Or.inl rfl) ?_
      exact q_i (by unfold cst; rw [cif_f (fun q => hh20 q.2)]) hQ
set_option maxRecDepth 20000 in
theorem s4_kindOf {d : Nat} {σ : aS} {Q : aQ} {b : Int} {NC : Nat} (hQ : Q (some (vi (kOf b))) σ) : aCall NC (d + 1) mX4_kindOf [vi b] σ Q := by
  refine cl_in (own := RX4) (cc := cX4_kindOf) (rk := 0) (L := [some (vi b)]) rfl rfl rfl rfl (by decide) (Nat.le_of_ble_eq_true rfl) ?_
  refine wp_iload_n dX4_kindOf_0 rfl ?_
  refine wp_bipush dX4_kindOf_1 (by decide) ?_
  refine wp_ic_ne 10 dX4_kindOf_3 (by decide) (fun h3 => ?_) (fun h3 => ?_)
  · refine wp_iload_n dX4_kindOf_10 rfl ?_
    refine wp_bipush dX4_kindOf_11 (by decide) ?_
    refine wp_ic_ne 20 dX4_kindOf_13 (by decide) (fun h13 => ?_) (fun h13 => ?_)
    · refine wp_iload_n dX4_kindOf_20 rfl ?_
      refine wp_bipush dX4_kindOf_21 (by decide) ?_
      refine wp_ic_ne 30 dX4_kindOf_23 (by decide) (fun h23 => ?_) (fun h23 => ?_)
      · refine wp_iload_n dX4_kindOf_30 rfl ?_
        refine wp_bipush dX4_kindOf_31 (by decide) ?_
        refine wp_ic_ne 40 dX4_kindOf_33 (by decide) (fun h33 => ?_) (fun h33 => ?_)
        · refine wp_iconst dX4_kindOf_40 (by decide) ?_
          refine wp_iret dX4_kindOf_41 (Or.inl rfl) ?_
          exact q_i (by unfold kOf; repeat (first | rw [if_pos (by omega)] | rw [if_neg (by omega)])) hQ
        · refine wp_iconst dX4_kindOf_36 (by decide) ?_
          refine wp_gotoN 41 dX4_kindOf_37 (by decide) ?_
          refine wp_iret dX4_kindOf_41 (Or.inl rfl) ?_
          exact q_i (by unfold kOf; repeat (first | rw [if_pos (by omega)] | rw [if_neg (by omega)])) hQ
      · refine wp_iconst dX4_kindOf_26 (by decide) ?_
        refine wp_gotoN 41 dX4_kindOf_27 (by decide) ?_
        refine wp_iret dX4_kindOf_41 (Or.inl rfl) ?_
        exact q_i (by unfold kOf; repeat (first | rw [if_pos (by omega)] | rw [if_neg (by omega)])) hQ
    · refine wp_iconst dX4_kindOf_16 (by decide) ?_
      refine wp_gotoN 41 dX4_kindOf_17 (by decide) ?_
      refine wp_iret dX4_kindOf_41 (Or.inl rfl) ?_
      exact q_i (by unfold kOf; repeat (first | rw [if_pos (by omega)] | rw [if_neg (by omega)])) hQ
  · refine wp_iconst dX4_kindOf_6 (by decide) ?_
    refine wp_gotoN 41 dX4_kindOf_7 (by decide) ?_
    refine wp_iret dX4_kindOf_41 (Or.inl rfl) ?_
    exact q_i (by unfold kOf; repeat (first | rw [if_pos (by omega)] | rw [if_neg (by omega)])) hQ
/-- the text read, as the reference reads it: the FAULT, ROWS, width, CELLS, kinds -/
def pf (tx : Nat → Int) (len : Nat) : Nat → Nat → Int → Int → Int → Int → (Nat → Int) → Int × Int × Int × Int × (Nat → Int)
  | 0, _, row, col, n, w, kd => if 0 < len ∧ (col = 0 ∨ (0 < row ∧ col < w)) then (len, 0, w, 0, kd) else (-1, if len = 0 then 0 else row + 1, if row = 0 then col else w, n, kd)
  | r + 1, k, row, col, n, w, kd =>
    if row = 5 then (k, 0, w, 0, kd)
    else if tx k = 59 then (if col = 0 ∨ (0 < row ∧ col < w) then (k, 0, w, 0, kd) else pf tx len r (k + 1) (row + 1) 0 n (if row = 0 then col else w) kd)
    else if kOf (tx k) = -1 ∨ col = w then (k, 0, w, 0, kd)
    else pf tx len r (k + 1) row (col + 1) (n + 1) w (fun i => if i = n.toNat then kOf (tx k) else kd i)
/-- nothing has changed but width, rows, cells, kinds of the model -/
def Fr0 (σ0 σ : aS) : Prop := (∀ c k, ¬ (c = 18 ∧ (k = 2 ∨ k = 3 ∨ k = 4)) → c ≠ 20 → σ.1 c k = σ0.1 c k) ∧ σ.2 = σ0.2
theorem Fr0.rf {σ : aS} : Fr0 σ σ := ⟨fun _ _ _ _ => rfl, rfl⟩
theorem Fr0.put {σ0 σ : aS} {k : Nat} {x : Int} (h : Fr0 σ0 σ) (hk : k = 2 ∨ k = 3 ∨ k = 4) : Fr0 σ0 (sI σ 18 k x) := by
  refine ⟨fun c j h1 h2 => ?_, h.2⟩
  rw [sI_at, if_neg (fun q => h1 ⟨q.1, by rw [q.2]; exact hk⟩)]
  exact h.1 c j h1 h2
theorem Fr0.kd {σ0 σ : aS} {k : Nat} {x : Int} (h : Fr0 σ0 σ) : Fr0 σ0 (sI σ 20 k x) := by
  refine ⟨fun c j h1 h2 => ?_, h.2⟩
  rw [sI_at, if_neg (fun q => h2 q.1)]
  exact h.1 c j h1 h2
set_option maxRecDepth 20000 in
theorem l4_fault {d : Nat} {σ0 : aS} {Q : aQ} {tx : Nat → Int} {len : Nat} (hlen : len ≤ 39) (htx : ∀ k, k < len → σ0.1 19 k = tx k) : ∀ (r k : Nat) (row col n w : Int) (kd : Nat → Int) (σ : aS) (u : Option aV), k + r = len → 0 ≤ row → row ≤ 5 → 0 ≤ col → col ≤ w → w ≤ 7 → 0 ≤ n → n ≤ 7 * row + col → Fr0 σ0 σ → σ.1 18 2 = w → σ.1 18 3 = 0 → σ.1 18 4 = 0 → σ.1 20 = kd → σ.1 18 1 = len →
    (hQ : ∀ σ', Fr0 σ0 σ' → σ'.1 18 2 = (pf tx len r k row col n w kd).2.2.1 → σ'.1 18 3 = (pf tx len r k row col n w kd).2.1 → σ'.1 18 4 = (pf tx len r k row col n w kd).2.2.2.1 → σ'.1 20 = (pf tx len r k row col n w kd).2.2.2.2 → Q (some (vi (pf tx len r k row col n w kd).1)) σ') → Wp RX4 cX4_faultNow 34 (aCall 34 (d + 1)) Q 0 false 0 (fun _ => 0) 25 [some (vr 18), some (vi row), some (vi col), some (vi n), some (vi k), u] [] σ := by
  intro r
  induction r with
  | zero =>
    intro k row col n w kd σ u hk g1 g2 g3 g4 g5 g6 g7 hF hw h3 h4 hkd hl hQ
    refine wp_iload dX4_faultNow_25 rfl ?_
    refine wp_aload_n dX4_faultNow_27 rfl ?_
    refine wp_getI dX4_faultNow_28 flX4_69 (by decide) rfl (Or.inl rfl) ?_
    refine wp_ic_ge 146 dX4_faultNow_31 (by decide) (fun hh31 => ?_) (fun hh31 => ?_)
    · refine wp_aload_n dX4_faultNow_146 rfl ?_
      refine wp_getI dX4_faultNow_147 flX4_69 (by decide) rfl (Or.inl rfl) ?_
      refine wp_if_le 174 dX4_faultNow_150 (by decide) (fun hh150 => ?_) (fun hh150 => ?_)
      · refine wp_aload_n dX4_faultNow_174 rfl ?_
        refine wp_iload_n dX4_faultNow_175 rfl ?_
        refine wp_if_ne 183 dX4_faultNow_176 (by decide) (fun hh176 => ?_) (fun hh176 => ?_)
        · refine wp_aload_n dX4_faultNow_183 rfl ?_
          refine wp_getI dX4_faultNow_184 flX4_78 (by decide) rfl (Or.inl rfl) ?_
          refine wp_putI dX4_faultNow_187 flX4_78 (by decide) rfl rfl rfl rfl ?_
          refine wp_aload_n dX4_faultNow_190 rfl ?_
          refine wp_aload_n dX4_faultNow_191 rfl ?_
          refine wp_getI dX4_faultNow_192 flX4_69 (by decide) rfl (Or.inl rfl) ?_
          rw [sI_ne (fun q => absurd q.2 (by decide))]
          refine wp_if_ne 202 dX4_faultNow_195 (by decide) (fun hh195 => ?_) (fun hh195 => ?_)
          · refine wp_iload_n dX4_faultNow_202 rfl ?_
            refine wp_iconst dX4_faultNow_203 (by decide) ?_
            refine wp_iaddN dX4_faultNow_204 (by omega) ?_
            refine wp_putI dX4_faultNow_205 flX4_75 (by decide) rfl rfl rfl rfl ?_
            refine wp_aload_n dX4_faultNow_208 rfl ?_
            refine wp_iload_n dX4_faultNow_209 rfl ?_
            refine wp_putI dX4_faultNow_210 flX4_72 (by decide) rfl rfl rfl rfl ?_
            refine wp_iconst dX4_faultNow_213 (by decide) ?_
            refine wp_iret dX4_faultNow_214 (Or.inl rfl) ?_
            unfold pf at hQ
            rw [if_neg (by omega)] at hQ
            exact hQ _ (((hF.put (by decide)).put (by decide)).put (by decide)) (by simp only []; first | (rw [if_pos (by omega)]; rfl) | (rw [if_neg (by omega)]; exact hw)) (by simp only []; first | (rw [if_pos (by omega)]; rfl) | (rw [if_neg (by omega)]; rfl)) rfl hkd
          · refine wp_iconst dX4_faultNow_198 (by decide) ?_
            refine wp_gotoN 205 dX4_faultNow_199 (by decide) ?_
            refine wp_putI dX4_faultNow_205 flX4_75 (by decide) rfl rfl rfl rfl ?_
            refine wp_aload_n dX4_faultNow_208 rfl ?_
            refine wp_iload_n dX4_faultNow_209 rfl ?_
            refine wp_putI dX4_faultNow_210 flX4_72 (by decide) rfl rfl rfl rfl ?_
            refine wp_iconst dX4_faultNow_213 (by decide) ?_
            refine wp_iret dX4_faultNow_214 (Or.inl rfl) ?_
            unfold pf at hQ
            rw [if_neg (by omega)] at hQ
            exact hQ _ (((hF.put (by decide)).put (by decide)).put (by decide)) (by simp only []; first | (rw [if_pos (by omega)]; rfl) | (rw [if_neg (by omega)]; exact hw)) (by simp only []; first | (rw [if_pos (by omega)]; rfl) | (rw [if_neg (by omega)]; rfl)) rfl hkd
        · refine wp_iload_n dX4_faultNow_179 rfl ?_
          refine wp_gotoN 187 dX4_faultNow_180 (by decide) ?_
          refine wp_putI dX4_faultNow_187 flX4_78 (by decide) rfl rfl rfl rfl ?_
          refine wp_aload_n dX4_faultNow_190 rfl ?_
          refine wp_aload_n dX4_faultNow_191 rfl ?_
          refine wp_getI dX4_faultNow_192 flX4_69 (by decide) rfl (Or.inl rfl) ?_
          rw [sI_ne (fun q => absurd q.2 (by decide))]
          refine wp_if_ne 202 dX4_faultNow_195 (by decide) (fun hh195 => ?_) (fun hh195 => ?_)
          · refine wp_iload_n dX4_faultNow_202 rfl ?_
            refine wp_iconst dX4_faultNow_203 (by decide) ?_
            refine wp_iaddN dX4_faultNow_204 (by omega) ?_
            refine wp_putI dX4_faultNow_205 flX4_75 (by decide) rfl rfl rfl rfl ?_
            refine wp_aload_n dX4_faultNow_208 rfl ?_
            refine wp_iload_n dX4_faultNow_209 rfl ?_
            refine wp_putI dX4_faultNow_210 flX4_72 (by decide) rfl rfl rfl rfl ?_
            refine wp_iconst dX4_faultNow_213 (by decide) ?_
            refine wp_iret dX4_faultNow_214 (Or.inl rfl) ?_
            unfold pf at hQ
            rw [if_neg (by omega)] at hQ
            exact hQ _ (((hF.put (by decide)).put (by decide)).put (by decide)) (by simp only []; first | (rw [if_pos (by omega)]; rfl) | (rw [if_neg (by omega)]; exact hw)) (by simp only []; first | (rw [if_pos (by omega)]; rfl) | (rw [if_neg (by omega)]; rfl)) rfl hkd
          · refine wp_iconst dX4_faultNow_198 (by decide) ?_
            refine wp_gotoN 205 dX4_faultNow_199 (by decide) ?_
            refine wp_putI dX4_faultNow_205 flX4_75 (by decide) rfl rfl rfl rfl ?_
            refine wp_aload_n dX4_faultNow_208 rfl ?_
            refine wp_iload_n dX4_faultNow_209 rfl ?_
            refine wp_putI dX4_faultNow_210 flX4_72 (by decide) rfl rfl rfl rfl ?_
            refine wp_iconst dX4_faultNow_213 (by decide) ?_
            refine wp_iret dX4_faultNow_214 (Or.inl rfl) ?_
            unfold pf at hQ
            rw [if_neg (by omega)] at hQ
            exact hQ _ (((hF.put (by decide)).put (by decide)).put (by decide)) (by simp only []; first | (rw [if_pos (by omega)]; rfl) | (rw [if_neg (by omega)]; exact hw)) (by simp only []; first | (rw [if_pos (by omega)]; rfl) | (rw [if_neg (by omega)]; rfl)) rfl hkd
      · refine wp_iload_n dX4_faultNow_153 rfl ?_
        refine wp_if_eq 169 dX4_faultNow_154 (by decide) (fun hh154 => ?_) (fun hh154 => ?_)
        · refine wp_aload_n dX4_faultNow_169 rfl ?_
          refine wp_getI dX4_faultNow_170 flX4_69 (by decide) rfl (Or.inl rfl) ?_
          refine wp_iret dX4_faultNow_173 (Or.inl rfl) ?_
          rw [hl]
          unfold pf at hQ
          rw [if_pos (by omega)] at hQ
          exact hQ σ hF hw h3 h4 hkd
        · refine wp_iload_n dX4_faultNow_157 rfl ?_
          refine wp_if_le 174 dX4_faultNow_158 (by decide) (fun hh158 => ?_) (fun hh158 => ?_)
          · refine wp_aload_n dX4_faultNow_174 rfl ?_
            refine wp_iload_n dX4_faultNow_175 rfl ?_
            refine wp_if_ne 183 dX4_faultNow_176 (by decide) (fun hh176 => ?_) (fun hh176 => ?_)
            · refine wp_aload_n dX4_faultNow_183 rfl ?_
              refine wp_getI dX4_faultNow_184 flX4_78 (by decide) rfl (Or.inl rfl) ?_
              refine wp_putI dX4_faultNow_187 flX4_78 (by decide) rfl rfl rfl rfl ?_
              refine wp_aload_n dX4_faultNow_190 rfl ?_
              refine wp_aload_n dX4_faultNow_191 rfl ?_
              refine wp_getI dX4_faultNow_192 flX4_69 (by decide) rfl (Or.inl rfl) ?_
              rw [sI_ne (fun q => absurd q.2 (by decide))]
              refine wp_if_ne 202 dX4_faultNow_195 (by decide) (fun hh195 => ?_) (fun hh195 => ?_)
              · refine wp_iload_n dX4_faultNow_202 rfl ?_
                refine wp_iconst dX4_faultNow_203 (by decide) ?_
                refine wp_iaddN dX4_faultNow_204 (by omega) ?_
                refine wp_putI dX4_faultNow_205 flX4_75 (by decide) rfl rfl rfl rfl ?_
                refine wp_aload_n dX4_faultNow_208 rfl ?_
                refine wp_iload_n dX4_faultNow_209 rfl ?_
                refine wp_putI dX4_faultNow_210 flX4_72 (by decide) rfl rfl rfl rfl ?_
                refine wp_iconst dX4_faultNow_213 (by decide) ?_
                refine wp_iret dX4_faultNow_214 (Or.inl rfl) ?_
                unfold pf at hQ
                rw [if_neg (by omega)] at hQ
                exact hQ _ (((hF.put (by decide)).put (by decide)).put (by decide)) (by simp only []; first | (rw [if_pos (by omega)]; rfl) | (rw [if_neg (by omega)]; exact hw)) (by simp only []; first | (rw [if_pos (by omega)]; rfl) | (rw [if_neg (by omega)]; rfl)) rfl hkd
              · refine wp_iconst dX4_faultNow_198 (by decide) ?_
                refine wp_gotoN 205 dX4_faultNow_199 (by decide) ?_
                refine wp_putI dX4_faultNow_205 flX4_75 (by decide) rfl rfl rfl rfl ?_
                refine wp_aload_n dX4_faultNow_208 rfl ?_
                refine wp_iload_n dX4_faultNow_209 rfl ?_
                refine wp_putI dX4_faultNow_210 flX4_72 (by decide) rfl rfl rfl rfl ?_
                refine wp_iconst dX4_faultNow_213 (by decide) ?_
                refine wp_iret dX4_faultNow_214 (Or.inl rfl) ?_
                unfold pf at hQ
                rw [if_neg (by omega)] at hQ
                exact hQ _ (((hF.put (by decide)).put (by decide)).put (by decide)) (by simp only []; first | (rw [if_pos (by omega)]; rfl) | (rw [if_neg (by omega)]; exact hw)) (by simp only []; first | (rw [if_pos (by omega)]; rfl) | (rw [if_neg (by omega)]; rfl)) rfl hkd
            · refine wp_iload_n dX4_faultNow_179 rfl ?_
              refine wp_gotoN 187 dX4_faultNow_180 (by decide) ?_
              refine wp_putI dX4_faultNow_187 flX4_78 (by decide) rfl rfl rfl rfl ?_
              refine wp_aload_n dX4_faultNow_190 rfl ?_
              refine wp_aload_n dX4_faultNow_191 rfl ?_
              refine wp_getI dX4_faultNow_192 flX4_69 (by decide) rfl (Or.inl rfl) ?_
              rw [sI_ne (fun q => absurd q.2 (by decide))]
              refine wp_if_ne 202 dX4_faultNow_195 (by decide) (fun hh195 => ?_) (fun hh195 => ?_)
              · refine wp_iload_n dX4_faultNow_202 rfl ?_
                refine wp_iconst dX4_faultNow_203 (by decide) ?_
                refine wp_iaddN dX4_faultNow_204 (by omega) ?_
                refine wp_putI dX4_faultNow_205 flX4_75 (by decide) rfl rfl rfl rfl ?_
                refine wp_aload_n dX4_faultNow_208 rfl ?_
                refine wp_iload_n dX4_faultNow_209 rfl ?_
                refine wp_putI dX4_faultNow_210 flX4_72 (by decide) rfl rfl rfl rfl ?_
                refine wp_iconst dX4_faultNow_213 (by decide) ?_
                refine wp_iret dX4_faultNow_214 (Or.inl rfl) ?_
                unfold pf at hQ
                rw [if_neg (by omega)] at hQ
                exact hQ _ (((hF.put (by decide)).put (by decide)).put (by decide)) (by simp only []; first | (rw [if_pos (by omega)]; rfl) | (rw [if_neg (by omega)]; exact hw)) (by simp only []; first | (rw [if_pos (by omega)]; rfl) | (rw [if_neg (by omega)]; rfl)) rfl hkd
              · refine wp_iconst dX4_faultNow_198 (by decide) ?_
                refine wp_gotoN 205 dX4_faultNow_199 (by decide) ?_
                refine wp_putI dX4_faultNow_205 flX4_75 (by decide) rfl rfl rfl rfl ?_
                refine wp_aload_n dX4_faultNow_208 rfl ?_
                refine wp_iload_n dX4_faultNow_209 rfl ?_
                refine wp_putI dX4_faultNow_210 flX4_72 (by decide) rfl rfl rfl rfl ?_
                refine wp_iconst dX4_faultNow_213 (by decide) ?_
                refine wp_iret dX4_faultNow_214 (Or.inl rfl) ?_
                unfold pf at hQ
                rw [if_neg (by omega)] at hQ
                exact hQ _ (((hF.put (by decide)).put (by decide)).put (by decide)) (by simp only []; first | (rw [if_pos (by omega)]; rfl) | (rw [if_neg (by omega)]; exact hw)) (by simp only []; first | (rw [if_pos (by omega)]; rfl) | (rw [if_neg (by omega)]; rfl)) rfl hkd
          · refine wp_iload_n dX4_faultNow_161 rfl ?_
            refine wp_aload_n dX4_faultNow_162 rfl ?_
            refine wp_getI dX4_faultNow_163 flX4_78 (by decide) rfl (Or.inl rfl) ?_
            refine wp_ic_ge 174 dX4_faultNow_166 (by decide) (fun hh166 => ?_) (fun hh166 => ?_)
            · refine wp_aload_n dX4_faultNow_174 rfl ?_
              refine wp_iload_n dX4_faultNow_175 rfl ?_
              refine wp_if_ne 183 dX4_faultNow_176 (by decide) (fun hh176 => ?_) (fun hh176 => ?_)
              · refine wp_aload_n dX4_faultNow_183 rfl ?_
                refine wp_getI dX4_faultNow_184 flX4_78 (by decide) rfl (Or.inl rfl) ?_
                refine wp_putI dX4_faultNow_187 flX4_78 (by decide) rfl rfl rfl rfl ?_
                refine wp_aload_n dX4_faultNow_190 rfl ?_
                refine wp_aload_n dX4_faultNow_191 rfl ?_
                refine wp_getI dX4_faultNow_192 flX4_69 (by decide) rfl (Or.inl rfl) ?_
                rw [sI_ne (fun q => absurd q.2 (by decide))]
                refine wp_if_ne 202 dX4_faultNow_195 (by decide) (fun hh195 => ?_) (fun hh195 => ?_)
                · refine wp_iload_n dX4_faultNow_202 rfl ?_
                  refine wp_iconst dX4_faultNow_203 (by decide) ?_
                  refine wp_iaddN dX4_faultNow_204 (by omega) ?_
                  refine wp_putI dX4_faultNow_205 flX4_75 (by decide) rfl rfl rfl rfl ?_
                  refine wp_aload_n dX4_faultNow_208 rfl ?_
                  refine wp_iload_n dX4_faultNow_209 rfl ?_
                  refine wp_putI dX4_faultNow_210 flX4_72 (by decide) rfl rfl rfl rfl ?_
                  refine wp_iconst dX4_faultNow_213 (by decide) ?_
                  refine wp_iret dX4_faultNow_214 (Or.inl rfl) ?_
                  unfold pf at hQ
                  rw [if_neg (by omega)] at hQ
                  exact hQ _ (((hF.put (by decide)).put (by decide)).put (by decide)) (by simp only []; first | (rw [if_pos (by omega)]; rfl) | (rw [if_neg (by omega)]; exact hw)) (by simp only []; first | (rw [if_pos (by omega)]; rfl) | (rw [if_neg (by omega)]; rfl)) rfl hkd
                · refine wp_iconst dX4_faultNow_198 (by decide) ?_
                  refine wp_gotoN 205 dX4_faultNow_199 (by decide) ?_
                  refine wp_putI dX4_faultNow_205 flX4_75 (by decide) rfl rfl rfl rfl ?_
                  refine wp_aload_n dX4_faultNow_208 rfl ?_
                  refine wp_iload_n dX4_faultNow_209 rfl ?_
                  refine wp_putI dX4_faultNow_210 flX4_72 (by decide) rfl rfl rfl rfl ?_
                  refine wp_iconst dX4_faultNow_213 (by decide) ?_
                  refine wp_iret dX4_faultNow_214 (Or.inl rfl) ?_
                  unfold pf at hQ
                  rw [if_neg (by omega)] at hQ
                  exact hQ _ (((hF.put (by decide)).put (by decide)).put (by decide)) (by simp only []; first | (rw [if_pos (by omega)]; rfl) | (rw [if_neg (by omega)]; exact hw)) (by simp only []; first | (rw [if_pos (by omega)]; rfl) | (rw [if_neg (by omega)]; rfl)) rfl hkd
              · refine wp_iload_n dX4_faultNow_179 rfl ?_
                refine wp_gotoN 187 dX4_faultNow_180 (by decide) ?_
                refine wp_putI dX4_faultNow_187 flX4_78 (by decide) rfl rfl rfl rfl ?_
                refine wp_aload_n dX4_faultNow_190 rfl ?_
                refine wp_aload_n dX4_faultNow_191 rfl ?_
                refine wp_getI dX4_faultNow_192 flX4_69 (by decide) rfl (Or.inl rfl) ?_
                rw [sI_ne (fun q => absurd q.2 (by decide))]
                refine wp_if_ne 202 dX4_faultNow_195 (by decide) (fun hh195 => ?_) (fun hh195 => ?_)
                · refine wp_iload_n dX4_faultNow_202 rfl ?_
                  refine wp_iconst dX4_faultNow_203 (by decide) ?_
                  refine wp_iaddN dX4_faultNow_204 (by omega) ?_
                  refine wp_putI dX4_faultNow_205 flX4_75 (by decide) rfl rfl rfl rfl ?_
                  refine wp_aload_n dX4_faultNow_208 rfl ?_
                  refine wp_iload_n dX4_faultNow_209 rfl ?_
                  refine wp_putI dX4_faultNow_210 flX4_72 (by decide) rfl rfl rfl rfl ?_
                  refine wp_iconst dX4_faultNow_213 (by decide) ?_
                  refine wp_iret dX4_faultNow_214 (Or.inl rfl) ?_
                  unfold pf at hQ
                  rw [if_neg (by omega)] at hQ
                  exact hQ _ (((hF.put (by decide)).put (by decide)).put (by decide)) (by simp only []; first | (rw [if_pos (by omega)]; rfl) | (rw [if_neg (by omega)]; exact hw)) (by simp only []; first | (rw [if_pos (by omega)]; rfl) | (rw [if_neg (by omega)]; rfl)) rfl hkd
                · refine wp_iconst dX4_faultNow_198 (by decide) ?_
                  refine wp_gotoN 205 dX4_faultNow_199 (by decide) ?_
                  refine wp_putI dX4_faultNow_205 flX4_75 (by decide) rfl rfl rfl rfl ?_
                  refine wp_aload_n dX4_faultNow_208 rfl ?_
                  refine wp_iload_n dX4_faultNow_209 rfl ?_
                  refine wp_putI dX4_faultNow_210 flX4_72 (by decide) rfl rfl rfl rfl ?_
                  refine wp_iconst dX4_faultNow_213 (by decide) ?_
                  refine wp_iret dX4_faultNow_214 (Or.inl rfl) ?_
                  unfold pf at hQ
                  rw [if_neg (by omega)] at hQ
                  exact hQ _ (((hF.put (by decide)).put (by decide)).put (by decide)) (by simp only []; first | (rw [if_pos (by omega)]; rfl) | (rw [if_neg (by omega)]; exact hw)) (by simp only []; first | (rw [if_pos (by omega)]; rfl) | (rw [if_neg (by omega)]; rfl)) rfl hkd
            · refine wp_aload_n dX4_faultNow_169 rfl ?_
              refine wp_getI dX4_faultNow_170 flX4_69 (by decide) rfl (Or.inl rfl) ?_
              refine wp_iret dX4_faultNow_173 (Or.inl rfl) ?_
              rw [hl]
              unfold pf at hQ
              rw [if_pos (by omega)] at hQ
              exact hQ σ hF hw h3 h4 hkd
    · exact absurd hl (by omega)
  | succ r ih =>
    intro k row col n w kd σ u hk g1 g2 g3 g4 g5 g6 g7 hF hw h3 h4 hkd hl hQ
    refine wp_iload dX4_faultNow_25 rfl ?_
    refine wp_aload_n dX4_faultNow_27 rfl ?_
    refine wp_getI dX4_faultNow_28 flX4_69 (by decide) rfl (Or.inl rfl) ?_
    refine wp_ic_ge 146 dX4_faultNow_31 (by decide) (fun hh31 => ?_) (fun hh31 => ?_)
    · exact absurd hl (by omega)
    · have hx : σ.1 19 (k : Int).toNat = tx k := by rw [Int.toNat_natCast, hF.1 19 k (fun q => absurd q.1 (by decide)) (by decide)]; exact htx k (by omega)
      refine wp_iload_n dX4_faultNow_34 rfl ?_
      refine wp_iconst dX4_faultNow_35 (by decide) ?_
      refine wp_ic_ne 42 dX4_faultNow_36 (by decide) (fun hh36 => ?_) (fun hh36 => ?_)
      · refine wp_aload_n dX4_faultNow_42 rfl ?_
        refine wp_getR dX4_faultNow_43 flX4_7 (by decide) rfl rfl ?_
        refine wp_iload dX4_faultNow_46 rfl ?_
        refine wp_iaload dX4_faultNow_48 (by decide) rfl (by omega) (by omega) (by decide) ?_
        rw [hx]
        refine wp_bipush dX4_faultNow_49 (by decide) ?_
        refine wp_ic_ne 97 dX4_faultNow_51 (by decide) (fun hh51 => ?_) (fun hh51 => ?_)
        · refine wp_aload_n dX4_faultNow_97 rfl ?_
          refine wp_getR dX4_faultNow_98 flX4_7 (by decide) rfl rfl ?_
          refine wp_iload dX4_faultNow_101 rfl ?_
          refine wp_iaload dX4_faultNow_103 (by decide) rfl (by omega) (by omega) (by decide) ?_
          rw [hx]
          refine wp_S1 dX4_faultNow_104 zlX4_81 (Nat.le_of_ble_eq_true rfl) ?_
          refine s4_kindOf ?_
          refine wp_ist (L' := [some (vr _), some (vi _), some (vi _), some (vi _), some (vi _), some (vi _)]) dX4_faultNow_107 (Nat.le_of_ble_eq_true rfl) rfl ?_
          refine wp_iload dX4_faultNow_109 rfl ?_
          refine wp_iconst dX4_faultNow_111 (by decide) ?_
          refine wp_ic_eq 123 dX4_faultNow_112 (by decide) (fun hh112 => ?_) (fun hh112 => ?_)
          · refine wp_iload dX4_faultNow_123 rfl ?_
            refine wp_iret dX4_faultNow_125 (Or.inl rfl) ?_
            unfold pf at hQ
            rw [if_neg (by omega), if_neg (by omega), if_pos (by omega)] at hQ
            exact hQ σ hF hw h3 h4 hkd
          · refine wp_iload_n dX4_faultNow_115 rfl ?_
            refine wp_aload_n dX4_faultNow_116 rfl ?_
            refine wp_getI dX4_faultNow_117 flX4_78 (by decide) rfl (Or.inl rfl) ?_
            refine wp_ic_ne 126 dX4_faultNow_120 (by decide) (fun hh120 => ?_) (fun hh120 => ?_)
            · refine wp_aload_n dX4_faultNow_126 rfl ?_
              refine wp_getR dX4_faultNow_127 flX4_13 (by decide) rfl rfl ?_
              refine wp_iload_n dX4_faultNow_130 rfl ?_
              refine wp_iload dX4_faultNow_131 rfl ?_
              refine wp_iastore dX4_faultNow_133 (by decide) rfl (by omega) (by omega) (by decide) ?_
              refine wp_iincN (L' := [some (vr _), some (vi _), some (vi _), some (vi _), some (vi _), some (vi _)]) dX4_faultNow_134 rfl (by omega) rfl ?_
              refine wp_iincN (L' := [some (vr _), some (vi _), some (vi _), some (vi _), some (vi _), some (vi _)]) dX4_faultNow_137 rfl (by omega) rfl ?_
              refine wp_iincN (L' := [some (vr _), some (vi _), some (vi _), some (vi _), some (vi _), some (vi _)]) dX4_faultNow_140 rfl (by omega) rfl ?_
              refine wp_gotoN 25 dX4_faultNow_143 (by decide) ?_
              unfold pf at hQ
              rw [if_neg (by omega), if_neg (by omega), if_neg (by omega)] at hQ
              refine ih (k + 1) _ _ _ _ _ _ _ (by omega) (by omega) (by omega) (by omega) (by omega) (by omega) (by omega) (by omega) hF.kd hw h3 h4 ?_ hl hQ
              funext i
              show (if 20 = 20 ∧ i = n.toNat then _ else σ.1 20 i) = _
              rw [hkd]
              by_cases hi : i = n.toNat <;> simp [hi]
            · refine wp_iload dX4_faultNow_123 rfl ?_
              refine wp_iret dX4_faultNow_125 (Or.inl rfl) ?_
              unfold pf at hQ
              rw [if_neg (by omega), if_neg (by omega), if_pos (by omega)] at hQ
              exact hQ σ hF hw h3 h4 hkd
        · refine wp_iload_n dX4_faultNow_54 rfl ?_
          refine wp_if_eq 70 dX4_faultNow_55 (by decide) (fun hh55 => ?_) (fun hh55 => ?_)
          · refine wp_iload dX4_faultNow_70 rfl ?_
            refine wp_iret dX4_faultNow_72 (Or.inl rfl) ?_
            unfold pf at hQ
            rw [if_neg (by omega), if_pos (by omega), if_pos (by omega)] at hQ
            exact hQ σ hF hw h3 h4 hkd
          · refine wp_iload_n dX4_faultNow_58 rfl ?_
            refine wp_if_le 73 dX4_faultNow_59 (by decide) (fun hh59 => ?_) (fun hh59 => ?_)
            · refine wp_aload_n dX4_faultNow_73 rfl ?_
              refine wp_iload_n dX4_faultNow_74 rfl ?_
              refine wp_if_ne 82 dX4_faultNow_75 (by decide) (fun hh75 => ?_) (fun hh75 => ?_)
              · refine wp_aload_n dX4_faultNow_82 rfl ?_
                refine wp_getI dX4_faultNow_83 flX4_78 (by decide) rfl (Or.inl rfl) ?_
                refine wp_putI dX4_faultNow_86 flX4_78 (by decide) rfl rfl rfl rfl ?_
                refine wp_iincN (L' := [some (vr _), some (vi _), some (vi _), some (vi _), some (vi _), _]) dX4_faultNow_89 rfl (by omega) rfl ?_
                refine wp_iconst dX4_faultNow_92 (by decide) ?_
                refine wp_istN (L' := [some (vr _), some (vi _), some (vi _), some (vi _), some (vi _), _]) dX4_faultNow_93 (Nat.le_of_ble_eq_true rfl) rfl ?_
                refine wp_gotoN 140 dX4_faultNow_94 (by decide) ?_
                refine wp_iincN (L' := [some (vr _), some (vi _), some (vi _), some (vi _), some (vi _), _]) dX4_faultNow_140 rfl (by omega) rfl ?_
                refine wp_gotoN 25 dX4_faultNow_143 (by decide) ?_
                unfold pf at hQ
                rw [if_neg (by omega), if_pos (by omega), if_neg (by omega)] at hQ
                exact ih (k + 1) _ _ _ _ kd _ _ (by omega) (by omega) (by omega) (by omega) (by first | (rw [if_pos (by omega)]; omega) | (rw [if_neg (by omega)]; omega)) (by first | (rw [if_pos (by omega)]; omega) | (rw [if_neg (by omega)]; omega)) (by omega) (by omega) (hF.put (by decide)) (by first | (rw [if_pos (by omega)]; rfl) | (rw [if_neg (by omega)]; exact hw)) h3 h4 hkd hl hQ
              · refine wp_iload_n dX4_faultNow_78 rfl ?_
                refine wp_gotoN 86 dX4_faultNow_79 (by decide) ?_
                refine wp_putI dX4_faultNow_86 flX4_78 (by decide) rfl rfl rfl rfl ?_
                refine wp_iincN (L' := [some (vr _), some (vi _), some (vi _), some (vi _), some (vi _), _]) dX4_faultNow_89 rfl (by omega) rfl ?_
                refine wp_iconst dX4_faultNow_92 (by decide) ?_
                refine wp_istN (L' := [some (vr _), some (vi _), some (vi _), some (vi _), some (vi _), _]) dX4_faultNow_93 (Nat.le_of_ble_eq_true rfl) rfl ?_
                refine wp_gotoN 140 dX4_faultNow_94 (by decide) ?_
                refine wp_iincN (L' := [some (vr _), some (vi _), some (vi _), some (vi _), some (vi _), _]) dX4_faultNow_140 rfl (by omega) rfl ?_
                refine wp_gotoN 25 dX4_faultNow_143 (by decide) ?_
                unfold pf at hQ
                rw [if_neg (by omega), if_pos (by omega), if_neg (by omega)] at hQ
                exact ih (k + 1) _ _ _ _ kd _ _ (by omega) (by omega) (by omega) (by omega) (by first | (rw [if_pos (by omega)]; omega) | (rw [if_neg (by omega)]; omega)) (by first | (rw [if_pos (by omega)]; omega) | (rw [if_neg (by omega)]; omega)) (by omega) (by omega) (hF.put (by decide)) (by first | (rw [if_pos (by omega)]; rfl) | (rw [if_neg (by omega)]; exact hw)) h3 h4 hkd hl hQ
            · refine wp_iload_n dX4_faultNow_62 rfl ?_
              refine wp_aload_n dX4_faultNow_63 rfl ?_
              refine wp_getI dX4_faultNow_64 flX4_78 (by decide) rfl (Or.inl rfl) ?_
              refine wp_ic_ge 73 dX4_faultNow_67 (by decide) (fun hh67 => ?_) (fun hh67 => ?_)
              · refine wp_aload_n dX4_faultNow_73 rfl ?_
                refine wp_iload_n dX4_faultNow_74 rfl ?_
                refine wp_if_ne 82 dX4_faultNow_75 (by decide) (fun hh75 => ?_) (fun hh75 => ?_)
                · refine wp_aload_n dX4_faultNow_82 rfl ?_
                  refine wp_getI dX4_faultNow_83 flX4_78 (by decide) rfl (Or.inl rfl) ?_
                  refine wp_putI dX4_faultNow_86 flX4_78 (by decide) rfl rfl rfl rfl ?_
                  refine wp_iincN (L' := [some (vr _), some (vi _), some (vi _), some (vi _), some (vi _), _]) dX4_faultNow_89 rfl (by omega) rfl ?_
                  refine wp_iconst dX4_faultNow_92 (by decide) ?_
                  refine wp_istN (L' := [some (vr _), some (vi _), some (vi _), some (vi _), some (vi _), _]) dX4_faultNow_93 (Nat.le_of_ble_eq_true rfl) rfl ?_
                  refine wp_gotoN 140 dX4_faultNow_94 (by decide) ?_
                  refine wp_iincN (L' := [some (vr _), some (vi _), some (vi _), some (vi _), some (vi _), _]) dX4_faultNow_140 rfl (by omega) rfl ?_
                  refine wp_gotoN 25 dX4_faultNow_143 (by decide) ?_
                  unfold pf at hQ
                  rw [if_neg (by omega), if_pos (by omega), if_neg (by omega)] at hQ
                  exact ih (k + 1) _ _ _ _ kd _ _ (by omega) (by omega) (by omega) (by omega) (by first | (rw [if_pos (by omega)]; omega) | (rw [if_neg (by omega)]; omega)) (by first | (rw [if_pos (by omega)]; omega) | (rw [if_neg (by omega)]; omega)) (by omega) (by omega) (hF.put (by decide)) (by first | (rw [if_pos (by omega)]; rfl) | (rw [if_neg (by omega)]; exact hw)) h3 h4 hkd hl hQ
                · refine wp_iload_n dX4_faultNow_78 rfl ?_
                  refine wp_gotoN 86 dX4_faultNow_79 (by decide) ?_
                  refine wp_putI dX4_faultNow_86 flX4_78 (by decide) rfl rfl rfl rfl ?_
                  refine wp_iincN (L' := [some (vr _), some (vi _), some (vi _), some (vi _), some (vi _), _]) dX4_faultNow_89 rfl (by omega) rfl ?_
                  refine wp_iconst dX4_faultNow_92 (by decide) ?_
                  refine wp_istN (L' := [some (vr _), some (vi _), some (vi _), some (vi _), some (vi _), _]) dX4_faultNow_93 (Nat.le_of_ble_eq_true rfl) rfl ?_
                  refine wp_gotoN 140 dX4_faultNow_94 (by decide) ?_
                  refine wp_iincN (L' := [some (vr _), some (vi _), some (vi _), some (vi _), some (vi _), _]) dX4_faultNow_140 rfl (by omega) rfl ?_
                  refine wp_gotoN 25 dX4_faultNow_143 (by decide) ?_
                  unfold pf at hQ
                  rw [if_neg (by omega), if_pos (by omega), if_neg (by omega)] at hQ
                  exact ih (k + 1) _ _ _ _ kd _ _ (by omega) (by omega) (by omega) (by omega) (by first | (rw [if_pos (by omega)]; omega) | (rw [if_neg (by omega)]; omega)) (by first | (rw [if_pos (by omega)]; omega) | (rw [if_neg (by omega)]; omega)) (by omega) (by omega) (hF.put (by decide)) (by first | (rw [if_pos (by omega)]; rfl) | (rw [if_neg (by omega)]; exact hw)) h3 h4 hkd hl hQ
              · refine wp_iload dX4_faultNow_70 rfl ?_
                refine wp_iret dX4_faultNow_72 (Or.inl rfl) ?_
                unfold pf at hQ
                rw [if_neg (by omega), if_pos (by omega), if_pos (by omega)] at hQ
                exact hQ σ hF hw h3 h4 hkd
      · refine wp_iload dX4_faultNow_39 rfl ?_
        refine wp_iret dX4_faultNow_41 (Or.inl rfl) ?_
        unfold pf at hQ
        rw [if_pos (by omega)] at hQ
        exact hQ σ hF hw h3 h4 hkd
set_option maxRecDepth 20000 in
theorem s4_faultNow {d : Nat} {σ : aS} {Q : aQ} {tx : Nat → Int} {len : Nat} (hlen : len ≤ 39) (htx : ∀ k, k < len → σ.1 19 k = tx k) (hl : σ.1 18 1 = len) (hQ : ∀ σ', Fr0 σ σ' → σ'.1 18 2 = (pf tx len len 0 0 0 0 7 (σ.1 20)).2.2.1 → σ'.1 18 3 = (pf tx len len 0 0 0 0 7 (σ.1 20)).2.1 → σ'.1 18 4 = (pf tx len len 0 0 0 0 7 (σ.1 20)).2.2.2.1 → σ'.1 20 = (pf tx len len 0 0 0 0 7 (σ.1 20)).2.2.2.2 → Q (some (vi (pf tx len len 0 0 0 0 7 (σ.1 20)).1)) σ') : aCall 34 (d + 2) mX4_faultNow [vr 18] σ Q := by
  refine cl_in (own := RX4) (cc := cX4_faultNow) (rk := 0) (L := [some (vr 18), none, none, none, none, none]) rfl rfl rfl rfl (by decide) (Nat.le_of_ble_eq_true rfl) ?_
  refine wp_iconst dX4_faultNow_0 (by decide) ?_
  refine wp_istN (L' := [some (vr _), some (vi _), none, none, none, none]) dX4_faultNow_1 (Nat.le_of_ble_eq_true rfl) rfl ?_
  refine wp_iconst dX4_faultNow_2 (by decide) ?_
  refine wp_istN (L' := [some (vr _), some (vi _), some (vi _), none, none, none]) dX4_faultNow_3 (Nat.le_of_ble_eq_true rfl) rfl ?_
  refine wp_iconst dX4_faultNow_4 (by decide) ?_
  refine wp_istN (L' := [some (vr _), some (vi _), some (vi _), some (vi _), none, none]) dX4_faultNow_5 (Nat.le_of_ble_eq_true rfl) rfl ?_
  refine wp_aload_n dX4_faultNow_6 rfl ?_
  refine wp_iconst dX4_faultNow_7 (by decide) ?_
  refine wp_putI dX4_faultNow_8 flX4_72 (by decide) rfl rfl rfl rfl ?_
  refine wp_aload_n dX4_faultNow_11 rfl ?_
  refine wp_iconst dX4_faultNow_12 (by decide) ?_
  refine wp_putI dX4_faultNow_13 flX4_75 (by decide) rfl rfl rfl rfl ?_
  refine wp_aload_n dX4_faultNow_16 rfl ?_
  refine wp_bipush dX4_faultNow_17 (by decide) ?_
  refine wp_putI dX4_faultNow_19 flX4_78 (by decide) rfl rfl rfl rfl ?_
  refine wp_iconst dX4_faultNow_22 (by decide) ?_
  refine wp_ist (L' := [some (vr _), some (vi _), some (vi _), some (vi _), some (vi _), none]) dX4_faultNow_23 (Nat.le_of_ble_eq_true rfl) rfl ?_
  exact l4_fault hlen htx len 0 0 0 0 7 _ _ _ (by omega) (by omega) (by omega) (by omega) (by omega) (by omega) (by omega) (by omega) (((Fr0.rf.put (by decide)).put (by decide)).put (by decide)) rfl rfl rfl rfl hl hQ
end
section
/-- the state that both sides tell of: text, its length, MIDDLE, TURN, THINGS (number, cells, steps), PLUMBS (number, rows, ups), SHEETS (there, form, size, items), the latest FINDING -/
abbrev aZ : Type := (Nat → Int) × Nat × Int × Int × Nat × (Nat → Int) × (Nat → Int) × Nat × (Nat → Int) × (Nat → Int) × (Nat → Int) × (Nat → Int) × (Nat → Int) × (Nat → Nat → Int) × Int
abbrev zx (z : aZ) : Nat → Int := z.1
abbrev zl (z : aZ) : Nat := z.2.1
abbrev zm (z : aZ) : Int := z.2.2.1
abbrev zt (z : aZ) : Int := z.2.2.2.1
abbrev zn (z : aZ) : Nat := z.2.2.2.2.1
abbrev zc (z : aZ) : Nat → Int := z.2.2.2.2.2.1
abbrev zs (z : aZ) : Nat → Int := z.2.2.2.2.2.2.1
abbrev zp (z : aZ) : Nat := z.2.2.2.2.2.2.2.1
abbrev zr (z : aZ) : Nat → Int := z.2.2.2.2.2.2.2.2.1
abbrev zu (z : aZ) : Nat → Int := z.2.2.2.2.2.2.2.2.2.1
abbrev zh (z : aZ) : Nat → Int := z.2.2.2.2.2.2.2.2.2.2.1
abbrev zf (z : aZ) : Nat → Int := z.2.2.2.2.2.2.2.2.2.2.2.1
abbrev zz (z : aZ) : Nat → Int := z.2.2.2.2.2.2.2.2.2.2.2.2.1
abbrev zi (z : aZ) : Nat → Nat → Int := z.2.2.2.2.2.2.2.2.2.2.2.2.2.1
abbrev zg (z : aZ) : Int := z.2.2.2.2.2.2.2.2.2.2.2.2.2.2
def PF (z : aZ) : Int × Int × Int × Int × (Nat → Int) := pf (zx z) (zl z) (zl z) 0 0 0 0 7 (fun _ => 0)
def Gz (z : aZ) : aG := (if (PF z).2.2.2.1 ≤ 0 then 0 else (PF z).2.2.1, (PF z).2.2.2.1, zm z, zt z, fun i => if (i : Int) < (PF z).2.2.2.1 then (PF z).2.2.2.2 i else 0)
def ZV (z : aZ) : Prop := zl z ≤ 39 ∧ (0 ≤ zm z ∧ zm z ≤ 5) ∧ (0 ≤ zt z ∧ zt z ≤ 9) ∧ zn z ≤ 8 ∧ (∀ k, k < zn z → 0 ≤ zc z k ∧ zc z k ≤ 34 ∧ 0 ≤ zs z k ∧ zs z k ≤ 99) ∧ zp z ≤ 8 ∧ (∀ k, k < zp z → 0 ≤ zr z k ∧ zr z k ≤ 4 ∧ (zu z k = 0 ∨ zu z k = 1)) ∧ (∀ s, s < 4 → (zh z s = 0 ∨ zh z s = 1) ∧ 0 ≤ zf z s ∧ zf z s ≤ 2 ∧ 0 ≤ zz z s ∧ zz z s ≤ 48)
/-- the model's cells tell of z -/
def MI (σ : aS) (z : aZ) : Prop := σ.1 18 1 = zl z ∧ (∀ k, k < zl z → σ.1 19 k = zx z k) ∧ σ.1 18 6 = zm z ∧ σ.1 18 7 = zt z ∧ σ.1 18 8 = zn z ∧ (∀ k, k < zn z → σ.1 21 k = zc z k ∧ σ.1 22 k = zs z k) ∧ σ.1 18 15 = zp z ∧ (∀ k, k < zp z → σ.1 27 k = zr z k ∧ σ.1 28 k = zu z k) ∧ (∀ s, s < 4 → σ.1 29 s = zh z s ∧ σ.1 30 s = zf z s ∧ σ.1 31 s = zz z s ∧ ∀ i, i < 48 → σ.1 32 (48 * s + i) = zi z s i) ∧ σ.1 18 23 = zg z
/-- the model's own scratch -/
def scr (c k : Nat) : Prop := (c = 18 ∧ (k = 2 ∨ k = 3 ∨ k = 4)) ∨ c = 20 ∨ c = 23 ∨ c = 24 ∨ c = 25 ∨ c = 26 ∨ c = 33
def Frm (σ σ' : aS) : Prop := (∀ c k, ¬ scr c k → σ'.1 c k = σ.1 c k) ∧ σ'.2 = σ.2
/-- as Frm, and the mine as it was read stays -/
def Fr2 (σ σ' : aS) : Prop := (∀ c k, c ≠ 23 → c ≠ 24 → c ≠ 25 → c ≠ 26 → c ≠ 33 → σ'.1 c k = σ.1 c k) ∧ σ'.2 = σ.2
theorem Frm.rf {σ : aS} : Frm σ σ := ⟨fun _ _ _ => rfl, rfl⟩
theorem Fr2.rf {σ : aS} : Fr2 σ σ := ⟨fun _ _ _ _ _ _ _ => rfl, rfl⟩
theorem Frm.tr {σ σ' σ'' : aS} (h : Frm σ σ') (h' : Frm σ' σ'') : Frm σ σ'' := ⟨fun c k q => (h'.1 c k q).trans (h.1 c k q), h'.2.trans h.2⟩
theorem Fr2.tr {σ σ' σ'' : aS} (h : Fr2 σ σ') (h' : Fr2 σ' σ'') : Fr2 σ σ'' := ⟨fun c k a1 a2 a3 a4 a5 => (h'.1 c k a1 a2 a3 a4 a5).trans (h.1 c k a1 a2 a3 a4 a5), h'.2.trans h.2⟩
theorem Fr2.m {σ σ' : aS} (h : Fr2 σ σ') : Frm σ σ' := ⟨fun c k q => h.1 c k (fun e => q (by unfold scr; omega)) (fun e => q (by unfold scr; omega)) (fun e => q (by unfold scr; omega)) (fun e => q (by unfold scr; omega)) (fun e => q (by unfold scr; omega)), h.2⟩
theorem Fr0.m {σ σ' : aS} (h : Fr0 σ σ') : Frm σ σ' := ⟨fun c k q => h.1 c k (fun e => q (Or.inl e)) (fun e => q (Or.inr (Or.inl e))), h.2⟩
theorem Fr2.put {σ σ' : aS} {c k : Nat} {x : Int} (h : Fr2 σ σ') (hc : c = 23 ∨ c = 24 ∨ c = 25 ∨ c = 26 ∨ c = 33) : Fr2 σ (sI σ' c k x) := by
  refine ⟨fun c' k' a1 a2 a3 a4 a5 => ?_, h.2⟩
  rw [sI_ne (fun q => by omega)]
  exact h.1 c' k' a1 a2 a3 a4 a5
theorem Fr2.g {σ σ' : aS} (h : Fr2 σ σ') : gOf σ' = gOf σ := by
  have e : ∀ c k, c = 18 ∨ c = 20 → σ'.1 c k = σ.1 c k := fun c k hc => h.1 c k (by omega) (by omega) (by omega) (by omega) (by omega)
  unfold gOf
  rw [e 18 4 (by decide), e 18 2 (by decide), e 18 6 (by decide), e 18 7 (by decide)]
  have e2 : σ'.1 20 = σ.1 20 := funext fun k => e 20 k (by decide)
  rw [e2]
theorem MI.frm {σ σ' : aS} {z : aZ} (h : MI σ z) (f : Frm σ σ') : MI σ' z := by
  obtain ⟨h1, h2, h3, h4, h5, h6, h7, h8, h9, h10⟩ := h
  have e : ∀ c k, ¬ scr c k → σ'.1 c k = σ.1 c k := f.1
  refine ⟨by rw [e 18 1 (by unfold scr; omega)]; exact h1, fun k hk => by rw [e 19 k (by unfold scr; omega)]; exact h2 k hk, by rw [e 18 6 (by unfold scr; omega)]; exact h3, by rw [e 18 7 (by unfold scr; omega)]; exact h4, by rw [e 18 8 (by unfold scr; omega)]; exact h5, fun k hk => ?_, by rw [e 18 15 (by unfold scr; omega)]; exact h7, fun k hk => ?_, fun s hs => ?_, by rw [e 18 23 (by unfold scr; omega)]; exact h10⟩
  · rw [e 21 k (by unfold scr; omega), e 22 k (by unfold scr; omega)]; exact h6 k hk
  · rw [e 27 k (by unfold scr; omega), e 28 k (by unfold scr; omega)]; exact h8 k hk
  · rw [e 29 s (by unfold scr; omega), e 30 s (by unfold scr; omega), e 31 s (by unfold scr; omega)]
    refine ⟨(h9 s hs).1, (h9 s hs).2.1, (h9 s hs).2.2.1, fun i hi => ?_⟩
    rw [e 32 _ (by unfold scr; omega)]
    exact (h9 s hs).2.2.2 i hi
theorem pf_kd {tx : Nat → Int} {len : Nat} : ∀ (r k : Nat) (row col n w : Int) (kd kd' : Nat → Int), 0 ≤ n → (∀ i : Nat, (i : Int) < n → kd i = kd' i) →
    (pf tx len r k row col n w kd).1 = (pf tx len r k row col n w kd').1 ∧ (pf tx len r k row col n w kd).2.1 = (pf tx len r k row col n w kd').2.1 ∧ (pf tx len r k row col n w kd).2.2.1 = (pf tx len r k row col n w kd').2.2.1 ∧ (pf tx len r k row col n w kd).2.2.2.1 = (pf tx len r k row col n w kd').2.2.2.1 ∧ ∀ i : Nat, (i : Int) < (pf tx len r k row col n w kd').2.2.2.1 → (pf tx len r k row col n w kd).2.2.2.2 i = (pf tx len r k row col n w kd').2.2.2.2 i := by
  intro r
  induction r with
  | zero =>
    intro k row col n w kd kd' h0 h
    unfold pf
    by_cases c1 : 0 < len ∧ (col = 0 ∨ (0 < row ∧ col < w))
    · rw [if_pos c1, if_pos c1]
      exact ⟨rfl, rfl, rfl, rfl, fun i hi => absurd hi (by simp only []; omega)⟩
    · rw [if_neg c1, if_neg c1]
      exact ⟨rfl, rfl, rfl, rfl, h⟩
  | succ r ih =>
    intro k row col n w kd kd' h0 h
    have fin : ∀ a : Int × Int × Int × Int, a.2.2.2 = 0 → ((a.1, a.2.1, a.2.2.1, a.2.2.2, kd).1 = (a.1, a.2.1, a.2.2.1, a.2.2.2, kd').1 ∧ (a.1, a.2.1, a.2.2.1, a.2.2.2, kd).2.1 = (a.1, a.2.1, a.2.2.1, a.2.2.2, kd').2.1 ∧ (a.1, a.2.1, a.2.2.1, a.2.2.2, kd).2.2.1 = (a.1, a.2.1, a.2.2.1, a.2.2.2, kd').2.2.1 ∧ (a.1, a.2.1, a.2.2.1, a.2.2.2, kd).2.2.2.1 = (a.1, a.2.1, a.2.2.1, a.2.2.2, kd').2.2.2.1 ∧ ∀ i : Nat, (i : Int) < (a.1, a.2.1, a.2.2.1, a.2.2.2, kd').2.2.2.1 → kd i = kd' i) := fun a ha => ⟨rfl, rfl, rfl, rfl, fun i hi => absurd hi (by simp only [ha]; omega)⟩
    unfold pf
    by_cases c1 : row = 5
    · rw [if_pos c1, if_pos c1]; exact fin (k, 0, w, 0) rfl
    · rw [if_neg c1, if_neg c1]
      by_cases c2 : tx k = 59
      · rw [if_pos c2, if_pos c2]
        by_cases c3 : col = 0 ∨ (0 < row ∧ col < w)
        · rw [if_pos c3, if_pos c3]; exact fin (k, 0, w, 0) rfl
        · rw [if_neg c3, if_neg c3]; exact ih _ _ _ _ _ _ _ h0 h
      · rw [if_neg c2, if_neg c2]
        by_cases c3 : kOf (tx k) = -1 ∨ col = w
        · rw [if_pos c3, if_pos c3]; exact fin (k, 0, w, 0) rfl
        · rw [if_neg c3, if_neg c3]
          refine ih _ _ _ _ _ _ _ (by omega) (fun i hi => ?_)
          by_cases hi2 : i = n.toNat
          · rw [if_pos hi2, if_pos hi2]
          · rw [if_neg hi2, if_neg hi2]; exact h i (by omega)
theorem kOf_in (b : Int) : -1 ≤ kOf b ∧ kOf b ≤ 3 := by
  unfold kOf
  repeat' split
  all_goals omega
theorem mul_c {row w n : Int} (h : 0 ≤ row) (h2 : row ≤ 5) : row * w = n ↔ (row = 0 ∧ n = 0) ∨ (row = 1 ∧ n = w) ∨ (row = 2 ∧ n = 2 * w) ∨ (row = 3 ∧ n = 3 * w) ∨ (row = 4 ∧ n = 4 * w) ∨ (row = 5 ∧ n = 5 * w) := by
  have : row = 0 ∨ row = 1 ∨ row = 2 ∨ row = 3 ∨ row = 4 ∨ row = 5 := by omega
  rcases this with rfl | rfl | rfl | rfl | rfl | rfl <;> omega
/-- what the reading keeps to -/
def okP (t : Int × Int × Int × Int × (Nat → Int)) : Prop := (0 ≤ t.2.2.2.1 ∧ t.2.2.2.1 ≤ 35) ∧ (0 ≤ t.2.1 ∧ t.2.1 ≤ 5) ∧ t.2.1 * t.2.2.1 = t.2.2.2.1 ∧ (0 < t.2.2.2.1 → 1 ≤ t.2.2.1 ∧ t.2.2.1 ≤ 7) ∧ (∀ i : Nat, (i : Int) < t.2.2.2.1 → 0 ≤ t.2.2.2.2 i ∧ t.2.2.2.2 i ≤ 3)
theorem okP_f {a w : Int} {kd : Nat → Int} : okP (a, 0, w, 0, kd) := ⟨⟨by simp only []; omega, by simp only []; omega⟩, ⟨by simp only []; omega, by simp only []; omega⟩, by simp only []; omega, fun h => absurd h (by simp only []; omega), fun i hi => absurd hi (by simp only []; omega)⟩
theorem pf_ok {tx : Nat → Int} {len : Nat} : ∀ (r k : Nat) (row col n w : Int) (kd : Nat → Int), k + r = len → 0 ≤ row → row ≤ 5 → 0 ≤ col → col ≤ w → w ≤ 7 → (row = 0 → n = col) → (0 < row → 1 ≤ w ∧ row * w = n - col) → (k = 0 → n = 0 ∧ row = 0) → (row = 5 → col = 0) → 0 ≤ n → (∀ i : Nat, (i : Int) < n → 0 ≤ kd i ∧ kd i ≤ 3) → okP (pf tx len r k row col n w kd) := by
  intro r
  induction r with
  | zero =>
    intro k row col n w kd hk g1 g2 g3 g4 g5 g6 g7 g8 g8b g9 hkd
    unfold pf
    by_cases c1 : 0 < len ∧ (col = 0 ∨ (0 < row ∧ col < w))
    · rw [if_pos c1]; exact okP_f
    · rw [if_neg c1]
      by_cases cl : len = 0
      · rw [if_pos cl]
        have e := g8 (by omega)
        have e2 := g6 e.2
        obtain ⟨e1, e3⟩ := e
        subst e1; subst e3
        rw [if_pos rfl, ← e2]
        exact okP_f
      · rw [if_neg cl]
        have hc : 0 < col := by omega
        have hr : row ≤ 4 := by omega
        by_cases c2 : row = 0
        · have := g6 c2
          rw [if_pos c2]
          subst c2
          refine ⟨⟨by simp only []; omega, by simp only []; omega⟩, ⟨by simp only []; omega, by simp only []; omega⟩, by simp only []; omega, fun _ => ⟨by simp only []; omega, by simp only []; omega⟩, hkd⟩
        · rw [if_neg c2]
          obtain ⟨w1, w2⟩ := g7 (by omega)
          have hcw : col = w := by omega
          rw [mul_c g1 g2] at w2
          refine ⟨⟨by simp only []; omega, by simp only []; omega⟩, ⟨by simp only []; omega, by simp only []; omega⟩, (mul_c (by simp only []; omega) (by simp only []; omega)).mpr (by simp only []; omega), fun _ => ⟨by simp only []; omega, by simp only []; omega⟩, hkd⟩
  | succ r ih =>
    intro k row col n w kd hk g1 g2 g3 g4 g5 g6 g7 g8 g8b g9 hkd
    unfold pf
    by_cases c1 : row = 5
    · rw [if_pos c1]; exact okP_f
    · rw [if_neg c1]
      by_cases c2 : tx k = 59
      · rw [if_pos c2]
        by_cases c3 : col = 0 ∨ (0 < row ∧ col < w)
        · rw [if_pos c3]; exact okP_f
        · rw [if_neg c3]
          by_cases c4 : row = 0
          · have := g6 c4
            rw [if_pos c4]
            subst c4
            exact ih _ _ _ _ _ _ (by omega) (by omega) (by omega) (by omega) (by omega) (by omega) (fun h => by omega) (fun _ => ⟨by omega, by omega⟩) (fun h => by omega) (fun _ => rfl) g9 hkd
          · rw [if_neg c4]
            obtain ⟨w1, w2⟩ := g7 (by omega)
            rw [mul_c g1 g2] at w2
            exact ih _ _ _ _ _ _ (by omega) (by omega) (by omega) (by omega) (by omega) (by omega) (fun h => by omega) (fun _ => ⟨by omega, (mul_c (by omega) (by omega)).mpr (by omega)⟩) (fun h => by omega) (fun _ => rfl) g9 hkd
      · rw [if_neg c2]
        by_cases c3 : kOf (tx k) = -1 ∨ col = w
        · rw [if_pos c3]; exact okP_f
        · rw [if_neg c3]
          refine ih _ _ _ _ _ _ (by omega) (by omega) (by omega) (by omega) (by omega) (by omega) (fun h => by have := g6 h; omega) (fun h => ⟨(g7 h).1, by have := (g7 h).2; omega⟩) (fun h => by omega) (fun h => by omega) (by omega) (fun i hi => ?_)
          by_cases hi2 : i = n.toNat
          · rw [if_pos hi2]; have := kOf_in (tx k); omega
          · rw [if_neg hi2]; exact hkd i (by omega)
theorem PF_ok (z : aZ) : okP (PF z) := pf_ok _ _ _ _ _ _ _ (by omega) (by omega) (by omega) (by omega) (by omega) (by omega) (fun _ => rfl) (fun h => by omega) (fun _ => ⟨rfl, rfl⟩) (fun h => by omega) (by omega) (fun i hi => by omega)
theorem Gz_ok {z : aZ} (h : ZV z) : GV (Gz z) := by
  obtain ⟨h1, h2, h3, h4, h5⟩ := PF_ok z
  refine ⟨h1.1, h1.2, fun hp => ?_, h.2.1.1, h.2.1.2, h.2.2.1.1, h.2.2.1.2, fun c => ?_⟩
  · have hp : 0 < (PF z).2.2.2.1 := hp
    show 1 ≤ (if (PF z).2.2.2.1 ≤ 0 then 0 else (PF z).2.2.1) ∧ (if (PF z).2.2.2.1 ≤ 0 then 0 else (PF z).2.2.1) ≤ 7 ∧ (PF z).2.2.2.1 % (if (PF z).2.2.2.1 ≤ 0 then 0 else (PF z).2.2.1) = 0
    rw [if_neg (by omega)]
    refine ⟨(h4 hp).1, (h4 hp).2, ?_⟩
    rw [← h3]
    exact Int.mul_emod_left _ _
  · show 0 ≤ (if (c : Int) < (PF z).2.2.2.1 then (PF z).2.2.2.2 c else 0) ∧ (if (c : Int) < (PF z).2.2.2.1 then (PF z).2.2.2.2 c else 0) ≤ 3
    by_cases hc : (c : Int) < (PF z).2.2.2.1
    · rw [if_pos hc]; exact h5 c hc
    · rw [if_neg hc]; omega
/-- behind a reading -/
def Rd (σ : aS) (z : aZ) : Prop := MI σ z ∧ ZV z ∧ gOf σ = Gz z ∧ σ.1 18 3 = (PF z).2.1
theorem Rd.gv {σ : aS} {z : aZ} (h : Rd σ z) : GV (gOf σ) := by rw [h.2.2.1]; exact Gz_ok h.2.1
theorem Rd.fr2 {σ σ' : aS} {z : aZ} (h : Rd σ z) (f : Fr2 σ σ') : Rd σ' z := ⟨h.1.frm f.m, h.2.1, f.g.trans h.2.2.1, (f.1 18 3 (by omega) (by omega) (by omega) (by omega) (by omega)).trans h.2.2.2⟩
theorem pf_rd {σ σ' : aS} {z : aZ} (hm : MI σ z) (hz : ZV z) (h0 : Fr0 σ σ') (h1 : σ'.1 18 2 = (pf (zx z) (zl z) (zl z) 0 0 0 0 7 (σ.1 20)).2.2.1) (h2 : σ'.1 18 3 = (pf (zx z) (zl z) (zl z) 0 0 0 0 7 (σ.1 20)).2.1) (h3 : σ'.1 18 4 = (pf (zx z) (zl z) (zl z) 0 0 0 0 7 (σ.1 20)).2.2.2.1) (h4 : σ'.1 20 = (pf (zx z) (zl z) (zl z) 0 0 0 0 7 (σ.1 20)).2.2.2.2) : Frm σ σ' ∧ Rd σ' z := by
  refine ⟨h0.m, hm.frm h0.m, hz, ?_, ?_⟩
  · obtain ⟨e1, e2, e3, e4, e5⟩ := pf_kd (tx := zx z) (len := zl z) (zl z) 0 0 0 0 7 (σ.1 20) (fun _ => 0) (by omega) (fun i hi => by omega)
    unfold gOf Gz PF
    rw [h3, h1, e4, e3, h4, (hm.frm h0.m).2.2.1, (hm.frm h0.m).2.2.2.1]
    refine congrArg _ (congrArg _ (congrArg _ (congrArg _ ?_)))
    funext i
    by_cases hi : (i : Int) < (pf (zx z) (zl z) (zl z) 0 0 0 0 7 (fun _ => 0)).2.2.2.1
    · rw [if_pos hi, if_pos hi, e5 i hi]
    · rw [if_neg hi, if_neg hi]
  · obtain ⟨e1, e2, e3, e4, e5⟩ := pf_kd (tx := zx z) (len := zl z) (zl z) 0 0 0 0 7 (σ.1 20) (fun _ => 0) (by omega) (fun i hi => by omega)
    rw [h2, e2]; rfl
theorem pf_f {z : aZ} {kd : Nat → Int} : (pf (zx z) (zl z) (zl z) 0 0 0 0 7 kd).1 = (PF z).1 := (pf_kd (tx := zx z) (len := zl z) (zl z) 0 0 0 0 7 kd (fun _ => 0) (by omega) (fun i hi => by omega)).1
set_option maxRecDepth 20000 in
theorem s4_reads {d : Nat} {σ : aS} {Q : aQ} {z : aZ} (hm : MI σ z) (hz : ZV z) (hQ : ∀ σ', Frm σ σ' → Rd σ' z → Q none σ') : aCall 34 (d + 3) mX4_reads [vr 18] σ Q := by
  refine cl_in (own := RX4) (cc := cX4_reads) (rk := 3) (L := [some (vr 18), none]) rfl rfl rfl rfl (by decide) (Nat.le_of_ble_eq_true rfl) ?_
  refine wp_aload_n dX4_reads_0 rfl ?_
  refine wp_V0 dX4_reads_1 vlX4_85 (by decide) rfl (Nat.le_of_ble_eq_true rfl) ?_
  refine s4_faultNow hz.1 hm.2.1 hm.1 (fun σ' f0 f1 f2 f3 f4 => ?_)
  rw [pf_f]
  obtain ⟨hf, hr⟩ := pf_rd hm hz f0 f1 f2 f3 f4
  refine wp_istN (L' := [some (vr _), some (vi _)]) dX4_reads_4 (Nat.le_of_ble_eq_true rfl) rfl ?_
  refine wp_vret dX4_reads_5 rfl ?_
  exact hQ σ' hf hr
set_option maxRecDepth 20000 in
theorem s4_fault {d : Nat} {σ : aS} {Q : aQ} {z : aZ} (hm : MI σ z) (hz : ZV z) (hQ : ∀ σ', Frm σ σ' → Rd σ' z → Q (some (vi (PF z).1)) σ') : aCall 34 (d + 3) mX4_fault [vr 18] σ Q := by
  refine cl_in (own := RX4) (cc := cX4_fault) (rk := 0) (L := [some (vr 18)]) rfl rfl rfl rfl (by decide) (Nat.le_of_ble_eq_true rfl) ?_
  refine wp_aload_n dX4_fault_0 rfl ?_
  refine wp_V0 dX4_fault_1 vlX4_85 (by decide) rfl (Nat.le_of_ble_eq_true rfl) ?_
  refine s4_faultNow hz.1 hm.2.1 hm.1 (fun σ' f0 f1 f2 f3 f4 => ?_)
  rw [pf_f]
  obtain ⟨hf, hr⟩ := pf_rd hm hz f0 f1 f2 f3 f4
  refine wp_iret dX4_fault_4 (Or.inl rfl) ?_
  exact hQ σ' hf hr
theorem Rd.n {σ : aS} {z : aZ} (h : Rd σ z) : σ.1 18 4 = ggn (Gz z) := by rw [← h.2.2.1]; rfl
set_option maxRecDepth 20000 in
theorem s4_isCell {d : Nat} {σ : aS} {Q : aQ} {c : Int} {z : aZ} (hm : MI σ z) (hz : ZV z) (hQ : ∀ σ', Frm σ σ' → Rd σ' z → Q (some (vi (bi (0 ≤ c ∧ c ≤ ggn (Gz z) - 1)))) σ') : aCall 34 (d + 4) mX4_isCell [vr 18, vi c] σ Q := by
  refine cl_in (own := RX4) (cc := cX4_isCell) (rk := 1) (L := [some (vr 18), some (vi c)]) rfl rfl rfl rfl (by decide) (Nat.le_of_ble_eq_true rfl) ?_
  refine wp_aload_n dX4_isCell_0 rfl ?_
  refine wp_V0 dX4_isCell_1 vlX4_89 (by decide) rfl (Nat.le_of_ble_eq_true rfl) ?_
  refine s4_reads hm hz (fun σ' hf hr => ?_)
  have hn := GVn hr.gv
  refine wp_iload_n dX4_isCell_4 rfl ?_
  refine wp_iconst dX4_isCell_5 (by decide) ?_
  refine wp_aload_n dX4_isCell_6 rfl ?_
  refine wp_getI dX4_isCell_7 flX4_72 (by decide) rfl (Or.inl rfl) ?_
  refine wp_iconst dX4_isCell_10 (by decide) ?_
  refine wp_isubN dX4_isCell_11 (by omega) ?_
  refine wp_S3 dX4_isCell_12 zlX4_65 (Nat.le_of_ble_eq_true rfl) ?_
  refine s4_in ?_
  refine wp_iret dX4_isCell_15 (Or.inr ⟨rfl, bi_01 _⟩) ?_
  rw [hr.n]
  exact hQ σ' hf hr
end
