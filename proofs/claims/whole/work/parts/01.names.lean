-- ===== PART A: goes FIRST, ahead of the names: the tables' words, and 'selects' of the private methods out of them =====
/-- a private method of a class that the tables say can be made, by its rows of tables_1 -/
def lw_okq (q : MethodName × Nat) : Prop := (q.1.cls ≠ "java/lang/invoke/MethodHandle" ∧ q.1.cls ≠ "java/lang/invoke/VarHandle") ∧ Cond.instantiable q.1.cls q.2 ∈ tables_1 ∧ Cond.privateMethod q.1 ∈ tables_1 ∧ Cond.instanceMethod q.1 ∈ tables_1
theorem lw_p0 : lw_okq (⟨"MineUpside", "renew", "()V"⟩, 13) := ⟨⟨by decide +kernel, by decide +kernel⟩, List.mem_of_getElem? (i := 11) (by decide +kernel), List.mem_of_getElem? (i := 124) (by decide +kernel), List.mem_of_getElem? (i := 125) (by decide +kernel)⟩
theorem lw_p1 : lw_okq (⟨"MineUpside$Plan", "clear", "()V"⟩, 14) := ⟨⟨by decide +kernel, by decide +kernel⟩, List.mem_of_getElem? (i := 44) (by decide +kernel), List.mem_of_getElem? (i := 132) (by decide +kernel), List.mem_of_getElem? (i := 133) (by decide +kernel)⟩
theorem lw_p2 : lw_okq (⟨"MineUpside$Plan", "spell", "([II)I"⟩, 14) := ⟨⟨by decide +kernel, by decide +kernel⟩, List.mem_of_getElem? (i := 44) (by decide +kernel), List.mem_of_getElem? (i := 136) (by decide +kernel), List.mem_of_getElem? (i := 137) (by decide +kernel)⟩
theorem lw_p3 : lw_okq (⟨"MineUpside$Plan", "endsRow", "(I)Z"⟩, 14) := ⟨⟨by decide +kernel, by decide +kernel⟩, List.mem_of_getElem? (i := 44) (by decide +kernel), List.mem_of_getElem? (i := 140) (by decide +kernel), List.mem_of_getElem? (i := 141) (by decide +kernel)⟩
theorem lw_p4 : lw_okq (⟨"MineUpside$Plan", "dig", "(I)V"⟩, 14) := ⟨⟨by decide +kernel, by decide +kernel⟩, List.mem_of_getElem? (i := 44) (by decide +kernel), List.mem_of_getElem? (i := 147) (by decide +kernel), List.mem_of_getElem? (i := 148) (by decide +kernel)⟩
theorem lw_p5 : lw_okq (⟨"MineUpside$Plan", "markRows", "(I)V"⟩, 14) := ⟨⟨by decide +kernel, by decide +kernel⟩, List.mem_of_getElem? (i := 44) (by decide +kernel), List.mem_of_getElem? (i := 154) (by decide +kernel), List.mem_of_getElem? (i := 155) (by decide +kernel)⟩
theorem lw_p6 : lw_okq (⟨"MineUpside$Plan", "loose", "(J)J"⟩, 14) := ⟨⟨by decide +kernel, by decide +kernel⟩, List.mem_of_getElem? (i := 44) (by decide +kernel), List.mem_of_getElem? (i := 158) (by decide +kernel), List.mem_of_getElem? (i := 159) (by decide +kernel)⟩
theorem lw_p7 : lw_okq (⟨"MineUpside$Plan", "markMoves", "()V"⟩, 14) := ⟨⟨by decide +kernel, by decide +kernel⟩, List.mem_of_getElem? (i := 44) (by decide +kernel), List.mem_of_getElem? (i := 167) (by decide +kernel), List.mem_of_getElem? (i := 168) (by decide +kernel)⟩
theorem lw_p8 : lw_okq (⟨"MineUpside", "found", "(I)I"⟩, 13) := ⟨⟨by decide +kernel, by decide +kernel⟩, List.mem_of_getElem? (i := 11) (by decide +kernel), List.mem_of_getElem? (i := 272) (by decide +kernel), List.mem_of_getElem? (i := 273) (by decide +kernel)⟩
theorem lw_p9 : lw_okq (⟨"MineUpside", "isThing", "(I)Z"⟩, 13) := ⟨⟨by decide +kernel, by decide +kernel⟩, List.mem_of_getElem? (i := 11) (by decide +kernel), List.mem_of_getElem? (i := 281) (by decide +kernel), List.mem_of_getElem? (i := 282) (by decide +kernel)⟩
theorem lw_p10 : lw_okq (⟨"MineUpside$Ways", "measure", "(I)V"⟩, 4) := ⟨⟨by decide +kernel, by decide +kernel⟩, List.mem_of_getElem? (i := 105) (by decide +kernel), List.mem_of_getElem? (i := 320) (by decide +kernel), List.mem_of_getElem? (i := 321) (by decide +kernel)⟩
theorem lw_p11 : lw_okq (⟨"MineUpside$Ways", "goOn", "(I)Z"⟩, 4) := ⟨⟨by decide +kernel, by decide +kernel⟩, List.mem_of_getElem? (i := 105) (by decide +kernel), List.mem_of_getElem? (i := 324) (by decide +kernel), List.mem_of_getElem? (i := 325) (by decide +kernel)⟩
theorem lw_p12 : lw_okq (⟨"MineUpside$Plan", "keepsDry", "(JI)Z"⟩, 14) := ⟨⟨by decide +kernel, by decide +kernel⟩, List.mem_of_getElem? (i := 44) (by decide +kernel), List.mem_of_getElem? (i := 366) (by decide +kernel), List.mem_of_getElem? (i := 367) (by decide +kernel)⟩
theorem lw_p13 : lw_okq (⟨"MineUpside", "refusalOfItem", "(III)I"⟩, 13) := ⟨⟨by decide +kernel, by decide +kernel⟩, List.mem_of_getElem? (i := 11) (by decide +kernel), List.mem_of_getElem? (i := 461) (by decide +kernel), List.mem_of_getElem? (i := 462) (by decide +kernel)⟩
theorem lw_p14 : lw_okq (⟨"MineUpsideModel", "faultNow", "()I"⟩, 24) := ⟨⟨by decide +kernel, by decide +kernel⟩, List.mem_of_getElem? (i := 525) (by decide +kernel), List.mem_of_getElem? (i := 624) (by decide +kernel), List.mem_of_getElem? (i := 625) (by decide +kernel)⟩
theorem lw_p15 : lw_okq (⟨"MineUpsideModel", "isCell", "(I)Z"⟩, 24) := ⟨⟨by decide +kernel, by decide +kernel⟩, List.mem_of_getElem? (i := 525) (by decide +kernel), List.mem_of_getElem? (i := 635) (by decide +kernel), List.mem_of_getElem? (i := 636) (by decide +kernel)⟩
def lw_privs_1 : List (MethodName × Nat) := [(⟨"MineUpside", "renew", "()V"⟩, 13), (⟨"MineUpside$Plan", "clear", "()V"⟩, 14), (⟨"MineUpside$Plan", "spell", "([II)I"⟩, 14), (⟨"MineUpside$Plan", "endsRow", "(I)Z"⟩, 14), (⟨"MineUpside$Plan", "dig", "(I)V"⟩, 14), (⟨"MineUpside$Plan", "markRows", "(I)V"⟩, 14), (⟨"MineUpside$Plan", "loose", "(J)J"⟩, 14), (⟨"MineUpside$Plan", "markMoves", "()V"⟩, 14), (⟨"MineUpside", "found", "(I)I"⟩, 13), (⟨"MineUpside", "isThing", "(I)Z"⟩, 13), (⟨"MineUpside$Ways", "measure", "(I)V"⟩, 4), (⟨"MineUpside$Ways", "goOn", "(I)Z"⟩, 4), (⟨"MineUpside$Plan", "keepsDry", "(JI)Z"⟩, 14), (⟨"MineUpside", "refusalOfItem", "(III)I"⟩, 13), (⟨"MineUpsideModel", "faultNow", "()I"⟩, 24), (⟨"MineUpsideModel", "isCell", "(I)Z"⟩, 24)]
theorem lw_r1 : ∀ q ∈ lw_privs_1, lw_okq q := List.forall_mem_cons.mpr ⟨lw_p0, List.forall_mem_cons.mpr ⟨lw_p1, List.forall_mem_cons.mpr ⟨lw_p2, List.forall_mem_cons.mpr ⟨lw_p3, List.forall_mem_cons.mpr ⟨lw_p4, List.forall_mem_cons.mpr ⟨lw_p5, List.forall_mem_cons.mpr ⟨lw_p6, List.forall_mem_cons.mpr ⟨lw_p7, List.forall_mem_cons.mpr ⟨lw_p8, List.forall_mem_cons.mpr ⟨lw_p9, List.forall_mem_cons.mpr ⟨lw_p10, List.forall_mem_cons.mpr ⟨lw_p11, List.forall_mem_cons.mpr ⟨lw_p12, List.forall_mem_cons.mpr ⟨lw_p13, List.forall_mem_cons.mpr ⟨lw_p14, List.forall_mem_cons.mpr ⟨lw_p15, fun _ h => absurd h List.not_mem_nil⟩⟩⟩⟩⟩⟩⟩⟩⟩⟩⟩⟩⟩⟩⟩⟩
theorem lw_p16 : lw_okq (⟨"MineUpsideModel", "reads", "()V"⟩, 24) := ⟨⟨by decide +kernel, by decide +kernel⟩, List.mem_of_getElem? (i := 525) (by decide +kernel), List.mem_of_getElem? (i := 639) (by decide +kernel), List.mem_of_getElem? (i := 640) (by decide +kernel)⟩
theorem lw_p17 : lw_okq (⟨"MineUpsideModel", "isUp", "(I)Z"⟩, 24) := ⟨⟨by decide +kernel, by decide +kernel⟩, List.mem_of_getElem? (i := 525) (by decide +kernel), List.mem_of_getElem? (i := 643) (by decide +kernel), List.mem_of_getElem? (i := 644) (by decide +kernel)⟩
theorem lw_p18 : lw_okq (⟨"MineUpsideModel", "isHeld", "(I)Z"⟩, 24) := ⟨⟨by decide +kernel, by decide +kernel⟩, List.mem_of_getElem? (i := 525) (by decide +kernel), List.mem_of_getElem? (i := 647) (by decide +kernel), List.mem_of_getElem? (i := 648) (by decide +kernel)⟩
theorem lw_p19 : lw_okq (⟨"MineUpsideModel", "below", "(I)I"⟩, 24) := ⟨⟨by decide +kernel, by decide +kernel⟩, List.mem_of_getElem? (i := 525) (by decide +kernel), List.mem_of_getElem? (i := 651) (by decide +kernel), List.mem_of_getElem? (i := 652) (by decide +kernel)⟩
theorem lw_p20 : lw_okq (⟨"MineUpsideModel", "isOpen", "(I)Z"⟩, 24) := ⟨⟨by decide +kernel, by decide +kernel⟩, List.mem_of_getElem? (i := 525) (by decide +kernel), List.mem_of_getElem? (i := 655) (by decide +kernel), List.mem_of_getElem? (i := 656) (by decide +kernel)⟩
theorem lw_p21 : lw_okq (⟨"MineUpsideModel", "meets", "(I)I"⟩, 24) := ⟨⟨by decide +kernel, by decide +kernel⟩, List.mem_of_getElem? (i := 525) (by decide +kernel), List.mem_of_getElem? (i := 678) (by decide +kernel), List.mem_of_getElem? (i := 679) (by decide +kernel)⟩
theorem lw_p22 : lw_okq (⟨"MineUpsideModel", "isThing", "(I)Z"⟩, 24) := ⟨⟨by decide +kernel, by decide +kernel⟩, List.mem_of_getElem? (i := 525) (by decide +kernel), List.mem_of_getElem? (i := 687) (by decide +kernel), List.mem_of_getElem? (i := 688) (by decide +kernel)⟩
theorem lw_p23 : lw_okq (⟨"MineUpsideModel", "atOf", "(II)I"⟩, 24) := ⟨⟨by decide +kernel, by decide +kernel⟩, List.mem_of_getElem? (i := 525) (by decide +kernel), List.mem_of_getElem? (i := 691) (by decide +kernel), List.mem_of_getElem? (i := 692) (by decide +kernel)⟩
theorem lw_p24 : lw_okq (⟨"MineUpsideModel", "fallen", "(II)I"⟩, 24) := ⟨⟨by decide +kernel, by decide +kernel⟩, List.mem_of_getElem? (i := 525) (by decide +kernel), List.mem_of_getElem? (i := 695) (by decide +kernel), List.mem_of_getElem? (i := 696) (by decide +kernel)⟩
theorem lw_p25 : lw_okq (⟨"MineUpsideModel", "restsOf", "(II)I"⟩, 24) := ⟨⟨by decide +kernel, by decide +kernel⟩, List.mem_of_getElem? (i := 525) (by decide +kernel), List.mem_of_getElem? (i := 703) (by decide +kernel), List.mem_of_getElem? (i := 704) (by decide +kernel)⟩
theorem lw_p26 : lw_okq (⟨"MineUpsideModel", "longestNow", "()I"⟩, 24) := ⟨⟨by decide +kernel, by decide +kernel⟩, List.mem_of_getElem? (i := 525) (by decide +kernel), List.mem_of_getElem? (i := 711) (by decide +kernel), List.mem_of_getElem? (i := 712) (by decide +kernel)⟩
theorem lw_p27 : lw_okq (⟨"MineUpsideModel", "meetOf", "(II)I"⟩, 24) := ⟨⟨by decide +kernel, by decide +kernel⟩, List.mem_of_getElem? (i := 525) (by decide +kernel), List.mem_of_getElem? (i := 719) (by decide +kernel), List.mem_of_getElem? (i := 720) (by decide +kernel)⟩
theorem lw_p28 : lw_okq (⟨"MineUpsideModel", "wayOf", "(II)I"⟩, 24) := ⟨⟨by decide +kernel, by decide +kernel⟩, List.mem_of_getElem? (i := 525) (by decide +kernel), List.mem_of_getElem? (i := 727) (by decide +kernel), List.mem_of_getElem? (i := 728) (by decide +kernel)⟩
theorem lw_p29 : lw_okq (⟨"MineUpsideModel", "laysFar", "(I)V"⟩, 24) := ⟨⟨by decide +kernel, by decide +kernel⟩, List.mem_of_getElem? (i := 525) (by decide +kernel), List.mem_of_getElem? (i := 731) (by decide +kernel), List.mem_of_getElem? (i := 732) (by decide +kernel)⟩
theorem lw_p30 : lw_okq (⟨"MineUpsideModel", "cost", "(II)I"⟩, 24) := ⟨⟨by decide +kernel, by decide +kernel⟩, List.mem_of_getElem? (i := 525) (by decide +kernel), List.mem_of_getElem? (i := 736) (by decide +kernel), List.mem_of_getElem? (i := 737) (by decide +kernel)⟩
theorem lw_p31 : lw_okq (⟨"MineUpsideModel", "target", "(II)I"⟩, 24) := ⟨⟨by decide +kernel, by decide +kernel⟩, List.mem_of_getElem? (i := 525) (by decide +kernel), List.mem_of_getElem? (i := 740) (by decide +kernel), List.mem_of_getElem? (i := 741) (by decide +kernel)⟩
def lw_privs_2 : List (MethodName × Nat) := [(⟨"MineUpsideModel", "reads", "()V"⟩, 24), (⟨"MineUpsideModel", "isUp", "(I)Z"⟩, 24), (⟨"MineUpsideModel", "isHeld", "(I)Z"⟩, 24), (⟨"MineUpsideModel", "below", "(I)I"⟩, 24), (⟨"MineUpsideModel", "isOpen", "(I)Z"⟩, 24), (⟨"MineUpsideModel", "meets", "(I)I"⟩, 24), (⟨"MineUpsideModel", "isThing", "(I)Z"⟩, 24), (⟨"MineUpsideModel", "atOf", "(II)I"⟩, 24), (⟨"MineUpsideModel", "fallen", "(II)I"⟩, 24), (⟨"MineUpsideModel", "restsOf", "(II)I"⟩, 24), (⟨"MineUpsideModel", "longestNow", "()I"⟩, 24), (⟨"MineUpsideModel", "meetOf", "(II)I"⟩, 24), (⟨"MineUpsideModel", "wayOf", "(II)I"⟩, 24), (⟨"MineUpsideModel", "laysFar", "(I)V"⟩, 24), (⟨"MineUpsideModel", "cost", "(II)I"⟩, 24), (⟨"MineUpsideModel", "target", "(II)I"⟩, 24)]
theorem lw_r2 : ∀ q ∈ lw_privs_2, lw_okq q := List.forall_mem_cons.mpr ⟨lw_p16, List.forall_mem_cons.mpr ⟨lw_p17, List.forall_mem_cons.mpr ⟨lw_p18, List.forall_mem_cons.mpr ⟨lw_p19, List.forall_mem_cons.mpr ⟨lw_p20, List.forall_mem_cons.mpr ⟨lw_p21, List.forall_mem_cons.mpr ⟨lw_p22, List.forall_mem_cons.mpr ⟨lw_p23, List.forall_mem_cons.mpr ⟨lw_p24, List.forall_mem_cons.mpr ⟨lw_p25, List.forall_mem_cons.mpr ⟨lw_p26, List.forall_mem_cons.mpr ⟨lw_p27, List.forall_mem_cons.mpr ⟨lw_p28, List.forall_mem_cons.mpr ⟨lw_p29, List.forall_mem_cons.mpr ⟨lw_p30, List.forall_mem_cons.mpr ⟨lw_p31, fun _ h => absurd h List.not_mem_nil⟩⟩⟩⟩⟩⟩⟩⟩⟩⟩⟩⟩⟩⟩⟩⟩
theorem lw_p32 : lw_okq (⟨"MineUpsideModel", "nextOf", "(II)I"⟩, 24) := ⟨⟨by decide +kernel, by decide +kernel⟩, List.mem_of_getElem? (i := 525) (by decide +kernel), List.mem_of_getElem? (i := 748) (by decide +kernel), List.mem_of_getElem? (i := 749) (by decide +kernel)⟩
theorem lw_p33 : lw_okq (⟨"MineUpsideModel", "raceOf", "(III)I"⟩, 24) := ⟨⟨by decide +kernel, by decide +kernel⟩, List.mem_of_getElem? (i := 525) (by decide +kernel), List.mem_of_getElem? (i := 756) (by decide +kernel), List.mem_of_getElem? (i := 757) (by decide +kernel)⟩
theorem lw_p34 : lw_okq (⟨"MineUpsideModel", "reachOf", "(I)I"⟩, 24) := ⟨⟨by decide +kernel, by decide +kernel⟩, List.mem_of_getElem? (i := 525) (by decide +kernel), List.mem_of_getElem? (i := 764) (by decide +kernel), List.mem_of_getElem? (i := 765) (by decide +kernel)⟩
theorem lw_p35 : lw_okq (⟨"MineUpsideModel", "wetOf", "(I)I"⟩, 24) := ⟨⟨by decide +kernel, by decide +kernel⟩, List.mem_of_getElem? (i := 525) (by decide +kernel), List.mem_of_getElem? (i := 772) (by decide +kernel), List.mem_of_getElem? (i := 773) (by decide +kernel)⟩
theorem lw_p36 : lw_okq (⟨"MineUpsideModel", "flows", "(I)V"⟩, 24) := ⟨⟨by decide +kernel, by decide +kernel⟩, List.mem_of_getElem? (i := 525) (by decide +kernel), List.mem_of_getElem? (i := 776) (by decide +kernel), List.mem_of_getElem? (i := 777) (by decide +kernel)⟩
theorem lw_p37 : lw_okq (⟨"MineUpsideModel", "plugOf", "(II)I"⟩, 24) := ⟨⟨by decide +kernel, by decide +kernel⟩, List.mem_of_getElem? (i := 525) (by decide +kernel), List.mem_of_getElem? (i := 787) (by decide +kernel), List.mem_of_getElem? (i := 788) (by decide +kernel)⟩
theorem lw_p38 : lw_okq (⟨"MineUpsideModel", "plugBy", "(I)I"⟩, 24) := ⟨⟨by decide +kernel, by decide +kernel⟩, List.mem_of_getElem? (i := 525) (by decide +kernel), List.mem_of_getElem? (i := 791) (by decide +kernel), List.mem_of_getElem? (i := 792) (by decide +kernel)⟩
theorem lw_p39 : lw_okq (⟨"MineUpsideModel", "plugs", "(III)Z"⟩, 24) := ⟨⟨by decide +kernel, by decide +kernel⟩, List.mem_of_getElem? (i := 525) (by decide +kernel), List.mem_of_getElem? (i := 795) (by decide +kernel), List.mem_of_getElem? (i := 796) (by decide +kernel)⟩
theorem lw_p40 : lw_okq (⟨"MineUpsideModel", "mayPlug", "(II)Z"⟩, 24) := ⟨⟨by decide +kernel, by decide +kernel⟩, List.mem_of_getElem? (i := 525) (by decide +kernel), List.mem_of_getElem? (i := 799) (by decide +kernel), List.mem_of_getElem? (i := 800) (by decide +kernel)⟩
theorem lw_p41 : lw_okq (⟨"MineUpsideModel", "whereNow", "()I"⟩, 24) := ⟨⟨by decide +kernel, by decide +kernel⟩, List.mem_of_getElem? (i := 525) (by decide +kernel), List.mem_of_getElem? (i := 815) (by decide +kernel), List.mem_of_getElem? (i := 816) (by decide +kernel)⟩
theorem lw_p42 : lw_okq (⟨"MineUpsideModel", "hangNow", "()I"⟩, 24) := ⟨⟨by decide +kernel, by decide +kernel⟩, List.mem_of_getElem? (i := 525) (by decide +kernel), List.mem_of_getElem? (i := 823) (by decide +kernel), List.mem_of_getElem? (i := 824) (by decide +kernel)⟩
theorem lw_p43 : lw_okq (⟨"MineUpsideModel", "fromOf", "(III)I"⟩, 24) := ⟨⟨by decide +kernel, by decide +kernel⟩, List.mem_of_getElem? (i := 525) (by decide +kernel), List.mem_of_getElem? (i := 831) (by decide +kernel), List.mem_of_getElem? (i := 832) (by decide +kernel)⟩
theorem lw_p44 : lw_okq (⟨"MineUpsideModel", "joinedNow", "()I"⟩, 24) := ⟨⟨by decide +kernel, by decide +kernel⟩, List.mem_of_getElem? (i := 525) (by decide +kernel), List.mem_of_getElem? (i := 839) (by decide +kernel), List.mem_of_getElem? (i := 840) (by decide +kernel)⟩
theorem lw_p45 : lw_okq (⟨"MineUpsideModel", "likeOf", "(I)I"⟩, 24) := ⟨⟨by decide +kernel, by decide +kernel⟩, List.mem_of_getElem? (i := 525) (by decide +kernel), List.mem_of_getElem? (i := 847) (by decide +kernel), List.mem_of_getElem? (i := 848) (by decide +kernel)⟩
theorem lw_p46 : lw_okq (⟨"MineUpsideModel", "springs", "()I"⟩, 24) := ⟨⟨by decide +kernel, by decide +kernel⟩, List.mem_of_getElem? (i := 525) (by decide +kernel), List.mem_of_getElem? (i := 855) (by decide +kernel), List.mem_of_getElem? (i := 856) (by decide +kernel)⟩
theorem lw_p47 : lw_okq (⟨"MineUpsideModel", "floodOf", "(III)J"⟩, 24) := ⟨⟨by decide +kernel, by decide +kernel⟩, List.mem_of_getElem? (i := 525) (by decide +kernel), List.mem_of_getElem? (i := 859) (by decide +kernel), List.mem_of_getElem? (i := 860) (by decide +kernel)⟩
def lw_privs_3 : List (MethodName × Nat) := [(⟨"MineUpsideModel", "nextOf", "(II)I"⟩, 24), (⟨"MineUpsideModel", "raceOf", "(III)I"⟩, 24), (⟨"MineUpsideModel", "reachOf", "(I)I"⟩, 24), (⟨"MineUpsideModel", "wetOf", "(I)I"⟩, 24), (⟨"MineUpsideModel", "flows", "(I)V"⟩, 24), (⟨"MineUpsideModel", "plugOf", "(II)I"⟩, 24), (⟨"MineUpsideModel", "plugBy", "(I)I"⟩, 24), (⟨"MineUpsideModel", "plugs", "(III)Z"⟩, 24), (⟨"MineUpsideModel", "mayPlug", "(II)Z"⟩, 24), (⟨"MineUpsideModel", "whereNow", "()I"⟩, 24), (⟨"MineUpsideModel", "hangNow", "()I"⟩, 24), (⟨"MineUpsideModel", "fromOf", "(III)I"⟩, 24), (⟨"MineUpsideModel", "joinedNow", "()I"⟩, 24), (⟨"MineUpsideModel", "likeOf", "(I)I"⟩, 24), (⟨"MineUpsideModel", "springs", "()I"⟩, 24), (⟨"MineUpsideModel", "floodOf", "(III)J"⟩, 24)]
theorem lw_r3 : ∀ q ∈ lw_privs_3, lw_okq q := List.forall_mem_cons.mpr ⟨lw_p32, List.forall_mem_cons.mpr ⟨lw_p33, List.forall_mem_cons.mpr ⟨lw_p34, List.forall_mem_cons.mpr ⟨lw_p35, List.forall_mem_cons.mpr ⟨lw_p36, List.forall_mem_cons.mpr ⟨lw_p37, List.forall_mem_cons.mpr ⟨lw_p38, List.forall_mem_cons.mpr ⟨lw_p39, List.forall_mem_cons.mpr ⟨lw_p40, List.forall_mem_cons.mpr ⟨lw_p41, List.forall_mem_cons.mpr ⟨lw_p42, List.forall_mem_cons.mpr ⟨lw_p43, List.forall_mem_cons.mpr ⟨lw_p44, List.forall_mem_cons.mpr ⟨lw_p45, List.forall_mem_cons.mpr ⟨lw_p46, List.forall_mem_cons.mpr ⟨lw_p47, fun _ h => absurd h List.not_mem_nil⟩⟩⟩⟩⟩⟩⟩⟩⟩⟩⟩⟩⟩⟩⟩⟩
theorem lw_p48 : lw_okq (⟨"MineUpsideModel", "kicksOf", "(III)I"⟩, 24) := ⟨⟨by decide +kernel, by decide +kernel⟩, List.mem_of_getElem? (i := 525) (by decide +kernel), List.mem_of_getElem? (i := 874) (by decide +kernel), List.mem_of_getElem? (i := 875) (by decide +kernel)⟩
theorem lw_p49 : lw_okq (⟨"MineUpsideModel", "lacks", "(III)I"⟩, 24) := ⟨⟨by decide +kernel, by decide +kernel⟩, List.mem_of_getElem? (i := 525) (by decide +kernel), List.mem_of_getElem? (i := 891) (by decide +kernel), List.mem_of_getElem? (i := 892) (by decide +kernel)⟩
theorem lw_p50 : lw_okq (⟨"MineUpsideModel", "keep", "(III)V"⟩, 24) := ⟨⟨by decide +kernel, by decide +kernel⟩, List.mem_of_getElem? (i := 525) (by decide +kernel), List.mem_of_getElem? (i := 895) (by decide +kernel), List.mem_of_getElem? (i := 896) (by decide +kernel)⟩
theorem lw_p51 : lw_okq (⟨"MineUpsideModel", "sumOf", "(I)I"⟩, 24) := ⟨⟨by decide +kernel, by decide +kernel⟩, List.mem_of_getElem? (i := 525) (by decide +kernel), List.mem_of_getElem? (i := 916) (by decide +kernel), List.mem_of_getElem? (i := 917) (by decide +kernel)⟩
theorem lw_p52 : lw_okq (⟨"MineUpsideModel", "cellDigest", "(JI)J"⟩, 24) := ⟨⟨by decide +kernel, by decide +kernel⟩, List.mem_of_getElem? (i := 525) (by decide +kernel), List.mem_of_getElem? (i := 927) (by decide +kernel), List.mem_of_getElem? (i := 928) (by decide +kernel)⟩
def lw_privs_4 : List (MethodName × Nat) := [(⟨"MineUpsideModel", "kicksOf", "(III)I"⟩, 24), (⟨"MineUpsideModel", "lacks", "(III)I"⟩, 24), (⟨"MineUpsideModel", "keep", "(III)V"⟩, 24), (⟨"MineUpsideModel", "sumOf", "(I)I"⟩, 24), (⟨"MineUpsideModel", "cellDigest", "(JI)J"⟩, 24)]
theorem lw_r4 : ∀ q ∈ lw_privs_4, lw_okq q := List.forall_mem_cons.mpr ⟨lw_p48, List.forall_mem_cons.mpr ⟨lw_p49, List.forall_mem_cons.mpr ⟨lw_p50, List.forall_mem_cons.mpr ⟨lw_p51, List.forall_mem_cons.mpr ⟨lw_p52, fun _ h => absurd h List.not_mem_nil⟩⟩⟩⟩⟩
def lw_privs : List (MethodName × Nat) := lw_privs_1 ++ (lw_privs_2 ++ (lw_privs_3 ++ (lw_privs_4)))
def lw_tbl : List Cond := k2_sels lw_privs ++ tables_1
theorem lw_privs_ok : ∀ q ∈ lw_privs, lw_okq q := by
  show ∀ q ∈ lw_privs_1 ++ (lw_privs_2 ++ (lw_privs_3 ++ (lw_privs_4))), lw_okq q
  exact List.forall_mem_append.mpr ⟨lw_r1, List.forall_mem_append.mpr ⟨lw_r2, List.forall_mem_append.mpr ⟨lw_r3, lw_r4⟩⟩⟩
-- names
def RX0 : String := "MineUpside$Plan"
def TX0 : u_T := fun k => match k with
  | 0 => ("MineUpside$Plan", "faultPlace", "I", false)
  | 1 => ("MineUpside$Plan", "rows", "I", false)
  | 2 => ("MineUpside$Plan", "wide", "I", false)
  | 3 => ("MineUpside$Plan", "cells", "I", false)
  | 4 => ("MineUpside$Plan", "hollow", "J", false)
  | 5 => ("MineUpside$Plan", "ladders", "J", false)
  | 6 => ("MineUpside$Plan", "springs", "J", false)
  | 7 => ("MineUpside$Plan", "firsts", "J", false)
  | 8 => ("MineUpside$Plan", "lasts", "J", false)
  | 9 => ("MineUpside$Plan", "ups", "J", false)
  | 10 => ("MineUpside$Plan", "held", "J", false)
  | 11 => ("MineUpside$Plan", "wetCells", "J", false)
  | 12 => ("MineUpside$Plan", "goes", "[J", true)
  | _ => ("MineUpside$Plan", "crosses", "[J", true)
def tyX0 : Nat → FieldType := fun k => match k with
  | 0 => .int
  | 1 => .int
  | 2 => .int
  | 3 => .int
  | 4 => .long
  | 5 => .long
  | 6 => .long
  | 7 => .long
  | 8 => .long
  | 9 => .long
  | 10 => .long
  | 11 => .long
  | 12 => .array .long
  | _ => .array .long
theorem nmX0 : ∀ a, a < 14 → ∀ b, b < 14 → a ≠ b → (TX0 a).2.1 ≠ (TX0 b).2.1 := by decide +kernel
theorem tyX0_ok : ∀ k, k < 14 → parseFieldDescriptor (TX0 k).2.2.1 = some (tyX0 k) := by decide +kernel
abbrev cX0_init : ByteArray := prog_2_method_1_code
def yX0_init : MethodName := ⟨RX0, "<init>", "()V"⟩
abbrev cX0_survey : ByteArray := prog_2_method_2_code
def yX0_survey : MethodName := ⟨RX0, "survey", "([III)V"⟩
abbrev cX0_clear : ByteArray := prog_2_method_3_code
def yX0_clear : MethodName := ⟨RX0, "clear", "()V"⟩
abbrev cX0_markRows : ByteArray := prog_2_method_4_code
def yX0_markRows : MethodName := ⟨RX0, "markRows", "(I)V"⟩
abbrev cX0_markMoves : ByteArray := prog_2_method_5_code
def yX0_markMoves : MethodName := ⟨RX0, "markMoves", "()V"⟩
abbrev cX0_spell : ByteArray := prog_2_method_6_code
def yX0_spell : MethodName := ⟨RX0, "spell", "([II)I"⟩
abbrev cX0_endsRow : ByteArray := prog_2_method_7_code
def yX0_endsRow : MethodName := ⟨RX0, "endsRow", "(I)Z"⟩
abbrev cX0_kindOf : ByteArray := prog_2_method_8_code
def yX0_kindOf : MethodName := ⟨RX0, "kindOf", "(I)I"⟩
abbrev cX0_dig : ByteArray := prog_2_method_9_code
def yX0_dig : MethodName := ⟨RX0, "dig", "(I)V"⟩
abbrev cX0_isCell : ByteArray := prog_2_method_10_code
def yX0_isCell : MethodName := ⟨RX0, "isCell", "(I)Z"⟩
abbrev cX0_kind : ByteArray := prog_2_method_11_code
def yX0_kind : MethodName := ⟨RX0, "kind", "(I)I"⟩
abbrev cX0_loose : ByteArray := prog_2_method_12_code
def yX0_loose : MethodName := ⟨RX0, "loose", "(J)J"⟩
abbrev cX0_fallen : ByteArray := prog_2_method_13_code
def yX0_fallen : MethodName := ⟨RX0, "fallen", "(I)I"⟩
abbrev cX0_placeBehind : ByteArray := prog_2_method_14_code
def yX0_placeBehind : MethodName := ⟨RX0, "placeBehind", "(II)I"⟩
abbrev cX0_falls : ByteArray := prog_2_method_15_code
def yX0_falls : MethodName := ⟨RX0, "falls", "(I)I"⟩
abbrev cX0_goneTo : ByteArray := prog_2_method_16_code
def yX0_goneTo : MethodName := ⟨RX0, "goneTo", "(II)I"⟩
abbrev cX0_moveSteps : ByteArray := prog_2_method_17_code
def yX0_moveSteps : MethodName := ⟨RX0, "moveSteps", "(III)I"⟩
abbrev cX0_kicked : ByteArray := prog_2_method_18_code
def yX0_kicked : MethodName := ⟨RX0, "kicked", "(II)I"⟩
abbrev cX0_soaked : ByteArray := prog_2_method_19_code
def yX0_soaked : MethodName := ⟨RX0, "soaked", "(JJ)J"⟩
abbrev cX0_springsThatWet : ByteArray := prog_2_method_20_code
def yX0_springsThatWet : MethodName := ⟨RX0, "springsThatWet", "(I)I"⟩
abbrev cX0_plugsFor : ByteArray := prog_2_method_21_code
def yX0_plugsFor : MethodName := ⟨RX0, "plugsFor", "(I)J"⟩
abbrev cX0_keepsDry : ByteArray := prog_2_method_22_code
def yX0_keepsDry : MethodName := ⟨RX0, "keepsDry", "(JI)Z"⟩
def RX1 : String := "MineUpside$Sheet"
def TX1 : u_T := fun k => match k with
  | 0 => ("MineUpside$Sheet", "lost", "Z", false)
  | 1 => ("MineUpside$Sheet", "form", "I", false)
  | 2 => ("MineUpside$Sheet", "size", "I", false)
  | _ => ("MineUpside$Sheet", "items", "[I", true)
def tyX1 : Nat → FieldType := fun k => match k with
  | 0 => .boolean
  | 1 => .int
  | 2 => .int
  | _ => .array .int
theorem nmX1 : ∀ a, a < 4 → ∀ b, b < 4 → a ≠ b → (TX1 a).2.1 ≠ (TX1 b).2.1 := by decide +kernel
theorem tyX1_ok : ∀ k, k < 4 → parseFieldDescriptor (TX1 k).2.2.1 = some (tyX1 k) := by decide +kernel
abbrev cX1_init : ByteArray := prog_3_method_1_code
def yX1_init : MethodName := ⟨RX1, "<init>", "()V"⟩
abbrev cX1_begin : ByteArray := prog_3_method_2_code
def yX1_begin : MethodName := ⟨RX1, "begin", "(II)V"⟩
abbrev cX1_holds : ByteArray := prog_3_method_3_code
def yX1_holds : MethodName := ⟨RX1, "holds", "(II)Z"⟩
abbrev cX1_store : ByteArray := prog_3_method_4_code
def yX1_store : MethodName := ⟨RX1, "store", "(II)V"⟩
def RX2 : String := "MineUpside$Ways"
def TX2 : u_T := fun k => match k with
  | 0 => ("MineUpside$Ways", "plan", "LMineUpside$Plan;", true)
  | 1 => ("MineUpside$Ways", "steps", "[I", true)
  | 2 => ("MineUpside$Ways", "known", "J", false)
  | _ => ("MineUpside$Ways", "turn", "I", false)
def tyX2 : Nat → FieldType := fun k => match k with
  | 0 => .object "MineUpside$Plan"
  | 1 => .array .int
  | 2 => .long
  | _ => .int
theorem nmX2 : ∀ a, a < 4 → ∀ b, b < 4 → a ≠ b → (TX2 a).2.1 ≠ (TX2 b).2.1 := by decide +kernel
theorem tyX2_ok : ∀ k, k < 4 → parseFieldDescriptor (TX2 k).2.2.1 = some (tyX2 k) := by decide +kernel
abbrev cX2_init : ByteArray := prog_4_method_1_code
def yX2_init : MethodName := ⟨RX2, "<init>", "(LMineUpside$Plan;)V"⟩
abbrev cX2_renew : ByteArray := prog_4_method_2_code
def yX2_renew : MethodName := ⟨RX2, "renew", "(I)V"⟩
abbrev cX2_between : ByteArray := prog_4_method_3_code
def yX2_between : MethodName := ⟨RX2, "between", "(II)I"⟩
abbrev cX2_measure : ByteArray := prog_4_method_4_code
def yX2_measure : MethodName := ⟨RX2, "measure", "(I)V"⟩
abbrev cX2_goOn : ByteArray := prog_4_method_5_code
def yX2_goOn : MethodName := ⟨RX2, "goOn", "(I)Z"⟩
abbrev cX2_isSooner : ByteArray := prog_4_method_6_code
def yX2_isSooner : MethodName := ⟨RX2, "isSooner", "(II)Z"⟩
def RX3 : String := "MineUpside"
def TX3 : u_T := fun k => match k with
  | 0 => ("MineUpside", "text", "[I", true)
  | 1 => ("MineUpside", "bytes", "I", false)
  | 2 => ("MineUpside", "middle", "I", false)
  | 3 => ("MineUpside", "turn", "I", false)
  | 4 => ("MineUpside", "thingCells", "[I", true)
  | 5 => ("MineUpside", "thingSteps", "[I", true)
  | 6 => ("MineUpside", "things", "I", false)
  | 7 => ("MineUpside", "plumbs", "I", false)
  | 8 => ("MineUpside", "mayBe", "I", false)
  | 9 => ("MineUpside", "sheets", "[LMineUpside$Sheet;", true)
  | 10 => ("MineUpside", "finding", "I", false)
  | 11 => ("MineUpside", "plan", "LMineUpside$Plan;", true)
  | _ => ("MineUpside", "ways", "LMineUpside$Ways;", true)
def tyX3 : Nat → FieldType := fun k => match k with
  | 0 => .array .int
  | 1 => .int
  | 2 => .int
  | 3 => .int
  | 4 => .array .int
  | 5 => .array .int
  | 6 => .int
  | 7 => .int
  | 8 => .int
  | 9 => .array (.object "MineUpside$Sheet")
  | 10 => .int
  | 11 => .object "MineUpside$Plan"
  | _ => .object "MineUpside$Ways"
theorem nmX3 : ∀ a, a < 13 → ∀ b, b < 13 → a ≠ b → (TX3 a).2.1 ≠ (TX3 b).2.1 := by decide +kernel
theorem tyX3_ok : ∀ k, k < 13 → parseFieldDescriptor (TX3 k).2.2.1 = some (tyX3 k) := by decide +kernel
abbrev cX3_init : ByteArray := prog_1_method_1_code
def yX3_init : MethodName := ⟨RX3, "<init>", "()V"⟩
abbrev cX3_type : ByteArray := prog_1_method_2_code
def yX3_type : MethodName := ⟨RX3, "type", "(I)I"⟩
abbrev cX3_wipe : ByteArray := prog_1_method_3_code
def yX3_wipe : MethodName := ⟨RX3, "wipe", "()I"⟩
abbrev cX3_undo : ByteArray := prog_1_method_4_code
def yX3_undo : MethodName := ⟨RX3, "undo", "()I"⟩
abbrev cX3_fault : ByteArray := prog_1_method_5_code
def yX3_fault : MethodName := ⟨RX3, "fault", "()I"⟩
abbrev cX3_cell : ByteArray := prog_1_method_6_code
def yX3_cell : MethodName := ⟨RX3, "cell", "(II)I"⟩
abbrev cX3_set : ByteArray := prog_1_method_7_code
def yX3_set : MethodName := ⟨RX3, "set", "(II)I"⟩
abbrev cX3_thing : ByteArray := prog_1_method_8_code
def yX3_thing : MethodName := ⟨RX3, "thing", "(II)I"⟩
abbrev cX3_back : ByteArray := prog_1_method_9_code
def yX3_back : MethodName := ⟨RX3, "back", "()I"⟩
abbrev cX3_read : ByteArray := prog_1_method_10_code
def yX3_read : MethodName := ⟨RX3, "read", "(I)I"⟩
abbrev cX3_at : ByteArray := prog_1_method_11_code
def yX3_at : MethodName := ⟨RX3, "at", "(II)I"⟩
abbrev cX3_rests : ByteArray := prog_1_method_12_code
def yX3_rests : MethodName := ⟨RX3, "rests", "(II)I"⟩
abbrev cX3_longest : ByteArray := prog_1_method_13_code
def yX3_longest : MethodName := ⟨RX3, "longest", "()I"⟩
abbrev cX3_meet : ByteArray := prog_1_method_14_code
def yX3_meet : MethodName := ⟨RX3, "meet", "(II)I"⟩
abbrev cX3_way : ByteArray := prog_1_method_15_code
def yX3_way : MethodName := ⟨RX3, "way", "(II)I"⟩
abbrev cX3_next : ByteArray := prog_1_method_16_code
def yX3_next : MethodName := ⟨RX3, "next", "(II)I"⟩
abbrev cX3_race : ByteArray := prog_1_method_17_code
def yX3_race : MethodName := ⟨RX3, "race", "(III)I"⟩
abbrev cX3_reach : ByteArray := prog_1_method_18_code
def yX3_reach : MethodName := ⟨RX3, "reach", "(I)I"⟩
abbrev cX3_wet : ByteArray := prog_1_method_19_code
def yX3_wet : MethodName := ⟨RX3, "wet", "(I)I"⟩
abbrev cX3_plug : ByteArray := prog_1_method_20_code
def yX3_plug : MethodName := ⟨RX3, "plug", "(II)I"⟩
abbrev cX3_plumb : ByteArray := prog_1_method_21_code
def yX3_plumb : MethodName := ⟨RX3, "plumb", "(II)I"⟩
abbrev cX3_forget : ByteArray := prog_1_method_22_code
def yX3_forget : MethodName := ⟨RX3, "forget", "()I"⟩
abbrev cX3_where : ByteArray := prog_1_method_23_code
def yX3_where : MethodName := ⟨RX3, "where", "()I"⟩
abbrev cX3_hang : ByteArray := prog_1_method_24_code
def yX3_hang : MethodName := ⟨RX3, "hang", "()I"⟩
abbrev cX3_from : ByteArray := prog_1_method_25_code
def yX3_from : MethodName := ⟨RX3, "from", "(III)I"⟩
abbrev cX3_joined : ByteArray := prog_1_method_26_code
def yX3_joined : MethodName := ⟨RX3, "joined", "()I"⟩
abbrev cX3_like : ByteArray := prog_1_method_27_code
def yX3_like : MethodName := ⟨RX3, "like", "(I)I"⟩
abbrev cX3_flood : ByteArray := prog_1_method_28_code
def yX3_flood : MethodName := ⟨RX3, "flood", "(III)J"⟩
abbrev cX3_kicks : ByteArray := prog_1_method_29_code
def yX3_kicks : MethodName := ⟨RX3, "kicks", "(III)I"⟩
abbrev cX3_sheet : ByteArray := prog_1_method_30_code
def yX3_sheet : MethodName := ⟨RX3, "sheet", "(III)I"⟩
abbrev cX3_lose : ByteArray := prog_1_method_31_code
def yX3_lose : MethodName := ⟨RX3, "lose", "(I)I"⟩
abbrev cX3_put : ByteArray := prog_1_method_32_code
def yX3_put : MethodName := ⟨RX3, "put", "(IIII)I"⟩
abbrev cX3_get : ByteArray := prog_1_method_33_code
def yX3_get : MethodName := ⟨RX3, "get", "(III)I"⟩
abbrev cX3_copy : ByteArray := prog_1_method_34_code
def yX3_copy : MethodName := ⟨RX3, "copy", "(IIIII)I"⟩
abbrev cX3_write : ByteArray := prog_1_method_35_code
def yX3_write : MethodName := ⟨RX3, "write", "(II)I"⟩
abbrev cX3_count : ByteArray := prog_1_method_36_code
def yX3_count : MethodName := ⟨RX3, "count", "(I)I"⟩
abbrev cX3_digest : ByteArray := prog_1_method_37_code
def yX3_digest : MethodName := ⟨RX3, "digest", "()J"⟩
abbrev cX3_mixed : ByteArray := prog_1_method_38_code
def yX3_mixed : MethodName := ⟨RX3, "mixed", "(JJ)J"⟩
abbrev cX3_renew : ByteArray := prog_1_method_39_code
def yX3_renew : MethodName := ⟨RX3, "renew", "()V"⟩
abbrev cX3_isThing : ByteArray := prog_1_method_40_code
def yX3_isThing : MethodName := ⟨RX3, "isThing", "(I)Z"⟩
abbrev cX3_isStep : ByteArray := prog_1_method_41_code
def yX3_isStep : MethodName := ⟨RX3, "isStep", "(I)Z"⟩
abbrev cX3_isSheet : ByteArray := prog_1_method_42_code
def yX3_isSheet : MethodName := ⟨RX3, "isSheet", "(I)Z"⟩
abbrev cX3_isForm : ByteArray := prog_1_method_43_code
def yX3_isForm : MethodName := ⟨RX3, "isForm", "(I)Z"⟩
abbrev cX3_found : ByteArray := prog_1_method_44_code
def yX3_found : MethodName := ⟨RX3, "found", "(I)I"⟩
abbrev cX3_refusalOfItem : ByteArray := prog_1_method_45_code
def yX3_refusalOfItem : MethodName := ⟨RX3, "refusalOfItem", "(III)I"⟩
abbrev cX3_middlesUpAt : ByteArray := prog_1_method_46_code
def yX3_middlesUpAt : MethodName := ⟨RX3, "middlesUpAt", "(I)I"⟩
abbrev cX3_asNumber : ByteArray := prog_1_method_47_code
def yX3_asNumber : MethodName := ⟨RX3, "asNumber", "(Z)I"⟩
abbrev cX3_bit : ByteArray := prog_1_method_48_code
def yX3_bit : MethodName := ⟨RX3, "bit", "(I)J"⟩
abbrev cX3_has : ByteArray := prog_1_method_49_code
def yX3_has : MethodName := ⟨RX3, "has", "(JI)Z"⟩
abbrev cX3_sizeOrItem : ByteArray := prog_1_method_50_code
def yX3_sizeOrItem : MethodName := ⟨RX3, "sizeOrItem", "(JI)I"⟩
def RX4 : String := "MineUpsideModel"
def TX4 : u_T := fun k => match k with
  | 0 => ("MineUpsideModel", "text", "[I", true)
  | 1 => ("MineUpsideModel", "typed", "I", false)
  | 2 => ("MineUpsideModel", "wide", "I", false)
  | 3 => ("MineUpsideModel", "rows", "I", false)
  | 4 => ("MineUpsideModel", "cells", "I", false)
  | 5 => ("MineUpsideModel", "kinds", "[I", true)
  | 6 => ("MineUpsideModel", "middleNow", "I", false)
  | 7 => ("MineUpsideModel", "turnNow", "I", false)
  | 8 => ("MineUpsideModel", "things", "I", false)
  | 9 => ("MineUpsideModel", "thingCell", "[I", true)
  | 10 => ("MineUpsideModel", "thingStep", "[I", true)
  | 11 => ("MineUpsideModel", "far", "[I", true)
  | 12 => ("MineUpsideModel", "comes", "[Z", true)
  | 13 => ("MineUpsideModel", "wetNow", "[Z", true)
  | 14 => ("MineUpsideModel", "planRow", "[I", true)
  | 15 => ("MineUpsideModel", "plumbs", "I", false)
  | 16 => ("MineUpsideModel", "plumbRow", "[I", true)
  | 17 => ("MineUpsideModel", "plumbUp", "[I", true)
  | 18 => ("MineUpsideModel", "isThere", "[Z", true)
  | 19 => ("MineUpsideModel", "forms", "[I", true)
  | 20 => ("MineUpsideModel", "sizes", "[I", true)
  | 21 => ("MineUpsideModel", "items", "[I", true)
  | 22 => ("MineUpsideModel", "moved", "[I", true)
  | _ => ("MineUpsideModel", "finding", "I", false)
def tyX4 : Nat → FieldType := fun k => match k with
  | 0 => .array .int
  | 1 => .int
  | 2 => .int
  | 3 => .int
  | 4 => .int
  | 5 => .array .int
  | 6 => .int
  | 7 => .int
  | 8 => .int
  | 9 => .array .int
  | 10 => .array .int
  | 11 => .array .int
  | 12 => .array .boolean
  | 13 => .array .boolean
  | 14 => .array .int
  | 15 => .int
  | 16 => .array .int
  | 17 => .array .int
  | 18 => .array .boolean
  | 19 => .array .int
  | 20 => .array .int
  | 21 => .array .int
  | 22 => .array .int
  | _ => .int
theorem nmX4 : ∀ a, a < 24 → ∀ b, b < 24 → a ≠ b → (TX4 a).2.1 ≠ (TX4 b).2.1 := by decide +kernel
theorem tyX4_ok : ∀ k, k < 24 → parseFieldDescriptor (TX4 k).2.2.1 = some (tyX4 k) := by decide +kernel
abbrev cX4_init : ByteArray := prog_6_method_1_code
def yX4_init : MethodName := ⟨RX4, "<init>", "()V"⟩
abbrev cX4_in : ByteArray := prog_6_method_3_code
def yX4_in : MethodName := ⟨RX4, "in", "(III)Z"⟩
abbrev cX4_isIn : ByteArray := prog_6_method_4_code
def yX4_isIn : MethodName := ⟨RX4, "isIn", "(II)Z"⟩
abbrev cX4_no : ByteArray := prog_6_method_5_code
def yX4_no : MethodName := ⟨RX4, "no", "(I)J"⟩
abbrev cX4_lowest : ByteArray := prog_6_method_6_code
def yX4_lowest : MethodName := ⟨RX4, "lowest", "(JJI)J"⟩
abbrev cX4_type : ByteArray := prog_6_method_7_code
def yX4_type : MethodName := ⟨RX4, "type", "(I)I"⟩
abbrev cX4_wipe : ByteArray := prog_6_method_8_code
def yX4_wipe : MethodName := ⟨RX4, "wipe", "()I"⟩
abbrev cX4_undo : ByteArray := prog_6_method_9_code
def yX4_undo : MethodName := ⟨RX4, "undo", "()I"⟩
abbrev cX4_kindOf : ByteArray := prog_6_method_10_code
def yX4_kindOf : MethodName := ⟨RX4, "kindOf", "(I)I"⟩
abbrev cX4_faultNow : ByteArray := prog_6_method_11_code
def yX4_faultNow : MethodName := ⟨RX4, "faultNow", "()I"⟩
abbrev cX4_fault : ByteArray := prog_6_method_12_code
def yX4_fault : MethodName := ⟨RX4, "fault", "()I"⟩
abbrev cX4_reads : ByteArray := prog_6_method_13_code
def yX4_reads : MethodName := ⟨RX4, "reads", "()V"⟩
abbrev cX4_isCell : ByteArray := prog_6_method_14_code
def yX4_isCell : MethodName := ⟨RX4, "isCell", "(I)Z"⟩
abbrev cX4_isOpen : ByteArray := prog_6_method_15_code
def yX4_isOpen : MethodName := ⟨RX4, "isOpen", "(I)Z"⟩
abbrev cX4_isUp : ByteArray := prog_6_method_16_code
def yX4_isUp : MethodName := ⟨RX4, "isUp", "(I)Z"⟩
abbrev cX4_below : ByteArray := prog_6_method_17_code
def yX4_below : MethodName := ⟨RX4, "below", "(I)I"⟩
abbrev cX4_isHeld : ByteArray := prog_6_method_18_code
def yX4_isHeld : MethodName := ⟨RX4, "isHeld", "(I)Z"⟩
abbrev cX4_cell : ByteArray := prog_6_method_19_code
def yX4_cell : MethodName := ⟨RX4, "cell", "(II)I"⟩
abbrev cX4_set : ByteArray := prog_6_method_20_code
def yX4_set : MethodName := ⟨RX4, "set", "(II)I"⟩
abbrev cX4_thing : ByteArray := prog_6_method_21_code
def yX4_thing : MethodName := ⟨RX4, "thing", "(II)I"⟩
abbrev cX4_back : ByteArray := prog_6_method_22_code
def yX4_back : MethodName := ⟨RX4, "back", "()I"⟩
abbrev cX4_read : ByteArray := prog_6_method_23_code
def yX4_read : MethodName := ⟨RX4, "read", "(I)I"⟩
abbrev cX4_isThing : ByteArray := prog_6_method_24_code
def yX4_isThing : MethodName := ⟨RX4, "isThing", "(I)Z"⟩
abbrev cX4_fallen : ByteArray := prog_6_method_25_code
def yX4_fallen : MethodName := ⟨RX4, "fallen", "(II)I"⟩
abbrev cX4_atOf : ByteArray := prog_6_method_26_code
def yX4_atOf : MethodName := ⟨RX4, "atOf", "(II)I"⟩
abbrev cX4_at : ByteArray := prog_6_method_27_code
def yX4_at : MethodName := ⟨RX4, "at", "(II)I"⟩
abbrev cX4_restsOf : ByteArray := prog_6_method_28_code
def yX4_restsOf : MethodName := ⟨RX4, "restsOf", "(II)I"⟩
abbrev cX4_rests : ByteArray := prog_6_method_29_code
def yX4_rests : MethodName := ⟨RX4, "rests", "(II)I"⟩
abbrev cX4_longestNow : ByteArray := prog_6_method_30_code
def yX4_longestNow : MethodName := ⟨RX4, "longestNow", "()I"⟩
abbrev cX4_longest : ByteArray := prog_6_method_31_code
def yX4_longest : MethodName := ⟨RX4, "longest", "()I"⟩
abbrev cX4_meetOf : ByteArray := prog_6_method_32_code
def yX4_meetOf : MethodName := ⟨RX4, "meetOf", "(II)I"⟩
abbrev cX4_meet : ByteArray := prog_6_method_33_code
def yX4_meet : MethodName := ⟨RX4, "meet", "(II)I"⟩
abbrev cX4_cost : ByteArray := prog_6_method_34_code
def yX4_cost : MethodName := ⟨RX4, "cost", "(II)I"⟩
abbrev cX4_target : ByteArray := prog_6_method_35_code
def yX4_target : MethodName := ⟨RX4, "target", "(II)I"⟩
abbrev cX4_laysFar : ByteArray := prog_6_method_36_code
def yX4_laysFar : MethodName := ⟨RX4, "laysFar", "(I)V"⟩
abbrev cX4_wayOf : ByteArray := prog_6_method_37_code
def yX4_wayOf : MethodName := ⟨RX4, "wayOf", "(II)I"⟩
abbrev cX4_way : ByteArray := prog_6_method_38_code
def yX4_way : MethodName := ⟨RX4, "way", "(II)I"⟩
abbrev cX4_nextOf : ByteArray := prog_6_method_39_code
def yX4_nextOf : MethodName := ⟨RX4, "nextOf", "(II)I"⟩
abbrev cX4_next : ByteArray := prog_6_method_40_code
def yX4_next : MethodName := ⟨RX4, "next", "(II)I"⟩
abbrev cX4_raceOf : ByteArray := prog_6_method_41_code
def yX4_raceOf : MethodName := ⟨RX4, "raceOf", "(III)I"⟩
abbrev cX4_race : ByteArray := prog_6_method_42_code
def yX4_race : MethodName := ⟨RX4, "race", "(III)I"⟩
abbrev cX4_reachOf : ByteArray := prog_6_method_43_code
def yX4_reachOf : MethodName := ⟨RX4, "reachOf", "(I)I"⟩
abbrev cX4_reach : ByteArray := prog_6_method_44_code
def yX4_reach : MethodName := ⟨RX4, "reach", "(I)I"⟩
abbrev cX4_flows : ByteArray := prog_6_method_45_code
def yX4_flows : MethodName := ⟨RX4, "flows", "(I)V"⟩
abbrev cX4_wetOf : ByteArray := prog_6_method_46_code
def yX4_wetOf : MethodName := ⟨RX4, "wetOf", "(I)I"⟩
abbrev cX4_wet : ByteArray := prog_6_method_47_code
def yX4_wet : MethodName := ⟨RX4, "wet", "(I)I"⟩
abbrev cX4_plugs : ByteArray := prog_6_method_48_code
def yX4_plugs : MethodName := ⟨RX4, "plugs", "(III)Z"⟩
abbrev cX4_mayPlug : ByteArray := prog_6_method_49_code
def yX4_mayPlug : MethodName := ⟨RX4, "mayPlug", "(II)Z"⟩
abbrev cX4_plugBy : ByteArray := prog_6_method_50_code
def yX4_plugBy : MethodName := ⟨RX4, "plugBy", "(I)I"⟩
abbrev cX4_plugOf : ByteArray := prog_6_method_51_code
def yX4_plugOf : MethodName := ⟨RX4, "plugOf", "(II)I"⟩
abbrev cX4_plug : ByteArray := prog_6_method_52_code
def yX4_plug : MethodName := ⟨RX4, "plug", "(II)I"⟩
abbrev cX4_plumb : ByteArray := prog_6_method_53_code
def yX4_plumb : MethodName := ⟨RX4, "plumb", "(II)I"⟩
abbrev cX4_forget : ByteArray := prog_6_method_54_code
def yX4_forget : MethodName := ⟨RX4, "forget", "()I"⟩
abbrev cX4_whereNow : ByteArray := prog_6_method_55_code
def yX4_whereNow : MethodName := ⟨RX4, "whereNow", "()I"⟩
abbrev cX4_where : ByteArray := prog_6_method_56_code
def yX4_where : MethodName := ⟨RX4, "where", "()I"⟩
abbrev cX4_hangNow : ByteArray := prog_6_method_57_code
def yX4_hangNow : MethodName := ⟨RX4, "hangNow", "()I"⟩
abbrev cX4_hang : ByteArray := prog_6_method_58_code
def yX4_hang : MethodName := ⟨RX4, "hang", "()I"⟩
abbrev cX4_fromOf : ByteArray := prog_6_method_59_code
def yX4_fromOf : MethodName := ⟨RX4, "fromOf", "(III)I"⟩
abbrev cX4_from : ByteArray := prog_6_method_60_code
def yX4_from : MethodName := ⟨RX4, "from", "(III)I"⟩
abbrev cX4_joinedNow : ByteArray := prog_6_method_61_code
def yX4_joinedNow : MethodName := ⟨RX4, "joinedNow", "()I"⟩
abbrev cX4_joined : ByteArray := prog_6_method_62_code
def yX4_joined : MethodName := ⟨RX4, "joined", "()I"⟩
abbrev cX4_likeOf : ByteArray := prog_6_method_63_code
def yX4_likeOf : MethodName := ⟨RX4, "likeOf", "(I)I"⟩
abbrev cX4_like : ByteArray := prog_6_method_64_code
def yX4_like : MethodName := ⟨RX4, "like", "(I)I"⟩
abbrev cX4_springs : ByteArray := prog_6_method_65_code
def yX4_springs : MethodName := ⟨RX4, "springs", "()I"⟩
abbrev cX4_floodOf : ByteArray := prog_6_method_66_code
def yX4_floodOf : MethodName := ⟨RX4, "floodOf", "(III)J"⟩
abbrev cX4_flood : ByteArray := prog_6_method_67_code
def yX4_flood : MethodName := ⟨RX4, "flood", "(III)J"⟩
abbrev cX4_kicksOf : ByteArray := prog_6_method_68_code
def yX4_kicksOf : MethodName := ⟨RX4, "kicksOf", "(III)I"⟩
abbrev cX4_kicks : ByteArray := prog_6_method_69_code
def yX4_kicks : MethodName := ⟨RX4, "kicks", "(III)I"⟩
abbrev cX4_meets : ByteArray := prog_6_method_70_code
def yX4_meets : MethodName := ⟨RX4, "meets", "(I)I"⟩
abbrev cX4_isSheet : ByteArray := prog_6_method_71_code
def yX4_isSheet : MethodName := ⟨RX4, "isSheet", "(I)Z"⟩
abbrev cX4_sheet : ByteArray := prog_6_method_72_code
def yX4_sheet : MethodName := ⟨RX4, "sheet", "(III)I"⟩
abbrev cX4_lose : ByteArray := prog_6_method_73_code
def yX4_lose : MethodName := ⟨RX4, "lose", "(I)I"⟩
abbrev cX4_lacks : ByteArray := prog_6_method_74_code
def yX4_lacks : MethodName := ⟨RX4, "lacks", "(III)I"⟩
abbrev cX4_keep : ByteArray := prog_6_method_75_code
def yX4_keep : MethodName := ⟨RX4, "keep", "(III)V"⟩
abbrev cX4_put : ByteArray := prog_6_method_76_code
def yX4_put : MethodName := ⟨RX4, "put", "(IIII)I"⟩
abbrev cX4_get : ByteArray := prog_6_method_77_code
def yX4_get : MethodName := ⟨RX4, "get", "(III)I"⟩
abbrev cX4_copy : ByteArray := prog_6_method_78_code
def yX4_copy : MethodName := ⟨RX4, "copy", "(IIIII)I"⟩
abbrev cX4_write : ByteArray := prog_6_method_79_code
def yX4_write : MethodName := ⟨RX4, "write", "(II)I"⟩
abbrev cX4_sumOf : ByteArray := prog_6_method_80_code
def yX4_sumOf : MethodName := ⟨RX4, "sumOf", "(I)I"⟩
abbrev cX4_count : ByteArray := prog_6_method_81_code
def yX4_count : MethodName := ⟨RX4, "count", "(I)I"⟩
abbrev cX4_cellDigest : ByteArray := prog_6_method_82_code
def yX4_cellDigest : MethodName := ⟨RX4, "cellDigest", "(JI)J"⟩
abbrev cX4_digest : ByteArray := prog_6_method_83_code
def yX4_digest : MethodName := ⟨RX4, "digest", "()J"⟩
def RJ6 : String := "java/lang/Integer"
def TJ6 : u_T := fun k => match k with
  | _ => ("", "", "", false)
def tyJ6 : Nat → FieldType := fun k => match k with
  | _ => .int
theorem nmJ6 : ∀ a, a < 0 → ∀ b, b < 0 → a ≠ b → (TJ6 a).2.1 ≠ (TJ6 b).2.1 := by decide +kernel
theorem tyJ6_ok : ∀ k, k < 0 → parseFieldDescriptor (TJ6 k).2.2.1 = some (tyJ6 k) := by decide +kernel
abbrev cJ6_bitCount_0f7a4 : ByteArray := prog_7_method_49_code
def yJ6_bitCount_0f7a4 : MethodName := ⟨RJ6, "bitCount", "(I)I"⟩
def RJ13 : String := "java/lang/Long"
def TJ13 : u_T := fun k => match k with
  | _ => ("", "", "", false)
def tyJ13 : Nat → FieldType := fun k => match k with
  | _ => .int
theorem nmJ13 : ∀ a, a < 0 → ∀ b, b < 0 → a ≠ b → (TJ13 a).2.1 ≠ (TJ13 b).2.1 := by decide +kernel
theorem tyJ13_ok : ∀ k, k < 0 → parseFieldDescriptor (TJ13 k).2.2.1 = some (tyJ13 k) := by decide +kernel
abbrev cJ13_bitCount_95d88 : ByteArray := prog_8_method_50_code
def yJ13_bitCount_95d88 : MethodName := ⟨RJ13, "bitCount", "(J)I"⟩
def RJ9 : String := "java/lang/Math"
def TJ9 : u_T := fun k => match k with
  | _ => ("", "", "", false)
def tyJ9 : Nat → FieldType := fun k => match k with
  | _ => .int
theorem nmJ9 : ∀ a, a < 0 → ∀ b, b < 0 → a ≠ b → (TJ9 a).2.1 ≠ (TJ9 b).2.1 := by decide +kernel
theorem tyJ9_ok : ∀ k, k < 0 → parseFieldDescriptor (TJ9 k).2.2.1 = some (tyJ9 k) := by decide +kernel
abbrev cJ9_max_7cf53 : ByteArray := prog_9_method_65_code
def yJ9_max_7cf53 : MethodName := ⟨RJ9, "max", "(II)I"⟩
abbrev cJ9_min_7cf53 : ByteArray := prog_9_method_69_code
def yJ9_min_7cf53 : MethodName := ⟨RJ9, "min", "(II)I"⟩
def RJ10 : String := "java/lang/System"
def TJ10 : u_T := fun k => match k with
  | _ => ("", "", "", false)
def tyJ10 : Nat → FieldType := fun k => match k with
  | _ => .int
theorem nmJ10 : ∀ a, a < 0 → ∀ b, b < 0 → a ≠ b → (TJ10 a).2.1 ≠ (TJ10 b).2.1 := by decide +kernel
theorem tyJ10_ok : ∀ k, k < 0 → parseFieldDescriptor (TJ10 k).2.2.1 = some (tyJ10 k) := by decide +kernel
def RL : String := "MineUpsideLaw"
abbrev cL_law : ByteArray := code
def yL_law : MethodName := ⟨RL, "law", "([I)Z"⟩
abbrev vwCl : List vw_C := [(RX0, TX0, 14), (RX1, TX1, 4), (RX2, TX2, 4), (RX3, TX3, 13), (RX4, TX4, 24)]
