section
-- ===== PART A: goes FIRST, ahead of the names: the tables' words, and 'selects' of the private methods out of them =====
/-- a private method of a class that the tables say can be made, by its rows of tables_1 -/
def lw_okq (q : MethodName × Nat) : Prop := (q.1.cls ≠ "java/lang/invoke/MethodHandle" ∧ q.1.cls ≠ "java/lang/invoke/VarHandle") ∧ Cond.instantiable q.1.cls q.2 ∈ tables_1 ∧ Cond.privateMethod q.1 ∈ tables_1 ∧ Cond.instanceMethod q.1 ∈ tables_1
theorem lw_p0 : lw_okq (⟨"DeedHands$Pad", "depthOfNext", "(I)I"⟩, 3) := ⟨⟨by decide +kernel, by decide +kernel⟩, List.mem_of_getElem? (i := 20) (by decide +kernel), List.mem_of_getElem? (i := 245) (by decide +kernel), List.mem_of_getElem? (i := 246) (by decide +kernel)⟩
theorem lw_p1 : lw_okq (⟨"DeedHands", "becomes", "(IZ)I"⟩, 7) := ⟨⟨by decide +kernel, by decide +kernel⟩, List.mem_of_getElem? (i := 12) (by decide +kernel), List.mem_of_getElem? (i := 256) (by decide +kernel), List.mem_of_getElem? (i := 257) (by decide +kernel)⟩
theorem lw_p2 : lw_okq (⟨"DeedHands$Book", "behind", "(I)I"⟩, 3) := ⟨⟨by decide +kernel, by decide +kernel⟩, List.mem_of_getElem? (i := 39) (by decide +kernel), List.mem_of_getElem? (i := 268) (by decide +kernel), List.mem_of_getElem? (i := 269) (by decide +kernel)⟩
theorem lw_p3 : lw_okq (⟨"DeedHands$Run", "enter", "(IIII)V"⟩, 16) := ⟨⟨by decide +kernel, by decide +kernel⟩, List.mem_of_getElem? (i := 70) (by decide +kernel), List.mem_of_getElem? (i := 349) (by decide +kernel), List.mem_of_getElem? (i := 350) (by decide +kernel)⟩
theorem lw_p4 : lw_okq (⟨"DeedHands$Run", "begin", "()V"⟩, 16) := ⟨⟨by decide +kernel, by decide +kernel⟩, List.mem_of_getElem? (i := 70) (by decide +kernel), List.mem_of_getElem? (i := 358) (by decide +kernel), List.mem_of_getElem? (i := 359) (by decide +kernel)⟩
theorem lw_p5 : lw_okq (⟨"DeedHands$Calls", "stands", "(I)Z"⟩, 4) := ⟨⟨by decide +kernel, by decide +kernel⟩, List.mem_of_getElem? (i := 96) (by decide +kernel), List.mem_of_getElem? (i := 367) (by decide +kernel), List.mem_of_getElem? (i := 368) (by decide +kernel)⟩
theorem lw_p6 : lw_okq (⟨"DeedHands$Run", "give", "(I)V"⟩, 16) := ⟨⟨by decide +kernel, by decide +kernel⟩, List.mem_of_getElem? (i := 70) (by decide +kernel), List.mem_of_getElem? (i := 371) (by decide +kernel), List.mem_of_getElem? (i := 372) (by decide +kernel)⟩
theorem lw_p7 : lw_okq (⟨"DeedHands$Waiting", "make", "(II)Z"⟩, 4) := ⟨⟨by decide +kernel, by decide +kernel⟩, List.mem_of_getElem? (i := 76) (by decide +kernel), List.mem_of_getElem? (i := 380) (by decide +kernel), List.mem_of_getElem? (i := 381) (by decide +kernel)⟩
theorem lw_p8 : lw_okq (⟨"DeedHands$Run", "takeUp", "()V"⟩, 16) := ⟨⟨by decide +kernel, by decide +kernel⟩, List.mem_of_getElem? (i := 70) (by decide +kernel), List.mem_of_getElem? (i := 385) (by decide +kernel), List.mem_of_getElem? (i := 386) (by decide +kernel)⟩
theorem lw_p9 : lw_okq (⟨"DeedHands$Waiting", "stands", "(I)Z"⟩, 4) := ⟨⟨by decide +kernel, by decide +kernel⟩, List.mem_of_getElem? (i := 76) (by decide +kernel), List.mem_of_getElem? (i := 393) (by decide +kernel), List.mem_of_getElem? (i := 394) (by decide +kernel)⟩
theorem lw_p10 : lw_okq (⟨"DeedHands$Run", "choose", "()V"⟩, 16) := ⟨⟨by decide +kernel, by decide +kernel⟩, List.mem_of_getElem? (i := 70) (by decide +kernel), List.mem_of_getElem? (i := 414) (by decide +kernel), List.mem_of_getElem? (i := 415) (by decide +kernel)⟩
theorem lw_p11 : lw_okq (⟨"DeedHands$Run", "comeBack", "(I)V"⟩, 16) := ⟨⟨by decide +kernel, by decide +kernel⟩, List.mem_of_getElem? (i := 70) (by decide +kernel), List.mem_of_getElem? (i := 422) (by decide +kernel), List.mem_of_getElem? (i := 423) (by decide +kernel)⟩
theorem lw_p12 : lw_okq (⟨"DeedHands$Run", "goOn", "()V"⟩, 16) := ⟨⟨by decide +kernel, by decide +kernel⟩, List.mem_of_getElem? (i := 70) (by decide +kernel), List.mem_of_getElem? (i := 428) (by decide +kernel), List.mem_of_getElem? (i := 429) (by decide +kernel)⟩
theorem lw_p13 : lw_okq (⟨"DeedHands$Run", "nearest", "(I)I"⟩, 16) := ⟨⟨by decide +kernel, by decide +kernel⟩, List.mem_of_getElem? (i := 70) (by decide +kernel), List.mem_of_getElem? (i := 444) (by decide +kernel), List.mem_of_getElem? (i := 445) (by decide +kernel)⟩
theorem lw_p14 : lw_okq (⟨"DeedHands$Run", "ask", "(II)V"⟩, 16) := ⟨⟨by decide +kernel, by decide +kernel⟩, List.mem_of_getElem? (i := 70) (by decide +kernel), List.mem_of_getElem? (i := 448) (by decide +kernel), List.mem_of_getElem? (i := 449) (by decide +kernel)⟩
theorem lw_p15 : lw_okq (⟨"DeedHands$Written", "addsTo", "(I)Z"⟩, 4) := ⟨⟨by decide +kernel, by decide +kernel⟩, List.mem_of_getElem? (i := 167) (by decide +kernel), List.mem_of_getElem? (i := 480) (by decide +kernel), List.mem_of_getElem? (i := 481) (by decide +kernel)⟩
def lw_privs_1 : List (MethodName × Nat) := [(⟨"DeedHands$Pad", "depthOfNext", "(I)I"⟩, 3), (⟨"DeedHands", "becomes", "(IZ)I"⟩, 7), (⟨"DeedHands$Book", "behind", "(I)I"⟩, 3), (⟨"DeedHands$Run", "enter", "(IIII)V"⟩, 16), (⟨"DeedHands$Run", "begin", "()V"⟩, 16), (⟨"DeedHands$Calls", "stands", "(I)Z"⟩, 4), (⟨"DeedHands$Run", "give", "(I)V"⟩, 16), (⟨"DeedHands$Waiting", "make", "(II)Z"⟩, 4), (⟨"DeedHands$Run", "takeUp", "()V"⟩, 16), (⟨"DeedHands$Waiting", "stands", "(I)Z"⟩, 4), (⟨"DeedHands$Run", "choose", "()V"⟩, 16), (⟨"DeedHands$Run", "comeBack", "(I)V"⟩, 16), (⟨"DeedHands$Run", "goOn", "()V"⟩, 16), (⟨"DeedHands$Run", "nearest", "(I)I"⟩, 16), (⟨"DeedHands$Run", "ask", "(II)V"⟩, 16), (⟨"DeedHands$Written", "addsTo", "(I)Z"⟩, 4)]
theorem lw_r1 : ∀ q ∈ lw_privs_1, lw_okq q := List.forall_mem_cons.mpr ⟨lw_p0, List.forall_mem_cons.mpr ⟨lw_p1, List.forall_mem_cons.mpr ⟨lw_p2, List.forall_mem_cons.mpr ⟨lw_p3, List.forall_mem_cons.mpr ⟨lw_p4, List.forall_mem_cons.mpr ⟨lw_p5, List.forall_mem_cons.mpr ⟨lw_p6, List.forall_mem_cons.mpr ⟨lw_p7, List.forall_mem_cons.mpr ⟨lw_p8, List.forall_mem_cons.mpr ⟨lw_p9, List.forall_mem_cons.mpr ⟨lw_p10, List.forall_mem_cons.mpr ⟨lw_p11, List.forall_mem_cons.mpr ⟨lw_p12, List.forall_mem_cons.mpr ⟨lw_p13, List.forall_mem_cons.mpr ⟨lw_p14, List.forall_mem_cons.mpr ⟨lw_p15, fun _ h => absurd h List.not_mem_nil⟩⟩⟩⟩⟩⟩⟩⟩⟩⟩⟩⟩⟩⟩⟩⟩
theorem lw_p16 : lw_okq (⟨"DeedHands$Written", "asksOf", "(I)I"⟩, 4) := ⟨⟨by decide +kernel, by decide +kernel⟩, List.mem_of_getElem? (i := 167) (by decide +kernel), List.mem_of_getElem? (i := 486) (by decide +kernel), List.mem_of_getElem? (i := 487) (by decide +kernel)⟩
theorem lw_p17 : lw_okq (⟨"DeedHands$Written", "asked", "(I)I"⟩, 4) := ⟨⟨by decide +kernel, by decide +kernel⟩, List.mem_of_getElem? (i := 167) (by decide +kernel), List.mem_of_getElem? (i := 493) (by decide +kernel), List.mem_of_getElem? (i := 494) (by decide +kernel)⟩
theorem lw_p18 : lw_okq (⟨"DeedHands$Written", "whatGoesOn", "(I)I"⟩, 4) := ⟨⟨by decide +kernel, by decide +kernel⟩, List.mem_of_getElem? (i := 167) (by decide +kernel), List.mem_of_getElem? (i := 498) (by decide +kernel), List.mem_of_getElem? (i := 499) (by decide +kernel)⟩
theorem lw_p19 : lw_okq (⟨"DeedHands$Written", "pastHand", "(II)I"⟩, 4) := ⟨⟨by decide +kernel, by decide +kernel⟩, List.mem_of_getElem? (i := 167) (by decide +kernel), List.mem_of_getElem? (i := 503) (by decide +kernel), List.mem_of_getElem? (i := 504) (by decide +kernel)⟩
theorem lw_p20 : lw_okq (⟨"DeedHands", "isClause", "(II)Z"⟩, 7) := ⟨⟨by decide +kernel, by decide +kernel⟩, List.mem_of_getElem? (i := 12) (by decide +kernel), List.mem_of_getElem? (i := 509) (by decide +kernel), List.mem_of_getElem? (i := 510) (by decide +kernel)⟩
theorem lw_p21 : lw_okq (⟨"DeedHands$Written", "goingsOf", "(I)I"⟩, 4) := ⟨⟨by decide +kernel, by decide +kernel⟩, List.mem_of_getElem? (i := 167) (by decide +kernel), List.mem_of_getElem? (i := 521) (by decide +kernel), List.mem_of_getElem? (i := 522) (by decide +kernel)⟩
theorem lw_p22 : lw_okq (⟨"DeedHands$Written", "counted", "(I)I"⟩, 4) := ⟨⟨by decide +kernel, by decide +kernel⟩, List.mem_of_getElem? (i := 167) (by decide +kernel), List.mem_of_getElem? (i := 525) (by decide +kernel), List.mem_of_getElem? (i := 526) (by decide +kernel)⟩
theorem lw_p23 : lw_okq (⟨"DeedHands", "goThrough", "(IIIII)I"⟩, 7) := ⟨⟨by decide +kernel, by decide +kernel⟩, List.mem_of_getElem? (i := 12) (by decide +kernel), List.mem_of_getElem? (i := 539) (by decide +kernel), List.mem_of_getElem? (i := 540) (by decide +kernel)⟩
theorem lw_p24 : lw_okq (⟨"DeedHands", "differ", "(IIIII)Z"⟩, 7) := ⟨⟨by decide +kernel, by decide +kernel⟩, List.mem_of_getElem? (i := 12) (by decide +kernel), List.mem_of_getElem? (i := 566) (by decide +kernel), List.mem_of_getElem? (i := 567) (by decide +kernel)⟩
theorem lw_p25 : lw_okq (⟨"DeedHandsModel", "faultOf", "(Z)I"⟩, 44) := ⟨⟨by decide +kernel, by decide +kernel⟩, List.mem_of_getElem? (i := 578) (by decide +kernel), List.mem_of_getElem? (i := 732) (by decide +kernel), List.mem_of_getElem? (i := 733) (by decide +kernel)⟩
theorem lw_p26 : lw_okq (⟨"DeedHandsModel", "keep", "(I)I"⟩, 44) := ⟨⟨by decide +kernel, by decide +kernel⟩, List.mem_of_getElem? (i := 578) (by decide +kernel), List.mem_of_getElem? (i := 746) (by decide +kernel), List.mem_of_getElem? (i := 747) (by decide +kernel)⟩
theorem lw_p27 : lw_okq (⟨"DeedHandsModel", "hasClause", "(II)Z"⟩, 44) := ⟨⟨by decide +kernel, by decide +kernel⟩, List.mem_of_getElem? (i := 578) (by decide +kernel), List.mem_of_getElem? (i := 765) (by decide +kernel), List.mem_of_getElem? (i := 766) (by decide +kernel)⟩
theorem lw_p28 : lw_okq (⟨"DeedHandsModel", "giveReplies", "()V"⟩, 44) := ⟨⟨by decide +kernel, by decide +kernel⟩, List.mem_of_getElem? (i := 578) (by decide +kernel), List.mem_of_getElem? (i := 781) (by decide +kernel), List.mem_of_getElem? (i := 782) (by decide +kernel)⟩
theorem lw_p29 : lw_okq (⟨"DeedHandsModel", "end", "(II)I"⟩, 44) := ⟨⟨by decide +kernel, by decide +kernel⟩, List.mem_of_getElem? (i := 578) (by decide +kernel), List.mem_of_getElem? (i := 785) (by decide +kernel), List.mem_of_getElem? (i := 786) (by decide +kernel)⟩
theorem lw_p30 : lw_okq (⟨"DeedHandsModel", "begin", "()V"⟩, 44) := ⟨⟨by decide +kernel, by decide +kernel⟩, List.mem_of_getElem? (i := 578) (by decide +kernel), List.mem_of_getElem? (i := 789) (by decide +kernel), List.mem_of_getElem? (i := 790) (by decide +kernel)⟩
theorem lw_p31 : lw_okq (⟨"DeedHandsModel", "lay", "(II)V"⟩, 44) := ⟨⟨by decide +kernel, by decide +kernel⟩, List.mem_of_getElem? (i := 578) (by decide +kernel), List.mem_of_getElem? (i := 793) (by decide +kernel), List.mem_of_getElem? (i := 794) (by decide +kernel)⟩
def lw_privs_2 : List (MethodName × Nat) := [(⟨"DeedHands$Written", "asksOf", "(I)I"⟩, 4), (⟨"DeedHands$Written", "asked", "(I)I"⟩, 4), (⟨"DeedHands$Written", "whatGoesOn", "(I)I"⟩, 4), (⟨"DeedHands$Written", "pastHand", "(II)I"⟩, 4), (⟨"DeedHands", "isClause", "(II)Z"⟩, 7), (⟨"DeedHands$Written", "goingsOf", "(I)I"⟩, 4), (⟨"DeedHands$Written", "counted", "(I)I"⟩, 4), (⟨"DeedHands", "goThrough", "(IIIII)I"⟩, 7), (⟨"DeedHands", "differ", "(IIIII)Z"⟩, 7), (⟨"DeedHandsModel", "faultOf", "(Z)I"⟩, 44), (⟨"DeedHandsModel", "keep", "(I)I"⟩, 44), (⟨"DeedHandsModel", "hasClause", "(II)Z"⟩, 44), (⟨"DeedHandsModel", "giveReplies", "()V"⟩, 44), (⟨"DeedHandsModel", "end", "(II)I"⟩, 44), (⟨"DeedHandsModel", "begin", "()V"⟩, 44), (⟨"DeedHandsModel", "lay", "(II)V"⟩, 44)]
theorem lw_r2 : ∀ q ∈ lw_privs_2, lw_okq q := List.forall_mem_cons.mpr ⟨lw_p16, List.forall_mem_cons.mpr ⟨lw_p17, List.forall_mem_cons.mpr ⟨lw_p18, List.forall_mem_cons.mpr ⟨lw_p19, List.forall_mem_cons.mpr ⟨lw_p20, List.forall_mem_cons.mpr ⟨lw_p21, List.forall_mem_cons.mpr ⟨lw_p22, List.forall_mem_cons.mpr ⟨lw_p23, List.forall_mem_cons.mpr ⟨lw_p24, List.forall_mem_cons.mpr ⟨lw_p25, List.forall_mem_cons.mpr ⟨lw_p26, List.forall_mem_cons.mpr ⟨lw_p27, List.forall_mem_cons.mpr ⟨lw_p28, List.forall_mem_cons.mpr ⟨lw_p29, List.forall_mem_cons.mpr ⟨lw_p30, List.forall_mem_cons.mpr ⟨lw_p31, fun _ h => absurd h List.not_mem_nil⟩⟩⟩⟩⟩⟩⟩⟩⟩⟩⟩⟩⟩⟩⟩⟩
theorem lw_p32 : lw_okq (⟨"DeedHandsModel", "wait", "(IIIII)V"⟩, 44) := ⟨⟨by decide +kernel, by decide +kernel⟩, List.mem_of_getElem? (i := 578) (by decide +kernel), List.mem_of_getElem? (i := 797) (by decide +kernel), List.mem_of_getElem? (i := 798) (by decide +kernel)⟩
theorem lw_p33 : lw_okq (⟨"DeedHandsModel", "leave", "()V"⟩, 44) := ⟨⟨by decide +kernel, by decide +kernel⟩, List.mem_of_getElem? (i := 578) (by decide +kernel), List.mem_of_getElem? (i := 801) (by decide +kernel), List.mem_of_getElem? (i := 802) (by decide +kernel)⟩
theorem lw_p34 : lw_okq (⟨"DeedHandsModel", "work", "(III)V"⟩, 44) := ⟨⟨by decide +kernel, by decide +kernel⟩, List.mem_of_getElem? (i := 578) (by decide +kernel), List.mem_of_getElem? (i := 805) (by decide +kernel), List.mem_of_getElem? (i := 806) (by decide +kernel)⟩
theorem lw_p35 : lw_okq (⟨"DeedHandsModel", "come", "()V"⟩, 44) := ⟨⟨by decide +kernel, by decide +kernel⟩, List.mem_of_getElem? (i := 578) (by decide +kernel), List.mem_of_getElem? (i := 809) (by decide +kernel), List.mem_of_getElem? (i := 810) (by decide +kernel)⟩
theorem lw_p36 : lw_okq (⟨"DeedHandsModel", "partOf", "(II)I"⟩, 44) := ⟨⟨by decide +kernel, by decide +kernel⟩, List.mem_of_getElem? (i := 578) (by decide +kernel), List.mem_of_getElem? (i := 813) (by decide +kernel), List.mem_of_getElem? (i := 814) (by decide +kernel)⟩
theorem lw_p37 : lw_okq (⟨"DeedHandsModel", "goOn", "(I)V"⟩, 44) := ⟨⟨by decide +kernel, by decide +kernel⟩, List.mem_of_getElem? (i := 578) (by decide +kernel), List.mem_of_getElem? (i := 817) (by decide +kernel), List.mem_of_getElem? (i := 818) (by decide +kernel)⟩
theorem lw_p38 : lw_okq (⟨"DeedHandsModel", "ask", "(I)V"⟩, 44) := ⟨⟨by decide +kernel, by decide +kernel⟩, List.mem_of_getElem? (i := 578) (by decide +kernel), List.mem_of_getElem? (i := 821) (by decide +kernel), List.mem_of_getElem? (i := 822) (by decide +kernel)⟩
theorem lw_p39 : lw_okq (⟨"DeedHandsModel", "layMay", "()V"⟩, 44) := ⟨⟨by decide +kernel, by decide +kernel⟩, List.mem_of_getElem? (i := 578) (by decide +kernel), List.mem_of_getElem? (i := 836) (by decide +kernel), List.mem_of_getElem? (i := 837) (by decide +kernel)⟩
theorem lw_p40 : lw_okq (⟨"DeedHandsModel", "mayOf", "(I)I"⟩, 44) := ⟨⟨by decide +kernel, by decide +kernel⟩, List.mem_of_getElem? (i := 578) (by decide +kernel), List.mem_of_getElem? (i := 840) (by decide +kernel), List.mem_of_getElem? (i := 841) (by decide +kernel)⟩
theorem lw_p41 : lw_okq (⟨"DeedHandsModel", "giveRow", "(III)V"⟩, 44) := ⟨⟨by decide +kernel, by decide +kernel⟩, List.mem_of_getElem? (i := 578) (by decide +kernel), List.mem_of_getElem? (i := 858) (by decide +kernel), List.mem_of_getElem? (i := 859) (by decide +kernel)⟩
def lw_privs_3 : List (MethodName × Nat) := [(⟨"DeedHandsModel", "wait", "(IIIII)V"⟩, 44), (⟨"DeedHandsModel", "leave", "()V"⟩, 44), (⟨"DeedHandsModel", "work", "(III)V"⟩, 44), (⟨"DeedHandsModel", "come", "()V"⟩, 44), (⟨"DeedHandsModel", "partOf", "(II)I"⟩, 44), (⟨"DeedHandsModel", "goOn", "(I)V"⟩, 44), (⟨"DeedHandsModel", "ask", "(I)V"⟩, 44), (⟨"DeedHandsModel", "layMay", "()V"⟩, 44), (⟨"DeedHandsModel", "mayOf", "(I)I"⟩, 44), (⟨"DeedHandsModel", "giveRow", "(III)V"⟩, 44)]
theorem lw_r3 : ∀ q ∈ lw_privs_3, lw_okq q := List.forall_mem_cons.mpr ⟨lw_p32, List.forall_mem_cons.mpr ⟨lw_p33, List.forall_mem_cons.mpr ⟨lw_p34, List.forall_mem_cons.mpr ⟨lw_p35, List.forall_mem_cons.mpr ⟨lw_p36, List.forall_mem_cons.mpr ⟨lw_p37, List.forall_mem_cons.mpr ⟨lw_p38, List.forall_mem_cons.mpr ⟨lw_p39, List.forall_mem_cons.mpr ⟨lw_p40, List.forall_mem_cons.mpr ⟨lw_p41, fun _ h => absurd h List.not_mem_nil⟩⟩⟩⟩⟩⟩⟩⟩⟩⟩
def lw_privs : List (MethodName × Nat) := lw_privs_1 ++ (lw_privs_2 ++ (lw_privs_3))
def lw_tbl : List Cond := k2_sels lw_privs ++ tables_1
theorem lw_privs_ok : ∀ q ∈ lw_privs, lw_okq q := by
  show ∀ q ∈ lw_privs_1 ++ (lw_privs_2 ++ (lw_privs_3)), lw_okq q
  exact List.forall_mem_append.mpr ⟨lw_r1, List.forall_mem_append.mpr ⟨lw_r2, lw_r3⟩⟩
end
section
def RX0 : String := "DeedHands$Book"
def TX0 : u_T := fun k => match k with
  | 0 => ("DeedHands$Book", "signs", "[I", true)
  | 1 => ("DeedHands$Book", "afters", "[I", true)
  | _ => ("DeedHands$Book", "sizes", "[I", true)
def tyX0 : Nat → FieldType := fun k => match k with
  | 0 => .array .int
  | 1 => .array .int
  | _ => .array .int
abbrev wsX00 : List Cond := u_ws RX0 TX0 3
theorem nmX0 : ∀ a, a < 3 → ∀ b, b < 3 → a ≠ b → (TX0 a).2.1 ≠ (TX0 b).2.1 := by decide +kernel
theorem tyX0_ok : ∀ k, k < 3 → parseFieldDescriptor (TX0 k).2.2.1 = some (tyX0 k) := by decide +kernel
abbrev cX0_init : ByteArray := prog_2_method_1_code
def yX0_init : MethodName := ⟨RX0, "<init>", "()V"⟩
abbrev cX0_size : ByteArray := prog_2_method_2_code
def yX0_size : MethodName := ⟨RX0, "size", "(I)I"⟩
abbrev cX0_clear : ByteArray := prog_2_method_3_code
def yX0_clear : MethodName := ⟨RX0, "clear", "(I)V"⟩
abbrev cX0_writeNought : ByteArray := prog_2_method_4_code
def yX0_writeNought : MethodName := ⟨RX0, "writeNought", "(I)V"⟩
abbrev cX0_write : ByteArray := prog_2_method_5_code
def yX0_write : MethodName := ⟨RX0, "write", "(ILDeedHands$Pad;)V"⟩
abbrev cX0_behind : ByteArray := prog_2_method_6_code
def yX0_behind : MethodName := ⟨RX0, "behind", "(I)I"⟩
abbrev cX0_sign : ByteArray := prog_2_method_7_code
def yX0_sign : MethodName := ⟨RX0, "sign", "(I)I"⟩
abbrev cX0_after : ByteArray := prog_2_method_8_code
def yX0_after : MethodName := ⟨RX0, "after", "(I)I"⟩
abbrev cX0_first : ByteArray := prog_2_method_9_code
def yX0_first : MethodName := ⟨RX0, "first", "(I)I"⟩
abbrev cX0_hand : ByteArray := prog_2_method_10_code
def yX0_hand : MethodName := ⟨RX0, "hand", "(I)I"⟩
abbrev cX0_clauses : ByteArray := prog_2_method_11_code
def yX0_clauses : MethodName := ⟨RX0, "clauses", "(I)I"⟩
def RX1 : String := "DeedHands$Calls"
def TX1 : u_T := fun k => match k with
  | 0 => ("DeedHands$Calls", "arguments", "[I", true)
  | 1 => ("DeedHands$Calls", "keptTops", "[I", true)
  | 2 => ("DeedHands$Calls", "keptHands", "[I", true)
  | _ => ("DeedHands$Calls", "made", "I", false)
def tyX1 : Nat → FieldType := fun k => match k with
  | 0 => .array .int
  | 1 => .array .int
  | 2 => .array .int
  | _ => .int
abbrev wsX10 : List Cond := u_ws RX1 TX1 4
theorem nmX1 : ∀ a, a < 4 → ∀ b, b < 4 → a ≠ b → (TX1 a).2.1 ≠ (TX1 b).2.1 := by decide +kernel
theorem tyX1_ok : ∀ k, k < 4 → parseFieldDescriptor (TX1 k).2.2.1 = some (tyX1 k) := by decide +kernel
abbrev cX1_init : ByteArray := prog_3_method_1_code
def yX1_init : MethodName := ⟨RX1, "<init>", "()V"⟩
abbrev cX1_stands : ByteArray := prog_3_method_2_code
def yX1_stands : MethodName := ⟨RX1, "stands", "(I)Z"⟩
abbrev cX1_enter : ByteArray := prog_3_method_3_code
def yX1_enter : MethodName := ⟨RX1, "enter", "(III)I"⟩
abbrev cX1_argument : ByteArray := prog_3_method_4_code
def yX1_argument : MethodName := ⟨RX1, "argument", "(I)I"⟩
abbrev cX1_keptTop : ByteArray := prog_3_method_5_code
def yX1_keptTop : MethodName := ⟨RX1, "keptTop", "(I)I"⟩
abbrev cX1_keptHand : ByteArray := prog_3_method_6_code
def yX1_keptHand : MethodName := ⟨RX1, "keptHand", "(I)I"⟩
def RX2 : String := "DeedHands$Pad"
def TX2 : u_T := fun k => match k with
  | 0 => ("DeedHands$Pad", "signs", "[I", true)
  | 1 => ("DeedHands$Pad", "due", "[I", true)
  | _ => ("DeedHands$Pad", "size", "I", false)
def tyX2 : Nat → FieldType := fun k => match k with
  | 0 => .array .int
  | 1 => .array .int
  | _ => .int
abbrev wsX20 : List Cond := u_ws RX2 TX2 3
theorem nmX2 : ∀ a, a < 3 → ∀ b, b < 3 → a ≠ b → (TX2 a).2.1 ≠ (TX2 b).2.1 := by decide +kernel
theorem tyX2_ok : ∀ k, k < 3 → parseFieldDescriptor (TX2 k).2.2.1 = some (tyX2 k) := by decide +kernel
abbrev cX2_init : ByteArray := prog_4_method_1_code
def yX2_init : MethodName := ⟨RX2, "<init>", "()V"⟩
abbrev cX2_add : ByteArray := prog_4_method_2_code
def yX2_add : MethodName := ⟨RX2, "add", "(I)Z"⟩
abbrev cX2_sign : ByteArray := prog_4_method_3_code
def yX2_sign : MethodName := ⟨RX2, "sign", "(I)I"⟩
abbrev cX2_firstFault : ByteArray := prog_4_method_4_code
def yX2_firstFault : MethodName := ⟨RX2, "firstFault", "(Z)I"⟩
abbrev cX2_canStand : ByteArray := prog_4_method_5_code
def yX2_canStand : MethodName := ⟨RX2, "canStand", "(IIZ)Z"⟩
abbrev cX2_isHandSign : ByteArray := prog_4_method_6_code
def yX2_isHandSign : MethodName := ⟨RX2, "isHandSign", "(I)Z"⟩
abbrev cX2_depthOfNext : ByteArray := prog_4_method_7_code
def yX2_depthOfNext : MethodName := ⟨RX2, "depthOfNext", "(I)I"⟩
def RX3 : String := "DeedHands$Row"
def TX3 : u_T := fun k => match k with
  | 0 => ("DeedHands$Row", "values", "[I", true)
  | _ => ("DeedHands$Row", "count", "I", false)
def tyX3 : Nat → FieldType := fun k => match k with
  | 0 => .array .int
  | _ => .int
abbrev wsX30 : List Cond := u_ws RX3 TX3 2
theorem nmX3 : ∀ a, a < 2 → ∀ b, b < 2 → a ≠ b → (TX3 a).2.1 ≠ (TX3 b).2.1 := by decide +kernel
theorem tyX3_ok : ∀ k, k < 2 → parseFieldDescriptor (TX3 k).2.2.1 = some (tyX3 k) := by decide +kernel
abbrev cX3_init : ByteArray := prog_5_method_1_code
def yX3_init : MethodName := ⟨RX3, "<init>", "()V"⟩
abbrev cX3_start : ByteArray := prog_5_method_2_code
def yX3_start : MethodName := ⟨RX3, "start", "(I)V"⟩
abbrev cX3_add : ByteArray := prog_5_method_3_code
def yX3_add : MethodName := ⟨RX3, "add", "(I)Z"⟩
abbrev cX3_value : ByteArray := prog_5_method_4_code
def yX3_value : MethodName := ⟨RX3, "value", "(I)I"⟩
abbrev cX3_take : ByteArray := prog_5_method_5_code
def yX3_take : MethodName := ⟨RX3, "take", "(LDeedHands$Row;I)V"⟩
abbrev cX3_tell : ByteArray := prog_5_method_6_code
def yX3_tell : MethodName := ⟨RX3, "tell", "(I)I"⟩
abbrev cX3_next : ByteArray := prog_5_method_7_code
def yX3_next : MethodName := ⟨RX3, "next", "(II)Z"⟩
def RX4 : String := "DeedHands$Run"
def TX4 : u_T := fun k => match k with
  | 0 => ("DeedHands$Run", "book", "LDeedHands$Book;", true)
  | 1 => ("DeedHands$Run", "waiting", "LDeedHands$Waiting;", true)
  | 2 => ("DeedHands$Run", "calls", "LDeedHands$Calls;", true)
  | 3 => ("DeedHands$Run", "answers", "[I", true)
  | 4 => ("DeedHands$Run", "replies", "LDeedHands$Row;", false)
  | 5 => ("DeedHands$Run", "begins", "Z", false)
  | 6 => ("DeedHands$Run", "place", "I", false)
  | 7 => ("DeedHands$Run", "call", "I", false)
  | 8 => ("DeedHands$Run", "carried", "I", false)
  | 9 => ("DeedHands$Run", "end", "I", false)
  | 10 => ("DeedHands$Run", "steps", "I", false)
  | 11 => ("DeedHands$Run", "used", "I", false)
  | 12 => ("DeedHands$Run", "deed", "I", false)
  | 13 => ("DeedHands$Run", "value", "I", false)
  | 14 => ("DeedHands$Run", "goings", "I", false)
  | _ => ("DeedHands$Run", "askings", "I", false)
def tyX4 : Nat → FieldType := fun k => match k with
  | 0 => .object "DeedHands$Book"
  | 1 => .object "DeedHands$Waiting"
  | 2 => .object "DeedHands$Calls"
  | 3 => .array .int
  | 4 => .object "DeedHands$Row"
  | 5 => .boolean
  | 6 => .int
  | 7 => .int
  | 8 => .int
  | 9 => .int
  | 10 => .int
  | 11 => .int
  | 12 => .int
  | 13 => .int
  | 14 => .int
  | _ => .int
abbrev wsX40 : List Cond := u_ws RX4 TX4 16
theorem nmX4 : ∀ a, a < 16 → ∀ b, b < 16 → a ≠ b → (TX4 a).2.1 ≠ (TX4 b).2.1 := by decide +kernel
theorem tyX4_ok : ∀ k, k < 16 → parseFieldDescriptor (TX4 k).2.2.1 = some (tyX4 k) := by decide +kernel
abbrev cX4_init : ByteArray := prog_6_method_1_code
def yX4_init : MethodName := ⟨RX4, "<init>", "(LDeedHands$Book;LDeedHands$Row;)V"⟩
abbrev cX4_work : ByteArray := prog_6_method_2_code
def yX4_work : MethodName := ⟨RX4, "work", "(IILDeedHands$Row;)V"⟩
abbrev cX4_tell : ByteArray := prog_6_method_3_code
def yX4_tell : MethodName := ⟨RX4, "tell", "(I)I"⟩
abbrev cX4_answerer : ByteArray := prog_6_method_4_code
def yX4_answerer : MethodName := ⟨RX4, "answerer", "(I)I"⟩
abbrev cX4_doing : ByteArray := prog_6_method_5_code
def yX4_doing : MethodName := ⟨RX4, "doing", "()I"⟩
abbrev cX4_enter : ByteArray := prog_6_method_6_code
def yX4_enter : MethodName := ⟨RX4, "enter", "(IIII)V"⟩
abbrev cX4_give : ByteArray := prog_6_method_7_code
def yX4_give : MethodName := ⟨RX4, "give", "(I)V"⟩
abbrev cX4_begin : ByteArray := prog_6_method_8_code
def yX4_begin : MethodName := ⟨RX4, "begin", "()V"⟩
abbrev cX4_takeUp : ByteArray := prog_6_method_9_code
def yX4_takeUp : MethodName := ⟨RX4, "takeUp", "()V"⟩
abbrev cX4_act : ByteArray := prog_6_method_10_code
def yX4_act : MethodName := ⟨RX4, "act", "(III)I"⟩
abbrev cX4_choose : ByteArray := prog_6_method_11_code
def yX4_choose : MethodName := ⟨RX4, "choose", "()V"⟩
abbrev cX4_comeBack : ByteArray := prog_6_method_12_code
def yX4_comeBack : MethodName := ⟨RX4, "comeBack", "(I)V"⟩
abbrev cX4_goOn : ByteArray := prog_6_method_13_code
def yX4_goOn : MethodName := ⟨RX4, "goOn", "()V"⟩
abbrev cX4_ask : ByteArray := prog_6_method_14_code
def yX4_ask : MethodName := ⟨RX4, "ask", "(II)V"⟩
abbrev cX4_nearest : ByteArray := prog_6_method_15_code
def yX4_nearest : MethodName := ⟨RX4, "nearest", "(I)I"⟩
def RX5 : String := "DeedHands$Waiting"
def TX5 : u_T := fun k => match k with
  | 0 => ("DeedHands$Waiting", "marks", "[I", true)
  | 1 => ("DeedHands$Waiting", "belows", "[I", true)
  | 2 => ("DeedHands$Waiting", "made", "I", false)
  | _ => ("DeedHands$Waiting", "top", "I", false)
def tyX5 : Nat → FieldType := fun k => match k with
  | 0 => .array .int
  | 1 => .array .int
  | 2 => .int
  | _ => .int
abbrev wsX50 : List Cond := u_ws RX5 TX5 4
theorem nmX5 : ∀ a, a < 4 → ∀ b, b < 4 → a ≠ b → (TX5 a).2.1 ≠ (TX5 b).2.1 := by decide +kernel
theorem tyX5_ok : ∀ k, k < 4 → parseFieldDescriptor (TX5 k).2.2.1 = some (tyX5 k) := by decide +kernel
abbrev cX5_init : ByteArray := prog_7_method_1_code
def yX5_init : MethodName := ⟨RX5, "<init>", "()V"⟩
abbrev cX5_clear : ByteArray := prog_7_method_2_code
def yX5_clear : MethodName := ⟨RX5, "clear", "()V"⟩
abbrev cX5_stands : ByteArray := prog_7_method_3_code
def yX5_stands : MethodName := ⟨RX5, "stands", "(I)Z"⟩
abbrev cX5_place : ByteArray := prog_7_method_4_code
def yX5_place : MethodName := ⟨RX5, "place", "(I)I"⟩
abbrev cX5_call : ByteArray := prog_7_method_5_code
def yX5_call : MethodName := ⟨RX5, "call", "(I)I"⟩
abbrev cX5_below : ByteArray := prog_7_method_6_code
def yX5_below : MethodName := ⟨RX5, "below", "(I)I"⟩
abbrev cX5_held : ByteArray := prog_7_method_7_code
def yX5_held : MethodName := ⟨RX5, "held", "(I)I"⟩
abbrev cX5_hold : ByteArray := prog_7_method_8_code
def yX5_hold : MethodName := ⟨RX5, "hold", "(II)V"⟩
abbrev cX5_push : ByteArray := prog_7_method_9_code
def yX5_push : MethodName := ⟨RX5, "push", "(II)Z"⟩
abbrev cX5_make : ByteArray := prog_7_method_10_code
def yX5_make : MethodName := ⟨RX5, "make", "(II)Z"⟩
abbrev cX5_layDown : ByteArray := prog_7_method_11_code
def yX5_layDown : MethodName := ⟨RX5, "layDown", "(II)Z"⟩
def RX6 : String := "DeedHands$Written"
def TX6 : u_T := fun k => match k with
  | 0 => ("DeedHands$Written", "book", "LDeedHands$Book;", true)
  | 1 => ("DeedHands$Written", "asks", "[I", true)
  | 2 => ("DeedHands$Written", "counts", "[I", true)
  | _ => ("DeedHands$Written", "within", "[I", true)
def tyX6 : Nat → FieldType := fun k => match k with
  | 0 => .object "DeedHands$Book"
  | 1 => .array .int
  | 2 => .array .int
  | _ => .array .int
abbrev wsX60 : List Cond := u_ws RX6 TX6 4
theorem nmX6 : ∀ a, a < 4 → ∀ b, b < 4 → a ≠ b → (TX6 a).2.1 ≠ (TX6 b).2.1 := by decide +kernel
theorem tyX6_ok : ∀ k, k < 4 → parseFieldDescriptor (TX6 k).2.2.1 = some (tyX6 k) := by decide +kernel
abbrev cX6_init : ByteArray := prog_8_method_1_code
def yX6_init : MethodName := ⟨RX6, "<init>", "(LDeedHands$Book;)V"⟩
abbrev cX6_beyond : ByteArray := prog_8_method_2_code
def yX6_beyond : MethodName := ⟨RX6, "beyond", "(I)I"⟩
abbrev cX6_addsTo : ByteArray := prog_8_method_3_code
def yX6_addsTo : MethodName := ⟨RX6, "addsTo", "(I)Z"⟩
abbrev cX6_asked : ByteArray := prog_8_method_4_code
def yX6_asked : MethodName := ⟨RX6, "asked", "(I)I"⟩
abbrev cX6_asksOf : ByteArray := prog_8_method_5_code
def yX6_asksOf : MethodName := ⟨RX6, "asksOf", "(I)I"⟩
abbrev cX6_whatGoesOn : ByteArray := prog_8_method_6_code
def yX6_whatGoesOn : MethodName := ⟨RX6, "whatGoesOn", "(I)I"⟩
abbrev cX6_pastHand : ByteArray := prog_8_method_7_code
def yX6_pastHand : MethodName := ⟨RX6, "pastHand", "(II)I"⟩
abbrev cX6_goings : ByteArray := prog_8_method_8_code
def yX6_goings : MethodName := ⟨RX6, "goings", "(I)I"⟩
abbrev cX6_counted : ByteArray := prog_8_method_9_code
def yX6_counted : MethodName := ⟨RX6, "counted", "(I)I"⟩
abbrev cX6_goingsOf : ByteArray := prog_8_method_10_code
def yX6_goingsOf : MethodName := ⟨RX6, "goingsOf", "(I)I"⟩
def RX7 : String := "DeedHands"
def TX7 : u_T := fun k => match k with
  | 0 => ("DeedHands", "pad", "LDeedHands$Pad;", true)
  | 1 => ("DeedHands", "book", "LDeedHands$Book;", true)
  | 2 => ("DeedHands", "replies", "LDeedHands$Row;", true)
  | 3 => ("DeedHands", "trial", "LDeedHands$Row;", true)
  | 4 => ("DeedHands", "found", "LDeedHands$Row;", true)
  | 5 => ("DeedHands", "worked", "LDeedHands$Run;", true)
  | _ => ("DeedHands", "written", "LDeedHands$Written;", true)
def tyX7 : Nat → FieldType := fun k => match k with
  | 0 => .object "DeedHands$Pad"
  | 1 => .object "DeedHands$Book"
  | 2 => .object "DeedHands$Row"
  | 3 => .object "DeedHands$Row"
  | 4 => .object "DeedHands$Row"
  | 5 => .object "DeedHands$Run"
  | _ => .object "DeedHands$Written"
abbrev wsX70 : List Cond := u_ws RX7 TX7 7
theorem nmX7 : ∀ a, a < 7 → ∀ b, b < 7 → a ≠ b → (TX7 a).2.1 ≠ (TX7 b).2.1 := by decide +kernel
theorem tyX7_ok : ∀ k, k < 7 → parseFieldDescriptor (TX7 k).2.2.1 = some (tyX7 k) := by decide +kernel
abbrev cX7_init : ByteArray := prog_1_method_1_code
def yX7_init : MethodName := ⟨RX7, "<init>", "()V"⟩
abbrev cX7_say : ByteArray := prog_1_method_2_code
def yX7_say : MethodName := ⟨RX7, "say", "(I)I"⟩
abbrev cX7_wipe : ByteArray := prog_1_method_3_code
def yX7_wipe : MethodName := ⟨RX7, "wipe", "()I"⟩
abbrev cX7_fault : ByteArray := prog_1_method_4_code
def yX7_fault : MethodName := ⟨RX7, "fault", "(I)I"⟩
abbrev cX7_text : ByteArray := prog_1_method_5_code
def yX7_text : MethodName := ⟨RX7, "text", "(I)I"⟩
abbrev cX7_clause : ByteArray := prog_1_method_6_code
def yX7_clause : MethodName := ⟨RX7, "clause", "(II)I"⟩
abbrev cX7_drop : ByteArray := prog_1_method_7_code
def yX7_drop : MethodName := ⟨RX7, "drop", "(II)I"⟩
abbrev cX7_has : ByteArray := prog_1_method_8_code
def yX7_has : MethodName := ⟨RX7, "has", "(I)I"⟩
abbrev cX7_reply : ByteArray := prog_1_method_9_code
def yX7_reply : MethodName := ⟨RX7, "reply", "(I)I"⟩
abbrev cX7_mute : ByteArray := prog_1_method_10_code
def yX7_mute : MethodName := ⟨RX7, "mute", "()I"⟩
abbrev cX7_run : ByteArray := prog_1_method_11_code
def yX7_run : MethodName := ⟨RX7, "run", "(III)I"⟩
abbrev cX7_who : ByteArray := prog_1_method_12_code
def yX7_who : MethodName := ⟨RX7, "who", "(III)I"⟩
abbrev cX7_may : ByteArray := prog_1_method_13_code
def yX7_may : MethodName := ⟨RX7, "may", "(II)I"⟩
abbrev cX7_often : ByteArray := prog_1_method_14_code
def yX7_often : MethodName := ⟨RX7, "often", "(II)I"⟩
abbrev cX7_all : ByteArray := prog_1_method_15_code
def yX7_all : MethodName := ⟨RX7, "all", "(IIII)I"⟩
abbrev cX7_row : ByteArray := prog_1_method_16_code
def yX7_row : MethodName := ⟨RX7, "row", "(IIIIII)I"⟩
abbrev cX7_apart : ByteArray := prog_1_method_17_code
def yX7_apart : MethodName := ⟨RX7, "apart", "(IIIIIII)I"⟩
abbrev cX7_told : ByteArray := prog_1_method_18_code
def yX7_told : MethodName := ⟨RX7, "told", "(I)I"⟩
abbrev cX7_isText : ByteArray := prog_1_method_19_code
def yX7_isText : MethodName := ⟨RX7, "isText", "(I)Z"⟩
abbrev cX7_isNumber : ByteArray := prog_1_method_20_code
def yX7_isNumber : MethodName := ⟨RX7, "isNumber", "(I)Z"⟩
abbrev cX7_isPart : ByteArray := prog_1_method_21_code
def yX7_isPart : MethodName := ⟨RX7, "isPart", "(II)Z"⟩
abbrev cX7_areRows : ByteArray := prog_1_method_22_code
def yX7_areRows : MethodName := ⟨RX7, "areRows", "(II)Z"⟩
abbrev cX7_isClause : ByteArray := prog_1_method_23_code
def yX7_isClause : MethodName := ⟨RX7, "isClause", "(II)Z"⟩
abbrev cX7_pageOf : ByteArray := prog_1_method_24_code
def yX7_pageOf : MethodName := ⟨RX7, "pageOf", "(II)I"⟩
abbrev cX7_textsOf : ByteArray := prog_1_method_25_code
def yX7_textsOf : MethodName := ⟨RX7, "textsOf", "(I)I"⟩
abbrev cX7_becomes : ByteArray := prog_1_method_26_code
def yX7_becomes : MethodName := ⟨RX7, "becomes", "(IZ)I"⟩
abbrev cX7_goThrough : ByteArray := prog_1_method_27_code
def yX7_goThrough : MethodName := ⟨RX7, "goThrough", "(IIIII)I"⟩
abbrev cX7_differ : ByteArray := prog_1_method_28_code
def yX7_differ : MethodName := ⟨RX7, "differ", "(IIIII)Z"⟩
def RX8 : String := "DeedHandsModel"
def TX8 : u_T := fun k => match k with
  | 0 => ("DeedHandsModel", "signs", "I", false)
  | 1 => ("DeedHandsModel", "pad", "[I", true)
  | 2 => ("DeedHandsModel", "many", "[I", true)
  | 3 => ("DeedHandsModel", "sign", "[I", true)
  | 4 => ("DeedHandsModel", "size", "[I", true)
  | 5 => ("DeedHandsModel", "replies", "I", false)
  | 6 => ("DeedHandsModel", "reply", "[I", true)
  | 7 => ("DeedHandsModel", "due", "[I", true)
  | 8 => ("DeedHandsModel", "frames", "I", false)
  | 9 => ("DeedHandsModel", "frameText", "[I", true)
  | 10 => ("DeedHandsModel", "framePart", "[I", true)
  | 11 => ("DeedHandsModel", "frameX", "[I", true)
  | 12 => ("DeedHandsModel", "frameK", "[I", true)
  | 13 => ("DeedHandsModel", "frameValue", "[I", true)
  | 14 => ("DeedHandsModel", "frameNext", "[I", true)
  | 15 => ("DeedHandsModel", "laid", "I", false)
  | 16 => ("DeedHandsModel", "laidHand", "[I", true)
  | 17 => ("DeedHandsModel", "laidFrames", "[I", true)
  | 18 => ("DeedHandsModel", "laidNext", "[I", true)
  | 19 => ("DeedHandsModel", "kept", "I", false)
  | 20 => ("DeedHandsModel", "keptFrames", "[I", true)
  | 21 => ("DeedHandsModel", "keptFrom", "[I", true)
  | 22 => ("DeedHandsModel", "keptTo", "[I", true)
  | 23 => ("DeedHandsModel", "steps", "I", false)
  | 24 => ("DeedHandsModel", "goings", "I", false)
  | 25 => ("DeedHandsModel", "used", "I", false)
  | 26 => ("DeedHandsModel", "asked", "I", false)
  | 27 => ("DeedHandsModel", "endDeed", "I", false)
  | 28 => ("DeedHandsModel", "endValue", "I", false)
  | 29 => ("DeedHandsModel", "asking", "[I", true)
  | 30 => ("DeedHandsModel", "given", "I", false)
  | 31 => ("DeedHandsModel", "gives", "[I", true)
  | 32 => ("DeedHandsModel", "top", "I", false)
  | 33 => ("DeedHandsModel", "hands", "I", false)
  | 34 => ("DeedHandsModel", "pile", "[I", true)
  | 35 => ("DeedHandsModel", "text", "I", false)
  | 36 => ("DeedHandsModel", "x", "I", false)
  | 37 => ("DeedHandsModel", "k", "I", false)
  | 38 => ("DeedHandsModel", "value", "I", false)
  | 39 => ("DeedHandsModel", "over", "I", false)
  | 40 => ("DeedHandsModel", "mayAsk", "[I", true)
  | 41 => ("DeedHandsModel", "beyond", "[I", true)
  | 42 => ("DeedHandsModel", "set", "[I", true)
  | _ => ("DeedHandsModel", "best", "[I", true)
def tyX8 : Nat → FieldType := fun k => match k with
  | 0 => .int
  | 1 => .array .int
  | 2 => .array .int
  | 3 => .array .int
  | 4 => .array .int
  | 5 => .int
  | 6 => .array .int
  | 7 => .array .int
  | 8 => .int
  | 9 => .array .int
  | 10 => .array .int
  | 11 => .array .int
  | 12 => .array .int
  | 13 => .array .int
  | 14 => .array .int
  | 15 => .int
  | 16 => .array .int
  | 17 => .array .int
  | 18 => .array .int
  | 19 => .int
  | 20 => .array .int
  | 21 => .array .int
  | 22 => .array .int
  | 23 => .int
  | 24 => .int
  | 25 => .int
  | 26 => .int
  | 27 => .int
  | 28 => .int
  | 29 => .array .int
  | 30 => .int
  | 31 => .array .int
  | 32 => .int
  | 33 => .int
  | 34 => .array .int
  | 35 => .int
  | 36 => .int
  | 37 => .int
  | 38 => .int
  | 39 => .int
  | 40 => .array .int
  | 41 => .array .int
  | 42 => .array .int
  | _ => .array .int
abbrev wsX80 : List Cond := u_ws RX8 TX8 44
theorem nmX8 : ∀ a, a < 44 → ∀ b, b < 44 → a ≠ b → (TX8 a).2.1 ≠ (TX8 b).2.1 := by decide +kernel
theorem tyX8_ok : ∀ k, k < 44 → parseFieldDescriptor (TX8 k).2.2.1 = some (tyX8 k) := by decide +kernel
abbrev cX8_init : ByteArray := prog_10_method_1_code
def yX8_init : MethodName := ⟨RX8, "<init>", "()V"⟩
abbrev cX8_in : ByteArray := prog_10_method_2_code
def yX8_in : MethodName := ⟨RX8, "in", "(III)Z"⟩
abbrev cX8_isFour : ByteArray := prog_10_method_3_code
def yX8_isFour : MethodName := ⟨RX8, "isFour", "(I)Z"⟩
abbrev cX8_say : ByteArray := prog_10_method_4_code
def yX8_say : MethodName := ⟨RX8, "say", "(I)I"⟩
abbrev cX8_wipe : ByteArray := prog_10_method_5_code
def yX8_wipe : MethodName := ⟨RX8, "wipe", "()I"⟩
abbrev cX8_partsOf : ByteArray := prog_10_method_6_code
def yX8_partsOf : MethodName := ⟨RX8, "partsOf", "(IZ)I"⟩
abbrev cX8_faultOf : ByteArray := prog_10_method_7_code
def yX8_faultOf : MethodName := ⟨RX8, "faultOf", "(Z)I"⟩
abbrev cX8_fault : ByteArray := prog_10_method_8_code
def yX8_fault : MethodName := ⟨RX8, "fault", "(I)I"⟩
abbrev cX8_keep : ByteArray := prog_10_method_9_code
def yX8_keep : MethodName := ⟨RX8, "keep", "(I)I"⟩
abbrev cX8_text : ByteArray := prog_10_method_10_code
def yX8_text : MethodName := ⟨RX8, "text", "(I)I"⟩
abbrev cX8_clauseOf : ByteArray := prog_10_method_11_code
def yX8_clauseOf : MethodName := ⟨RX8, "clauseOf", "(II)I"⟩
abbrev cX8_clause : ByteArray := prog_10_method_12_code
def yX8_clause : MethodName := ⟨RX8, "clause", "(II)I"⟩
abbrev cX8_drop : ByteArray := prog_10_method_13_code
def yX8_drop : MethodName := ⟨RX8, "drop", "(II)I"⟩
abbrev cX8_hasClause : ByteArray := prog_10_method_14_code
def yX8_hasClause : MethodName := ⟨RX8, "hasClause", "(II)Z"⟩
abbrev cX8_has : ByteArray := prog_10_method_15_code
def yX8_has : MethodName := ⟨RX8, "has", "(I)I"⟩
abbrev cX8_reply : ByteArray := prog_10_method_16_code
def yX8_reply : MethodName := ⟨RX8, "reply", "(I)I"⟩
abbrev cX8_mute : ByteArray := prog_10_method_17_code
def yX8_mute : MethodName := ⟨RX8, "mute", "()I"⟩
abbrev cX8_wait : ByteArray := prog_10_method_18_code
def yX8_wait : MethodName := ⟨RX8, "wait", "(IIIII)V"⟩
abbrev cX8_lay : ByteArray := prog_10_method_19_code
def yX8_lay : MethodName := ⟨RX8, "lay", "(II)V"⟩
abbrev cX8_act : ByteArray := prog_10_method_20_code
def yX8_act : MethodName := ⟨RX8, "act", "(III)I"⟩
abbrev cX8_partOf : ByteArray := prog_10_method_21_code
def yX8_partOf : MethodName := ⟨RX8, "partOf", "(II)I"⟩
abbrev cX8_end : ByteArray := prog_10_method_22_code
def yX8_end : MethodName := ⟨RX8, "end", "(II)I"⟩
abbrev cX8_begin : ByteArray := prog_10_method_23_code
def yX8_begin : MethodName := ⟨RX8, "begin", "()V"⟩
abbrev cX8_work : ByteArray := prog_10_method_24_code
def yX8_work : MethodName := ⟨RX8, "work", "(III)V"⟩
abbrev cX8_leave : ByteArray := prog_10_method_25_code
def yX8_leave : MethodName := ⟨RX8, "leave", "()V"⟩
abbrev cX8_come : ByteArray := prog_10_method_26_code
def yX8_come : MethodName := ⟨RX8, "come", "()V"⟩
abbrev cX8_ask : ByteArray := prog_10_method_27_code
def yX8_ask : MethodName := ⟨RX8, "ask", "(I)V"⟩
abbrev cX8_goOn : ByteArray := prog_10_method_28_code
def yX8_goOn : MethodName := ⟨RX8, "goOn", "(I)V"⟩
abbrev cX8_giveReplies : ByteArray := prog_10_method_29_code
def yX8_giveReplies : MethodName := ⟨RX8, "giveReplies", "()V"⟩
abbrev cX8_run : ByteArray := prog_10_method_30_code
def yX8_run : MethodName := ⟨RX8, "run", "(III)I"⟩
abbrev cX8_who : ByteArray := prog_10_method_31_code
def yX8_who : MethodName := ⟨RX8, "who", "(III)I"⟩
abbrev cX8_mayOf : ByteArray := prog_10_method_32_code
def yX8_mayOf : MethodName := ⟨RX8, "mayOf", "(I)I"⟩
abbrev cX8_layMay : ByteArray := prog_10_method_33_code
def yX8_layMay : MethodName := ⟨RX8, "layMay", "()V"⟩
abbrev cX8_may : ByteArray := prog_10_method_34_code
def yX8_may : MethodName := ⟨RX8, "may", "(II)I"⟩
abbrev cX8_often : ByteArray := prog_10_method_35_code
def yX8_often : MethodName := ⟨RX8, "often", "(II)I"⟩
abbrev cX8_giveRow : ByteArray := prog_10_method_36_code
def yX8_giveRow : MethodName := ⟨RX8, "giveRow", "(III)V"⟩
abbrev cX8_rows : ByteArray := prog_10_method_37_code
def yX8_rows : MethodName := ⟨RX8, "rows", "(II)I"⟩
abbrev cX8_areTold : ByteArray := prog_10_method_38_code
def yX8_areTold : MethodName := ⟨RX8, "areTold", "(III)Z"⟩
abbrev cX8_all : ByteArray := prog_10_method_39_code
def yX8_all : MethodName := ⟨RX8, "all", "(IIII)I"⟩
abbrev cX8_row : ByteArray := prog_10_method_40_code
def yX8_row : MethodName := ⟨RX8, "row", "(IIIIII)I"⟩
abbrev cX8_apart : ByteArray := prog_10_method_41_code
def yX8_apart : MethodName := ⟨RX8, "apart", "(IIIIIII)I"⟩
abbrev cX8_told : ByteArray := prog_10_method_42_code
def yX8_told : MethodName := ⟨RX8, "told", "(I)I"⟩
def RL : String := "DeedHandsLaw"
abbrev cL_law : ByteArray := code
def yL_law : MethodName := ⟨RL, "law", "([I)Z"⟩
abbrev vwCl : List vw_C := [(RX0, TX0, 3), (RX1, TX1, 4), (RX2, TX2, 3), (RX3, TX3, 2), (RX4, TX4, 16), (RX5, TX5, 4), (RX6, TX6, 4), (RX7, TX7, 7), (RX8, TX8, 44)]
/-- the words that a contract may carry -/
def wG : List Cond := lw_tbl.filter goodWord
theorem wG_at (i : Nat) {w : Cond} (h : lw_tbl[i]? = some w) (hg : goodWord w = true) : w ∈ wG := List.mem_filter.mpr ⟨List.mem_of_getElem? h, hg⟩
theorem wG_ps {ws : List Cond} (ps : List Nat) (h : ws = ps.filterMap (fun i => lw_tbl[i]?)) (hg : ws.all goodWord = true) : ∀ w ∈ ws, w ∈ wG := by
  intro w hw
  refine List.mem_filter.mpr ⟨?_, List.all_eq_true.mp hg w hw⟩
  rw [h] at hw
  obtain ⟨i, -, hi⟩ := List.mem_filterMap.mp hw
  exact List.mem_of_getElem? hi
set_option maxRecDepth 20000 in
theorem inX0 : ∀ w ∈ wsX00, w ∈ wG := wG_ps [89, 91, 93] (by decide +kernel) (by decide +kernel)
set_option maxRecDepth 20000 in
theorem inX1 : ∀ w ∈ wsX10, w ∈ wG := wG_ps [148, 150, 152, 154] (by decide +kernel) (by decide +kernel)
set_option maxRecDepth 20000 in
theorem inX2 : ∀ w ∈ wsX20, w ∈ wG := wG_ps [72, 74, 76] (by decide +kernel) (by decide +kernel)
set_option maxRecDepth 20000 in
theorem inX3 : ∀ w ∈ wsX30, w ∈ wG := wG_ps [106, 108] (by decide +kernel) (by decide +kernel)
set_option maxRecDepth 20000 in
theorem inX4 : ∀ w ∈ wsX40, w ∈ wG := wG_ps [175, 177, 179, 181, 183, 185, 187, 189, 191, 193, 195, 197, 199, 201, 203, 205] (by decide +kernel) (by decide +kernel)
set_option maxRecDepth 20000 in
theorem inX5 : ∀ w ∈ wsX50, w ∈ wG := wG_ps [128, 130, 132, 134] (by decide +kernel) (by decide +kernel)
set_option maxRecDepth 20000 in
theorem inX6 : ∀ w ∈ wsX60, w ∈ wG := wG_ps [218, 220, 222, 224] (by decide +kernel) (by decide +kernel)
set_option maxRecDepth 20000 in
theorem inX7 : ∀ w ∈ wsX70, w ∈ wG := wG_ps [238, 240, 242, 244, 246, 248, 250] (by decide +kernel) (by decide +kernel)
set_option maxRecDepth 20000 in
theorem inX8 : ∀ w ∈ wsX80, w ∈ wG := wG_ps [669, 671, 673, 675, 677, 679, 681, 683, 685, 687, 689, 691, 693, 695, 697, 699, 701, 703, 705, 707, 709, 711, 713, 715, 717, 719, 721, 723, 725, 727, 729, 731, 733, 735, 737, 739, 741, 743, 745, 747, 749, 751, 753, 755] (by decide +kernel) (by decide +kernel)
end
section
theorem dX0_init_0 : decode cX0_init 0 = .ok (.aload_n 0, 1) := by decide +kernel
theorem dX0_init_1 : decode cX0_init 1 = .ok (.invokespecial 3, 3) := by decide +kernel
theorem dX0_init_4 : decode cX0_init 4 = .ok (.aload_n 0, 1) := by decide +kernel
theorem dX0_init_5 : decode cX0_init 5 = .ok (.sipush 800, 3) := by decide +kernel
theorem dX0_init_8 : decode cX0_init 8 = .ok (.newarray .int, 2) := by decide +kernel
theorem dX0_init_10 : decode cX0_init 10 = .ok (.putfield 9, 3) := by decide +kernel
theorem dX0_init_13 : decode cX0_init 13 = .ok (.aload_n 0, 1) := by decide +kernel
theorem dX0_init_14 : decode cX0_init 14 = .ok (.sipush 800, 3) := by decide +kernel
theorem dX0_init_17 : decode cX0_init 17 = .ok (.newarray .int, 2) := by decide +kernel
theorem dX0_init_19 : decode cX0_init 19 = .ok (.putfield 15, 3) := by decide +kernel
theorem dX0_init_22 : decode cX0_init 22 = .ok (.aload_n 0, 1) := by decide +kernel
theorem dX0_init_23 : decode cX0_init 23 = .ok (.bipush 20, 2) := by decide +kernel
theorem dX0_init_25 : decode cX0_init 25 = .ok (.newarray .int, 2) := by decide +kernel
theorem dX0_init_27 : decode cX0_init 27 = .ok (.putfield 18, 3) := by decide +kernel
theorem dX0_init_30 : decode cX0_init 30 = .ok (.return_, 1) := by decide +kernel
theorem dX0_size_0 : decode cX0_size 0 = .ok (.iload_n 1, 1) := by decide +kernel
theorem dX0_size_1 : decode cX0_size 1 = .ok (.ifCond .lt 18, 3) := by decide +kernel
theorem dX0_size_4 : decode cX0_size 4 = .ok (.iload_n 1, 1) := by decide +kernel
theorem dX0_size_5 : decode cX0_size 5 = .ok (.bipush 20, 2) := by decide +kernel
theorem dX0_size_7 : decode cX0_size 7 = .ok (.if_icmp .ge 12, 3) := by decide +kernel
theorem dX0_size_10 : decode cX0_size 10 = .ok (.aload_n 0, 1) := by decide +kernel
theorem dX0_size_11 : decode cX0_size 11 = .ok (.getfield 18, 3) := by decide +kernel
theorem dX0_size_14 : decode cX0_size 14 = .ok (.iload_n 1, 1) := by decide +kernel
theorem dX0_size_15 : decode cX0_size 15 = .ok (.iaload, 1) := by decide +kernel
theorem dX0_size_16 : decode cX0_size 16 = .ok (.goto 4, 3) := by decide +kernel
theorem dX0_size_19 : decode cX0_size 19 = .ok (.iconst 0, 1) := by decide +kernel
theorem dX0_size_20 : decode cX0_size 20 = .ok (.ireturn, 1) := by decide +kernel
theorem dX0_clear_0 : decode cX0_clear 0 = .ok (.iload_n 1, 1) := by decide +kernel
theorem dX0_clear_1 : decode cX0_clear 1 = .ok (.ifCond .lt 16, 3) := by decide +kernel
theorem dX0_clear_4 : decode cX0_clear 4 = .ok (.iload_n 1, 1) := by decide +kernel
theorem dX0_clear_5 : decode cX0_clear 5 = .ok (.bipush 20, 2) := by decide +kernel
theorem dX0_clear_7 : decode cX0_clear 7 = .ok (.if_icmp .ge 10, 3) := by decide +kernel
theorem dX0_clear_10 : decode cX0_clear 10 = .ok (.aload_n 0, 1) := by decide +kernel
theorem dX0_clear_11 : decode cX0_clear 11 = .ok (.getfield 18, 3) := by decide +kernel
theorem dX0_clear_14 : decode cX0_clear 14 = .ok (.iload_n 1, 1) := by decide +kernel
theorem dX0_clear_15 : decode cX0_clear 15 = .ok (.iconst 0, 1) := by decide +kernel
theorem dX0_clear_16 : decode cX0_clear 16 = .ok (.iastore, 1) := by decide +kernel
theorem dX0_clear_17 : decode cX0_clear 17 = .ok (.return_, 1) := by decide +kernel
theorem dX0_writeNought_0 : decode cX0_writeNought 0 = .ok (.iload_n 1, 1) := by decide +kernel
theorem dX0_writeNought_1 : decode cX0_writeNought 1 = .ok (.ifCond .lt 42, 3) := by decide +kernel
theorem dX0_writeNought_4 : decode cX0_writeNought 4 = .ok (.iload_n 1, 1) := by decide +kernel
theorem dX0_writeNought_5 : decode cX0_writeNought 5 = .ok (.bipush 20, 2) := by decide +kernel
theorem dX0_writeNought_7 : decode cX0_writeNought 7 = .ok (.if_icmp .ge 36, 3) := by decide +kernel
theorem dX0_writeNought_10 : decode cX0_writeNought 10 = .ok (.aload_n 0, 1) := by decide +kernel
theorem dX0_writeNought_11 : decode cX0_writeNought 11 = .ok (.getfield 9, 3) := by decide +kernel
theorem dX0_writeNought_14 : decode cX0_writeNought 14 = .ok (.iload_n 1, 1) := by decide +kernel
theorem dX0_writeNought_15 : decode cX0_writeNought 15 = .ok (.bipush 40, 2) := by decide +kernel
theorem dX0_writeNought_17 : decode cX0_writeNought 17 = .ok (.imul, 1) := by decide +kernel
theorem dX0_writeNought_18 : decode cX0_writeNought 18 = .ok (.bipush 48, 2) := by decide +kernel
theorem dX0_writeNought_20 : decode cX0_writeNought 20 = .ok (.iastore, 1) := by decide +kernel
theorem dX0_writeNought_21 : decode cX0_writeNought 21 = .ok (.aload_n 0, 1) := by decide +kernel
theorem dX0_writeNought_22 : decode cX0_writeNought 22 = .ok (.getfield 15, 3) := by decide +kernel
theorem dX0_writeNought_25 : decode cX0_writeNought 25 = .ok (.iload_n 1, 1) := by decide +kernel
theorem dX0_writeNought_26 : decode cX0_writeNought 26 = .ok (.bipush 40, 2) := by decide +kernel
theorem dX0_writeNought_28 : decode cX0_writeNought 28 = .ok (.imul, 1) := by decide +kernel
theorem dX0_writeNought_29 : decode cX0_writeNought 29 = .ok (.iload_n 1, 1) := by decide +kernel
theorem dX0_writeNought_30 : decode cX0_writeNought 30 = .ok (.bipush 40, 2) := by decide +kernel
theorem dX0_writeNought_32 : decode cX0_writeNought 32 = .ok (.imul, 1) := by decide +kernel
theorem dX0_writeNought_33 : decode cX0_writeNought 33 = .ok (.iconst 1, 1) := by decide +kernel
theorem dX0_writeNought_34 : decode cX0_writeNought 34 = .ok (.iadd, 1) := by decide +kernel
theorem dX0_writeNought_35 : decode cX0_writeNought 35 = .ok (.iastore, 1) := by decide +kernel
theorem dX0_writeNought_36 : decode cX0_writeNought 36 = .ok (.aload_n 0, 1) := by decide +kernel
theorem dX0_writeNought_37 : decode cX0_writeNought 37 = .ok (.getfield 18, 3) := by decide +kernel
theorem dX0_writeNought_40 : decode cX0_writeNought 40 = .ok (.iload_n 1, 1) := by decide +kernel
theorem dX0_writeNought_41 : decode cX0_writeNought 41 = .ok (.iconst 1, 1) := by decide +kernel
theorem dX0_writeNought_42 : decode cX0_writeNought 42 = .ok (.iastore, 1) := by decide +kernel
theorem dX0_writeNought_43 : decode cX0_writeNought 43 = .ok (.return_, 1) := by decide +kernel
theorem dX0_write_0 : decode cX0_write 0 = .ok (.iload_n 1, 1) := by decide +kernel
theorem dX0_write_1 : decode cX0_write 1 = .ok (.ifCond .lt 9, 3) := by decide +kernel
theorem dX0_write_4 : decode cX0_write 4 = .ok (.iload_n 1, 1) := by decide +kernel
theorem dX0_write_5 : decode cX0_write 5 = .ok (.bipush 20, 2) := by decide +kernel
theorem dX0_write_7 : decode cX0_write 7 = .ok (.if_icmp .lt 4, 3) := by decide +kernel
theorem dX0_write_10 : decode cX0_write 10 = .ok (.return_, 1) := by decide +kernel
theorem dX0_write_11 : decode cX0_write 11 = .ok (.aload_n 0, 1) := by decide +kernel
theorem dX0_write_12 : decode cX0_write 12 = .ok (.getfield 18, 3) := by decide +kernel
theorem dX0_write_15 : decode cX0_write 15 = .ok (.iload_n 1, 1) := by decide +kernel
theorem dX0_write_16 : decode cX0_write 16 = .ok (.aload_n 2, 1) := by decide +kernel
theorem dX0_write_17 : decode cX0_write 17 = .ok (.getfield 21, 3) := by decide +kernel
theorem dX0_write_20 : decode cX0_write 20 = .ok (.iastore, 1) := by decide +kernel
theorem dX0_write_21 : decode cX0_write 21 = .ok (.aload_n 2, 1) := by decide +kernel
theorem dX0_write_22 : decode cX0_write 22 = .ok (.getfield 21, 3) := by decide +kernel
theorem dX0_write_25 : decode cX0_write 25 = .ok (.bipush 40, 2) := by decide +kernel
theorem dX0_write_27 : decode cX0_write 27 = .ok (.invokestatic 27, 3) := by decide +kernel
theorem dX0_write_30 : decode cX0_write 30 = .ok (.iconst 1, 1) := by decide +kernel
theorem dX0_write_31 : decode cX0_write 31 = .ok (.isub, 1) := by decide +kernel
theorem dX0_write_32 : decode cX0_write 32 = .ok (.istore_n 3, 1) := by decide +kernel
theorem dX0_write_33 : decode cX0_write 33 = .ok (.iload_n 3, 1) := by decide +kernel
theorem dX0_write_34 : decode cX0_write 34 = .ok (.ifCond .lt 42, 3) := by decide +kernel
theorem dX0_write_37 : decode cX0_write 37 = .ok (.iload_n 1, 1) := by decide +kernel
theorem dX0_write_38 : decode cX0_write 38 = .ok (.bipush 40, 2) := by decide +kernel
theorem dX0_write_40 : decode cX0_write 40 = .ok (.imul, 1) := by decide +kernel
theorem dX0_write_41 : decode cX0_write 41 = .ok (.iload_n 3, 1) := by decide +kernel
theorem dX0_write_42 : decode cX0_write 42 = .ok (.iadd, 1) := by decide +kernel
theorem dX0_write_43 : decode cX0_write 43 = .ok (.istore 4, 2) := by decide +kernel
theorem dX0_write_45 : decode cX0_write 45 = .ok (.aload_n 0, 1) := by decide +kernel
theorem dX0_write_46 : decode cX0_write 46 = .ok (.getfield 9, 3) := by decide +kernel
theorem dX0_write_49 : decode cX0_write 49 = .ok (.iload 4, 2) := by decide +kernel
theorem dX0_write_51 : decode cX0_write 51 = .ok (.aload_n 2, 1) := by decide +kernel
theorem dX0_write_52 : decode cX0_write 52 = .ok (.iload_n 3, 1) := by decide +kernel
theorem dX0_write_53 : decode cX0_write 53 = .ok (.invokevirtual 33, 3) := by decide +kernel
theorem dX0_write_56 : decode cX0_write 56 = .ok (.iastore, 1) := by decide +kernel
theorem dX0_write_57 : decode cX0_write 57 = .ok (.aload_n 0, 1) := by decide +kernel
theorem dX0_write_58 : decode cX0_write 58 = .ok (.getfield 15, 3) := by decide +kernel
theorem dX0_write_61 : decode cX0_write 61 = .ok (.iload 4, 2) := by decide +kernel
theorem dX0_write_63 : decode cX0_write 63 = .ok (.aload_n 0, 1) := by decide +kernel
theorem dX0_write_64 : decode cX0_write 64 = .ok (.iload 4, 2) := by decide +kernel
theorem dX0_write_66 : decode cX0_write 66 = .ok (.invokevirtual 37, 3) := by decide +kernel
theorem dX0_write_69 : decode cX0_write 69 = .ok (.iastore, 1) := by decide +kernel
theorem dX0_write_70 : decode cX0_write 70 = .ok (.iinc 3 (-1), 3) := by decide +kernel
theorem dX0_write_73 : decode cX0_write 73 = .ok (.goto (-40), 3) := by decide +kernel
theorem dX0_write_76 : decode cX0_write 76 = .ok (.return_, 1) := by decide +kernel
theorem dX0_behind_0 : decode cX0_behind 0 = .ok (.aload_n 0, 1) := by decide +kernel
theorem dX0_behind_1 : decode cX0_behind 1 = .ok (.iload_n 1, 1) := by decide +kernel
theorem dX0_behind_2 : decode cX0_behind 2 = .ok (.invokevirtual 40, 3) := by decide +kernel
theorem dX0_behind_5 : decode cX0_behind 5 = .ok (.istore_n 2, 1) := by decide +kernel
theorem dX0_behind_6 : decode cX0_behind 6 = .ok (.aload_n 0, 1) := by decide +kernel
theorem dX0_behind_7 : decode cX0_behind 7 = .ok (.iload_n 1, 1) := by decide +kernel
theorem dX0_behind_8 : decode cX0_behind 8 = .ok (.invokevirtual 43, 3) := by decide +kernel
theorem dX0_behind_11 : decode cX0_behind 11 = .ok (.invokestatic 44, 3) := by decide +kernel
theorem dX0_behind_14 : decode cX0_behind 14 = .ok (.istore_n 3, 1) := by decide +kernel
theorem dX0_behind_15 : decode cX0_behind 15 = .ok (.iconst 0, 1) := by decide +kernel
theorem dX0_behind_16 : decode cX0_behind 16 = .ok (.istore 4, 2) := by decide +kernel
theorem dX0_behind_18 : decode cX0_behind 18 = .ok (.iload 4, 2) := by decide +kernel
theorem dX0_behind_20 : decode cX0_behind 20 = .ok (.iload_n 3, 1) := by decide +kernel
theorem dX0_behind_21 : decode cX0_behind 21 = .ok (.if_icmp .ge 15, 3) := by decide +kernel
theorem dX0_behind_24 : decode cX0_behind 24 = .ok (.aload_n 0, 1) := by decide +kernel
theorem dX0_behind_25 : decode cX0_behind 25 = .ok (.iload_n 2, 1) := by decide +kernel
theorem dX0_behind_26 : decode cX0_behind 26 = .ok (.invokevirtual 47, 3) := by decide +kernel
theorem dX0_behind_29 : decode cX0_behind 29 = .ok (.istore_n 2, 1) := by decide +kernel
theorem dX0_behind_30 : decode cX0_behind 30 = .ok (.iinc 4 1, 3) := by decide +kernel
theorem dX0_behind_33 : decode cX0_behind 33 = .ok (.goto (-15), 3) := by decide +kernel
theorem dX0_behind_36 : decode cX0_behind 36 = .ok (.iload_n 2, 1) := by decide +kernel
theorem dX0_behind_37 : decode cX0_behind 37 = .ok (.ireturn, 1) := by decide +kernel
theorem dX0_sign_0 : decode cX0_sign 0 = .ok (.iload_n 1, 1) := by decide +kernel
theorem dX0_sign_1 : decode cX0_sign 1 = .ok (.ifCond .lt 19, 3) := by decide +kernel
theorem dX0_sign_4 : decode cX0_sign 4 = .ok (.iload_n 1, 1) := by decide +kernel
theorem dX0_sign_5 : decode cX0_sign 5 = .ok (.sipush 800, 3) := by decide +kernel
theorem dX0_sign_8 : decode cX0_sign 8 = .ok (.if_icmp .ge 12, 3) := by decide +kernel
theorem dX0_sign_11 : decode cX0_sign 11 = .ok (.aload_n 0, 1) := by decide +kernel
theorem dX0_sign_12 : decode cX0_sign 12 = .ok (.getfield 9, 3) := by decide +kernel
theorem dX0_sign_15 : decode cX0_sign 15 = .ok (.iload_n 1, 1) := by decide +kernel
theorem dX0_sign_16 : decode cX0_sign 16 = .ok (.iaload, 1) := by decide +kernel
theorem dX0_sign_17 : decode cX0_sign 17 = .ok (.goto 4, 3) := by decide +kernel
theorem dX0_sign_20 : decode cX0_sign 20 = .ok (.iconst 0, 1) := by decide +kernel
theorem dX0_sign_21 : decode cX0_sign 21 = .ok (.ireturn, 1) := by decide +kernel
theorem dX0_after_0 : decode cX0_after 0 = .ok (.iload_n 1, 1) := by decide +kernel
theorem dX0_after_1 : decode cX0_after 1 = .ok (.ifCond .lt 19, 3) := by decide +kernel
theorem dX0_after_4 : decode cX0_after 4 = .ok (.iload_n 1, 1) := by decide +kernel
theorem dX0_after_5 : decode cX0_after 5 = .ok (.sipush 800, 3) := by decide +kernel
theorem dX0_after_8 : decode cX0_after 8 = .ok (.if_icmp .ge 12, 3) := by decide +kernel
theorem dX0_after_11 : decode cX0_after 11 = .ok (.aload_n 0, 1) := by decide +kernel
theorem dX0_after_12 : decode cX0_after 12 = .ok (.getfield 15, 3) := by decide +kernel
theorem dX0_after_15 : decode cX0_after 15 = .ok (.iload_n 1, 1) := by decide +kernel
theorem dX0_after_16 : decode cX0_after 16 = .ok (.iaload, 1) := by decide +kernel
theorem dX0_after_17 : decode cX0_after 17 = .ok (.goto 4, 3) := by decide +kernel
theorem dX0_after_20 : decode cX0_after 20 = .ok (.iconst (-1), 1) := by decide +kernel
theorem dX0_after_21 : decode cX0_after 21 = .ok (.ireturn, 1) := by decide +kernel
theorem dX0_first_0 : decode cX0_first 0 = .ok (.aload_n 0, 1) := by decide +kernel
theorem dX0_first_1 : decode cX0_first 1 = .ok (.iload_n 1, 1) := by decide +kernel
theorem dX0_first_2 : decode cX0_first 2 = .ok (.invokevirtual 43, 3) := by decide +kernel
theorem dX0_first_5 : decode cX0_first 5 = .ok (.bipush 64, 2) := by decide +kernel
theorem dX0_first_7 : decode cX0_first 7 = .ok (.if_icmp .ne 9, 3) := by decide +kernel
theorem dX0_first_10 : decode cX0_first 10 = .ok (.iload_n 1, 1) := by decide +kernel
theorem dX0_first_11 : decode cX0_first 11 = .ok (.iconst 2, 1) := by decide +kernel
theorem dX0_first_12 : decode cX0_first 12 = .ok (.iadd, 1) := by decide +kernel
theorem dX0_first_13 : decode cX0_first 13 = .ok (.goto 6, 3) := by decide +kernel
theorem dX0_first_16 : decode cX0_first 16 = .ok (.iload_n 1, 1) := by decide +kernel
theorem dX0_first_17 : decode cX0_first 17 = .ok (.iconst 1, 1) := by decide +kernel
theorem dX0_first_18 : decode cX0_first 18 = .ok (.iadd, 1) := by decide +kernel
theorem dX0_first_19 : decode cX0_first 19 = .ok (.ireturn, 1) := by decide +kernel
theorem dX0_hand_0 : decode cX0_hand 0 = .ok (.iload_n 1, 1) := by decide +kernel
theorem dX0_hand_1 : decode cX0_hand 1 = .ok (.ifCond .lt 25, 3) := by decide +kernel
theorem dX0_hand_4 : decode cX0_hand 4 = .ok (.iload_n 1, 1) := by decide +kernel
theorem dX0_hand_5 : decode cX0_hand 5 = .ok (.sipush 799, 3) := by decide +kernel
theorem dX0_hand_8 : decode cX0_hand 8 = .ok (.if_icmp .ge 18, 3) := by decide +kernel
theorem dX0_hand_11 : decode cX0_hand 11 = .ok (.aload_n 0, 1) := by decide +kernel
theorem dX0_hand_12 : decode cX0_hand 12 = .ok (.getfield 9, 3) := by decide +kernel
theorem dX0_hand_15 : decode cX0_hand 15 = .ok (.iload_n 1, 1) := by decide +kernel
theorem dX0_hand_16 : decode cX0_hand 16 = .ok (.iaload, 1) := by decide +kernel
theorem dX0_hand_17 : decode cX0_hand 17 = .ok (.bipush 64, 2) := by decide +kernel
theorem dX0_hand_19 : decode cX0_hand 19 = .ok (.if_icmp .ne 7, 3) := by decide +kernel
theorem dX0_hand_22 : decode cX0_hand 22 = .ok (.iconst 1, 1) := by decide +kernel
theorem dX0_hand_23 : decode cX0_hand 23 = .ok (.goto 4, 3) := by decide +kernel
theorem dX0_hand_26 : decode cX0_hand 26 = .ok (.iconst 0, 1) := by decide +kernel
theorem dX0_hand_27 : decode cX0_hand 27 = .ok (.istore_n 2, 1) := by decide +kernel
theorem dX0_hand_28 : decode cX0_hand 28 = .ok (.iload_n 2, 1) := by decide +kernel
theorem dX0_hand_29 : decode cX0_hand 29 = .ok (.ifCond .eq 17, 3) := by decide +kernel
theorem dX0_hand_32 : decode cX0_hand 32 = .ok (.aload_n 0, 1) := by decide +kernel
theorem dX0_hand_33 : decode cX0_hand 33 = .ok (.getfield 9, 3) := by decide +kernel
theorem dX0_hand_36 : decode cX0_hand 36 = .ok (.iload_n 1, 1) := by decide +kernel
theorem dX0_hand_37 : decode cX0_hand 37 = .ok (.iconst 1, 1) := by decide +kernel
theorem dX0_hand_38 : decode cX0_hand 38 = .ok (.iadd, 1) := by decide +kernel
theorem dX0_hand_39 : decode cX0_hand 39 = .ok (.iaload, 1) := by decide +kernel
theorem dX0_hand_40 : decode cX0_hand 40 = .ok (.bipush 48, 2) := by decide +kernel
theorem dX0_hand_42 : decode cX0_hand 42 = .ok (.isub, 1) := by decide +kernel
theorem dX0_hand_43 : decode cX0_hand 43 = .ok (.goto 4, 3) := by decide +kernel
theorem dX0_hand_46 : decode cX0_hand 46 = .ok (.iconst (-1), 1) := by decide +kernel
theorem dX0_hand_47 : decode cX0_hand 47 = .ok (.ireturn, 1) := by decide +kernel
theorem dX0_clauses_0 : decode cX0_clauses 0 = .ok (.iconst 0, 1) := by decide +kernel
theorem dX0_clauses_1 : decode cX0_clauses 1 = .ok (.istore_n 2, 1) := by decide +kernel
theorem dX0_clauses_2 : decode cX0_clauses 2 = .ok (.iconst 0, 1) := by decide +kernel
theorem dX0_clauses_3 : decode cX0_clauses 3 = .ok (.istore_n 3, 1) := by decide +kernel
theorem dX0_clauses_4 : decode cX0_clauses 4 = .ok (.iload_n 3, 1) := by decide +kernel
theorem dX0_clauses_5 : decode cX0_clauses 5 = .ok (.iconst 4, 1) := by decide +kernel
theorem dX0_clauses_6 : decode cX0_clauses 6 = .ok (.if_icmp .ge 27, 3) := by decide +kernel
theorem dX0_clauses_9 : decode cX0_clauses 9 = .ok (.aload_n 0, 1) := by decide +kernel
theorem dX0_clauses_10 : decode cX0_clauses 10 = .ok (.iload_n 1, 1) := by decide +kernel
theorem dX0_clauses_11 : decode cX0_clauses 11 = .ok (.iload_n 3, 1) := by decide +kernel
theorem dX0_clauses_12 : decode cX0_clauses 12 = .ok (.invokestatic 50, 3) := by decide +kernel
theorem dX0_clauses_15 : decode cX0_clauses 15 = .ok (.invokevirtual 53, 3) := by decide +kernel
theorem dX0_clauses_18 : decode cX0_clauses 18 = .ok (.ifCond .le 9, 3) := by decide +kernel
theorem dX0_clauses_21 : decode cX0_clauses 21 = .ok (.iload_n 2, 1) := by decide +kernel
theorem dX0_clauses_22 : decode cX0_clauses 22 = .ok (.iconst 1, 1) := by decide +kernel
theorem dX0_clauses_23 : decode cX0_clauses 23 = .ok (.iload_n 3, 1) := by decide +kernel
theorem dX0_clauses_24 : decode cX0_clauses 24 = .ok (.ishl, 1) := by decide +kernel
theorem dX0_clauses_25 : decode cX0_clauses 25 = .ok (.ior, 1) := by decide +kernel
theorem dX0_clauses_26 : decode cX0_clauses 26 = .ok (.istore_n 2, 1) := by decide +kernel
theorem dX0_clauses_27 : decode cX0_clauses 27 = .ok (.iinc 3 1, 3) := by decide +kernel
theorem dX0_clauses_30 : decode cX0_clauses 30 = .ok (.goto (-26), 3) := by decide +kernel
theorem dX0_clauses_33 : decode cX0_clauses 33 = .ok (.iload_n 2, 1) := by decide +kernel
theorem dX0_clauses_34 : decode cX0_clauses 34 = .ok (.ireturn, 1) := by decide +kernel
theorem dX1_init_0 : decode cX1_init 0 = .ok (.aload_n 0, 1) := by decide +kernel
theorem dX1_init_1 : decode cX1_init 1 = .ok (.invokespecial 3, 3) := by decide +kernel
theorem dX1_init_4 : decode cX1_init 4 = .ok (.aload_n 0, 1) := by decide +kernel
theorem dX1_init_5 : decode cX1_init 5 = .ok (.sipush 201, 3) := by decide +kernel
theorem dX1_init_8 : decode cX1_init 8 = .ok (.newarray .int, 2) := by decide +kernel
theorem dX1_init_10 : decode cX1_init 10 = .ok (.putfield 11, 3) := by decide +kernel
theorem dX1_init_13 : decode cX1_init 13 = .ok (.aload_n 0, 1) := by decide +kernel
theorem dX1_init_14 : decode cX1_init 14 = .ok (.sipush 201, 3) := by decide +kernel
theorem dX1_init_17 : decode cX1_init 17 = .ok (.newarray .int, 2) := by decide +kernel
theorem dX1_init_19 : decode cX1_init 19 = .ok (.putfield 15, 3) := by decide +kernel
theorem dX1_init_22 : decode cX1_init 22 = .ok (.aload_n 0, 1) := by decide +kernel
theorem dX1_init_23 : decode cX1_init 23 = .ok (.sipush 201, 3) := by decide +kernel
theorem dX1_init_26 : decode cX1_init 26 = .ok (.newarray .int, 2) := by decide +kernel
theorem dX1_init_28 : decode cX1_init 28 = .ok (.putfield 18, 3) := by decide +kernel
theorem dX1_init_31 : decode cX1_init 31 = .ok (.return_, 1) := by decide +kernel
theorem dX1_stands_0 : decode cX1_stands 0 = .ok (.iload_n 1, 1) := by decide +kernel
theorem dX1_stands_1 : decode cX1_stands 1 = .ok (.ifCond .lt 22, 3) := by decide +kernel
theorem dX1_stands_4 : decode cX1_stands 4 = .ok (.iload_n 1, 1) := by decide +kernel
theorem dX1_stands_5 : decode cX1_stands 5 = .ok (.aload_n 0, 1) := by decide +kernel
theorem dX1_stands_6 : decode cX1_stands 6 = .ok (.getfield 21, 3) := by decide +kernel
theorem dX1_stands_9 : decode cX1_stands 9 = .ok (.if_icmp .ge 14, 3) := by decide +kernel
theorem dX1_stands_12 : decode cX1_stands 12 = .ok (.iload_n 1, 1) := by decide +kernel
theorem dX1_stands_13 : decode cX1_stands 13 = .ok (.sipush 201, 3) := by decide +kernel
theorem dX1_stands_16 : decode cX1_stands 16 = .ok (.if_icmp .ge 7, 3) := by decide +kernel
theorem dX1_stands_19 : decode cX1_stands 19 = .ok (.iconst 1, 1) := by decide +kernel
theorem dX1_stands_20 : decode cX1_stands 20 = .ok (.goto 4, 3) := by decide +kernel
theorem dX1_stands_23 : decode cX1_stands 23 = .ok (.iconst 0, 1) := by decide +kernel
theorem dX1_stands_24 : decode cX1_stands 24 = .ok (.ireturn, 1) := by decide +kernel
theorem dX1_enter_0 : decode cX1_enter 0 = .ok (.aload_n 0, 1) := by decide +kernel
theorem dX1_enter_1 : decode cX1_enter 1 = .ok (.getfield 21, 3) := by decide +kernel
theorem dX1_enter_4 : decode cX1_enter 4 = .ok (.ifCond .lt 13, 3) := by decide +kernel
theorem dX1_enter_7 : decode cX1_enter 7 = .ok (.aload_n 0, 1) := by decide +kernel
theorem dX1_enter_8 : decode cX1_enter 8 = .ok (.getfield 21, 3) := by decide +kernel
theorem dX1_enter_11 : decode cX1_enter 11 = .ok (.sipush 201, 3) := by decide +kernel
theorem dX1_enter_14 : decode cX1_enter 14 = .ok (.if_icmp .lt 5, 3) := by decide +kernel
theorem dX1_enter_17 : decode cX1_enter 17 = .ok (.iconst (-1), 1) := by decide +kernel
theorem dX1_enter_18 : decode cX1_enter 18 = .ok (.ireturn, 1) := by decide +kernel
theorem dX1_enter_19 : decode cX1_enter 19 = .ok (.aload_n 0, 1) := by decide +kernel
theorem dX1_enter_20 : decode cX1_enter 20 = .ok (.getfield 11, 3) := by decide +kernel
theorem dX1_enter_23 : decode cX1_enter 23 = .ok (.aload_n 0, 1) := by decide +kernel
theorem dX1_enter_24 : decode cX1_enter 24 = .ok (.getfield 21, 3) := by decide +kernel
theorem dX1_enter_27 : decode cX1_enter 27 = .ok (.iload_n 1, 1) := by decide +kernel
theorem dX1_enter_28 : decode cX1_enter 28 = .ok (.iastore, 1) := by decide +kernel
theorem dX1_enter_29 : decode cX1_enter 29 = .ok (.aload_n 0, 1) := by decide +kernel
theorem dX1_enter_30 : decode cX1_enter 30 = .ok (.getfield 15, 3) := by decide +kernel
theorem dX1_enter_33 : decode cX1_enter 33 = .ok (.aload_n 0, 1) := by decide +kernel
theorem dX1_enter_34 : decode cX1_enter 34 = .ok (.getfield 21, 3) := by decide +kernel
theorem dX1_enter_37 : decode cX1_enter 37 = .ok (.iload_n 2, 1) := by decide +kernel
theorem dX1_enter_38 : decode cX1_enter 38 = .ok (.iastore, 1) := by decide +kernel
theorem dX1_enter_39 : decode cX1_enter 39 = .ok (.aload_n 0, 1) := by decide +kernel
theorem dX1_enter_40 : decode cX1_enter 40 = .ok (.getfield 18, 3) := by decide +kernel
theorem dX1_enter_43 : decode cX1_enter 43 = .ok (.aload_n 0, 1) := by decide +kernel
theorem dX1_enter_44 : decode cX1_enter 44 = .ok (.getfield 21, 3) := by decide +kernel
theorem dX1_enter_47 : decode cX1_enter 47 = .ok (.iload_n 3, 1) := by decide +kernel
theorem dX1_enter_48 : decode cX1_enter 48 = .ok (.iastore, 1) := by decide +kernel
theorem dX1_enter_49 : decode cX1_enter 49 = .ok (.aload_n 0, 1) := by decide +kernel
theorem dX1_enter_50 : decode cX1_enter 50 = .ok (.dup, 1) := by decide +kernel
theorem dX1_enter_51 : decode cX1_enter 51 = .ok (.getfield 21, 3) := by decide +kernel
theorem dX1_enter_54 : decode cX1_enter 54 = .ok (.iconst 1, 1) := by decide +kernel
theorem dX1_enter_55 : decode cX1_enter 55 = .ok (.iadd, 1) := by decide +kernel
theorem dX1_enter_56 : decode cX1_enter 56 = .ok (.putfield 21, 3) := by decide +kernel
theorem dX1_enter_59 : decode cX1_enter 59 = .ok (.aload_n 0, 1) := by decide +kernel
theorem dX1_enter_60 : decode cX1_enter 60 = .ok (.getfield 21, 3) := by decide +kernel
theorem dX1_enter_63 : decode cX1_enter 63 = .ok (.iconst 1, 1) := by decide +kernel
theorem dX1_enter_64 : decode cX1_enter 64 = .ok (.isub, 1) := by decide +kernel
theorem dX1_enter_65 : decode cX1_enter 65 = .ok (.ireturn, 1) := by decide +kernel
theorem dX1_argument_0 : decode cX1_argument 0 = .ok (.aload_n 0, 1) := by decide +kernel
theorem dX1_argument_1 : decode cX1_argument 1 = .ok (.iload_n 1, 1) := by decide +kernel
theorem dX1_argument_2 : decode cX1_argument 2 = .ok (.invokevirtual 25, 3) := by decide +kernel
theorem dX1_argument_5 : decode cX1_argument 5 = .ok (.ifCond .eq 12, 3) := by decide +kernel
theorem dX1_argument_8 : decode cX1_argument 8 = .ok (.aload_n 0, 1) := by decide +kernel
theorem dX1_argument_9 : decode cX1_argument 9 = .ok (.getfield 11, 3) := by decide +kernel
theorem dX1_argument_12 : decode cX1_argument 12 = .ok (.iload_n 1, 1) := by decide +kernel
theorem dX1_argument_13 : decode cX1_argument 13 = .ok (.iaload, 1) := by decide +kernel
theorem dX1_argument_14 : decode cX1_argument 14 = .ok (.goto 4, 3) := by decide +kernel
theorem dX1_argument_17 : decode cX1_argument 17 = .ok (.iconst 0, 1) := by decide +kernel
theorem dX1_argument_18 : decode cX1_argument 18 = .ok (.ireturn, 1) := by decide +kernel
theorem dX1_keptTop_0 : decode cX1_keptTop 0 = .ok (.aload_n 0, 1) := by decide +kernel
theorem dX1_keptTop_1 : decode cX1_keptTop 1 = .ok (.iload_n 1, 1) := by decide +kernel
theorem dX1_keptTop_2 : decode cX1_keptTop 2 = .ok (.invokevirtual 25, 3) := by decide +kernel
theorem dX1_keptTop_5 : decode cX1_keptTop 5 = .ok (.ifCond .eq 12, 3) := by decide +kernel
theorem dX1_keptTop_8 : decode cX1_keptTop 8 = .ok (.aload_n 0, 1) := by decide +kernel
theorem dX1_keptTop_9 : decode cX1_keptTop 9 = .ok (.getfield 15, 3) := by decide +kernel
theorem dX1_keptTop_12 : decode cX1_keptTop 12 = .ok (.iload_n 1, 1) := by decide +kernel
theorem dX1_keptTop_13 : decode cX1_keptTop 13 = .ok (.iaload, 1) := by decide +kernel
theorem dX1_keptTop_14 : decode cX1_keptTop 14 = .ok (.goto 4, 3) := by decide +kernel
theorem dX1_keptTop_17 : decode cX1_keptTop 17 = .ok (.iconst (-1), 1) := by decide +kernel
theorem dX1_keptTop_18 : decode cX1_keptTop 18 = .ok (.ireturn, 1) := by decide +kernel
theorem dX1_keptHand_0 : decode cX1_keptHand 0 = .ok (.aload_n 0, 1) := by decide +kernel
theorem dX1_keptHand_1 : decode cX1_keptHand 1 = .ok (.iload_n 1, 1) := by decide +kernel
theorem dX1_keptHand_2 : decode cX1_keptHand 2 = .ok (.invokevirtual 25, 3) := by decide +kernel
theorem dX1_keptHand_5 : decode cX1_keptHand 5 = .ok (.ifCond .eq 12, 3) := by decide +kernel
theorem dX1_keptHand_8 : decode cX1_keptHand 8 = .ok (.aload_n 0, 1) := by decide +kernel
theorem dX1_keptHand_9 : decode cX1_keptHand 9 = .ok (.getfield 18, 3) := by decide +kernel
theorem dX1_keptHand_12 : decode cX1_keptHand 12 = .ok (.iload_n 1, 1) := by decide +kernel
theorem dX1_keptHand_13 : decode cX1_keptHand 13 = .ok (.iaload, 1) := by decide +kernel
theorem dX1_keptHand_14 : decode cX1_keptHand 14 = .ok (.goto 4, 3) := by decide +kernel
theorem dX1_keptHand_17 : decode cX1_keptHand 17 = .ok (.iconst (-1), 1) := by decide +kernel
theorem dX1_keptHand_18 : decode cX1_keptHand 18 = .ok (.ireturn, 1) := by decide +kernel
theorem dX2_init_0 : decode cX2_init 0 = .ok (.aload_n 0, 1) := by decide +kernel
theorem dX2_init_1 : decode cX2_init 1 = .ok (.invokespecial 3, 3) := by decide +kernel
theorem dX2_init_4 : decode cX2_init 4 = .ok (.aload_n 0, 1) := by decide +kernel
theorem dX2_init_5 : decode cX2_init 5 = .ok (.bipush 40, 2) := by decide +kernel
theorem dX2_init_7 : decode cX2_init 7 = .ok (.newarray .int, 2) := by decide +kernel
theorem dX2_init_9 : decode cX2_init 9 = .ok (.putfield 9, 3) := by decide +kernel
theorem dX2_init_12 : decode cX2_init 12 = .ok (.aload_n 0, 1) := by decide +kernel
theorem dX2_init_13 : decode cX2_init 13 = .ok (.bipush 10, 2) := by decide +kernel
theorem dX2_init_15 : decode cX2_init 15 = .ok (.newarray .int, 2) := by decide +kernel
theorem dX2_init_17 : decode cX2_init 17 = .ok (.putfield 15, 3) := by decide +kernel
theorem dX2_init_20 : decode cX2_init 20 = .ok (.return_, 1) := by decide +kernel
theorem dX2_add_0 : decode cX2_add 0 = .ok (.aload_n 0, 1) := by decide +kernel
theorem dX2_add_1 : decode cX2_add 1 = .ok (.getfield 18, 3) := by decide +kernel
theorem dX2_add_4 : decode cX2_add 4 = .ok (.ifCond .lt 12, 3) := by decide +kernel
theorem dX2_add_7 : decode cX2_add 7 = .ok (.aload_n 0, 1) := by decide +kernel
theorem dX2_add_8 : decode cX2_add 8 = .ok (.getfield 18, 3) := by decide +kernel
theorem dX2_add_11 : decode cX2_add 11 = .ok (.bipush 40, 2) := by decide +kernel
theorem dX2_add_13 : decode cX2_add 13 = .ok (.if_icmp .lt 5, 3) := by decide +kernel
theorem dX2_add_16 : decode cX2_add 16 = .ok (.iconst 0, 1) := by decide +kernel
theorem dX2_add_17 : decode cX2_add 17 = .ok (.ireturn, 1) := by decide +kernel
theorem dX2_add_18 : decode cX2_add 18 = .ok (.aload_n 0, 1) := by decide +kernel
theorem dX2_add_19 : decode cX2_add 19 = .ok (.getfield 9, 3) := by decide +kernel
theorem dX2_add_22 : decode cX2_add 22 = .ok (.aload_n 0, 1) := by decide +kernel
theorem dX2_add_23 : decode cX2_add 23 = .ok (.getfield 18, 3) := by decide +kernel
theorem dX2_add_26 : decode cX2_add 26 = .ok (.iload_n 1, 1) := by decide +kernel
theorem dX2_add_27 : decode cX2_add 27 = .ok (.iastore, 1) := by decide +kernel
theorem dX2_add_28 : decode cX2_add 28 = .ok (.aload_n 0, 1) := by decide +kernel
theorem dX2_add_29 : decode cX2_add 29 = .ok (.dup, 1) := by decide +kernel
theorem dX2_add_30 : decode cX2_add 30 = .ok (.getfield 18, 3) := by decide +kernel
theorem dX2_add_33 : decode cX2_add 33 = .ok (.iconst 1, 1) := by decide +kernel
theorem dX2_add_34 : decode cX2_add 34 = .ok (.iadd, 1) := by decide +kernel
theorem dX2_add_35 : decode cX2_add 35 = .ok (.putfield 18, 3) := by decide +kernel
theorem dX2_add_38 : decode cX2_add 38 = .ok (.iconst 1, 1) := by decide +kernel
theorem dX2_add_39 : decode cX2_add 39 = .ok (.ireturn, 1) := by decide +kernel
theorem dX2_sign_0 : decode cX2_sign 0 = .ok (.iload_n 1, 1) := by decide +kernel
theorem dX2_sign_1 : decode cX2_sign 1 = .ok (.ifCond .lt 26, 3) := by decide +kernel
theorem dX2_sign_4 : decode cX2_sign 4 = .ok (.iload_n 1, 1) := by decide +kernel
theorem dX2_sign_5 : decode cX2_sign 5 = .ok (.aload_n 0, 1) := by decide +kernel
theorem dX2_sign_6 : decode cX2_sign 6 = .ok (.getfield 18, 3) := by decide +kernel
theorem dX2_sign_9 : decode cX2_sign 9 = .ok (.if_icmp .ge 18, 3) := by decide +kernel
theorem dX2_sign_12 : decode cX2_sign 12 = .ok (.iload_n 1, 1) := by decide +kernel
theorem dX2_sign_13 : decode cX2_sign 13 = .ok (.bipush 40, 2) := by decide +kernel
theorem dX2_sign_15 : decode cX2_sign 15 = .ok (.if_icmp .ge 12, 3) := by decide +kernel
theorem dX2_sign_18 : decode cX2_sign 18 = .ok (.aload_n 0, 1) := by decide +kernel
theorem dX2_sign_19 : decode cX2_sign 19 = .ok (.getfield 9, 3) := by decide +kernel
theorem dX2_sign_22 : decode cX2_sign 22 = .ok (.iload_n 1, 1) := by decide +kernel
theorem dX2_sign_23 : decode cX2_sign 23 = .ok (.iaload, 1) := by decide +kernel
theorem dX2_sign_24 : decode cX2_sign 24 = .ok (.goto 4, 3) := by decide +kernel
theorem dX2_sign_27 : decode cX2_sign 27 = .ok (.iconst 0, 1) := by decide +kernel
theorem dX2_sign_28 : decode cX2_sign 28 = .ok (.ireturn, 1) := by decide +kernel
theorem dX2_firstFault_0 : decode cX2_firstFault 0 = .ok (.iconst 0, 1) := by decide +kernel
theorem dX2_firstFault_1 : decode cX2_firstFault 1 = .ok (.istore_n 2, 1) := by decide +kernel
theorem dX2_firstFault_2 : decode cX2_firstFault 2 = .ok (.aload_n 0, 1) := by decide +kernel
theorem dX2_firstFault_3 : decode cX2_firstFault 3 = .ok (.getfield 15, 3) := by decide +kernel
theorem dX2_firstFault_6 : decode cX2_firstFault 6 = .ok (.iconst 0, 1) := by decide +kernel
theorem dX2_firstFault_7 : decode cX2_firstFault 7 = .ok (.iconst 1, 1) := by decide +kernel
theorem dX2_firstFault_8 : decode cX2_firstFault 8 = .ok (.iastore, 1) := by decide +kernel
theorem dX2_firstFault_9 : decode cX2_firstFault 9 = .ok (.iconst 0, 1) := by decide +kernel
theorem dX2_firstFault_10 : decode cX2_firstFault 10 = .ok (.istore_n 3, 1) := by decide +kernel
theorem dX2_firstFault_11 : decode cX2_firstFault 11 = .ok (.iload_n 3, 1) := by decide +kernel
theorem dX2_firstFault_12 : decode cX2_firstFault 12 = .ok (.aload_n 0, 1) := by decide +kernel
theorem dX2_firstFault_13 : decode cX2_firstFault 13 = .ok (.getfield 18, 3) := by decide +kernel
theorem dX2_firstFault_16 : decode cX2_firstFault 16 = .ok (.if_icmp .ge 104, 3) := by decide +kernel
theorem dX2_firstFault_19 : decode cX2_firstFault 19 = .ok (.iload_n 2, 1) := by decide +kernel
theorem dX2_firstFault_20 : decode cX2_firstFault 20 = .ok (.ifCond .lt 16, 3) := by decide +kernel
theorem dX2_firstFault_23 : decode cX2_firstFault 23 = .ok (.aload_n 0, 1) := by decide +kernel
theorem dX2_firstFault_24 : decode cX2_firstFault 24 = .ok (.iload_n 3, 1) := by decide +kernel
theorem dX2_firstFault_25 : decode cX2_firstFault 25 = .ok (.invokevirtual 22, 3) := by decide +kernel
theorem dX2_firstFault_28 : decode cX2_firstFault 28 = .ok (.iload_n 2, 1) := by decide +kernel
theorem dX2_firstFault_29 : decode cX2_firstFault 29 = .ok (.iload_n 1, 1) := by decide +kernel
theorem dX2_firstFault_30 : decode cX2_firstFault 30 = .ok (.invokestatic 26, 3) := by decide +kernel
theorem dX2_firstFault_33 : decode cX2_firstFault 33 = .ok (.ifCond .ne 5, 3) := by decide +kernel
theorem dX2_firstFault_36 : decode cX2_firstFault 36 = .ok (.iload_n 3, 1) := by decide +kernel
theorem dX2_firstFault_37 : decode cX2_firstFault 37 = .ok (.ireturn, 1) := by decide +kernel
theorem dX2_firstFault_38 : decode cX2_firstFault 38 = .ok (.aload_n 0, 1) := by decide +kernel
theorem dX2_firstFault_39 : decode cX2_firstFault 39 = .ok (.getfield 15, 3) := by decide +kernel
theorem dX2_firstFault_42 : decode cX2_firstFault 42 = .ok (.iload_n 2, 1) := by decide +kernel
theorem dX2_firstFault_43 : decode cX2_firstFault 43 = .ok (.dup2, 1) := by decide +kernel
theorem dX2_firstFault_44 : decode cX2_firstFault 44 = .ok (.iaload, 1) := by decide +kernel
theorem dX2_firstFault_45 : decode cX2_firstFault 45 = .ok (.iconst 1, 1) := by decide +kernel
theorem dX2_firstFault_46 : decode cX2_firstFault 46 = .ok (.isub, 1) := by decide +kernel
theorem dX2_firstFault_47 : decode cX2_firstFault 47 = .ok (.iastore, 1) := by decide +kernel
theorem dX2_firstFault_48 : decode cX2_firstFault 48 = .ok (.aload_n 0, 1) := by decide +kernel
theorem dX2_firstFault_49 : decode cX2_firstFault 49 = .ok (.iload_n 3, 1) := by decide +kernel
theorem dX2_firstFault_50 : decode cX2_firstFault 50 = .ok (.invokevirtual 22, 3) := by decide +kernel
theorem dX2_firstFault_53 : decode cX2_firstFault 53 = .ok (.invokestatic 30, 3) := by decide +kernel
theorem dX2_firstFault_56 : decode cX2_firstFault 56 = .ok (.istore 4, 2) := by decide +kernel
theorem dX2_firstFault_58 : decode cX2_firstFault 58 = .ok (.aload_n 0, 1) := by decide +kernel
theorem dX2_firstFault_59 : decode cX2_firstFault 59 = .ok (.iload_n 3, 1) := by decide +kernel
theorem dX2_firstFault_60 : decode cX2_firstFault 60 = .ok (.invokevirtual 22, 3) := by decide +kernel
theorem dX2_firstFault_63 : decode cX2_firstFault 63 = .ok (.bipush 64, 2) := by decide +kernel
theorem dX2_firstFault_65 : decode cX2_firstFault 65 = .ok (.if_icmp .ne 27, 3) := by decide +kernel
theorem dX2_firstFault_68 : decode cX2_firstFault 68 = .ok (.iinc 3 1, 3) := by decide +kernel
theorem dX2_firstFault_71 : decode cX2_firstFault 71 = .ok (.iload_n 3, 1) := by decide +kernel
theorem dX2_firstFault_72 : decode cX2_firstFault 72 = .ok (.aload_n 0, 1) := by decide +kernel
theorem dX2_firstFault_73 : decode cX2_firstFault 73 = .ok (.getfield 18, 3) := by decide +kernel
theorem dX2_firstFault_76 : decode cX2_firstFault 76 = .ok (.if_icmp .ge 16, 3) := by decide +kernel
theorem dX2_firstFault_79 : decode cX2_firstFault 79 = .ok (.aload_n 0, 1) := by decide +kernel
theorem dX2_firstFault_80 : decode cX2_firstFault 80 = .ok (.iload_n 3, 1) := by decide +kernel
theorem dX2_firstFault_81 : decode cX2_firstFault 81 = .ok (.invokevirtual 22, 3) := by decide +kernel
theorem dX2_firstFault_84 : decode cX2_firstFault 84 = .ok (.invokestatic 33, 3) := by decide +kernel
theorem dX2_firstFault_87 : decode cX2_firstFault 87 = .ok (.ifCond .ne 5, 3) := by decide +kernel
theorem dX2_firstFault_90 : decode cX2_firstFault 90 = .ok (.iload_n 3, 1) := by decide +kernel
theorem dX2_firstFault_91 : decode cX2_firstFault 91 = .ok (.ireturn, 1) := by decide +kernel
theorem dX2_firstFault_92 : decode cX2_firstFault 92 = .ok (.iload 4, 2) := by decide +kernel
theorem dX2_firstFault_94 : decode cX2_firstFault 94 = .ok (.ifCond .le 14, 3) := by decide +kernel
theorem dX2_firstFault_97 : decode cX2_firstFault 97 = .ok (.iinc 2 1, 3) := by decide +kernel
theorem dX2_firstFault_100 : decode cX2_firstFault 100 = .ok (.aload_n 0, 1) := by decide +kernel
theorem dX2_firstFault_101 : decode cX2_firstFault 101 = .ok (.getfield 15, 3) := by decide +kernel
theorem dX2_firstFault_104 : decode cX2_firstFault 104 = .ok (.iload_n 2, 1) := by decide +kernel
theorem dX2_firstFault_105 : decode cX2_firstFault 105 = .ok (.iload 4, 2) := by decide +kernel
theorem dX2_firstFault_107 : decode cX2_firstFault 107 = .ok (.iastore, 1) := by decide +kernel
theorem dX2_firstFault_108 : decode cX2_firstFault 108 = .ok (.aload_n 0, 1) := by decide +kernel
theorem dX2_firstFault_109 : decode cX2_firstFault 109 = .ok (.iload_n 2, 1) := by decide +kernel
theorem dX2_firstFault_110 : decode cX2_firstFault 110 = .ok (.invokevirtual 37, 3) := by decide +kernel
theorem dX2_firstFault_113 : decode cX2_firstFault 113 = .ok (.istore_n 2, 1) := by decide +kernel
theorem dX2_firstFault_114 : decode cX2_firstFault 114 = .ok (.iinc 3 1, 3) := by decide +kernel
theorem dX2_firstFault_117 : decode cX2_firstFault 117 = .ok (.goto (-106), 3) := by decide +kernel
theorem dX2_firstFault_120 : decode cX2_firstFault 120 = .ok (.iload_n 2, 1) := by decide +kernel
theorem dX2_firstFault_121 : decode cX2_firstFault 121 = .ok (.ifCond .ge 8, 3) := by decide +kernel
theorem dX2_firstFault_124 : decode cX2_firstFault 124 = .ok (.bipush (-6), 2) := by decide +kernel
theorem dX2_firstFault_126 : decode cX2_firstFault 126 = .ok (.goto 7, 3) := by decide +kernel
theorem dX2_firstFault_129 : decode cX2_firstFault 129 = .ok (.aload_n 0, 1) := by decide +kernel
theorem dX2_firstFault_130 : decode cX2_firstFault 130 = .ok (.getfield 18, 3) := by decide +kernel
theorem dX2_firstFault_133 : decode cX2_firstFault 133 = .ok (.ireturn, 1) := by decide +kernel
theorem dX2_canStand_0 : decode cX2_canStand 0 = .ok (.iload_n 0, 1) := by decide +kernel
theorem dX2_canStand_1 : decode cX2_canStand 1 = .ok (.invokestatic 30, 3) := by decide +kernel
theorem dX2_canStand_4 : decode cX2_canStand 4 = .ok (.istore_n 3, 1) := by decide +kernel
theorem dX2_canStand_5 : decode cX2_canStand 5 = .ok (.iload_n 3, 1) := by decide +kernel
theorem dX2_canStand_6 : decode cX2_canStand 6 = .ok (.ifCond .eq 23, 3) := by decide +kernel
theorem dX2_canStand_9 : decode cX2_canStand 9 = .ok (.iload_n 3, 1) := by decide +kernel
theorem dX2_canStand_10 : decode cX2_canStand 10 = .ok (.ifCond .le 23, 3) := by decide +kernel
theorem dX2_canStand_13 : decode cX2_canStand 13 = .ok (.iload_n 1, 1) := by decide +kernel
theorem dX2_canStand_14 : decode cX2_canStand 14 = .ok (.bipush 9, 2) := by decide +kernel
theorem dX2_canStand_16 : decode cX2_canStand 16 = .ok (.if_icmp .ge 17, 3) := by decide +kernel
theorem dX2_canStand_19 : decode cX2_canStand 19 = .ok (.iload_n 2, 1) := by decide +kernel
theorem dX2_canStand_20 : decode cX2_canStand 20 = .ok (.ifCond .ne 9, 3) := by decide +kernel
theorem dX2_canStand_23 : decode cX2_canStand 23 = .ok (.iload_n 0, 1) := by decide +kernel
theorem dX2_canStand_24 : decode cX2_canStand 24 = .ok (.bipush 107, 2) := by decide +kernel
theorem dX2_canStand_26 : decode cX2_canStand 26 = .ok (.if_icmp .eq 7, 3) := by decide +kernel
theorem dX2_canStand_29 : decode cX2_canStand 29 = .ok (.iconst 1, 1) := by decide +kernel
theorem dX2_canStand_30 : decode cX2_canStand 30 = .ok (.goto 4, 3) := by decide +kernel
theorem dX2_canStand_33 : decode cX2_canStand 33 = .ok (.iconst 0, 1) := by decide +kernel
theorem dX2_canStand_34 : decode cX2_canStand 34 = .ok (.ireturn, 1) := by decide +kernel
theorem dX2_isHandSign_0 : decode cX2_isHandSign 0 = .ok (.iload_n 0, 1) := by decide +kernel
theorem dX2_isHandSign_1 : decode cX2_isHandSign 1 = .ok (.bipush 48, 2) := by decide +kernel
theorem dX2_isHandSign_3 : decode cX2_isHandSign 3 = .ok (.if_icmp .lt 13, 3) := by decide +kernel
theorem dX2_isHandSign_6 : decode cX2_isHandSign 6 = .ok (.iload_n 0, 1) := by decide +kernel
theorem dX2_isHandSign_7 : decode cX2_isHandSign 7 = .ok (.bipush 52, 2) := by decide +kernel
theorem dX2_isHandSign_9 : decode cX2_isHandSign 9 = .ok (.if_icmp .ge 7, 3) := by decide +kernel
theorem dX2_isHandSign_12 : decode cX2_isHandSign 12 = .ok (.iconst 1, 1) := by decide +kernel
theorem dX2_isHandSign_13 : decode cX2_isHandSign 13 = .ok (.goto 4, 3) := by decide +kernel
theorem dX2_isHandSign_16 : decode cX2_isHandSign 16 = .ok (.iconst 0, 1) := by decide +kernel
theorem dX2_isHandSign_17 : decode cX2_isHandSign 17 = .ok (.ireturn, 1) := by decide +kernel
theorem dX2_depthOfNext_0 : decode cX2_depthOfNext 0 = .ok (.iload_n 1, 1) := by decide +kernel
theorem dX2_depthOfNext_1 : decode cX2_depthOfNext 1 = .ok (.istore_n 2, 1) := by decide +kernel
theorem dX2_depthOfNext_2 : decode cX2_depthOfNext 2 = .ok (.iload_n 2, 1) := by decide +kernel
theorem dX2_depthOfNext_3 : decode cX2_depthOfNext 3 = .ok (.ifCond .lt 26, 3) := by decide +kernel
theorem dX2_depthOfNext_6 : decode cX2_depthOfNext 6 = .ok (.iload_n 2, 1) := by decide +kernel
theorem dX2_depthOfNext_7 : decode cX2_depthOfNext 7 = .ok (.bipush 9, 2) := by decide +kernel
theorem dX2_depthOfNext_9 : decode cX2_depthOfNext 9 = .ok (.if_icmp .gt 14, 3) := by decide +kernel
theorem dX2_depthOfNext_12 : decode cX2_depthOfNext 12 = .ok (.aload_n 0, 1) := by decide +kernel
theorem dX2_depthOfNext_13 : decode cX2_depthOfNext 13 = .ok (.getfield 15, 3) := by decide +kernel
theorem dX2_depthOfNext_16 : decode cX2_depthOfNext 16 = .ok (.iload_n 2, 1) := by decide +kernel
theorem dX2_depthOfNext_17 : decode cX2_depthOfNext 17 = .ok (.iaload, 1) := by decide +kernel
theorem dX2_depthOfNext_18 : decode cX2_depthOfNext 18 = .ok (.ifCond .le 5, 3) := by decide +kernel
theorem dX2_depthOfNext_21 : decode cX2_depthOfNext 21 = .ok (.iload_n 2, 1) := by decide +kernel
theorem dX2_depthOfNext_22 : decode cX2_depthOfNext 22 = .ok (.ireturn, 1) := by decide +kernel
theorem dX2_depthOfNext_23 : decode cX2_depthOfNext 23 = .ok (.iinc 2 (-1), 3) := by decide +kernel
theorem dX2_depthOfNext_26 : decode cX2_depthOfNext 26 = .ok (.goto (-24), 3) := by decide +kernel
theorem dX2_depthOfNext_29 : decode cX2_depthOfNext 29 = .ok (.iconst (-1), 1) := by decide +kernel
theorem dX2_depthOfNext_30 : decode cX2_depthOfNext 30 = .ok (.ireturn, 1) := by decide +kernel
theorem dX3_init_0 : decode cX3_init 0 = .ok (.aload_n 0, 1) := by decide +kernel
theorem dX3_init_1 : decode cX3_init 1 = .ok (.invokespecial 3, 3) := by decide +kernel
theorem dX3_init_4 : decode cX3_init 4 = .ok (.aload_n 0, 1) := by decide +kernel
theorem dX3_init_5 : decode cX3_init 5 = .ok (.bipush 8, 2) := by decide +kernel
theorem dX3_init_7 : decode cX3_init 7 = .ok (.newarray .int, 2) := by decide +kernel
theorem dX3_init_9 : decode cX3_init 9 = .ok (.putfield 9, 3) := by decide +kernel
theorem dX3_init_12 : decode cX3_init 12 = .ok (.return_, 1) := by decide +kernel
theorem dX3_start_0 : decode cX3_start 0 = .ok (.aload_n 0, 1) := by decide +kernel
theorem dX3_start_1 : decode cX3_start 1 = .ok (.iload_n 1, 1) := by decide +kernel
theorem dX3_start_2 : decode cX3_start 2 = .ok (.ifCond .lt 13, 3) := by decide +kernel
theorem dX3_start_5 : decode cX3_start 5 = .ok (.iload_n 1, 1) := by decide +kernel
theorem dX3_start_6 : decode cX3_start 6 = .ok (.bipush 8, 2) := by decide +kernel
theorem dX3_start_8 : decode cX3_start 8 = .ok (.if_icmp .gt 7, 3) := by decide +kernel
theorem dX3_start_11 : decode cX3_start 11 = .ok (.iload_n 1, 1) := by decide +kernel
theorem dX3_start_12 : decode cX3_start 12 = .ok (.goto 4, 3) := by decide +kernel
theorem dX3_start_15 : decode cX3_start 15 = .ok (.iconst 0, 1) := by decide +kernel
theorem dX3_start_16 : decode cX3_start 16 = .ok (.putfield 15, 3) := by decide +kernel
theorem dX3_start_19 : decode cX3_start 19 = .ok (.iconst 0, 1) := by decide +kernel
theorem dX3_start_20 : decode cX3_start 20 = .ok (.istore_n 2, 1) := by decide +kernel
theorem dX3_start_21 : decode cX3_start 21 = .ok (.iload_n 2, 1) := by decide +kernel
theorem dX3_start_22 : decode cX3_start 22 = .ok (.aload_n 0, 1) := by decide +kernel
theorem dX3_start_23 : decode cX3_start 23 = .ok (.getfield 15, 3) := by decide +kernel
theorem dX3_start_26 : decode cX3_start 26 = .ok (.if_icmp .ge 16, 3) := by decide +kernel
theorem dX3_start_29 : decode cX3_start 29 = .ok (.aload_n 0, 1) := by decide +kernel
theorem dX3_start_30 : decode cX3_start 30 = .ok (.getfield 9, 3) := by decide +kernel
theorem dX3_start_33 : decode cX3_start 33 = .ok (.iload_n 2, 1) := by decide +kernel
theorem dX3_start_34 : decode cX3_start 34 = .ok (.iconst 0, 1) := by decide +kernel
theorem dX3_start_35 : decode cX3_start 35 = .ok (.iastore, 1) := by decide +kernel
theorem dX3_start_36 : decode cX3_start 36 = .ok (.iinc 2 1, 3) := by decide +kernel
theorem dX3_start_39 : decode cX3_start 39 = .ok (.goto (-18), 3) := by decide +kernel
theorem dX3_start_42 : decode cX3_start 42 = .ok (.return_, 1) := by decide +kernel
theorem dX3_add_0 : decode cX3_add 0 = .ok (.aload_n 0, 1) := by decide +kernel
theorem dX3_add_1 : decode cX3_add 1 = .ok (.getfield 15, 3) := by decide +kernel
theorem dX3_add_4 : decode cX3_add 4 = .ok (.ifCond .lt 12, 3) := by decide +kernel
theorem dX3_add_7 : decode cX3_add 7 = .ok (.aload_n 0, 1) := by decide +kernel
theorem dX3_add_8 : decode cX3_add 8 = .ok (.getfield 15, 3) := by decide +kernel
theorem dX3_add_11 : decode cX3_add 11 = .ok (.bipush 8, 2) := by decide +kernel
theorem dX3_add_13 : decode cX3_add 13 = .ok (.if_icmp .lt 5, 3) := by decide +kernel
theorem dX3_add_16 : decode cX3_add 16 = .ok (.iconst 0, 1) := by decide +kernel
theorem dX3_add_17 : decode cX3_add 17 = .ok (.ireturn, 1) := by decide +kernel
theorem dX3_add_18 : decode cX3_add 18 = .ok (.aload_n 0, 1) := by decide +kernel
theorem dX3_add_19 : decode cX3_add 19 = .ok (.getfield 9, 3) := by decide +kernel
theorem dX3_add_22 : decode cX3_add 22 = .ok (.aload_n 0, 1) := by decide +kernel
theorem dX3_add_23 : decode cX3_add 23 = .ok (.getfield 15, 3) := by decide +kernel
theorem dX3_add_26 : decode cX3_add 26 = .ok (.iload_n 1, 1) := by decide +kernel
theorem dX3_add_27 : decode cX3_add 27 = .ok (.iastore, 1) := by decide +kernel
theorem dX3_add_28 : decode cX3_add 28 = .ok (.aload_n 0, 1) := by decide +kernel
theorem dX3_add_29 : decode cX3_add 29 = .ok (.dup, 1) := by decide +kernel
theorem dX3_add_30 : decode cX3_add 30 = .ok (.getfield 15, 3) := by decide +kernel
theorem dX3_add_33 : decode cX3_add 33 = .ok (.iconst 1, 1) := by decide +kernel
theorem dX3_add_34 : decode cX3_add 34 = .ok (.iadd, 1) := by decide +kernel
theorem dX3_add_35 : decode cX3_add 35 = .ok (.putfield 15, 3) := by decide +kernel
theorem dX3_add_38 : decode cX3_add 38 = .ok (.iconst 1, 1) := by decide +kernel
theorem dX3_add_39 : decode cX3_add 39 = .ok (.ireturn, 1) := by decide +kernel
theorem dX3_value_0 : decode cX3_value 0 = .ok (.iload_n 1, 1) := by decide +kernel
theorem dX3_value_1 : decode cX3_value 1 = .ok (.ifCond .lt 26, 3) := by decide +kernel
theorem dX3_value_4 : decode cX3_value 4 = .ok (.iload_n 1, 1) := by decide +kernel
theorem dX3_value_5 : decode cX3_value 5 = .ok (.aload_n 0, 1) := by decide +kernel
theorem dX3_value_6 : decode cX3_value 6 = .ok (.getfield 15, 3) := by decide +kernel
theorem dX3_value_9 : decode cX3_value 9 = .ok (.if_icmp .ge 18, 3) := by decide +kernel
theorem dX3_value_12 : decode cX3_value 12 = .ok (.iload_n 1, 1) := by decide +kernel
theorem dX3_value_13 : decode cX3_value 13 = .ok (.bipush 8, 2) := by decide +kernel
theorem dX3_value_15 : decode cX3_value 15 = .ok (.if_icmp .ge 12, 3) := by decide +kernel
theorem dX3_value_18 : decode cX3_value 18 = .ok (.aload_n 0, 1) := by decide +kernel
theorem dX3_value_19 : decode cX3_value 19 = .ok (.getfield 9, 3) := by decide +kernel
theorem dX3_value_22 : decode cX3_value 22 = .ok (.iload_n 1, 1) := by decide +kernel
theorem dX3_value_23 : decode cX3_value 23 = .ok (.iaload, 1) := by decide +kernel
theorem dX3_value_24 : decode cX3_value 24 = .ok (.goto 4, 3) := by decide +kernel
theorem dX3_value_27 : decode cX3_value 27 = .ok (.iconst 0, 1) := by decide +kernel
theorem dX3_value_28 : decode cX3_value 28 = .ok (.ireturn, 1) := by decide +kernel
theorem dX3_take_0 : decode cX3_take 0 = .ok (.aload_n 0, 1) := by decide +kernel
theorem dX3_take_1 : decode cX3_take 1 = .ok (.iload_n 2, 1) := by decide +kernel
theorem dX3_take_2 : decode cX3_take 2 = .ok (.invokevirtual 19, 3) := by decide +kernel
theorem dX3_take_5 : decode cX3_take 5 = .ok (.iconst 0, 1) := by decide +kernel
theorem dX3_take_6 : decode cX3_take 6 = .ok (.istore_n 3, 1) := by decide +kernel
theorem dX3_take_7 : decode cX3_take 7 = .ok (.iload_n 3, 1) := by decide +kernel
theorem dX3_take_8 : decode cX3_take 8 = .ok (.aload_n 0, 1) := by decide +kernel
theorem dX3_take_9 : decode cX3_take 9 = .ok (.getfield 15, 3) := by decide +kernel
theorem dX3_take_12 : decode cX3_take 12 = .ok (.if_icmp .ge 20, 3) := by decide +kernel
theorem dX3_take_15 : decode cX3_take 15 = .ok (.aload_n 0, 1) := by decide +kernel
theorem dX3_take_16 : decode cX3_take 16 = .ok (.getfield 9, 3) := by decide +kernel
theorem dX3_take_19 : decode cX3_take 19 = .ok (.iload_n 3, 1) := by decide +kernel
theorem dX3_take_20 : decode cX3_take 20 = .ok (.aload_n 1, 1) := by decide +kernel
theorem dX3_take_21 : decode cX3_take 21 = .ok (.iload_n 3, 1) := by decide +kernel
theorem dX3_take_22 : decode cX3_take 22 = .ok (.invokevirtual 23, 3) := by decide +kernel
theorem dX3_take_25 : decode cX3_take 25 = .ok (.iastore, 1) := by decide +kernel
theorem dX3_take_26 : decode cX3_take 26 = .ok (.iinc 3 1, 3) := by decide +kernel
theorem dX3_take_29 : decode cX3_take 29 = .ok (.goto (-22), 3) := by decide +kernel
theorem dX3_take_32 : decode cX3_take 32 = .ok (.return_, 1) := by decide +kernel
theorem dX3_tell_0 : decode cX3_tell 0 = .ok (.iload_n 1, 1) := by decide +kernel
theorem dX3_tell_1 : decode cX3_tell 1 = .ok (.iconst (-1), 1) := by decide +kernel
theorem dX3_tell_2 : decode cX3_tell 2 = .ok (.if_icmp .ne 8, 3) := by decide +kernel
theorem dX3_tell_5 : decode cX3_tell 5 = .ok (.aload_n 0, 1) := by decide +kernel
theorem dX3_tell_6 : decode cX3_tell 6 = .ok (.getfield 15, 3) := by decide +kernel
theorem dX3_tell_9 : decode cX3_tell 9 = .ok (.ireturn, 1) := by decide +kernel
theorem dX3_tell_10 : decode cX3_tell 10 = .ok (.iload_n 1, 1) := by decide +kernel
theorem dX3_tell_11 : decode cX3_tell 11 = .ok (.ifCond .lt 19, 3) := by decide +kernel
theorem dX3_tell_14 : decode cX3_tell 14 = .ok (.iload_n 1, 1) := by decide +kernel
theorem dX3_tell_15 : decode cX3_tell 15 = .ok (.aload_n 0, 1) := by decide +kernel
theorem dX3_tell_16 : decode cX3_tell 16 = .ok (.getfield 15, 3) := by decide +kernel
theorem dX3_tell_19 : decode cX3_tell 19 = .ok (.if_icmp .ge 11, 3) := by decide +kernel
theorem dX3_tell_22 : decode cX3_tell 22 = .ok (.aload_n 0, 1) := by decide +kernel
theorem dX3_tell_23 : decode cX3_tell 23 = .ok (.iload_n 1, 1) := by decide +kernel
theorem dX3_tell_24 : decode cX3_tell 24 = .ok (.invokevirtual 23, 3) := by decide +kernel
theorem dX3_tell_27 : decode cX3_tell 27 = .ok (.goto 5, 3) := by decide +kernel
theorem dX3_tell_30 : decode cX3_tell 30 = .ok (.bipush (-6), 2) := by decide +kernel
theorem dX3_tell_32 : decode cX3_tell 32 = .ok (.ireturn, 1) := by decide +kernel
theorem dX3_next_0 : decode cX3_next 0 = .ok (.iload_n 1, 1) := by decide +kernel
theorem dX3_next_1 : decode cX3_next 1 = .ok (.aload_n 0, 1) := by decide +kernel
theorem dX3_next_2 : decode cX3_next 2 = .ok (.getfield 15, 3) := by decide +kernel
theorem dX3_next_5 : decode cX3_next 5 = .ok (.invokestatic 27, 3) := by decide +kernel
theorem dX3_next_8 : decode cX3_next 8 = .ok (.iconst 1, 1) := by decide +kernel
theorem dX3_next_9 : decode cX3_next 9 = .ok (.isub, 1) := by decide +kernel
theorem dX3_next_10 : decode cX3_next 10 = .ok (.istore_n 3, 1) := by decide +kernel
theorem dX3_next_11 : decode cX3_next 11 = .ok (.iload_n 3, 1) := by decide +kernel
theorem dX3_next_12 : decode cX3_next 12 = .ok (.ifCond .lt 37, 3) := by decide +kernel
theorem dX3_next_15 : decode cX3_next 15 = .ok (.aload_n 0, 1) := by decide +kernel
theorem dX3_next_16 : decode cX3_next 16 = .ok (.iload_n 3, 1) := by decide +kernel
theorem dX3_next_17 : decode cX3_next 17 = .ok (.invokevirtual 23, 3) := by decide +kernel
theorem dX3_next_20 : decode cX3_next 20 = .ok (.iload_n 2, 1) := by decide +kernel
theorem dX3_next_21 : decode cX3_next 21 = .ok (.if_icmp .ge 15, 3) := by decide +kernel
theorem dX3_next_24 : decode cX3_next 24 = .ok (.aload_n 0, 1) := by decide +kernel
theorem dX3_next_25 : decode cX3_next 25 = .ok (.getfield 9, 3) := by decide +kernel
theorem dX3_next_28 : decode cX3_next 28 = .ok (.iload_n 3, 1) := by decide +kernel
theorem dX3_next_29 : decode cX3_next 29 = .ok (.dup2, 1) := by decide +kernel
theorem dX3_next_30 : decode cX3_next 30 = .ok (.iaload, 1) := by decide +kernel
theorem dX3_next_31 : decode cX3_next 31 = .ok (.iconst 1, 1) := by decide +kernel
theorem dX3_next_32 : decode cX3_next 32 = .ok (.iadd, 1) := by decide +kernel
theorem dX3_next_33 : decode cX3_next 33 = .ok (.iastore, 1) := by decide +kernel
theorem dX3_next_34 : decode cX3_next 34 = .ok (.iconst 1, 1) := by decide +kernel
theorem dX3_next_35 : decode cX3_next 35 = .ok (.ireturn, 1) := by decide +kernel
theorem dX3_next_36 : decode cX3_next 36 = .ok (.aload_n 0, 1) := by decide +kernel
theorem dX3_next_37 : decode cX3_next 37 = .ok (.getfield 9, 3) := by decide +kernel
theorem dX3_next_40 : decode cX3_next 40 = .ok (.iload_n 3, 1) := by decide +kernel
theorem dX3_next_41 : decode cX3_next 41 = .ok (.iconst 0, 1) := by decide +kernel
theorem dX3_next_42 : decode cX3_next 42 = .ok (.iastore, 1) := by decide +kernel
theorem dX3_next_43 : decode cX3_next 43 = .ok (.iinc 3 (-1), 3) := by decide +kernel
theorem dX3_next_46 : decode cX3_next 46 = .ok (.goto (-35), 3) := by decide +kernel
theorem dX3_next_49 : decode cX3_next 49 = .ok (.iconst 0, 1) := by decide +kernel
theorem dX3_next_50 : decode cX3_next 50 = .ok (.ireturn, 1) := by decide +kernel
theorem dX4_init_0 : decode cX4_init 0 = .ok (.aload_n 0, 1) := by decide +kernel
theorem dX4_init_1 : decode cX4_init 1 = .ok (.invokespecial 3, 3) := by decide +kernel
theorem dX4_init_4 : decode cX4_init 4 = .ok (.aload_n 0, 1) := by decide +kernel
theorem dX4_init_5 : decode cX4_init 5 = .ok (.new 9, 3) := by decide +kernel
theorem dX4_init_8 : decode cX4_init 8 = .ok (.dup, 1) := by decide +kernel
theorem dX4_init_9 : decode cX4_init 9 = .ok (.invokespecial 11, 3) := by decide +kernel
theorem dX4_init_12 : decode cX4_init 12 = .ok (.putfield 12, 3) := by decide +kernel
theorem dX4_init_15 : decode cX4_init 15 = .ok (.aload_n 0, 1) := by decide +kernel
theorem dX4_init_16 : decode cX4_init 16 = .ok (.new 18, 3) := by decide +kernel
theorem dX4_init_19 : decode cX4_init 19 = .ok (.dup, 1) := by decide +kernel
theorem dX4_init_20 : decode cX4_init 20 = .ok (.invokespecial 20, 3) := by decide +kernel
theorem dX4_init_23 : decode cX4_init 23 = .ok (.putfield 21, 3) := by decide +kernel
theorem dX4_init_26 : decode cX4_init 26 = .ok (.aload_n 0, 1) := by decide +kernel
theorem dX4_init_27 : decode cX4_init 27 = .ok (.sipush 200, 3) := by decide +kernel
theorem dX4_init_30 : decode cX4_init 30 = .ok (.newarray .int, 2) := by decide +kernel
theorem dX4_init_32 : decode cX4_init 32 = .ok (.putfield 25, 3) := by decide +kernel
theorem dX4_init_35 : decode cX4_init 35 = .ok (.aload_n 0, 1) := by decide +kernel
theorem dX4_init_36 : decode cX4_init 36 = .ok (.aload_n 1, 1) := by decide +kernel
theorem dX4_init_37 : decode cX4_init 37 = .ok (.putfield 29, 3) := by decide +kernel
theorem dX4_init_40 : decode cX4_init 40 = .ok (.aload_n 0, 1) := by decide +kernel
theorem dX4_init_41 : decode cX4_init 41 = .ok (.aload_n 2, 1) := by decide +kernel
theorem dX4_init_42 : decode cX4_init 42 = .ok (.putfield 33, 3) := by decide +kernel
theorem dX4_init_45 : decode cX4_init 45 = .ok (.return_, 1) := by decide +kernel
theorem dX4_work_0 : decode cX4_work 0 = .ok (.aload_n 0, 1) := by decide +kernel
theorem dX4_work_1 : decode cX4_work 1 = .ok (.getfield 12, 3) := by decide +kernel
theorem dX4_work_4 : decode cX4_work 4 = .ok (.invokevirtual 37, 3) := by decide +kernel
theorem dX4_work_7 : decode cX4_work 7 = .ok (.aload_n 0, 1) := by decide +kernel
theorem dX4_work_8 : decode cX4_work 8 = .ok (.getfield 21, 3) := by decide +kernel
theorem dX4_work_11 : decode cX4_work 11 = .ok (.iconst 0, 1) := by decide +kernel
theorem dX4_work_12 : decode cX4_work 12 = .ok (.putfield 40, 3) := by decide +kernel
theorem dX4_work_15 : decode cX4_work 15 = .ok (.aload_n 0, 1) := by decide +kernel
theorem dX4_work_16 : decode cX4_work 16 = .ok (.aload_n 3, 1) := by decide +kernel
theorem dX4_work_17 : decode cX4_work 17 = .ok (.putfield 33, 3) := by decide +kernel
theorem dX4_work_20 : decode cX4_work 20 = .ok (.aload_n 0, 1) := by decide +kernel
theorem dX4_work_21 : decode cX4_work 21 = .ok (.iconst (-1), 1) := by decide +kernel
theorem dX4_work_22 : decode cX4_work 22 = .ok (.putfield 44, 3) := by decide +kernel
theorem dX4_work_25 : decode cX4_work 25 = .ok (.aload_n 0, 1) := by decide +kernel
theorem dX4_work_26 : decode cX4_work 26 = .ok (.iconst 0, 1) := by decide +kernel
theorem dX4_work_27 : decode cX4_work 27 = .ok (.putfield 47, 3) := by decide +kernel
theorem dX4_work_30 : decode cX4_work 30 = .ok (.aload_n 0, 1) := by decide +kernel
theorem dX4_work_31 : decode cX4_work 31 = .ok (.iconst 0, 1) := by decide +kernel
theorem dX4_work_32 : decode cX4_work 32 = .ok (.putfield 50, 3) := by decide +kernel
theorem dX4_work_35 : decode cX4_work 35 = .ok (.aload_n 0, 1) := by decide +kernel
theorem dX4_work_36 : decode cX4_work 36 = .ok (.bipush (-6), 2) := by decide +kernel
theorem dX4_work_38 : decode cX4_work 38 = .ok (.putfield 53, 3) := by decide +kernel
theorem dX4_work_41 : decode cX4_work 41 = .ok (.aload_n 0, 1) := by decide +kernel
theorem dX4_work_42 : decode cX4_work 42 = .ok (.bipush (-6), 2) := by decide +kernel
theorem dX4_work_44 : decode cX4_work 44 = .ok (.putfield 56, 3) := by decide +kernel
theorem dX4_work_47 : decode cX4_work 47 = .ok (.aload_n 0, 1) := by decide +kernel
theorem dX4_work_48 : decode cX4_work 48 = .ok (.iconst 0, 1) := by decide +kernel
theorem dX4_work_49 : decode cX4_work 49 = .ok (.putfield 59, 3) := by decide +kernel
theorem dX4_work_52 : decode cX4_work 52 = .ok (.aload_n 0, 1) := by decide +kernel
theorem dX4_work_53 : decode cX4_work 53 = .ok (.iconst 0, 1) := by decide +kernel
theorem dX4_work_54 : decode cX4_work 54 = .ok (.putfield 62, 3) := by decide +kernel
theorem dX4_work_57 : decode cX4_work 57 = .ok (.aload_n 0, 1) := by decide +kernel
theorem dX4_work_58 : decode cX4_work 58 = .ok (.iload_n 1, 1) := by decide +kernel
theorem dX4_work_59 : decode cX4_work 59 = .ok (.iload_n 2, 1) := by decide +kernel
theorem dX4_work_60 : decode cX4_work 60 = .ok (.iconst (-1), 1) := by decide +kernel
theorem dX4_work_61 : decode cX4_work 61 = .ok (.iconst (-1), 1) := by decide +kernel
theorem dX4_work_62 : decode cX4_work 62 = .ok (.invokevirtual 65, 3) := by decide +kernel
theorem dX4_work_65 : decode cX4_work 65 = .ok (.iconst 0, 1) := by decide +kernel
theorem dX4_work_66 : decode cX4_work 66 = .ok (.istore 4, 2) := by decide +kernel
theorem dX4_work_68 : decode cX4_work 68 = .ok (.iload 4, 2) := by decide +kernel
theorem dX4_work_70 : decode cX4_work 70 = .ok (.ldc 69, 2) := by decide +kernel
theorem dX4_work_72 : decode cX4_work 72 = .ok (.if_icmp .ge 35, 3) := by decide +kernel
theorem dX4_work_75 : decode cX4_work 75 = .ok (.aload_n 0, 1) := by decide +kernel
theorem dX4_work_76 : decode cX4_work 76 = .ok (.getfield 44, 3) := by decide +kernel
theorem dX4_work_79 : decode cX4_work 79 = .ok (.iconst (-1), 1) := by decide +kernel
theorem dX4_work_80 : decode cX4_work 80 = .ok (.if_icmp .ne 27, 3) := by decide +kernel
theorem dX4_work_83 : decode cX4_work 83 = .ok (.aload_n 0, 1) := by decide +kernel
theorem dX4_work_84 : decode cX4_work 84 = .ok (.getfield 70, 3) := by decide +kernel
theorem dX4_work_87 : decode cX4_work 87 = .ok (.ifCond .eq 10, 3) := by decide +kernel
theorem dX4_work_90 : decode cX4_work 90 = .ok (.aload_n 0, 1) := by decide +kernel
theorem dX4_work_91 : decode cX4_work 91 = .ok (.invokevirtual 74, 3) := by decide +kernel
theorem dX4_work_94 : decode cX4_work 94 = .ok (.goto 7, 3) := by decide +kernel
theorem dX4_work_97 : decode cX4_work 97 = .ok (.aload_n 0, 1) := by decide +kernel
theorem dX4_work_98 : decode cX4_work 98 = .ok (.invokevirtual 77, 3) := by decide +kernel
theorem dX4_work_101 : decode cX4_work 101 = .ok (.iinc 4 1, 3) := by decide +kernel
theorem dX4_work_104 : decode cX4_work 104 = .ok (.goto (-36), 3) := by decide +kernel
theorem dX4_work_107 : decode cX4_work 107 = .ok (.aload_n 0, 1) := by decide +kernel
theorem dX4_work_108 : decode cX4_work 108 = .ok (.getfield 44, 3) := by decide +kernel
theorem dX4_work_111 : decode cX4_work 111 = .ok (.iconst (-1), 1) := by decide +kernel
theorem dX4_work_112 : decode cX4_work 112 = .ok (.if_icmp .ne 9, 3) := by decide +kernel
theorem dX4_work_115 : decode cX4_work 115 = .ok (.aload_n 0, 1) := by decide +kernel
theorem dX4_work_116 : decode cX4_work 116 = .ok (.bipush 9, 2) := by decide +kernel
theorem dX4_work_118 : decode cX4_work 118 = .ok (.putfield 44, 3) := by decide +kernel
theorem dX4_work_121 : decode cX4_work 121 = .ok (.return_, 1) := by decide +kernel
theorem dX4_tell_0 : decode cX4_tell 0 = .ok (.iload_n 1, 1) := by decide +kernel
theorem dX4_tell_1 : decode cX4_tell 1 = .ok (.tableswitch 69 0 5 #[39, 44, 49, 54, 59, 64], 39) := by decide +kernel
theorem dX4_tell_40 : decode cX4_tell 40 = .ok (.aload_n 0, 1) := by decide +kernel
theorem dX4_tell_41 : decode cX4_tell 41 = .ok (.getfield 44, 3) := by decide +kernel
theorem dX4_tell_44 : decode cX4_tell 44 = .ok (.ireturn, 1) := by decide +kernel
theorem dX4_tell_45 : decode cX4_tell 45 = .ok (.aload_n 0, 1) := by decide +kernel
theorem dX4_tell_46 : decode cX4_tell 46 = .ok (.getfield 47, 3) := by decide +kernel
theorem dX4_tell_49 : decode cX4_tell 49 = .ok (.ireturn, 1) := by decide +kernel
theorem dX4_tell_50 : decode cX4_tell 50 = .ok (.aload_n 0, 1) := by decide +kernel
theorem dX4_tell_51 : decode cX4_tell 51 = .ok (.getfield 50, 3) := by decide +kernel
theorem dX4_tell_54 : decode cX4_tell 54 = .ok (.ireturn, 1) := by decide +kernel
theorem dX4_tell_55 : decode cX4_tell 55 = .ok (.aload_n 0, 1) := by decide +kernel
theorem dX4_tell_56 : decode cX4_tell 56 = .ok (.getfield 53, 3) := by decide +kernel
theorem dX4_tell_59 : decode cX4_tell 59 = .ok (.ireturn, 1) := by decide +kernel
theorem dX4_tell_60 : decode cX4_tell 60 = .ok (.aload_n 0, 1) := by decide +kernel
theorem dX4_tell_61 : decode cX4_tell 61 = .ok (.getfield 56, 3) := by decide +kernel
theorem dX4_tell_64 : decode cX4_tell 64 = .ok (.ireturn, 1) := by decide +kernel
theorem dX4_tell_65 : decode cX4_tell 65 = .ok (.aload_n 0, 1) := by decide +kernel
theorem dX4_tell_66 : decode cX4_tell 66 = .ok (.getfield 59, 3) := by decide +kernel
theorem dX4_tell_69 : decode cX4_tell 69 = .ok (.ireturn, 1) := by decide +kernel
theorem dX4_tell_70 : decode cX4_tell 70 = .ok (.aload_n 0, 1) := by decide +kernel
theorem dX4_tell_71 : decode cX4_tell 71 = .ok (.getfield 62, 3) := by decide +kernel
theorem dX4_tell_74 : decode cX4_tell 74 = .ok (.ireturn, 1) := by decide +kernel
theorem dX4_answerer_0 : decode cX4_answerer 0 = .ok (.iload_n 1, 1) := by decide +kernel
theorem dX4_answerer_1 : decode cX4_answerer 1 = .ok (.ifCond .lt 27, 3) := by decide +kernel
theorem dX4_answerer_4 : decode cX4_answerer 4 = .ok (.iload_n 1, 1) := by decide +kernel
theorem dX4_answerer_5 : decode cX4_answerer 5 = .ok (.aload_n 0, 1) := by decide +kernel
theorem dX4_answerer_6 : decode cX4_answerer 6 = .ok (.getfield 62, 3) := by decide +kernel
theorem dX4_answerer_9 : decode cX4_answerer 9 = .ok (.if_icmp .ge 19, 3) := by decide +kernel
theorem dX4_answerer_12 : decode cX4_answerer 12 = .ok (.iload_n 1, 1) := by decide +kernel
theorem dX4_answerer_13 : decode cX4_answerer 13 = .ok (.sipush 200, 3) := by decide +kernel
theorem dX4_answerer_16 : decode cX4_answerer 16 = .ok (.if_icmp .ge 12, 3) := by decide +kernel
theorem dX4_answerer_19 : decode cX4_answerer 19 = .ok (.aload_n 0, 1) := by decide +kernel
theorem dX4_answerer_20 : decode cX4_answerer 20 = .ok (.getfield 25, 3) := by decide +kernel
theorem dX4_answerer_23 : decode cX4_answerer 23 = .ok (.iload_n 1, 1) := by decide +kernel
theorem dX4_answerer_24 : decode cX4_answerer 24 = .ok (.iaload, 1) := by decide +kernel
theorem dX4_answerer_25 : decode cX4_answerer 25 = .ok (.goto 5, 3) := by decide +kernel
theorem dX4_answerer_28 : decode cX4_answerer 28 = .ok (.bipush (-6), 2) := by decide +kernel
theorem dX4_answerer_30 : decode cX4_answerer 30 = .ok (.ireturn, 1) := by decide +kernel
theorem dX4_doing_0 : decode cX4_doing 0 = .ok (.aload_n 0, 1) := by decide +kernel
theorem dX4_doing_1 : decode cX4_doing 1 = .ok (.getfield 44, 3) := by decide +kernel
theorem dX4_doing_4 : decode cX4_doing 4 = .ok (.bipush 8, 2) := by decide +kernel
theorem dX4_doing_6 : decode cX4_doing 6 = .ok (.if_icmp .ne 20, 3) := by decide +kernel
theorem dX4_doing_9 : decode cX4_doing 9 = .ok (.aload_n 0, 1) := by decide +kernel
theorem dX4_doing_10 : decode cX4_doing 10 = .ok (.getfield 53, 3) := by decide +kernel
theorem dX4_doing_13 : decode cX4_doing 13 = .ok (.iconst 1, 1) := by decide +kernel
theorem dX4_doing_14 : decode cX4_doing 14 = .ok (.iadd, 1) := by decide +kernel
theorem dX4_doing_15 : decode cX4_doing 15 = .ok (.bipush 100, 2) := by decide +kernel
theorem dX4_doing_17 : decode cX4_doing 17 = .ok (.imul, 1) := by decide +kernel
theorem dX4_doing_18 : decode cX4_doing 18 = .ok (.aload_n 0, 1) := by decide +kernel
theorem dX4_doing_19 : decode cX4_doing 19 = .ok (.getfield 56, 3) := by decide +kernel
theorem dX4_doing_22 : decode cX4_doing 22 = .ok (.iadd, 1) := by decide +kernel
theorem dX4_doing_23 : decode cX4_doing 23 = .ok (.goto 7, 3) := by decide +kernel
theorem dX4_doing_26 : decode cX4_doing 26 = .ok (.aload_n 0, 1) := by decide +kernel
theorem dX4_doing_27 : decode cX4_doing 27 = .ok (.getfield 44, 3) := by decide +kernel
theorem dX4_doing_30 : decode cX4_doing 30 = .ok (.ireturn, 1) := by decide +kernel
theorem dX4_enter_0 : decode cX4_enter 0 = .ok (.aload_n 0, 1) := by decide +kernel
theorem dX4_enter_1 : decode cX4_enter 1 = .ok (.aload_n 0, 1) := by decide +kernel
theorem dX4_enter_2 : decode cX4_enter 2 = .ok (.getfield 21, 3) := by decide +kernel
theorem dX4_enter_5 : decode cX4_enter 5 = .ok (.iload_n 2, 1) := by decide +kernel
theorem dX4_enter_6 : decode cX4_enter 6 = .ok (.iload_n 3, 1) := by decide +kernel
theorem dX4_enter_7 : decode cX4_enter 7 = .ok (.iload 4, 2) := by decide +kernel
theorem dX4_enter_9 : decode cX4_enter 9 = .ok (.invokevirtual 80, 3) := by decide +kernel
theorem dX4_enter_12 : decode cX4_enter 12 = .ok (.putfield 83, 3) := by decide +kernel
theorem dX4_enter_15 : decode cX4_enter 15 = .ok (.aload_n 0, 1) := by decide +kernel
theorem dX4_enter_16 : decode cX4_enter 16 = .ok (.iload_n 1, 1) := by decide +kernel
theorem dX4_enter_17 : decode cX4_enter 17 = .ok (.bipush 40, 2) := by decide +kernel
theorem dX4_enter_19 : decode cX4_enter 19 = .ok (.imul, 1) := by decide +kernel
theorem dX4_enter_20 : decode cX4_enter 20 = .ok (.putfield 86, 3) := by decide +kernel
theorem dX4_enter_23 : decode cX4_enter 23 = .ok (.aload_n 0, 1) := by decide +kernel
theorem dX4_enter_24 : decode cX4_enter 24 = .ok (.iconst 1, 1) := by decide +kernel
theorem dX4_enter_25 : decode cX4_enter 25 = .ok (.putfield 70, 3) := by decide +kernel
theorem dX4_enter_28 : decode cX4_enter 28 = .ok (.return_, 1) := by decide +kernel
theorem dX4_give_0 : decode cX4_give 0 = .ok (.aload_n 0, 1) := by decide +kernel
theorem dX4_give_1 : decode cX4_give 1 = .ok (.iload_n 1, 1) := by decide +kernel
theorem dX4_give_2 : decode cX4_give 2 = .ok (.putfield 89, 3) := by decide +kernel
theorem dX4_give_5 : decode cX4_give 5 = .ok (.aload_n 0, 1) := by decide +kernel
theorem dX4_give_6 : decode cX4_give 6 = .ok (.iconst 0, 1) := by decide +kernel
theorem dX4_give_7 : decode cX4_give 7 = .ok (.putfield 70, 3) := by decide +kernel
theorem dX4_give_10 : decode cX4_give 10 = .ok (.return_, 1) := by decide +kernel
theorem dX4_begin_0 : decode cX4_begin 0 = .ok (.aload_n 0, 1) := by decide +kernel
theorem dX4_begin_1 : decode cX4_begin 1 = .ok (.getfield 47, 3) := by decide +kernel
theorem dX4_begin_4 : decode cX4_begin 4 = .ok (.sipush 200, 3) := by decide +kernel
theorem dX4_begin_7 : decode cX4_begin 7 = .ok (.if_icmp .lt 10, 3) := by decide +kernel
theorem dX4_begin_10 : decode cX4_begin 10 = .ok (.aload_n 0, 1) := by decide +kernel
theorem dX4_begin_11 : decode cX4_begin 11 = .ok (.bipush 9, 2) := by decide +kernel
theorem dX4_begin_13 : decode cX4_begin 13 = .ok (.putfield 44, 3) := by decide +kernel
theorem dX4_begin_16 : decode cX4_begin 16 = .ok (.return_, 1) := by decide +kernel
theorem dX4_begin_17 : decode cX4_begin 17 = .ok (.aload_n 0, 1) := by decide +kernel
theorem dX4_begin_18 : decode cX4_begin 18 = .ok (.dup, 1) := by decide +kernel
theorem dX4_begin_19 : decode cX4_begin 19 = .ok (.getfield 47, 3) := by decide +kernel
theorem dX4_begin_22 : decode cX4_begin 22 = .ok (.iconst 1, 1) := by decide +kernel
theorem dX4_begin_23 : decode cX4_begin 23 = .ok (.iadd, 1) := by decide +kernel
theorem dX4_begin_24 : decode cX4_begin 24 = .ok (.putfield 47, 3) := by decide +kernel
theorem dX4_begin_27 : decode cX4_begin 27 = .ok (.aload_n 0, 1) := by decide +kernel
theorem dX4_begin_28 : decode cX4_begin 28 = .ok (.getfield 29, 3) := by decide +kernel
theorem dX4_begin_31 : decode cX4_begin 31 = .ok (.aload_n 0, 1) := by decide +kernel
theorem dX4_begin_32 : decode cX4_begin 32 = .ok (.getfield 86, 3) := by decide +kernel
theorem dX4_begin_35 : decode cX4_begin 35 = .ok (.invokevirtual 92, 3) := by decide +kernel
theorem dX4_begin_38 : decode cX4_begin 38 = .ok (.istore_n 1, 1) := by decide +kernel
theorem dX4_begin_39 : decode cX4_begin 39 = .ok (.iload_n 1, 1) := by decide +kernel
theorem dX4_begin_40 : decode cX4_begin 40 = .ok (.bipush 120, 2) := by decide +kernel
theorem dX4_begin_42 : decode cX4_begin 42 = .ok (.if_icmp .ne 21, 3) := by decide +kernel
theorem dX4_begin_45 : decode cX4_begin 45 = .ok (.aload_n 0, 1) := by decide +kernel
theorem dX4_begin_46 : decode cX4_begin 46 = .ok (.aload_n 0, 1) := by decide +kernel
theorem dX4_begin_47 : decode cX4_begin 47 = .ok (.getfield 21, 3) := by decide +kernel
theorem dX4_begin_50 : decode cX4_begin 50 = .ok (.aload_n 0, 1) := by decide +kernel
theorem dX4_begin_51 : decode cX4_begin 51 = .ok (.getfield 83, 3) := by decide +kernel
theorem dX4_begin_54 : decode cX4_begin 54 = .ok (.invokevirtual 98, 3) := by decide +kernel
theorem dX4_begin_57 : decode cX4_begin 57 = .ok (.invokevirtual 101, 3) := by decide +kernel
theorem dX4_begin_60 : decode cX4_begin 60 = .ok (.goto 63, 3) := by decide +kernel
theorem dX4_begin_63 : decode cX4_begin 63 = .ok (.iload_n 1, 1) := by decide +kernel
theorem dX4_begin_64 : decode cX4_begin 64 = .ok (.invokestatic 105, 3) := by decide +kernel
theorem dX4_begin_67 : decode cX4_begin 67 = .ok (.ifCond .ne 14, 3) := by decide +kernel
theorem dX4_begin_70 : decode cX4_begin 70 = .ok (.aload_n 0, 1) := by decide +kernel
theorem dX4_begin_71 : decode cX4_begin 71 = .ok (.iload_n 1, 1) := by decide +kernel
theorem dX4_begin_72 : decode cX4_begin 72 = .ok (.bipush 48, 2) := by decide +kernel
theorem dX4_begin_74 : decode cX4_begin 74 = .ok (.isub, 1) := by decide +kernel
theorem dX4_begin_75 : decode cX4_begin 75 = .ok (.invokevirtual 101, 3) := by decide +kernel
theorem dX4_begin_78 : decode cX4_begin 78 = .ok (.goto 45, 3) := by decide +kernel
theorem dX4_begin_81 : decode cX4_begin 81 = .ok (.aload_n 0, 1) := by decide +kernel
theorem dX4_begin_82 : decode cX4_begin 82 = .ok (.getfield 12, 3) := by decide +kernel
theorem dX4_begin_85 : decode cX4_begin 85 = .ok (.aload_n 0, 1) := by decide +kernel
theorem dX4_begin_86 : decode cX4_begin 86 = .ok (.getfield 86, 3) := by decide +kernel
theorem dX4_begin_89 : decode cX4_begin 89 = .ok (.aload_n 0, 1) := by decide +kernel
theorem dX4_begin_90 : decode cX4_begin 90 = .ok (.getfield 83, 3) := by decide +kernel
theorem dX4_begin_93 : decode cX4_begin 93 = .ok (.invokevirtual 108, 3) := by decide +kernel
theorem dX4_begin_96 : decode cX4_begin 96 = .ok (.ifCond .eq 21, 3) := by decide +kernel
theorem dX4_begin_99 : decode cX4_begin 99 = .ok (.aload_n 0, 1) := by decide +kernel
theorem dX4_begin_100 : decode cX4_begin 100 = .ok (.aload_n 0, 1) := by decide +kernel
theorem dX4_begin_101 : decode cX4_begin 101 = .ok (.getfield 29, 3) := by decide +kernel
theorem dX4_begin_104 : decode cX4_begin 104 = .ok (.aload_n 0, 1) := by decide +kernel
theorem dX4_begin_105 : decode cX4_begin 105 = .ok (.getfield 86, 3) := by decide +kernel
theorem dX4_begin_108 : decode cX4_begin 108 = .ok (.invokevirtual 112, 3) := by decide +kernel
theorem dX4_begin_111 : decode cX4_begin 111 = .ok (.putfield 86, 3) := by decide +kernel
theorem dX4_begin_114 : decode cX4_begin 114 = .ok (.goto 9, 3) := by decide +kernel
theorem dX4_begin_117 : decode cX4_begin 117 = .ok (.aload_n 0, 1) := by decide +kernel
theorem dX4_begin_118 : decode cX4_begin 118 = .ok (.bipush 9, 2) := by decide +kernel
theorem dX4_begin_120 : decode cX4_begin 120 = .ok (.putfield 44, 3) := by decide +kernel
theorem dX4_begin_123 : decode cX4_begin 123 = .ok (.return_, 1) := by decide +kernel
theorem dX4_takeUp_0 : decode cX4_takeUp 0 = .ok (.aload_n 0, 1) := by decide +kernel
theorem dX4_takeUp_1 : decode cX4_takeUp 1 = .ok (.getfield 12, 3) := by decide +kernel
theorem dX4_takeUp_4 : decode cX4_takeUp 4 = .ok (.getfield 115, 3) := by decide +kernel
theorem dX4_takeUp_7 : decode cX4_takeUp 7 = .ok (.istore_n 1, 1) := by decide +kernel
theorem dX4_takeUp_8 : decode cX4_takeUp 8 = .ok (.iload_n 1, 1) := by decide +kernel
theorem dX4_takeUp_9 : decode cX4_takeUp 9 = .ok (.iconst (-1), 1) := by decide +kernel
theorem dX4_takeUp_10 : decode cX4_takeUp 10 = .ok (.if_icmp .ne 12, 3) := by decide +kernel
theorem dX4_takeUp_13 : decode cX4_takeUp 13 = .ok (.aload_n 0, 1) := by decide +kernel
theorem dX4_takeUp_14 : decode cX4_takeUp 14 = .ok (.aload_n 0, 1) := by decide +kernel
theorem dX4_takeUp_15 : decode cX4_takeUp 15 = .ok (.getfield 89, 3) := by decide +kernel
theorem dX4_takeUp_18 : decode cX4_takeUp 18 = .ok (.putfield 44, 3) := by decide +kernel
theorem dX4_takeUp_21 : decode cX4_takeUp 21 = .ok (.return_, 1) := by decide +kernel
theorem dX4_takeUp_22 : decode cX4_takeUp 22 = .ok (.aload_n 0, 1) := by decide +kernel
theorem dX4_takeUp_23 : decode cX4_takeUp 23 = .ok (.aload_n 0, 1) := by decide +kernel
theorem dX4_takeUp_24 : decode cX4_takeUp 24 = .ok (.getfield 12, 3) := by decide +kernel
theorem dX4_takeUp_27 : decode cX4_takeUp 27 = .ok (.iload_n 1, 1) := by decide +kernel
theorem dX4_takeUp_28 : decode cX4_takeUp 28 = .ok (.invokevirtual 118, 3) := by decide +kernel
theorem dX4_takeUp_31 : decode cX4_takeUp 31 = .ok (.putfield 86, 3) := by decide +kernel
theorem dX4_takeUp_34 : decode cX4_takeUp 34 = .ok (.aload_n 0, 1) := by decide +kernel
theorem dX4_takeUp_35 : decode cX4_takeUp 35 = .ok (.aload_n 0, 1) := by decide +kernel
theorem dX4_takeUp_36 : decode cX4_takeUp 36 = .ok (.getfield 12, 3) := by decide +kernel
theorem dX4_takeUp_39 : decode cX4_takeUp 39 = .ok (.iload_n 1, 1) := by decide +kernel
theorem dX4_takeUp_40 : decode cX4_takeUp 40 = .ok (.invokevirtual 120, 3) := by decide +kernel
theorem dX4_takeUp_43 : decode cX4_takeUp 43 = .ok (.putfield 83, 3) := by decide +kernel
theorem dX4_takeUp_46 : decode cX4_takeUp 46 = .ok (.aload_n 0, 1) := by decide +kernel
theorem dX4_takeUp_47 : decode cX4_takeUp 47 = .ok (.getfield 29, 3) := by decide +kernel
theorem dX4_takeUp_50 : decode cX4_takeUp 50 = .ok (.aload_n 0, 1) := by decide +kernel
theorem dX4_takeUp_51 : decode cX4_takeUp 51 = .ok (.getfield 86, 3) := by decide +kernel
theorem dX4_takeUp_54 : decode cX4_takeUp 54 = .ok (.invokevirtual 92, 3) := by decide +kernel
theorem dX4_takeUp_57 : decode cX4_takeUp 57 = .ok (.istore_n 2, 1) := by decide +kernel
theorem dX4_takeUp_58 : decode cX4_takeUp 58 = .ok (.iload_n 2, 1) := by decide +kernel
theorem dX4_takeUp_59 : decode cX4_takeUp 59 = .ok (.invokestatic 105, 3) := by decide +kernel
theorem dX4_takeUp_62 : decode cX4_takeUp 62 = .ok (.iconst 2, 1) := by decide +kernel
theorem dX4_takeUp_63 : decode cX4_takeUp 63 = .ok (.if_icmp .ne 55, 3) := by decide +kernel
theorem dX4_takeUp_66 : decode cX4_takeUp 66 = .ok (.aload_n 0, 1) := by decide +kernel
theorem dX4_takeUp_67 : decode cX4_takeUp 67 = .ok (.getfield 12, 3) := by decide +kernel
theorem dX4_takeUp_70 : decode cX4_takeUp 70 = .ok (.iload_n 1, 1) := by decide +kernel
theorem dX4_takeUp_71 : decode cX4_takeUp 71 = .ok (.invokevirtual 122, 3) := by decide +kernel
theorem dX4_takeUp_74 : decode cX4_takeUp 74 = .ok (.iconst (-1), 1) := by decide +kernel
theorem dX4_takeUp_75 : decode cX4_takeUp 75 = .ok (.if_icmp .ne 43, 3) := by decide +kernel
theorem dX4_takeUp_78 : decode cX4_takeUp 78 = .ok (.aload_n 0, 1) := by decide +kernel
theorem dX4_takeUp_79 : decode cX4_takeUp 79 = .ok (.getfield 12, 3) := by decide +kernel
theorem dX4_takeUp_82 : decode cX4_takeUp 82 = .ok (.iload_n 1, 1) := by decide +kernel
theorem dX4_takeUp_83 : decode cX4_takeUp 83 = .ok (.aload_n 0, 1) := by decide +kernel
theorem dX4_takeUp_84 : decode cX4_takeUp 84 = .ok (.getfield 89, 3) := by decide +kernel
theorem dX4_takeUp_87 : decode cX4_takeUp 87 = .ok (.invokevirtual 125, 3) := by decide +kernel
theorem dX4_takeUp_90 : decode cX4_takeUp 90 = .ok (.aload_n 0, 1) := by decide +kernel
theorem dX4_takeUp_91 : decode cX4_takeUp 91 = .ok (.aload_n 0, 1) := by decide +kernel
theorem dX4_takeUp_92 : decode cX4_takeUp 92 = .ok (.getfield 29, 3) := by decide +kernel
theorem dX4_takeUp_95 : decode cX4_takeUp 95 = .ok (.aload_n 0, 1) := by decide +kernel
theorem dX4_takeUp_96 : decode cX4_takeUp 96 = .ok (.getfield 29, 3) := by decide +kernel
theorem dX4_takeUp_99 : decode cX4_takeUp 99 = .ok (.aload_n 0, 1) := by decide +kernel
theorem dX4_takeUp_100 : decode cX4_takeUp 100 = .ok (.getfield 86, 3) := by decide +kernel
theorem dX4_takeUp_103 : decode cX4_takeUp 103 = .ok (.invokevirtual 112, 3) := by decide +kernel
theorem dX4_takeUp_106 : decode cX4_takeUp 106 = .ok (.invokevirtual 129, 3) := by decide +kernel
theorem dX4_takeUp_109 : decode cX4_takeUp 109 = .ok (.putfield 86, 3) := by decide +kernel
theorem dX4_takeUp_112 : decode cX4_takeUp 112 = .ok (.aload_n 0, 1) := by decide +kernel
theorem dX4_takeUp_113 : decode cX4_takeUp 113 = .ok (.iconst 1, 1) := by decide +kernel
theorem dX4_takeUp_114 : decode cX4_takeUp 114 = .ok (.putfield 70, 3) := by decide +kernel
theorem dX4_takeUp_117 : decode cX4_takeUp 117 = .ok (.return_, 1) := by decide +kernel
theorem dX4_takeUp_118 : decode cX4_takeUp 118 = .ok (.aload_n 0, 1) := by decide +kernel
theorem dX4_takeUp_119 : decode cX4_takeUp 119 = .ok (.getfield 12, 3) := by decide +kernel
theorem dX4_takeUp_122 : decode cX4_takeUp 122 = .ok (.aload_n 0, 1) := by decide +kernel
theorem dX4_takeUp_123 : decode cX4_takeUp 123 = .ok (.getfield 12, 3) := by decide +kernel
theorem dX4_takeUp_126 : decode cX4_takeUp 126 = .ok (.iload_n 1, 1) := by decide +kernel
theorem dX4_takeUp_127 : decode cX4_takeUp 127 = .ok (.invokevirtual 132, 3) := by decide +kernel
theorem dX4_takeUp_130 : decode cX4_takeUp 130 = .ok (.putfield 115, 3) := by decide +kernel
theorem dX4_takeUp_133 : decode cX4_takeUp 133 = .ok (.iload_n 2, 1) := by decide +kernel
theorem dX4_takeUp_134 : decode cX4_takeUp 134 = .ok (.lookupswitch 109 #[(63, 58), (64, 65), (107, 83), (112, 90), (113, 90), (114, 90)], 58) := by decide +kernel
theorem dX4_takeUp_192 : decode cX4_takeUp 192 = .ok (.aload_n 0, 1) := by decide +kernel
theorem dX4_takeUp_193 : decode cX4_takeUp 193 = .ok (.invokevirtual 135, 3) := by decide +kernel
theorem dX4_takeUp_196 : decode cX4_takeUp 196 = .ok (.goto 67, 3) := by decide +kernel
theorem dX4_takeUp_199 : decode cX4_takeUp 199 = .ok (.aload_n 0, 1) := by decide +kernel
theorem dX4_takeUp_200 : decode cX4_takeUp 200 = .ok (.aload_n 0, 1) := by decide +kernel
theorem dX4_takeUp_201 : decode cX4_takeUp 201 = .ok (.getfield 29, 3) := by decide +kernel
theorem dX4_takeUp_204 : decode cX4_takeUp 204 = .ok (.aload_n 0, 1) := by decide +kernel
theorem dX4_takeUp_205 : decode cX4_takeUp 205 = .ok (.getfield 86, 3) := by decide +kernel
theorem dX4_takeUp_208 : decode cX4_takeUp 208 = .ok (.invokevirtual 138, 3) := by decide +kernel
theorem dX4_takeUp_211 : decode cX4_takeUp 211 = .ok (.invokevirtual 141, 3) := by decide +kernel
theorem dX4_takeUp_214 : decode cX4_takeUp 214 = .ok (.goto 49, 3) := by decide +kernel
theorem dX4_takeUp_217 : decode cX4_takeUp 217 = .ok (.aload_n 0, 1) := by decide +kernel
theorem dX4_takeUp_218 : decode cX4_takeUp 218 = .ok (.invokevirtual 144, 3) := by decide +kernel
theorem dX4_takeUp_221 : decode cX4_takeUp 221 = .ok (.goto 42, 3) := by decide +kernel
theorem dX4_takeUp_224 : decode cX4_takeUp 224 = .ok (.aload_n 0, 1) := by decide +kernel
theorem dX4_takeUp_225 : decode cX4_takeUp 225 = .ok (.iload_n 2, 1) := by decide +kernel
theorem dX4_takeUp_226 : decode cX4_takeUp 226 = .ok (.bipush 112, 2) := by decide +kernel
theorem dX4_takeUp_228 : decode cX4_takeUp 228 = .ok (.isub, 1) := by decide +kernel
theorem dX4_takeUp_229 : decode cX4_takeUp 229 = .ok (.aload_n 0, 1) := by decide +kernel
theorem dX4_takeUp_230 : decode cX4_takeUp 230 = .ok (.iload_n 2, 1) := by decide +kernel
theorem dX4_takeUp_231 : decode cX4_takeUp 231 = .ok (.bipush 112, 2) := by decide +kernel
theorem dX4_takeUp_233 : decode cX4_takeUp 233 = .ok (.isub, 1) := by decide +kernel
theorem dX4_takeUp_234 : decode cX4_takeUp 234 = .ok (.invokevirtual 147, 3) := by decide +kernel
theorem dX4_takeUp_237 : decode cX4_takeUp 237 = .ok (.invokevirtual 150, 3) := by decide +kernel
theorem dX4_takeUp_240 : decode cX4_takeUp 240 = .ok (.goto 23, 3) := by decide +kernel
theorem dX4_takeUp_243 : decode cX4_takeUp 243 = .ok (.aload_n 0, 1) := by decide +kernel
theorem dX4_takeUp_244 : decode cX4_takeUp 244 = .ok (.iload_n 2, 1) := by decide +kernel
theorem dX4_takeUp_245 : decode cX4_takeUp 245 = .ok (.aload_n 0, 1) := by decide +kernel
theorem dX4_takeUp_246 : decode cX4_takeUp 246 = .ok (.getfield 12, 3) := by decide +kernel
theorem dX4_takeUp_249 : decode cX4_takeUp 249 = .ok (.iload_n 1, 1) := by decide +kernel
theorem dX4_takeUp_250 : decode cX4_takeUp 250 = .ok (.invokevirtual 122, 3) := by decide +kernel
theorem dX4_takeUp_253 : decode cX4_takeUp 253 = .ok (.aload_n 0, 1) := by decide +kernel
theorem dX4_takeUp_254 : decode cX4_takeUp 254 = .ok (.getfield 89, 3) := by decide +kernel
theorem dX4_takeUp_257 : decode cX4_takeUp 257 = .ok (.invokestatic 153, 3) := by decide +kernel
theorem dX4_takeUp_260 : decode cX4_takeUp 260 = .ok (.invokevirtual 101, 3) := by decide +kernel
theorem dX4_takeUp_263 : decode cX4_takeUp 263 = .ok (.return_, 1) := by decide +kernel
theorem dX4_act_0 : decode cX4_act 0 = .ok (.iload_n 0, 1) := by decide +kernel
theorem dX4_act_1 : decode cX4_act 1 = .ok (.tableswitch 52 42 45 #[45, 31, 52, 38], 31) := by decide +kernel
theorem dX4_act_32 : decode cX4_act 32 = .ok (.iload_n 1, 1) := by decide +kernel
theorem dX4_act_33 : decode cX4_act 33 = .ok (.iload_n 2, 1) := by decide +kernel
theorem dX4_act_34 : decode cX4_act 34 = .ok (.iadd, 1) := by decide +kernel
theorem dX4_act_35 : decode cX4_act 35 = .ok (.bipush 7, 2) := by decide +kernel
theorem dX4_act_37 : decode cX4_act 37 = .ok (.iand, 1) := by decide +kernel
theorem dX4_act_38 : decode cX4_act 38 = .ok (.ireturn, 1) := by decide +kernel
theorem dX4_act_39 : decode cX4_act 39 = .ok (.iload_n 1, 1) := by decide +kernel
theorem dX4_act_40 : decode cX4_act 40 = .ok (.iload_n 2, 1) := by decide +kernel
theorem dX4_act_41 : decode cX4_act 41 = .ok (.isub, 1) := by decide +kernel
theorem dX4_act_42 : decode cX4_act 42 = .ok (.bipush 7, 2) := by decide +kernel
theorem dX4_act_44 : decode cX4_act 44 = .ok (.iand, 1) := by decide +kernel
theorem dX4_act_45 : decode cX4_act 45 = .ok (.ireturn, 1) := by decide +kernel
theorem dX4_act_46 : decode cX4_act 46 = .ok (.iload_n 1, 1) := by decide +kernel
theorem dX4_act_47 : decode cX4_act 47 = .ok (.iload_n 2, 1) := by decide +kernel
theorem dX4_act_48 : decode cX4_act 48 = .ok (.imul, 1) := by decide +kernel
theorem dX4_act_49 : decode cX4_act 49 = .ok (.bipush 7, 2) := by decide +kernel
theorem dX4_act_51 : decode cX4_act 51 = .ok (.iand, 1) := by decide +kernel
theorem dX4_act_52 : decode cX4_act 52 = .ok (.ireturn, 1) := by decide +kernel
theorem dX4_act_53 : decode cX4_act 53 = .ok (.iload_n 1, 1) := by decide +kernel
theorem dX4_act_54 : decode cX4_act 54 = .ok (.iload_n 2, 1) := by decide +kernel
theorem dX4_act_55 : decode cX4_act 55 = .ok (.invokestatic 156, 3) := by decide +kernel
theorem dX4_act_58 : decode cX4_act 58 = .ok (.ireturn, 1) := by decide +kernel
theorem dX4_choose_0 : decode cX4_choose 0 = .ok (.aload_n 0, 1) := by decide +kernel
theorem dX4_choose_1 : decode cX4_choose 1 = .ok (.getfield 29, 3) := by decide +kernel
theorem dX4_choose_4 : decode cX4_choose 4 = .ok (.aload_n 0, 1) := by decide +kernel
theorem dX4_choose_5 : decode cX4_choose 5 = .ok (.getfield 29, 3) := by decide +kernel
theorem dX4_choose_8 : decode cX4_choose 8 = .ok (.aload_n 0, 1) := by decide +kernel
theorem dX4_choose_9 : decode cX4_choose 9 = .ok (.getfield 86, 3) := by decide +kernel
theorem dX4_choose_12 : decode cX4_choose 12 = .ok (.invokevirtual 112, 3) := by decide +kernel
theorem dX4_choose_15 : decode cX4_choose 15 = .ok (.invokevirtual 129, 3) := by decide +kernel
theorem dX4_choose_18 : decode cX4_choose 18 = .ok (.istore_n 1, 1) := by decide +kernel
theorem dX4_choose_19 : decode cX4_choose 19 = .ok (.aload_n 0, 1) := by decide +kernel
theorem dX4_choose_20 : decode cX4_choose 20 = .ok (.aload_n 0, 1) := by decide +kernel
theorem dX4_choose_21 : decode cX4_choose 21 = .ok (.getfield 89, 3) := by decide +kernel
theorem dX4_choose_24 : decode cX4_choose 24 = .ok (.ifCond .ne 7, 3) := by decide +kernel
theorem dX4_choose_27 : decode cX4_choose 27 = .ok (.iload_n 1, 1) := by decide +kernel
theorem dX4_choose_28 : decode cX4_choose 28 = .ok (.goto 11, 3) := by decide +kernel
theorem dX4_choose_31 : decode cX4_choose 31 = .ok (.aload_n 0, 1) := by decide +kernel
theorem dX4_choose_32 : decode cX4_choose 32 = .ok (.getfield 29, 3) := by decide +kernel
theorem dX4_choose_35 : decode cX4_choose 35 = .ok (.iload_n 1, 1) := by decide +kernel
theorem dX4_choose_36 : decode cX4_choose 36 = .ok (.invokevirtual 129, 3) := by decide +kernel
theorem dX4_choose_39 : decode cX4_choose 39 = .ok (.putfield 86, 3) := by decide +kernel
theorem dX4_choose_42 : decode cX4_choose 42 = .ok (.aload_n 0, 1) := by decide +kernel
theorem dX4_choose_43 : decode cX4_choose 43 = .ok (.iconst 1, 1) := by decide +kernel
theorem dX4_choose_44 : decode cX4_choose 44 = .ok (.putfield 70, 3) := by decide +kernel
theorem dX4_choose_47 : decode cX4_choose 47 = .ok (.return_, 1) := by decide +kernel
theorem dX4_comeBack_0 : decode cX4_comeBack 0 = .ok (.iload_n 1, 1) := by decide +kernel
theorem dX4_comeBack_1 : decode cX4_comeBack 1 = .ok (.iconst 3, 1) := by decide +kernel
theorem dX4_comeBack_2 : decode cX4_comeBack 2 = .ok (.invokestatic 162, 3) := by decide +kernel
theorem dX4_comeBack_5 : decode cX4_comeBack 5 = .ok (.istore_n 2, 1) := by decide +kernel
theorem dX4_comeBack_6 : decode cX4_comeBack 6 = .ok (.aload_n 0, 1) := by decide +kernel
theorem dX4_comeBack_7 : decode cX4_comeBack 7 = .ok (.getfield 29, 3) := by decide +kernel
theorem dX4_comeBack_10 : decode cX4_comeBack 10 = .ok (.iload_n 2, 1) := by decide +kernel
theorem dX4_comeBack_11 : decode cX4_comeBack 11 = .ok (.invokevirtual 165, 3) := by decide +kernel
theorem dX4_comeBack_14 : decode cX4_comeBack 14 = .ok (.ifCond .le 14, 3) := by decide +kernel
theorem dX4_comeBack_17 : decode cX4_comeBack 17 = .ok (.aload_n 0, 1) := by decide +kernel
theorem dX4_comeBack_18 : decode cX4_comeBack 18 = .ok (.iload_n 2, 1) := by decide +kernel
theorem dX4_comeBack_19 : decode cX4_comeBack 19 = .ok (.aload_n 0, 1) := by decide +kernel
theorem dX4_comeBack_20 : decode cX4_comeBack 20 = .ok (.getfield 89, 3) := by decide +kernel
theorem dX4_comeBack_23 : decode cX4_comeBack 23 = .ok (.iconst (-1), 1) := by decide +kernel
theorem dX4_comeBack_24 : decode cX4_comeBack 24 = .ok (.iconst (-1), 1) := by decide +kernel
theorem dX4_comeBack_25 : decode cX4_comeBack 25 = .ok (.invokevirtual 65, 3) := by decide +kernel
theorem dX4_comeBack_28 : decode cX4_comeBack 28 = .ok (.return_, 1) := by decide +kernel
theorem dX4_goOn_0 : decode cX4_goOn 0 = .ok (.aload_n 0, 1) := by decide +kernel
theorem dX4_goOn_1 : decode cX4_goOn 1 = .ok (.getfield 59, 3) := by decide +kernel
theorem dX4_goOn_4 : decode cX4_goOn 4 = .ok (.bipush 40, 2) := by decide +kernel
theorem dX4_goOn_6 : decode cX4_goOn 6 = .ok (.if_icmp .lt 10, 3) := by decide +kernel
theorem dX4_goOn_9 : decode cX4_goOn 9 = .ok (.aload_n 0, 1) := by decide +kernel
theorem dX4_goOn_10 : decode cX4_goOn 10 = .ok (.bipush 9, 2) := by decide +kernel
theorem dX4_goOn_12 : decode cX4_goOn 12 = .ok (.putfield 44, 3) := by decide +kernel
theorem dX4_goOn_15 : decode cX4_goOn 15 = .ok (.return_, 1) := by decide +kernel
theorem dX4_goOn_16 : decode cX4_goOn 16 = .ok (.aload_n 0, 1) := by decide +kernel
theorem dX4_goOn_17 : decode cX4_goOn 17 = .ok (.dup, 1) := by decide +kernel
theorem dX4_goOn_18 : decode cX4_goOn 18 = .ok (.getfield 59, 3) := by decide +kernel
theorem dX4_goOn_21 : decode cX4_goOn 21 = .ok (.iconst 1, 1) := by decide +kernel
theorem dX4_goOn_22 : decode cX4_goOn 22 = .ok (.iadd, 1) := by decide +kernel
theorem dX4_goOn_23 : decode cX4_goOn 23 = .ok (.putfield 59, 3) := by decide +kernel
theorem dX4_goOn_26 : decode cX4_goOn 26 = .ok (.aload_n 0, 1) := by decide +kernel
theorem dX4_goOn_27 : decode cX4_goOn 27 = .ok (.getfield 12, 3) := by decide +kernel
theorem dX4_goOn_30 : decode cX4_goOn 30 = .ok (.aload_n 0, 1) := by decide +kernel
theorem dX4_goOn_31 : decode cX4_goOn 31 = .ok (.getfield 21, 3) := by decide +kernel
theorem dX4_goOn_34 : decode cX4_goOn 34 = .ok (.aload_n 0, 1) := by decide +kernel
theorem dX4_goOn_35 : decode cX4_goOn 35 = .ok (.getfield 83, 3) := by decide +kernel
theorem dX4_goOn_38 : decode cX4_goOn 38 = .ok (.invokevirtual 168, 3) := by decide +kernel
theorem dX4_goOn_41 : decode cX4_goOn 41 = .ok (.aload_n 0, 1) := by decide +kernel
theorem dX4_goOn_42 : decode cX4_goOn 42 = .ok (.getfield 21, 3) := by decide +kernel
theorem dX4_goOn_45 : decode cX4_goOn 45 = .ok (.aload_n 0, 1) := by decide +kernel
theorem dX4_goOn_46 : decode cX4_goOn 46 = .ok (.getfield 83, 3) := by decide +kernel
theorem dX4_goOn_49 : decode cX4_goOn 49 = .ok (.invokevirtual 171, 3) := by decide +kernel
theorem dX4_goOn_52 : decode cX4_goOn 52 = .ok (.invokevirtual 174, 3) := by decide +kernel
theorem dX4_goOn_55 : decode cX4_goOn 55 = .ok (.ifCond .ne 9, 3) := by decide +kernel
theorem dX4_goOn_58 : decode cX4_goOn 58 = .ok (.aload_n 0, 1) := by decide +kernel
theorem dX4_goOn_59 : decode cX4_goOn 59 = .ok (.bipush 9, 2) := by decide +kernel
theorem dX4_goOn_61 : decode cX4_goOn 61 = .ok (.putfield 44, 3) := by decide +kernel
theorem dX4_goOn_64 : decode cX4_goOn 64 = .ok (.return_, 1) := by decide +kernel
theorem dX4_ask_0 : decode cX4_ask 0 = .ok (.iload_n 2, 1) := by decide +kernel
theorem dX4_ask_1 : decode cX4_ask 1 = .ok (.iconst (-1), 1) := by decide +kernel
theorem dX4_ask_2 : decode cX4_ask 2 = .ok (.if_icmp .ne 8, 3) := by decide +kernel
theorem dX4_ask_5 : decode cX4_ask 5 = .ok (.bipush 9, 2) := by decide +kernel
theorem dX4_ask_7 : decode cX4_ask 7 = .ok (.goto 18, 3) := by decide +kernel
theorem dX4_ask_10 : decode cX4_ask 10 = .ok (.aload_n 0, 1) := by decide +kernel
theorem dX4_ask_11 : decode cX4_ask 11 = .ok (.getfield 29, 3) := by decide +kernel
theorem dX4_ask_14 : decode cX4_ask 14 = .ok (.aload_n 0, 1) := by decide +kernel
theorem dX4_ask_15 : decode cX4_ask 15 = .ok (.getfield 12, 3) := by decide +kernel
theorem dX4_ask_18 : decode cX4_ask 18 = .ok (.iload_n 2, 1) := by decide +kernel
theorem dX4_ask_19 : decode cX4_ask 19 = .ok (.invokevirtual 118, 3) := by decide +kernel
theorem dX4_ask_22 : decode cX4_ask 22 = .ok (.invokevirtual 138, 3) := by decide +kernel
theorem dX4_ask_25 : decode cX4_ask 25 = .ok (.istore_n 3, 1) := by decide +kernel
theorem dX4_ask_26 : decode cX4_ask 26 = .ok (.aload_n 0, 1) := by decide +kernel
theorem dX4_ask_27 : decode cX4_ask 27 = .ok (.getfield 62, 3) := by decide +kernel
theorem dX4_ask_30 : decode cX4_ask 30 = .ok (.ifCond .lt 36, 3) := by decide +kernel
theorem dX4_ask_33 : decode cX4_ask 33 = .ok (.aload_n 0, 1) := by decide +kernel
theorem dX4_ask_34 : decode cX4_ask 34 = .ok (.getfield 62, 3) := by decide +kernel
theorem dX4_ask_37 : decode cX4_ask 37 = .ok (.sipush 200, 3) := by decide +kernel
theorem dX4_ask_40 : decode cX4_ask 40 = .ok (.if_icmp .ge 26, 3) := by decide +kernel
theorem dX4_ask_43 : decode cX4_ask 43 = .ok (.aload_n 0, 1) := by decide +kernel
theorem dX4_ask_44 : decode cX4_ask 44 = .ok (.getfield 25, 3) := by decide +kernel
theorem dX4_ask_47 : decode cX4_ask 47 = .ok (.aload_n 0, 1) := by decide +kernel
theorem dX4_ask_48 : decode cX4_ask 48 = .ok (.getfield 62, 3) := by decide +kernel
theorem dX4_ask_51 : decode cX4_ask 51 = .ok (.iload_n 1, 1) := by decide +kernel
theorem dX4_ask_52 : decode cX4_ask 52 = .ok (.bipush 100, 2) := by decide +kernel
theorem dX4_ask_54 : decode cX4_ask 54 = .ok (.imul, 1) := by decide +kernel
theorem dX4_ask_55 : decode cX4_ask 55 = .ok (.aload_n 0, 1) := by decide +kernel
theorem dX4_ask_56 : decode cX4_ask 56 = .ok (.getfield 89, 3) := by decide +kernel
theorem dX4_ask_59 : decode cX4_ask 59 = .ok (.bipush 10, 2) := by decide +kernel
theorem dX4_ask_61 : decode cX4_ask 61 = .ok (.imul, 1) := by decide +kernel
theorem dX4_ask_62 : decode cX4_ask 62 = .ok (.iadd, 1) := by decide +kernel
theorem dX4_ask_63 : decode cX4_ask 63 = .ok (.iload_n 3, 1) := by decide +kernel
theorem dX4_ask_64 : decode cX4_ask 64 = .ok (.iadd, 1) := by decide +kernel
theorem dX4_ask_65 : decode cX4_ask 65 = .ok (.iastore, 1) := by decide +kernel
theorem dX4_ask_66 : decode cX4_ask 66 = .ok (.aload_n 0, 1) := by decide +kernel
theorem dX4_ask_67 : decode cX4_ask 67 = .ok (.dup, 1) := by decide +kernel
theorem dX4_ask_68 : decode cX4_ask 68 = .ok (.getfield 62, 3) := by decide +kernel
theorem dX4_ask_71 : decode cX4_ask 71 = .ok (.iconst 1, 1) := by decide +kernel
theorem dX4_ask_72 : decode cX4_ask 72 = .ok (.iadd, 1) := by decide +kernel
theorem dX4_ask_73 : decode cX4_ask 73 = .ok (.putfield 62, 3) := by decide +kernel
theorem dX4_ask_76 : decode cX4_ask 76 = .ok (.iload_n 2, 1) := by decide +kernel
theorem dX4_ask_77 : decode cX4_ask 77 = .ok (.iconst (-1), 1) := by decide +kernel
theorem dX4_ask_78 : decode cX4_ask 78 = .ok (.if_icmp .eq 46, 3) := by decide +kernel
theorem dX4_ask_81 : decode cX4_ask 81 = .ok (.aload_n 0, 1) := by decide +kernel
theorem dX4_ask_82 : decode cX4_ask 82 = .ok (.getfield 12, 3) := by decide +kernel
theorem dX4_ask_85 : decode cX4_ask 85 = .ok (.getfield 115, 3) := by decide +kernel
theorem dX4_ask_88 : decode cX4_ask 88 = .ok (.istore 4, 2) := by decide +kernel
theorem dX4_ask_90 : decode cX4_ask 90 = .ok (.aload_n 0, 1) := by decide +kernel
theorem dX4_ask_91 : decode cX4_ask 91 = .ok (.getfield 12, 3) := by decide +kernel
theorem dX4_ask_94 : decode cX4_ask 94 = .ok (.aload_n 0, 1) := by decide +kernel
theorem dX4_ask_95 : decode cX4_ask 95 = .ok (.getfield 12, 3) := by decide +kernel
theorem dX4_ask_98 : decode cX4_ask 98 = .ok (.iload_n 2, 1) := by decide +kernel
theorem dX4_ask_99 : decode cX4_ask 99 = .ok (.invokevirtual 132, 3) := by decide +kernel
theorem dX4_ask_102 : decode cX4_ask 102 = .ok (.putfield 115, 3) := by decide +kernel
theorem dX4_ask_105 : decode cX4_ask 105 = .ok (.aload_n 0, 1) := by decide +kernel
theorem dX4_ask_106 : decode cX4_ask 106 = .ok (.iload_n 3, 1) := by decide +kernel
theorem dX4_ask_107 : decode cX4_ask 107 = .ok (.iload_n 1, 1) := by decide +kernel
theorem dX4_ask_108 : decode cX4_ask 108 = .ok (.invokestatic 162, 3) := by decide +kernel
theorem dX4_ask_111 : decode cX4_ask 111 = .ok (.aload_n 0, 1) := by decide +kernel
theorem dX4_ask_112 : decode cX4_ask 112 = .ok (.getfield 89, 3) := by decide +kernel
theorem dX4_ask_115 : decode cX4_ask 115 = .ok (.iload 4, 2) := by decide +kernel
theorem dX4_ask_117 : decode cX4_ask 117 = .ok (.iload_n 2, 1) := by decide +kernel
theorem dX4_ask_118 : decode cX4_ask 118 = .ok (.invokevirtual 65, 3) := by decide +kernel
theorem dX4_ask_121 : decode cX4_ask 121 = .ok (.goto 64, 3) := by decide +kernel
theorem dX4_ask_124 : decode cX4_ask 124 = .ok (.aload_n 0, 1) := by decide +kernel
theorem dX4_ask_125 : decode cX4_ask 125 = .ok (.getfield 50, 3) := by decide +kernel
theorem dX4_ask_128 : decode cX4_ask 128 = .ok (.aload_n 0, 1) := by decide +kernel
theorem dX4_ask_129 : decode cX4_ask 129 = .ok (.getfield 33, 3) := by decide +kernel
theorem dX4_ask_132 : decode cX4_ask 132 = .ok (.getfield 177, 3) := by decide +kernel
theorem dX4_ask_135 : decode cX4_ask 135 = .ok (.if_icmp .ge 31, 3) := by decide +kernel
theorem dX4_ask_138 : decode cX4_ask 138 = .ok (.aload_n 0, 1) := by decide +kernel
theorem dX4_ask_139 : decode cX4_ask 139 = .ok (.aload_n 0, 1) := by decide +kernel
theorem dX4_ask_140 : decode cX4_ask 140 = .ok (.getfield 33, 3) := by decide +kernel
theorem dX4_ask_143 : decode cX4_ask 143 = .ok (.aload_n 0, 1) := by decide +kernel
theorem dX4_ask_144 : decode cX4_ask 144 = .ok (.getfield 50, 3) := by decide +kernel
theorem dX4_ask_147 : decode cX4_ask 147 = .ok (.invokevirtual 182, 3) := by decide +kernel
theorem dX4_ask_150 : decode cX4_ask 150 = .ok (.invokevirtual 101, 3) := by decide +kernel
theorem dX4_ask_153 : decode cX4_ask 153 = .ok (.aload_n 0, 1) := by decide +kernel
theorem dX4_ask_154 : decode cX4_ask 154 = .ok (.dup, 1) := by decide +kernel
theorem dX4_ask_155 : decode cX4_ask 155 = .ok (.getfield 50, 3) := by decide +kernel
theorem dX4_ask_158 : decode cX4_ask 158 = .ok (.iconst 1, 1) := by decide +kernel
theorem dX4_ask_159 : decode cX4_ask 159 = .ok (.iadd, 1) := by decide +kernel
theorem dX4_ask_160 : decode cX4_ask 160 = .ok (.putfield 50, 3) := by decide +kernel
theorem dX4_ask_163 : decode cX4_ask 163 = .ok (.goto 22, 3) := by decide +kernel
theorem dX4_ask_166 : decode cX4_ask 166 = .ok (.aload_n 0, 1) := by decide +kernel
theorem dX4_ask_167 : decode cX4_ask 167 = .ok (.bipush 8, 2) := by decide +kernel
theorem dX4_ask_169 : decode cX4_ask 169 = .ok (.putfield 44, 3) := by decide +kernel
theorem dX4_ask_172 : decode cX4_ask 172 = .ok (.aload_n 0, 1) := by decide +kernel
theorem dX4_ask_173 : decode cX4_ask 173 = .ok (.iload_n 1, 1) := by decide +kernel
theorem dX4_ask_174 : decode cX4_ask 174 = .ok (.putfield 53, 3) := by decide +kernel
theorem dX4_ask_177 : decode cX4_ask 177 = .ok (.aload_n 0, 1) := by decide +kernel
theorem dX4_ask_178 : decode cX4_ask 178 = .ok (.aload_n 0, 1) := by decide +kernel
theorem dX4_ask_179 : decode cX4_ask 179 = .ok (.getfield 89, 3) := by decide +kernel
theorem dX4_ask_182 : decode cX4_ask 182 = .ok (.putfield 56, 3) := by decide +kernel
theorem dX4_ask_185 : decode cX4_ask 185 = .ok (.return_, 1) := by decide +kernel
theorem dX4_nearest_0 : decode cX4_nearest 0 = .ok (.aload_n 0, 1) := by decide +kernel
theorem dX4_nearest_1 : decode cX4_nearest 1 = .ok (.getfield 12, 3) := by decide +kernel
theorem dX4_nearest_4 : decode cX4_nearest 4 = .ok (.getfield 115, 3) := by decide +kernel
theorem dX4_nearest_7 : decode cX4_nearest 7 = .ok (.istore_n 2, 1) := by decide +kernel
theorem dX4_nearest_8 : decode cX4_nearest 8 = .ok (.iconst 0, 1) := by decide +kernel
theorem dX4_nearest_9 : decode cX4_nearest 9 = .ok (.istore_n 3, 1) := by decide +kernel
theorem dX4_nearest_10 : decode cX4_nearest 10 = .ok (.iload_n 3, 1) := by decide +kernel
theorem dX4_nearest_11 : decode cX4_nearest 11 = .ok (.sipush 8200, 3) := by decide +kernel
theorem dX4_nearest_14 : decode cX4_nearest 14 = .ok (.if_icmp .ge 64, 3) := by decide +kernel
theorem dX4_nearest_17 : decode cX4_nearest 17 = .ok (.iload_n 2, 1) := by decide +kernel
theorem dX4_nearest_18 : decode cX4_nearest 18 = .ok (.iconst (-1), 1) := by decide +kernel
theorem dX4_nearest_19 : decode cX4_nearest 19 = .ok (.if_icmp .eq 59, 3) := by decide +kernel
theorem dX4_nearest_22 : decode cX4_nearest 22 = .ok (.aload_n 0, 1) := by decide +kernel
theorem dX4_nearest_23 : decode cX4_nearest 23 = .ok (.getfield 29, 3) := by decide +kernel
theorem dX4_nearest_26 : decode cX4_nearest 26 = .ok (.aload_n 0, 1) := by decide +kernel
theorem dX4_nearest_27 : decode cX4_nearest 27 = .ok (.getfield 12, 3) := by decide +kernel
theorem dX4_nearest_30 : decode cX4_nearest 30 = .ok (.iload_n 2, 1) := by decide +kernel
theorem dX4_nearest_31 : decode cX4_nearest 31 = .ok (.invokevirtual 118, 3) := by decide +kernel
theorem dX4_nearest_34 : decode cX4_nearest 34 = .ok (.invokevirtual 138, 3) := by decide +kernel
theorem dX4_nearest_37 : decode cX4_nearest 37 = .ok (.istore 4, 2) := by decide +kernel
theorem dX4_nearest_39 : decode cX4_nearest 39 = .ok (.iload 4, 2) := by decide +kernel
theorem dX4_nearest_41 : decode cX4_nearest 41 = .ok (.iconst (-1), 1) := by decide +kernel
theorem dX4_nearest_42 : decode cX4_nearest 42 = .ok (.if_icmp .eq 21, 3) := by decide +kernel
theorem dX4_nearest_45 : decode cX4_nearest 45 = .ok (.aload_n 0, 1) := by decide +kernel
theorem dX4_nearest_46 : decode cX4_nearest 46 = .ok (.getfield 29, 3) := by decide +kernel
theorem dX4_nearest_49 : decode cX4_nearest 49 = .ok (.iload 4, 2) := by decide +kernel
theorem dX4_nearest_51 : decode cX4_nearest 51 = .ok (.iload_n 1, 1) := by decide +kernel
theorem dX4_nearest_52 : decode cX4_nearest 52 = .ok (.invokestatic 162, 3) := by decide +kernel
theorem dX4_nearest_55 : decode cX4_nearest 55 = .ok (.invokevirtual 165, 3) := by decide +kernel
theorem dX4_nearest_58 : decode cX4_nearest 58 = .ok (.ifCond .le 5, 3) := by decide +kernel
theorem dX4_nearest_61 : decode cX4_nearest 61 = .ok (.iload_n 2, 1) := by decide +kernel
theorem dX4_nearest_62 : decode cX4_nearest 62 = .ok (.ireturn, 1) := by decide +kernel
theorem dX4_nearest_63 : decode cX4_nearest 63 = .ok (.aload_n 0, 1) := by decide +kernel
theorem dX4_nearest_64 : decode cX4_nearest 64 = .ok (.getfield 12, 3) := by decide +kernel
theorem dX4_nearest_67 : decode cX4_nearest 67 = .ok (.iload_n 2, 1) := by decide +kernel
theorem dX4_nearest_68 : decode cX4_nearest 68 = .ok (.invokevirtual 132, 3) := by decide +kernel
theorem dX4_nearest_71 : decode cX4_nearest 71 = .ok (.istore_n 2, 1) := by decide +kernel
theorem dX4_nearest_72 : decode cX4_nearest 72 = .ok (.iinc 3 1, 3) := by decide +kernel
theorem dX4_nearest_75 : decode cX4_nearest 75 = .ok (.goto (-65), 3) := by decide +kernel
theorem dX4_nearest_78 : decode cX4_nearest 78 = .ok (.iconst (-1), 1) := by decide +kernel
theorem dX4_nearest_79 : decode cX4_nearest 79 = .ok (.ireturn, 1) := by decide +kernel
theorem dX5_init_0 : decode cX5_init 0 = .ok (.aload_n 0, 1) := by decide +kernel
theorem dX5_init_1 : decode cX5_init 1 = .ok (.invokespecial 3, 3) := by decide +kernel
theorem dX5_init_4 : decode cX5_init 4 = .ok (.aload_n 0, 1) := by decide +kernel
theorem dX5_init_5 : decode cX5_init 5 = .ok (.sipush 8200, 3) := by decide +kernel
theorem dX5_init_8 : decode cX5_init 8 = .ok (.newarray .int, 2) := by decide +kernel
theorem dX5_init_10 : decode cX5_init 10 = .ok (.putfield 11, 3) := by decide +kernel
theorem dX5_init_13 : decode cX5_init 13 = .ok (.aload_n 0, 1) := by decide +kernel
theorem dX5_init_14 : decode cX5_init 14 = .ok (.sipush 8200, 3) := by decide +kernel
theorem dX5_init_17 : decode cX5_init 17 = .ok (.newarray .int, 2) := by decide +kernel
theorem dX5_init_19 : decode cX5_init 19 = .ok (.putfield 15, 3) := by decide +kernel
theorem dX5_init_22 : decode cX5_init 22 = .ok (.return_, 1) := by decide +kernel
theorem dX5_clear_0 : decode cX5_clear 0 = .ok (.aload_n 0, 1) := by decide +kernel
theorem dX5_clear_1 : decode cX5_clear 1 = .ok (.iconst 0, 1) := by decide +kernel
theorem dX5_clear_2 : decode cX5_clear 2 = .ok (.putfield 18, 3) := by decide +kernel
theorem dX5_clear_5 : decode cX5_clear 5 = .ok (.aload_n 0, 1) := by decide +kernel
theorem dX5_clear_6 : decode cX5_clear 6 = .ok (.iconst (-1), 1) := by decide +kernel
theorem dX5_clear_7 : decode cX5_clear 7 = .ok (.putfield 22, 3) := by decide +kernel
theorem dX5_clear_10 : decode cX5_clear 10 = .ok (.return_, 1) := by decide +kernel
theorem dX5_stands_0 : decode cX5_stands 0 = .ok (.iload_n 1, 1) := by decide +kernel
theorem dX5_stands_1 : decode cX5_stands 1 = .ok (.ifCond .lt 22, 3) := by decide +kernel
theorem dX5_stands_4 : decode cX5_stands 4 = .ok (.iload_n 1, 1) := by decide +kernel
theorem dX5_stands_5 : decode cX5_stands 5 = .ok (.aload_n 0, 1) := by decide +kernel
theorem dX5_stands_6 : decode cX5_stands 6 = .ok (.getfield 18, 3) := by decide +kernel
theorem dX5_stands_9 : decode cX5_stands 9 = .ok (.if_icmp .ge 14, 3) := by decide +kernel
theorem dX5_stands_12 : decode cX5_stands 12 = .ok (.iload_n 1, 1) := by decide +kernel
theorem dX5_stands_13 : decode cX5_stands 13 = .ok (.sipush 8200, 3) := by decide +kernel
theorem dX5_stands_16 : decode cX5_stands 16 = .ok (.if_icmp .ge 7, 3) := by decide +kernel
theorem dX5_stands_19 : decode cX5_stands 19 = .ok (.iconst 1, 1) := by decide +kernel
theorem dX5_stands_20 : decode cX5_stands 20 = .ok (.goto 4, 3) := by decide +kernel
theorem dX5_stands_23 : decode cX5_stands 23 = .ok (.iconst 0, 1) := by decide +kernel
theorem dX5_stands_24 : decode cX5_stands 24 = .ok (.ireturn, 1) := by decide +kernel
theorem dX5_place_0 : decode cX5_place 0 = .ok (.aload_n 0, 1) := by decide +kernel
theorem dX5_place_1 : decode cX5_place 1 = .ok (.iload_n 1, 1) := by decide +kernel
theorem dX5_place_2 : decode cX5_place 2 = .ok (.invokevirtual 25, 3) := by decide +kernel
theorem dX5_place_5 : decode cX5_place 5 = .ok (.ifCond .eq 16, 3) := by decide +kernel
theorem dX5_place_8 : decode cX5_place 8 = .ok (.aload_n 0, 1) := by decide +kernel
theorem dX5_place_9 : decode cX5_place 9 = .ok (.getfield 11, 3) := by decide +kernel
theorem dX5_place_12 : decode cX5_place 12 = .ok (.iload_n 1, 1) := by decide +kernel
theorem dX5_place_13 : decode cX5_place 13 = .ok (.iaload, 1) := by decide +kernel
theorem dX5_place_14 : decode cX5_place 14 = .ok (.sipush 1023, 3) := by decide +kernel
theorem dX5_place_17 : decode cX5_place 17 = .ok (.iand, 1) := by decide +kernel
theorem dX5_place_18 : decode cX5_place 18 = .ok (.goto 4, 3) := by decide +kernel
theorem dX5_place_21 : decode cX5_place 21 = .ok (.iconst (-1), 1) := by decide +kernel
theorem dX5_place_22 : decode cX5_place 22 = .ok (.ireturn, 1) := by decide +kernel
theorem dX5_call_0 : decode cX5_call 0 = .ok (.aload_n 0, 1) := by decide +kernel
theorem dX5_call_1 : decode cX5_call 1 = .ok (.iload_n 1, 1) := by decide +kernel
theorem dX5_call_2 : decode cX5_call 2 = .ok (.invokevirtual 25, 3) := by decide +kernel
theorem dX5_call_5 : decode cX5_call 5 = .ok (.ifCond .eq 15, 3) := by decide +kernel
theorem dX5_call_8 : decode cX5_call 8 = .ok (.aload_n 0, 1) := by decide +kernel
theorem dX5_call_9 : decode cX5_call 9 = .ok (.getfield 11, 3) := by decide +kernel
theorem dX5_call_12 : decode cX5_call 12 = .ok (.iload_n 1, 1) := by decide +kernel
theorem dX5_call_13 : decode cX5_call 13 = .ok (.iaload, 1) := by decide +kernel
theorem dX5_call_14 : decode cX5_call 14 = .ok (.bipush 14, 2) := by decide +kernel
theorem dX5_call_16 : decode cX5_call 16 = .ok (.ishr, 1) := by decide +kernel
theorem dX5_call_17 : decode cX5_call 17 = .ok (.goto 4, 3) := by decide +kernel
theorem dX5_call_20 : decode cX5_call 20 = .ok (.iconst (-1), 1) := by decide +kernel
theorem dX5_call_21 : decode cX5_call 21 = .ok (.ireturn, 1) := by decide +kernel
theorem dX5_below_0 : decode cX5_below 0 = .ok (.aload_n 0, 1) := by decide +kernel
theorem dX5_below_1 : decode cX5_below 1 = .ok (.iload_n 1, 1) := by decide +kernel
theorem dX5_below_2 : decode cX5_below 2 = .ok (.invokevirtual 25, 3) := by decide +kernel
theorem dX5_below_5 : decode cX5_below 5 = .ok (.ifCond .eq 12, 3) := by decide +kernel
theorem dX5_below_8 : decode cX5_below 8 = .ok (.aload_n 0, 1) := by decide +kernel
theorem dX5_below_9 : decode cX5_below 9 = .ok (.getfield 15, 3) := by decide +kernel
theorem dX5_below_12 : decode cX5_below 12 = .ok (.iload_n 1, 1) := by decide +kernel
theorem dX5_below_13 : decode cX5_below 13 = .ok (.iaload, 1) := by decide +kernel
theorem dX5_below_14 : decode cX5_below 14 = .ok (.goto 4, 3) := by decide +kernel
theorem dX5_below_17 : decode cX5_below 17 = .ok (.iconst (-1), 1) := by decide +kernel
theorem dX5_below_18 : decode cX5_below 18 = .ok (.ireturn, 1) := by decide +kernel
theorem dX5_held_0 : decode cX5_held 0 = .ok (.aload_n 0, 1) := by decide +kernel
theorem dX5_held_1 : decode cX5_held 1 = .ok (.iload_n 1, 1) := by decide +kernel
theorem dX5_held_2 : decode cX5_held 2 = .ok (.invokevirtual 25, 3) := by decide +kernel
theorem dX5_held_5 : decode cX5_held 5 = .ok (.ifCond .eq 20, 3) := by decide +kernel
theorem dX5_held_8 : decode cX5_held 8 = .ok (.aload_n 0, 1) := by decide +kernel
theorem dX5_held_9 : decode cX5_held 9 = .ok (.getfield 11, 3) := by decide +kernel
theorem dX5_held_12 : decode cX5_held 12 = .ok (.iload_n 1, 1) := by decide +kernel
theorem dX5_held_13 : decode cX5_held 13 = .ok (.iaload, 1) := by decide +kernel
theorem dX5_held_14 : decode cX5_held 14 = .ok (.bipush 10, 2) := by decide +kernel
theorem dX5_held_16 : decode cX5_held 16 = .ok (.ishr, 1) := by decide +kernel
theorem dX5_held_17 : decode cX5_held 17 = .ok (.bipush 15, 2) := by decide +kernel
theorem dX5_held_19 : decode cX5_held 19 = .ok (.iand, 1) := by decide +kernel
theorem dX5_held_20 : decode cX5_held 20 = .ok (.iconst 1, 1) := by decide +kernel
theorem dX5_held_21 : decode cX5_held 21 = .ok (.isub, 1) := by decide +kernel
theorem dX5_held_22 : decode cX5_held 22 = .ok (.goto 4, 3) := by decide +kernel
theorem dX5_held_25 : decode cX5_held 25 = .ok (.iconst (-1), 1) := by decide +kernel
theorem dX5_held_26 : decode cX5_held 26 = .ok (.ireturn, 1) := by decide +kernel
theorem dX5_hold_0 : decode cX5_hold 0 = .ok (.aload_n 0, 1) := by decide +kernel
theorem dX5_hold_1 : decode cX5_hold 1 = .ok (.iload_n 1, 1) := by decide +kernel
theorem dX5_hold_2 : decode cX5_hold 2 = .ok (.invokevirtual 25, 3) := by decide +kernel
theorem dX5_hold_5 : decode cX5_hold 5 = .ok (.ifCond .eq 18, 3) := by decide +kernel
theorem dX5_hold_8 : decode cX5_hold 8 = .ok (.aload_n 0, 1) := by decide +kernel
theorem dX5_hold_9 : decode cX5_hold 9 = .ok (.getfield 11, 3) := by decide +kernel
theorem dX5_hold_12 : decode cX5_hold 12 = .ok (.iload_n 1, 1) := by decide +kernel
theorem dX5_hold_13 : decode cX5_hold 13 = .ok (.dup2, 1) := by decide +kernel
theorem dX5_hold_14 : decode cX5_hold 14 = .ok (.iaload, 1) := by decide +kernel
theorem dX5_hold_15 : decode cX5_hold 15 = .ok (.iload_n 2, 1) := by decide +kernel
theorem dX5_hold_16 : decode cX5_hold 16 = .ok (.iconst 1, 1) := by decide +kernel
theorem dX5_hold_17 : decode cX5_hold 17 = .ok (.iadd, 1) := by decide +kernel
theorem dX5_hold_18 : decode cX5_hold 18 = .ok (.bipush 10, 2) := by decide +kernel
theorem dX5_hold_20 : decode cX5_hold 20 = .ok (.ishl, 1) := by decide +kernel
theorem dX5_hold_21 : decode cX5_hold 21 = .ok (.ior, 1) := by decide +kernel
theorem dX5_hold_22 : decode cX5_hold 22 = .ok (.iastore, 1) := by decide +kernel
theorem dX5_hold_23 : decode cX5_hold 23 = .ok (.return_, 1) := by decide +kernel
theorem dX5_push_0 : decode cX5_push 0 = .ok (.aload_n 0, 1) := by decide +kernel
theorem dX5_push_1 : decode cX5_push 1 = .ok (.getfield 22, 3) := by decide +kernel
theorem dX5_push_4 : decode cX5_push 4 = .ok (.istore_n 3, 1) := by decide +kernel
theorem dX5_push_5 : decode cX5_push 5 = .ok (.aload_n 0, 1) := by decide +kernel
theorem dX5_push_6 : decode cX5_push 6 = .ok (.aload_n 0, 1) := by decide +kernel
theorem dX5_push_7 : decode cX5_push 7 = .ok (.getfield 18, 3) := by decide +kernel
theorem dX5_push_10 : decode cX5_push 10 = .ok (.putfield 22, 3) := by decide +kernel
theorem dX5_push_13 : decode cX5_push 13 = .ok (.aload_n 0, 1) := by decide +kernel
theorem dX5_push_14 : decode cX5_push 14 = .ok (.iload_n 1, 1) := by decide +kernel
theorem dX5_push_15 : decode cX5_push 15 = .ok (.iload_n 2, 1) := by decide +kernel
theorem dX5_push_16 : decode cX5_push 16 = .ok (.bipush 14, 2) := by decide +kernel
theorem dX5_push_18 : decode cX5_push 18 = .ok (.ishl, 1) := by decide +kernel
theorem dX5_push_19 : decode cX5_push 19 = .ok (.ior, 1) := by decide +kernel
theorem dX5_push_20 : decode cX5_push 20 = .ok (.iload_n 3, 1) := by decide +kernel
theorem dX5_push_21 : decode cX5_push 21 = .ok (.invokevirtual 29, 3) := by decide +kernel
theorem dX5_push_24 : decode cX5_push 24 = .ok (.ireturn, 1) := by decide +kernel
theorem dX5_make_0 : decode cX5_make 0 = .ok (.aload_n 0, 1) := by decide +kernel
theorem dX5_make_1 : decode cX5_make 1 = .ok (.getfield 18, 3) := by decide +kernel
theorem dX5_make_4 : decode cX5_make 4 = .ok (.ifCond .lt 13, 3) := by decide +kernel
theorem dX5_make_7 : decode cX5_make 7 = .ok (.aload_n 0, 1) := by decide +kernel
theorem dX5_make_8 : decode cX5_make 8 = .ok (.getfield 18, 3) := by decide +kernel
theorem dX5_make_11 : decode cX5_make 11 = .ok (.sipush 8200, 3) := by decide +kernel
theorem dX5_make_14 : decode cX5_make 14 = .ok (.if_icmp .lt 5, 3) := by decide +kernel
theorem dX5_make_17 : decode cX5_make 17 = .ok (.iconst 0, 1) := by decide +kernel
theorem dX5_make_18 : decode cX5_make 18 = .ok (.ireturn, 1) := by decide +kernel
theorem dX5_make_19 : decode cX5_make 19 = .ok (.aload_n 0, 1) := by decide +kernel
theorem dX5_make_20 : decode cX5_make 20 = .ok (.getfield 11, 3) := by decide +kernel
theorem dX5_make_23 : decode cX5_make 23 = .ok (.aload_n 0, 1) := by decide +kernel
theorem dX5_make_24 : decode cX5_make 24 = .ok (.getfield 18, 3) := by decide +kernel
theorem dX5_make_27 : decode cX5_make 27 = .ok (.iload_n 1, 1) := by decide +kernel
theorem dX5_make_28 : decode cX5_make 28 = .ok (.iastore, 1) := by decide +kernel
theorem dX5_make_29 : decode cX5_make 29 = .ok (.aload_n 0, 1) := by decide +kernel
theorem dX5_make_30 : decode cX5_make 30 = .ok (.getfield 15, 3) := by decide +kernel
theorem dX5_make_33 : decode cX5_make 33 = .ok (.aload_n 0, 1) := by decide +kernel
theorem dX5_make_34 : decode cX5_make 34 = .ok (.getfield 18, 3) := by decide +kernel
theorem dX5_make_37 : decode cX5_make 37 = .ok (.iload_n 2, 1) := by decide +kernel
theorem dX5_make_38 : decode cX5_make 38 = .ok (.iastore, 1) := by decide +kernel
theorem dX5_make_39 : decode cX5_make 39 = .ok (.aload_n 0, 1) := by decide +kernel
theorem dX5_make_40 : decode cX5_make 40 = .ok (.dup, 1) := by decide +kernel
theorem dX5_make_41 : decode cX5_make 41 = .ok (.getfield 18, 3) := by decide +kernel
theorem dX5_make_44 : decode cX5_make 44 = .ok (.iconst 1, 1) := by decide +kernel
theorem dX5_make_45 : decode cX5_make 45 = .ok (.iadd, 1) := by decide +kernel
theorem dX5_make_46 : decode cX5_make 46 = .ok (.putfield 18, 3) := by decide +kernel
theorem dX5_make_49 : decode cX5_make 49 = .ok (.iconst 1, 1) := by decide +kernel
theorem dX5_make_50 : decode cX5_make 50 = .ok (.ireturn, 1) := by decide +kernel
theorem dX5_layDown_0 : decode cX5_layDown 0 = .ok (.aload_n 0, 1) := by decide +kernel
theorem dX5_layDown_1 : decode cX5_layDown 1 = .ok (.getfield 22, 3) := by decide +kernel
theorem dX5_layDown_4 : decode cX5_layDown 4 = .ok (.istore_n 3, 1) := by decide +kernel
theorem dX5_layDown_5 : decode cX5_layDown 5 = .ok (.iload_n 1, 1) := by decide +kernel
theorem dX5_layDown_6 : decode cX5_layDown 6 = .ok (.istore 4, 2) := by decide +kernel
theorem dX5_layDown_8 : decode cX5_layDown 8 = .ok (.aload_n 0, 1) := by decide +kernel
theorem dX5_layDown_9 : decode cX5_layDown 9 = .ok (.aload_n 0, 1) := by decide +kernel
theorem dX5_layDown_10 : decode cX5_layDown 10 = .ok (.getfield 18, 3) := by decide +kernel
theorem dX5_layDown_13 : decode cX5_layDown 13 = .ok (.putfield 22, 3) := by decide +kernel
theorem dX5_layDown_16 : decode cX5_layDown 16 = .ok (.iconst 0, 1) := by decide +kernel
theorem dX5_layDown_17 : decode cX5_layDown 17 = .ok (.istore 5, 2) := by decide +kernel
theorem dX5_layDown_19 : decode cX5_layDown 19 = .ok (.iload 5, 2) := by decide +kernel
theorem dX5_layDown_21 : decode cX5_layDown 21 = .ok (.sipush 8200, 3) := by decide +kernel
theorem dX5_layDown_24 : decode cX5_layDown 24 = .ok (.if_icmp .ge 78, 3) := by decide +kernel
theorem dX5_layDown_27 : decode cX5_layDown 27 = .ok (.aload_n 0, 1) := by decide +kernel
theorem dX5_layDown_28 : decode cX5_layDown 28 = .ok (.iload 4, 2) := by decide +kernel
theorem dX5_layDown_30 : decode cX5_layDown 30 = .ok (.invokevirtual 25, 3) := by decide +kernel
theorem dX5_layDown_33 : decode cX5_layDown 33 = .ok (.ifCond .eq 69, 3) := by decide +kernel
theorem dX5_layDown_36 : decode cX5_layDown 36 = .ok (.iload 4, 2) := by decide +kernel
theorem dX5_layDown_38 : decode cX5_layDown 38 = .ok (.iload_n 2, 1) := by decide +kernel
theorem dX5_layDown_39 : decode cX5_layDown 39 = .ok (.if_icmp .ne 7, 3) := by decide +kernel
theorem dX5_layDown_42 : decode cX5_layDown 42 = .ok (.iconst 1, 1) := by decide +kernel
theorem dX5_layDown_43 : decode cX5_layDown 43 = .ok (.goto 4, 3) := by decide +kernel
theorem dX5_layDown_46 : decode cX5_layDown 46 = .ok (.iconst 0, 1) := by decide +kernel
theorem dX5_layDown_47 : decode cX5_layDown 47 = .ok (.istore 6, 2) := by decide +kernel
theorem dX5_layDown_49 : decode cX5_layDown 49 = .ok (.aload_n 0, 1) := by decide +kernel
theorem dX5_layDown_50 : decode cX5_layDown 50 = .ok (.aload_n 0, 1) := by decide +kernel
theorem dX5_layDown_51 : decode cX5_layDown 51 = .ok (.getfield 11, 3) := by decide +kernel
theorem dX5_layDown_54 : decode cX5_layDown 54 = .ok (.iload 4, 2) := by decide +kernel
theorem dX5_layDown_56 : decode cX5_layDown 56 = .ok (.iaload, 1) := by decide +kernel
theorem dX5_layDown_57 : decode cX5_layDown 57 = .ok (.iload 6, 2) := by decide +kernel
theorem dX5_layDown_59 : decode cX5_layDown 59 = .ok (.ifCond .eq 7, 3) := by decide +kernel
theorem dX5_layDown_62 : decode cX5_layDown 62 = .ok (.iload_n 3, 1) := by decide +kernel
theorem dX5_layDown_63 : decode cX5_layDown 63 = .ok (.goto 9, 3) := by decide +kernel
theorem dX5_layDown_66 : decode cX5_layDown 66 = .ok (.aload_n 0, 1) := by decide +kernel
theorem dX5_layDown_67 : decode cX5_layDown 67 = .ok (.getfield 18, 3) := by decide +kernel
theorem dX5_layDown_70 : decode cX5_layDown 70 = .ok (.iconst 1, 1) := by decide +kernel
theorem dX5_layDown_71 : decode cX5_layDown 71 = .ok (.iadd, 1) := by decide +kernel
theorem dX5_layDown_72 : decode cX5_layDown 72 = .ok (.invokevirtual 29, 3) := by decide +kernel
theorem dX5_layDown_75 : decode cX5_layDown 75 = .ok (.ifCond .ne 5, 3) := by decide +kernel
theorem dX5_layDown_78 : decode cX5_layDown 78 = .ok (.iconst 0, 1) := by decide +kernel
theorem dX5_layDown_79 : decode cX5_layDown 79 = .ok (.ireturn, 1) := by decide +kernel
theorem dX5_layDown_80 : decode cX5_layDown 80 = .ok (.iload 6, 2) := by decide +kernel
theorem dX5_layDown_82 : decode cX5_layDown 82 = .ok (.ifCond .eq 5, 3) := by decide +kernel
theorem dX5_layDown_85 : decode cX5_layDown 85 = .ok (.iconst 1, 1) := by decide +kernel
theorem dX5_layDown_86 : decode cX5_layDown 86 = .ok (.ireturn, 1) := by decide +kernel
theorem dX5_layDown_87 : decode cX5_layDown 87 = .ok (.aload_n 0, 1) := by decide +kernel
theorem dX5_layDown_88 : decode cX5_layDown 88 = .ok (.getfield 15, 3) := by decide +kernel
theorem dX5_layDown_91 : decode cX5_layDown 91 = .ok (.iload 4, 2) := by decide +kernel
theorem dX5_layDown_93 : decode cX5_layDown 93 = .ok (.iaload, 1) := by decide +kernel
theorem dX5_layDown_94 : decode cX5_layDown 94 = .ok (.istore 4, 2) := by decide +kernel
theorem dX5_layDown_96 : decode cX5_layDown 96 = .ok (.iinc 5 1, 3) := by decide +kernel
theorem dX5_layDown_99 : decode cX5_layDown 99 = .ok (.goto (-80), 3) := by decide +kernel
theorem dX5_layDown_102 : decode cX5_layDown 102 = .ok (.iconst 0, 1) := by decide +kernel
theorem dX5_layDown_103 : decode cX5_layDown 103 = .ok (.ireturn, 1) := by decide +kernel
theorem dX6_init_0 : decode cX6_init 0 = .ok (.aload_n 0, 1) := by decide +kernel
theorem dX6_init_1 : decode cX6_init 1 = .ok (.invokespecial 3, 3) := by decide +kernel
theorem dX6_init_4 : decode cX6_init 4 = .ok (.aload_n 0, 1) := by decide +kernel
theorem dX6_init_5 : decode cX6_init 5 = .ok (.sipush 800, 3) := by decide +kernel
theorem dX6_init_8 : decode cX6_init 8 = .ok (.newarray .int, 2) := by decide +kernel
theorem dX6_init_10 : decode cX6_init 10 = .ok (.putfield 9, 3) := by decide +kernel
theorem dX6_init_13 : decode cX6_init 13 = .ok (.aload_n 0, 1) := by decide +kernel
theorem dX6_init_14 : decode cX6_init 14 = .ok (.sipush 800, 3) := by decide +kernel
theorem dX6_init_17 : decode cX6_init 17 = .ok (.newarray .int, 2) := by decide +kernel
theorem dX6_init_19 : decode cX6_init 19 = .ok (.putfield 15, 3) := by decide +kernel
theorem dX6_init_22 : decode cX6_init 22 = .ok (.aload_n 0, 1) := by decide +kernel
theorem dX6_init_23 : decode cX6_init 23 = .ok (.iconst 4, 1) := by decide +kernel
theorem dX6_init_24 : decode cX6_init 24 = .ok (.newarray .int, 2) := by decide +kernel
theorem dX6_init_26 : decode cX6_init 26 = .ok (.putfield 18, 3) := by decide +kernel
theorem dX6_init_29 : decode cX6_init 29 = .ok (.aload_n 0, 1) := by decide +kernel
theorem dX6_init_30 : decode cX6_init 30 = .ok (.aload_n 1, 1) := by decide +kernel
theorem dX6_init_31 : decode cX6_init 31 = .ok (.putfield 21, 3) := by decide +kernel
theorem dX6_init_34 : decode cX6_init 34 = .ok (.return_, 1) := by decide +kernel
theorem dX6_beyond_0 : decode cX6_beyond 0 = .ok (.iconst 0, 1) := by decide +kernel
theorem dX6_beyond_1 : decode cX6_beyond 1 = .ok (.istore_n 2, 1) := by decide +kernel
theorem dX6_beyond_2 : decode cX6_beyond 2 = .ok (.iload_n 2, 1) := by decide +kernel
theorem dX6_beyond_3 : decode cX6_beyond 3 = .ok (.sipush 800, 3) := by decide +kernel
theorem dX6_beyond_6 : decode cX6_beyond 6 = .ok (.if_icmp .ge 16, 3) := by decide +kernel
theorem dX6_beyond_9 : decode cX6_beyond 9 = .ok (.aload_n 0, 1) := by decide +kernel
theorem dX6_beyond_10 : decode cX6_beyond 10 = .ok (.getfield 9, 3) := by decide +kernel
theorem dX6_beyond_13 : decode cX6_beyond 13 = .ok (.iload_n 2, 1) := by decide +kernel
theorem dX6_beyond_14 : decode cX6_beyond 14 = .ok (.iconst 0, 1) := by decide +kernel
theorem dX6_beyond_15 : decode cX6_beyond 15 = .ok (.iastore, 1) := by decide +kernel
theorem dX6_beyond_16 : decode cX6_beyond 16 = .ok (.iinc 2 1, 3) := by decide +kernel
theorem dX6_beyond_19 : decode cX6_beyond 19 = .ok (.goto (-17), 3) := by decide +kernel
theorem dX6_beyond_22 : decode cX6_beyond 22 = .ok (.iconst 0, 1) := by decide +kernel
theorem dX6_beyond_23 : decode cX6_beyond 23 = .ok (.istore_n 2, 1) := by decide +kernel
theorem dX6_beyond_24 : decode cX6_beyond 24 = .ok (.iload_n 2, 1) := by decide +kernel
theorem dX6_beyond_25 : decode cX6_beyond 25 = .ok (.iconst 4, 1) := by decide +kernel
theorem dX6_beyond_26 : decode cX6_beyond 26 = .ok (.if_icmp .ge 16, 3) := by decide +kernel
theorem dX6_beyond_29 : decode cX6_beyond 29 = .ok (.aload_n 0, 1) := by decide +kernel
theorem dX6_beyond_30 : decode cX6_beyond 30 = .ok (.getfield 18, 3) := by decide +kernel
theorem dX6_beyond_33 : decode cX6_beyond 33 = .ok (.iload_n 2, 1) := by decide +kernel
theorem dX6_beyond_34 : decode cX6_beyond 34 = .ok (.iconst 0, 1) := by decide +kernel
theorem dX6_beyond_35 : decode cX6_beyond 35 = .ok (.iastore, 1) := by decide +kernel
theorem dX6_beyond_36 : decode cX6_beyond 36 = .ok (.iinc 2 1, 3) := by decide +kernel
theorem dX6_beyond_39 : decode cX6_beyond 39 = .ok (.goto (-15), 3) := by decide +kernel
theorem dX6_beyond_42 : decode cX6_beyond 42 = .ok (.iconst 1, 1) := by decide +kernel
theorem dX6_beyond_43 : decode cX6_beyond 43 = .ok (.istore_n 2, 1) := by decide +kernel
theorem dX6_beyond_44 : decode cX6_beyond 44 = .ok (.iconst 0, 1) := by decide +kernel
theorem dX6_beyond_45 : decode cX6_beyond 45 = .ok (.istore_n 3, 1) := by decide +kernel
theorem dX6_beyond_46 : decode cX6_beyond 46 = .ok (.iload_n 3, 1) := by decide +kernel
theorem dX6_beyond_47 : decode cX6_beyond 47 = .ok (.sipush 2401, 3) := by decide +kernel
theorem dX6_beyond_50 : decode cX6_beyond 50 = .ok (.if_icmp .ge 42, 3) := by decide +kernel
theorem dX6_beyond_53 : decode cX6_beyond 53 = .ok (.iload_n 2, 1) := by decide +kernel
theorem dX6_beyond_54 : decode cX6_beyond 54 = .ok (.ifCond .eq 38, 3) := by decide +kernel
theorem dX6_beyond_57 : decode cX6_beyond 57 = .ok (.iconst 0, 1) := by decide +kernel
theorem dX6_beyond_58 : decode cX6_beyond 58 = .ok (.istore_n 2, 1) := by decide +kernel
theorem dX6_beyond_59 : decode cX6_beyond 59 = .ok (.iconst 0, 1) := by decide +kernel
theorem dX6_beyond_60 : decode cX6_beyond 60 = .ok (.istore 4, 2) := by decide +kernel
theorem dX6_beyond_62 : decode cX6_beyond 62 = .ok (.iload 4, 2) := by decide +kernel
theorem dX6_beyond_64 : decode cX6_beyond 64 = .ok (.bipush 20, 2) := by decide +kernel
theorem dX6_beyond_66 : decode cX6_beyond 66 = .ok (.if_icmp .ge 20, 3) := by decide +kernel
theorem dX6_beyond_69 : decode cX6_beyond 69 = .ok (.aload_n 0, 1) := by decide +kernel
theorem dX6_beyond_70 : decode cX6_beyond 70 = .ok (.iload 4, 2) := by decide +kernel
theorem dX6_beyond_72 : decode cX6_beyond 72 = .ok (.invokevirtual 25, 3) := by decide +kernel
theorem dX6_beyond_75 : decode cX6_beyond 75 = .ok (.ifCond .eq 5, 3) := by decide +kernel
theorem dX6_beyond_78 : decode cX6_beyond 78 = .ok (.iconst 1, 1) := by decide +kernel
theorem dX6_beyond_79 : decode cX6_beyond 79 = .ok (.istore_n 2, 1) := by decide +kernel
theorem dX6_beyond_80 : decode cX6_beyond 80 = .ok (.iinc 4 1, 3) := by decide +kernel
theorem dX6_beyond_83 : decode cX6_beyond 83 = .ok (.goto (-21), 3) := by decide +kernel
theorem dX6_beyond_86 : decode cX6_beyond 86 = .ok (.iinc 3 1, 3) := by decide +kernel
theorem dX6_beyond_89 : decode cX6_beyond 89 = .ok (.goto (-43), 3) := by decide +kernel
theorem dX6_beyond_92 : decode cX6_beyond 92 = .ok (.aload_n 0, 1) := by decide +kernel
theorem dX6_beyond_93 : decode cX6_beyond 93 = .ok (.iload_n 1, 1) := by decide +kernel
theorem dX6_beyond_94 : decode cX6_beyond 94 = .ok (.bipush 40, 2) := by decide +kernel
theorem dX6_beyond_96 : decode cX6_beyond 96 = .ok (.imul, 1) := by decide +kernel
theorem dX6_beyond_97 : decode cX6_beyond 97 = .ok (.invokevirtual 29, 3) := by decide +kernel
theorem dX6_beyond_100 : decode cX6_beyond 100 = .ok (.ireturn, 1) := by decide +kernel
theorem dX6_addsTo_0 : decode cX6_addsTo 0 = .ok (.iconst 0, 1) := by decide +kernel
theorem dX6_addsTo_1 : decode cX6_addsTo 1 = .ok (.istore_n 2, 1) := by decide +kernel
theorem dX6_addsTo_2 : decode cX6_addsTo 2 = .ok (.aload_n 0, 1) := by decide +kernel
theorem dX6_addsTo_3 : decode cX6_addsTo 3 = .ok (.getfield 21, 3) := by decide +kernel
theorem dX6_addsTo_6 : decode cX6_addsTo 6 = .ok (.iload_n 1, 1) := by decide +kernel
theorem dX6_addsTo_7 : decode cX6_addsTo 7 = .ok (.invokevirtual 33, 3) := by decide +kernel
theorem dX6_addsTo_10 : decode cX6_addsTo 10 = .ok (.bipush 40, 2) := by decide +kernel
theorem dX6_addsTo_12 : decode cX6_addsTo 12 = .ok (.invokestatic 38, 3) := by decide +kernel
theorem dX6_addsTo_15 : decode cX6_addsTo 15 = .ok (.iconst 1, 1) := by decide +kernel
theorem dX6_addsTo_16 : decode cX6_addsTo 16 = .ok (.isub, 1) := by decide +kernel
theorem dX6_addsTo_17 : decode cX6_addsTo 17 = .ok (.istore_n 3, 1) := by decide +kernel
theorem dX6_addsTo_18 : decode cX6_addsTo 18 = .ok (.iload_n 3, 1) := by decide +kernel
theorem dX6_addsTo_19 : decode cX6_addsTo 19 = .ok (.ifCond .lt 95, 3) := by decide +kernel
theorem dX6_addsTo_22 : decode cX6_addsTo 22 = .ok (.iload_n 1, 1) := by decide +kernel
theorem dX6_addsTo_23 : decode cX6_addsTo 23 = .ok (.bipush 40, 2) := by decide +kernel
theorem dX6_addsTo_25 : decode cX6_addsTo 25 = .ok (.imul, 1) := by decide +kernel
theorem dX6_addsTo_26 : decode cX6_addsTo 26 = .ok (.iload_n 3, 1) := by decide +kernel
theorem dX6_addsTo_27 : decode cX6_addsTo 27 = .ok (.iadd, 1) := by decide +kernel
theorem dX6_addsTo_28 : decode cX6_addsTo 28 = .ok (.istore 4, 2) := by decide +kernel
theorem dX6_addsTo_30 : decode cX6_addsTo 30 = .ok (.aload_n 0, 1) := by decide +kernel
theorem dX6_addsTo_31 : decode cX6_addsTo 31 = .ok (.iload 4, 2) := by decide +kernel
theorem dX6_addsTo_33 : decode cX6_addsTo 33 = .ok (.invokevirtual 44, 3) := by decide +kernel
theorem dX6_addsTo_36 : decode cX6_addsTo 36 = .ok (.istore 5, 2) := by decide +kernel
theorem dX6_addsTo_38 : decode cX6_addsTo 38 = .ok (.iload 4, 2) := by decide +kernel
theorem dX6_addsTo_40 : decode cX6_addsTo 40 = .ok (.ifCond .lt 34, 3) := by decide +kernel
theorem dX6_addsTo_43 : decode cX6_addsTo 43 = .ok (.iload 4, 2) := by decide +kernel
theorem dX6_addsTo_45 : decode cX6_addsTo 45 = .ok (.sipush 800, 3) := by decide +kernel
theorem dX6_addsTo_48 : decode cX6_addsTo 48 = .ok (.if_icmp .ge 26, 3) := by decide +kernel
theorem dX6_addsTo_51 : decode cX6_addsTo 51 = .ok (.aload_n 0, 1) := by decide +kernel
theorem dX6_addsTo_52 : decode cX6_addsTo 52 = .ok (.getfield 9, 3) := by decide +kernel
theorem dX6_addsTo_55 : decode cX6_addsTo 55 = .ok (.iload 4, 2) := by decide +kernel
theorem dX6_addsTo_57 : decode cX6_addsTo 57 = .ok (.iaload, 1) := by decide +kernel
theorem dX6_addsTo_58 : decode cX6_addsTo 58 = .ok (.iload 5, 2) := by decide +kernel
theorem dX6_addsTo_60 : decode cX6_addsTo 60 = .ok (.if_icmp .eq 14, 3) := by decide +kernel
theorem dX6_addsTo_63 : decode cX6_addsTo 63 = .ok (.aload_n 0, 1) := by decide +kernel
theorem dX6_addsTo_64 : decode cX6_addsTo 64 = .ok (.getfield 9, 3) := by decide +kernel
theorem dX6_addsTo_67 : decode cX6_addsTo 67 = .ok (.iload 4, 2) := by decide +kernel
theorem dX6_addsTo_69 : decode cX6_addsTo 69 = .ok (.iload 5, 2) := by decide +kernel
theorem dX6_addsTo_71 : decode cX6_addsTo 71 = .ok (.iastore, 1) := by decide +kernel
theorem dX6_addsTo_72 : decode cX6_addsTo 72 = .ok (.iconst 1, 1) := by decide +kernel
theorem dX6_addsTo_73 : decode cX6_addsTo 73 = .ok (.istore_n 2, 1) := by decide +kernel
theorem dX6_addsTo_74 : decode cX6_addsTo 74 = .ok (.aload_n 0, 1) := by decide +kernel
theorem dX6_addsTo_75 : decode cX6_addsTo 75 = .ok (.getfield 21, 3) := by decide +kernel
theorem dX6_addsTo_78 : decode cX6_addsTo 78 = .ok (.iload 4, 2) := by decide +kernel
theorem dX6_addsTo_80 : decode cX6_addsTo 80 = .ok (.invokevirtual 47, 3) := by decide +kernel
theorem dX6_addsTo_83 : decode cX6_addsTo 83 = .ok (.istore 6, 2) := by decide +kernel
theorem dX6_addsTo_85 : decode cX6_addsTo 85 = .ok (.iload 6, 2) := by decide +kernel
theorem dX6_addsTo_87 : decode cX6_addsTo 87 = .ok (.ifCond .lt 21, 3) := by decide +kernel
theorem dX6_addsTo_90 : decode cX6_addsTo 90 = .ok (.iload 6, 2) := by decide +kernel
theorem dX6_addsTo_92 : decode cX6_addsTo 92 = .ok (.iconst 4, 1) := by decide +kernel
theorem dX6_addsTo_93 : decode cX6_addsTo 93 = .ok (.if_icmp .ge 15, 3) := by decide +kernel
theorem dX6_addsTo_96 : decode cX6_addsTo 96 = .ok (.aload_n 0, 1) := by decide +kernel
theorem dX6_addsTo_97 : decode cX6_addsTo 97 = .ok (.getfield 18, 3) := by decide +kernel
theorem dX6_addsTo_100 : decode cX6_addsTo 100 = .ok (.iload 6, 2) := by decide +kernel
theorem dX6_addsTo_102 : decode cX6_addsTo 102 = .ok (.dup2, 1) := by decide +kernel
theorem dX6_addsTo_103 : decode cX6_addsTo 103 = .ok (.iaload, 1) := by decide +kernel
theorem dX6_addsTo_104 : decode cX6_addsTo 104 = .ok (.iload 5, 2) := by decide +kernel
theorem dX6_addsTo_106 : decode cX6_addsTo 106 = .ok (.ior, 1) := by decide +kernel
theorem dX6_addsTo_107 : decode cX6_addsTo 107 = .ok (.iastore, 1) := by decide +kernel
theorem dX6_addsTo_108 : decode cX6_addsTo 108 = .ok (.iinc 3 (-1), 3) := by decide +kernel
theorem dX6_addsTo_111 : decode cX6_addsTo 111 = .ok (.goto (-93), 3) := by decide +kernel
theorem dX6_addsTo_114 : decode cX6_addsTo 114 = .ok (.iload_n 2, 1) := by decide +kernel
theorem dX6_addsTo_115 : decode cX6_addsTo 115 = .ok (.ireturn, 1) := by decide +kernel
theorem dX6_asked_0 : decode cX6_asked 0 = .ok (.iload_n 1, 1) := by decide +kernel
theorem dX6_asked_1 : decode cX6_asked 1 = .ok (.ifCond .lt 19, 3) := by decide +kernel
theorem dX6_asked_4 : decode cX6_asked 4 = .ok (.iload_n 1, 1) := by decide +kernel
theorem dX6_asked_5 : decode cX6_asked 5 = .ok (.sipush 800, 3) := by decide +kernel
theorem dX6_asked_8 : decode cX6_asked 8 = .ok (.if_icmp .ge 12, 3) := by decide +kernel
theorem dX6_asked_11 : decode cX6_asked 11 = .ok (.aload_n 0, 1) := by decide +kernel
theorem dX6_asked_12 : decode cX6_asked 12 = .ok (.getfield 9, 3) := by decide +kernel
theorem dX6_asked_15 : decode cX6_asked 15 = .ok (.iload_n 1, 1) := by decide +kernel
theorem dX6_asked_16 : decode cX6_asked 16 = .ok (.iaload, 1) := by decide +kernel
theorem dX6_asked_17 : decode cX6_asked 17 = .ok (.goto 4, 3) := by decide +kernel
theorem dX6_asked_20 : decode cX6_asked 20 = .ok (.iconst 0, 1) := by decide +kernel
theorem dX6_asked_21 : decode cX6_asked 21 = .ok (.ireturn, 1) := by decide +kernel
theorem dX6_asksOf_0 : decode cX6_asksOf 0 = .ok (.aload_n 0, 1) := by decide +kernel
theorem dX6_asksOf_1 : decode cX6_asksOf 1 = .ok (.getfield 21, 3) := by decide +kernel
theorem dX6_asksOf_4 : decode cX6_asksOf 4 = .ok (.iload_n 1, 1) := by decide +kernel
theorem dX6_asksOf_5 : decode cX6_asksOf 5 = .ok (.invokevirtual 50, 3) := by decide +kernel
theorem dX6_asksOf_8 : decode cX6_asksOf 8 = .ok (.istore_n 2, 1) := by decide +kernel
theorem dX6_asksOf_9 : decode cX6_asksOf 9 = .ok (.iconst 0, 1) := by decide +kernel
theorem dX6_asksOf_10 : decode cX6_asksOf 10 = .ok (.istore_n 3, 1) := by decide +kernel
theorem dX6_asksOf_11 : decode cX6_asksOf 11 = .ok (.aload_n 0, 1) := by decide +kernel
theorem dX6_asksOf_12 : decode cX6_asksOf 12 = .ok (.getfield 21, 3) := by decide +kernel
theorem dX6_asksOf_15 : decode cX6_asksOf 15 = .ok (.iload_n 1, 1) := by decide +kernel
theorem dX6_asksOf_16 : decode cX6_asksOf 16 = .ok (.invokevirtual 53, 3) := by decide +kernel
theorem dX6_asksOf_19 : decode cX6_asksOf 19 = .ok (.istore 4, 2) := by decide +kernel
theorem dX6_asksOf_21 : decode cX6_asksOf 21 = .ok (.iload_n 2, 1) := by decide +kernel
theorem dX6_asksOf_22 : decode cX6_asksOf 22 = .ok (.invokestatic 56, 3) := by decide +kernel
theorem dX6_asksOf_25 : decode cX6_asksOf 25 = .ok (.istore 5, 2) := by decide +kernel
theorem dX6_asksOf_27 : decode cX6_asksOf 27 = .ok (.iconst 0, 1) := by decide +kernel
theorem dX6_asksOf_28 : decode cX6_asksOf 28 = .ok (.istore 6, 2) := by decide +kernel
theorem dX6_asksOf_30 : decode cX6_asksOf 30 = .ok (.iload 6, 2) := by decide +kernel
theorem dX6_asksOf_32 : decode cX6_asksOf 32 = .ok (.iload 5, 2) := by decide +kernel
theorem dX6_asksOf_34 : decode cX6_asksOf 34 = .ok (.if_icmp .ge 29, 3) := by decide +kernel
theorem dX6_asksOf_37 : decode cX6_asksOf 37 = .ok (.iload_n 3, 1) := by decide +kernel
theorem dX6_asksOf_38 : decode cX6_asksOf 38 = .ok (.aload_n 0, 1) := by decide +kernel
theorem dX6_asksOf_39 : decode cX6_asksOf 39 = .ok (.iload 4, 2) := by decide +kernel
theorem dX6_asksOf_41 : decode cX6_asksOf 41 = .ok (.invokevirtual 29, 3) := by decide +kernel
theorem dX6_asksOf_44 : decode cX6_asksOf 44 = .ok (.ior, 1) := by decide +kernel
theorem dX6_asksOf_45 : decode cX6_asksOf 45 = .ok (.istore_n 3, 1) := by decide +kernel
theorem dX6_asksOf_46 : decode cX6_asksOf 46 = .ok (.aload_n 0, 1) := by decide +kernel
theorem dX6_asksOf_47 : decode cX6_asksOf 47 = .ok (.getfield 21, 3) := by decide +kernel
theorem dX6_asksOf_50 : decode cX6_asksOf 50 = .ok (.iload 4, 2) := by decide +kernel
theorem dX6_asksOf_52 : decode cX6_asksOf 52 = .ok (.invokevirtual 59, 3) := by decide +kernel
theorem dX6_asksOf_55 : decode cX6_asksOf 55 = .ok (.istore 4, 2) := by decide +kernel
theorem dX6_asksOf_57 : decode cX6_asksOf 57 = .ok (.iinc 6 1, 3) := by decide +kernel
theorem dX6_asksOf_60 : decode cX6_asksOf 60 = .ok (.goto (-30), 3) := by decide +kernel
theorem dX6_asksOf_63 : decode cX6_asksOf 63 = .ok (.iload_n 2, 1) := by decide +kernel
theorem dX6_asksOf_64 : decode cX6_asksOf 64 = .ok (.lookupswitch 86 #[(64, 72), (107, 61), (112, 52), (113, 52), (114, 52)], 52) := by decide +kernel
theorem dX6_asksOf_116 : decode cX6_asksOf 116 = .ok (.iload_n 3, 1) := by decide +kernel
theorem dX6_asksOf_117 : decode cX6_asksOf 117 = .ok (.iconst 1, 1) := by decide +kernel
theorem dX6_asksOf_118 : decode cX6_asksOf 118 = .ok (.iload_n 2, 1) := by decide +kernel
theorem dX6_asksOf_119 : decode cX6_asksOf 119 = .ok (.bipush 112, 2) := by decide +kernel
theorem dX6_asksOf_121 : decode cX6_asksOf 121 = .ok (.isub, 1) := by decide +kernel
theorem dX6_asksOf_122 : decode cX6_asksOf 122 = .ok (.ishl, 1) := by decide +kernel
theorem dX6_asksOf_123 : decode cX6_asksOf 123 = .ok (.ior, 1) := by decide +kernel
theorem dX6_asksOf_124 : decode cX6_asksOf 124 = .ok (.ireturn, 1) := by decide +kernel
theorem dX6_asksOf_125 : decode cX6_asksOf 125 = .ok (.iload_n 3, 1) := by decide +kernel
theorem dX6_asksOf_126 : decode cX6_asksOf 126 = .ok (.aload_n 0, 1) := by decide +kernel
theorem dX6_asksOf_127 : decode cX6_asksOf 127 = .ok (.iload_n 1, 1) := by decide +kernel
theorem dX6_asksOf_128 : decode cX6_asksOf 128 = .ok (.bipush 40, 2) := by decide +kernel
theorem dX6_asksOf_130 : decode cX6_asksOf 130 = .ok (.idiv, 1) := by decide +kernel
theorem dX6_asksOf_131 : decode cX6_asksOf 131 = .ok (.invokevirtual 62, 3) := by decide +kernel
theorem dX6_asksOf_134 : decode cX6_asksOf 134 = .ok (.ior, 1) := by decide +kernel
theorem dX6_asksOf_135 : decode cX6_asksOf 135 = .ok (.ireturn, 1) := by decide +kernel
theorem dX6_asksOf_136 : decode cX6_asksOf 136 = .ok (.aload_n 0, 1) := by decide +kernel
theorem dX6_asksOf_137 : decode cX6_asksOf 137 = .ok (.aload_n 0, 1) := by decide +kernel
theorem dX6_asksOf_138 : decode cX6_asksOf 138 = .ok (.getfield 21, 3) := by decide +kernel
theorem dX6_asksOf_141 : decode cX6_asksOf 141 = .ok (.iload_n 1, 1) := by decide +kernel
theorem dX6_asksOf_142 : decode cX6_asksOf 142 = .ok (.invokevirtual 47, 3) := by decide +kernel
theorem dX6_asksOf_145 : decode cX6_asksOf 145 = .ok (.iload_n 3, 1) := by decide +kernel
theorem dX6_asksOf_146 : decode cX6_asksOf 146 = .ok (.invokevirtual 65, 3) := by decide +kernel
theorem dX6_asksOf_149 : decode cX6_asksOf 149 = .ok (.ireturn, 1) := by decide +kernel
theorem dX6_asksOf_150 : decode cX6_asksOf 150 = .ok (.iload_n 3, 1) := by decide +kernel
theorem dX6_asksOf_151 : decode cX6_asksOf 151 = .ok (.ireturn, 1) := by decide +kernel
theorem dX6_whatGoesOn_0 : decode cX6_whatGoesOn 0 = .ok (.iload_n 1, 1) := by decide +kernel
theorem dX6_whatGoesOn_1 : decode cX6_whatGoesOn 1 = .ok (.iconst 4, 1) := by decide +kernel
theorem dX6_whatGoesOn_2 : decode cX6_whatGoesOn 2 = .ok (.isub, 1) := by decide +kernel
theorem dX6_whatGoesOn_3 : decode cX6_whatGoesOn 3 = .ok (.iconst 4, 1) := by decide +kernel
theorem dX6_whatGoesOn_4 : decode cX6_whatGoesOn 4 = .ok (.idiv, 1) := by decide +kernel
theorem dX6_whatGoesOn_5 : decode cX6_whatGoesOn 5 = .ok (.istore_n 2, 1) := by decide +kernel
theorem dX6_whatGoesOn_6 : decode cX6_whatGoesOn 6 = .ok (.iload_n 1, 1) := by decide +kernel
theorem dX6_whatGoesOn_7 : decode cX6_whatGoesOn 7 = .ok (.iconst 4, 1) := by decide +kernel
theorem dX6_whatGoesOn_8 : decode cX6_whatGoesOn 8 = .ok (.if_icmp .lt 17, 3) := by decide +kernel
theorem dX6_whatGoesOn_11 : decode cX6_whatGoesOn 11 = .ok (.iload_n 2, 1) := by decide +kernel
theorem dX6_whatGoesOn_12 : decode cX6_whatGoesOn 12 = .ok (.iconst 4, 1) := by decide +kernel
theorem dX6_whatGoesOn_13 : decode cX6_whatGoesOn 13 = .ok (.if_icmp .ge 12, 3) := by decide +kernel
theorem dX6_whatGoesOn_16 : decode cX6_whatGoesOn 16 = .ok (.aload_n 0, 1) := by decide +kernel
theorem dX6_whatGoesOn_17 : decode cX6_whatGoesOn 17 = .ok (.getfield 18, 3) := by decide +kernel
theorem dX6_whatGoesOn_20 : decode cX6_whatGoesOn 20 = .ok (.iload_n 2, 1) := by decide +kernel
theorem dX6_whatGoesOn_21 : decode cX6_whatGoesOn 21 = .ok (.iaload, 1) := by decide +kernel
theorem dX6_whatGoesOn_22 : decode cX6_whatGoesOn 22 = .ok (.goto 4, 3) := by decide +kernel
theorem dX6_whatGoesOn_25 : decode cX6_whatGoesOn 25 = .ok (.iconst 0, 1) := by decide +kernel
theorem dX6_whatGoesOn_26 : decode cX6_whatGoesOn 26 = .ok (.ireturn, 1) := by decide +kernel
theorem dX6_pastHand_0 : decode cX6_pastHand 0 = .ok (.aload_n 0, 1) := by decide +kernel
theorem dX6_pastHand_1 : decode cX6_pastHand 1 = .ok (.getfield 21, 3) := by decide +kernel
theorem dX6_pastHand_4 : decode cX6_pastHand 4 = .ok (.iload_n 1, 1) := by decide +kernel
theorem dX6_pastHand_5 : decode cX6_pastHand 5 = .ok (.invokevirtual 68, 3) := by decide +kernel
theorem dX6_pastHand_8 : decode cX6_pastHand 8 = .ok (.istore_n 3, 1) := by decide +kernel
theorem dX6_pastHand_9 : decode cX6_pastHand 9 = .ok (.iload_n 3, 1) := by decide +kernel
theorem dX6_pastHand_10 : decode cX6_pastHand 10 = .ok (.iload_n 2, 1) := by decide +kernel
theorem dX6_pastHand_11 : decode cX6_pastHand 11 = .ok (.bipush 8, 2) := by decide +kernel
theorem dX6_pastHand_13 : decode cX6_pastHand 13 = .ok (.ior, 1) := by decide +kernel
theorem dX6_pastHand_14 : decode cX6_pastHand 14 = .ok (.iand, 1) := by decide +kernel
theorem dX6_pastHand_15 : decode cX6_pastHand 15 = .ok (.istore 4, 2) := by decide +kernel
theorem dX6_pastHand_17 : decode cX6_pastHand 17 = .ok (.iload_n 2, 1) := by decide +kernel
theorem dX6_pastHand_18 : decode cX6_pastHand 18 = .ok (.iload_n 3, 1) := by decide +kernel
theorem dX6_pastHand_19 : decode cX6_pastHand 19 = .ok (.iconst (-1), 1) := by decide +kernel
theorem dX6_pastHand_20 : decode cX6_pastHand 20 = .ok (.ixor, 1) := by decide +kernel
theorem dX6_pastHand_21 : decode cX6_pastHand 21 = .ok (.iand, 1) := by decide +kernel
theorem dX6_pastHand_22 : decode cX6_pastHand 22 = .ok (.istore 5, 2) := by decide +kernel
theorem dX6_pastHand_24 : decode cX6_pastHand 24 = .ok (.iconst 0, 1) := by decide +kernel
theorem dX6_pastHand_25 : decode cX6_pastHand 25 = .ok (.istore 6, 2) := by decide +kernel
theorem dX6_pastHand_27 : decode cX6_pastHand 27 = .ok (.iload 6, 2) := by decide +kernel
theorem dX6_pastHand_29 : decode cX6_pastHand 29 = .ok (.iconst 4, 1) := by decide +kernel
theorem dX6_pastHand_30 : decode cX6_pastHand 30 = .ok (.if_icmp .ge 38, 3) := by decide +kernel
theorem dX6_pastHand_33 : decode cX6_pastHand 33 = .ok (.iload 4, 2) := by decide +kernel
theorem dX6_pastHand_35 : decode cX6_pastHand 35 = .ok (.iload 6, 2) := by decide +kernel
theorem dX6_pastHand_37 : decode cX6_pastHand 37 = .ok (.ishr, 1) := by decide +kernel
theorem dX6_pastHand_38 : decode cX6_pastHand 38 = .ok (.iconst 1, 1) := by decide +kernel
theorem dX6_pastHand_39 : decode cX6_pastHand 39 = .ok (.iand, 1) := by decide +kernel
theorem dX6_pastHand_40 : decode cX6_pastHand 40 = .ok (.iconst 1, 1) := by decide +kernel
theorem dX6_pastHand_41 : decode cX6_pastHand 41 = .ok (.if_icmp .ne 21, 3) := by decide +kernel
theorem dX6_pastHand_44 : decode cX6_pastHand 44 = .ok (.iload 5, 2) := by decide +kernel
theorem dX6_pastHand_46 : decode cX6_pastHand 46 = .ok (.aload_n 0, 1) := by decide +kernel
theorem dX6_pastHand_47 : decode cX6_pastHand 47 = .ok (.iload_n 1, 1) := by decide +kernel
theorem dX6_pastHand_48 : decode cX6_pastHand 48 = .ok (.iload 6, 2) := by decide +kernel
theorem dX6_pastHand_50 : decode cX6_pastHand 50 = .ok (.invokestatic 71, 3) := by decide +kernel
theorem dX6_pastHand_53 : decode cX6_pastHand 53 = .ok (.bipush 40, 2) := by decide +kernel
theorem dX6_pastHand_55 : decode cX6_pastHand 55 = .ok (.imul, 1) := by decide +kernel
theorem dX6_pastHand_56 : decode cX6_pastHand 56 = .ok (.invokevirtual 29, 3) := by decide +kernel
theorem dX6_pastHand_59 : decode cX6_pastHand 59 = .ok (.ior, 1) := by decide +kernel
theorem dX6_pastHand_60 : decode cX6_pastHand 60 = .ok (.istore 5, 2) := by decide +kernel
theorem dX6_pastHand_62 : decode cX6_pastHand 62 = .ok (.iinc 6 1, 3) := by decide +kernel
theorem dX6_pastHand_65 : decode cX6_pastHand 65 = .ok (.goto (-38), 3) := by decide +kernel
theorem dX6_pastHand_68 : decode cX6_pastHand 68 = .ok (.iload 5, 2) := by decide +kernel
theorem dX6_pastHand_70 : decode cX6_pastHand 70 = .ok (.ireturn, 1) := by decide +kernel
theorem dX6_goings_0 : decode cX6_goings 0 = .ok (.aload_n 0, 1) := by decide +kernel
theorem dX6_goings_1 : decode cX6_goings 1 = .ok (.getfield 21, 3) := by decide +kernel
theorem dX6_goings_4 : decode cX6_goings 4 = .ok (.iload_n 1, 1) := by decide +kernel
theorem dX6_goings_5 : decode cX6_goings 5 = .ok (.invokevirtual 33, 3) := by decide +kernel
theorem dX6_goings_8 : decode cX6_goings 8 = .ok (.bipush 40, 2) := by decide +kernel
theorem dX6_goings_10 : decode cX6_goings 10 = .ok (.invokestatic 38, 3) := by decide +kernel
theorem dX6_goings_13 : decode cX6_goings 13 = .ok (.iconst 1, 1) := by decide +kernel
theorem dX6_goings_14 : decode cX6_goings 14 = .ok (.isub, 1) := by decide +kernel
theorem dX6_goings_15 : decode cX6_goings 15 = .ok (.istore_n 2, 1) := by decide +kernel
theorem dX6_goings_16 : decode cX6_goings 16 = .ok (.iload_n 2, 1) := by decide +kernel
theorem dX6_goings_17 : decode cX6_goings 17 = .ok (.ifCond .lt 42, 3) := by decide +kernel
theorem dX6_goings_20 : decode cX6_goings 20 = .ok (.iload_n 1, 1) := by decide +kernel
theorem dX6_goings_21 : decode cX6_goings 21 = .ok (.bipush 40, 2) := by decide +kernel
theorem dX6_goings_23 : decode cX6_goings 23 = .ok (.imul, 1) := by decide +kernel
theorem dX6_goings_24 : decode cX6_goings 24 = .ok (.iload_n 2, 1) := by decide +kernel
theorem dX6_goings_25 : decode cX6_goings 25 = .ok (.iadd, 1) := by decide +kernel
theorem dX6_goings_26 : decode cX6_goings 26 = .ok (.istore_n 3, 1) := by decide +kernel
theorem dX6_goings_27 : decode cX6_goings 27 = .ok (.iload_n 3, 1) := by decide +kernel
theorem dX6_goings_28 : decode cX6_goings 28 = .ok (.ifCond .lt 25, 3) := by decide +kernel
theorem dX6_goings_31 : decode cX6_goings 31 = .ok (.iload_n 3, 1) := by decide +kernel
theorem dX6_goings_32 : decode cX6_goings 32 = .ok (.sipush 800, 3) := by decide +kernel
theorem dX6_goings_35 : decode cX6_goings 35 = .ok (.if_icmp .ge 18, 3) := by decide +kernel
theorem dX6_goings_38 : decode cX6_goings 38 = .ok (.aload_n 0, 1) := by decide +kernel
theorem dX6_goings_39 : decode cX6_goings 39 = .ok (.getfield 15, 3) := by decide +kernel
theorem dX6_goings_42 : decode cX6_goings 42 = .ok (.iload_n 3, 1) := by decide +kernel
theorem dX6_goings_43 : decode cX6_goings 43 = .ok (.aload_n 0, 1) := by decide +kernel
theorem dX6_goings_44 : decode cX6_goings 44 = .ok (.iload_n 3, 1) := by decide +kernel
theorem dX6_goings_45 : decode cX6_goings 45 = .ok (.invokevirtual 74, 3) := by decide +kernel
theorem dX6_goings_48 : decode cX6_goings 48 = .ok (.iconst 2, 1) := by decide +kernel
theorem dX6_goings_49 : decode cX6_goings 49 = .ok (.invokestatic 38, 3) := by decide +kernel
theorem dX6_goings_52 : decode cX6_goings 52 = .ok (.iastore, 1) := by decide +kernel
theorem dX6_goings_53 : decode cX6_goings 53 = .ok (.iinc 2 (-1), 3) := by decide +kernel
theorem dX6_goings_56 : decode cX6_goings 56 = .ok (.goto (-40), 3) := by decide +kernel
theorem dX6_goings_59 : decode cX6_goings 59 = .ok (.aload_n 0, 1) := by decide +kernel
theorem dX6_goings_60 : decode cX6_goings 60 = .ok (.iload_n 1, 1) := by decide +kernel
theorem dX6_goings_61 : decode cX6_goings 61 = .ok (.bipush 40, 2) := by decide +kernel
theorem dX6_goings_63 : decode cX6_goings 63 = .ok (.imul, 1) := by decide +kernel
theorem dX6_goings_64 : decode cX6_goings 64 = .ok (.invokevirtual 77, 3) := by decide +kernel
theorem dX6_goings_67 : decode cX6_goings 67 = .ok (.ireturn, 1) := by decide +kernel
theorem dX6_counted_0 : decode cX6_counted 0 = .ok (.iload_n 1, 1) := by decide +kernel
theorem dX6_counted_1 : decode cX6_counted 1 = .ok (.ifCond .lt 19, 3) := by decide +kernel
theorem dX6_counted_4 : decode cX6_counted 4 = .ok (.iload_n 1, 1) := by decide +kernel
theorem dX6_counted_5 : decode cX6_counted 5 = .ok (.sipush 800, 3) := by decide +kernel
theorem dX6_counted_8 : decode cX6_counted 8 = .ok (.if_icmp .ge 12, 3) := by decide +kernel
theorem dX6_counted_11 : decode cX6_counted 11 = .ok (.aload_n 0, 1) := by decide +kernel
theorem dX6_counted_12 : decode cX6_counted 12 = .ok (.getfield 15, 3) := by decide +kernel
theorem dX6_counted_15 : decode cX6_counted 15 = .ok (.iload_n 1, 1) := by decide +kernel
theorem dX6_counted_16 : decode cX6_counted 16 = .ok (.iaload, 1) := by decide +kernel
theorem dX6_counted_17 : decode cX6_counted 17 = .ok (.goto 4, 3) := by decide +kernel
theorem dX6_counted_20 : decode cX6_counted 20 = .ok (.iconst 0, 1) := by decide +kernel
theorem dX6_counted_21 : decode cX6_counted 21 = .ok (.ireturn, 1) := by decide +kernel
theorem dX6_goingsOf_0 : decode cX6_goingsOf 0 = .ok (.aload_n 0, 1) := by decide +kernel
theorem dX6_goingsOf_1 : decode cX6_goingsOf 1 = .ok (.getfield 21, 3) := by decide +kernel
theorem dX6_goingsOf_4 : decode cX6_goingsOf 4 = .ok (.iload_n 1, 1) := by decide +kernel
theorem dX6_goingsOf_5 : decode cX6_goingsOf 5 = .ok (.invokevirtual 53, 3) := by decide +kernel
theorem dX6_goingsOf_8 : decode cX6_goingsOf 8 = .ok (.istore_n 2, 1) := by decide +kernel
theorem dX6_goingsOf_9 : decode cX6_goingsOf 9 = .ok (.aload_n 0, 1) := by decide +kernel
theorem dX6_goingsOf_10 : decode cX6_goingsOf 10 = .ok (.getfield 21, 3) := by decide +kernel
theorem dX6_goingsOf_13 : decode cX6_goingsOf 13 = .ok (.iload_n 2, 1) := by decide +kernel
theorem dX6_goingsOf_14 : decode cX6_goingsOf 14 = .ok (.invokevirtual 59, 3) := by decide +kernel
theorem dX6_goingsOf_17 : decode cX6_goingsOf 17 = .ok (.istore_n 3, 1) := by decide +kernel
theorem dX6_goingsOf_18 : decode cX6_goingsOf 18 = .ok (.aload_n 0, 1) := by decide +kernel
theorem dX6_goingsOf_19 : decode cX6_goingsOf 19 = .ok (.getfield 21, 3) := by decide +kernel
theorem dX6_goingsOf_22 : decode cX6_goingsOf 22 = .ok (.iload_n 1, 1) := by decide +kernel
theorem dX6_goingsOf_23 : decode cX6_goingsOf 23 = .ok (.invokevirtual 50, 3) := by decide +kernel
theorem dX6_goingsOf_26 : decode cX6_goingsOf 26 = .ok (.lookupswitch 157 #[(42, 90), (43, 90), (45, 90), (63, 102), (64, 143), (107, 135), (109, 90), (112, 129), (113, 129), (114, 129)], 90) := by decide +kernel
theorem dX6_goingsOf_116 : decode cX6_goingsOf 116 = .ok (.aload_n 0, 1) := by decide +kernel
theorem dX6_goingsOf_117 : decode cX6_goingsOf 117 = .ok (.iload_n 2, 1) := by decide +kernel
theorem dX6_goingsOf_118 : decode cX6_goingsOf 118 = .ok (.invokevirtual 77, 3) := by decide +kernel
theorem dX6_goingsOf_121 : decode cX6_goingsOf 121 = .ok (.aload_n 0, 1) := by decide +kernel
theorem dX6_goingsOf_122 : decode cX6_goingsOf 122 = .ok (.iload_n 3, 1) := by decide +kernel
theorem dX6_goingsOf_123 : decode cX6_goingsOf 123 = .ok (.invokevirtual 77, 3) := by decide +kernel
theorem dX6_goingsOf_126 : decode cX6_goingsOf 126 = .ok (.iadd, 1) := by decide +kernel
theorem dX6_goingsOf_127 : decode cX6_goingsOf 127 = .ok (.ireturn, 1) := by decide +kernel
theorem dX6_goingsOf_128 : decode cX6_goingsOf 128 = .ok (.aload_n 0, 1) := by decide +kernel
theorem dX6_goingsOf_129 : decode cX6_goingsOf 129 = .ok (.iload_n 2, 1) := by decide +kernel
theorem dX6_goingsOf_130 : decode cX6_goingsOf 130 = .ok (.invokevirtual 77, 3) := by decide +kernel
theorem dX6_goingsOf_133 : decode cX6_goingsOf 133 = .ok (.aload_n 0, 1) := by decide +kernel
theorem dX6_goingsOf_134 : decode cX6_goingsOf 134 = .ok (.iload_n 3, 1) := by decide +kernel
theorem dX6_goingsOf_135 : decode cX6_goingsOf 135 = .ok (.invokevirtual 77, 3) := by decide +kernel
theorem dX6_goingsOf_138 : decode cX6_goingsOf 138 = .ok (.aload_n 0, 1) := by decide +kernel
theorem dX6_goingsOf_139 : decode cX6_goingsOf 139 = .ok (.aload_n 0, 1) := by decide +kernel
theorem dX6_goingsOf_140 : decode cX6_goingsOf 140 = .ok (.getfield 21, 3) := by decide +kernel
theorem dX6_goingsOf_143 : decode cX6_goingsOf 143 = .ok (.iload_n 3, 1) := by decide +kernel
theorem dX6_goingsOf_144 : decode cX6_goingsOf 144 = .ok (.invokevirtual 59, 3) := by decide +kernel
theorem dX6_goingsOf_147 : decode cX6_goingsOf 147 = .ok (.invokevirtual 77, 3) := by decide +kernel
theorem dX6_goingsOf_150 : decode cX6_goingsOf 150 = .ok (.invokestatic 80, 3) := by decide +kernel
theorem dX6_goingsOf_153 : decode cX6_goingsOf 153 = .ok (.iadd, 1) := by decide +kernel
theorem dX6_goingsOf_154 : decode cX6_goingsOf 154 = .ok (.ireturn, 1) := by decide +kernel
theorem dX6_goingsOf_155 : decode cX6_goingsOf 155 = .ok (.aload_n 0, 1) := by decide +kernel
theorem dX6_goingsOf_156 : decode cX6_goingsOf 156 = .ok (.iload_n 2, 1) := by decide +kernel
theorem dX6_goingsOf_157 : decode cX6_goingsOf 157 = .ok (.invokevirtual 77, 3) := by decide +kernel
theorem dX6_goingsOf_160 : decode cX6_goingsOf 160 = .ok (.ireturn, 1) := by decide +kernel
theorem dX6_goingsOf_161 : decode cX6_goingsOf 161 = .ok (.aload_n 0, 1) := by decide +kernel
theorem dX6_goingsOf_162 : decode cX6_goingsOf 162 = .ok (.iload_n 2, 1) := by decide +kernel
theorem dX6_goingsOf_163 : decode cX6_goingsOf 163 = .ok (.invokevirtual 77, 3) := by decide +kernel
theorem dX6_goingsOf_166 : decode cX6_goingsOf 166 = .ok (.iconst 1, 1) := by decide +kernel
theorem dX6_goingsOf_167 : decode cX6_goingsOf 167 = .ok (.iadd, 1) := by decide +kernel
theorem dX6_goingsOf_168 : decode cX6_goingsOf 168 = .ok (.ireturn, 1) := by decide +kernel
theorem dX6_goingsOf_169 : decode cX6_goingsOf 169 = .ok (.aload_n 0, 1) := by decide +kernel
theorem dX6_goingsOf_170 : decode cX6_goingsOf 170 = .ok (.iload_n 2, 1) := by decide +kernel
theorem dX6_goingsOf_171 : decode cX6_goingsOf 171 = .ok (.invokevirtual 77, 3) := by decide +kernel
theorem dX6_goingsOf_174 : decode cX6_goingsOf 174 = .ok (.ifCond .le 7, 3) := by decide +kernel
theorem dX6_goingsOf_177 : decode cX6_goingsOf 177 = .ok (.iconst 2, 1) := by decide +kernel
theorem dX6_goingsOf_178 : decode cX6_goingsOf 178 = .ok (.goto 4, 3) := by decide +kernel
theorem dX6_goingsOf_181 : decode cX6_goingsOf 181 = .ok (.iconst 0, 1) := by decide +kernel
theorem dX6_goingsOf_182 : decode cX6_goingsOf 182 = .ok (.ireturn, 1) := by decide +kernel
theorem dX6_goingsOf_183 : decode cX6_goingsOf 183 = .ok (.iconst 0, 1) := by decide +kernel
theorem dX6_goingsOf_184 : decode cX6_goingsOf 184 = .ok (.ireturn, 1) := by decide +kernel
theorem dX7_init_0 : decode cX7_init 0 = .ok (.aload_n 0, 1) := by decide +kernel
theorem dX7_init_1 : decode cX7_init 1 = .ok (.invokespecial 3, 3) := by decide +kernel
theorem dX7_init_4 : decode cX7_init 4 = .ok (.aload_n 0, 1) := by decide +kernel
theorem dX7_init_5 : decode cX7_init 5 = .ok (.new 9, 3) := by decide +kernel
theorem dX7_init_8 : decode cX7_init 8 = .ok (.dup, 1) := by decide +kernel
theorem dX7_init_9 : decode cX7_init 9 = .ok (.invokespecial 11, 3) := by decide +kernel
theorem dX7_init_12 : decode cX7_init 12 = .ok (.putfield 12, 3) := by decide +kernel
theorem dX7_init_15 : decode cX7_init 15 = .ok (.aload_n 0, 1) := by decide +kernel
theorem dX7_init_16 : decode cX7_init 16 = .ok (.new 16, 3) := by decide +kernel
theorem dX7_init_19 : decode cX7_init 19 = .ok (.dup, 1) := by decide +kernel
theorem dX7_init_20 : decode cX7_init 20 = .ok (.invokespecial 18, 3) := by decide +kernel
theorem dX7_init_23 : decode cX7_init 23 = .ok (.putfield 19, 3) := by decide +kernel
theorem dX7_init_26 : decode cX7_init 26 = .ok (.aload_n 0, 1) := by decide +kernel
theorem dX7_init_27 : decode cX7_init 27 = .ok (.new 23, 3) := by decide +kernel
theorem dX7_init_30 : decode cX7_init 30 = .ok (.dup, 1) := by decide +kernel
theorem dX7_init_31 : decode cX7_init 31 = .ok (.invokespecial 25, 3) := by decide +kernel
theorem dX7_init_34 : decode cX7_init 34 = .ok (.putfield 26, 3) := by decide +kernel
theorem dX7_init_37 : decode cX7_init 37 = .ok (.aload_n 0, 1) := by decide +kernel
theorem dX7_init_38 : decode cX7_init 38 = .ok (.new 23, 3) := by decide +kernel
theorem dX7_init_41 : decode cX7_init 41 = .ok (.dup, 1) := by decide +kernel
theorem dX7_init_42 : decode cX7_init 42 = .ok (.invokespecial 25, 3) := by decide +kernel
theorem dX7_init_45 : decode cX7_init 45 = .ok (.putfield 30, 3) := by decide +kernel
theorem dX7_init_48 : decode cX7_init 48 = .ok (.aload_n 0, 1) := by decide +kernel
theorem dX7_init_49 : decode cX7_init 49 = .ok (.new 23, 3) := by decide +kernel
theorem dX7_init_52 : decode cX7_init 52 = .ok (.dup, 1) := by decide +kernel
theorem dX7_init_53 : decode cX7_init 53 = .ok (.invokespecial 25, 3) := by decide +kernel
theorem dX7_init_56 : decode cX7_init 56 = .ok (.putfield 33, 3) := by decide +kernel
theorem dX7_init_59 : decode cX7_init 59 = .ok (.aload_n 0, 1) := by decide +kernel
theorem dX7_init_60 : decode cX7_init 60 = .ok (.new 36, 3) := by decide +kernel
theorem dX7_init_63 : decode cX7_init 63 = .ok (.dup, 1) := by decide +kernel
theorem dX7_init_64 : decode cX7_init 64 = .ok (.aload_n 0, 1) := by decide +kernel
theorem dX7_init_65 : decode cX7_init 65 = .ok (.getfield 19, 3) := by decide +kernel
theorem dX7_init_68 : decode cX7_init 68 = .ok (.aload_n 0, 1) := by decide +kernel
theorem dX7_init_69 : decode cX7_init 69 = .ok (.getfield 26, 3) := by decide +kernel
theorem dX7_init_72 : decode cX7_init 72 = .ok (.invokespecial 38, 3) := by decide +kernel
theorem dX7_init_75 : decode cX7_init 75 = .ok (.putfield 41, 3) := by decide +kernel
theorem dX7_init_78 : decode cX7_init 78 = .ok (.aload_n 0, 1) := by decide +kernel
theorem dX7_init_79 : decode cX7_init 79 = .ok (.new 45, 3) := by decide +kernel
theorem dX7_init_82 : decode cX7_init 82 = .ok (.dup, 1) := by decide +kernel
theorem dX7_init_83 : decode cX7_init 83 = .ok (.aload_n 0, 1) := by decide +kernel
theorem dX7_init_84 : decode cX7_init 84 = .ok (.getfield 19, 3) := by decide +kernel
theorem dX7_init_87 : decode cX7_init 87 = .ok (.invokespecial 47, 3) := by decide +kernel
theorem dX7_init_90 : decode cX7_init 90 = .ok (.putfield 50, 3) := by decide +kernel
theorem dX7_init_93 : decode cX7_init 93 = .ok (.iconst 0, 1) := by decide +kernel
theorem dX7_init_94 : decode cX7_init 94 = .ok (.istore_n 1, 1) := by decide +kernel
theorem dX7_init_95 : decode cX7_init 95 = .ok (.iload_n 1, 1) := by decide +kernel
theorem dX7_init_96 : decode cX7_init 96 = .ok (.iconst 4, 1) := by decide +kernel
theorem dX7_init_97 : decode cX7_init 97 = .ok (.if_icmp .ge 17, 3) := by decide +kernel
theorem dX7_init_100 : decode cX7_init 100 = .ok (.aload_n 0, 1) := by decide +kernel
theorem dX7_init_101 : decode cX7_init 101 = .ok (.getfield 19, 3) := by decide +kernel
theorem dX7_init_104 : decode cX7_init 104 = .ok (.iload_n 1, 1) := by decide +kernel
theorem dX7_init_105 : decode cX7_init 105 = .ok (.invokevirtual 54, 3) := by decide +kernel
theorem dX7_init_108 : decode cX7_init 108 = .ok (.iinc 1 1, 3) := by decide +kernel
theorem dX7_init_111 : decode cX7_init 111 = .ok (.goto (-16), 3) := by decide +kernel
theorem dX7_init_114 : decode cX7_init 114 = .ok (.return_, 1) := by decide +kernel
theorem dX7_say_0 : decode cX7_say 0 = .ok (.iload_n 1, 1) := by decide +kernel
theorem dX7_say_1 : decode cX7_say 1 = .ok (.bipush 33, 2) := by decide +kernel
theorem dX7_say_3 : decode cX7_say 3 = .ok (.if_icmp .lt 9, 3) := by decide +kernel
theorem dX7_say_6 : decode cX7_say 6 = .ok (.iload_n 1, 1) := by decide +kernel
theorem dX7_say_7 : decode cX7_say 7 = .ok (.bipush 126, 2) := by decide +kernel
theorem dX7_say_9 : decode cX7_say 9 = .ok (.if_icmp .le 6, 3) := by decide +kernel
theorem dX7_say_12 : decode cX7_say 12 = .ok (.bipush (-2), 2) := by decide +kernel
theorem dX7_say_14 : decode cX7_say 14 = .ok (.ireturn, 1) := by decide +kernel
theorem dX7_say_15 : decode cX7_say 15 = .ok (.aload_n 0, 1) := by decide +kernel
theorem dX7_say_16 : decode cX7_say 16 = .ok (.getfield 12, 3) := by decide +kernel
theorem dX7_say_19 : decode cX7_say 19 = .ok (.iload_n 1, 1) := by decide +kernel
theorem dX7_say_20 : decode cX7_say 20 = .ok (.invokevirtual 58, 3) := by decide +kernel
theorem dX7_say_23 : decode cX7_say 23 = .ok (.ifCond .eq 13, 3) := by decide +kernel
theorem dX7_say_26 : decode cX7_say 26 = .ok (.aload_n 0, 1) := by decide +kernel
theorem dX7_say_27 : decode cX7_say 27 = .ok (.getfield 12, 3) := by decide +kernel
theorem dX7_say_30 : decode cX7_say 30 = .ok (.getfield 62, 3) := by decide +kernel
theorem dX7_say_33 : decode cX7_say 33 = .ok (.goto 5, 3) := by decide +kernel
theorem dX7_say_36 : decode cX7_say 36 = .ok (.bipush (-4), 2) := by decide +kernel
theorem dX7_say_38 : decode cX7_say 38 = .ok (.ireturn, 1) := by decide +kernel
theorem dX7_wipe_0 : decode cX7_wipe 0 = .ok (.aload_n 0, 1) := by decide +kernel
theorem dX7_wipe_1 : decode cX7_wipe 1 = .ok (.getfield 12, 3) := by decide +kernel
theorem dX7_wipe_4 : decode cX7_wipe 4 = .ok (.getfield 62, 3) := by decide +kernel
theorem dX7_wipe_7 : decode cX7_wipe 7 = .ok (.istore_n 1, 1) := by decide +kernel
theorem dX7_wipe_8 : decode cX7_wipe 8 = .ok (.aload_n 0, 1) := by decide +kernel
theorem dX7_wipe_9 : decode cX7_wipe 9 = .ok (.getfield 12, 3) := by decide +kernel
theorem dX7_wipe_12 : decode cX7_wipe 12 = .ok (.iconst 0, 1) := by decide +kernel
theorem dX7_wipe_13 : decode cX7_wipe 13 = .ok (.putfield 62, 3) := by decide +kernel
theorem dX7_wipe_16 : decode cX7_wipe 16 = .ok (.iload_n 1, 1) := by decide +kernel
theorem dX7_wipe_17 : decode cX7_wipe 17 = .ok (.ireturn, 1) := by decide +kernel
theorem dX7_fault_0 : decode cX7_fault 0 = .ok (.iload_n 1, 1) := by decide +kernel
theorem dX7_fault_1 : decode cX7_fault 1 = .ok (.ifCond .eq 11, 3) := by decide +kernel
theorem dX7_fault_4 : decode cX7_fault 4 = .ok (.iload_n 1, 1) := by decide +kernel
theorem dX7_fault_5 : decode cX7_fault 5 = .ok (.iconst 1, 1) := by decide +kernel
theorem dX7_fault_6 : decode cX7_fault 6 = .ok (.if_icmp .eq 6, 3) := by decide +kernel
theorem dX7_fault_9 : decode cX7_fault 9 = .ok (.bipush (-2), 2) := by decide +kernel
theorem dX7_fault_11 : decode cX7_fault 11 = .ok (.ireturn, 1) := by decide +kernel
theorem dX7_fault_12 : decode cX7_fault 12 = .ok (.aload_n 0, 1) := by decide +kernel
theorem dX7_fault_13 : decode cX7_fault 13 = .ok (.getfield 12, 3) := by decide +kernel
theorem dX7_fault_16 : decode cX7_fault 16 = .ok (.iload_n 1, 1) := by decide +kernel
theorem dX7_fault_17 : decode cX7_fault 17 = .ok (.iconst 1, 1) := by decide +kernel
theorem dX7_fault_18 : decode cX7_fault 18 = .ok (.if_icmp .ne 7, 3) := by decide +kernel
theorem dX7_fault_21 : decode cX7_fault 21 = .ok (.iconst 1, 1) := by decide +kernel
theorem dX7_fault_22 : decode cX7_fault 22 = .ok (.goto 4, 3) := by decide +kernel
theorem dX7_fault_25 : decode cX7_fault 25 = .ok (.iconst 0, 1) := by decide +kernel
theorem dX7_fault_26 : decode cX7_fault 26 = .ok (.invokevirtual 66, 3) := by decide +kernel
theorem dX7_fault_29 : decode cX7_fault 29 = .ok (.ireturn, 1) := by decide +kernel
theorem dX7_text_0 : decode cX7_text 0 = .ok (.iload_n 1, 1) := by decide +kernel
theorem dX7_text_1 : decode cX7_text 1 = .ok (.invokestatic 70, 3) := by decide +kernel
theorem dX7_text_4 : decode cX7_text 4 = .ok (.ifCond .eq 12, 3) := by decide +kernel
theorem dX7_text_7 : decode cX7_text 7 = .ok (.aload_n 0, 1) := by decide +kernel
theorem dX7_text_8 : decode cX7_text 8 = .ok (.iload_n 1, 1) := by decide +kernel
theorem dX7_text_9 : decode cX7_text 9 = .ok (.iconst 0, 1) := by decide +kernel
theorem dX7_text_10 : decode cX7_text 10 = .ok (.invokevirtual 73, 3) := by decide +kernel
theorem dX7_text_13 : decode cX7_text 13 = .ok (.goto 4, 3) := by decide +kernel
theorem dX7_text_16 : decode cX7_text 16 = .ok (.iconst (-1), 1) := by decide +kernel
theorem dX7_text_17 : decode cX7_text 17 = .ok (.ireturn, 1) := by decide +kernel
theorem dX7_clause_0 : decode cX7_clause 0 = .ok (.iload_n 1, 1) := by decide +kernel
theorem dX7_clause_1 : decode cX7_clause 1 = .ok (.iload_n 2, 1) := by decide +kernel
theorem dX7_clause_2 : decode cX7_clause 2 = .ok (.invokestatic 77, 3) := by decide +kernel
theorem dX7_clause_5 : decode cX7_clause 5 = .ok (.ifCond .eq 25, 3) := by decide +kernel
theorem dX7_clause_8 : decode cX7_clause 8 = .ok (.aload_n 0, 1) := by decide +kernel
theorem dX7_clause_9 : decode cX7_clause 9 = .ok (.iload_n 1, 1) := by decide +kernel
theorem dX7_clause_10 : decode cX7_clause 10 = .ok (.iload_n 2, 1) := by decide +kernel
theorem dX7_clause_11 : decode cX7_clause 11 = .ok (.invokestatic 81, 3) := by decide +kernel
theorem dX7_clause_14 : decode cX7_clause 14 = .ok (.iload_n 2, 1) := by decide +kernel
theorem dX7_clause_15 : decode cX7_clause 15 = .ok (.iconst 3, 1) := by decide +kernel
theorem dX7_clause_16 : decode cX7_clause 16 = .ok (.if_icmp .eq 7, 3) := by decide +kernel
theorem dX7_clause_19 : decode cX7_clause 19 = .ok (.iconst 1, 1) := by decide +kernel
theorem dX7_clause_20 : decode cX7_clause 20 = .ok (.goto 4, 3) := by decide +kernel
theorem dX7_clause_23 : decode cX7_clause 23 = .ok (.iconst 0, 1) := by decide +kernel
theorem dX7_clause_24 : decode cX7_clause 24 = .ok (.invokevirtual 73, 3) := by decide +kernel
theorem dX7_clause_27 : decode cX7_clause 27 = .ok (.goto 4, 3) := by decide +kernel
theorem dX7_clause_30 : decode cX7_clause 30 = .ok (.iconst (-1), 1) := by decide +kernel
theorem dX7_clause_31 : decode cX7_clause 31 = .ok (.ireturn, 1) := by decide +kernel
theorem dX7_drop_0 : decode cX7_drop 0 = .ok (.iload_n 1, 1) := by decide +kernel
theorem dX7_drop_1 : decode cX7_drop 1 = .ok (.iload_n 2, 1) := by decide +kernel
theorem dX7_drop_2 : decode cX7_drop 2 = .ok (.invokestatic 77, 3) := by decide +kernel
theorem dX7_drop_5 : decode cX7_drop 5 = .ok (.ifCond .ne 5, 3) := by decide +kernel
theorem dX7_drop_8 : decode cX7_drop 8 = .ok (.iconst (-1), 1) := by decide +kernel
theorem dX7_drop_9 : decode cX7_drop 9 = .ok (.ireturn, 1) := by decide +kernel
theorem dX7_drop_10 : decode cX7_drop 10 = .ok (.iload_n 1, 1) := by decide +kernel
theorem dX7_drop_11 : decode cX7_drop 11 = .ok (.iload_n 2, 1) := by decide +kernel
theorem dX7_drop_12 : decode cX7_drop 12 = .ok (.invokestatic 81, 3) := by decide +kernel
theorem dX7_drop_15 : decode cX7_drop 15 = .ok (.istore_n 3, 1) := by decide +kernel
theorem dX7_drop_16 : decode cX7_drop 16 = .ok (.aload_n 0, 1) := by decide +kernel
theorem dX7_drop_17 : decode cX7_drop 17 = .ok (.getfield 19, 3) := by decide +kernel
theorem dX7_drop_20 : decode cX7_drop 20 = .ok (.iload_n 3, 1) := by decide +kernel
theorem dX7_drop_21 : decode cX7_drop 21 = .ok (.invokevirtual 85, 3) := by decide +kernel
theorem dX7_drop_24 : decode cX7_drop 24 = .ok (.istore 4, 2) := by decide +kernel
theorem dX7_drop_26 : decode cX7_drop 26 = .ok (.iload 4, 2) := by decide +kernel
theorem dX7_drop_28 : decode cX7_drop 28 = .ok (.ifCond .ne 6, 3) := by decide +kernel
theorem dX7_drop_31 : decode cX7_drop 31 = .ok (.bipush (-5), 2) := by decide +kernel
theorem dX7_drop_33 : decode cX7_drop 33 = .ok (.ireturn, 1) := by decide +kernel
theorem dX7_drop_34 : decode cX7_drop 34 = .ok (.aload_n 0, 1) := by decide +kernel
theorem dX7_drop_35 : decode cX7_drop 35 = .ok (.getfield 19, 3) := by decide +kernel
theorem dX7_drop_38 : decode cX7_drop 38 = .ok (.iload_n 3, 1) := by decide +kernel
theorem dX7_drop_39 : decode cX7_drop 39 = .ok (.invokevirtual 88, 3) := by decide +kernel
theorem dX7_drop_42 : decode cX7_drop 42 = .ok (.iload 4, 2) := by decide +kernel
theorem dX7_drop_44 : decode cX7_drop 44 = .ok (.ireturn, 1) := by decide +kernel
theorem dX7_has_0 : decode cX7_has 0 = .ok (.iload_n 1, 1) := by decide +kernel
theorem dX7_has_1 : decode cX7_has 1 = .ok (.ifCond .lt 19, 3) := by decide +kernel
theorem dX7_has_4 : decode cX7_has 4 = .ok (.iload_n 1, 1) := by decide +kernel
theorem dX7_has_5 : decode cX7_has 5 = .ok (.iconst 4, 1) := by decide +kernel
theorem dX7_has_6 : decode cX7_has 6 = .ok (.if_icmp .ge 14, 3) := by decide +kernel
theorem dX7_has_9 : decode cX7_has 9 = .ok (.aload_n 0, 1) := by decide +kernel
theorem dX7_has_10 : decode cX7_has 10 = .ok (.getfield 19, 3) := by decide +kernel
theorem dX7_has_13 : decode cX7_has 13 = .ok (.iload_n 1, 1) := by decide +kernel
theorem dX7_has_14 : decode cX7_has 14 = .ok (.invokevirtual 91, 3) := by decide +kernel
theorem dX7_has_17 : decode cX7_has 17 = .ok (.goto 4, 3) := by decide +kernel
theorem dX7_has_20 : decode cX7_has 20 = .ok (.iconst (-1), 1) := by decide +kernel
theorem dX7_has_21 : decode cX7_has 21 = .ok (.ireturn, 1) := by decide +kernel
theorem dX7_reply_0 : decode cX7_reply 0 = .ok (.iload_n 1, 1) := by decide +kernel
theorem dX7_reply_1 : decode cX7_reply 1 = .ok (.invokestatic 94, 3) := by decide +kernel
theorem dX7_reply_4 : decode cX7_reply 4 = .ok (.ifCond .ne 6, 3) := by decide +kernel
theorem dX7_reply_7 : decode cX7_reply 7 = .ok (.bipush (-2), 2) := by decide +kernel
theorem dX7_reply_9 : decode cX7_reply 9 = .ok (.ireturn, 1) := by decide +kernel
theorem dX7_reply_10 : decode cX7_reply 10 = .ok (.aload_n 0, 1) := by decide +kernel
theorem dX7_reply_11 : decode cX7_reply 11 = .ok (.getfield 26, 3) := by decide +kernel
theorem dX7_reply_14 : decode cX7_reply 14 = .ok (.iload_n 1, 1) := by decide +kernel
theorem dX7_reply_15 : decode cX7_reply 15 = .ok (.invokevirtual 97, 3) := by decide +kernel
theorem dX7_reply_18 : decode cX7_reply 18 = .ok (.ifCond .eq 13, 3) := by decide +kernel
theorem dX7_reply_21 : decode cX7_reply 21 = .ok (.aload_n 0, 1) := by decide +kernel
theorem dX7_reply_22 : decode cX7_reply 22 = .ok (.getfield 26, 3) := by decide +kernel
theorem dX7_reply_25 : decode cX7_reply 25 = .ok (.getfield 98, 3) := by decide +kernel
theorem dX7_reply_28 : decode cX7_reply 28 = .ok (.goto 5, 3) := by decide +kernel
theorem dX7_reply_31 : decode cX7_reply 31 = .ok (.bipush (-4), 2) := by decide +kernel
theorem dX7_reply_33 : decode cX7_reply 33 = .ok (.ireturn, 1) := by decide +kernel
theorem dX7_mute_0 : decode cX7_mute 0 = .ok (.aload_n 0, 1) := by decide +kernel
theorem dX7_mute_1 : decode cX7_mute 1 = .ok (.getfield 26, 3) := by decide +kernel
theorem dX7_mute_4 : decode cX7_mute 4 = .ok (.getfield 98, 3) := by decide +kernel
theorem dX7_mute_7 : decode cX7_mute 7 = .ok (.istore_n 1, 1) := by decide +kernel
theorem dX7_mute_8 : decode cX7_mute 8 = .ok (.aload_n 0, 1) := by decide +kernel
theorem dX7_mute_9 : decode cX7_mute 9 = .ok (.getfield 26, 3) := by decide +kernel
theorem dX7_mute_12 : decode cX7_mute 12 = .ok (.iconst 0, 1) := by decide +kernel
theorem dX7_mute_13 : decode cX7_mute 13 = .ok (.invokevirtual 101, 3) := by decide +kernel
theorem dX7_mute_16 : decode cX7_mute 16 = .ok (.iload_n 1, 1) := by decide +kernel
theorem dX7_mute_17 : decode cX7_mute 17 = .ok (.ireturn, 1) := by decide +kernel
theorem dX7_run_0 : decode cX7_run 0 = .ok (.iload_n 1, 1) := by decide +kernel
theorem dX7_run_1 : decode cX7_run 1 = .ok (.invokestatic 70, 3) := by decide +kernel
theorem dX7_run_4 : decode cX7_run 4 = .ok (.ifCond .ne 5, 3) := by decide +kernel
theorem dX7_run_7 : decode cX7_run 7 = .ok (.iconst (-1), 1) := by decide +kernel
theorem dX7_run_8 : decode cX7_run 8 = .ok (.ireturn, 1) := by decide +kernel
theorem dX7_run_9 : decode cX7_run 9 = .ok (.iload_n 2, 1) := by decide +kernel
theorem dX7_run_10 : decode cX7_run 10 = .ok (.invokestatic 94, 3) := by decide +kernel
theorem dX7_run_13 : decode cX7_run 13 = .ok (.ifCond .eq 13, 3) := by decide +kernel
theorem dX7_run_16 : decode cX7_run 16 = .ok (.iload_n 3, 1) := by decide +kernel
theorem dX7_run_17 : decode cX7_run 17 = .ok (.ifCond .lt 9, 3) := by decide +kernel
theorem dX7_run_20 : decode cX7_run 20 = .ok (.iload_n 3, 1) := by decide +kernel
theorem dX7_run_21 : decode cX7_run 21 = .ok (.bipush 6, 2) := by decide +kernel
theorem dX7_run_23 : decode cX7_run 23 = .ok (.if_icmp .le 6, 3) := by decide +kernel
theorem dX7_run_26 : decode cX7_run 26 = .ok (.bipush (-2), 2) := by decide +kernel
theorem dX7_run_28 : decode cX7_run 28 = .ok (.ireturn, 1) := by decide +kernel
theorem dX7_run_29 : decode cX7_run 29 = .ok (.aload_n 0, 1) := by decide +kernel
theorem dX7_run_30 : decode cX7_run 30 = .ok (.getfield 41, 3) := by decide +kernel
theorem dX7_run_33 : decode cX7_run 33 = .ok (.iload_n 1, 1) := by decide +kernel
theorem dX7_run_34 : decode cX7_run 34 = .ok (.iload_n 2, 1) := by decide +kernel
theorem dX7_run_35 : decode cX7_run 35 = .ok (.aload_n 0, 1) := by decide +kernel
theorem dX7_run_36 : decode cX7_run 36 = .ok (.getfield 26, 3) := by decide +kernel
theorem dX7_run_39 : decode cX7_run 39 = .ok (.invokevirtual 104, 3) := by decide +kernel
theorem dX7_run_42 : decode cX7_run 42 = .ok (.aload_n 0, 1) := by decide +kernel
theorem dX7_run_43 : decode cX7_run 43 = .ok (.getfield 41, 3) := by decide +kernel
theorem dX7_run_46 : decode cX7_run 46 = .ok (.iload_n 3, 1) := by decide +kernel
theorem dX7_run_47 : decode cX7_run 47 = .ok (.invokevirtual 108, 3) := by decide +kernel
theorem dX7_run_50 : decode cX7_run 50 = .ok (.ireturn, 1) := by decide +kernel
theorem dX7_who_0 : decode cX7_who 0 = .ok (.iload_n 1, 1) := by decide +kernel
theorem dX7_who_1 : decode cX7_who 1 = .ok (.invokestatic 70, 3) := by decide +kernel
theorem dX7_who_4 : decode cX7_who 4 = .ok (.ifCond .ne 5, 3) := by decide +kernel
theorem dX7_who_7 : decode cX7_who 7 = .ok (.iconst (-1), 1) := by decide +kernel
theorem dX7_who_8 : decode cX7_who 8 = .ok (.ireturn, 1) := by decide +kernel
theorem dX7_who_9 : decode cX7_who 9 = .ok (.iload_n 2, 1) := by decide +kernel
theorem dX7_who_10 : decode cX7_who 10 = .ok (.invokestatic 94, 3) := by decide +kernel
theorem dX7_who_13 : decode cX7_who 13 = .ok (.ifCond .eq 14, 3) := by decide +kernel
theorem dX7_who_16 : decode cX7_who 16 = .ok (.iload_n 3, 1) := by decide +kernel
theorem dX7_who_17 : decode cX7_who 17 = .ok (.ifCond .lt 10, 3) := by decide +kernel
theorem dX7_who_20 : decode cX7_who 20 = .ok (.iload_n 3, 1) := by decide +kernel
theorem dX7_who_21 : decode cX7_who 21 = .ok (.sipush 200, 3) := by decide +kernel
theorem dX7_who_24 : decode cX7_who 24 = .ok (.if_icmp .lt 6, 3) := by decide +kernel
theorem dX7_who_27 : decode cX7_who 27 = .ok (.bipush (-2), 2) := by decide +kernel
theorem dX7_who_29 : decode cX7_who 29 = .ok (.ireturn, 1) := by decide +kernel
theorem dX7_who_30 : decode cX7_who 30 = .ok (.aload_n 0, 1) := by decide +kernel
theorem dX7_who_31 : decode cX7_who 31 = .ok (.getfield 41, 3) := by decide +kernel
theorem dX7_who_34 : decode cX7_who 34 = .ok (.iload_n 1, 1) := by decide +kernel
theorem dX7_who_35 : decode cX7_who 35 = .ok (.iload_n 2, 1) := by decide +kernel
theorem dX7_who_36 : decode cX7_who 36 = .ok (.aload_n 0, 1) := by decide +kernel
theorem dX7_who_37 : decode cX7_who 37 = .ok (.getfield 26, 3) := by decide +kernel
theorem dX7_who_40 : decode cX7_who 40 = .ok (.invokevirtual 104, 3) := by decide +kernel
theorem dX7_who_43 : decode cX7_who 43 = .ok (.aload_n 0, 1) := by decide +kernel
theorem dX7_who_44 : decode cX7_who 44 = .ok (.getfield 41, 3) := by decide +kernel
theorem dX7_who_47 : decode cX7_who 47 = .ok (.iload_n 3, 1) := by decide +kernel
theorem dX7_who_48 : decode cX7_who 48 = .ok (.invokevirtual 111, 3) := by decide +kernel
theorem dX7_who_51 : decode cX7_who 51 = .ok (.ireturn, 1) := by decide +kernel
theorem dX7_may_0 : decode cX7_may 0 = .ok (.iload_n 1, 1) := by decide +kernel
theorem dX7_may_1 : decode cX7_may 1 = .ok (.iconst (-1), 1) := by decide +kernel
theorem dX7_may_2 : decode cX7_may 2 = .ok (.if_icmp .ne 23, 3) := by decide +kernel
theorem dX7_may_5 : decode cX7_may 5 = .ok (.iload_n 2, 1) := by decide +kernel
theorem dX7_may_6 : decode cX7_may 6 = .ok (.invokestatic 70, 3) := by decide +kernel
theorem dX7_may_9 : decode cX7_may 9 = .ok (.ifCond .eq 14, 3) := by decide +kernel
theorem dX7_may_12 : decode cX7_may 12 = .ok (.aload_n 0, 1) := by decide +kernel
theorem dX7_may_13 : decode cX7_may 13 = .ok (.getfield 50, 3) := by decide +kernel
theorem dX7_may_16 : decode cX7_may 16 = .ok (.iload_n 2, 1) := by decide +kernel
theorem dX7_may_17 : decode cX7_may 17 = .ok (.invokevirtual 114, 3) := by decide +kernel
theorem dX7_may_20 : decode cX7_may 20 = .ok (.goto 4, 3) := by decide +kernel
theorem dX7_may_23 : decode cX7_may 23 = .ok (.iconst (-1), 1) := by decide +kernel
theorem dX7_may_24 : decode cX7_may 24 = .ok (.ireturn, 1) := by decide +kernel
theorem dX7_may_25 : decode cX7_may 25 = .ok (.aload_n 0, 1) := by decide +kernel
theorem dX7_may_26 : decode cX7_may 26 = .ok (.iload_n 1, 1) := by decide +kernel
theorem dX7_may_27 : decode cX7_may 27 = .ok (.iload_n 2, 1) := by decide +kernel
theorem dX7_may_28 : decode cX7_may 28 = .ok (.invokevirtual 117, 3) := by decide +kernel
theorem dX7_may_31 : decode cX7_may 31 = .ok (.ifCond .eq 18, 3) := by decide +kernel
theorem dX7_may_34 : decode cX7_may 34 = .ok (.aload_n 0, 1) := by decide +kernel
theorem dX7_may_35 : decode cX7_may 35 = .ok (.getfield 50, 3) := by decide +kernel
theorem dX7_may_38 : decode cX7_may 38 = .ok (.iload_n 1, 1) := by decide +kernel
theorem dX7_may_39 : decode cX7_may 39 = .ok (.iload_n 2, 1) := by decide +kernel
theorem dX7_may_40 : decode cX7_may 40 = .ok (.invokestatic 81, 3) := by decide +kernel
theorem dX7_may_43 : decode cX7_may 43 = .ok (.invokevirtual 114, 3) := by decide +kernel
theorem dX7_may_46 : decode cX7_may 46 = .ok (.goto 4, 3) := by decide +kernel
theorem dX7_may_49 : decode cX7_may 49 = .ok (.iconst (-1), 1) := by decide +kernel
theorem dX7_may_50 : decode cX7_may 50 = .ok (.ireturn, 1) := by decide +kernel
theorem dX7_often_0 : decode cX7_often 0 = .ok (.aload_n 0, 1) := by decide +kernel
theorem dX7_often_1 : decode cX7_often 1 = .ok (.iload_n 1, 1) := by decide +kernel
theorem dX7_often_2 : decode cX7_often 2 = .ok (.iload_n 2, 1) := by decide +kernel
theorem dX7_often_3 : decode cX7_often 3 = .ok (.invokevirtual 117, 3) := by decide +kernel
theorem dX7_often_6 : decode cX7_often 6 = .ok (.ifCond .eq 18, 3) := by decide +kernel
theorem dX7_often_9 : decode cX7_often 9 = .ok (.aload_n 0, 1) := by decide +kernel
theorem dX7_often_10 : decode cX7_often 10 = .ok (.getfield 50, 3) := by decide +kernel
theorem dX7_often_13 : decode cX7_often 13 = .ok (.iload_n 1, 1) := by decide +kernel
theorem dX7_often_14 : decode cX7_often 14 = .ok (.iload_n 2, 1) := by decide +kernel
theorem dX7_often_15 : decode cX7_often 15 = .ok (.invokestatic 81, 3) := by decide +kernel
theorem dX7_often_18 : decode cX7_often 18 = .ok (.invokevirtual 120, 3) := by decide +kernel
theorem dX7_often_21 : decode cX7_often 21 = .ok (.goto 4, 3) := by decide +kernel
theorem dX7_often_24 : decode cX7_often 24 = .ok (.iconst (-1), 1) := by decide +kernel
theorem dX7_often_25 : decode cX7_often 25 = .ok (.ireturn, 1) := by decide +kernel
theorem dX7_all_0 : decode cX7_all 0 = .ok (.iload_n 1, 1) := by decide +kernel
theorem dX7_all_1 : decode cX7_all 1 = .ok (.invokestatic 70, 3) := by decide +kernel
theorem dX7_all_4 : decode cX7_all 4 = .ok (.ifCond .ne 5, 3) := by decide +kernel
theorem dX7_all_7 : decode cX7_all 7 = .ok (.iconst (-1), 1) := by decide +kernel
theorem dX7_all_8 : decode cX7_all 8 = .ok (.ireturn, 1) := by decide +kernel
theorem dX7_all_9 : decode cX7_all 9 = .ok (.iload_n 2, 1) := by decide +kernel
theorem dX7_all_10 : decode cX7_all 10 = .ok (.invokestatic 94, 3) := by decide +kernel
theorem dX7_all_13 : decode cX7_all 13 = .ok (.ifCond .eq 12, 3) := by decide +kernel
theorem dX7_all_16 : decode cX7_all 16 = .ok (.iload_n 3, 1) := by decide +kernel
theorem dX7_all_17 : decode cX7_all 17 = .ok (.iload 4, 2) := by decide +kernel
theorem dX7_all_19 : decode cX7_all 19 = .ok (.invokestatic 123, 3) := by decide +kernel
theorem dX7_all_22 : decode cX7_all 22 = .ok (.ifCond .ne 6, 3) := by decide +kernel
theorem dX7_all_25 : decode cX7_all 25 = .ok (.bipush (-2), 2) := by decide +kernel
theorem dX7_all_27 : decode cX7_all 27 = .ok (.ireturn, 1) := by decide +kernel
theorem dX7_all_28 : decode cX7_all 28 = .ok (.aload_n 0, 1) := by decide +kernel
theorem dX7_all_29 : decode cX7_all 29 = .ok (.iload_n 1, 1) := by decide +kernel
theorem dX7_all_30 : decode cX7_all 30 = .ok (.iload_n 2, 1) := by decide +kernel
theorem dX7_all_31 : decode cX7_all 31 = .ok (.iload_n 3, 1) := by decide +kernel
theorem dX7_all_32 : decode cX7_all 32 = .ok (.iload 4, 2) := by decide +kernel
theorem dX7_all_34 : decode cX7_all 34 = .ok (.iconst (-1), 1) := by decide +kernel
theorem dX7_all_35 : decode cX7_all 35 = .ok (.invokevirtual 126, 3) := by decide +kernel
theorem dX7_all_38 : decode cX7_all 38 = .ok (.ireturn, 1) := by decide +kernel
theorem dX7_row_0 : decode cX7_row 0 = .ok (.iload_n 1, 1) := by decide +kernel
theorem dX7_row_1 : decode cX7_row 1 = .ok (.invokestatic 70, 3) := by decide +kernel
theorem dX7_row_4 : decode cX7_row 4 = .ok (.ifCond .ne 5, 3) := by decide +kernel
theorem dX7_row_7 : decode cX7_row 7 = .ok (.iconst (-1), 1) := by decide +kernel
theorem dX7_row_8 : decode cX7_row 8 = .ok (.ireturn, 1) := by decide +kernel
theorem dX7_row_9 : decode cX7_row 9 = .ok (.iload_n 2, 1) := by decide +kernel
theorem dX7_row_10 : decode cX7_row 10 = .ok (.invokestatic 94, 3) := by decide +kernel
theorem dX7_row_13 : decode cX7_row 13 = .ok (.ifCond .eq 24, 3) := by decide +kernel
theorem dX7_row_16 : decode cX7_row 16 = .ok (.iload_n 3, 1) := by decide +kernel
theorem dX7_row_17 : decode cX7_row 17 = .ok (.iload 4, 2) := by decide +kernel
theorem dX7_row_19 : decode cX7_row 19 = .ok (.invokestatic 123, 3) := by decide +kernel
theorem dX7_row_22 : decode cX7_row 22 = .ok (.ifCond .eq 15, 3) := by decide +kernel
theorem dX7_row_25 : decode cX7_row 25 = .ok (.iload 5, 2) := by decide +kernel
theorem dX7_row_27 : decode cX7_row 27 = .ok (.ifCond .lt 10, 3) := by decide +kernel
theorem dX7_row_30 : decode cX7_row 30 = .ok (.iload 5, 2) := by decide +kernel
theorem dX7_row_32 : decode cX7_row 32 = .ok (.bipush 9, 2) := by decide +kernel
theorem dX7_row_34 : decode cX7_row 34 = .ok (.if_icmp .le 6, 3) := by decide +kernel
theorem dX7_row_37 : decode cX7_row 37 = .ok (.bipush (-2), 2) := by decide +kernel
theorem dX7_row_39 : decode cX7_row 39 = .ok (.ireturn, 1) := by decide +kernel
theorem dX7_row_40 : decode cX7_row 40 = .ok (.aload_n 0, 1) := by decide +kernel
theorem dX7_row_41 : decode cX7_row 41 = .ok (.iload_n 1, 1) := by decide +kernel
theorem dX7_row_42 : decode cX7_row 42 = .ok (.iload_n 2, 1) := by decide +kernel
theorem dX7_row_43 : decode cX7_row 43 = .ok (.iload_n 3, 1) := by decide +kernel
theorem dX7_row_44 : decode cX7_row 44 = .ok (.iload 4, 2) := by decide +kernel
theorem dX7_row_46 : decode cX7_row 46 = .ok (.iload 5, 2) := by decide +kernel
theorem dX7_row_48 : decode cX7_row 48 = .ok (.invokevirtual 126, 3) := by decide +kernel
theorem dX7_row_51 : decode cX7_row 51 = .ok (.istore 7, 2) := by decide +kernel
theorem dX7_row_53 : decode cX7_row 53 = .ok (.iload 7, 2) := by decide +kernel
theorem dX7_row_55 : decode cX7_row 55 = .ok (.iload 5, 2) := by decide +kernel
theorem dX7_row_57 : decode cX7_row 57 = .ok (.ishr, 1) := by decide +kernel
theorem dX7_row_58 : decode cX7_row 58 = .ok (.iconst 1, 1) := by decide +kernel
theorem dX7_row_59 : decode cX7_row 59 = .ok (.iand, 1) := by decide +kernel
theorem dX7_row_60 : decode cX7_row 60 = .ok (.ifCond .ne 8, 3) := by decide +kernel
theorem dX7_row_63 : decode cX7_row 63 = .ok (.bipush (-5), 2) := by decide +kernel
theorem dX7_row_65 : decode cX7_row 65 = .ok (.goto 12, 3) := by decide +kernel
theorem dX7_row_68 : decode cX7_row 68 = .ok (.aload_n 0, 1) := by decide +kernel
theorem dX7_row_69 : decode cX7_row 69 = .ok (.getfield 33, 3) := by decide +kernel
theorem dX7_row_72 : decode cX7_row 72 = .ok (.iload 6, 2) := by decide +kernel
theorem dX7_row_74 : decode cX7_row 74 = .ok (.invokevirtual 130, 3) := by decide +kernel
theorem dX7_row_77 : decode cX7_row 77 = .ok (.ireturn, 1) := by decide +kernel
theorem dX7_apart_0 : decode cX7_apart 0 = .ok (.iload_n 1, 1) := by decide +kernel
theorem dX7_apart_1 : decode cX7_apart 1 = .ok (.invokestatic 70, 3) := by decide +kernel
theorem dX7_apart_4 : decode cX7_apart 4 = .ok (.ifCond .eq 10, 3) := by decide +kernel
theorem dX7_apart_7 : decode cX7_apart 7 = .ok (.iload_n 3, 1) := by decide +kernel
theorem dX7_apart_8 : decode cX7_apart 8 = .ok (.invokestatic 70, 3) := by decide +kernel
theorem dX7_apart_11 : decode cX7_apart 11 = .ok (.ifCond .ne 5, 3) := by decide +kernel
theorem dX7_apart_14 : decode cX7_apart 14 = .ok (.iconst (-1), 1) := by decide +kernel
theorem dX7_apart_15 : decode cX7_apart 15 = .ok (.ireturn, 1) := by decide +kernel
theorem dX7_apart_16 : decode cX7_apart 16 = .ok (.iload_n 2, 1) := by decide +kernel
theorem dX7_apart_17 : decode cX7_apart 17 = .ok (.invokestatic 94, 3) := by decide +kernel
theorem dX7_apart_20 : decode cX7_apart 20 = .ok (.ifCond .eq 21, 3) := by decide +kernel
theorem dX7_apart_23 : decode cX7_apart 23 = .ok (.iload 4, 2) := by decide +kernel
theorem dX7_apart_25 : decode cX7_apart 25 = .ok (.invokestatic 94, 3) := by decide +kernel
theorem dX7_apart_28 : decode cX7_apart 28 = .ok (.ifCond .eq 13, 3) := by decide +kernel
theorem dX7_apart_31 : decode cX7_apart 31 = .ok (.iload 5, 2) := by decide +kernel
theorem dX7_apart_33 : decode cX7_apart 33 = .ok (.iload 6, 2) := by decide +kernel
theorem dX7_apart_35 : decode cX7_apart 35 = .ok (.invokestatic 123, 3) := by decide +kernel
theorem dX7_apart_38 : decode cX7_apart 38 = .ok (.ifCond .ne 6, 3) := by decide +kernel
theorem dX7_apart_41 : decode cX7_apart 41 = .ok (.bipush (-2), 2) := by decide +kernel
theorem dX7_apart_43 : decode cX7_apart 43 = .ok (.ireturn, 1) := by decide +kernel
theorem dX7_apart_44 : decode cX7_apart 44 = .ok (.iconst 0, 1) := by decide +kernel
theorem dX7_apart_45 : decode cX7_apart 45 = .ok (.istore 8, 2) := by decide +kernel
theorem dX7_apart_47 : decode cX7_apart 47 = .ok (.iload 8, 2) := by decide +kernel
theorem dX7_apart_49 : decode cX7_apart 49 = .ok (.iload 5, 2) := by decide +kernel
theorem dX7_apart_51 : decode cX7_apart 51 = .ok (.if_icmp .gt 42, 3) := by decide +kernel
theorem dX7_apart_54 : decode cX7_apart 54 = .ok (.aload_n 0, 1) := by decide +kernel
theorem dX7_apart_55 : decode cX7_apart 55 = .ok (.getfield 30, 3) := by decide +kernel
theorem dX7_apart_58 : decode cX7_apart 58 = .ok (.iload 8, 2) := by decide +kernel
theorem dX7_apart_60 : decode cX7_apart 60 = .ok (.invokevirtual 101, 3) := by decide +kernel
theorem dX7_apart_63 : decode cX7_apart 63 = .ok (.aload_n 0, 1) := by decide +kernel
theorem dX7_apart_64 : decode cX7_apart 64 = .ok (.iload_n 1, 1) := by decide +kernel
theorem dX7_apart_65 : decode cX7_apart 65 = .ok (.iload_n 2, 1) := by decide +kernel
theorem dX7_apart_66 : decode cX7_apart 66 = .ok (.iload_n 3, 1) := by decide +kernel
theorem dX7_apart_67 : decode cX7_apart 67 = .ok (.iload 4, 2) := by decide +kernel
theorem dX7_apart_69 : decode cX7_apart 69 = .ok (.iload 6, 2) := by decide +kernel
theorem dX7_apart_71 : decode cX7_apart 71 = .ok (.invokevirtual 131, 3) := by decide +kernel
theorem dX7_apart_74 : decode cX7_apart 74 = .ok (.ifCond .eq 13, 3) := by decide +kernel
theorem dX7_apart_77 : decode cX7_apart 77 = .ok (.aload_n 0, 1) := by decide +kernel
theorem dX7_apart_78 : decode cX7_apart 78 = .ok (.getfield 30, 3) := by decide +kernel
theorem dX7_apart_81 : decode cX7_apart 81 = .ok (.iload 7, 2) := by decide +kernel
theorem dX7_apart_83 : decode cX7_apart 83 = .ok (.invokevirtual 130, 3) := by decide +kernel
theorem dX7_apart_86 : decode cX7_apart 86 = .ok (.ireturn, 1) := by decide +kernel
theorem dX7_apart_87 : decode cX7_apart 87 = .ok (.iinc 8 1, 3) := by decide +kernel
theorem dX7_apart_90 : decode cX7_apart 90 = .ok (.goto (-43), 3) := by decide +kernel
theorem dX7_apart_93 : decode cX7_apart 93 = .ok (.bipush (-6), 2) := by decide +kernel
theorem dX7_apart_95 : decode cX7_apart 95 = .ok (.ireturn, 1) := by decide +kernel
theorem dX7_told_0 : decode cX7_told 0 = .ok (.iload_n 1, 1) := by decide +kernel
theorem dX7_told_1 : decode cX7_told 1 = .ok (.ifCond .ne 11, 3) := by decide +kernel
theorem dX7_told_4 : decode cX7_told 4 = .ok (.aload_n 0, 1) := by decide +kernel
theorem dX7_told_5 : decode cX7_told 5 = .ok (.getfield 12, 3) := by decide +kernel
theorem dX7_told_8 : decode cX7_told 8 = .ok (.getfield 62, 3) := by decide +kernel
theorem dX7_told_11 : decode cX7_told 11 = .ok (.ireturn, 1) := by decide +kernel
theorem dX7_told_12 : decode cX7_told 12 = .ok (.iload_n 1, 1) := by decide +kernel
theorem dX7_told_13 : decode cX7_told 13 = .ok (.iconst 1, 1) := by decide +kernel
theorem dX7_told_14 : decode cX7_told 14 = .ok (.if_icmp .ne 11, 3) := by decide +kernel
theorem dX7_told_17 : decode cX7_told 17 = .ok (.aload_n 0, 1) := by decide +kernel
theorem dX7_told_18 : decode cX7_told 18 = .ok (.getfield 26, 3) := by decide +kernel
theorem dX7_told_21 : decode cX7_told 21 = .ok (.getfield 98, 3) := by decide +kernel
theorem dX7_told_24 : decode cX7_told 24 = .ok (.ireturn, 1) := by decide +kernel
theorem dX7_told_25 : decode cX7_told 25 = .ok (.iload_n 1, 1) := by decide +kernel
theorem dX7_told_26 : decode cX7_told 26 = .ok (.bipush 10, 2) := by decide +kernel
theorem dX7_told_28 : decode cX7_told 28 = .ok (.if_icmp .lt 23, 3) := by decide +kernel
theorem dX7_told_31 : decode cX7_told 31 = .ok (.iload_n 1, 1) := by decide +kernel
theorem dX7_told_32 : decode cX7_told 32 = .ok (.bipush 14, 2) := by decide +kernel
theorem dX7_told_34 : decode cX7_told 34 = .ok (.if_icmp .ge 17, 3) := by decide +kernel
theorem dX7_told_37 : decode cX7_told 37 = .ok (.aload_n 0, 1) := by decide +kernel
theorem dX7_told_38 : decode cX7_told 38 = .ok (.getfield 19, 3) := by decide +kernel
theorem dX7_told_41 : decode cX7_told 41 = .ok (.iload_n 1, 1) := by decide +kernel
theorem dX7_told_42 : decode cX7_told 42 = .ok (.bipush 10, 2) := by decide +kernel
theorem dX7_told_44 : decode cX7_told 44 = .ok (.isub, 1) := by decide +kernel
theorem dX7_told_45 : decode cX7_told 45 = .ok (.invokevirtual 85, 3) := by decide +kernel
theorem dX7_told_48 : decode cX7_told 48 = .ok (.goto 5, 3) := by decide +kernel
theorem dX7_told_51 : decode cX7_told 51 = .ok (.bipush (-2), 2) := by decide +kernel
theorem dX7_told_53 : decode cX7_told 53 = .ok (.ireturn, 1) := by decide +kernel
theorem dX7_isText_0 : decode cX7_isText 0 = .ok (.iload_n 0, 1) := by decide +kernel
theorem dX7_isText_1 : decode cX7_isText 1 = .ok (.ifCond .lt 12, 3) := by decide +kernel
theorem dX7_isText_4 : decode cX7_isText 4 = .ok (.iload_n 0, 1) := by decide +kernel
theorem dX7_isText_5 : decode cX7_isText 5 = .ok (.iconst 4, 1) := by decide +kernel
theorem dX7_isText_6 : decode cX7_isText 6 = .ok (.if_icmp .ge 7, 3) := by decide +kernel
theorem dX7_isText_9 : decode cX7_isText 9 = .ok (.iconst 1, 1) := by decide +kernel
theorem dX7_isText_10 : decode cX7_isText 10 = .ok (.goto 4, 3) := by decide +kernel
theorem dX7_isText_13 : decode cX7_isText 13 = .ok (.iconst 0, 1) := by decide +kernel
theorem dX7_isText_14 : decode cX7_isText 14 = .ok (.ireturn, 1) := by decide +kernel
theorem dX7_isNumber_0 : decode cX7_isNumber 0 = .ok (.iload_n 0, 1) := by decide +kernel
theorem dX7_isNumber_1 : decode cX7_isNumber 1 = .ok (.ifCond .lt 13, 3) := by decide +kernel
theorem dX7_isNumber_4 : decode cX7_isNumber 4 = .ok (.iload_n 0, 1) := by decide +kernel
theorem dX7_isNumber_5 : decode cX7_isNumber 5 = .ok (.bipush 8, 2) := by decide +kernel
theorem dX7_isNumber_7 : decode cX7_isNumber 7 = .ok (.if_icmp .ge 7, 3) := by decide +kernel
theorem dX7_isNumber_10 : decode cX7_isNumber 10 = .ok (.iconst 1, 1) := by decide +kernel
theorem dX7_isNumber_11 : decode cX7_isNumber 11 = .ok (.goto 4, 3) := by decide +kernel
theorem dX7_isNumber_14 : decode cX7_isNumber 14 = .ok (.iconst 0, 1) := by decide +kernel
theorem dX7_isNumber_15 : decode cX7_isNumber 15 = .ok (.ireturn, 1) := by decide +kernel
theorem dX7_isPart_0 : decode cX7_isPart 0 = .ok (.iload_n 0, 1) := by decide +kernel
theorem dX7_isPart_1 : decode cX7_isPart 1 = .ok (.ifCond .lt 21, 3) := by decide +kernel
theorem dX7_isPart_4 : decode cX7_isPart 4 = .ok (.iload_n 0, 1) := by decide +kernel
theorem dX7_isPart_5 : decode cX7_isPart 5 = .ok (.iconst 4, 1) := by decide +kernel
theorem dX7_isPart_6 : decode cX7_isPart 6 = .ok (.if_icmp .ge 16, 3) := by decide +kernel
theorem dX7_isPart_9 : decode cX7_isPart 9 = .ok (.iload_n 1, 1) := by decide +kernel
theorem dX7_isPart_10 : decode cX7_isPart 10 = .ok (.ifCond .lt 12, 3) := by decide +kernel
theorem dX7_isPart_13 : decode cX7_isPart 13 = .ok (.iload_n 1, 1) := by decide +kernel
theorem dX7_isPart_14 : decode cX7_isPart 14 = .ok (.iconst 4, 1) := by decide +kernel
theorem dX7_isPart_15 : decode cX7_isPart 15 = .ok (.if_icmp .ge 7, 3) := by decide +kernel
theorem dX7_isPart_18 : decode cX7_isPart 18 = .ok (.iconst 1, 1) := by decide +kernel
theorem dX7_isPart_19 : decode cX7_isPart 19 = .ok (.goto 4, 3) := by decide +kernel
theorem dX7_isPart_22 : decode cX7_isPart 22 = .ok (.iconst 0, 1) := by decide +kernel
theorem dX7_isPart_23 : decode cX7_isPart 23 = .ok (.ireturn, 1) := by decide +kernel
theorem dX7_areRows_0 : decode cX7_areRows 0 = .ok (.iload_n 0, 1) := by decide +kernel
theorem dX7_areRows_1 : decode cX7_areRows 1 = .ok (.ifCond .lt 21, 3) := by decide +kernel
theorem dX7_areRows_4 : decode cX7_areRows 4 = .ok (.iload_n 0, 1) := by decide +kernel
theorem dX7_areRows_5 : decode cX7_areRows 5 = .ok (.iconst 4, 1) := by decide +kernel
theorem dX7_areRows_6 : decode cX7_areRows 6 = .ok (.if_icmp .gt 16, 3) := by decide +kernel
theorem dX7_areRows_9 : decode cX7_areRows 9 = .ok (.iload_n 1, 1) := by decide +kernel
theorem dX7_areRows_10 : decode cX7_areRows 10 = .ok (.ifCond .lt 12, 3) := by decide +kernel
theorem dX7_areRows_13 : decode cX7_areRows 13 = .ok (.iload_n 1, 1) := by decide +kernel
theorem dX7_areRows_14 : decode cX7_areRows 14 = .ok (.iconst 2, 1) := by decide +kernel
theorem dX7_areRows_15 : decode cX7_areRows 15 = .ok (.if_icmp .gt 7, 3) := by decide +kernel
theorem dX7_areRows_18 : decode cX7_areRows 18 = .ok (.iconst 1, 1) := by decide +kernel
theorem dX7_areRows_19 : decode cX7_areRows 19 = .ok (.goto 4, 3) := by decide +kernel
theorem dX7_areRows_22 : decode cX7_areRows 22 = .ok (.iconst 0, 1) := by decide +kernel
theorem dX7_areRows_23 : decode cX7_areRows 23 = .ok (.ireturn, 1) := by decide +kernel
theorem dX7_isClause_0 : decode cX7_isClause 0 = .ok (.iload_n 1, 1) := by decide +kernel
theorem dX7_isClause_1 : decode cX7_isClause 1 = .ok (.iload_n 2, 1) := by decide +kernel
theorem dX7_isClause_2 : decode cX7_isClause 2 = .ok (.invokestatic 77, 3) := by decide +kernel
theorem dX7_isClause_5 : decode cX7_isClause 5 = .ok (.ifCond .eq 22, 3) := by decide +kernel
theorem dX7_isClause_8 : decode cX7_isClause 8 = .ok (.aload_n 0, 1) := by decide +kernel
theorem dX7_isClause_9 : decode cX7_isClause 9 = .ok (.getfield 19, 3) := by decide +kernel
theorem dX7_isClause_12 : decode cX7_isClause 12 = .ok (.iload_n 1, 1) := by decide +kernel
theorem dX7_isClause_13 : decode cX7_isClause 13 = .ok (.iload_n 2, 1) := by decide +kernel
theorem dX7_isClause_14 : decode cX7_isClause 14 = .ok (.invokestatic 81, 3) := by decide +kernel
theorem dX7_isClause_17 : decode cX7_isClause 17 = .ok (.invokevirtual 85, 3) := by decide +kernel
theorem dX7_isClause_20 : decode cX7_isClause 20 = .ok (.ifCond .le 7, 3) := by decide +kernel
theorem dX7_isClause_23 : decode cX7_isClause 23 = .ok (.iconst 1, 1) := by decide +kernel
theorem dX7_isClause_24 : decode cX7_isClause 24 = .ok (.goto 4, 3) := by decide +kernel
theorem dX7_isClause_27 : decode cX7_isClause 27 = .ok (.iconst 0, 1) := by decide +kernel
theorem dX7_isClause_28 : decode cX7_isClause 28 = .ok (.ireturn, 1) := by decide +kernel
theorem dX7_pageOf_0 : decode cX7_pageOf 0 = .ok (.iconst 4, 1) := by decide +kernel
theorem dX7_pageOf_1 : decode cX7_pageOf 1 = .ok (.iload_n 0, 1) := by decide +kernel
theorem dX7_pageOf_2 : decode cX7_pageOf 2 = .ok (.iconst 4, 1) := by decide +kernel
theorem dX7_pageOf_3 : decode cX7_pageOf 3 = .ok (.imul, 1) := by decide +kernel
theorem dX7_pageOf_4 : decode cX7_pageOf 4 = .ok (.iadd, 1) := by decide +kernel
theorem dX7_pageOf_5 : decode cX7_pageOf 5 = .ok (.iload_n 1, 1) := by decide +kernel
theorem dX7_pageOf_6 : decode cX7_pageOf 6 = .ok (.iadd, 1) := by decide +kernel
theorem dX7_pageOf_7 : decode cX7_pageOf 7 = .ok (.ireturn, 1) := by decide +kernel
theorem dX7_textsOf_0 : decode cX7_textsOf 0 = .ok (.iload_n 0, 1) := by decide +kernel
theorem dX7_textsOf_1 : decode cX7_textsOf 1 = .ok (.tableswitch 339 42 120 #[335, 335, 339, 335, 339, 339, 331, 331, 331, 331, 331, 331, 331, 331, 339, 339, 339, 339, 339, 339, 339, 337, 333, 339, 339, 339, 339, 339, 339, 339, 339, 339, 339, 339, 339, 339, 339, 339, 339, 339, 339, 339, 339, 339, 339, 339, 339, 339, 339, 339, 339, 339, 339, 339, 339, 339, 339, 339, 339, 339, 339, 339, 339, 339, 339, 333, 339, 335, 339, 339, 333, 333, 333, 339, 339, 339, 339, 339, 331], 331) := by decide +kernel
theorem dX7_textsOf_332 : decode cX7_textsOf 332 = .ok (.iconst 0, 1) := by decide +kernel
theorem dX7_textsOf_333 : decode cX7_textsOf 333 = .ok (.ireturn, 1) := by decide +kernel
theorem dX7_textsOf_334 : decode cX7_textsOf 334 = .ok (.iconst 1, 1) := by decide +kernel
theorem dX7_textsOf_335 : decode cX7_textsOf 335 = .ok (.ireturn, 1) := by decide +kernel
theorem dX7_textsOf_336 : decode cX7_textsOf 336 = .ok (.iconst 2, 1) := by decide +kernel
theorem dX7_textsOf_337 : decode cX7_textsOf 337 = .ok (.ireturn, 1) := by decide +kernel
theorem dX7_textsOf_338 : decode cX7_textsOf 338 = .ok (.iconst 3, 1) := by decide +kernel
theorem dX7_textsOf_339 : decode cX7_textsOf 339 = .ok (.ireturn, 1) := by decide +kernel
theorem dX7_textsOf_340 : decode cX7_textsOf 340 = .ok (.iconst (-1), 1) := by decide +kernel
theorem dX7_textsOf_341 : decode cX7_textsOf 341 = .ok (.ireturn, 1) := by decide +kernel
theorem dX7_becomes_0 : decode cX7_becomes 0 = .ok (.aload_n 0, 1) := by decide +kernel
theorem dX7_becomes_1 : decode cX7_becomes 1 = .ok (.getfield 12, 3) := by decide +kernel
theorem dX7_becomes_4 : decode cX7_becomes 4 = .ok (.iload_n 2, 1) := by decide +kernel
theorem dX7_becomes_5 : decode cX7_becomes 5 = .ok (.invokevirtual 66, 3) := by decide +kernel
theorem dX7_becomes_8 : decode cX7_becomes 8 = .ok (.bipush (-6), 2) := by decide +kernel
theorem dX7_becomes_10 : decode cX7_becomes 10 = .ok (.if_icmp .eq 6, 3) := by decide +kernel
theorem dX7_becomes_13 : decode cX7_becomes 13 = .ok (.bipush (-5), 2) := by decide +kernel
theorem dX7_becomes_15 : decode cX7_becomes 15 = .ok (.ireturn, 1) := by decide +kernel
theorem dX7_becomes_16 : decode cX7_becomes 16 = .ok (.aload_n 0, 1) := by decide +kernel
theorem dX7_becomes_17 : decode cX7_becomes 17 = .ok (.getfield 19, 3) := by decide +kernel
theorem dX7_becomes_20 : decode cX7_becomes 20 = .ok (.iload_n 1, 1) := by decide +kernel
theorem dX7_becomes_21 : decode cX7_becomes 21 = .ok (.aload_n 0, 1) := by decide +kernel
theorem dX7_becomes_22 : decode cX7_becomes 22 = .ok (.getfield 12, 3) := by decide +kernel
theorem dX7_becomes_25 : decode cX7_becomes 25 = .ok (.invokevirtual 135, 3) := by decide +kernel
theorem dX7_becomes_28 : decode cX7_becomes 28 = .ok (.aload_n 0, 1) := by decide +kernel
theorem dX7_becomes_29 : decode cX7_becomes 29 = .ok (.invokevirtual 139, 3) := by decide +kernel
theorem dX7_becomes_32 : decode cX7_becomes 32 = .ok (.ireturn, 1) := by decide +kernel
theorem dX7_goThrough_0 : decode cX7_goThrough 0 = .ok (.iconst 0, 1) := by decide +kernel
theorem dX7_goThrough_1 : decode cX7_goThrough 1 = .ok (.istore 6, 2) := by decide +kernel
theorem dX7_goThrough_3 : decode cX7_goThrough 3 = .ok (.iconst 1, 1) := by decide +kernel
theorem dX7_goThrough_4 : decode cX7_goThrough 4 = .ok (.istore 7, 2) := by decide +kernel
theorem dX7_goThrough_6 : decode cX7_goThrough 6 = .ok (.aload_n 0, 1) := by decide +kernel
theorem dX7_goThrough_7 : decode cX7_goThrough 7 = .ok (.getfield 30, 3) := by decide +kernel
theorem dX7_goThrough_10 : decode cX7_goThrough 10 = .ok (.iload_n 3, 1) := by decide +kernel
theorem dX7_goThrough_11 : decode cX7_goThrough 11 = .ok (.invokevirtual 101, 3) := by decide +kernel
theorem dX7_goThrough_14 : decode cX7_goThrough 14 = .ok (.iconst 0, 1) := by decide +kernel
theorem dX7_goThrough_15 : decode cX7_goThrough 15 = .ok (.istore 8, 2) := by decide +kernel
theorem dX7_goThrough_17 : decode cX7_goThrough 17 = .ok (.iload 8, 2) := by decide +kernel
theorem dX7_goThrough_19 : decode cX7_goThrough 19 = .ok (.bipush 81, 2) := by decide +kernel
theorem dX7_goThrough_21 : decode cX7_goThrough 21 = .ok (.if_icmp .ge 133, 3) := by decide +kernel
theorem dX7_goThrough_24 : decode cX7_goThrough 24 = .ok (.iload 7, 2) := by decide +kernel
theorem dX7_goThrough_26 : decode cX7_goThrough 26 = .ok (.ifCond .eq 128, 3) := by decide +kernel
theorem dX7_goThrough_29 : decode cX7_goThrough 29 = .ok (.aload_n 0, 1) := by decide +kernel
theorem dX7_goThrough_30 : decode cX7_goThrough 30 = .ok (.getfield 41, 3) := by decide +kernel
theorem dX7_goThrough_33 : decode cX7_goThrough 33 = .ok (.iload_n 1, 1) := by decide +kernel
theorem dX7_goThrough_34 : decode cX7_goThrough 34 = .ok (.iload_n 2, 1) := by decide +kernel
theorem dX7_goThrough_35 : decode cX7_goThrough 35 = .ok (.aload_n 0, 1) := by decide +kernel
theorem dX7_goThrough_36 : decode cX7_goThrough 36 = .ok (.getfield 30, 3) := by decide +kernel
theorem dX7_goThrough_39 : decode cX7_goThrough 39 = .ok (.invokevirtual 104, 3) := by decide +kernel
theorem dX7_goThrough_42 : decode cX7_goThrough 42 = .ok (.iload 6, 2) := by decide +kernel
theorem dX7_goThrough_44 : decode cX7_goThrough 44 = .ok (.iconst 1, 1) := by decide +kernel
theorem dX7_goThrough_45 : decode cX7_goThrough 45 = .ok (.aload_n 0, 1) := by decide +kernel
theorem dX7_goThrough_46 : decode cX7_goThrough 46 = .ok (.getfield 41, 3) := by decide +kernel
theorem dX7_goThrough_49 : decode cX7_goThrough 49 = .ok (.getfield 143, 3) := by decide +kernel
theorem dX7_goThrough_52 : decode cX7_goThrough 52 = .ok (.ishl, 1) := by decide +kernel
theorem dX7_goThrough_53 : decode cX7_goThrough 53 = .ok (.iand, 1) := by decide +kernel
theorem dX7_goThrough_54 : decode cX7_goThrough 54 = .ok (.ifCond .ne 7, 3) := by decide +kernel
theorem dX7_goThrough_57 : decode cX7_goThrough 57 = .ok (.iconst 1, 1) := by decide +kernel
theorem dX7_goThrough_58 : decode cX7_goThrough 58 = .ok (.goto 4, 3) := by decide +kernel
theorem dX7_goThrough_61 : decode cX7_goThrough 61 = .ok (.iconst 0, 1) := by decide +kernel
theorem dX7_goThrough_62 : decode cX7_goThrough 62 = .ok (.istore 9, 2) := by decide +kernel
theorem dX7_goThrough_64 : decode cX7_goThrough 64 = .ok (.aload_n 0, 1) := by decide +kernel
theorem dX7_goThrough_65 : decode cX7_goThrough 65 = .ok (.getfield 41, 3) := by decide +kernel
theorem dX7_goThrough_68 : decode cX7_goThrough 68 = .ok (.getfield 143, 3) := by decide +kernel
theorem dX7_goThrough_71 : decode cX7_goThrough 71 = .ok (.iload 5, 2) := by decide +kernel
theorem dX7_goThrough_73 : decode cX7_goThrough 73 = .ok (.if_icmp .ne 43, 3) := by decide +kernel
theorem dX7_goThrough_76 : decode cX7_goThrough 76 = .ok (.iload 9, 2) := by decide +kernel
theorem dX7_goThrough_78 : decode cX7_goThrough 78 = .ok (.ifCond .ne 20, 3) := by decide +kernel
theorem dX7_goThrough_81 : decode cX7_goThrough 81 = .ok (.aload_n 0, 1) := by decide +kernel
theorem dX7_goThrough_82 : decode cX7_goThrough 82 = .ok (.getfield 41, 3) := by decide +kernel
theorem dX7_goThrough_85 : decode cX7_goThrough 85 = .ok (.getfield 146, 3) := by decide +kernel
theorem dX7_goThrough_88 : decode cX7_goThrough 88 = .ok (.aload_n 0, 1) := by decide +kernel
theorem dX7_goThrough_89 : decode cX7_goThrough 89 = .ok (.getfield 33, 3) := by decide +kernel
theorem dX7_goThrough_92 : decode cX7_goThrough 92 = .ok (.getfield 98, 3) := by decide +kernel
theorem dX7_goThrough_95 : decode cX7_goThrough 95 = .ok (.if_icmp .ge 21, 3) := by decide +kernel
theorem dX7_goThrough_98 : decode cX7_goThrough 98 = .ok (.aload_n 0, 1) := by decide +kernel
theorem dX7_goThrough_99 : decode cX7_goThrough 99 = .ok (.getfield 33, 3) := by decide +kernel
theorem dX7_goThrough_102 : decode cX7_goThrough 102 = .ok (.aload_n 0, 1) := by decide +kernel
theorem dX7_goThrough_103 : decode cX7_goThrough 103 = .ok (.getfield 30, 3) := by decide +kernel
theorem dX7_goThrough_106 : decode cX7_goThrough 106 = .ok (.aload_n 0, 1) := by decide +kernel
theorem dX7_goThrough_107 : decode cX7_goThrough 107 = .ok (.getfield 41, 3) := by decide +kernel
theorem dX7_goThrough_110 : decode cX7_goThrough 110 = .ok (.getfield 146, 3) := by decide +kernel
theorem dX7_goThrough_113 : decode cX7_goThrough 113 = .ok (.invokevirtual 149, 3) := by decide +kernel
theorem dX7_goThrough_116 : decode cX7_goThrough 116 = .ok (.iload 6, 2) := by decide +kernel
theorem dX7_goThrough_118 : decode cX7_goThrough 118 = .ok (.iconst 1, 1) := by decide +kernel
theorem dX7_goThrough_119 : decode cX7_goThrough 119 = .ok (.aload_n 0, 1) := by decide +kernel
theorem dX7_goThrough_120 : decode cX7_goThrough 120 = .ok (.getfield 41, 3) := by decide +kernel
theorem dX7_goThrough_123 : decode cX7_goThrough 123 = .ok (.getfield 143, 3) := by decide +kernel
theorem dX7_goThrough_126 : decode cX7_goThrough 126 = .ok (.ishl, 1) := by decide +kernel
theorem dX7_goThrough_127 : decode cX7_goThrough 127 = .ok (.ior, 1) := by decide +kernel
theorem dX7_goThrough_128 : decode cX7_goThrough 128 = .ok (.istore 6, 2) := by decide +kernel
theorem dX7_goThrough_130 : decode cX7_goThrough 130 = .ok (.aload_n 0, 1) := by decide +kernel
theorem dX7_goThrough_131 : decode cX7_goThrough 131 = .ok (.getfield 30, 3) := by decide +kernel
theorem dX7_goThrough_134 : decode cX7_goThrough 134 = .ok (.aload_n 0, 1) := by decide +kernel
theorem dX7_goThrough_135 : decode cX7_goThrough 135 = .ok (.getfield 41, 3) := by decide +kernel
theorem dX7_goThrough_138 : decode cX7_goThrough 138 = .ok (.getfield 146, 3) := by decide +kernel
theorem dX7_goThrough_141 : decode cX7_goThrough 141 = .ok (.iload 4, 2) := by decide +kernel
theorem dX7_goThrough_143 : decode cX7_goThrough 143 = .ok (.invokevirtual 153, 3) := by decide +kernel
theorem dX7_goThrough_146 : decode cX7_goThrough 146 = .ok (.istore 7, 2) := by decide +kernel
theorem dX7_goThrough_148 : decode cX7_goThrough 148 = .ok (.iinc 8 1, 3) := by decide +kernel
theorem dX7_goThrough_151 : decode cX7_goThrough 151 = .ok (.goto (-134), 3) := by decide +kernel
theorem dX7_goThrough_154 : decode cX7_goThrough 154 = .ok (.iload 6, 2) := by decide +kernel
theorem dX7_goThrough_156 : decode cX7_goThrough 156 = .ok (.ireturn, 1) := by decide +kernel
theorem dX7_differ_0 : decode cX7_differ 0 = .ok (.iconst 1, 1) := by decide +kernel
theorem dX7_differ_1 : decode cX7_differ 1 = .ok (.istore 6, 2) := by decide +kernel
theorem dX7_differ_3 : decode cX7_differ 3 = .ok (.iconst 0, 1) := by decide +kernel
theorem dX7_differ_4 : decode cX7_differ 4 = .ok (.istore 7, 2) := by decide +kernel
theorem dX7_differ_6 : decode cX7_differ 6 = .ok (.iload 7, 2) := by decide +kernel
theorem dX7_differ_8 : decode cX7_differ 8 = .ok (.bipush 81, 2) := by decide +kernel
theorem dX7_differ_10 : decode cX7_differ 10 = .ok (.if_icmp .ge 86, 3) := by decide +kernel
theorem dX7_differ_13 : decode cX7_differ 13 = .ok (.iload 6, 2) := by decide +kernel
theorem dX7_differ_15 : decode cX7_differ 15 = .ok (.ifCond .eq 81, 3) := by decide +kernel
theorem dX7_differ_18 : decode cX7_differ 18 = .ok (.aload_n 0, 1) := by decide +kernel
theorem dX7_differ_19 : decode cX7_differ 19 = .ok (.getfield 41, 3) := by decide +kernel
theorem dX7_differ_22 : decode cX7_differ 22 = .ok (.iload_n 1, 1) := by decide +kernel
theorem dX7_differ_23 : decode cX7_differ 23 = .ok (.iload_n 2, 1) := by decide +kernel
theorem dX7_differ_24 : decode cX7_differ 24 = .ok (.aload_n 0, 1) := by decide +kernel
theorem dX7_differ_25 : decode cX7_differ 25 = .ok (.getfield 30, 3) := by decide +kernel
theorem dX7_differ_28 : decode cX7_differ 28 = .ok (.invokevirtual 104, 3) := by decide +kernel
theorem dX7_differ_31 : decode cX7_differ 31 = .ok (.aload_n 0, 1) := by decide +kernel
theorem dX7_differ_32 : decode cX7_differ 32 = .ok (.getfield 41, 3) := by decide +kernel
theorem dX7_differ_35 : decode cX7_differ 35 = .ok (.invokevirtual 156, 3) := by decide +kernel
theorem dX7_differ_38 : decode cX7_differ 38 = .ok (.istore 8, 2) := by decide +kernel
theorem dX7_differ_40 : decode cX7_differ 40 = .ok (.aload_n 0, 1) := by decide +kernel
theorem dX7_differ_41 : decode cX7_differ 41 = .ok (.getfield 41, 3) := by decide +kernel
theorem dX7_differ_44 : decode cX7_differ 44 = .ok (.getfield 146, 3) := by decide +kernel
theorem dX7_differ_47 : decode cX7_differ 47 = .ok (.istore 9, 2) := by decide +kernel
theorem dX7_differ_49 : decode cX7_differ 49 = .ok (.aload_n 0, 1) := by decide +kernel
theorem dX7_differ_50 : decode cX7_differ 50 = .ok (.getfield 41, 3) := by decide +kernel
theorem dX7_differ_53 : decode cX7_differ 53 = .ok (.iload_n 3, 1) := by decide +kernel
theorem dX7_differ_54 : decode cX7_differ 54 = .ok (.iload 4, 2) := by decide +kernel
theorem dX7_differ_56 : decode cX7_differ 56 = .ok (.aload_n 0, 1) := by decide +kernel
theorem dX7_differ_57 : decode cX7_differ 57 = .ok (.getfield 30, 3) := by decide +kernel
theorem dX7_differ_60 : decode cX7_differ 60 = .ok (.invokevirtual 104, 3) := by decide +kernel
theorem dX7_differ_63 : decode cX7_differ 63 = .ok (.aload_n 0, 1) := by decide +kernel
theorem dX7_differ_64 : decode cX7_differ 64 = .ok (.getfield 41, 3) := by decide +kernel
theorem dX7_differ_67 : decode cX7_differ 67 = .ok (.invokevirtual 156, 3) := by decide +kernel
theorem dX7_differ_70 : decode cX7_differ 70 = .ok (.iload 8, 2) := by decide +kernel
theorem dX7_differ_72 : decode cX7_differ 72 = .ok (.if_icmp .eq 5, 3) := by decide +kernel
theorem dX7_differ_75 : decode cX7_differ 75 = .ok (.iconst 1, 1) := by decide +kernel
theorem dX7_differ_76 : decode cX7_differ 76 = .ok (.ireturn, 1) := by decide +kernel
theorem dX7_differ_77 : decode cX7_differ 77 = .ok (.aload_n 0, 1) := by decide +kernel
theorem dX7_differ_78 : decode cX7_differ 78 = .ok (.getfield 30, 3) := by decide +kernel
theorem dX7_differ_81 : decode cX7_differ 81 = .ok (.iload 9, 2) := by decide +kernel
theorem dX7_differ_83 : decode cX7_differ 83 = .ok (.iload 5, 2) := by decide +kernel
theorem dX7_differ_85 : decode cX7_differ 85 = .ok (.invokevirtual 153, 3) := by decide +kernel
theorem dX7_differ_88 : decode cX7_differ 88 = .ok (.istore 6, 2) := by decide +kernel
theorem dX7_differ_90 : decode cX7_differ 90 = .ok (.iinc 7 1, 3) := by decide +kernel
theorem dX7_differ_93 : decode cX7_differ 93 = .ok (.goto (-87), 3) := by decide +kernel
theorem dX7_differ_96 : decode cX7_differ 96 = .ok (.iconst 0, 1) := by decide +kernel
theorem dX7_differ_97 : decode cX7_differ 97 = .ok (.ireturn, 1) := by decide +kernel
theorem dX8_init_0 : decode cX8_init 0 = .ok (.aload_n 0, 1) := by decide +kernel
theorem dX8_init_1 : decode cX8_init 1 = .ok (.invokespecial 1, 3) := by decide +kernel
theorem dX8_init_4 : decode cX8_init 4 = .ok (.aload_n 0, 1) := by decide +kernel
theorem dX8_init_5 : decode cX8_init 5 = .ok (.bipush 40, 2) := by decide +kernel
theorem dX8_init_7 : decode cX8_init 7 = .ok (.newarray .int, 2) := by decide +kernel
theorem dX8_init_9 : decode cX8_init 9 = .ok (.putfield 7, 3) := by decide +kernel
theorem dX8_init_12 : decode cX8_init 12 = .ok (.aload_n 0, 1) := by decide +kernel
theorem dX8_init_13 : decode cX8_init 13 = .ok (.bipush 20, 2) := by decide +kernel
theorem dX8_init_15 : decode cX8_init 15 = .ok (.newarray .int, 2) := by decide +kernel
theorem dX8_init_17 : decode cX8_init 17 = .ok (.putfield 13, 3) := by decide +kernel
theorem dX8_init_20 : decode cX8_init 20 = .ok (.aload_n 0, 1) := by decide +kernel
theorem dX8_init_21 : decode cX8_init 21 = .ok (.sipush 800, 3) := by decide +kernel
theorem dX8_init_24 : decode cX8_init 24 = .ok (.newarray .int, 2) := by decide +kernel
theorem dX8_init_26 : decode cX8_init 26 = .ok (.putfield 16, 3) := by decide +kernel
theorem dX8_init_29 : decode cX8_init 29 = .ok (.aload_n 0, 1) := by decide +kernel
theorem dX8_init_30 : decode cX8_init 30 = .ok (.sipush 800, 3) := by decide +kernel
theorem dX8_init_33 : decode cX8_init 33 = .ok (.newarray .int, 2) := by decide +kernel
theorem dX8_init_35 : decode cX8_init 35 = .ok (.putfield 19, 3) := by decide +kernel
theorem dX8_init_38 : decode cX8_init 38 = .ok (.aload_n 0, 1) := by decide +kernel
theorem dX8_init_39 : decode cX8_init 39 = .ok (.bipush 8, 2) := by decide +kernel
theorem dX8_init_41 : decode cX8_init 41 = .ok (.newarray .int, 2) := by decide +kernel
theorem dX8_init_43 : decode cX8_init 43 = .ok (.putfield 22, 3) := by decide +kernel
theorem dX8_init_46 : decode cX8_init 46 = .ok (.aload_n 0, 1) := by decide +kernel
theorem dX8_init_47 : decode cX8_init 47 = .ok (.bipush 41, 2) := by decide +kernel
theorem dX8_init_49 : decode cX8_init 49 = .ok (.newarray .int, 2) := by decide +kernel
theorem dX8_init_51 : decode cX8_init 51 = .ok (.putfield 25, 3) := by decide +kernel
theorem dX8_init_54 : decode cX8_init 54 = .ok (.aload_n 0, 1) := by decide +kernel
theorem dX8_init_55 : decode cX8_init 55 = .ok (.sipush 512, 3) := by decide +kernel
theorem dX8_init_58 : decode cX8_init 58 = .ok (.newarray .int, 2) := by decide +kernel
theorem dX8_init_60 : decode cX8_init 60 = .ok (.putfield 28, 3) := by decide +kernel
theorem dX8_init_63 : decode cX8_init 63 = .ok (.aload_n 0, 1) := by decide +kernel
theorem dX8_init_64 : decode cX8_init 64 = .ok (.sipush 512, 3) := by decide +kernel
theorem dX8_init_67 : decode cX8_init 67 = .ok (.newarray .int, 2) := by decide +kernel
theorem dX8_init_69 : decode cX8_init 69 = .ok (.putfield 31, 3) := by decide +kernel
theorem dX8_init_72 : decode cX8_init 72 = .ok (.aload_n 0, 1) := by decide +kernel
theorem dX8_init_73 : decode cX8_init 73 = .ok (.sipush 512, 3) := by decide +kernel
theorem dX8_init_76 : decode cX8_init 76 = .ok (.newarray .int, 2) := by decide +kernel
theorem dX8_init_78 : decode cX8_init 78 = .ok (.putfield 34, 3) := by decide +kernel
theorem dX8_init_81 : decode cX8_init 81 = .ok (.aload_n 0, 1) := by decide +kernel
theorem dX8_init_82 : decode cX8_init 82 = .ok (.sipush 512, 3) := by decide +kernel
theorem dX8_init_85 : decode cX8_init 85 = .ok (.newarray .int, 2) := by decide +kernel
theorem dX8_init_87 : decode cX8_init 87 = .ok (.putfield 37, 3) := by decide +kernel
theorem dX8_init_90 : decode cX8_init 90 = .ok (.aload_n 0, 1) := by decide +kernel
theorem dX8_init_91 : decode cX8_init 91 = .ok (.sipush 512, 3) := by decide +kernel
theorem dX8_init_94 : decode cX8_init 94 = .ok (.newarray .int, 2) := by decide +kernel
theorem dX8_init_96 : decode cX8_init 96 = .ok (.putfield 40, 3) := by decide +kernel
theorem dX8_init_99 : decode cX8_init 99 = .ok (.aload_n 0, 1) := by decide +kernel
theorem dX8_init_100 : decode cX8_init 100 = .ok (.sipush 512, 3) := by decide +kernel
theorem dX8_init_103 : decode cX8_init 103 = .ok (.newarray .int, 2) := by decide +kernel
theorem dX8_init_105 : decode cX8_init 105 = .ok (.putfield 43, 3) := by decide +kernel
theorem dX8_init_108 : decode cX8_init 108 = .ok (.aload_n 0, 1) := by decide +kernel
theorem dX8_init_109 : decode cX8_init 109 = .ok (.sipush 12000, 3) := by decide +kernel
theorem dX8_init_112 : decode cX8_init 112 = .ok (.newarray .int, 2) := by decide +kernel
theorem dX8_init_114 : decode cX8_init 114 = .ok (.putfield 46, 3) := by decide +kernel
theorem dX8_init_117 : decode cX8_init 117 = .ok (.aload_n 0, 1) := by decide +kernel
theorem dX8_init_118 : decode cX8_init 118 = .ok (.sipush 12000, 3) := by decide +kernel
theorem dX8_init_121 : decode cX8_init 121 = .ok (.newarray .int, 2) := by decide +kernel
theorem dX8_init_123 : decode cX8_init 123 = .ok (.putfield 49, 3) := by decide +kernel
theorem dX8_init_126 : decode cX8_init 126 = .ok (.aload_n 0, 1) := by decide +kernel
theorem dX8_init_127 : decode cX8_init 127 = .ok (.sipush 12000, 3) := by decide +kernel
theorem dX8_init_130 : decode cX8_init 130 = .ok (.newarray .int, 2) := by decide +kernel
theorem dX8_init_132 : decode cX8_init 132 = .ok (.putfield 52, 3) := by decide +kernel
theorem dX8_init_135 : decode cX8_init 135 = .ok (.aload_n 0, 1) := by decide +kernel
theorem dX8_init_136 : decode cX8_init 136 = .ok (.sipush 256, 3) := by decide +kernel
theorem dX8_init_139 : decode cX8_init 139 = .ok (.newarray .int, 2) := by decide +kernel
theorem dX8_init_141 : decode cX8_init 141 = .ok (.putfield 55, 3) := by decide +kernel
theorem dX8_init_144 : decode cX8_init 144 = .ok (.aload_n 0, 1) := by decide +kernel
theorem dX8_init_145 : decode cX8_init 145 = .ok (.sipush 256, 3) := by decide +kernel
theorem dX8_init_148 : decode cX8_init 148 = .ok (.newarray .int, 2) := by decide +kernel
theorem dX8_init_150 : decode cX8_init 150 = .ok (.putfield 58, 3) := by decide +kernel
theorem dX8_init_153 : decode cX8_init 153 = .ok (.aload_n 0, 1) := by decide +kernel
theorem dX8_init_154 : decode cX8_init 154 = .ok (.sipush 256, 3) := by decide +kernel
theorem dX8_init_157 : decode cX8_init 157 = .ok (.newarray .int, 2) := by decide +kernel
theorem dX8_init_159 : decode cX8_init 159 = .ok (.putfield 61, 3) := by decide +kernel
theorem dX8_init_162 : decode cX8_init 162 = .ok (.aload_n 0, 1) := by decide +kernel
theorem dX8_init_163 : decode cX8_init 163 = .ok (.sipush 256, 3) := by decide +kernel
theorem dX8_init_166 : decode cX8_init 166 = .ok (.newarray .int, 2) := by decide +kernel
theorem dX8_init_168 : decode cX8_init 168 = .ok (.putfield 64, 3) := by decide +kernel
theorem dX8_init_171 : decode cX8_init 171 = .ok (.aload_n 0, 1) := by decide +kernel
theorem dX8_init_172 : decode cX8_init 172 = .ok (.bipush 8, 2) := by decide +kernel
theorem dX8_init_174 : decode cX8_init 174 = .ok (.newarray .int, 2) := by decide +kernel
theorem dX8_init_176 : decode cX8_init 176 = .ok (.putfield 67, 3) := by decide +kernel
theorem dX8_init_179 : decode cX8_init 179 = .ok (.aload_n 0, 1) := by decide +kernel
theorem dX8_init_180 : decode cX8_init 180 = .ok (.sipush 12000, 3) := by decide +kernel
theorem dX8_init_183 : decode cX8_init 183 = .ok (.newarray .int, 2) := by decide +kernel
theorem dX8_init_185 : decode cX8_init 185 = .ok (.putfield 70, 3) := by decide +kernel
theorem dX8_init_188 : decode cX8_init 188 = .ok (.aload_n 0, 1) := by decide +kernel
theorem dX8_init_189 : decode cX8_init 189 = .ok (.bipush 20, 2) := by decide +kernel
theorem dX8_init_191 : decode cX8_init 191 = .ok (.newarray .int, 2) := by decide +kernel
theorem dX8_init_193 : decode cX8_init 193 = .ok (.putfield 73, 3) := by decide +kernel
theorem dX8_init_196 : decode cX8_init 196 = .ok (.aload_n 0, 1) := by decide +kernel
theorem dX8_init_197 : decode cX8_init 197 = .ok (.iconst 4, 1) := by decide +kernel
theorem dX8_init_198 : decode cX8_init 198 = .ok (.newarray .int, 2) := by decide +kernel
theorem dX8_init_200 : decode cX8_init 200 = .ok (.putfield 76, 3) := by decide +kernel
theorem dX8_init_203 : decode cX8_init 203 = .ok (.aload_n 0, 1) := by decide +kernel
theorem dX8_init_204 : decode cX8_init 204 = .ok (.bipush 41, 2) := by decide +kernel
theorem dX8_init_206 : decode cX8_init 206 = .ok (.newarray .int, 2) := by decide +kernel
theorem dX8_init_208 : decode cX8_init 208 = .ok (.putfield 79, 3) := by decide +kernel
theorem dX8_init_211 : decode cX8_init 211 = .ok (.aload_n 0, 1) := by decide +kernel
theorem dX8_init_212 : decode cX8_init 212 = .ok (.iconst 4, 1) := by decide +kernel
theorem dX8_init_213 : decode cX8_init 213 = .ok (.newarray .int, 2) := by decide +kernel
theorem dX8_init_215 : decode cX8_init 215 = .ok (.putfield 82, 3) := by decide +kernel
theorem dX8_init_218 : decode cX8_init 218 = .ok (.iconst 0, 1) := by decide +kernel
theorem dX8_init_219 : decode cX8_init 219 = .ok (.istore_n 1, 1) := by decide +kernel
theorem dX8_init_220 : decode cX8_init 220 = .ok (.iload_n 1, 1) := by decide +kernel
theorem dX8_init_221 : decode cX8_init 221 = .ok (.iconst 4, 1) := by decide +kernel
theorem dX8_init_222 : decode cX8_init 222 = .ok (.if_icmp .ge 37, 3) := by decide +kernel
theorem dX8_init_225 : decode cX8_init 225 = .ok (.aload_n 0, 1) := by decide +kernel
theorem dX8_init_226 : decode cX8_init 226 = .ok (.getfield 13, 3) := by decide +kernel
theorem dX8_init_229 : decode cX8_init 229 = .ok (.iload_n 1, 1) := by decide +kernel
theorem dX8_init_230 : decode cX8_init 230 = .ok (.iconst 1, 1) := by decide +kernel
theorem dX8_init_231 : decode cX8_init 231 = .ok (.iastore, 1) := by decide +kernel
theorem dX8_init_232 : decode cX8_init 232 = .ok (.aload_n 0, 1) := by decide +kernel
theorem dX8_init_233 : decode cX8_init 233 = .ok (.getfield 16, 3) := by decide +kernel
theorem dX8_init_236 : decode cX8_init 236 = .ok (.bipush 40, 2) := by decide +kernel
theorem dX8_init_238 : decode cX8_init 238 = .ok (.iload_n 1, 1) := by decide +kernel
theorem dX8_init_239 : decode cX8_init 239 = .ok (.imul, 1) := by decide +kernel
theorem dX8_init_240 : decode cX8_init 240 = .ok (.bipush 48, 2) := by decide +kernel
theorem dX8_init_242 : decode cX8_init 242 = .ok (.iastore, 1) := by decide +kernel
theorem dX8_init_243 : decode cX8_init 243 = .ok (.aload_n 0, 1) := by decide +kernel
theorem dX8_init_244 : decode cX8_init 244 = .ok (.getfield 19, 3) := by decide +kernel
theorem dX8_init_247 : decode cX8_init 247 = .ok (.bipush 40, 2) := by decide +kernel
theorem dX8_init_249 : decode cX8_init 249 = .ok (.iload_n 1, 1) := by decide +kernel
theorem dX8_init_250 : decode cX8_init 250 = .ok (.imul, 1) := by decide +kernel
theorem dX8_init_251 : decode cX8_init 251 = .ok (.iconst 1, 1) := by decide +kernel
theorem dX8_init_252 : decode cX8_init 252 = .ok (.iastore, 1) := by decide +kernel
theorem dX8_init_253 : decode cX8_init 253 = .ok (.iinc 1 1, 3) := by decide +kernel
theorem dX8_init_256 : decode cX8_init 256 = .ok (.goto (-36), 3) := by decide +kernel
theorem dX8_init_259 : decode cX8_init 259 = .ok (.return_, 1) := by decide +kernel
theorem dX8_in_0 : decode cX8_in 0 = .ok (.iload_n 0, 1) := by decide +kernel
theorem dX8_in_1 : decode cX8_in 1 = .ok (.iload_n 1, 1) := by decide +kernel
theorem dX8_in_2 : decode cX8_in 2 = .ok (.if_icmp .lt 12, 3) := by decide +kernel
theorem dX8_in_5 : decode cX8_in 5 = .ok (.iload_n 0, 1) := by decide +kernel
theorem dX8_in_6 : decode cX8_in 6 = .ok (.iload_n 2, 1) := by decide +kernel
theorem dX8_in_7 : decode cX8_in 7 = .ok (.if_icmp .gt 7, 3) := by decide +kernel
theorem dX8_in_10 : decode cX8_in 10 = .ok (.iconst 1, 1) := by decide +kernel
theorem dX8_in_11 : decode cX8_in 11 = .ok (.goto 4, 3) := by decide +kernel
theorem dX8_in_14 : decode cX8_in 14 = .ok (.iconst 0, 1) := by decide +kernel
theorem dX8_in_15 : decode cX8_in 15 = .ok (.ireturn, 1) := by decide +kernel
theorem dX8_isFour_0 : decode cX8_isFour 0 = .ok (.iload_n 0, 1) := by decide +kernel
theorem dX8_isFour_1 : decode cX8_isFour 1 = .ok (.iconst 0, 1) := by decide +kernel
theorem dX8_isFour_2 : decode cX8_isFour 2 = .ok (.iconst 3, 1) := by decide +kernel
theorem dX8_isFour_3 : decode cX8_isFour 3 = .ok (.invokestatic 85, 3) := by decide +kernel
theorem dX8_isFour_6 : decode cX8_isFour 6 = .ok (.ireturn, 1) := by decide +kernel
theorem dX8_say_0 : decode cX8_say 0 = .ok (.iload_n 1, 1) := by decide +kernel
theorem dX8_say_1 : decode cX8_say 1 = .ok (.bipush 33, 2) := by decide +kernel
theorem dX8_say_3 : decode cX8_say 3 = .ok (.bipush 126, 2) := by decide +kernel
theorem dX8_say_5 : decode cX8_say 5 = .ok (.invokestatic 85, 3) := by decide +kernel
theorem dX8_say_8 : decode cX8_say 8 = .ok (.ifCond .ne 6, 3) := by decide +kernel
theorem dX8_say_11 : decode cX8_say 11 = .ok (.bipush (-2), 2) := by decide +kernel
theorem dX8_say_13 : decode cX8_say 13 = .ok (.ireturn, 1) := by decide +kernel
theorem dX8_say_14 : decode cX8_say 14 = .ok (.aload_n 0, 1) := by decide +kernel
theorem dX8_say_15 : decode cX8_say 15 = .ok (.getfield 89, 3) := by decide +kernel
theorem dX8_say_18 : decode cX8_say 18 = .ok (.bipush 40, 2) := by decide +kernel
theorem dX8_say_20 : decode cX8_say 20 = .ok (.if_icmp .ne 6, 3) := by decide +kernel
theorem dX8_say_23 : decode cX8_say 23 = .ok (.bipush (-4), 2) := by decide +kernel
theorem dX8_say_25 : decode cX8_say 25 = .ok (.ireturn, 1) := by decide +kernel
theorem dX8_say_26 : decode cX8_say 26 = .ok (.aload_n 0, 1) := by decide +kernel
theorem dX8_say_27 : decode cX8_say 27 = .ok (.getfield 7, 3) := by decide +kernel
theorem dX8_say_30 : decode cX8_say 30 = .ok (.aload_n 0, 1) := by decide +kernel
theorem dX8_say_31 : decode cX8_say 31 = .ok (.getfield 89, 3) := by decide +kernel
theorem dX8_say_34 : decode cX8_say 34 = .ok (.iload_n 1, 1) := by decide +kernel
theorem dX8_say_35 : decode cX8_say 35 = .ok (.iastore, 1) := by decide +kernel
theorem dX8_say_36 : decode cX8_say 36 = .ok (.aload_n 0, 1) := by decide +kernel
theorem dX8_say_37 : decode cX8_say 37 = .ok (.dup, 1) := by decide +kernel
theorem dX8_say_38 : decode cX8_say 38 = .ok (.getfield 89, 3) := by decide +kernel
theorem dX8_say_41 : decode cX8_say 41 = .ok (.iconst 1, 1) := by decide +kernel
theorem dX8_say_42 : decode cX8_say 42 = .ok (.iadd, 1) := by decide +kernel
theorem dX8_say_43 : decode cX8_say 43 = .ok (.putfield 89, 3) := by decide +kernel
theorem dX8_say_46 : decode cX8_say 46 = .ok (.aload_n 0, 1) := by decide +kernel
theorem dX8_say_47 : decode cX8_say 47 = .ok (.getfield 89, 3) := by decide +kernel
theorem dX8_say_50 : decode cX8_say 50 = .ok (.ireturn, 1) := by decide +kernel
theorem dX8_wipe_0 : decode cX8_wipe 0 = .ok (.aload_n 0, 1) := by decide +kernel
theorem dX8_wipe_1 : decode cX8_wipe 1 = .ok (.getfield 89, 3) := by decide +kernel
theorem dX8_wipe_4 : decode cX8_wipe 4 = .ok (.istore_n 1, 1) := by decide +kernel
theorem dX8_wipe_5 : decode cX8_wipe 5 = .ok (.aload_n 0, 1) := by decide +kernel
theorem dX8_wipe_6 : decode cX8_wipe 6 = .ok (.iconst 0, 1) := by decide +kernel
theorem dX8_wipe_7 : decode cX8_wipe 7 = .ok (.putfield 89, 3) := by decide +kernel
theorem dX8_wipe_10 : decode cX8_wipe 10 = .ok (.iload_n 1, 1) := by decide +kernel
theorem dX8_wipe_11 : decode cX8_wipe 11 = .ok (.ireturn, 1) := by decide +kernel
theorem dX8_partsOf_0 : decode cX8_partsOf 0 = .ok (.iload_n 0, 1) := by decide +kernel
theorem dX8_partsOf_1 : decode cX8_partsOf 1 = .ok (.bipush 43, 2) := by decide +kernel
theorem dX8_partsOf_3 : decode cX8_partsOf 3 = .ok (.if_icmp .eq 21, 3) := by decide +kernel
theorem dX8_partsOf_6 : decode cX8_partsOf 6 = .ok (.iload_n 0, 1) := by decide +kernel
theorem dX8_partsOf_7 : decode cX8_partsOf 7 = .ok (.bipush 45, 2) := by decide +kernel
theorem dX8_partsOf_9 : decode cX8_partsOf 9 = .ok (.if_icmp .eq 15, 3) := by decide +kernel
theorem dX8_partsOf_12 : decode cX8_partsOf 12 = .ok (.iload_n 0, 1) := by decide +kernel
theorem dX8_partsOf_13 : decode cX8_partsOf 13 = .ok (.bipush 42, 2) := by decide +kernel
theorem dX8_partsOf_15 : decode cX8_partsOf 15 = .ok (.if_icmp .eq 9, 3) := by decide +kernel
theorem dX8_partsOf_18 : decode cX8_partsOf 18 = .ok (.iload_n 0, 1) := by decide +kernel
theorem dX8_partsOf_19 : decode cX8_partsOf 19 = .ok (.bipush 109, 2) := by decide +kernel
theorem dX8_partsOf_21 : decode cX8_partsOf 21 = .ok (.if_icmp .ne 7, 3) := by decide +kernel
theorem dX8_partsOf_24 : decode cX8_partsOf 24 = .ok (.iconst 1, 1) := by decide +kernel
theorem dX8_partsOf_25 : decode cX8_partsOf 25 = .ok (.goto 4, 3) := by decide +kernel
theorem dX8_partsOf_28 : decode cX8_partsOf 28 = .ok (.iconst 0, 1) := by decide +kernel
theorem dX8_partsOf_29 : decode cX8_partsOf 29 = .ok (.istore_n 2, 1) := by decide +kernel
theorem dX8_partsOf_30 : decode cX8_partsOf 30 = .ok (.iload_n 0, 1) := by decide +kernel
theorem dX8_partsOf_31 : decode cX8_partsOf 31 = .ok (.bipush 112, 2) := by decide +kernel
theorem dX8_partsOf_33 : decode cX8_partsOf 33 = .ok (.if_icmp .eq 31, 3) := by decide +kernel
theorem dX8_partsOf_36 : decode cX8_partsOf 36 = .ok (.iload_n 0, 1) := by decide +kernel
theorem dX8_partsOf_37 : decode cX8_partsOf 37 = .ok (.bipush 113, 2) := by decide +kernel
theorem dX8_partsOf_39 : decode cX8_partsOf 39 = .ok (.if_icmp .eq 25, 3) := by decide +kernel
theorem dX8_partsOf_42 : decode cX8_partsOf 42 = .ok (.iload_n 0, 1) := by decide +kernel
theorem dX8_partsOf_43 : decode cX8_partsOf 43 = .ok (.bipush 114, 2) := by decide +kernel
theorem dX8_partsOf_45 : decode cX8_partsOf 45 = .ok (.if_icmp .eq 19, 3) := by decide +kernel
theorem dX8_partsOf_48 : decode cX8_partsOf 48 = .ok (.iload_n 0, 1) := by decide +kernel
theorem dX8_partsOf_49 : decode cX8_partsOf 49 = .ok (.bipush 64, 2) := by decide +kernel
theorem dX8_partsOf_51 : decode cX8_partsOf 51 = .ok (.if_icmp .eq 13, 3) := by decide +kernel
theorem dX8_partsOf_54 : decode cX8_partsOf 54 = .ok (.iload_n 0, 1) := by decide +kernel
theorem dX8_partsOf_55 : decode cX8_partsOf 55 = .ok (.bipush 107, 2) := by decide +kernel
theorem dX8_partsOf_57 : decode cX8_partsOf 57 = .ok (.if_icmp .ne 11, 3) := by decide +kernel
theorem dX8_partsOf_60 : decode cX8_partsOf 60 = .ok (.iload_n 1, 1) := by decide +kernel
theorem dX8_partsOf_61 : decode cX8_partsOf 61 = .ok (.ifCond .eq 7, 3) := by decide +kernel
theorem dX8_partsOf_64 : decode cX8_partsOf 64 = .ok (.iconst 1, 1) := by decide +kernel
theorem dX8_partsOf_65 : decode cX8_partsOf 65 = .ok (.goto 4, 3) := by decide +kernel
theorem dX8_partsOf_68 : decode cX8_partsOf 68 = .ok (.iconst 0, 1) := by decide +kernel
theorem dX8_partsOf_69 : decode cX8_partsOf 69 = .ok (.istore_n 3, 1) := by decide +kernel
theorem dX8_partsOf_70 : decode cX8_partsOf 70 = .ok (.iload_n 2, 1) := by decide +kernel
theorem dX8_partsOf_71 : decode cX8_partsOf 71 = .ok (.ifCond .eq 7, 3) := by decide +kernel
theorem dX8_partsOf_74 : decode cX8_partsOf 74 = .ok (.iconst 2, 1) := by decide +kernel
theorem dX8_partsOf_75 : decode cX8_partsOf 75 = .ok (.goto 44, 3) := by decide +kernel
theorem dX8_partsOf_78 : decode cX8_partsOf 78 = .ok (.iload_n 0, 1) := by decide +kernel
theorem dX8_partsOf_79 : decode cX8_partsOf 79 = .ok (.bipush 63, 2) := by decide +kernel
theorem dX8_partsOf_81 : decode cX8_partsOf 81 = .ok (.if_icmp .ne 7, 3) := by decide +kernel
theorem dX8_partsOf_84 : decode cX8_partsOf 84 = .ok (.iconst 3, 1) := by decide +kernel
theorem dX8_partsOf_85 : decode cX8_partsOf 85 = .ok (.goto 34, 3) := by decide +kernel
theorem dX8_partsOf_88 : decode cX8_partsOf 88 = .ok (.iload_n 3, 1) := by decide +kernel
theorem dX8_partsOf_89 : decode cX8_partsOf 89 = .ok (.ifCond .eq 7, 3) := by decide +kernel
theorem dX8_partsOf_92 : decode cX8_partsOf 92 = .ok (.iconst 1, 1) := by decide +kernel
theorem dX8_partsOf_93 : decode cX8_partsOf 93 = .ok (.goto 26, 3) := by decide +kernel
theorem dX8_partsOf_96 : decode cX8_partsOf 96 = .ok (.iload_n 0, 1) := by decide +kernel
theorem dX8_partsOf_97 : decode cX8_partsOf 97 = .ok (.bipush 48, 2) := by decide +kernel
theorem dX8_partsOf_99 : decode cX8_partsOf 99 = .ok (.bipush 55, 2) := by decide +kernel
theorem dX8_partsOf_101 : decode cX8_partsOf 101 = .ok (.invokestatic 85, 3) := by decide +kernel
theorem dX8_partsOf_104 : decode cX8_partsOf 104 = .ok (.ifCond .ne 9, 3) := by decide +kernel
theorem dX8_partsOf_107 : decode cX8_partsOf 107 = .ok (.iload_n 0, 1) := by decide +kernel
theorem dX8_partsOf_108 : decode cX8_partsOf 108 = .ok (.bipush 120, 2) := by decide +kernel
theorem dX8_partsOf_110 : decode cX8_partsOf 110 = .ok (.if_icmp .ne 7, 3) := by decide +kernel
theorem dX8_partsOf_113 : decode cX8_partsOf 113 = .ok (.iconst 0, 1) := by decide +kernel
theorem dX8_partsOf_114 : decode cX8_partsOf 114 = .ok (.goto 5, 3) := by decide +kernel
theorem dX8_partsOf_117 : decode cX8_partsOf 117 = .ok (.bipush (-6), 2) := by decide +kernel
theorem dX8_partsOf_119 : decode cX8_partsOf 119 = .ok (.ireturn, 1) := by decide +kernel
theorem dX8_faultOf_0 : decode cX8_faultOf 0 = .ok (.iconst 0, 1) := by decide +kernel
theorem dX8_faultOf_1 : decode cX8_faultOf 1 = .ok (.istore_n 2, 1) := by decide +kernel
theorem dX8_faultOf_2 : decode cX8_faultOf 2 = .ok (.iconst 0, 1) := by decide +kernel
theorem dX8_faultOf_3 : decode cX8_faultOf 3 = .ok (.istore_n 3, 1) := by decide +kernel
theorem dX8_faultOf_4 : decode cX8_faultOf 4 = .ok (.iload_n 3, 1) := by decide +kernel
theorem dX8_faultOf_5 : decode cX8_faultOf 5 = .ok (.aload_n 0, 1) := by decide +kernel
theorem dX8_faultOf_6 : decode cX8_faultOf 6 = .ok (.getfield 89, 3) := by decide +kernel
theorem dX8_faultOf_9 : decode cX8_faultOf 9 = .ok (.if_icmp .ge 195, 3) := by decide +kernel
theorem dX8_faultOf_12 : decode cX8_faultOf 12 = .ok (.aload_n 0, 1) := by decide +kernel
theorem dX8_faultOf_13 : decode cX8_faultOf 13 = .ok (.getfield 7, 3) := by decide +kernel
theorem dX8_faultOf_16 : decode cX8_faultOf 16 = .ok (.iload_n 3, 1) := by decide +kernel
theorem dX8_faultOf_17 : decode cX8_faultOf 17 = .ok (.iaload, 1) := by decide +kernel
theorem dX8_faultOf_18 : decode cX8_faultOf 18 = .ok (.istore 4, 2) := by decide +kernel
theorem dX8_faultOf_20 : decode cX8_faultOf 20 = .ok (.iload 4, 2) := by decide +kernel
theorem dX8_faultOf_22 : decode cX8_faultOf 22 = .ok (.iload_n 1, 1) := by decide +kernel
theorem dX8_faultOf_23 : decode cX8_faultOf 23 = .ok (.invokestatic 93, 3) := by decide +kernel
theorem dX8_faultOf_26 : decode cX8_faultOf 26 = .ok (.istore 5, 2) := by decide +kernel
theorem dX8_faultOf_28 : decode cX8_faultOf 28 = .ok (.iload 5, 2) := by decide +kernel
theorem dX8_faultOf_30 : decode cX8_faultOf 30 = .ok (.ifCond .lt 14, 3) := by decide +kernel
theorem dX8_faultOf_33 : decode cX8_faultOf 33 = .ok (.iload 5, 2) := by decide +kernel
theorem dX8_faultOf_35 : decode cX8_faultOf 35 = .ok (.ifCond .le 11, 3) := by decide +kernel
theorem dX8_faultOf_38 : decode cX8_faultOf 38 = .ok (.iload_n 2, 1) := by decide +kernel
theorem dX8_faultOf_39 : decode cX8_faultOf 39 = .ok (.bipush 9, 2) := by decide +kernel
theorem dX8_faultOf_41 : decode cX8_faultOf 41 = .ok (.if_icmp .ne 5, 3) := by decide +kernel
theorem dX8_faultOf_44 : decode cX8_faultOf 44 = .ok (.iload_n 3, 1) := by decide +kernel
theorem dX8_faultOf_45 : decode cX8_faultOf 45 = .ok (.ireturn, 1) := by decide +kernel
theorem dX8_faultOf_46 : decode cX8_faultOf 46 = .ok (.iload 4, 2) := by decide +kernel
theorem dX8_faultOf_48 : decode cX8_faultOf 48 = .ok (.bipush 64, 2) := by decide +kernel
theorem dX8_faultOf_50 : decode cX8_faultOf 50 = .ok (.if_icmp .ne 32, 3) := by decide +kernel
theorem dX8_faultOf_53 : decode cX8_faultOf 53 = .ok (.iinc 3 1, 3) := by decide +kernel
theorem dX8_faultOf_56 : decode cX8_faultOf 56 = .ok (.iload_n 3, 1) := by decide +kernel
theorem dX8_faultOf_57 : decode cX8_faultOf 57 = .ok (.aload_n 0, 1) := by decide +kernel
theorem dX8_faultOf_58 : decode cX8_faultOf 58 = .ok (.getfield 89, 3) := by decide +kernel
theorem dX8_faultOf_61 : decode cX8_faultOf 61 = .ok (.if_icmp .ge 21, 3) := by decide +kernel
theorem dX8_faultOf_64 : decode cX8_faultOf 64 = .ok (.aload_n 0, 1) := by decide +kernel
theorem dX8_faultOf_65 : decode cX8_faultOf 65 = .ok (.getfield 7, 3) := by decide +kernel
theorem dX8_faultOf_68 : decode cX8_faultOf 68 = .ok (.iload_n 3, 1) := by decide +kernel
theorem dX8_faultOf_69 : decode cX8_faultOf 69 = .ok (.iaload, 1) := by decide +kernel
theorem dX8_faultOf_70 : decode cX8_faultOf 70 = .ok (.bipush 48, 2) := by decide +kernel
theorem dX8_faultOf_72 : decode cX8_faultOf 72 = .ok (.bipush 51, 2) := by decide +kernel
theorem dX8_faultOf_74 : decode cX8_faultOf 74 = .ok (.invokestatic 85, 3) := by decide +kernel
theorem dX8_faultOf_77 : decode cX8_faultOf 77 = .ok (.ifCond .ne 5, 3) := by decide +kernel
theorem dX8_faultOf_80 : decode cX8_faultOf 80 = .ok (.iload_n 3, 1) := by decide +kernel
theorem dX8_faultOf_81 : decode cX8_faultOf 81 = .ok (.ireturn, 1) := by decide +kernel
theorem dX8_faultOf_82 : decode cX8_faultOf 82 = .ok (.iinc 3 1, 3) := by decide +kernel
theorem dX8_faultOf_85 : decode cX8_faultOf 85 = .ok (.iload 5, 2) := by decide +kernel
theorem dX8_faultOf_87 : decode cX8_faultOf 87 = .ok (.ifCond .le 17, 3) := by decide +kernel
theorem dX8_faultOf_90 : decode cX8_faultOf 90 = .ok (.aload_n 0, 1) := by decide +kernel
theorem dX8_faultOf_91 : decode cX8_faultOf 91 = .ok (.getfield 25, 3) := by decide +kernel
theorem dX8_faultOf_94 : decode cX8_faultOf 94 = .ok (.iload_n 2, 1) := by decide +kernel
theorem dX8_faultOf_95 : decode cX8_faultOf 95 = .ok (.iload 5, 2) := by decide +kernel
theorem dX8_faultOf_97 : decode cX8_faultOf 97 = .ok (.iastore, 1) := by decide +kernel
theorem dX8_faultOf_98 : decode cX8_faultOf 98 = .ok (.iinc 2 1, 3) := by decide +kernel
theorem dX8_faultOf_101 : decode cX8_faultOf 101 = .ok (.goto 100, 3) := by decide +kernel
theorem dX8_faultOf_104 : decode cX8_faultOf 104 = .ok (.iload_n 2, 1) := by decide +kernel
theorem dX8_faultOf_105 : decode cX8_faultOf 105 = .ok (.ifCond .le 7, 3) := by decide +kernel
theorem dX8_faultOf_108 : decode cX8_faultOf 108 = .ok (.iconst 1, 1) := by decide +kernel
theorem dX8_faultOf_109 : decode cX8_faultOf 109 = .ok (.goto 4, 3) := by decide +kernel
theorem dX8_faultOf_112 : decode cX8_faultOf 112 = .ok (.iconst 0, 1) := by decide +kernel
theorem dX8_faultOf_113 : decode cX8_faultOf 113 = .ok (.istore 6, 2) := by decide +kernel
theorem dX8_faultOf_115 : decode cX8_faultOf 115 = .ok (.iload 6, 2) := by decide +kernel
theorem dX8_faultOf_117 : decode cX8_faultOf 117 = .ok (.ifCond .eq 65, 3) := by decide +kernel
theorem dX8_faultOf_120 : decode cX8_faultOf 120 = .ok (.aload_n 0, 1) := by decide +kernel
theorem dX8_faultOf_121 : decode cX8_faultOf 121 = .ok (.getfield 25, 3) := by decide +kernel
theorem dX8_faultOf_124 : decode cX8_faultOf 124 = .ok (.iload_n 2, 1) := by decide +kernel
theorem dX8_faultOf_125 : decode cX8_faultOf 125 = .ok (.iconst 1, 1) := by decide +kernel
theorem dX8_faultOf_126 : decode cX8_faultOf 126 = .ok (.isub, 1) := by decide +kernel
theorem dX8_faultOf_127 : decode cX8_faultOf 127 = .ok (.dup2, 1) := by decide +kernel
theorem dX8_faultOf_128 : decode cX8_faultOf 128 = .ok (.iaload, 1) := by decide +kernel
theorem dX8_faultOf_129 : decode cX8_faultOf 129 = .ok (.iconst 1, 1) := by decide +kernel
theorem dX8_faultOf_130 : decode cX8_faultOf 130 = .ok (.isub, 1) := by decide +kernel
theorem dX8_faultOf_131 : decode cX8_faultOf 131 = .ok (.iastore, 1) := by decide +kernel
theorem dX8_faultOf_132 : decode cX8_faultOf 132 = .ok (.aload_n 0, 1) := by decide +kernel
theorem dX8_faultOf_133 : decode cX8_faultOf 133 = .ok (.getfield 25, 3) := by decide +kernel
theorem dX8_faultOf_136 : decode cX8_faultOf 136 = .ok (.iload_n 2, 1) := by decide +kernel
theorem dX8_faultOf_137 : decode cX8_faultOf 137 = .ok (.iconst 1, 1) := by decide +kernel
theorem dX8_faultOf_138 : decode cX8_faultOf 138 = .ok (.isub, 1) := by decide +kernel
theorem dX8_faultOf_139 : decode cX8_faultOf 139 = .ok (.iaload, 1) := by decide +kernel
theorem dX8_faultOf_140 : decode cX8_faultOf 140 = .ok (.ifCond .ne 7, 3) := by decide +kernel
theorem dX8_faultOf_143 : decode cX8_faultOf 143 = .ok (.iconst 1, 1) := by decide +kernel
theorem dX8_faultOf_144 : decode cX8_faultOf 144 = .ok (.goto 4, 3) := by decide +kernel
theorem dX8_faultOf_147 : decode cX8_faultOf 147 = .ok (.iconst 0, 1) := by decide +kernel
theorem dX8_faultOf_148 : decode cX8_faultOf 148 = .ok (.istore 6, 2) := by decide +kernel
theorem dX8_faultOf_150 : decode cX8_faultOf 150 = .ok (.iload_n 2, 1) := by decide +kernel
theorem dX8_faultOf_151 : decode cX8_faultOf 151 = .ok (.iload 6, 2) := by decide +kernel
theorem dX8_faultOf_153 : decode cX8_faultOf 153 = .ok (.ifCond .eq 7, 3) := by decide +kernel
theorem dX8_faultOf_156 : decode cX8_faultOf 156 = .ok (.iconst 1, 1) := by decide +kernel
theorem dX8_faultOf_157 : decode cX8_faultOf 157 = .ok (.goto 4, 3) := by decide +kernel
theorem dX8_faultOf_160 : decode cX8_faultOf 160 = .ok (.iconst 0, 1) := by decide +kernel
theorem dX8_faultOf_161 : decode cX8_faultOf 161 = .ok (.isub, 1) := by decide +kernel
theorem dX8_faultOf_162 : decode cX8_faultOf 162 = .ok (.istore_n 2, 1) := by decide +kernel
theorem dX8_faultOf_163 : decode cX8_faultOf 163 = .ok (.iload 6, 2) := by decide +kernel
theorem dX8_faultOf_165 : decode cX8_faultOf 165 = .ok (.ifCond .eq 11, 3) := by decide +kernel
theorem dX8_faultOf_168 : decode cX8_faultOf 168 = .ok (.iload_n 2, 1) := by decide +kernel
theorem dX8_faultOf_169 : decode cX8_faultOf 169 = .ok (.ifCond .le 7, 3) := by decide +kernel
theorem dX8_faultOf_172 : decode cX8_faultOf 172 = .ok (.iconst 1, 1) := by decide +kernel
theorem dX8_faultOf_173 : decode cX8_faultOf 173 = .ok (.goto 4, 3) := by decide +kernel
theorem dX8_faultOf_176 : decode cX8_faultOf 176 = .ok (.iconst 0, 1) := by decide +kernel
theorem dX8_faultOf_177 : decode cX8_faultOf 177 = .ok (.istore 6, 2) := by decide +kernel
theorem dX8_faultOf_179 : decode cX8_faultOf 179 = .ok (.goto (-64), 3) := by decide +kernel
theorem dX8_faultOf_182 : decode cX8_faultOf 182 = .ok (.iload_n 2, 1) := by decide +kernel
theorem dX8_faultOf_183 : decode cX8_faultOf 183 = .ok (.ifCond .ne 18, 3) := by decide +kernel
theorem dX8_faultOf_186 : decode cX8_faultOf 186 = .ok (.iload_n 3, 1) := by decide +kernel
theorem dX8_faultOf_187 : decode cX8_faultOf 187 = .ok (.aload_n 0, 1) := by decide +kernel
theorem dX8_faultOf_188 : decode cX8_faultOf 188 = .ok (.getfield 89, 3) := by decide +kernel
theorem dX8_faultOf_191 : decode cX8_faultOf 191 = .ok (.if_icmp .ne 8, 3) := by decide +kernel
theorem dX8_faultOf_194 : decode cX8_faultOf 194 = .ok (.bipush (-6), 2) := by decide +kernel
theorem dX8_faultOf_196 : decode cX8_faultOf 196 = .ok (.goto 4, 3) := by decide +kernel
theorem dX8_faultOf_199 : decode cX8_faultOf 199 = .ok (.iload_n 3, 1) := by decide +kernel
theorem dX8_faultOf_200 : decode cX8_faultOf 200 = .ok (.ireturn, 1) := by decide +kernel
theorem dX8_faultOf_201 : decode cX8_faultOf 201 = .ok (.goto (-197), 3) := by decide +kernel
theorem dX8_faultOf_204 : decode cX8_faultOf 204 = .ok (.aload_n 0, 1) := by decide +kernel
theorem dX8_faultOf_205 : decode cX8_faultOf 205 = .ok (.getfield 89, 3) := by decide +kernel
theorem dX8_faultOf_208 : decode cX8_faultOf 208 = .ok (.ireturn, 1) := by decide +kernel
theorem dX8_fault_0 : decode cX8_fault 0 = .ok (.iload_n 1, 1) := by decide +kernel
theorem dX8_fault_1 : decode cX8_fault 1 = .ok (.iconst 0, 1) := by decide +kernel
theorem dX8_fault_2 : decode cX8_fault 2 = .ok (.iconst 1, 1) := by decide +kernel
theorem dX8_fault_3 : decode cX8_fault 3 = .ok (.invokestatic 85, 3) := by decide +kernel
theorem dX8_fault_6 : decode cX8_fault 6 = .ok (.ifCond .eq 20, 3) := by decide +kernel
theorem dX8_fault_9 : decode cX8_fault 9 = .ok (.aload_n 0, 1) := by decide +kernel
theorem dX8_fault_10 : decode cX8_fault 10 = .ok (.iload_n 1, 1) := by decide +kernel
theorem dX8_fault_11 : decode cX8_fault 11 = .ok (.iconst 1, 1) := by decide +kernel
theorem dX8_fault_12 : decode cX8_fault 12 = .ok (.if_icmp .ne 7, 3) := by decide +kernel
theorem dX8_fault_15 : decode cX8_fault 15 = .ok (.iconst 1, 1) := by decide +kernel
theorem dX8_fault_16 : decode cX8_fault 16 = .ok (.goto 4, 3) := by decide +kernel
theorem dX8_fault_19 : decode cX8_fault 19 = .ok (.iconst 0, 1) := by decide +kernel
theorem dX8_fault_20 : decode cX8_fault 20 = .ok (.invokevirtual 97, 3) := by decide +kernel
theorem dX8_fault_23 : decode cX8_fault 23 = .ok (.goto 5, 3) := by decide +kernel
theorem dX8_fault_26 : decode cX8_fault 26 = .ok (.bipush (-2), 2) := by decide +kernel
theorem dX8_fault_28 : decode cX8_fault 28 = .ok (.ireturn, 1) := by decide +kernel
theorem dX8_keep_0 : decode cX8_keep 0 = .ok (.aload_n 0, 1) := by decide +kernel
theorem dX8_keep_1 : decode cX8_keep 1 = .ok (.getfield 89, 3) := by decide +kernel
theorem dX8_keep_4 : decode cX8_keep 4 = .ok (.istore_n 2, 1) := by decide +kernel
theorem dX8_keep_5 : decode cX8_keep 5 = .ok (.iconst 0, 1) := by decide +kernel
theorem dX8_keep_6 : decode cX8_keep 6 = .ok (.istore_n 3, 1) := by decide +kernel
theorem dX8_keep_7 : decode cX8_keep 7 = .ok (.iload_n 3, 1) := by decide +kernel
theorem dX8_keep_8 : decode cX8_keep 8 = .ok (.iload_n 2, 1) := by decide +kernel
theorem dX8_keep_9 : decode cX8_keep 9 = .ok (.if_icmp .ge 26, 3) := by decide +kernel
theorem dX8_keep_12 : decode cX8_keep 12 = .ok (.aload_n 0, 1) := by decide +kernel
theorem dX8_keep_13 : decode cX8_keep 13 = .ok (.getfield 16, 3) := by decide +kernel
theorem dX8_keep_16 : decode cX8_keep 16 = .ok (.bipush 40, 2) := by decide +kernel
theorem dX8_keep_18 : decode cX8_keep 18 = .ok (.iload_n 1, 1) := by decide +kernel
theorem dX8_keep_19 : decode cX8_keep 19 = .ok (.imul, 1) := by decide +kernel
theorem dX8_keep_20 : decode cX8_keep 20 = .ok (.iload_n 3, 1) := by decide +kernel
theorem dX8_keep_21 : decode cX8_keep 21 = .ok (.iadd, 1) := by decide +kernel
theorem dX8_keep_22 : decode cX8_keep 22 = .ok (.aload_n 0, 1) := by decide +kernel
theorem dX8_keep_23 : decode cX8_keep 23 = .ok (.getfield 7, 3) := by decide +kernel
theorem dX8_keep_26 : decode cX8_keep 26 = .ok (.iload_n 3, 1) := by decide +kernel
theorem dX8_keep_27 : decode cX8_keep 27 = .ok (.iaload, 1) := by decide +kernel
theorem dX8_keep_28 : decode cX8_keep 28 = .ok (.iastore, 1) := by decide +kernel
theorem dX8_keep_29 : decode cX8_keep 29 = .ok (.iinc 3 1, 3) := by decide +kernel
theorem dX8_keep_32 : decode cX8_keep 32 = .ok (.goto (-25), 3) := by decide +kernel
theorem dX8_keep_35 : decode cX8_keep 35 = .ok (.aload_n 0, 1) := by decide +kernel
theorem dX8_keep_36 : decode cX8_keep 36 = .ok (.getfield 13, 3) := by decide +kernel
theorem dX8_keep_39 : decode cX8_keep 39 = .ok (.iload_n 1, 1) := by decide +kernel
theorem dX8_keep_40 : decode cX8_keep 40 = .ok (.iload_n 2, 1) := by decide +kernel
theorem dX8_keep_41 : decode cX8_keep 41 = .ok (.iastore, 1) := by decide +kernel
theorem dX8_keep_42 : decode cX8_keep 42 = .ok (.iload_n 2, 1) := by decide +kernel
theorem dX8_keep_43 : decode cX8_keep 43 = .ok (.iconst 1, 1) := by decide +kernel
theorem dX8_keep_44 : decode cX8_keep 44 = .ok (.isub, 1) := by decide +kernel
theorem dX8_keep_45 : decode cX8_keep 45 = .ok (.istore_n 3, 1) := by decide +kernel
theorem dX8_keep_46 : decode cX8_keep 46 = .ok (.iload_n 3, 1) := by decide +kernel
theorem dX8_keep_47 : decode cX8_keep 47 = .ok (.ifCond .lt 133, 3) := by decide +kernel
theorem dX8_keep_50 : decode cX8_keep 50 = .ok (.bipush 40, 2) := by decide +kernel
theorem dX8_keep_52 : decode cX8_keep 52 = .ok (.iload_n 1, 1) := by decide +kernel
theorem dX8_keep_53 : decode cX8_keep 53 = .ok (.imul, 1) := by decide +kernel
theorem dX8_keep_54 : decode cX8_keep 54 = .ok (.iload_n 3, 1) := by decide +kernel
theorem dX8_keep_55 : decode cX8_keep 55 = .ok (.iadd, 1) := by decide +kernel
theorem dX8_keep_56 : decode cX8_keep 56 = .ok (.istore 4, 2) := by decide +kernel
theorem dX8_keep_58 : decode cX8_keep 58 = .ok (.iload_n 3, 1) := by decide +kernel
theorem dX8_keep_59 : decode cX8_keep 59 = .ok (.ifCond .le 20, 3) := by decide +kernel
theorem dX8_keep_62 : decode cX8_keep 62 = .ok (.aload_n 0, 1) := by decide +kernel
theorem dX8_keep_63 : decode cX8_keep 63 = .ok (.getfield 7, 3) := by decide +kernel
theorem dX8_keep_66 : decode cX8_keep 66 = .ok (.iload_n 3, 1) := by decide +kernel
theorem dX8_keep_67 : decode cX8_keep 67 = .ok (.iconst 1, 1) := by decide +kernel
theorem dX8_keep_68 : decode cX8_keep 68 = .ok (.isub, 1) := by decide +kernel
theorem dX8_keep_69 : decode cX8_keep 69 = .ok (.iaload, 1) := by decide +kernel
theorem dX8_keep_70 : decode cX8_keep 70 = .ok (.bipush 64, 2) := by decide +kernel
theorem dX8_keep_72 : decode cX8_keep 72 = .ok (.if_icmp .ne 7, 3) := by decide +kernel
theorem dX8_keep_75 : decode cX8_keep 75 = .ok (.iconst 1, 1) := by decide +kernel
theorem dX8_keep_76 : decode cX8_keep 76 = .ok (.goto 4, 3) := by decide +kernel
theorem dX8_keep_79 : decode cX8_keep 79 = .ok (.iconst 0, 1) := by decide +kernel
theorem dX8_keep_80 : decode cX8_keep 80 = .ok (.istore 5, 2) := by decide +kernel
theorem dX8_keep_82 : decode cX8_keep 82 = .ok (.aload_n 0, 1) := by decide +kernel
theorem dX8_keep_83 : decode cX8_keep 83 = .ok (.getfield 19, 3) := by decide +kernel
theorem dX8_keep_86 : decode cX8_keep 86 = .ok (.iload 4, 2) := by decide +kernel
theorem dX8_keep_88 : decode cX8_keep 88 = .ok (.iconst 1, 1) := by decide +kernel
theorem dX8_keep_89 : decode cX8_keep 89 = .ok (.aload_n 0, 1) := by decide +kernel
theorem dX8_keep_90 : decode cX8_keep 90 = .ok (.getfield 7, 3) := by decide +kernel
theorem dX8_keep_93 : decode cX8_keep 93 = .ok (.iload_n 3, 1) := by decide +kernel
theorem dX8_keep_94 : decode cX8_keep 94 = .ok (.iaload, 1) := by decide +kernel
theorem dX8_keep_95 : decode cX8_keep 95 = .ok (.bipush 64, 2) := by decide +kernel
theorem dX8_keep_97 : decode cX8_keep 97 = .ok (.if_icmp .ne 12, 3) := by decide +kernel
theorem dX8_keep_100 : decode cX8_keep 100 = .ok (.iload 5, 2) := by decide +kernel
theorem dX8_keep_102 : decode cX8_keep 102 = .ok (.ifCond .ne 7, 3) := by decide +kernel
theorem dX8_keep_105 : decode cX8_keep 105 = .ok (.iconst 1, 1) := by decide +kernel
theorem dX8_keep_106 : decode cX8_keep 106 = .ok (.goto 4, 3) := by decide +kernel
theorem dX8_keep_109 : decode cX8_keep 109 = .ok (.iconst 0, 1) := by decide +kernel
theorem dX8_keep_110 : decode cX8_keep 110 = .ok (.iadd, 1) := by decide +kernel
theorem dX8_keep_111 : decode cX8_keep 111 = .ok (.iastore, 1) := by decide +kernel
theorem dX8_keep_112 : decode cX8_keep 112 = .ok (.iload 5, 2) := by decide +kernel
theorem dX8_keep_114 : decode cX8_keep 114 = .ok (.ifCond .eq 7, 3) := by decide +kernel
theorem dX8_keep_117 : decode cX8_keep 117 = .ok (.iconst 0, 1) := by decide +kernel
theorem dX8_keep_118 : decode cX8_keep 118 = .ok (.goto 13, 3) := by decide +kernel
theorem dX8_keep_121 : decode cX8_keep 121 = .ok (.aload_n 0, 1) := by decide +kernel
theorem dX8_keep_122 : decode cX8_keep 122 = .ok (.getfield 7, 3) := by decide +kernel
theorem dX8_keep_125 : decode cX8_keep 125 = .ok (.iload_n 3, 1) := by decide +kernel
theorem dX8_keep_126 : decode cX8_keep 126 = .ok (.iaload, 1) := by decide +kernel
theorem dX8_keep_127 : decode cX8_keep 127 = .ok (.iconst 1, 1) := by decide +kernel
theorem dX8_keep_128 : decode cX8_keep 128 = .ok (.invokestatic 93, 3) := by decide +kernel
theorem dX8_keep_131 : decode cX8_keep 131 = .ok (.istore 6, 2) := by decide +kernel
theorem dX8_keep_133 : decode cX8_keep 133 = .ok (.iconst 0, 1) := by decide +kernel
theorem dX8_keep_134 : decode cX8_keep 134 = .ok (.istore 7, 2) := by decide +kernel
theorem dX8_keep_136 : decode cX8_keep 136 = .ok (.iload 7, 2) := by decide +kernel
theorem dX8_keep_138 : decode cX8_keep 138 = .ok (.iload 6, 2) := by decide +kernel
theorem dX8_keep_140 : decode cX8_keep 140 = .ok (.if_icmp .ge 34, 3) := by decide +kernel
theorem dX8_keep_143 : decode cX8_keep 143 = .ok (.aload_n 0, 1) := by decide +kernel
theorem dX8_keep_144 : decode cX8_keep 144 = .ok (.getfield 19, 3) := by decide +kernel
theorem dX8_keep_147 : decode cX8_keep 147 = .ok (.iload 4, 2) := by decide +kernel
theorem dX8_keep_149 : decode cX8_keep 149 = .ok (.dup2, 1) := by decide +kernel
theorem dX8_keep_150 : decode cX8_keep 150 = .ok (.iaload, 1) := by decide +kernel
theorem dX8_keep_151 : decode cX8_keep 151 = .ok (.aload_n 0, 1) := by decide +kernel
theorem dX8_keep_152 : decode cX8_keep 152 = .ok (.getfield 19, 3) := by decide +kernel
theorem dX8_keep_155 : decode cX8_keep 155 = .ok (.iload 4, 2) := by decide +kernel
theorem dX8_keep_157 : decode cX8_keep 157 = .ok (.aload_n 0, 1) := by decide +kernel
theorem dX8_keep_158 : decode cX8_keep 158 = .ok (.getfield 19, 3) := by decide +kernel
theorem dX8_keep_161 : decode cX8_keep 161 = .ok (.iload 4, 2) := by decide +kernel
theorem dX8_keep_163 : decode cX8_keep 163 = .ok (.iaload, 1) := by decide +kernel
theorem dX8_keep_164 : decode cX8_keep 164 = .ok (.iadd, 1) := by decide +kernel
theorem dX8_keep_165 : decode cX8_keep 165 = .ok (.iaload, 1) := by decide +kernel
theorem dX8_keep_166 : decode cX8_keep 166 = .ok (.iadd, 1) := by decide +kernel
theorem dX8_keep_167 : decode cX8_keep 167 = .ok (.iastore, 1) := by decide +kernel
theorem dX8_keep_168 : decode cX8_keep 168 = .ok (.iinc 7 1, 3) := by decide +kernel
theorem dX8_keep_171 : decode cX8_keep 171 = .ok (.goto (-35), 3) := by decide +kernel
theorem dX8_keep_174 : decode cX8_keep 174 = .ok (.iinc 3 (-1), 3) := by decide +kernel
theorem dX8_keep_177 : decode cX8_keep 177 = .ok (.goto (-131), 3) := by decide +kernel
theorem dX8_keep_180 : decode cX8_keep 180 = .ok (.aload_n 0, 1) := by decide +kernel
theorem dX8_keep_181 : decode cX8_keep 181 = .ok (.iconst 0, 1) := by decide +kernel
theorem dX8_keep_182 : decode cX8_keep 182 = .ok (.putfield 89, 3) := by decide +kernel
theorem dX8_keep_185 : decode cX8_keep 185 = .ok (.iload_n 2, 1) := by decide +kernel
theorem dX8_keep_186 : decode cX8_keep 186 = .ok (.ireturn, 1) := by decide +kernel
theorem dX8_text_0 : decode cX8_text 0 = .ok (.iload_n 1, 1) := by decide +kernel
theorem dX8_text_1 : decode cX8_text 1 = .ok (.invokestatic 101, 3) := by decide +kernel
theorem dX8_text_4 : decode cX8_text 4 = .ok (.ifCond .ne 5, 3) := by decide +kernel
theorem dX8_text_7 : decode cX8_text 7 = .ok (.iconst (-1), 1) := by decide +kernel
theorem dX8_text_8 : decode cX8_text 8 = .ok (.ireturn, 1) := by decide +kernel
theorem dX8_text_9 : decode cX8_text 9 = .ok (.aload_n 0, 1) := by decide +kernel
theorem dX8_text_10 : decode cX8_text 10 = .ok (.iconst 0, 1) := by decide +kernel
theorem dX8_text_11 : decode cX8_text 11 = .ok (.invokevirtual 97, 3) := by decide +kernel
theorem dX8_text_14 : decode cX8_text 14 = .ok (.ifCond .lt 8, 3) := by decide +kernel
theorem dX8_text_17 : decode cX8_text 17 = .ok (.bipush (-5), 2) := by decide +kernel
theorem dX8_text_19 : decode cX8_text 19 = .ok (.goto 8, 3) := by decide +kernel
theorem dX8_text_22 : decode cX8_text 22 = .ok (.aload_n 0, 1) := by decide +kernel
theorem dX8_text_23 : decode cX8_text 23 = .ok (.iload_n 1, 1) := by decide +kernel
theorem dX8_text_24 : decode cX8_text 24 = .ok (.invokevirtual 105, 3) := by decide +kernel
theorem dX8_text_27 : decode cX8_text 27 = .ok (.ireturn, 1) := by decide +kernel
theorem dX8_clauseOf_0 : decode cX8_clauseOf 0 = .ok (.iconst 4, 1) := by decide +kernel
theorem dX8_clauseOf_1 : decode cX8_clauseOf 1 = .ok (.iconst 4, 1) := by decide +kernel
theorem dX8_clauseOf_2 : decode cX8_clauseOf 2 = .ok (.iload_n 0, 1) := by decide +kernel
theorem dX8_clauseOf_3 : decode cX8_clauseOf 3 = .ok (.imul, 1) := by decide +kernel
theorem dX8_clauseOf_4 : decode cX8_clauseOf 4 = .ok (.iadd, 1) := by decide +kernel
theorem dX8_clauseOf_5 : decode cX8_clauseOf 5 = .ok (.iload_n 1, 1) := by decide +kernel
theorem dX8_clauseOf_6 : decode cX8_clauseOf 6 = .ok (.iadd, 1) := by decide +kernel
theorem dX8_clauseOf_7 : decode cX8_clauseOf 7 = .ok (.ireturn, 1) := by decide +kernel
theorem dX8_clause_0 : decode cX8_clause 0 = .ok (.iload_n 1, 1) := by decide +kernel
theorem dX8_clause_1 : decode cX8_clause 1 = .ok (.invokestatic 101, 3) := by decide +kernel
theorem dX8_clause_4 : decode cX8_clause 4 = .ok (.ifCond .eq 10, 3) := by decide +kernel
theorem dX8_clause_7 : decode cX8_clause 7 = .ok (.iload_n 2, 1) := by decide +kernel
theorem dX8_clause_8 : decode cX8_clause 8 = .ok (.invokestatic 101, 3) := by decide +kernel
theorem dX8_clause_11 : decode cX8_clause 11 = .ok (.ifCond .ne 5, 3) := by decide +kernel
theorem dX8_clause_14 : decode cX8_clause 14 = .ok (.iconst (-1), 1) := by decide +kernel
theorem dX8_clause_15 : decode cX8_clause 15 = .ok (.ireturn, 1) := by decide +kernel
theorem dX8_clause_16 : decode cX8_clause 16 = .ok (.aload_n 0, 1) := by decide +kernel
theorem dX8_clause_17 : decode cX8_clause 17 = .ok (.iload_n 2, 1) := by decide +kernel
theorem dX8_clause_18 : decode cX8_clause 18 = .ok (.iconst 3, 1) := by decide +kernel
theorem dX8_clause_19 : decode cX8_clause 19 = .ok (.if_icmp .ge 7, 3) := by decide +kernel
theorem dX8_clause_22 : decode cX8_clause 22 = .ok (.iconst 1, 1) := by decide +kernel
theorem dX8_clause_23 : decode cX8_clause 23 = .ok (.goto 4, 3) := by decide +kernel
theorem dX8_clause_26 : decode cX8_clause 26 = .ok (.iconst 0, 1) := by decide +kernel
theorem dX8_clause_27 : decode cX8_clause 27 = .ok (.invokevirtual 97, 3) := by decide +kernel
theorem dX8_clause_30 : decode cX8_clause 30 = .ok (.ifCond .lt 8, 3) := by decide +kernel
theorem dX8_clause_33 : decode cX8_clause 33 = .ok (.bipush (-5), 2) := by decide +kernel
theorem dX8_clause_35 : decode cX8_clause 35 = .ok (.goto 12, 3) := by decide +kernel
theorem dX8_clause_38 : decode cX8_clause 38 = .ok (.aload_n 0, 1) := by decide +kernel
theorem dX8_clause_39 : decode cX8_clause 39 = .ok (.iload_n 1, 1) := by decide +kernel
theorem dX8_clause_40 : decode cX8_clause 40 = .ok (.iload_n 2, 1) := by decide +kernel
theorem dX8_clause_41 : decode cX8_clause 41 = .ok (.invokestatic 109, 3) := by decide +kernel
theorem dX8_clause_44 : decode cX8_clause 44 = .ok (.invokevirtual 105, 3) := by decide +kernel
theorem dX8_clause_47 : decode cX8_clause 47 = .ok (.ireturn, 1) := by decide +kernel
theorem dX8_drop_0 : decode cX8_drop 0 = .ok (.iload_n 1, 1) := by decide +kernel
theorem dX8_drop_1 : decode cX8_drop 1 = .ok (.invokestatic 101, 3) := by decide +kernel
theorem dX8_drop_4 : decode cX8_drop 4 = .ok (.ifCond .eq 10, 3) := by decide +kernel
theorem dX8_drop_7 : decode cX8_drop 7 = .ok (.iload_n 2, 1) := by decide +kernel
theorem dX8_drop_8 : decode cX8_drop 8 = .ok (.invokestatic 101, 3) := by decide +kernel
theorem dX8_drop_11 : decode cX8_drop 11 = .ok (.ifCond .ne 5, 3) := by decide +kernel
theorem dX8_drop_14 : decode cX8_drop 14 = .ok (.iconst (-1), 1) := by decide +kernel
theorem dX8_drop_15 : decode cX8_drop 15 = .ok (.ireturn, 1) := by decide +kernel
theorem dX8_drop_16 : decode cX8_drop 16 = .ok (.aload_n 0, 1) := by decide +kernel
theorem dX8_drop_17 : decode cX8_drop 17 = .ok (.getfield 13, 3) := by decide +kernel
theorem dX8_drop_20 : decode cX8_drop 20 = .ok (.iload_n 1, 1) := by decide +kernel
theorem dX8_drop_21 : decode cX8_drop 21 = .ok (.iload_n 2, 1) := by decide +kernel
theorem dX8_drop_22 : decode cX8_drop 22 = .ok (.invokestatic 109, 3) := by decide +kernel
theorem dX8_drop_25 : decode cX8_drop 25 = .ok (.iaload, 1) := by decide +kernel
theorem dX8_drop_26 : decode cX8_drop 26 = .ok (.istore_n 3, 1) := by decide +kernel
theorem dX8_drop_27 : decode cX8_drop 27 = .ok (.aload_n 0, 1) := by decide +kernel
theorem dX8_drop_28 : decode cX8_drop 28 = .ok (.getfield 13, 3) := by decide +kernel
theorem dX8_drop_31 : decode cX8_drop 31 = .ok (.iload_n 1, 1) := by decide +kernel
theorem dX8_drop_32 : decode cX8_drop 32 = .ok (.iload_n 2, 1) := by decide +kernel
theorem dX8_drop_33 : decode cX8_drop 33 = .ok (.invokestatic 109, 3) := by decide +kernel
theorem dX8_drop_36 : decode cX8_drop 36 = .ok (.iconst 0, 1) := by decide +kernel
theorem dX8_drop_37 : decode cX8_drop 37 = .ok (.iastore, 1) := by decide +kernel
theorem dX8_drop_38 : decode cX8_drop 38 = .ok (.iload_n 3, 1) := by decide +kernel
theorem dX8_drop_39 : decode cX8_drop 39 = .ok (.ifCond .ne 8, 3) := by decide +kernel
theorem dX8_drop_42 : decode cX8_drop 42 = .ok (.bipush (-5), 2) := by decide +kernel
theorem dX8_drop_44 : decode cX8_drop 44 = .ok (.goto 4, 3) := by decide +kernel
theorem dX8_drop_47 : decode cX8_drop 47 = .ok (.iload_n 3, 1) := by decide +kernel
theorem dX8_drop_48 : decode cX8_drop 48 = .ok (.ireturn, 1) := by decide +kernel
theorem dX8_hasClause_0 : decode cX8_hasClause 0 = .ok (.aload_n 0, 1) := by decide +kernel
theorem dX8_hasClause_1 : decode cX8_hasClause 1 = .ok (.getfield 13, 3) := by decide +kernel
theorem dX8_hasClause_4 : decode cX8_hasClause 4 = .ok (.iload_n 1, 1) := by decide +kernel
theorem dX8_hasClause_5 : decode cX8_hasClause 5 = .ok (.iload_n 2, 1) := by decide +kernel
theorem dX8_hasClause_6 : decode cX8_hasClause 6 = .ok (.invokestatic 109, 3) := by decide +kernel
theorem dX8_hasClause_9 : decode cX8_hasClause 9 = .ok (.iaload, 1) := by decide +kernel
theorem dX8_hasClause_10 : decode cX8_hasClause 10 = .ok (.ifCond .le 7, 3) := by decide +kernel
theorem dX8_hasClause_13 : decode cX8_hasClause 13 = .ok (.iconst 1, 1) := by decide +kernel
theorem dX8_hasClause_14 : decode cX8_hasClause 14 = .ok (.goto 4, 3) := by decide +kernel
theorem dX8_hasClause_17 : decode cX8_hasClause 17 = .ok (.iconst 0, 1) := by decide +kernel
theorem dX8_hasClause_18 : decode cX8_hasClause 18 = .ok (.ireturn, 1) := by decide +kernel
theorem dX8_has_0 : decode cX8_has 0 = .ok (.iload_n 1, 1) := by decide +kernel
theorem dX8_has_1 : decode cX8_has 1 = .ok (.invokestatic 101, 3) := by decide +kernel
theorem dX8_has_4 : decode cX8_has 4 = .ok (.ifCond .ne 5, 3) := by decide +kernel
theorem dX8_has_7 : decode cX8_has 7 = .ok (.iconst (-1), 1) := by decide +kernel
theorem dX8_has_8 : decode cX8_has 8 = .ok (.ireturn, 1) := by decide +kernel
theorem dX8_has_9 : decode cX8_has 9 = .ok (.iconst 0, 1) := by decide +kernel
theorem dX8_has_10 : decode cX8_has 10 = .ok (.istore_n 2, 1) := by decide +kernel
theorem dX8_has_11 : decode cX8_has 11 = .ok (.iconst 0, 1) := by decide +kernel
theorem dX8_has_12 : decode cX8_has 12 = .ok (.istore_n 3, 1) := by decide +kernel
theorem dX8_has_13 : decode cX8_has 13 = .ok (.iload_n 3, 1) := by decide +kernel
theorem dX8_has_14 : decode cX8_has 14 = .ok (.iconst 4, 1) := by decide +kernel
theorem dX8_has_15 : decode cX8_has 15 = .ok (.if_icmp .ge 28, 3) := by decide +kernel
theorem dX8_has_18 : decode cX8_has 18 = .ok (.iload_n 2, 1) := by decide +kernel
theorem dX8_has_19 : decode cX8_has 19 = .ok (.aload_n 0, 1) := by decide +kernel
theorem dX8_has_20 : decode cX8_has 20 = .ok (.iload_n 1, 1) := by decide +kernel
theorem dX8_has_21 : decode cX8_has 21 = .ok (.iload_n 3, 1) := by decide +kernel
theorem dX8_has_22 : decode cX8_has 22 = .ok (.invokevirtual 113, 3) := by decide +kernel
theorem dX8_has_25 : decode cX8_has 25 = .ok (.ifCond .eq 9, 3) := by decide +kernel
theorem dX8_has_28 : decode cX8_has 28 = .ok (.iconst 1, 1) := by decide +kernel
theorem dX8_has_29 : decode cX8_has 29 = .ok (.iload_n 3, 1) := by decide +kernel
theorem dX8_has_30 : decode cX8_has 30 = .ok (.ishl, 1) := by decide +kernel
theorem dX8_has_31 : decode cX8_has 31 = .ok (.goto 4, 3) := by decide +kernel
theorem dX8_has_34 : decode cX8_has 34 = .ok (.iconst 0, 1) := by decide +kernel
theorem dX8_has_35 : decode cX8_has 35 = .ok (.ior, 1) := by decide +kernel
theorem dX8_has_36 : decode cX8_has 36 = .ok (.istore_n 2, 1) := by decide +kernel
theorem dX8_has_37 : decode cX8_has 37 = .ok (.iinc 3 1, 3) := by decide +kernel
theorem dX8_has_40 : decode cX8_has 40 = .ok (.goto (-27), 3) := by decide +kernel
theorem dX8_has_43 : decode cX8_has 43 = .ok (.iload_n 2, 1) := by decide +kernel
theorem dX8_has_44 : decode cX8_has 44 = .ok (.ireturn, 1) := by decide +kernel
theorem dX8_reply_0 : decode cX8_reply 0 = .ok (.iload_n 1, 1) := by decide +kernel
theorem dX8_reply_1 : decode cX8_reply 1 = .ok (.iconst 0, 1) := by decide +kernel
theorem dX8_reply_2 : decode cX8_reply 2 = .ok (.bipush 7, 2) := by decide +kernel
theorem dX8_reply_4 : decode cX8_reply 4 = .ok (.invokestatic 85, 3) := by decide +kernel
theorem dX8_reply_7 : decode cX8_reply 7 = .ok (.ifCond .ne 6, 3) := by decide +kernel
theorem dX8_reply_10 : decode cX8_reply 10 = .ok (.bipush (-2), 2) := by decide +kernel
theorem dX8_reply_12 : decode cX8_reply 12 = .ok (.ireturn, 1) := by decide +kernel
theorem dX8_reply_13 : decode cX8_reply 13 = .ok (.aload_n 0, 1) := by decide +kernel
theorem dX8_reply_14 : decode cX8_reply 14 = .ok (.getfield 117, 3) := by decide +kernel
theorem dX8_reply_17 : decode cX8_reply 17 = .ok (.bipush 8, 2) := by decide +kernel
theorem dX8_reply_19 : decode cX8_reply 19 = .ok (.if_icmp .ne 6, 3) := by decide +kernel
theorem dX8_reply_22 : decode cX8_reply 22 = .ok (.bipush (-4), 2) := by decide +kernel
theorem dX8_reply_24 : decode cX8_reply 24 = .ok (.ireturn, 1) := by decide +kernel
theorem dX8_reply_25 : decode cX8_reply 25 = .ok (.aload_n 0, 1) := by decide +kernel
theorem dX8_reply_26 : decode cX8_reply 26 = .ok (.getfield 22, 3) := by decide +kernel
theorem dX8_reply_29 : decode cX8_reply 29 = .ok (.aload_n 0, 1) := by decide +kernel
theorem dX8_reply_30 : decode cX8_reply 30 = .ok (.getfield 117, 3) := by decide +kernel
theorem dX8_reply_33 : decode cX8_reply 33 = .ok (.iload_n 1, 1) := by decide +kernel
theorem dX8_reply_34 : decode cX8_reply 34 = .ok (.iastore, 1) := by decide +kernel
theorem dX8_reply_35 : decode cX8_reply 35 = .ok (.aload_n 0, 1) := by decide +kernel
theorem dX8_reply_36 : decode cX8_reply 36 = .ok (.dup, 1) := by decide +kernel
theorem dX8_reply_37 : decode cX8_reply 37 = .ok (.getfield 117, 3) := by decide +kernel
theorem dX8_reply_40 : decode cX8_reply 40 = .ok (.iconst 1, 1) := by decide +kernel
theorem dX8_reply_41 : decode cX8_reply 41 = .ok (.iadd, 1) := by decide +kernel
theorem dX8_reply_42 : decode cX8_reply 42 = .ok (.putfield 117, 3) := by decide +kernel
theorem dX8_reply_45 : decode cX8_reply 45 = .ok (.aload_n 0, 1) := by decide +kernel
theorem dX8_reply_46 : decode cX8_reply 46 = .ok (.getfield 117, 3) := by decide +kernel
theorem dX8_reply_49 : decode cX8_reply 49 = .ok (.ireturn, 1) := by decide +kernel
theorem dX8_mute_0 : decode cX8_mute 0 = .ok (.aload_n 0, 1) := by decide +kernel
theorem dX8_mute_1 : decode cX8_mute 1 = .ok (.getfield 117, 3) := by decide +kernel
theorem dX8_mute_4 : decode cX8_mute 4 = .ok (.istore_n 1, 1) := by decide +kernel
theorem dX8_mute_5 : decode cX8_mute 5 = .ok (.aload_n 0, 1) := by decide +kernel
theorem dX8_mute_6 : decode cX8_mute 6 = .ok (.iconst 0, 1) := by decide +kernel
theorem dX8_mute_7 : decode cX8_mute 7 = .ok (.putfield 117, 3) := by decide +kernel
theorem dX8_mute_10 : decode cX8_mute 10 = .ok (.iload_n 1, 1) := by decide +kernel
theorem dX8_mute_11 : decode cX8_mute 11 = .ok (.ireturn, 1) := by decide +kernel
theorem dX8_wait_0 : decode cX8_wait 0 = .ok (.aload_n 0, 1) := by decide +kernel
theorem dX8_wait_1 : decode cX8_wait 1 = .ok (.dup, 1) := by decide +kernel
theorem dX8_wait_2 : decode cX8_wait 2 = .ok (.getfield 120, 3) := by decide +kernel
theorem dX8_wait_5 : decode cX8_wait 5 = .ok (.iconst 1, 1) := by decide +kernel
theorem dX8_wait_6 : decode cX8_wait 6 = .ok (.iadd, 1) := by decide +kernel
theorem dX8_wait_7 : decode cX8_wait 7 = .ok (.putfield 120, 3) := by decide +kernel
theorem dX8_wait_10 : decode cX8_wait 10 = .ok (.aload_n 0, 1) := by decide +kernel
theorem dX8_wait_11 : decode cX8_wait 11 = .ok (.getfield 28, 3) := by decide +kernel
theorem dX8_wait_14 : decode cX8_wait 14 = .ok (.aload_n 0, 1) := by decide +kernel
theorem dX8_wait_15 : decode cX8_wait 15 = .ok (.getfield 120, 3) := by decide +kernel
theorem dX8_wait_18 : decode cX8_wait 18 = .ok (.iload_n 1, 1) := by decide +kernel
theorem dX8_wait_19 : decode cX8_wait 19 = .ok (.iastore, 1) := by decide +kernel
theorem dX8_wait_20 : decode cX8_wait 20 = .ok (.aload_n 0, 1) := by decide +kernel
theorem dX8_wait_21 : decode cX8_wait 21 = .ok (.getfield 31, 3) := by decide +kernel
theorem dX8_wait_24 : decode cX8_wait 24 = .ok (.aload_n 0, 1) := by decide +kernel
theorem dX8_wait_25 : decode cX8_wait 25 = .ok (.getfield 120, 3) := by decide +kernel
theorem dX8_wait_28 : decode cX8_wait 28 = .ok (.iload_n 2, 1) := by decide +kernel
theorem dX8_wait_29 : decode cX8_wait 29 = .ok (.iastore, 1) := by decide +kernel
theorem dX8_wait_30 : decode cX8_wait 30 = .ok (.aload_n 0, 1) := by decide +kernel
theorem dX8_wait_31 : decode cX8_wait 31 = .ok (.getfield 34, 3) := by decide +kernel
theorem dX8_wait_34 : decode cX8_wait 34 = .ok (.aload_n 0, 1) := by decide +kernel
theorem dX8_wait_35 : decode cX8_wait 35 = .ok (.getfield 120, 3) := by decide +kernel
theorem dX8_wait_38 : decode cX8_wait 38 = .ok (.iload_n 3, 1) := by decide +kernel
theorem dX8_wait_39 : decode cX8_wait 39 = .ok (.iastore, 1) := by decide +kernel
theorem dX8_wait_40 : decode cX8_wait 40 = .ok (.aload_n 0, 1) := by decide +kernel
theorem dX8_wait_41 : decode cX8_wait 41 = .ok (.getfield 37, 3) := by decide +kernel
theorem dX8_wait_44 : decode cX8_wait 44 = .ok (.aload_n 0, 1) := by decide +kernel
theorem dX8_wait_45 : decode cX8_wait 45 = .ok (.getfield 120, 3) := by decide +kernel
theorem dX8_wait_48 : decode cX8_wait 48 = .ok (.iload 4, 2) := by decide +kernel
theorem dX8_wait_50 : decode cX8_wait 50 = .ok (.iastore, 1) := by decide +kernel
theorem dX8_wait_51 : decode cX8_wait 51 = .ok (.aload_n 0, 1) := by decide +kernel
theorem dX8_wait_52 : decode cX8_wait 52 = .ok (.getfield 40, 3) := by decide +kernel
theorem dX8_wait_55 : decode cX8_wait 55 = .ok (.aload_n 0, 1) := by decide +kernel
theorem dX8_wait_56 : decode cX8_wait 56 = .ok (.getfield 120, 3) := by decide +kernel
theorem dX8_wait_59 : decode cX8_wait 59 = .ok (.iload 5, 2) := by decide +kernel
theorem dX8_wait_61 : decode cX8_wait 61 = .ok (.iastore, 1) := by decide +kernel
theorem dX8_wait_62 : decode cX8_wait 62 = .ok (.aload_n 0, 1) := by decide +kernel
theorem dX8_wait_63 : decode cX8_wait 63 = .ok (.getfield 43, 3) := by decide +kernel
theorem dX8_wait_66 : decode cX8_wait 66 = .ok (.aload_n 0, 1) := by decide +kernel
theorem dX8_wait_67 : decode cX8_wait 67 = .ok (.getfield 120, 3) := by decide +kernel
theorem dX8_wait_70 : decode cX8_wait 70 = .ok (.aload_n 0, 1) := by decide +kernel
theorem dX8_wait_71 : decode cX8_wait 71 = .ok (.getfield 123, 3) := by decide +kernel
theorem dX8_wait_74 : decode cX8_wait 74 = .ok (.iastore, 1) := by decide +kernel
theorem dX8_wait_75 : decode cX8_wait 75 = .ok (.aload_n 0, 1) := by decide +kernel
theorem dX8_wait_76 : decode cX8_wait 76 = .ok (.aload_n 0, 1) := by decide +kernel
theorem dX8_wait_77 : decode cX8_wait 77 = .ok (.getfield 120, 3) := by decide +kernel
theorem dX8_wait_80 : decode cX8_wait 80 = .ok (.putfield 123, 3) := by decide +kernel
theorem dX8_wait_83 : decode cX8_wait 83 = .ok (.return_, 1) := by decide +kernel
theorem dX8_lay_0 : decode cX8_lay 0 = .ok (.aload_n 0, 1) := by decide +kernel
theorem dX8_lay_1 : decode cX8_lay 1 = .ok (.dup, 1) := by decide +kernel
theorem dX8_lay_2 : decode cX8_lay 2 = .ok (.getfield 126, 3) := by decide +kernel
theorem dX8_lay_5 : decode cX8_lay 5 = .ok (.iconst 1, 1) := by decide +kernel
theorem dX8_lay_6 : decode cX8_lay 6 = .ok (.iadd, 1) := by decide +kernel
theorem dX8_lay_7 : decode cX8_lay 7 = .ok (.putfield 126, 3) := by decide +kernel
theorem dX8_lay_10 : decode cX8_lay 10 = .ok (.aload_n 0, 1) := by decide +kernel
theorem dX8_lay_11 : decode cX8_lay 11 = .ok (.getfield 46, 3) := by decide +kernel
theorem dX8_lay_14 : decode cX8_lay 14 = .ok (.aload_n 0, 1) := by decide +kernel
theorem dX8_lay_15 : decode cX8_lay 15 = .ok (.getfield 126, 3) := by decide +kernel
theorem dX8_lay_18 : decode cX8_lay 18 = .ok (.iload_n 1, 1) := by decide +kernel
theorem dX8_lay_19 : decode cX8_lay 19 = .ok (.iastore, 1) := by decide +kernel
theorem dX8_lay_20 : decode cX8_lay 20 = .ok (.aload_n 0, 1) := by decide +kernel
theorem dX8_lay_21 : decode cX8_lay 21 = .ok (.getfield 49, 3) := by decide +kernel
theorem dX8_lay_24 : decode cX8_lay 24 = .ok (.aload_n 0, 1) := by decide +kernel
theorem dX8_lay_25 : decode cX8_lay 25 = .ok (.getfield 126, 3) := by decide +kernel
theorem dX8_lay_28 : decode cX8_lay 28 = .ok (.iload_n 2, 1) := by decide +kernel
theorem dX8_lay_29 : decode cX8_lay 29 = .ok (.iastore, 1) := by decide +kernel
theorem dX8_lay_30 : decode cX8_lay 30 = .ok (.aload_n 0, 1) := by decide +kernel
theorem dX8_lay_31 : decode cX8_lay 31 = .ok (.getfield 52, 3) := by decide +kernel
theorem dX8_lay_34 : decode cX8_lay 34 = .ok (.aload_n 0, 1) := by decide +kernel
theorem dX8_lay_35 : decode cX8_lay 35 = .ok (.getfield 126, 3) := by decide +kernel
theorem dX8_lay_38 : decode cX8_lay 38 = .ok (.aload_n 0, 1) := by decide +kernel
theorem dX8_lay_39 : decode cX8_lay 39 = .ok (.getfield 129, 3) := by decide +kernel
theorem dX8_lay_42 : decode cX8_lay 42 = .ok (.iastore, 1) := by decide +kernel
theorem dX8_lay_43 : decode cX8_lay 43 = .ok (.aload_n 0, 1) := by decide +kernel
theorem dX8_lay_44 : decode cX8_lay 44 = .ok (.aload_n 0, 1) := by decide +kernel
theorem dX8_lay_45 : decode cX8_lay 45 = .ok (.getfield 126, 3) := by decide +kernel
theorem dX8_lay_48 : decode cX8_lay 48 = .ok (.putfield 129, 3) := by decide +kernel
theorem dX8_lay_51 : decode cX8_lay 51 = .ok (.return_, 1) := by decide +kernel
theorem dX8_act_0 : decode cX8_act 0 = .ok (.iload_n 0, 1) := by decide +kernel
theorem dX8_act_1 : decode cX8_act 1 = .ok (.bipush 43, 2) := by decide +kernel
theorem dX8_act_3 : decode cX8_act 3 = .ok (.if_icmp .ne 12, 3) := by decide +kernel
theorem dX8_act_6 : decode cX8_act 6 = .ok (.iload_n 1, 1) := by decide +kernel
theorem dX8_act_7 : decode cX8_act 7 = .ok (.iload_n 2, 1) := by decide +kernel
theorem dX8_act_8 : decode cX8_act 8 = .ok (.iadd, 1) := by decide +kernel
theorem dX8_act_9 : decode cX8_act 9 = .ok (.bipush 8, 2) := by decide +kernel
theorem dX8_act_11 : decode cX8_act 11 = .ok (.irem, 1) := by decide +kernel
theorem dX8_act_12 : decode cX8_act 12 = .ok (.goto 46, 3) := by decide +kernel
theorem dX8_act_15 : decode cX8_act 15 = .ok (.iload_n 0, 1) := by decide +kernel
theorem dX8_act_16 : decode cX8_act 16 = .ok (.bipush 45, 2) := by decide +kernel
theorem dX8_act_18 : decode cX8_act 18 = .ok (.if_icmp .ne 15, 3) := by decide +kernel
theorem dX8_act_21 : decode cX8_act 21 = .ok (.iload_n 1, 1) := by decide +kernel
theorem dX8_act_22 : decode cX8_act 22 = .ok (.bipush 8, 2) := by decide +kernel
theorem dX8_act_24 : decode cX8_act 24 = .ok (.iadd, 1) := by decide +kernel
theorem dX8_act_25 : decode cX8_act 25 = .ok (.iload_n 2, 1) := by decide +kernel
theorem dX8_act_26 : decode cX8_act 26 = .ok (.isub, 1) := by decide +kernel
theorem dX8_act_27 : decode cX8_act 27 = .ok (.bipush 8, 2) := by decide +kernel
theorem dX8_act_29 : decode cX8_act 29 = .ok (.irem, 1) := by decide +kernel
theorem dX8_act_30 : decode cX8_act 30 = .ok (.goto 28, 3) := by decide +kernel
theorem dX8_act_33 : decode cX8_act 33 = .ok (.iload_n 0, 1) := by decide +kernel
theorem dX8_act_34 : decode cX8_act 34 = .ok (.bipush 42, 2) := by decide +kernel
theorem dX8_act_36 : decode cX8_act 36 = .ok (.if_icmp .ne 12, 3) := by decide +kernel
theorem dX8_act_39 : decode cX8_act 39 = .ok (.iload_n 1, 1) := by decide +kernel
theorem dX8_act_40 : decode cX8_act 40 = .ok (.iload_n 2, 1) := by decide +kernel
theorem dX8_act_41 : decode cX8_act 41 = .ok (.imul, 1) := by decide +kernel
theorem dX8_act_42 : decode cX8_act 42 = .ok (.bipush 8, 2) := by decide +kernel
theorem dX8_act_44 : decode cX8_act 44 = .ok (.irem, 1) := by decide +kernel
theorem dX8_act_45 : decode cX8_act 45 = .ok (.goto 13, 3) := by decide +kernel
theorem dX8_act_48 : decode cX8_act 48 = .ok (.iload_n 1, 1) := by decide +kernel
theorem dX8_act_49 : decode cX8_act 49 = .ok (.iload_n 2, 1) := by decide +kernel
theorem dX8_act_50 : decode cX8_act 50 = .ok (.if_icmp .ge 7, 3) := by decide +kernel
theorem dX8_act_53 : decode cX8_act 53 = .ok (.iload_n 1, 1) := by decide +kernel
theorem dX8_act_54 : decode cX8_act 54 = .ok (.goto 4, 3) := by decide +kernel
theorem dX8_act_57 : decode cX8_act 57 = .ok (.iload_n 2, 1) := by decide +kernel
theorem dX8_act_58 : decode cX8_act 58 = .ok (.ireturn, 1) := by decide +kernel
theorem dX8_partOf_0 : decode cX8_partOf 0 = .ok (.iload_n 1, 1) := by decide +kernel
theorem dX8_partOf_1 : decode cX8_partOf 1 = .ok (.aload_n 0, 1) := by decide +kernel
theorem dX8_partOf_2 : decode cX8_partOf 2 = .ok (.getfield 16, 3) := by decide +kernel
theorem dX8_partOf_5 : decode cX8_partOf 5 = .ok (.iload_n 1, 1) := by decide +kernel
theorem dX8_partOf_6 : decode cX8_partOf 6 = .ok (.iaload, 1) := by decide +kernel
theorem dX8_partOf_7 : decode cX8_partOf 7 = .ok (.bipush 64, 2) := by decide +kernel
theorem dX8_partOf_9 : decode cX8_partOf 9 = .ok (.if_icmp .ne 7, 3) := by decide +kernel
theorem dX8_partOf_12 : decode cX8_partOf 12 = .ok (.iconst 2, 1) := by decide +kernel
theorem dX8_partOf_13 : decode cX8_partOf 13 = .ok (.goto 4, 3) := by decide +kernel
theorem dX8_partOf_16 : decode cX8_partOf 16 = .ok (.iconst 1, 1) := by decide +kernel
theorem dX8_partOf_17 : decode cX8_partOf 17 = .ok (.iadd, 1) := by decide +kernel
theorem dX8_partOf_18 : decode cX8_partOf 18 = .ok (.istore_n 3, 1) := by decide +kernel
theorem dX8_partOf_19 : decode cX8_partOf 19 = .ok (.iconst 0, 1) := by decide +kernel
theorem dX8_partOf_20 : decode cX8_partOf 20 = .ok (.istore 4, 2) := by decide +kernel
theorem dX8_partOf_22 : decode cX8_partOf 22 = .ok (.iload 4, 2) := by decide +kernel
theorem dX8_partOf_24 : decode cX8_partOf 24 = .ok (.iload_n 2, 1) := by decide +kernel
theorem dX8_partOf_25 : decode cX8_partOf 25 = .ok (.if_icmp .ge 18, 3) := by decide +kernel
theorem dX8_partOf_28 : decode cX8_partOf 28 = .ok (.iload_n 3, 1) := by decide +kernel
theorem dX8_partOf_29 : decode cX8_partOf 29 = .ok (.aload_n 0, 1) := by decide +kernel
theorem dX8_partOf_30 : decode cX8_partOf 30 = .ok (.getfield 19, 3) := by decide +kernel
theorem dX8_partOf_33 : decode cX8_partOf 33 = .ok (.iload_n 3, 1) := by decide +kernel
theorem dX8_partOf_34 : decode cX8_partOf 34 = .ok (.iaload, 1) := by decide +kernel
theorem dX8_partOf_35 : decode cX8_partOf 35 = .ok (.iadd, 1) := by decide +kernel
theorem dX8_partOf_36 : decode cX8_partOf 36 = .ok (.istore_n 3, 1) := by decide +kernel
theorem dX8_partOf_37 : decode cX8_partOf 37 = .ok (.iinc 4 1, 3) := by decide +kernel
theorem dX8_partOf_40 : decode cX8_partOf 40 = .ok (.goto (-18), 3) := by decide +kernel
theorem dX8_partOf_43 : decode cX8_partOf 43 = .ok (.iload_n 3, 1) := by decide +kernel
theorem dX8_partOf_44 : decode cX8_partOf 44 = .ok (.ireturn, 1) := by decide +kernel
theorem dX8_end_0 : decode cX8_end 0 = .ok (.aload_n 0, 1) := by decide +kernel
theorem dX8_end_1 : decode cX8_end 1 = .ok (.iconst 0, 1) := by decide +kernel
theorem dX8_end_2 : decode cX8_end 2 = .ok (.putfield 120, 3) := by decide +kernel
theorem dX8_end_5 : decode cX8_end 5 = .ok (.aload_n 0, 1) := by decide +kernel
theorem dX8_end_6 : decode cX8_end 6 = .ok (.iconst 0, 1) := by decide +kernel
theorem dX8_end_7 : decode cX8_end 7 = .ok (.putfield 126, 3) := by decide +kernel
theorem dX8_end_10 : decode cX8_end 10 = .ok (.aload_n 0, 1) := by decide +kernel
theorem dX8_end_11 : decode cX8_end 11 = .ok (.iconst 0, 1) := by decide +kernel
theorem dX8_end_12 : decode cX8_end 12 = .ok (.putfield 132, 3) := by decide +kernel
theorem dX8_end_15 : decode cX8_end 15 = .ok (.aload_n 0, 1) := by decide +kernel
theorem dX8_end_16 : decode cX8_end 16 = .ok (.iconst 0, 1) := by decide +kernel
theorem dX8_end_17 : decode cX8_end 17 = .ok (.putfield 135, 3) := by decide +kernel
theorem dX8_end_20 : decode cX8_end 20 = .ok (.aload_n 0, 1) := by decide +kernel
theorem dX8_end_21 : decode cX8_end 21 = .ok (.iconst 0, 1) := by decide +kernel
theorem dX8_end_22 : decode cX8_end 22 = .ok (.putfield 138, 3) := by decide +kernel
theorem dX8_end_25 : decode cX8_end 25 = .ok (.aload_n 0, 1) := by decide +kernel
theorem dX8_end_26 : decode cX8_end 26 = .ok (.iconst 0, 1) := by decide +kernel
theorem dX8_end_27 : decode cX8_end 27 = .ok (.putfield 141, 3) := by decide +kernel
theorem dX8_end_30 : decode cX8_end 30 = .ok (.aload_n 0, 1) := by decide +kernel
theorem dX8_end_31 : decode cX8_end 31 = .ok (.iconst 0, 1) := by decide +kernel
theorem dX8_end_32 : decode cX8_end 32 = .ok (.putfield 144, 3) := by decide +kernel
theorem dX8_end_35 : decode cX8_end 35 = .ok (.aload_n 0, 1) := by decide +kernel
theorem dX8_end_36 : decode cX8_end 36 = .ok (.bipush (-6), 2) := by decide +kernel
theorem dX8_end_38 : decode cX8_end 38 = .ok (.putfield 147, 3) := by decide +kernel
theorem dX8_end_41 : decode cX8_end 41 = .ok (.aload_n 0, 1) := by decide +kernel
theorem dX8_end_42 : decode cX8_end 42 = .ok (.bipush (-6), 2) := by decide +kernel
theorem dX8_end_44 : decode cX8_end 44 = .ok (.putfield 150, 3) := by decide +kernel
theorem dX8_end_47 : decode cX8_end 47 = .ok (.aload_n 0, 1) := by decide +kernel
theorem dX8_end_48 : decode cX8_end 48 = .ok (.iconst 0, 1) := by decide +kernel
theorem dX8_end_49 : decode cX8_end 49 = .ok (.putfield 123, 3) := by decide +kernel
theorem dX8_end_52 : decode cX8_end 52 = .ok (.aload_n 0, 1) := by decide +kernel
theorem dX8_end_53 : decode cX8_end 53 = .ok (.iconst 0, 1) := by decide +kernel
theorem dX8_end_54 : decode cX8_end 54 = .ok (.putfield 129, 3) := by decide +kernel
theorem dX8_end_57 : decode cX8_end 57 = .ok (.aload_n 0, 1) := by decide +kernel
theorem dX8_end_58 : decode cX8_end 58 = .ok (.bipush 40, 2) := by decide +kernel
theorem dX8_end_60 : decode cX8_end 60 = .ok (.iload_n 1, 1) := by decide +kernel
theorem dX8_end_61 : decode cX8_end 61 = .ok (.imul, 1) := by decide +kernel
theorem dX8_end_62 : decode cX8_end 62 = .ok (.putfield 153, 3) := by decide +kernel
theorem dX8_end_65 : decode cX8_end 65 = .ok (.aload_n 0, 1) := by decide +kernel
theorem dX8_end_66 : decode cX8_end 66 = .ok (.iload_n 2, 1) := by decide +kernel
theorem dX8_end_67 : decode cX8_end 67 = .ok (.putfield 156, 3) := by decide +kernel
theorem dX8_end_70 : decode cX8_end 70 = .ok (.aload_n 0, 1) := by decide +kernel
theorem dX8_end_71 : decode cX8_end 71 = .ok (.iconst 0, 1) := by decide +kernel
theorem dX8_end_72 : decode cX8_end 72 = .ok (.putfield 159, 3) := by decide +kernel
theorem dX8_end_75 : decode cX8_end 75 = .ok (.aload_n 0, 1) := by decide +kernel
theorem dX8_end_76 : decode cX8_end 76 = .ok (.bipush (-6), 2) := by decide +kernel
theorem dX8_end_78 : decode cX8_end 78 = .ok (.putfield 162, 3) := by decide +kernel
theorem dX8_end_81 : decode cX8_end 81 = .ok (.aload_n 0, 1) := by decide +kernel
theorem dX8_end_82 : decode cX8_end 82 = .ok (.bipush (-6), 2) := by decide +kernel
theorem dX8_end_84 : decode cX8_end 84 = .ok (.putfield 165, 3) := by decide +kernel
theorem dX8_end_87 : decode cX8_end 87 = .ok (.aload_n 0, 1) := by decide +kernel
theorem dX8_end_88 : decode cX8_end 88 = .ok (.getfield 165, 3) := by decide +kernel
theorem dX8_end_91 : decode cX8_end 91 = .ok (.ifCond .ge 38, 3) := by decide +kernel
theorem dX8_end_94 : decode cX8_end 94 = .ok (.aload_n 0, 1) := by decide +kernel
theorem dX8_end_95 : decode cX8_end 95 = .ok (.getfield 162, 3) := by decide +kernel
theorem dX8_end_98 : decode cX8_end 98 = .ok (.ifCond .ge 10, 3) := by decide +kernel
theorem dX8_end_101 : decode cX8_end 101 = .ok (.aload_n 0, 1) := by decide +kernel
theorem dX8_end_102 : decode cX8_end 102 = .ok (.invokevirtual 168, 3) := by decide +kernel
theorem dX8_end_105 : decode cX8_end 105 = .ok (.goto (-18), 3) := by decide +kernel
theorem dX8_end_108 : decode cX8_end 108 = .ok (.aload_n 0, 1) := by decide +kernel
theorem dX8_end_109 : decode cX8_end 109 = .ok (.getfield 123, 3) := by decide +kernel
theorem dX8_end_112 : decode cX8_end 112 = .ok (.ifCond .ne 10, 3) := by decide +kernel
theorem dX8_end_115 : decode cX8_end 115 = .ok (.aload_n 0, 1) := by decide +kernel
theorem dX8_end_116 : decode cX8_end 116 = .ok (.invokevirtual 171, 3) := by decide +kernel
theorem dX8_end_119 : decode cX8_end 119 = .ok (.goto (-32), 3) := by decide +kernel
theorem dX8_end_122 : decode cX8_end 122 = .ok (.aload_n 0, 1) := by decide +kernel
theorem dX8_end_123 : decode cX8_end 123 = .ok (.invokevirtual 174, 3) := by decide +kernel
theorem dX8_end_126 : decode cX8_end 126 = .ok (.goto (-39), 3) := by decide +kernel
theorem dX8_end_129 : decode cX8_end 129 = .ok (.aload_n 0, 1) := by decide +kernel
theorem dX8_end_130 : decode cX8_end 130 = .ok (.getfield 165, 3) := by decide +kernel
theorem dX8_end_133 : decode cX8_end 133 = .ok (.ireturn, 1) := by decide +kernel
theorem dX8_begin_0 : decode cX8_begin 0 = .ok (.aload_n 0, 1) := by decide +kernel
theorem dX8_begin_1 : decode cX8_begin 1 = .ok (.getfield 135, 3) := by decide +kernel
theorem dX8_begin_4 : decode cX8_begin 4 = .ok (.sipush 200, 3) := by decide +kernel
theorem dX8_begin_7 : decode cX8_begin 7 = .ok (.if_icmp .ne 10, 3) := by decide +kernel
theorem dX8_begin_10 : decode cX8_begin 10 = .ok (.aload_n 0, 1) := by decide +kernel
theorem dX8_begin_11 : decode cX8_begin 11 = .ok (.bipush 9, 2) := by decide +kernel
theorem dX8_begin_13 : decode cX8_begin 13 = .ok (.putfield 165, 3) := by decide +kernel
theorem dX8_begin_16 : decode cX8_begin 16 = .ok (.return_, 1) := by decide +kernel
theorem dX8_begin_17 : decode cX8_begin 17 = .ok (.aload_n 0, 1) := by decide +kernel
theorem dX8_begin_18 : decode cX8_begin 18 = .ok (.dup, 1) := by decide +kernel
theorem dX8_begin_19 : decode cX8_begin 19 = .ok (.getfield 135, 3) := by decide +kernel
theorem dX8_begin_22 : decode cX8_begin 22 = .ok (.iconst 1, 1) := by decide +kernel
theorem dX8_begin_23 : decode cX8_begin 23 = .ok (.iadd, 1) := by decide +kernel
theorem dX8_begin_24 : decode cX8_begin 24 = .ok (.putfield 135, 3) := by decide +kernel
theorem dX8_begin_27 : decode cX8_begin 27 = .ok (.aload_n 0, 1) := by decide +kernel
theorem dX8_begin_28 : decode cX8_begin 28 = .ok (.getfield 16, 3) := by decide +kernel
theorem dX8_begin_31 : decode cX8_begin 31 = .ok (.aload_n 0, 1) := by decide +kernel
theorem dX8_begin_32 : decode cX8_begin 32 = .ok (.getfield 153, 3) := by decide +kernel
theorem dX8_begin_35 : decode cX8_begin 35 = .ok (.iaload, 1) := by decide +kernel
theorem dX8_begin_36 : decode cX8_begin 36 = .ok (.istore_n 1, 1) := by decide +kernel
theorem dX8_begin_37 : decode cX8_begin 37 = .ok (.iload_n 1, 1) := by decide +kernel
theorem dX8_begin_38 : decode cX8_begin 38 = .ok (.bipush 48, 2) := by decide +kernel
theorem dX8_begin_40 : decode cX8_begin 40 = .ok (.bipush 55, 2) := by decide +kernel
theorem dX8_begin_42 : decode cX8_begin 42 = .ok (.invokestatic 85, 3) := by decide +kernel
theorem dX8_begin_45 : decode cX8_begin 45 = .ok (.ifCond .eq 14, 3) := by decide +kernel
theorem dX8_begin_48 : decode cX8_begin 48 = .ok (.aload_n 0, 1) := by decide +kernel
theorem dX8_begin_49 : decode cX8_begin 49 = .ok (.iload_n 1, 1) := by decide +kernel
theorem dX8_begin_50 : decode cX8_begin 50 = .ok (.bipush 48, 2) := by decide +kernel
theorem dX8_begin_52 : decode cX8_begin 52 = .ok (.isub, 1) := by decide +kernel
theorem dX8_begin_53 : decode cX8_begin 53 = .ok (.putfield 162, 3) := by decide +kernel
theorem dX8_begin_56 : decode cX8_begin 56 = .ok (.goto 94, 3) := by decide +kernel
theorem dX8_begin_59 : decode cX8_begin 59 = .ok (.iload_n 1, 1) := by decide +kernel
theorem dX8_begin_60 : decode cX8_begin 60 = .ok (.bipush 120, 2) := by decide +kernel
theorem dX8_begin_62 : decode cX8_begin 62 = .ok (.if_icmp .ne 14, 3) := by decide +kernel
theorem dX8_begin_65 : decode cX8_begin 65 = .ok (.aload_n 0, 1) := by decide +kernel
theorem dX8_begin_66 : decode cX8_begin 66 = .ok (.aload_n 0, 1) := by decide +kernel
theorem dX8_begin_67 : decode cX8_begin 67 = .ok (.getfield 156, 3) := by decide +kernel
theorem dX8_begin_70 : decode cX8_begin 70 = .ok (.putfield 162, 3) := by decide +kernel
theorem dX8_begin_73 : decode cX8_begin 73 = .ok (.goto 77, 3) := by decide +kernel
theorem dX8_begin_76 : decode cX8_begin 76 = .ok (.iload_n 1, 1) := by decide +kernel
theorem dX8_begin_77 : decode cX8_begin 77 = .ok (.bipush 64, 2) := by decide +kernel
theorem dX8_begin_79 : decode cX8_begin 79 = .ok (.if_icmp .ne 43, 3) := by decide +kernel
theorem dX8_begin_82 : decode cX8_begin 82 = .ok (.aload_n 0, 1) := by decide +kernel
theorem dX8_begin_83 : decode cX8_begin 83 = .ok (.aload_n 0, 1) := by decide +kernel
theorem dX8_begin_84 : decode cX8_begin 84 = .ok (.getfield 16, 3) := by decide +kernel
theorem dX8_begin_87 : decode cX8_begin 87 = .ok (.aload_n 0, 1) := by decide +kernel
theorem dX8_begin_88 : decode cX8_begin 88 = .ok (.getfield 153, 3) := by decide +kernel
theorem dX8_begin_91 : decode cX8_begin 91 = .ok (.iconst 1, 1) := by decide +kernel
theorem dX8_begin_92 : decode cX8_begin 92 = .ok (.iadd, 1) := by decide +kernel
theorem dX8_begin_93 : decode cX8_begin 93 = .ok (.iaload, 1) := by decide +kernel
theorem dX8_begin_94 : decode cX8_begin 94 = .ok (.bipush 48, 2) := by decide +kernel
theorem dX8_begin_96 : decode cX8_begin 96 = .ok (.isub, 1) := by decide +kernel
theorem dX8_begin_97 : decode cX8_begin 97 = .ok (.aload_n 0, 1) := by decide +kernel
theorem dX8_begin_98 : decode cX8_begin 98 = .ok (.getfield 123, 3) := by decide +kernel
theorem dX8_begin_101 : decode cX8_begin 101 = .ok (.invokevirtual 177, 3) := by decide +kernel
theorem dX8_begin_104 : decode cX8_begin 104 = .ok (.aload_n 0, 1) := by decide +kernel
theorem dX8_begin_105 : decode cX8_begin 105 = .ok (.iconst 0, 1) := by decide +kernel
theorem dX8_begin_106 : decode cX8_begin 106 = .ok (.putfield 123, 3) := by decide +kernel
theorem dX8_begin_109 : decode cX8_begin 109 = .ok (.aload_n 0, 1) := by decide +kernel
theorem dX8_begin_110 : decode cX8_begin 110 = .ok (.dup, 1) := by decide +kernel
theorem dX8_begin_111 : decode cX8_begin 111 = .ok (.getfield 153, 3) := by decide +kernel
theorem dX8_begin_114 : decode cX8_begin 114 = .ok (.iconst 2, 1) := by decide +kernel
theorem dX8_begin_115 : decode cX8_begin 115 = .ok (.iadd, 1) := by decide +kernel
theorem dX8_begin_116 : decode cX8_begin 116 = .ok (.putfield 153, 3) := by decide +kernel
theorem dX8_begin_119 : decode cX8_begin 119 = .ok (.goto 31, 3) := by decide +kernel
theorem dX8_begin_122 : decode cX8_begin 122 = .ok (.aload_n 0, 1) := by decide +kernel
theorem dX8_begin_123 : decode cX8_begin 123 = .ok (.aload_n 0, 1) := by decide +kernel
theorem dX8_begin_124 : decode cX8_begin 124 = .ok (.getfield 153, 3) := by decide +kernel
theorem dX8_begin_127 : decode cX8_begin 127 = .ok (.iconst 0, 1) := by decide +kernel
theorem dX8_begin_128 : decode cX8_begin 128 = .ok (.aload_n 0, 1) := by decide +kernel
theorem dX8_begin_129 : decode cX8_begin 129 = .ok (.getfield 156, 3) := by decide +kernel
theorem dX8_begin_132 : decode cX8_begin 132 = .ok (.aload_n 0, 1) := by decide +kernel
theorem dX8_begin_133 : decode cX8_begin 133 = .ok (.getfield 159, 3) := by decide +kernel
theorem dX8_begin_136 : decode cX8_begin 136 = .ok (.iconst 0, 1) := by decide +kernel
theorem dX8_begin_137 : decode cX8_begin 137 = .ok (.invokevirtual 181, 3) := by decide +kernel
theorem dX8_begin_140 : decode cX8_begin 140 = .ok (.aload_n 0, 1) := by decide +kernel
theorem dX8_begin_141 : decode cX8_begin 141 = .ok (.dup, 1) := by decide +kernel
theorem dX8_begin_142 : decode cX8_begin 142 = .ok (.getfield 153, 3) := by decide +kernel
theorem dX8_begin_145 : decode cX8_begin 145 = .ok (.iconst 1, 1) := by decide +kernel
theorem dX8_begin_146 : decode cX8_begin 146 = .ok (.iadd, 1) := by decide +kernel
theorem dX8_begin_147 : decode cX8_begin 147 = .ok (.putfield 153, 3) := by decide +kernel
theorem dX8_begin_150 : decode cX8_begin 150 = .ok (.return_, 1) := by decide +kernel
theorem dX8_work_0 : decode cX8_work 0 = .ok (.aload_n 0, 1) := by decide +kernel
theorem dX8_work_1 : decode cX8_work 1 = .ok (.bipush 40, 2) := by decide +kernel
theorem dX8_work_3 : decode cX8_work 3 = .ok (.iload_n 1, 1) := by decide +kernel
theorem dX8_work_4 : decode cX8_work 4 = .ok (.imul, 1) := by decide +kernel
theorem dX8_work_5 : decode cX8_work 5 = .ok (.putfield 153, 3) := by decide +kernel
theorem dX8_work_8 : decode cX8_work 8 = .ok (.aload_n 0, 1) := by decide +kernel
theorem dX8_work_9 : decode cX8_work 9 = .ok (.iload_n 2, 1) := by decide +kernel
theorem dX8_work_10 : decode cX8_work 10 = .ok (.putfield 156, 3) := by decide +kernel
theorem dX8_work_13 : decode cX8_work 13 = .ok (.aload_n 0, 1) := by decide +kernel
theorem dX8_work_14 : decode cX8_work 14 = .ok (.iload_n 3, 1) := by decide +kernel
theorem dX8_work_15 : decode cX8_work 15 = .ok (.putfield 159, 3) := by decide +kernel
theorem dX8_work_18 : decode cX8_work 18 = .ok (.aload_n 0, 1) := by decide +kernel
theorem dX8_work_19 : decode cX8_work 19 = .ok (.bipush (-6), 2) := by decide +kernel
theorem dX8_work_21 : decode cX8_work 21 = .ok (.putfield 162, 3) := by decide +kernel
theorem dX8_work_24 : decode cX8_work 24 = .ok (.return_, 1) := by decide +kernel
theorem dX8_leave_0 : decode cX8_leave 0 = .ok (.aload_n 0, 1) := by decide +kernel
theorem dX8_leave_1 : decode cX8_leave 1 = .ok (.getfield 129, 3) := by decide +kernel
theorem dX8_leave_4 : decode cX8_leave 4 = .ok (.ifCond .ne 12, 3) := by decide +kernel
theorem dX8_leave_7 : decode cX8_leave 7 = .ok (.aload_n 0, 1) := by decide +kernel
theorem dX8_leave_8 : decode cX8_leave 8 = .ok (.aload_n 0, 1) := by decide +kernel
theorem dX8_leave_9 : decode cX8_leave 9 = .ok (.getfield 162, 3) := by decide +kernel
theorem dX8_leave_12 : decode cX8_leave 12 = .ok (.putfield 165, 3) := by decide +kernel
theorem dX8_leave_15 : decode cX8_leave 15 = .ok (.return_, 1) := by decide +kernel
theorem dX8_leave_16 : decode cX8_leave 16 = .ok (.aload_n 0, 1) := by decide +kernel
theorem dX8_leave_17 : decode cX8_leave 17 = .ok (.getfield 46, 3) := by decide +kernel
theorem dX8_leave_20 : decode cX8_leave 20 = .ok (.aload_n 0, 1) := by decide +kernel
theorem dX8_leave_21 : decode cX8_leave 21 = .ok (.getfield 129, 3) := by decide +kernel
theorem dX8_leave_24 : decode cX8_leave 24 = .ok (.iaload, 1) := by decide +kernel
theorem dX8_leave_25 : decode cX8_leave 25 = .ok (.istore_n 1, 1) := by decide +kernel
theorem dX8_leave_26 : decode cX8_leave 26 = .ok (.aload_n 0, 1) := by decide +kernel
theorem dX8_leave_27 : decode cX8_leave 27 = .ok (.aload_n 0, 1) := by decide +kernel
theorem dX8_leave_28 : decode cX8_leave 28 = .ok (.getfield 49, 3) := by decide +kernel
theorem dX8_leave_31 : decode cX8_leave 31 = .ok (.aload_n 0, 1) := by decide +kernel
theorem dX8_leave_32 : decode cX8_leave 32 = .ok (.getfield 129, 3) := by decide +kernel
theorem dX8_leave_35 : decode cX8_leave 35 = .ok (.iaload, 1) := by decide +kernel
theorem dX8_leave_36 : decode cX8_leave 36 = .ok (.putfield 123, 3) := by decide +kernel
theorem dX8_leave_39 : decode cX8_leave 39 = .ok (.aload_n 0, 1) := by decide +kernel
theorem dX8_leave_40 : decode cX8_leave 40 = .ok (.aload_n 0, 1) := by decide +kernel
theorem dX8_leave_41 : decode cX8_leave 41 = .ok (.getfield 52, 3) := by decide +kernel
theorem dX8_leave_44 : decode cX8_leave 44 = .ok (.aload_n 0, 1) := by decide +kernel
theorem dX8_leave_45 : decode cX8_leave 45 = .ok (.getfield 129, 3) := by decide +kernel
theorem dX8_leave_48 : decode cX8_leave 48 = .ok (.iaload, 1) := by decide +kernel
theorem dX8_leave_49 : decode cX8_leave 49 = .ok (.putfield 129, 3) := by decide +kernel
theorem dX8_leave_52 : decode cX8_leave 52 = .ok (.aload_n 0, 1) := by decide +kernel
theorem dX8_leave_53 : decode cX8_leave 53 = .ok (.iload_n 1, 1) := by decide +kernel
theorem dX8_leave_54 : decode cX8_leave 54 = .ok (.iconst 3, 1) := by decide +kernel
theorem dX8_leave_55 : decode cX8_leave 55 = .ok (.invokevirtual 113, 3) := by decide +kernel
theorem dX8_leave_58 : decode cX8_leave 58 = .ok (.ifCond .eq 17, 3) := by decide +kernel
theorem dX8_leave_61 : decode cX8_leave 61 = .ok (.aload_n 0, 1) := by decide +kernel
theorem dX8_leave_62 : decode cX8_leave 62 = .ok (.iload_n 1, 1) := by decide +kernel
theorem dX8_leave_63 : decode cX8_leave 63 = .ok (.iconst 3, 1) := by decide +kernel
theorem dX8_leave_64 : decode cX8_leave 64 = .ok (.invokestatic 109, 3) := by decide +kernel
theorem dX8_leave_67 : decode cX8_leave 67 = .ok (.aload_n 0, 1) := by decide +kernel
theorem dX8_leave_68 : decode cX8_leave 68 = .ok (.getfield 162, 3) := by decide +kernel
theorem dX8_leave_71 : decode cX8_leave 71 = .ok (.iconst 0, 1) := by decide +kernel
theorem dX8_leave_72 : decode cX8_leave 72 = .ok (.invokevirtual 185, 3) := by decide +kernel
theorem dX8_leave_75 : decode cX8_leave 75 = .ok (.return_, 1) := by decide +kernel
theorem dX8_come_0 : decode cX8_come 0 = .ok (.aload_n 0, 1) := by decide +kernel
theorem dX8_come_1 : decode cX8_come 1 = .ok (.getfield 123, 3) := by decide +kernel
theorem dX8_come_4 : decode cX8_come 4 = .ok (.istore_n 1, 1) := by decide +kernel
theorem dX8_come_5 : decode cX8_come 5 = .ok (.aload_n 0, 1) := by decide +kernel
theorem dX8_come_6 : decode cX8_come 6 = .ok (.getfield 28, 3) := by decide +kernel
theorem dX8_come_9 : decode cX8_come 9 = .ok (.iload_n 1, 1) := by decide +kernel
theorem dX8_come_10 : decode cX8_come 10 = .ok (.iaload, 1) := by decide +kernel
theorem dX8_come_11 : decode cX8_come 11 = .ok (.istore_n 2, 1) := by decide +kernel
theorem dX8_come_12 : decode cX8_come 12 = .ok (.aload_n 0, 1) := by decide +kernel
theorem dX8_come_13 : decode cX8_come 13 = .ok (.getfield 16, 3) := by decide +kernel
theorem dX8_come_16 : decode cX8_come 16 = .ok (.iload_n 2, 1) := by decide +kernel
theorem dX8_come_17 : decode cX8_come 17 = .ok (.iaload, 1) := by decide +kernel
theorem dX8_come_18 : decode cX8_come 18 = .ok (.istore_n 3, 1) := by decide +kernel
theorem dX8_come_19 : decode cX8_come 19 = .ok (.aload_n 0, 1) := by decide +kernel
theorem dX8_come_20 : decode cX8_come 20 = .ok (.aload_n 0, 1) := by decide +kernel
theorem dX8_come_21 : decode cX8_come 21 = .ok (.getfield 43, 3) := by decide +kernel
theorem dX8_come_24 : decode cX8_come 24 = .ok (.iload_n 1, 1) := by decide +kernel
theorem dX8_come_25 : decode cX8_come 25 = .ok (.iaload, 1) := by decide +kernel
theorem dX8_come_26 : decode cX8_come 26 = .ok (.putfield 123, 3) := by decide +kernel
theorem dX8_come_29 : decode cX8_come 29 = .ok (.aload_n 0, 1) := by decide +kernel
theorem dX8_come_30 : decode cX8_come 30 = .ok (.aload_n 0, 1) := by decide +kernel
theorem dX8_come_31 : decode cX8_come 31 = .ok (.getfield 34, 3) := by decide +kernel
theorem dX8_come_34 : decode cX8_come 34 = .ok (.iload_n 1, 1) := by decide +kernel
theorem dX8_come_35 : decode cX8_come 35 = .ok (.iaload, 1) := by decide +kernel
theorem dX8_come_36 : decode cX8_come 36 = .ok (.putfield 156, 3) := by decide +kernel
theorem dX8_come_39 : decode cX8_come 39 = .ok (.aload_n 0, 1) := by decide +kernel
theorem dX8_come_40 : decode cX8_come 40 = .ok (.aload_n 0, 1) := by decide +kernel
theorem dX8_come_41 : decode cX8_come 41 = .ok (.getfield 37, 3) := by decide +kernel
theorem dX8_come_44 : decode cX8_come 44 = .ok (.iload_n 1, 1) := by decide +kernel
theorem dX8_come_45 : decode cX8_come 45 = .ok (.iaload, 1) := by decide +kernel
theorem dX8_come_46 : decode cX8_come 46 = .ok (.putfield 159, 3) := by decide +kernel
theorem dX8_come_49 : decode cX8_come 49 = .ok (.iload_n 3, 1) := by decide +kernel
theorem dX8_come_50 : decode cX8_come 50 = .ok (.bipush 63, 2) := by decide +kernel
theorem dX8_come_52 : decode cX8_come 52 = .ok (.if_icmp .ne 33, 3) := by decide +kernel
theorem dX8_come_55 : decode cX8_come 55 = .ok (.aload_n 0, 1) := by decide +kernel
theorem dX8_come_56 : decode cX8_come 56 = .ok (.aload_n 0, 1) := by decide +kernel
theorem dX8_come_57 : decode cX8_come 57 = .ok (.iload_n 2, 1) := by decide +kernel
theorem dX8_come_58 : decode cX8_come 58 = .ok (.aload_n 0, 1) := by decide +kernel
theorem dX8_come_59 : decode cX8_come 59 = .ok (.getfield 162, 3) := by decide +kernel
theorem dX8_come_62 : decode cX8_come 62 = .ok (.ifCond .ne 7, 3) := by decide +kernel
theorem dX8_come_65 : decode cX8_come 65 = .ok (.iconst 1, 1) := by decide +kernel
theorem dX8_come_66 : decode cX8_come 66 = .ok (.goto 4, 3) := by decide +kernel
theorem dX8_come_69 : decode cX8_come 69 = .ok (.iconst 2, 1) := by decide +kernel
theorem dX8_come_70 : decode cX8_come 70 = .ok (.invokevirtual 189, 3) := by decide +kernel
theorem dX8_come_73 : decode cX8_come 73 = .ok (.putfield 153, 3) := by decide +kernel
theorem dX8_come_76 : decode cX8_come 76 = .ok (.aload_n 0, 1) := by decide +kernel
theorem dX8_come_77 : decode cX8_come 77 = .ok (.bipush (-6), 2) := by decide +kernel
theorem dX8_come_79 : decode cX8_come 79 = .ok (.putfield 162, 3) := by decide +kernel
theorem dX8_come_82 : decode cX8_come 82 = .ok (.goto 147, 3) := by decide +kernel
theorem dX8_come_85 : decode cX8_come 85 = .ok (.iload_n 3, 1) := by decide +kernel
theorem dX8_come_86 : decode cX8_come 86 = .ok (.bipush 107, 2) := by decide +kernel
theorem dX8_come_88 : decode cX8_come 88 = .ok (.if_icmp .ne 48, 3) := by decide +kernel
theorem dX8_come_91 : decode cX8_come 91 = .ok (.aload_n 0, 1) := by decide +kernel
theorem dX8_come_92 : decode cX8_come 92 = .ok (.dup, 1) := by decide +kernel
theorem dX8_come_93 : decode cX8_come 93 = .ok (.getfield 138, 3) := by decide +kernel
theorem dX8_come_96 : decode cX8_come 96 = .ok (.iconst 1, 1) := by decide +kernel
theorem dX8_come_97 : decode cX8_come 97 = .ok (.iadd, 1) := by decide +kernel
theorem dX8_come_98 : decode cX8_come 98 = .ok (.putfield 138, 3) := by decide +kernel
theorem dX8_come_101 : decode cX8_come 101 = .ok (.aload_n 0, 1) := by decide +kernel
theorem dX8_come_102 : decode cX8_come 102 = .ok (.getfield 138, 3) := by decide +kernel
theorem dX8_come_105 : decode cX8_come 105 = .ok (.bipush 40, 2) := by decide +kernel
theorem dX8_come_107 : decode cX8_come 107 = .ok (.if_icmp .le 18, 3) := by decide +kernel
theorem dX8_come_110 : decode cX8_come 110 = .ok (.aload_n 0, 1) := by decide +kernel
theorem dX8_come_111 : decode cX8_come 111 = .ok (.bipush 40, 2) := by decide +kernel
theorem dX8_come_113 : decode cX8_come 113 = .ok (.putfield 138, 3) := by decide +kernel
theorem dX8_come_116 : decode cX8_come 116 = .ok (.aload_n 0, 1) := by decide +kernel
theorem dX8_come_117 : decode cX8_come 117 = .ok (.bipush 9, 2) := by decide +kernel
theorem dX8_come_119 : decode cX8_come 119 = .ok (.putfield 165, 3) := by decide +kernel
theorem dX8_come_122 : decode cX8_come 122 = .ok (.goto 107, 3) := by decide +kernel
theorem dX8_come_125 : decode cX8_come 125 = .ok (.aload_n 0, 1) := by decide +kernel
theorem dX8_come_126 : decode cX8_come 126 = .ok (.aload_n 0, 1) := by decide +kernel
theorem dX8_come_127 : decode cX8_come 127 = .ok (.getfield 159, 3) := by decide +kernel
theorem dX8_come_130 : decode cX8_come 130 = .ok (.invokevirtual 192, 3) := by decide +kernel
theorem dX8_come_133 : decode cX8_come 133 = .ok (.goto 96, 3) := by decide +kernel
theorem dX8_come_136 : decode cX8_come 136 = .ok (.iload_n 3, 1) := by decide +kernel
theorem dX8_come_137 : decode cX8_come 137 = .ok (.bipush 112, 2) := by decide +kernel
theorem dX8_come_139 : decode cX8_come 139 = .ok (.if_icmp .eq 15, 3) := by decide +kernel
theorem dX8_come_142 : decode cX8_come 142 = .ok (.iload_n 3, 1) := by decide +kernel
theorem dX8_come_143 : decode cX8_come 143 = .ok (.bipush 113, 2) := by decide +kernel
theorem dX8_come_145 : decode cX8_come 145 = .ok (.if_icmp .eq 9, 3) := by decide +kernel
theorem dX8_come_148 : decode cX8_come 148 = .ok (.iload_n 3, 1) := by decide +kernel
theorem dX8_come_149 : decode cX8_come 149 = .ok (.bipush 114, 2) := by decide +kernel
theorem dX8_come_151 : decode cX8_come 151 = .ok (.if_icmp .ne 14, 3) := by decide +kernel
theorem dX8_come_154 : decode cX8_come 154 = .ok (.aload_n 0, 1) := by decide +kernel
theorem dX8_come_155 : decode cX8_come 155 = .ok (.iload_n 3, 1) := by decide +kernel
theorem dX8_come_156 : decode cX8_come 156 = .ok (.bipush 112, 2) := by decide +kernel
theorem dX8_come_158 : decode cX8_come 158 = .ok (.isub, 1) := by decide +kernel
theorem dX8_come_159 : decode cX8_come 159 = .ok (.invokevirtual 196, 3) := by decide +kernel
theorem dX8_come_162 : decode cX8_come 162 = .ok (.goto 67, 3) := by decide +kernel
theorem dX8_come_165 : decode cX8_come 165 = .ok (.aload_n 0, 1) := by decide +kernel
theorem dX8_come_166 : decode cX8_come 166 = .ok (.getfield 31, 3) := by decide +kernel
theorem dX8_come_169 : decode cX8_come 169 = .ok (.iload_n 1, 1) := by decide +kernel
theorem dX8_come_170 : decode cX8_come 170 = .ok (.iaload, 1) := by decide +kernel
theorem dX8_come_171 : decode cX8_come 171 = .ok (.ifCond .ne 40, 3) := by decide +kernel
theorem dX8_come_174 : decode cX8_come 174 = .ok (.aload_n 0, 1) := by decide +kernel
theorem dX8_come_175 : decode cX8_come 175 = .ok (.iload_n 2, 1) := by decide +kernel
theorem dX8_come_176 : decode cX8_come 176 = .ok (.iconst 1, 1) := by decide +kernel
theorem dX8_come_177 : decode cX8_come 177 = .ok (.aload_n 0, 1) := by decide +kernel
theorem dX8_come_178 : decode cX8_come 178 = .ok (.getfield 156, 3) := by decide +kernel
theorem dX8_come_181 : decode cX8_come 181 = .ok (.aload_n 0, 1) := by decide +kernel
theorem dX8_come_182 : decode cX8_come 182 = .ok (.getfield 159, 3) := by decide +kernel
theorem dX8_come_185 : decode cX8_come 185 = .ok (.aload_n 0, 1) := by decide +kernel
theorem dX8_come_186 : decode cX8_come 186 = .ok (.getfield 162, 3) := by decide +kernel
theorem dX8_come_189 : decode cX8_come 189 = .ok (.invokevirtual 181, 3) := by decide +kernel
theorem dX8_come_192 : decode cX8_come 192 = .ok (.aload_n 0, 1) := by decide +kernel
theorem dX8_come_193 : decode cX8_come 193 = .ok (.aload_n 0, 1) := by decide +kernel
theorem dX8_come_194 : decode cX8_come 194 = .ok (.iload_n 2, 1) := by decide +kernel
theorem dX8_come_195 : decode cX8_come 195 = .ok (.iconst 1, 1) := by decide +kernel
theorem dX8_come_196 : decode cX8_come 196 = .ok (.invokevirtual 189, 3) := by decide +kernel
theorem dX8_come_199 : decode cX8_come 199 = .ok (.putfield 153, 3) := by decide +kernel
theorem dX8_come_202 : decode cX8_come 202 = .ok (.aload_n 0, 1) := by decide +kernel
theorem dX8_come_203 : decode cX8_come 203 = .ok (.bipush (-6), 2) := by decide +kernel
theorem dX8_come_205 : decode cX8_come 205 = .ok (.putfield 162, 3) := by decide +kernel
theorem dX8_come_208 : decode cX8_come 208 = .ok (.goto 21, 3) := by decide +kernel
theorem dX8_come_211 : decode cX8_come 211 = .ok (.aload_n 0, 1) := by decide +kernel
theorem dX8_come_212 : decode cX8_come 212 = .ok (.iload_n 3, 1) := by decide +kernel
theorem dX8_come_213 : decode cX8_come 213 = .ok (.aload_n 0, 1) := by decide +kernel
theorem dX8_come_214 : decode cX8_come 214 = .ok (.getfield 40, 3) := by decide +kernel
theorem dX8_come_217 : decode cX8_come 217 = .ok (.iload_n 1, 1) := by decide +kernel
theorem dX8_come_218 : decode cX8_come 218 = .ok (.iaload, 1) := by decide +kernel
theorem dX8_come_219 : decode cX8_come 219 = .ok (.aload_n 0, 1) := by decide +kernel
theorem dX8_come_220 : decode cX8_come 220 = .ok (.getfield 162, 3) := by decide +kernel
theorem dX8_come_223 : decode cX8_come 223 = .ok (.invokestatic 199, 3) := by decide +kernel
theorem dX8_come_226 : decode cX8_come 226 = .ok (.putfield 162, 3) := by decide +kernel
theorem dX8_come_229 : decode cX8_come 229 = .ok (.return_, 1) := by decide +kernel
theorem dX8_ask_0 : decode cX8_ask 0 = .ok (.aload_n 0, 1) := by decide +kernel
theorem dX8_ask_1 : decode cX8_ask 1 = .ok (.getfield 129, 3) := by decide +kernel
theorem dX8_ask_4 : decode cX8_ask 4 = .ok (.istore_n 2, 1) := by decide +kernel
theorem dX8_ask_5 : decode cX8_ask 5 = .ok (.iload_n 2, 1) := by decide +kernel
theorem dX8_ask_6 : decode cX8_ask 6 = .ok (.ifCond .le 27, 3) := by decide +kernel
theorem dX8_ask_9 : decode cX8_ask 9 = .ok (.aload_n 0, 1) := by decide +kernel
theorem dX8_ask_10 : decode cX8_ask 10 = .ok (.aload_n 0, 1) := by decide +kernel
theorem dX8_ask_11 : decode cX8_ask 11 = .ok (.getfield 46, 3) := by decide +kernel
theorem dX8_ask_14 : decode cX8_ask 14 = .ok (.iload_n 2, 1) := by decide +kernel
theorem dX8_ask_15 : decode cX8_ask 15 = .ok (.iaload, 1) := by decide +kernel
theorem dX8_ask_16 : decode cX8_ask 16 = .ok (.iload_n 1, 1) := by decide +kernel
theorem dX8_ask_17 : decode cX8_ask 17 = .ok (.invokevirtual 113, 3) := by decide +kernel
theorem dX8_ask_20 : decode cX8_ask 20 = .ok (.ifCond .ne 13, 3) := by decide +kernel
theorem dX8_ask_23 : decode cX8_ask 23 = .ok (.aload_n 0, 1) := by decide +kernel
theorem dX8_ask_24 : decode cX8_ask 24 = .ok (.getfield 52, 3) := by decide +kernel
theorem dX8_ask_27 : decode cX8_ask 27 = .ok (.iload_n 2, 1) := by decide +kernel
theorem dX8_ask_28 : decode cX8_ask 28 = .ok (.iaload, 1) := by decide +kernel
theorem dX8_ask_29 : decode cX8_ask 29 = .ok (.istore_n 2, 1) := by decide +kernel
theorem dX8_ask_30 : decode cX8_ask 30 = .ok (.goto (-25), 3) := by decide +kernel
theorem dX8_ask_33 : decode cX8_ask 33 = .ok (.aload_n 0, 1) := by decide +kernel
theorem dX8_ask_34 : decode cX8_ask 34 = .ok (.getfield 64, 3) := by decide +kernel
theorem dX8_ask_37 : decode cX8_ask 37 = .ok (.aload_n 0, 1) := by decide +kernel
theorem dX8_ask_38 : decode cX8_ask 38 = .ok (.getfield 144, 3) := by decide +kernel
theorem dX8_ask_41 : decode cX8_ask 41 = .ok (.bipush 100, 2) := by decide +kernel
theorem dX8_ask_43 : decode cX8_ask 43 = .ok (.iload_n 1, 1) := by decide +kernel
theorem dX8_ask_44 : decode cX8_ask 44 = .ok (.imul, 1) := by decide +kernel
theorem dX8_ask_45 : decode cX8_ask 45 = .ok (.bipush 10, 2) := by decide +kernel
theorem dX8_ask_47 : decode cX8_ask 47 = .ok (.aload_n 0, 1) := by decide +kernel
theorem dX8_ask_48 : decode cX8_ask 48 = .ok (.getfield 162, 3) := by decide +kernel
theorem dX8_ask_51 : decode cX8_ask 51 = .ok (.imul, 1) := by decide +kernel
theorem dX8_ask_52 : decode cX8_ask 52 = .ok (.iadd, 1) := by decide +kernel
theorem dX8_ask_53 : decode cX8_ask 53 = .ok (.iload_n 2, 1) := by decide +kernel
theorem dX8_ask_54 : decode cX8_ask 54 = .ok (.ifCond .le 12, 3) := by decide +kernel
theorem dX8_ask_57 : decode cX8_ask 57 = .ok (.aload_n 0, 1) := by decide +kernel
theorem dX8_ask_58 : decode cX8_ask 58 = .ok (.getfield 46, 3) := by decide +kernel
theorem dX8_ask_61 : decode cX8_ask 61 = .ok (.iload_n 2, 1) := by decide +kernel
theorem dX8_ask_62 : decode cX8_ask 62 = .ok (.iaload, 1) := by decide +kernel
theorem dX8_ask_63 : decode cX8_ask 63 = .ok (.goto 5, 3) := by decide +kernel
theorem dX8_ask_66 : decode cX8_ask 66 = .ok (.bipush 9, 2) := by decide +kernel
theorem dX8_ask_68 : decode cX8_ask 68 = .ok (.iadd, 1) := by decide +kernel
theorem dX8_ask_69 : decode cX8_ask 69 = .ok (.iastore, 1) := by decide +kernel
theorem dX8_ask_70 : decode cX8_ask 70 = .ok (.aload_n 0, 1) := by decide +kernel
theorem dX8_ask_71 : decode cX8_ask 71 = .ok (.dup, 1) := by decide +kernel
theorem dX8_ask_72 : decode cX8_ask 72 = .ok (.getfield 144, 3) := by decide +kernel
theorem dX8_ask_75 : decode cX8_ask 75 = .ok (.iconst 1, 1) := by decide +kernel
theorem dX8_ask_76 : decode cX8_ask 76 = .ok (.iadd, 1) := by decide +kernel
theorem dX8_ask_77 : decode cX8_ask 77 = .ok (.putfield 144, 3) := by decide +kernel
theorem dX8_ask_80 : decode cX8_ask 80 = .ok (.iload_n 2, 1) := by decide +kernel
theorem dX8_ask_81 : decode cX8_ask 81 = .ok (.ifCond .le 94, 3) := by decide +kernel
theorem dX8_ask_84 : decode cX8_ask 84 = .ok (.aload_n 0, 1) := by decide +kernel
theorem dX8_ask_85 : decode cX8_ask 85 = .ok (.dup, 1) := by decide +kernel
theorem dX8_ask_86 : decode cX8_ask 86 = .ok (.getfield 132, 3) := by decide +kernel
theorem dX8_ask_89 : decode cX8_ask 89 = .ok (.iconst 1, 1) := by decide +kernel
theorem dX8_ask_90 : decode cX8_ask 90 = .ok (.iadd, 1) := by decide +kernel
theorem dX8_ask_91 : decode cX8_ask 91 = .ok (.putfield 132, 3) := by decide +kernel
theorem dX8_ask_94 : decode cX8_ask 94 = .ok (.aload_n 0, 1) := by decide +kernel
theorem dX8_ask_95 : decode cX8_ask 95 = .ok (.getfield 55, 3) := by decide +kernel
theorem dX8_ask_98 : decode cX8_ask 98 = .ok (.aload_n 0, 1) := by decide +kernel
theorem dX8_ask_99 : decode cX8_ask 99 = .ok (.getfield 132, 3) := by decide +kernel
theorem dX8_ask_102 : decode cX8_ask 102 = .ok (.aload_n 0, 1) := by decide +kernel
theorem dX8_ask_103 : decode cX8_ask 103 = .ok (.getfield 123, 3) := by decide +kernel
theorem dX8_ask_106 : decode cX8_ask 106 = .ok (.iastore, 1) := by decide +kernel
theorem dX8_ask_107 : decode cX8_ask 107 = .ok (.aload_n 0, 1) := by decide +kernel
theorem dX8_ask_108 : decode cX8_ask 108 = .ok (.getfield 58, 3) := by decide +kernel
theorem dX8_ask_111 : decode cX8_ask 111 = .ok (.aload_n 0, 1) := by decide +kernel
theorem dX8_ask_112 : decode cX8_ask 112 = .ok (.getfield 132, 3) := by decide +kernel
theorem dX8_ask_115 : decode cX8_ask 115 = .ok (.aload_n 0, 1) := by decide +kernel
theorem dX8_ask_116 : decode cX8_ask 116 = .ok (.getfield 129, 3) := by decide +kernel
theorem dX8_ask_119 : decode cX8_ask 119 = .ok (.iastore, 1) := by decide +kernel
theorem dX8_ask_120 : decode cX8_ask 120 = .ok (.aload_n 0, 1) := by decide +kernel
theorem dX8_ask_121 : decode cX8_ask 121 = .ok (.getfield 61, 3) := by decide +kernel
theorem dX8_ask_124 : decode cX8_ask 124 = .ok (.aload_n 0, 1) := by decide +kernel
theorem dX8_ask_125 : decode cX8_ask 125 = .ok (.getfield 132, 3) := by decide +kernel
theorem dX8_ask_128 : decode cX8_ask 128 = .ok (.iload_n 2, 1) := by decide +kernel
theorem dX8_ask_129 : decode cX8_ask 129 = .ok (.iastore, 1) := by decide +kernel
theorem dX8_ask_130 : decode cX8_ask 130 = .ok (.aload_n 0, 1) := by decide +kernel
theorem dX8_ask_131 : decode cX8_ask 131 = .ok (.aload_n 0, 1) := by decide +kernel
theorem dX8_ask_132 : decode cX8_ask 132 = .ok (.getfield 49, 3) := by decide +kernel
theorem dX8_ask_135 : decode cX8_ask 135 = .ok (.iload_n 2, 1) := by decide +kernel
theorem dX8_ask_136 : decode cX8_ask 136 = .ok (.iaload, 1) := by decide +kernel
theorem dX8_ask_137 : decode cX8_ask 137 = .ok (.putfield 123, 3) := by decide +kernel
theorem dX8_ask_140 : decode cX8_ask 140 = .ok (.aload_n 0, 1) := by decide +kernel
theorem dX8_ask_141 : decode cX8_ask 141 = .ok (.aload_n 0, 1) := by decide +kernel
theorem dX8_ask_142 : decode cX8_ask 142 = .ok (.getfield 52, 3) := by decide +kernel
theorem dX8_ask_145 : decode cX8_ask 145 = .ok (.iload_n 2, 1) := by decide +kernel
theorem dX8_ask_146 : decode cX8_ask 146 = .ok (.iaload, 1) := by decide +kernel
theorem dX8_ask_147 : decode cX8_ask 147 = .ok (.putfield 129, 3) := by decide +kernel
theorem dX8_ask_150 : decode cX8_ask 150 = .ok (.aload_n 0, 1) := by decide +kernel
theorem dX8_ask_151 : decode cX8_ask 151 = .ok (.aload_n 0, 1) := by decide +kernel
theorem dX8_ask_152 : decode cX8_ask 152 = .ok (.getfield 46, 3) := by decide +kernel
theorem dX8_ask_155 : decode cX8_ask 155 = .ok (.iload_n 2, 1) := by decide +kernel
theorem dX8_ask_156 : decode cX8_ask 156 = .ok (.iaload, 1) := by decide +kernel
theorem dX8_ask_157 : decode cX8_ask 157 = .ok (.iload_n 1, 1) := by decide +kernel
theorem dX8_ask_158 : decode cX8_ask 158 = .ok (.invokestatic 109, 3) := by decide +kernel
theorem dX8_ask_161 : decode cX8_ask 161 = .ok (.aload_n 0, 1) := by decide +kernel
theorem dX8_ask_162 : decode cX8_ask 162 = .ok (.getfield 162, 3) := by decide +kernel
theorem dX8_ask_165 : decode cX8_ask 165 = .ok (.aload_n 0, 1) := by decide +kernel
theorem dX8_ask_166 : decode cX8_ask 166 = .ok (.getfield 132, 3) := by decide +kernel
theorem dX8_ask_169 : decode cX8_ask 169 = .ok (.invokevirtual 185, 3) := by decide +kernel
theorem dX8_ask_172 : decode cX8_ask 172 = .ok (.goto 59, 3) := by decide +kernel
theorem dX8_ask_175 : decode cX8_ask 175 = .ok (.aload_n 0, 1) := by decide +kernel
theorem dX8_ask_176 : decode cX8_ask 176 = .ok (.getfield 141, 3) := by decide +kernel
theorem dX8_ask_179 : decode cX8_ask 179 = .ok (.aload_n 0, 1) := by decide +kernel
theorem dX8_ask_180 : decode cX8_ask 180 = .ok (.getfield 203, 3) := by decide +kernel
theorem dX8_ask_183 : decode cX8_ask 183 = .ok (.if_icmp .ne 25, 3) := by decide +kernel
theorem dX8_ask_186 : decode cX8_ask 186 = .ok (.aload_n 0, 1) := by decide +kernel
theorem dX8_ask_187 : decode cX8_ask 187 = .ok (.iload_n 1, 1) := by decide +kernel
theorem dX8_ask_188 : decode cX8_ask 188 = .ok (.putfield 147, 3) := by decide +kernel
theorem dX8_ask_191 : decode cX8_ask 191 = .ok (.aload_n 0, 1) := by decide +kernel
theorem dX8_ask_192 : decode cX8_ask 192 = .ok (.aload_n 0, 1) := by decide +kernel
theorem dX8_ask_193 : decode cX8_ask 193 = .ok (.getfield 162, 3) := by decide +kernel
theorem dX8_ask_196 : decode cX8_ask 196 = .ok (.putfield 150, 3) := by decide +kernel
theorem dX8_ask_199 : decode cX8_ask 199 = .ok (.aload_n 0, 1) := by decide +kernel
theorem dX8_ask_200 : decode cX8_ask 200 = .ok (.bipush 8, 2) := by decide +kernel
theorem dX8_ask_202 : decode cX8_ask 202 = .ok (.putfield 165, 3) := by decide +kernel
theorem dX8_ask_205 : decode cX8_ask 205 = .ok (.goto 26, 3) := by decide +kernel
theorem dX8_ask_208 : decode cX8_ask 208 = .ok (.aload_n 0, 1) := by decide +kernel
theorem dX8_ask_209 : decode cX8_ask 209 = .ok (.aload_n 0, 1) := by decide +kernel
theorem dX8_ask_210 : decode cX8_ask 210 = .ok (.getfield 67, 3) := by decide +kernel
theorem dX8_ask_213 : decode cX8_ask 213 = .ok (.aload_n 0, 1) := by decide +kernel
theorem dX8_ask_214 : decode cX8_ask 214 = .ok (.getfield 141, 3) := by decide +kernel
theorem dX8_ask_217 : decode cX8_ask 217 = .ok (.iaload, 1) := by decide +kernel
theorem dX8_ask_218 : decode cX8_ask 218 = .ok (.putfield 162, 3) := by decide +kernel
theorem dX8_ask_221 : decode cX8_ask 221 = .ok (.aload_n 0, 1) := by decide +kernel
theorem dX8_ask_222 : decode cX8_ask 222 = .ok (.dup, 1) := by decide +kernel
theorem dX8_ask_223 : decode cX8_ask 223 = .ok (.getfield 141, 3) := by decide +kernel
theorem dX8_ask_226 : decode cX8_ask 226 = .ok (.iconst 1, 1) := by decide +kernel
theorem dX8_ask_227 : decode cX8_ask 227 = .ok (.iadd, 1) := by decide +kernel
theorem dX8_ask_228 : decode cX8_ask 228 = .ok (.putfield 141, 3) := by decide +kernel
theorem dX8_ask_231 : decode cX8_ask 231 = .ok (.return_, 1) := by decide +kernel
theorem dX8_goOn_0 : decode cX8_goOn 0 = .ok (.iconst 0, 1) := by decide +kernel
theorem dX8_goOn_1 : decode cX8_goOn 1 = .ok (.istore_n 2, 1) := by decide +kernel
theorem dX8_goOn_2 : decode cX8_goOn 2 = .ok (.aload_n 0, 1) := by decide +kernel
theorem dX8_goOn_3 : decode cX8_goOn 3 = .ok (.getfield 58, 3) := by decide +kernel
theorem dX8_goOn_6 : decode cX8_goOn 6 = .ok (.iload_n 1, 1) := by decide +kernel
theorem dX8_goOn_7 : decode cX8_goOn 7 = .ok (.iaload, 1) := by decide +kernel
theorem dX8_goOn_8 : decode cX8_goOn 8 = .ok (.istore_n 3, 1) := by decide +kernel
theorem dX8_goOn_9 : decode cX8_goOn 9 = .ok (.iload_n 3, 1) := by decide +kernel
theorem dX8_goOn_10 : decode cX8_goOn 10 = .ok (.aload_n 0, 1) := by decide +kernel
theorem dX8_goOn_11 : decode cX8_goOn 11 = .ok (.getfield 61, 3) := by decide +kernel
theorem dX8_goOn_14 : decode cX8_goOn 14 = .ok (.iload_n 1, 1) := by decide +kernel
theorem dX8_goOn_15 : decode cX8_goOn 15 = .ok (.iaload, 1) := by decide +kernel
theorem dX8_goOn_16 : decode cX8_goOn 16 = .ok (.if_icmp .eq 23, 3) := by decide +kernel
theorem dX8_goOn_19 : decode cX8_goOn 19 = .ok (.aload_n 0, 1) := by decide +kernel
theorem dX8_goOn_20 : decode cX8_goOn 20 = .ok (.getfield 70, 3) := by decide +kernel
theorem dX8_goOn_23 : decode cX8_goOn 23 = .ok (.iload_n 2, 1) := by decide +kernel
theorem dX8_goOn_24 : decode cX8_goOn 24 = .ok (.iload_n 3, 1) := by decide +kernel
theorem dX8_goOn_25 : decode cX8_goOn 25 = .ok (.iastore, 1) := by decide +kernel
theorem dX8_goOn_26 : decode cX8_goOn 26 = .ok (.iinc 2 1, 3) := by decide +kernel
theorem dX8_goOn_29 : decode cX8_goOn 29 = .ok (.aload_n 0, 1) := by decide +kernel
theorem dX8_goOn_30 : decode cX8_goOn 30 = .ok (.getfield 52, 3) := by decide +kernel
theorem dX8_goOn_33 : decode cX8_goOn 33 = .ok (.iload_n 3, 1) := by decide +kernel
theorem dX8_goOn_34 : decode cX8_goOn 34 = .ok (.iaload, 1) := by decide +kernel
theorem dX8_goOn_35 : decode cX8_goOn 35 = .ok (.istore_n 3, 1) := by decide +kernel
theorem dX8_goOn_36 : decode cX8_goOn 36 = .ok (.goto (-27), 3) := by decide +kernel
theorem dX8_goOn_39 : decode cX8_goOn 39 = .ok (.aload_n 0, 1) := by decide +kernel
theorem dX8_goOn_40 : decode cX8_goOn 40 = .ok (.aload_n 0, 1) := by decide +kernel
theorem dX8_goOn_41 : decode cX8_goOn 41 = .ok (.getfield 46, 3) := by decide +kernel
theorem dX8_goOn_44 : decode cX8_goOn 44 = .ok (.aload_n 0, 1) := by decide +kernel
theorem dX8_goOn_45 : decode cX8_goOn 45 = .ok (.getfield 61, 3) := by decide +kernel
theorem dX8_goOn_48 : decode cX8_goOn 48 = .ok (.iload_n 1, 1) := by decide +kernel
theorem dX8_goOn_49 : decode cX8_goOn 49 = .ok (.iaload, 1) := by decide +kernel
theorem dX8_goOn_50 : decode cX8_goOn 50 = .ok (.iaload, 1) := by decide +kernel
theorem dX8_goOn_51 : decode cX8_goOn 51 = .ok (.aload_n 0, 1) := by decide +kernel
theorem dX8_goOn_52 : decode cX8_goOn 52 = .ok (.getfield 123, 3) := by decide +kernel
theorem dX8_goOn_55 : decode cX8_goOn 55 = .ok (.invokevirtual 177, 3) := by decide +kernel
theorem dX8_goOn_58 : decode cX8_goOn 58 = .ok (.iload_n 2, 1) := by decide +kernel
theorem dX8_goOn_59 : decode cX8_goOn 59 = .ok (.iconst 1, 1) := by decide +kernel
theorem dX8_goOn_60 : decode cX8_goOn 60 = .ok (.isub, 1) := by decide +kernel
theorem dX8_goOn_61 : decode cX8_goOn 61 = .ok (.istore_n 3, 1) := by decide +kernel
theorem dX8_goOn_62 : decode cX8_goOn 62 = .ok (.iload_n 3, 1) := by decide +kernel
theorem dX8_goOn_63 : decode cX8_goOn 63 = .ok (.ifCond .lt 35, 3) := by decide +kernel
theorem dX8_goOn_66 : decode cX8_goOn 66 = .ok (.aload_n 0, 1) := by decide +kernel
theorem dX8_goOn_67 : decode cX8_goOn 67 = .ok (.aload_n 0, 1) := by decide +kernel
theorem dX8_goOn_68 : decode cX8_goOn 68 = .ok (.getfield 46, 3) := by decide +kernel
theorem dX8_goOn_71 : decode cX8_goOn 71 = .ok (.aload_n 0, 1) := by decide +kernel
theorem dX8_goOn_72 : decode cX8_goOn 72 = .ok (.getfield 70, 3) := by decide +kernel
theorem dX8_goOn_75 : decode cX8_goOn 75 = .ok (.iload_n 3, 1) := by decide +kernel
theorem dX8_goOn_76 : decode cX8_goOn 76 = .ok (.iaload, 1) := by decide +kernel
theorem dX8_goOn_77 : decode cX8_goOn 77 = .ok (.iaload, 1) := by decide +kernel
theorem dX8_goOn_78 : decode cX8_goOn 78 = .ok (.aload_n 0, 1) := by decide +kernel
theorem dX8_goOn_79 : decode cX8_goOn 79 = .ok (.getfield 49, 3) := by decide +kernel
theorem dX8_goOn_82 : decode cX8_goOn 82 = .ok (.aload_n 0, 1) := by decide +kernel
theorem dX8_goOn_83 : decode cX8_goOn 83 = .ok (.getfield 70, 3) := by decide +kernel
theorem dX8_goOn_86 : decode cX8_goOn 86 = .ok (.iload_n 3, 1) := by decide +kernel
theorem dX8_goOn_87 : decode cX8_goOn 87 = .ok (.iaload, 1) := by decide +kernel
theorem dX8_goOn_88 : decode cX8_goOn 88 = .ok (.iaload, 1) := by decide +kernel
theorem dX8_goOn_89 : decode cX8_goOn 89 = .ok (.invokevirtual 177, 3) := by decide +kernel
theorem dX8_goOn_92 : decode cX8_goOn 92 = .ok (.iinc 3 (-1), 3) := by decide +kernel
theorem dX8_goOn_95 : decode cX8_goOn 95 = .ok (.goto (-33), 3) := by decide +kernel
theorem dX8_goOn_98 : decode cX8_goOn 98 = .ok (.aload_n 0, 1) := by decide +kernel
theorem dX8_goOn_99 : decode cX8_goOn 99 = .ok (.aload_n 0, 1) := by decide +kernel
theorem dX8_goOn_100 : decode cX8_goOn 100 = .ok (.getfield 55, 3) := by decide +kernel
theorem dX8_goOn_103 : decode cX8_goOn 103 = .ok (.iload_n 1, 1) := by decide +kernel
theorem dX8_goOn_104 : decode cX8_goOn 104 = .ok (.iaload, 1) := by decide +kernel
theorem dX8_goOn_105 : decode cX8_goOn 105 = .ok (.putfield 123, 3) := by decide +kernel
theorem dX8_goOn_108 : decode cX8_goOn 108 = .ok (.return_, 1) := by decide +kernel
theorem dX8_giveReplies_0 : decode cX8_giveReplies 0 = .ok (.aload_n 0, 1) := by decide +kernel
theorem dX8_giveReplies_1 : decode cX8_giveReplies 1 = .ok (.aload_n 0, 1) := by decide +kernel
theorem dX8_giveReplies_2 : decode cX8_giveReplies 2 = .ok (.getfield 117, 3) := by decide +kernel
theorem dX8_giveReplies_5 : decode cX8_giveReplies 5 = .ok (.putfield 203, 3) := by decide +kernel
theorem dX8_giveReplies_8 : decode cX8_giveReplies 8 = .ok (.iconst 0, 1) := by decide +kernel
theorem dX8_giveReplies_9 : decode cX8_giveReplies 9 = .ok (.istore_n 1, 1) := by decide +kernel
theorem dX8_giveReplies_10 : decode cX8_giveReplies 10 = .ok (.iload_n 1, 1) := by decide +kernel
theorem dX8_giveReplies_11 : decode cX8_giveReplies 11 = .ok (.aload_n 0, 1) := by decide +kernel
theorem dX8_giveReplies_12 : decode cX8_giveReplies 12 = .ok (.getfield 117, 3) := by decide +kernel
theorem dX8_giveReplies_15 : decode cX8_giveReplies 15 = .ok (.if_icmp .ge 21, 3) := by decide +kernel
theorem dX8_giveReplies_18 : decode cX8_giveReplies 18 = .ok (.aload_n 0, 1) := by decide +kernel
theorem dX8_giveReplies_19 : decode cX8_giveReplies 19 = .ok (.getfield 67, 3) := by decide +kernel
theorem dX8_giveReplies_22 : decode cX8_giveReplies 22 = .ok (.iload_n 1, 1) := by decide +kernel
theorem dX8_giveReplies_23 : decode cX8_giveReplies 23 = .ok (.aload_n 0, 1) := by decide +kernel
theorem dX8_giveReplies_24 : decode cX8_giveReplies 24 = .ok (.getfield 22, 3) := by decide +kernel
theorem dX8_giveReplies_27 : decode cX8_giveReplies 27 = .ok (.iload_n 1, 1) := by decide +kernel
theorem dX8_giveReplies_28 : decode cX8_giveReplies 28 = .ok (.iaload, 1) := by decide +kernel
theorem dX8_giveReplies_29 : decode cX8_giveReplies 29 = .ok (.iastore, 1) := by decide +kernel
theorem dX8_giveReplies_30 : decode cX8_giveReplies 30 = .ok (.iinc 1 1, 3) := by decide +kernel
theorem dX8_giveReplies_33 : decode cX8_giveReplies 33 = .ok (.goto (-23), 3) := by decide +kernel
theorem dX8_giveReplies_36 : decode cX8_giveReplies 36 = .ok (.return_, 1) := by decide +kernel
theorem dX8_run_0 : decode cX8_run 0 = .ok (.iload_n 1, 1) := by decide +kernel
theorem dX8_run_1 : decode cX8_run 1 = .ok (.invokestatic 101, 3) := by decide +kernel
theorem dX8_run_4 : decode cX8_run 4 = .ok (.ifCond .ne 5, 3) := by decide +kernel
theorem dX8_run_7 : decode cX8_run 7 = .ok (.iconst (-1), 1) := by decide +kernel
theorem dX8_run_8 : decode cX8_run 8 = .ok (.ireturn, 1) := by decide +kernel
theorem dX8_run_9 : decode cX8_run 9 = .ok (.iload_n 2, 1) := by decide +kernel
theorem dX8_run_10 : decode cX8_run 10 = .ok (.iconst 0, 1) := by decide +kernel
theorem dX8_run_11 : decode cX8_run 11 = .ok (.bipush 7, 2) := by decide +kernel
theorem dX8_run_13 : decode cX8_run 13 = .ok (.invokestatic 85, 3) := by decide +kernel
theorem dX8_run_16 : decode cX8_run 16 = .ok (.ifCond .eq 13, 3) := by decide +kernel
theorem dX8_run_19 : decode cX8_run 19 = .ok (.iload_n 3, 1) := by decide +kernel
theorem dX8_run_20 : decode cX8_run 20 = .ok (.iconst 0, 1) := by decide +kernel
theorem dX8_run_21 : decode cX8_run 21 = .ok (.bipush 6, 2) := by decide +kernel
theorem dX8_run_23 : decode cX8_run 23 = .ok (.invokestatic 85, 3) := by decide +kernel
theorem dX8_run_26 : decode cX8_run 26 = .ok (.ifCond .ne 6, 3) := by decide +kernel
theorem dX8_run_29 : decode cX8_run 29 = .ok (.bipush (-2), 2) := by decide +kernel
theorem dX8_run_31 : decode cX8_run 31 = .ok (.ireturn, 1) := by decide +kernel
theorem dX8_run_32 : decode cX8_run 32 = .ok (.aload_n 0, 1) := by decide +kernel
theorem dX8_run_33 : decode cX8_run 33 = .ok (.invokevirtual 206, 3) := by decide +kernel
theorem dX8_run_36 : decode cX8_run 36 = .ok (.aload_n 0, 1) := by decide +kernel
theorem dX8_run_37 : decode cX8_run 37 = .ok (.iload_n 1, 1) := by decide +kernel
theorem dX8_run_38 : decode cX8_run 38 = .ok (.iload_n 2, 1) := by decide +kernel
theorem dX8_run_39 : decode cX8_run 39 = .ok (.invokevirtual 209, 3) := by decide +kernel
theorem dX8_run_42 : decode cX8_run 42 = .ok (.istore 4, 2) := by decide +kernel
theorem dX8_run_44 : decode cX8_run 44 = .ok (.iload_n 3, 1) := by decide +kernel
theorem dX8_run_45 : decode cX8_run 45 = .ok (.tableswitch 67 0 5 #[39, 42, 47, 52, 57, 62], 39) := by decide +kernel
theorem dX8_run_84 : decode cX8_run 84 = .ok (.iload 4, 2) := by decide +kernel
theorem dX8_run_86 : decode cX8_run 86 = .ok (.ireturn, 1) := by decide +kernel
theorem dX8_run_87 : decode cX8_run 87 = .ok (.aload_n 0, 1) := by decide +kernel
theorem dX8_run_88 : decode cX8_run 88 = .ok (.getfield 135, 3) := by decide +kernel
theorem dX8_run_91 : decode cX8_run 91 = .ok (.ireturn, 1) := by decide +kernel
theorem dX8_run_92 : decode cX8_run 92 = .ok (.aload_n 0, 1) := by decide +kernel
theorem dX8_run_93 : decode cX8_run 93 = .ok (.getfield 141, 3) := by decide +kernel
theorem dX8_run_96 : decode cX8_run 96 = .ok (.ireturn, 1) := by decide +kernel
theorem dX8_run_97 : decode cX8_run 97 = .ok (.aload_n 0, 1) := by decide +kernel
theorem dX8_run_98 : decode cX8_run 98 = .ok (.getfield 147, 3) := by decide +kernel
theorem dX8_run_101 : decode cX8_run 101 = .ok (.ireturn, 1) := by decide +kernel
theorem dX8_run_102 : decode cX8_run 102 = .ok (.aload_n 0, 1) := by decide +kernel
theorem dX8_run_103 : decode cX8_run 103 = .ok (.getfield 150, 3) := by decide +kernel
theorem dX8_run_106 : decode cX8_run 106 = .ok (.ireturn, 1) := by decide +kernel
theorem dX8_run_107 : decode cX8_run 107 = .ok (.aload_n 0, 1) := by decide +kernel
theorem dX8_run_108 : decode cX8_run 108 = .ok (.getfield 138, 3) := by decide +kernel
theorem dX8_run_111 : decode cX8_run 111 = .ok (.ireturn, 1) := by decide +kernel
theorem dX8_run_112 : decode cX8_run 112 = .ok (.aload_n 0, 1) := by decide +kernel
theorem dX8_run_113 : decode cX8_run 113 = .ok (.getfield 144, 3) := by decide +kernel
theorem dX8_run_116 : decode cX8_run 116 = .ok (.ireturn, 1) := by decide +kernel
theorem dX8_who_0 : decode cX8_who 0 = .ok (.iload_n 1, 1) := by decide +kernel
theorem dX8_who_1 : decode cX8_who 1 = .ok (.invokestatic 101, 3) := by decide +kernel
theorem dX8_who_4 : decode cX8_who 4 = .ok (.ifCond .ne 5, 3) := by decide +kernel
theorem dX8_who_7 : decode cX8_who 7 = .ok (.iconst (-1), 1) := by decide +kernel
theorem dX8_who_8 : decode cX8_who 8 = .ok (.ireturn, 1) := by decide +kernel
theorem dX8_who_9 : decode cX8_who 9 = .ok (.iload_n 2, 1) := by decide +kernel
theorem dX8_who_10 : decode cX8_who 10 = .ok (.iconst 0, 1) := by decide +kernel
theorem dX8_who_11 : decode cX8_who 11 = .ok (.bipush 7, 2) := by decide +kernel
theorem dX8_who_13 : decode cX8_who 13 = .ok (.invokestatic 85, 3) := by decide +kernel
theorem dX8_who_16 : decode cX8_who 16 = .ok (.ifCond .eq 14, 3) := by decide +kernel
theorem dX8_who_19 : decode cX8_who 19 = .ok (.iload_n 3, 1) := by decide +kernel
theorem dX8_who_20 : decode cX8_who 20 = .ok (.iconst 0, 1) := by decide +kernel
theorem dX8_who_21 : decode cX8_who 21 = .ok (.sipush 199, 3) := by decide +kernel
theorem dX8_who_24 : decode cX8_who 24 = .ok (.invokestatic 85, 3) := by decide +kernel
theorem dX8_who_27 : decode cX8_who 27 = .ok (.ifCond .ne 6, 3) := by decide +kernel
theorem dX8_who_30 : decode cX8_who 30 = .ok (.bipush (-2), 2) := by decide +kernel
theorem dX8_who_32 : decode cX8_who 32 = .ok (.ireturn, 1) := by decide +kernel
theorem dX8_who_33 : decode cX8_who 33 = .ok (.aload_n 0, 1) := by decide +kernel
theorem dX8_who_34 : decode cX8_who 34 = .ok (.invokevirtual 206, 3) := by decide +kernel
theorem dX8_who_37 : decode cX8_who 37 = .ok (.aload_n 0, 1) := by decide +kernel
theorem dX8_who_38 : decode cX8_who 38 = .ok (.iload_n 1, 1) := by decide +kernel
theorem dX8_who_39 : decode cX8_who 39 = .ok (.iload_n 2, 1) := by decide +kernel
theorem dX8_who_40 : decode cX8_who 40 = .ok (.invokevirtual 209, 3) := by decide +kernel
theorem dX8_who_43 : decode cX8_who 43 = .ok (.pop, 1) := by decide +kernel
theorem dX8_who_44 : decode cX8_who 44 = .ok (.iload_n 3, 1) := by decide +kernel
theorem dX8_who_45 : decode cX8_who 45 = .ok (.aload_n 0, 1) := by decide +kernel
theorem dX8_who_46 : decode cX8_who 46 = .ok (.getfield 144, 3) := by decide +kernel
theorem dX8_who_49 : decode cX8_who 49 = .ok (.if_icmp .ge 12, 3) := by decide +kernel
theorem dX8_who_52 : decode cX8_who 52 = .ok (.aload_n 0, 1) := by decide +kernel
theorem dX8_who_53 : decode cX8_who 53 = .ok (.getfield 64, 3) := by decide +kernel
theorem dX8_who_56 : decode cX8_who 56 = .ok (.iload_n 3, 1) := by decide +kernel
theorem dX8_who_57 : decode cX8_who 57 = .ok (.iaload, 1) := by decide +kernel
theorem dX8_who_58 : decode cX8_who 58 = .ok (.goto 5, 3) := by decide +kernel
theorem dX8_who_61 : decode cX8_who 61 = .ok (.bipush (-6), 2) := by decide +kernel
theorem dX8_who_63 : decode cX8_who 63 = .ok (.ireturn, 1) := by decide +kernel
theorem dX8_mayOf_0 : decode cX8_mayOf 0 = .ok (.bipush 40, 2) := by decide +kernel
theorem dX8_mayOf_2 : decode cX8_mayOf 2 = .ok (.iload_n 1, 1) := by decide +kernel
theorem dX8_mayOf_3 : decode cX8_mayOf 3 = .ok (.imul, 1) := by decide +kernel
theorem dX8_mayOf_4 : decode cX8_mayOf 4 = .ok (.istore_n 2, 1) := by decide +kernel
theorem dX8_mayOf_5 : decode cX8_mayOf 5 = .ok (.aload_n 0, 1) := by decide +kernel
theorem dX8_mayOf_6 : decode cX8_mayOf 6 = .ok (.getfield 13, 3) := by decide +kernel
theorem dX8_mayOf_9 : decode cX8_mayOf 9 = .ok (.iload_n 1, 1) := by decide +kernel
theorem dX8_mayOf_10 : decode cX8_mayOf 10 = .ok (.iaload, 1) := by decide +kernel
theorem dX8_mayOf_11 : decode cX8_mayOf 11 = .ok (.iconst 1, 1) := by decide +kernel
theorem dX8_mayOf_12 : decode cX8_mayOf 12 = .ok (.isub, 1) := by decide +kernel
theorem dX8_mayOf_13 : decode cX8_mayOf 13 = .ok (.istore_n 3, 1) := by decide +kernel
theorem dX8_mayOf_14 : decode cX8_mayOf 14 = .ok (.iload_n 3, 1) := by decide +kernel
theorem dX8_mayOf_15 : decode cX8_mayOf 15 = .ok (.ifCond .lt 334, 3) := by decide +kernel
theorem dX8_mayOf_18 : decode cX8_mayOf 18 = .ok (.aload_n 0, 1) := by decide +kernel
theorem dX8_mayOf_19 : decode cX8_mayOf 19 = .ok (.getfield 16, 3) := by decide +kernel
theorem dX8_mayOf_22 : decode cX8_mayOf 22 = .ok (.iload_n 2, 1) := by decide +kernel
theorem dX8_mayOf_23 : decode cX8_mayOf 23 = .ok (.iload_n 3, 1) := by decide +kernel
theorem dX8_mayOf_24 : decode cX8_mayOf 24 = .ok (.iadd, 1) := by decide +kernel
theorem dX8_mayOf_25 : decode cX8_mayOf 25 = .ok (.iaload, 1) := by decide +kernel
theorem dX8_mayOf_26 : decode cX8_mayOf 26 = .ok (.istore 4, 2) := by decide +kernel
theorem dX8_mayOf_28 : decode cX8_mayOf 28 = .ok (.iload_n 3, 1) := by decide +kernel
theorem dX8_mayOf_29 : decode cX8_mayOf 29 = .ok (.ifCond .le 22, 3) := by decide +kernel
theorem dX8_mayOf_32 : decode cX8_mayOf 32 = .ok (.aload_n 0, 1) := by decide +kernel
theorem dX8_mayOf_33 : decode cX8_mayOf 33 = .ok (.getfield 16, 3) := by decide +kernel
theorem dX8_mayOf_36 : decode cX8_mayOf 36 = .ok (.iload_n 2, 1) := by decide +kernel
theorem dX8_mayOf_37 : decode cX8_mayOf 37 = .ok (.iload_n 3, 1) := by decide +kernel
theorem dX8_mayOf_38 : decode cX8_mayOf 38 = .ok (.iadd, 1) := by decide +kernel
theorem dX8_mayOf_39 : decode cX8_mayOf 39 = .ok (.iconst 1, 1) := by decide +kernel
theorem dX8_mayOf_40 : decode cX8_mayOf 40 = .ok (.isub, 1) := by decide +kernel
theorem dX8_mayOf_41 : decode cX8_mayOf 41 = .ok (.iaload, 1) := by decide +kernel
theorem dX8_mayOf_42 : decode cX8_mayOf 42 = .ok (.bipush 64, 2) := by decide +kernel
theorem dX8_mayOf_44 : decode cX8_mayOf 44 = .ok (.if_icmp .ne 7, 3) := by decide +kernel
theorem dX8_mayOf_47 : decode cX8_mayOf 47 = .ok (.iconst 1, 1) := by decide +kernel
theorem dX8_mayOf_48 : decode cX8_mayOf 48 = .ok (.goto 4, 3) := by decide +kernel
theorem dX8_mayOf_51 : decode cX8_mayOf 51 = .ok (.iconst 0, 1) := by decide +kernel
theorem dX8_mayOf_52 : decode cX8_mayOf 52 = .ok (.istore 5, 2) := by decide +kernel
theorem dX8_mayOf_54 : decode cX8_mayOf 54 = .ok (.iload 5, 2) := by decide +kernel
theorem dX8_mayOf_56 : decode cX8_mayOf 56 = .ok (.ifCond .eq 7, 3) := by decide +kernel
theorem dX8_mayOf_59 : decode cX8_mayOf 59 = .ok (.iconst 0, 1) := by decide +kernel
theorem dX8_mayOf_60 : decode cX8_mayOf 60 = .ok (.goto 9, 3) := by decide +kernel
theorem dX8_mayOf_63 : decode cX8_mayOf 63 = .ok (.iload 4, 2) := by decide +kernel
theorem dX8_mayOf_65 : decode cX8_mayOf 65 = .ok (.iconst 1, 1) := by decide +kernel
theorem dX8_mayOf_66 : decode cX8_mayOf 66 = .ok (.invokestatic 93, 3) := by decide +kernel
theorem dX8_mayOf_69 : decode cX8_mayOf 69 = .ok (.istore 6, 2) := by decide +kernel
theorem dX8_mayOf_71 : decode cX8_mayOf 71 = .ok (.iconst 0, 1) := by decide +kernel
theorem dX8_mayOf_72 : decode cX8_mayOf 72 = .ok (.istore 7, 2) := by decide +kernel
theorem dX8_mayOf_74 : decode cX8_mayOf 74 = .ok (.iload_n 3, 1) := by decide +kernel
theorem dX8_mayOf_75 : decode cX8_mayOf 75 = .ok (.iload 4, 2) := by decide +kernel
theorem dX8_mayOf_77 : decode cX8_mayOf 77 = .ok (.bipush 64, 2) := by decide +kernel
theorem dX8_mayOf_79 : decode cX8_mayOf 79 = .ok (.if_icmp .ne 7, 3) := by decide +kernel
theorem dX8_mayOf_82 : decode cX8_mayOf 82 = .ok (.iconst 2, 1) := by decide +kernel
theorem dX8_mayOf_83 : decode cX8_mayOf 83 = .ok (.goto 4, 3) := by decide +kernel
theorem dX8_mayOf_86 : decode cX8_mayOf 86 = .ok (.iconst 1, 1) := by decide +kernel
theorem dX8_mayOf_87 : decode cX8_mayOf 87 = .ok (.iadd, 1) := by decide +kernel
theorem dX8_mayOf_88 : decode cX8_mayOf 88 = .ok (.istore 8, 2) := by decide +kernel
theorem dX8_mayOf_90 : decode cX8_mayOf 90 = .ok (.iconst 0, 1) := by decide +kernel
theorem dX8_mayOf_91 : decode cX8_mayOf 91 = .ok (.istore 9, 2) := by decide +kernel
theorem dX8_mayOf_93 : decode cX8_mayOf 93 = .ok (.iload 9, 2) := by decide +kernel
theorem dX8_mayOf_95 : decode cX8_mayOf 95 = .ok (.iload 6, 2) := by decide +kernel
theorem dX8_mayOf_97 : decode cX8_mayOf 97 = .ok (.if_icmp .ge 35, 3) := by decide +kernel
theorem dX8_mayOf_100 : decode cX8_mayOf 100 = .ok (.iload 7, 2) := by decide +kernel
theorem dX8_mayOf_102 : decode cX8_mayOf 102 = .ok (.aload_n 0, 1) := by decide +kernel
theorem dX8_mayOf_103 : decode cX8_mayOf 103 = .ok (.getfield 79, 3) := by decide +kernel
theorem dX8_mayOf_106 : decode cX8_mayOf 106 = .ok (.iload 8, 2) := by decide +kernel
theorem dX8_mayOf_108 : decode cX8_mayOf 108 = .ok (.iaload, 1) := by decide +kernel
theorem dX8_mayOf_109 : decode cX8_mayOf 109 = .ok (.ior, 1) := by decide +kernel
theorem dX8_mayOf_110 : decode cX8_mayOf 110 = .ok (.istore 7, 2) := by decide +kernel
theorem dX8_mayOf_112 : decode cX8_mayOf 112 = .ok (.iload 8, 2) := by decide +kernel
theorem dX8_mayOf_114 : decode cX8_mayOf 114 = .ok (.aload_n 0, 1) := by decide +kernel
theorem dX8_mayOf_115 : decode cX8_mayOf 115 = .ok (.getfield 19, 3) := by decide +kernel
theorem dX8_mayOf_118 : decode cX8_mayOf 118 = .ok (.iload_n 2, 1) := by decide +kernel
theorem dX8_mayOf_119 : decode cX8_mayOf 119 = .ok (.iload 8, 2) := by decide +kernel
theorem dX8_mayOf_121 : decode cX8_mayOf 121 = .ok (.iadd, 1) := by decide +kernel
theorem dX8_mayOf_122 : decode cX8_mayOf 122 = .ok (.iaload, 1) := by decide +kernel
theorem dX8_mayOf_123 : decode cX8_mayOf 123 = .ok (.iadd, 1) := by decide +kernel
theorem dX8_mayOf_124 : decode cX8_mayOf 124 = .ok (.istore 8, 2) := by decide +kernel
theorem dX8_mayOf_126 : decode cX8_mayOf 126 = .ok (.iinc 9 1, 3) := by decide +kernel
theorem dX8_mayOf_129 : decode cX8_mayOf 129 = .ok (.goto (-36), 3) := by decide +kernel
theorem dX8_mayOf_132 : decode cX8_mayOf 132 = .ok (.iload 4, 2) := by decide +kernel
theorem dX8_mayOf_134 : decode cX8_mayOf 134 = .ok (.bipush 112, 2) := by decide +kernel
theorem dX8_mayOf_136 : decode cX8_mayOf 136 = .ok (.if_icmp .eq 17, 3) := by decide +kernel
theorem dX8_mayOf_139 : decode cX8_mayOf 139 = .ok (.iload 4, 2) := by decide +kernel
theorem dX8_mayOf_141 : decode cX8_mayOf 141 = .ok (.bipush 113, 2) := by decide +kernel
theorem dX8_mayOf_143 : decode cX8_mayOf 143 = .ok (.if_icmp .eq 10, 3) := by decide +kernel
theorem dX8_mayOf_146 : decode cX8_mayOf 146 = .ok (.iload 4, 2) := by decide +kernel
theorem dX8_mayOf_148 : decode cX8_mayOf 148 = .ok (.bipush 114, 2) := by decide +kernel
theorem dX8_mayOf_150 : decode cX8_mayOf 150 = .ok (.if_icmp .ne 18, 3) := by decide +kernel
theorem dX8_mayOf_153 : decode cX8_mayOf 153 = .ok (.iload 7, 2) := by decide +kernel
theorem dX8_mayOf_155 : decode cX8_mayOf 155 = .ok (.iconst 1, 1) := by decide +kernel
theorem dX8_mayOf_156 : decode cX8_mayOf 156 = .ok (.iload 4, 2) := by decide +kernel
theorem dX8_mayOf_158 : decode cX8_mayOf 158 = .ok (.bipush 112, 2) := by decide +kernel
theorem dX8_mayOf_160 : decode cX8_mayOf 160 = .ok (.isub, 1) := by decide +kernel
theorem dX8_mayOf_161 : decode cX8_mayOf 161 = .ok (.ishl, 1) := by decide +kernel
theorem dX8_mayOf_162 : decode cX8_mayOf 162 = .ok (.ior, 1) := by decide +kernel
theorem dX8_mayOf_163 : decode cX8_mayOf 163 = .ok (.istore 7, 2) := by decide +kernel
theorem dX8_mayOf_165 : decode cX8_mayOf 165 = .ok (.goto 170, 3) := by decide +kernel
theorem dX8_mayOf_168 : decode cX8_mayOf 168 = .ok (.iload 4, 2) := by decide +kernel
theorem dX8_mayOf_170 : decode cX8_mayOf 170 = .ok (.bipush 64, 2) := by decide +kernel
theorem dX8_mayOf_172 : decode cX8_mayOf 172 = .ok (.if_icmp .ne 141, 3) := by decide +kernel
theorem dX8_mayOf_175 : decode cX8_mayOf 175 = .ok (.aload_n 0, 1) := by decide +kernel
theorem dX8_mayOf_176 : decode cX8_mayOf 176 = .ok (.getfield 16, 3) := by decide +kernel
theorem dX8_mayOf_179 : decode cX8_mayOf 179 = .ok (.iload_n 2, 1) := by decide +kernel
theorem dX8_mayOf_180 : decode cX8_mayOf 180 = .ok (.iload_n 3, 1) := by decide +kernel
theorem dX8_mayOf_181 : decode cX8_mayOf 181 = .ok (.iadd, 1) := by decide +kernel
theorem dX8_mayOf_182 : decode cX8_mayOf 182 = .ok (.iconst 1, 1) := by decide +kernel
theorem dX8_mayOf_183 : decode cX8_mayOf 183 = .ok (.iadd, 1) := by decide +kernel
theorem dX8_mayOf_184 : decode cX8_mayOf 184 = .ok (.iaload, 1) := by decide +kernel
theorem dX8_mayOf_185 : decode cX8_mayOf 185 = .ok (.bipush 48, 2) := by decide +kernel
theorem dX8_mayOf_187 : decode cX8_mayOf 187 = .ok (.isub, 1) := by decide +kernel
theorem dX8_mayOf_188 : decode cX8_mayOf 188 = .ok (.istore 9, 2) := by decide +kernel
theorem dX8_mayOf_190 : decode cX8_mayOf 190 = .ok (.aload_n 0, 1) := by decide +kernel
theorem dX8_mayOf_191 : decode cX8_mayOf 191 = .ok (.iload 9, 2) := by decide +kernel
theorem dX8_mayOf_193 : decode cX8_mayOf 193 = .ok (.iconst 3, 1) := by decide +kernel
theorem dX8_mayOf_194 : decode cX8_mayOf 194 = .ok (.invokevirtual 113, 3) := by decide +kernel
theorem dX8_mayOf_197 : decode cX8_mayOf 197 = .ok (.ifCond .eq 17, 3) := by decide +kernel
theorem dX8_mayOf_200 : decode cX8_mayOf 200 = .ok (.aload_n 0, 1) := by decide +kernel
theorem dX8_mayOf_201 : decode cX8_mayOf 201 = .ok (.getfield 73, 3) := by decide +kernel
theorem dX8_mayOf_204 : decode cX8_mayOf 204 = .ok (.iload 9, 2) := by decide +kernel
theorem dX8_mayOf_206 : decode cX8_mayOf 206 = .ok (.iconst 3, 1) := by decide +kernel
theorem dX8_mayOf_207 : decode cX8_mayOf 207 = .ok (.invokestatic 109, 3) := by decide +kernel
theorem dX8_mayOf_210 : decode cX8_mayOf 210 = .ok (.iaload, 1) := by decide +kernel
theorem dX8_mayOf_211 : decode cX8_mayOf 211 = .ok (.goto 4, 3) := by decide +kernel
theorem dX8_mayOf_214 : decode cX8_mayOf 214 = .ok (.iconst 0, 1) := by decide +kernel
theorem dX8_mayOf_215 : decode cX8_mayOf 215 = .ok (.istore 10, 2) := by decide +kernel
theorem dX8_mayOf_217 : decode cX8_mayOf 217 = .ok (.iconst 0, 1) := by decide +kernel
theorem dX8_mayOf_218 : decode cX8_mayOf 218 = .ok (.istore 11, 2) := by decide +kernel
theorem dX8_mayOf_220 : decode cX8_mayOf 220 = .ok (.iload 11, 2) := by decide +kernel
theorem dX8_mayOf_222 : decode cX8_mayOf 222 = .ok (.iconst 3, 1) := by decide +kernel
theorem dX8_mayOf_223 : decode cX8_mayOf 223 = .ok (.if_icmp .ge 71, 3) := by decide +kernel
theorem dX8_mayOf_226 : decode cX8_mayOf 226 = .ok (.iload 7, 2) := by decide +kernel
theorem dX8_mayOf_228 : decode cX8_mayOf 228 = .ok (.iload 11, 2) := by decide +kernel
theorem dX8_mayOf_230 : decode cX8_mayOf 230 = .ok (.ishr, 1) := by decide +kernel
theorem dX8_mayOf_231 : decode cX8_mayOf 231 = .ok (.iconst 1, 1) := by decide +kernel
theorem dX8_mayOf_232 : decode cX8_mayOf 232 = .ok (.iand, 1) := by decide +kernel
theorem dX8_mayOf_233 : decode cX8_mayOf 233 = .ok (.iconst 1, 1) := by decide +kernel
theorem dX8_mayOf_234 : decode cX8_mayOf 234 = .ok (.if_icmp .ne 7, 3) := by decide +kernel
theorem dX8_mayOf_237 : decode cX8_mayOf 237 = .ok (.iconst 1, 1) := by decide +kernel
theorem dX8_mayOf_238 : decode cX8_mayOf 238 = .ok (.goto 4, 3) := by decide +kernel
theorem dX8_mayOf_241 : decode cX8_mayOf 241 = .ok (.iconst 0, 1) := by decide +kernel
theorem dX8_mayOf_242 : decode cX8_mayOf 242 = .ok (.istore 12, 2) := by decide +kernel
theorem dX8_mayOf_244 : decode cX8_mayOf 244 = .ok (.iload 10, 2) := by decide +kernel
theorem dX8_mayOf_246 : decode cX8_mayOf 246 = .ok (.iload 12, 2) := by decide +kernel
theorem dX8_mayOf_248 : decode cX8_mayOf 248 = .ok (.ifCond .ne 7, 3) := by decide +kernel
theorem dX8_mayOf_251 : decode cX8_mayOf 251 = .ok (.iconst 0, 1) := by decide +kernel
theorem dX8_mayOf_252 : decode cX8_mayOf 252 = .ok (.goto 33, 3) := by decide +kernel
theorem dX8_mayOf_255 : decode cX8_mayOf 255 = .ok (.aload_n 0, 1) := by decide +kernel
theorem dX8_mayOf_256 : decode cX8_mayOf 256 = .ok (.iload 9, 2) := by decide +kernel
theorem dX8_mayOf_258 : decode cX8_mayOf 258 = .ok (.iload 11, 2) := by decide +kernel
theorem dX8_mayOf_260 : decode cX8_mayOf 260 = .ok (.invokevirtual 113, 3) := by decide +kernel
theorem dX8_mayOf_263 : decode cX8_mayOf 263 = .ok (.ifCond .eq 18, 3) := by decide +kernel
theorem dX8_mayOf_266 : decode cX8_mayOf 266 = .ok (.aload_n 0, 1) := by decide +kernel
theorem dX8_mayOf_267 : decode cX8_mayOf 267 = .ok (.getfield 73, 3) := by decide +kernel
theorem dX8_mayOf_270 : decode cX8_mayOf 270 = .ok (.iload 9, 2) := by decide +kernel
theorem dX8_mayOf_272 : decode cX8_mayOf 272 = .ok (.iload 11, 2) := by decide +kernel
theorem dX8_mayOf_274 : decode cX8_mayOf 274 = .ok (.invokestatic 109, 3) := by decide +kernel
theorem dX8_mayOf_277 : decode cX8_mayOf 277 = .ok (.iaload, 1) := by decide +kernel
theorem dX8_mayOf_278 : decode cX8_mayOf 278 = .ok (.goto 7, 3) := by decide +kernel
theorem dX8_mayOf_281 : decode cX8_mayOf 281 = .ok (.iconst 1, 1) := by decide +kernel
theorem dX8_mayOf_282 : decode cX8_mayOf 282 = .ok (.iload 11, 2) := by decide +kernel
theorem dX8_mayOf_284 : decode cX8_mayOf 284 = .ok (.ishl, 1) := by decide +kernel
theorem dX8_mayOf_285 : decode cX8_mayOf 285 = .ok (.ior, 1) := by decide +kernel
theorem dX8_mayOf_286 : decode cX8_mayOf 286 = .ok (.istore 10, 2) := by decide +kernel
theorem dX8_mayOf_288 : decode cX8_mayOf 288 = .ok (.iinc 11 1, 3) := by decide +kernel
theorem dX8_mayOf_291 : decode cX8_mayOf 291 = .ok (.goto (-71), 3) := by decide +kernel
theorem dX8_mayOf_294 : decode cX8_mayOf 294 = .ok (.iload 10, 2) := by decide +kernel
theorem dX8_mayOf_296 : decode cX8_mayOf 296 = .ok (.istore 7, 2) := by decide +kernel
theorem dX8_mayOf_298 : decode cX8_mayOf 298 = .ok (.aload_n 0, 1) := by decide +kernel
theorem dX8_mayOf_299 : decode cX8_mayOf 299 = .ok (.getfield 76, 3) := by decide +kernel
theorem dX8_mayOf_302 : decode cX8_mayOf 302 = .ok (.iload 9, 2) := by decide +kernel
theorem dX8_mayOf_304 : decode cX8_mayOf 304 = .ok (.dup2, 1) := by decide +kernel
theorem dX8_mayOf_305 : decode cX8_mayOf 305 = .ok (.iaload, 1) := by decide +kernel
theorem dX8_mayOf_306 : decode cX8_mayOf 306 = .ok (.iload 10, 2) := by decide +kernel
theorem dX8_mayOf_308 : decode cX8_mayOf 308 = .ok (.ior, 1) := by decide +kernel
theorem dX8_mayOf_309 : decode cX8_mayOf 309 = .ok (.iastore, 1) := by decide +kernel
theorem dX8_mayOf_310 : decode cX8_mayOf 310 = .ok (.goto 25, 3) := by decide +kernel
theorem dX8_mayOf_313 : decode cX8_mayOf 313 = .ok (.iload 4, 2) := by decide +kernel
theorem dX8_mayOf_315 : decode cX8_mayOf 315 = .ok (.bipush 107, 2) := by decide +kernel
theorem dX8_mayOf_317 : decode cX8_mayOf 317 = .ok (.if_icmp .ne 18, 3) := by decide +kernel
theorem dX8_mayOf_320 : decode cX8_mayOf 320 = .ok (.iload 7, 2) := by decide +kernel
theorem dX8_mayOf_322 : decode cX8_mayOf 322 = .ok (.aload_n 0, 1) := by decide +kernel
theorem dX8_mayOf_323 : decode cX8_mayOf 323 = .ok (.getfield 76, 3) := by decide +kernel
theorem dX8_mayOf_326 : decode cX8_mayOf 326 = .ok (.iload_n 1, 1) := by decide +kernel
theorem dX8_mayOf_327 : decode cX8_mayOf 327 = .ok (.iconst 4, 1) := by decide +kernel
theorem dX8_mayOf_328 : decode cX8_mayOf 328 = .ok (.isub, 1) := by decide +kernel
theorem dX8_mayOf_329 : decode cX8_mayOf 329 = .ok (.iconst 4, 1) := by decide +kernel
theorem dX8_mayOf_330 : decode cX8_mayOf 330 = .ok (.idiv, 1) := by decide +kernel
theorem dX8_mayOf_331 : decode cX8_mayOf 331 = .ok (.iaload, 1) := by decide +kernel
theorem dX8_mayOf_332 : decode cX8_mayOf 332 = .ok (.ior, 1) := by decide +kernel
theorem dX8_mayOf_333 : decode cX8_mayOf 333 = .ok (.istore 7, 2) := by decide +kernel
theorem dX8_mayOf_335 : decode cX8_mayOf 335 = .ok (.aload_n 0, 1) := by decide +kernel
theorem dX8_mayOf_336 : decode cX8_mayOf 336 = .ok (.getfield 79, 3) := by decide +kernel
theorem dX8_mayOf_339 : decode cX8_mayOf 339 = .ok (.iload_n 3, 1) := by decide +kernel
theorem dX8_mayOf_340 : decode cX8_mayOf 340 = .ok (.iload 7, 2) := by decide +kernel
theorem dX8_mayOf_342 : decode cX8_mayOf 342 = .ok (.iastore, 1) := by decide +kernel
theorem dX8_mayOf_343 : decode cX8_mayOf 343 = .ok (.iinc 3 (-1), 3) := by decide +kernel
theorem dX8_mayOf_346 : decode cX8_mayOf 346 = .ok (.goto (-332), 3) := by decide +kernel
theorem dX8_mayOf_349 : decode cX8_mayOf 349 = .ok (.aload_n 0, 1) := by decide +kernel
theorem dX8_mayOf_350 : decode cX8_mayOf 350 = .ok (.getfield 13, 3) := by decide +kernel
theorem dX8_mayOf_353 : decode cX8_mayOf 353 = .ok (.iload_n 1, 1) := by decide +kernel
theorem dX8_mayOf_354 : decode cX8_mayOf 354 = .ok (.iaload, 1) := by decide +kernel
theorem dX8_mayOf_355 : decode cX8_mayOf 355 = .ok (.ifCond .ne 7, 3) := by decide +kernel
theorem dX8_mayOf_358 : decode cX8_mayOf 358 = .ok (.iconst 0, 1) := by decide +kernel
theorem dX8_mayOf_359 : decode cX8_mayOf 359 = .ok (.goto 9, 3) := by decide +kernel
theorem dX8_mayOf_362 : decode cX8_mayOf 362 = .ok (.aload_n 0, 1) := by decide +kernel
theorem dX8_mayOf_363 : decode cX8_mayOf 363 = .ok (.getfield 79, 3) := by decide +kernel
theorem dX8_mayOf_366 : decode cX8_mayOf 366 = .ok (.iconst 0, 1) := by decide +kernel
theorem dX8_mayOf_367 : decode cX8_mayOf 367 = .ok (.iaload, 1) := by decide +kernel
theorem dX8_mayOf_368 : decode cX8_mayOf 368 = .ok (.ireturn, 1) := by decide +kernel
theorem dX8_layMay_0 : decode cX8_layMay 0 = .ok (.iconst 0, 1) := by decide +kernel
theorem dX8_layMay_1 : decode cX8_layMay 1 = .ok (.istore_n 1, 1) := by decide +kernel
theorem dX8_layMay_2 : decode cX8_layMay 2 = .ok (.iload_n 1, 1) := by decide +kernel
theorem dX8_layMay_3 : decode cX8_layMay 3 = .ok (.bipush 20, 2) := by decide +kernel
theorem dX8_layMay_5 : decode cX8_layMay 5 = .ok (.if_icmp .ge 16, 3) := by decide +kernel
theorem dX8_layMay_8 : decode cX8_layMay 8 = .ok (.aload_n 0, 1) := by decide +kernel
theorem dX8_layMay_9 : decode cX8_layMay 9 = .ok (.getfield 73, 3) := by decide +kernel
theorem dX8_layMay_12 : decode cX8_layMay 12 = .ok (.iload_n 1, 1) := by decide +kernel
theorem dX8_layMay_13 : decode cX8_layMay 13 = .ok (.iconst 0, 1) := by decide +kernel
theorem dX8_layMay_14 : decode cX8_layMay 14 = .ok (.iastore, 1) := by decide +kernel
theorem dX8_layMay_15 : decode cX8_layMay 15 = .ok (.iinc 1 1, 3) := by decide +kernel
theorem dX8_layMay_18 : decode cX8_layMay 18 = .ok (.goto (-16), 3) := by decide +kernel
theorem dX8_layMay_21 : decode cX8_layMay 21 = .ok (.iconst 0, 1) := by decide +kernel
theorem dX8_layMay_22 : decode cX8_layMay 22 = .ok (.istore_n 1, 1) := by decide +kernel
theorem dX8_layMay_23 : decode cX8_layMay 23 = .ok (.iload_n 1, 1) := by decide +kernel
theorem dX8_layMay_24 : decode cX8_layMay 24 = .ok (.iconst 4, 1) := by decide +kernel
theorem dX8_layMay_25 : decode cX8_layMay 25 = .ok (.if_icmp .ge 16, 3) := by decide +kernel
theorem dX8_layMay_28 : decode cX8_layMay 28 = .ok (.aload_n 0, 1) := by decide +kernel
theorem dX8_layMay_29 : decode cX8_layMay 29 = .ok (.getfield 76, 3) := by decide +kernel
theorem dX8_layMay_32 : decode cX8_layMay 32 = .ok (.iload_n 1, 1) := by decide +kernel
theorem dX8_layMay_33 : decode cX8_layMay 33 = .ok (.iconst 0, 1) := by decide +kernel
theorem dX8_layMay_34 : decode cX8_layMay 34 = .ok (.iastore, 1) := by decide +kernel
theorem dX8_layMay_35 : decode cX8_layMay 35 = .ok (.iinc 1 1, 3) := by decide +kernel
theorem dX8_layMay_38 : decode cX8_layMay 38 = .ok (.goto (-15), 3) := by decide +kernel
theorem dX8_layMay_41 : decode cX8_layMay 41 = .ok (.iconst 1, 1) := by decide +kernel
theorem dX8_layMay_42 : decode cX8_layMay 42 = .ok (.istore_n 1, 1) := by decide +kernel
theorem dX8_layMay_43 : decode cX8_layMay 43 = .ok (.iload_n 1, 1) := by decide +kernel
theorem dX8_layMay_44 : decode cX8_layMay 44 = .ok (.ifCond .eq 143, 3) := by decide +kernel
theorem dX8_layMay_47 : decode cX8_layMay 47 = .ok (.iconst 0, 1) := by decide +kernel
theorem dX8_layMay_48 : decode cX8_layMay 48 = .ok (.istore_n 1, 1) := by decide +kernel
theorem dX8_layMay_49 : decode cX8_layMay 49 = .ok (.aload_n 0, 1) := by decide +kernel
theorem dX8_layMay_50 : decode cX8_layMay 50 = .ok (.getfield 76, 3) := by decide +kernel
theorem dX8_layMay_53 : decode cX8_layMay 53 = .ok (.iconst 0, 1) := by decide +kernel
theorem dX8_layMay_54 : decode cX8_layMay 54 = .ok (.iaload, 1) := by decide +kernel
theorem dX8_layMay_55 : decode cX8_layMay 55 = .ok (.aload_n 0, 1) := by decide +kernel
theorem dX8_layMay_56 : decode cX8_layMay 56 = .ok (.getfield 76, 3) := by decide +kernel
theorem dX8_layMay_59 : decode cX8_layMay 59 = .ok (.iconst 1, 1) := by decide +kernel
theorem dX8_layMay_60 : decode cX8_layMay 60 = .ok (.iaload, 1) := by decide +kernel
theorem dX8_layMay_61 : decode cX8_layMay 61 = .ok (.iconst 3, 1) := by decide +kernel
theorem dX8_layMay_62 : decode cX8_layMay 62 = .ok (.ishl, 1) := by decide +kernel
theorem dX8_layMay_63 : decode cX8_layMay 63 = .ok (.ior, 1) := by decide +kernel
theorem dX8_layMay_64 : decode cX8_layMay 64 = .ok (.aload_n 0, 1) := by decide +kernel
theorem dX8_layMay_65 : decode cX8_layMay 65 = .ok (.getfield 76, 3) := by decide +kernel
theorem dX8_layMay_68 : decode cX8_layMay 68 = .ok (.iconst 2, 1) := by decide +kernel
theorem dX8_layMay_69 : decode cX8_layMay 69 = .ok (.iaload, 1) := by decide +kernel
theorem dX8_layMay_70 : decode cX8_layMay 70 = .ok (.bipush 6, 2) := by decide +kernel
theorem dX8_layMay_72 : decode cX8_layMay 72 = .ok (.ishl, 1) := by decide +kernel
theorem dX8_layMay_73 : decode cX8_layMay 73 = .ok (.ior, 1) := by decide +kernel
theorem dX8_layMay_74 : decode cX8_layMay 74 = .ok (.aload_n 0, 1) := by decide +kernel
theorem dX8_layMay_75 : decode cX8_layMay 75 = .ok (.getfield 76, 3) := by decide +kernel
theorem dX8_layMay_78 : decode cX8_layMay 78 = .ok (.iconst 3, 1) := by decide +kernel
theorem dX8_layMay_79 : decode cX8_layMay 79 = .ok (.iaload, 1) := by decide +kernel
theorem dX8_layMay_80 : decode cX8_layMay 80 = .ok (.bipush 9, 2) := by decide +kernel
theorem dX8_layMay_82 : decode cX8_layMay 82 = .ok (.ishl, 1) := by decide +kernel
theorem dX8_layMay_83 : decode cX8_layMay 83 = .ok (.ior, 1) := by decide +kernel
theorem dX8_layMay_84 : decode cX8_layMay 84 = .ok (.istore_n 2, 1) := by decide +kernel
theorem dX8_layMay_85 : decode cX8_layMay 85 = .ok (.iconst 0, 1) := by decide +kernel
theorem dX8_layMay_86 : decode cX8_layMay 86 = .ok (.istore_n 3, 1) := by decide +kernel
theorem dX8_layMay_87 : decode cX8_layMay 87 = .ok (.iload_n 3, 1) := by decide +kernel
theorem dX8_layMay_88 : decode cX8_layMay 88 = .ok (.bipush 20, 2) := by decide +kernel
theorem dX8_layMay_90 : decode cX8_layMay 90 = .ok (.if_icmp .ge 45, 3) := by decide +kernel
theorem dX8_layMay_93 : decode cX8_layMay 93 = .ok (.aload_n 0, 1) := by decide +kernel
theorem dX8_layMay_94 : decode cX8_layMay 94 = .ok (.iload_n 3, 1) := by decide +kernel
theorem dX8_layMay_95 : decode cX8_layMay 95 = .ok (.invokevirtual 212, 3) := by decide +kernel
theorem dX8_layMay_98 : decode cX8_layMay 98 = .ok (.istore 4, 2) := by decide +kernel
theorem dX8_layMay_100 : decode cX8_layMay 100 = .ok (.iload_n 1, 1) := by decide +kernel
theorem dX8_layMay_101 : decode cX8_layMay 101 = .ok (.ifCond .ne 14, 3) := by decide +kernel
theorem dX8_layMay_104 : decode cX8_layMay 104 = .ok (.iload 4, 2) := by decide +kernel
theorem dX8_layMay_106 : decode cX8_layMay 106 = .ok (.aload_n 0, 1) := by decide +kernel
theorem dX8_layMay_107 : decode cX8_layMay 107 = .ok (.getfield 73, 3) := by decide +kernel
theorem dX8_layMay_110 : decode cX8_layMay 110 = .ok (.iload_n 3, 1) := by decide +kernel
theorem dX8_layMay_111 : decode cX8_layMay 111 = .ok (.iaload, 1) := by decide +kernel
theorem dX8_layMay_112 : decode cX8_layMay 112 = .ok (.if_icmp .eq 7, 3) := by decide +kernel
theorem dX8_layMay_115 : decode cX8_layMay 115 = .ok (.iconst 1, 1) := by decide +kernel
theorem dX8_layMay_116 : decode cX8_layMay 116 = .ok (.goto 4, 3) := by decide +kernel
theorem dX8_layMay_119 : decode cX8_layMay 119 = .ok (.iconst 0, 1) := by decide +kernel
theorem dX8_layMay_120 : decode cX8_layMay 120 = .ok (.istore_n 1, 1) := by decide +kernel
theorem dX8_layMay_121 : decode cX8_layMay 121 = .ok (.aload_n 0, 1) := by decide +kernel
theorem dX8_layMay_122 : decode cX8_layMay 122 = .ok (.getfield 73, 3) := by decide +kernel
theorem dX8_layMay_125 : decode cX8_layMay 125 = .ok (.iload_n 3, 1) := by decide +kernel
theorem dX8_layMay_126 : decode cX8_layMay 126 = .ok (.iload 4, 2) := by decide +kernel
theorem dX8_layMay_128 : decode cX8_layMay 128 = .ok (.iastore, 1) := by decide +kernel
theorem dX8_layMay_129 : decode cX8_layMay 129 = .ok (.iinc 3 1, 3) := by decide +kernel
theorem dX8_layMay_132 : decode cX8_layMay 132 = .ok (.goto (-45), 3) := by decide +kernel
theorem dX8_layMay_135 : decode cX8_layMay 135 = .ok (.iload_n 1, 1) := by decide +kernel
theorem dX8_layMay_136 : decode cX8_layMay 136 = .ok (.ifCond .ne 42, 3) := by decide +kernel
theorem dX8_layMay_139 : decode cX8_layMay 139 = .ok (.iload_n 2, 1) := by decide +kernel
theorem dX8_layMay_140 : decode cX8_layMay 140 = .ok (.aload_n 0, 1) := by decide +kernel
theorem dX8_layMay_141 : decode cX8_layMay 141 = .ok (.getfield 76, 3) := by decide +kernel
theorem dX8_layMay_144 : decode cX8_layMay 144 = .ok (.iconst 0, 1) := by decide +kernel
theorem dX8_layMay_145 : decode cX8_layMay 145 = .ok (.iaload, 1) := by decide +kernel
theorem dX8_layMay_146 : decode cX8_layMay 146 = .ok (.aload_n 0, 1) := by decide +kernel
theorem dX8_layMay_147 : decode cX8_layMay 147 = .ok (.getfield 76, 3) := by decide +kernel
theorem dX8_layMay_150 : decode cX8_layMay 150 = .ok (.iconst 1, 1) := by decide +kernel
theorem dX8_layMay_151 : decode cX8_layMay 151 = .ok (.iaload, 1) := by decide +kernel
theorem dX8_layMay_152 : decode cX8_layMay 152 = .ok (.iconst 3, 1) := by decide +kernel
theorem dX8_layMay_153 : decode cX8_layMay 153 = .ok (.ishl, 1) := by decide +kernel
theorem dX8_layMay_154 : decode cX8_layMay 154 = .ok (.ior, 1) := by decide +kernel
theorem dX8_layMay_155 : decode cX8_layMay 155 = .ok (.aload_n 0, 1) := by decide +kernel
theorem dX8_layMay_156 : decode cX8_layMay 156 = .ok (.getfield 76, 3) := by decide +kernel
theorem dX8_layMay_159 : decode cX8_layMay 159 = .ok (.iconst 2, 1) := by decide +kernel
theorem dX8_layMay_160 : decode cX8_layMay 160 = .ok (.iaload, 1) := by decide +kernel
theorem dX8_layMay_161 : decode cX8_layMay 161 = .ok (.bipush 6, 2) := by decide +kernel
theorem dX8_layMay_163 : decode cX8_layMay 163 = .ok (.ishl, 1) := by decide +kernel
theorem dX8_layMay_164 : decode cX8_layMay 164 = .ok (.ior, 1) := by decide +kernel
theorem dX8_layMay_165 : decode cX8_layMay 165 = .ok (.aload_n 0, 1) := by decide +kernel
theorem dX8_layMay_166 : decode cX8_layMay 166 = .ok (.getfield 76, 3) := by decide +kernel
theorem dX8_layMay_169 : decode cX8_layMay 169 = .ok (.iconst 3, 1) := by decide +kernel
theorem dX8_layMay_170 : decode cX8_layMay 170 = .ok (.iaload, 1) := by decide +kernel
theorem dX8_layMay_171 : decode cX8_layMay 171 = .ok (.bipush 9, 2) := by decide +kernel
theorem dX8_layMay_173 : decode cX8_layMay 173 = .ok (.ishl, 1) := by decide +kernel
theorem dX8_layMay_174 : decode cX8_layMay 174 = .ok (.ior, 1) := by decide +kernel
theorem dX8_layMay_175 : decode cX8_layMay 175 = .ok (.if_icmp .eq 7, 3) := by decide +kernel
theorem dX8_layMay_178 : decode cX8_layMay 178 = .ok (.iconst 1, 1) := by decide +kernel
theorem dX8_layMay_179 : decode cX8_layMay 179 = .ok (.goto 4, 3) := by decide +kernel
theorem dX8_layMay_182 : decode cX8_layMay 182 = .ok (.iconst 0, 1) := by decide +kernel
theorem dX8_layMay_183 : decode cX8_layMay 183 = .ok (.istore_n 1, 1) := by decide +kernel
theorem dX8_layMay_184 : decode cX8_layMay 184 = .ok (.goto (-141), 3) := by decide +kernel
theorem dX8_layMay_187 : decode cX8_layMay 187 = .ok (.return_, 1) := by decide +kernel
theorem dX8_may_0 : decode cX8_may 0 = .ok (.iload_n 1, 1) := by decide +kernel
theorem dX8_may_1 : decode cX8_may 1 = .ok (.iconst (-1), 1) := by decide +kernel
theorem dX8_may_2 : decode cX8_may 2 = .ok (.if_icmp .ne 7, 3) := by decide +kernel
theorem dX8_may_5 : decode cX8_may 5 = .ok (.iconst 1, 1) := by decide +kernel
theorem dX8_may_6 : decode cX8_may 6 = .ok (.goto 4, 3) := by decide +kernel
theorem dX8_may_9 : decode cX8_may 9 = .ok (.iconst 0, 1) := by decide +kernel
theorem dX8_may_10 : decode cX8_may 10 = .ok (.istore_n 3, 1) := by decide +kernel
theorem dX8_may_11 : decode cX8_may 11 = .ok (.iload_n 1, 1) := by decide +kernel
theorem dX8_may_12 : decode cX8_may 12 = .ok (.iconst (-1), 1) := by decide +kernel
theorem dX8_may_13 : decode cX8_may 13 = .ok (.iconst 3, 1) := by decide +kernel
theorem dX8_may_14 : decode cX8_may 14 = .ok (.invokestatic 85, 3) := by decide +kernel
theorem dX8_may_17 : decode cX8_may 17 = .ok (.ifCond .eq 23, 3) := by decide +kernel
theorem dX8_may_20 : decode cX8_may 20 = .ok (.iload_n 2, 1) := by decide +kernel
theorem dX8_may_21 : decode cX8_may 21 = .ok (.invokestatic 101, 3) := by decide +kernel
theorem dX8_may_24 : decode cX8_may 24 = .ok (.ifCond .eq 16, 3) := by decide +kernel
theorem dX8_may_27 : decode cX8_may 27 = .ok (.iload_n 3, 1) := by decide +kernel
theorem dX8_may_28 : decode cX8_may 28 = .ok (.ifCond .ne 14, 3) := by decide +kernel
theorem dX8_may_31 : decode cX8_may 31 = .ok (.aload_n 0, 1) := by decide +kernel
theorem dX8_may_32 : decode cX8_may 32 = .ok (.iload_n 1, 1) := by decide +kernel
theorem dX8_may_33 : decode cX8_may 33 = .ok (.iload_n 2, 1) := by decide +kernel
theorem dX8_may_34 : decode cX8_may 34 = .ok (.invokevirtual 113, 3) := by decide +kernel
theorem dX8_may_37 : decode cX8_may 37 = .ok (.ifCond .ne 5, 3) := by decide +kernel
theorem dX8_may_40 : decode cX8_may 40 = .ok (.iconst (-1), 1) := by decide +kernel
theorem dX8_may_41 : decode cX8_may 41 = .ok (.ireturn, 1) := by decide +kernel
theorem dX8_may_42 : decode cX8_may 42 = .ok (.aload_n 0, 1) := by decide +kernel
theorem dX8_may_43 : decode cX8_may 43 = .ok (.invokevirtual 215, 3) := by decide +kernel
theorem dX8_may_46 : decode cX8_may 46 = .ok (.aload_n 0, 1) := by decide +kernel
theorem dX8_may_47 : decode cX8_may 47 = .ok (.getfield 73, 3) := by decide +kernel
theorem dX8_may_50 : decode cX8_may 50 = .ok (.iload_n 3, 1) := by decide +kernel
theorem dX8_may_51 : decode cX8_may 51 = .ok (.ifCond .eq 7, 3) := by decide +kernel
theorem dX8_may_54 : decode cX8_may 54 = .ok (.iload_n 2, 1) := by decide +kernel
theorem dX8_may_55 : decode cX8_may 55 = .ok (.goto 8, 3) := by decide +kernel
theorem dX8_may_58 : decode cX8_may 58 = .ok (.iload_n 1, 1) := by decide +kernel
theorem dX8_may_59 : decode cX8_may 59 = .ok (.iload_n 2, 1) := by decide +kernel
theorem dX8_may_60 : decode cX8_may 60 = .ok (.invokestatic 109, 3) := by decide +kernel
theorem dX8_may_63 : decode cX8_may 63 = .ok (.iaload, 1) := by decide +kernel
theorem dX8_may_64 : decode cX8_may 64 = .ok (.ireturn, 1) := by decide +kernel
theorem dX8_often_0 : decode cX8_often 0 = .ok (.iload_n 1, 1) := by decide +kernel
theorem dX8_often_1 : decode cX8_often 1 = .ok (.invokestatic 101, 3) := by decide +kernel
theorem dX8_often_4 : decode cX8_often 4 = .ok (.ifCond .eq 19, 3) := by decide +kernel
theorem dX8_often_7 : decode cX8_often 7 = .ok (.iload_n 2, 1) := by decide +kernel
theorem dX8_often_8 : decode cX8_often 8 = .ok (.invokestatic 101, 3) := by decide +kernel
theorem dX8_often_11 : decode cX8_often 11 = .ok (.ifCond .eq 12, 3) := by decide +kernel
theorem dX8_often_14 : decode cX8_often 14 = .ok (.aload_n 0, 1) := by decide +kernel
theorem dX8_often_15 : decode cX8_often 15 = .ok (.iload_n 1, 1) := by decide +kernel
theorem dX8_often_16 : decode cX8_often 16 = .ok (.iload_n 2, 1) := by decide +kernel
theorem dX8_often_17 : decode cX8_often 17 = .ok (.invokevirtual 113, 3) := by decide +kernel
theorem dX8_often_20 : decode cX8_often 20 = .ok (.ifCond .ne 5, 3) := by decide +kernel
theorem dX8_often_23 : decode cX8_often 23 = .ok (.iconst (-1), 1) := by decide +kernel
theorem dX8_often_24 : decode cX8_often 24 = .ok (.ireturn, 1) := by decide +kernel
theorem dX8_often_25 : decode cX8_often 25 = .ok (.iload_n 1, 1) := by decide +kernel
theorem dX8_often_26 : decode cX8_often 26 = .ok (.iload_n 2, 1) := by decide +kernel
theorem dX8_often_27 : decode cX8_often 27 = .ok (.invokestatic 109, 3) := by decide +kernel
theorem dX8_often_30 : decode cX8_often 30 = .ok (.istore_n 3, 1) := by decide +kernel
theorem dX8_often_31 : decode cX8_often 31 = .ok (.bipush 40, 2) := by decide +kernel
theorem dX8_often_33 : decode cX8_often 33 = .ok (.iload_n 3, 1) := by decide +kernel
theorem dX8_often_34 : decode cX8_often 34 = .ok (.imul, 1) := by decide +kernel
theorem dX8_often_35 : decode cX8_often 35 = .ok (.istore 4, 2) := by decide +kernel
theorem dX8_often_37 : decode cX8_often 37 = .ok (.aload_n 0, 1) := by decide +kernel
theorem dX8_often_38 : decode cX8_often 38 = .ok (.getfield 13, 3) := by decide +kernel
theorem dX8_often_41 : decode cX8_often 41 = .ok (.iload_n 3, 1) := by decide +kernel
theorem dX8_often_42 : decode cX8_often 42 = .ok (.iaload, 1) := by decide +kernel
theorem dX8_often_43 : decode cX8_often 43 = .ok (.iconst 1, 1) := by decide +kernel
theorem dX8_often_44 : decode cX8_often 44 = .ok (.isub, 1) := by decide +kernel
theorem dX8_often_45 : decode cX8_often 45 = .ok (.istore 5, 2) := by decide +kernel
theorem dX8_often_47 : decode cX8_often 47 = .ok (.iload 5, 2) := by decide +kernel
theorem dX8_often_49 : decode cX8_often 49 = .ok (.ifCond .lt 241, 3) := by decide +kernel
theorem dX8_often_52 : decode cX8_often 52 = .ok (.aload_n 0, 1) := by decide +kernel
theorem dX8_often_53 : decode cX8_often 53 = .ok (.getfield 16, 3) := by decide +kernel
theorem dX8_often_56 : decode cX8_often 56 = .ok (.iload 4, 2) := by decide +kernel
theorem dX8_often_58 : decode cX8_often 58 = .ok (.iload 5, 2) := by decide +kernel
theorem dX8_often_60 : decode cX8_often 60 = .ok (.iadd, 1) := by decide +kernel
theorem dX8_often_61 : decode cX8_often 61 = .ok (.iaload, 1) := by decide +kernel
theorem dX8_often_62 : decode cX8_often 62 = .ok (.istore 6, 2) := by decide +kernel
theorem dX8_often_64 : decode cX8_often 64 = .ok (.iload 5, 2) := by decide +kernel
theorem dX8_often_66 : decode cX8_often 66 = .ok (.ifCond .le 24, 3) := by decide +kernel
theorem dX8_often_69 : decode cX8_often 69 = .ok (.aload_n 0, 1) := by decide +kernel
theorem dX8_often_70 : decode cX8_often 70 = .ok (.getfield 16, 3) := by decide +kernel
theorem dX8_often_73 : decode cX8_often 73 = .ok (.iload 4, 2) := by decide +kernel
theorem dX8_often_75 : decode cX8_often 75 = .ok (.iload 5, 2) := by decide +kernel
theorem dX8_often_77 : decode cX8_often 77 = .ok (.iadd, 1) := by decide +kernel
theorem dX8_often_78 : decode cX8_often 78 = .ok (.iconst 1, 1) := by decide +kernel
theorem dX8_often_79 : decode cX8_often 79 = .ok (.isub, 1) := by decide +kernel
theorem dX8_often_80 : decode cX8_often 80 = .ok (.iaload, 1) := by decide +kernel
theorem dX8_often_81 : decode cX8_often 81 = .ok (.bipush 64, 2) := by decide +kernel
theorem dX8_often_83 : decode cX8_often 83 = .ok (.if_icmp .ne 7, 3) := by decide +kernel
theorem dX8_often_86 : decode cX8_often 86 = .ok (.iconst 1, 1) := by decide +kernel
theorem dX8_often_87 : decode cX8_often 87 = .ok (.goto 4, 3) := by decide +kernel
theorem dX8_often_90 : decode cX8_often 90 = .ok (.iconst 0, 1) := by decide +kernel
theorem dX8_often_91 : decode cX8_often 91 = .ok (.istore 7, 2) := by decide +kernel
theorem dX8_often_93 : decode cX8_often 93 = .ok (.iload 7, 2) := by decide +kernel
theorem dX8_often_95 : decode cX8_often 95 = .ok (.ifCond .eq 7, 3) := by decide +kernel
theorem dX8_often_98 : decode cX8_often 98 = .ok (.iconst 0, 1) := by decide +kernel
theorem dX8_often_99 : decode cX8_often 99 = .ok (.goto 9, 3) := by decide +kernel
theorem dX8_often_102 : decode cX8_often 102 = .ok (.iload 6, 2) := by decide +kernel
theorem dX8_often_104 : decode cX8_often 104 = .ok (.iconst 1, 1) := by decide +kernel
theorem dX8_often_105 : decode cX8_often 105 = .ok (.invokestatic 93, 3) := by decide +kernel
theorem dX8_often_108 : decode cX8_often 108 = .ok (.istore 8, 2) := by decide +kernel
theorem dX8_often_110 : decode cX8_often 110 = .ok (.iload 5, 2) := by decide +kernel
theorem dX8_often_112 : decode cX8_often 112 = .ok (.iload 6, 2) := by decide +kernel
theorem dX8_often_114 : decode cX8_often 114 = .ok (.bipush 64, 2) := by decide +kernel
theorem dX8_often_116 : decode cX8_often 116 = .ok (.if_icmp .ne 7, 3) := by decide +kernel
theorem dX8_often_119 : decode cX8_often 119 = .ok (.iconst 2, 1) := by decide +kernel
theorem dX8_often_120 : decode cX8_often 120 = .ok (.goto 4, 3) := by decide +kernel
theorem dX8_often_123 : decode cX8_often 123 = .ok (.iconst 1, 1) := by decide +kernel
theorem dX8_often_124 : decode cX8_often 124 = .ok (.iadd, 1) := by decide +kernel
theorem dX8_often_125 : decode cX8_often 125 = .ok (.istore 9, 2) := by decide +kernel
theorem dX8_often_127 : decode cX8_often 127 = .ok (.iload 6, 2) := by decide +kernel
theorem dX8_often_129 : decode cX8_often 129 = .ok (.bipush 107, 2) := by decide +kernel
theorem dX8_often_131 : decode cX8_often 131 = .ok (.if_icmp .ne 7, 3) := by decide +kernel
theorem dX8_often_134 : decode cX8_often 134 = .ok (.iconst 1, 1) := by decide +kernel
theorem dX8_often_135 : decode cX8_often 135 = .ok (.goto 4, 3) := by decide +kernel
theorem dX8_often_138 : decode cX8_often 138 = .ok (.iconst 0, 1) := by decide +kernel
theorem dX8_often_139 : decode cX8_often 139 = .ok (.istore 10, 2) := by decide +kernel
theorem dX8_often_141 : decode cX8_often 141 = .ok (.iconst 0, 1) := by decide +kernel
theorem dX8_often_142 : decode cX8_often 142 = .ok (.istore 11, 2) := by decide +kernel
theorem dX8_often_144 : decode cX8_often 144 = .ok (.iconst 0, 1) := by decide +kernel
theorem dX8_often_145 : decode cX8_often 145 = .ok (.istore 12, 2) := by decide +kernel
theorem dX8_often_147 : decode cX8_often 147 = .ok (.iload 12, 2) := by decide +kernel
theorem dX8_often_149 : decode cX8_often 149 = .ok (.iload 8, 2) := by decide +kernel
theorem dX8_often_151 : decode cX8_often 151 = .ok (.if_icmp .ge 95, 3) := by decide +kernel
theorem dX8_often_154 : decode cX8_often 154 = .ok (.iload 6, 2) := by decide +kernel
theorem dX8_often_156 : decode cX8_often 156 = .ok (.bipush 63, 2) := by decide +kernel
theorem dX8_often_158 : decode cX8_often 158 = .ok (.if_icmp .ne 12, 3) := by decide +kernel
theorem dX8_often_161 : decode cX8_often 161 = .ok (.iload 12, 2) := by decide +kernel
theorem dX8_often_163 : decode cX8_often 163 = .ok (.ifCond .le 7, 3) := by decide +kernel
theorem dX8_often_166 : decode cX8_often 166 = .ok (.iconst 1, 1) := by decide +kernel
theorem dX8_often_167 : decode cX8_often 167 = .ok (.goto 4, 3) := by decide +kernel
theorem dX8_often_170 : decode cX8_often 170 = .ok (.iconst 0, 1) := by decide +kernel
theorem dX8_often_171 : decode cX8_often 171 = .ok (.istore 13, 2) := by decide +kernel
theorem dX8_often_173 : decode cX8_often 173 = .ok (.iload 13, 2) := by decide +kernel
theorem dX8_often_175 : decode cX8_often 175 = .ok (.ifCond .eq 25, 3) := by decide +kernel
theorem dX8_often_178 : decode cX8_often 178 = .ok (.aload_n 0, 1) := by decide +kernel
theorem dX8_often_179 : decode cX8_often 179 = .ok (.getfield 79, 3) := by decide +kernel
theorem dX8_often_182 : decode cX8_often 182 = .ok (.iload 9, 2) := by decide +kernel
theorem dX8_often_184 : decode cX8_often 184 = .ok (.iaload, 1) := by decide +kernel
theorem dX8_often_185 : decode cX8_often 185 = .ok (.iload 11, 2) := by decide +kernel
theorem dX8_often_187 : decode cX8_often 187 = .ok (.if_icmp .le 13, 3) := by decide +kernel
theorem dX8_often_190 : decode cX8_often 190 = .ok (.aload_n 0, 1) := by decide +kernel
theorem dX8_often_191 : decode cX8_often 191 = .ok (.getfield 79, 3) := by decide +kernel
theorem dX8_often_194 : decode cX8_often 194 = .ok (.iload 9, 2) := by decide +kernel
theorem dX8_often_196 : decode cX8_often 196 = .ok (.iaload, 1) := by decide +kernel
theorem dX8_often_197 : decode cX8_often 197 = .ok (.goto 5, 3) := by decide +kernel
theorem dX8_often_200 : decode cX8_often 200 = .ok (.iload 11, 2) := by decide +kernel
theorem dX8_often_202 : decode cX8_often 202 = .ok (.istore 11, 2) := by decide +kernel
theorem dX8_often_204 : decode cX8_often 204 = .ok (.iload 10, 2) := by decide +kernel
theorem dX8_often_206 : decode cX8_often 206 = .ok (.iload 13, 2) := by decide +kernel
theorem dX8_often_208 : decode cX8_often 208 = .ok (.ifCond .eq 7, 3) := by decide +kernel
theorem dX8_often_211 : decode cX8_often 211 = .ok (.iconst 0, 1) := by decide +kernel
theorem dX8_often_212 : decode cX8_often 212 = .ok (.goto 10, 3) := by decide +kernel
theorem dX8_often_215 : decode cX8_often 215 = .ok (.aload_n 0, 1) := by decide +kernel
theorem dX8_often_216 : decode cX8_often 216 = .ok (.getfield 79, 3) := by decide +kernel
theorem dX8_often_219 : decode cX8_often 219 = .ok (.iload 9, 2) := by decide +kernel
theorem dX8_often_221 : decode cX8_often 221 = .ok (.iaload, 1) := by decide +kernel
theorem dX8_often_222 : decode cX8_often 222 = .ok (.iadd, 1) := by decide +kernel
theorem dX8_often_223 : decode cX8_often 223 = .ok (.istore 10, 2) := by decide +kernel
theorem dX8_often_225 : decode cX8_often 225 = .ok (.iload 9, 2) := by decide +kernel
theorem dX8_often_227 : decode cX8_often 227 = .ok (.aload_n 0, 1) := by decide +kernel
theorem dX8_often_228 : decode cX8_often 228 = .ok (.getfield 19, 3) := by decide +kernel
theorem dX8_often_231 : decode cX8_often 231 = .ok (.iload 4, 2) := by decide +kernel
theorem dX8_often_233 : decode cX8_often 233 = .ok (.iload 9, 2) := by decide +kernel
theorem dX8_often_235 : decode cX8_often 235 = .ok (.iadd, 1) := by decide +kernel
theorem dX8_often_236 : decode cX8_often 236 = .ok (.iaload, 1) := by decide +kernel
theorem dX8_often_237 : decode cX8_often 237 = .ok (.iadd, 1) := by decide +kernel
theorem dX8_often_238 : decode cX8_often 238 = .ok (.istore 9, 2) := by decide +kernel
theorem dX8_often_240 : decode cX8_often 240 = .ok (.iinc 12 1, 3) := by decide +kernel
theorem dX8_often_243 : decode cX8_often 243 = .ok (.goto (-96), 3) := by decide +kernel
theorem dX8_often_246 : decode cX8_often 246 = .ok (.iload 10, 2) := by decide +kernel
theorem dX8_often_248 : decode cX8_often 248 = .ok (.iload 11, 2) := by decide +kernel
theorem dX8_often_250 : decode cX8_often 250 = .ok (.iadd, 1) := by decide +kernel
theorem dX8_often_251 : decode cX8_often 251 = .ok (.istore 10, 2) := by decide +kernel
theorem dX8_often_253 : decode cX8_often 253 = .ok (.aload_n 0, 1) := by decide +kernel
theorem dX8_often_254 : decode cX8_often 254 = .ok (.getfield 79, 3) := by decide +kernel
theorem dX8_often_257 : decode cX8_often 257 = .ok (.iload 5, 2) := by decide +kernel
theorem dX8_often_259 : decode cX8_often 259 = .ok (.iload 10, 2) := by decide +kernel
theorem dX8_often_261 : decode cX8_often 261 = .ok (.iconst 1, 1) := by decide +kernel
theorem dX8_often_262 : decode cX8_often 262 = .ok (.if_icmp .gt 15, 3) := by decide +kernel
theorem dX8_often_265 : decode cX8_often 265 = .ok (.iload 6, 2) := by decide +kernel
theorem dX8_often_267 : decode cX8_often 267 = .ok (.bipush 64, 2) := by decide +kernel
theorem dX8_often_269 : decode cX8_often 269 = .ok (.if_icmp .ne 12, 3) := by decide +kernel
theorem dX8_often_272 : decode cX8_often 272 = .ok (.iload 10, 2) := by decide +kernel
theorem dX8_often_274 : decode cX8_often 274 = .ok (.ifCond .le 7, 3) := by decide +kernel
theorem dX8_often_277 : decode cX8_often 277 = .ok (.iconst 2, 1) := by decide +kernel
theorem dX8_often_278 : decode cX8_often 278 = .ok (.goto 5, 3) := by decide +kernel
theorem dX8_often_281 : decode cX8_often 281 = .ok (.iload 10, 2) := by decide +kernel
theorem dX8_often_283 : decode cX8_often 283 = .ok (.iastore, 1) := by decide +kernel
theorem dX8_often_284 : decode cX8_often 284 = .ok (.iinc 5 (-1), 3) := by decide +kernel
theorem dX8_often_287 : decode cX8_often 287 = .ok (.goto (-240), 3) := by decide +kernel
theorem dX8_often_290 : decode cX8_often 290 = .ok (.aload_n 0, 1) := by decide +kernel
theorem dX8_often_291 : decode cX8_often 291 = .ok (.getfield 79, 3) := by decide +kernel
theorem dX8_often_294 : decode cX8_often 294 = .ok (.iconst 0, 1) := by decide +kernel
theorem dX8_often_295 : decode cX8_often 295 = .ok (.iaload, 1) := by decide +kernel
theorem dX8_often_296 : decode cX8_often 296 = .ok (.ireturn, 1) := by decide +kernel
theorem dX8_giveRow_0 : decode cX8_giveRow 0 = .ok (.iload_n 1, 1) := by decide +kernel
theorem dX8_giveRow_1 : decode cX8_giveRow 1 = .ok (.istore 4, 2) := by decide +kernel
theorem dX8_giveRow_3 : decode cX8_giveRow 3 = .ok (.iload_n 2, 1) := by decide +kernel
theorem dX8_giveRow_4 : decode cX8_giveRow 4 = .ok (.iconst 1, 1) := by decide +kernel
theorem dX8_giveRow_5 : decode cX8_giveRow 5 = .ok (.isub, 1) := by decide +kernel
theorem dX8_giveRow_6 : decode cX8_giveRow 6 = .ok (.istore 5, 2) := by decide +kernel
theorem dX8_giveRow_8 : decode cX8_giveRow 8 = .ok (.iload 5, 2) := by decide +kernel
theorem dX8_giveRow_10 : decode cX8_giveRow 10 = .ok (.ifCond .lt 30, 3) := by decide +kernel
theorem dX8_giveRow_13 : decode cX8_giveRow 13 = .ok (.aload_n 0, 1) := by decide +kernel
theorem dX8_giveRow_14 : decode cX8_giveRow 14 = .ok (.getfield 67, 3) := by decide +kernel
theorem dX8_giveRow_17 : decode cX8_giveRow 17 = .ok (.iload 5, 2) := by decide +kernel
theorem dX8_giveRow_19 : decode cX8_giveRow 19 = .ok (.iload 4, 2) := by decide +kernel
theorem dX8_giveRow_21 : decode cX8_giveRow 21 = .ok (.iload_n 3, 1) := by decide +kernel
theorem dX8_giveRow_22 : decode cX8_giveRow 22 = .ok (.iconst 1, 1) := by decide +kernel
theorem dX8_giveRow_23 : decode cX8_giveRow 23 = .ok (.iadd, 1) := by decide +kernel
theorem dX8_giveRow_24 : decode cX8_giveRow 24 = .ok (.irem, 1) := by decide +kernel
theorem dX8_giveRow_25 : decode cX8_giveRow 25 = .ok (.iastore, 1) := by decide +kernel
theorem dX8_giveRow_26 : decode cX8_giveRow 26 = .ok (.iload 4, 2) := by decide +kernel
theorem dX8_giveRow_28 : decode cX8_giveRow 28 = .ok (.iload_n 3, 1) := by decide +kernel
theorem dX8_giveRow_29 : decode cX8_giveRow 29 = .ok (.iconst 1, 1) := by decide +kernel
theorem dX8_giveRow_30 : decode cX8_giveRow 30 = .ok (.iadd, 1) := by decide +kernel
theorem dX8_giveRow_31 : decode cX8_giveRow 31 = .ok (.idiv, 1) := by decide +kernel
theorem dX8_giveRow_32 : decode cX8_giveRow 32 = .ok (.istore 4, 2) := by decide +kernel
theorem dX8_giveRow_34 : decode cX8_giveRow 34 = .ok (.iinc 5 (-1), 3) := by decide +kernel
theorem dX8_giveRow_37 : decode cX8_giveRow 37 = .ok (.goto (-29), 3) := by decide +kernel
theorem dX8_giveRow_40 : decode cX8_giveRow 40 = .ok (.aload_n 0, 1) := by decide +kernel
theorem dX8_giveRow_41 : decode cX8_giveRow 41 = .ok (.iload_n 2, 1) := by decide +kernel
theorem dX8_giveRow_42 : decode cX8_giveRow 42 = .ok (.putfield 203, 3) := by decide +kernel
theorem dX8_giveRow_45 : decode cX8_giveRow 45 = .ok (.return_, 1) := by decide +kernel
theorem dX8_rows_0 : decode cX8_rows 0 = .ok (.iconst 1, 1) := by decide +kernel
theorem dX8_rows_1 : decode cX8_rows 1 = .ok (.istore_n 2, 1) := by decide +kernel
theorem dX8_rows_2 : decode cX8_rows 2 = .ok (.iconst 0, 1) := by decide +kernel
theorem dX8_rows_3 : decode cX8_rows 3 = .ok (.istore_n 3, 1) := by decide +kernel
theorem dX8_rows_4 : decode cX8_rows 4 = .ok (.iload_n 3, 1) := by decide +kernel
theorem dX8_rows_5 : decode cX8_rows 5 = .ok (.iload_n 0, 1) := by decide +kernel
theorem dX8_rows_6 : decode cX8_rows 6 = .ok (.if_icmp .ge 15, 3) := by decide +kernel
theorem dX8_rows_9 : decode cX8_rows 9 = .ok (.iload_n 2, 1) := by decide +kernel
theorem dX8_rows_10 : decode cX8_rows 10 = .ok (.iload_n 1, 1) := by decide +kernel
theorem dX8_rows_11 : decode cX8_rows 11 = .ok (.iconst 1, 1) := by decide +kernel
theorem dX8_rows_12 : decode cX8_rows 12 = .ok (.iadd, 1) := by decide +kernel
theorem dX8_rows_13 : decode cX8_rows 13 = .ok (.imul, 1) := by decide +kernel
theorem dX8_rows_14 : decode cX8_rows 14 = .ok (.istore_n 2, 1) := by decide +kernel
theorem dX8_rows_15 : decode cX8_rows 15 = .ok (.iinc 3 1, 3) := by decide +kernel
theorem dX8_rows_18 : decode cX8_rows 18 = .ok (.goto (-14), 3) := by decide +kernel
theorem dX8_rows_21 : decode cX8_rows 21 = .ok (.iload_n 2, 1) := by decide +kernel
theorem dX8_rows_22 : decode cX8_rows 22 = .ok (.ireturn, 1) := by decide +kernel
theorem dX8_areTold_0 : decode cX8_areTold 0 = .ok (.iload_n 0, 1) := by decide +kernel
theorem dX8_areTold_1 : decode cX8_areTold 1 = .ok (.iconst 0, 1) := by decide +kernel
theorem dX8_areTold_2 : decode cX8_areTold 2 = .ok (.bipush 7, 2) := by decide +kernel
theorem dX8_areTold_4 : decode cX8_areTold 4 = .ok (.invokestatic 85, 3) := by decide +kernel
theorem dX8_areTold_7 : decode cX8_areTold 7 = .ok (.ifCond .eq 25, 3) := by decide +kernel
theorem dX8_areTold_10 : decode cX8_areTold 10 = .ok (.iload_n 1, 1) := by decide +kernel
theorem dX8_areTold_11 : decode cX8_areTold 11 = .ok (.iconst 0, 1) := by decide +kernel
theorem dX8_areTold_12 : decode cX8_areTold 12 = .ok (.iconst 4, 1) := by decide +kernel
theorem dX8_areTold_13 : decode cX8_areTold 13 = .ok (.invokestatic 85, 3) := by decide +kernel
theorem dX8_areTold_16 : decode cX8_areTold 16 = .ok (.ifCond .eq 16, 3) := by decide +kernel
theorem dX8_areTold_19 : decode cX8_areTold 19 = .ok (.iload_n 2, 1) := by decide +kernel
theorem dX8_areTold_20 : decode cX8_areTold 20 = .ok (.iconst 0, 1) := by decide +kernel
theorem dX8_areTold_21 : decode cX8_areTold 21 = .ok (.iconst 2, 1) := by decide +kernel
theorem dX8_areTold_22 : decode cX8_areTold 22 = .ok (.invokestatic 85, 3) := by decide +kernel
theorem dX8_areTold_25 : decode cX8_areTold 25 = .ok (.ifCond .eq 7, 3) := by decide +kernel
theorem dX8_areTold_28 : decode cX8_areTold 28 = .ok (.iconst 1, 1) := by decide +kernel
theorem dX8_areTold_29 : decode cX8_areTold 29 = .ok (.goto 4, 3) := by decide +kernel
theorem dX8_areTold_32 : decode cX8_areTold 32 = .ok (.iconst 0, 1) := by decide +kernel
theorem dX8_areTold_33 : decode cX8_areTold 33 = .ok (.ireturn, 1) := by decide +kernel
theorem dX8_all_0 : decode cX8_all 0 = .ok (.iload_n 1, 1) := by decide +kernel
theorem dX8_all_1 : decode cX8_all 1 = .ok (.invokestatic 101, 3) := by decide +kernel
theorem dX8_all_4 : decode cX8_all 4 = .ok (.ifCond .ne 5, 3) := by decide +kernel
theorem dX8_all_7 : decode cX8_all 7 = .ok (.iconst (-1), 1) := by decide +kernel
theorem dX8_all_8 : decode cX8_all 8 = .ok (.ireturn, 1) := by decide +kernel
theorem dX8_all_9 : decode cX8_all 9 = .ok (.iload_n 2, 1) := by decide +kernel
theorem dX8_all_10 : decode cX8_all 10 = .ok (.iload_n 3, 1) := by decide +kernel
theorem dX8_all_11 : decode cX8_all 11 = .ok (.iload 4, 2) := by decide +kernel
theorem dX8_all_13 : decode cX8_all 13 = .ok (.invokestatic 218, 3) := by decide +kernel
theorem dX8_all_16 : decode cX8_all 16 = .ok (.ifCond .ne 6, 3) := by decide +kernel
theorem dX8_all_19 : decode cX8_all 19 = .ok (.bipush (-2), 2) := by decide +kernel
theorem dX8_all_21 : decode cX8_all 21 = .ok (.ireturn, 1) := by decide +kernel
theorem dX8_all_22 : decode cX8_all 22 = .ok (.iconst 0, 1) := by decide +kernel
theorem dX8_all_23 : decode cX8_all 23 = .ok (.istore 5, 2) := by decide +kernel
theorem dX8_all_25 : decode cX8_all 25 = .ok (.iconst 0, 1) := by decide +kernel
theorem dX8_all_26 : decode cX8_all 26 = .ok (.istore 6, 2) := by decide +kernel
theorem dX8_all_28 : decode cX8_all 28 = .ok (.iload 6, 2) := by decide +kernel
theorem dX8_all_30 : decode cX8_all 30 = .ok (.iload_n 3, 1) := by decide +kernel
theorem dX8_all_31 : decode cX8_all 31 = .ok (.iload 4, 2) := by decide +kernel
theorem dX8_all_33 : decode cX8_all 33 = .ok (.invokestatic 221, 3) := by decide +kernel
theorem dX8_all_36 : decode cX8_all 36 = .ok (.if_icmp .ge 31, 3) := by decide +kernel
theorem dX8_all_39 : decode cX8_all 39 = .ok (.aload_n 0, 1) := by decide +kernel
theorem dX8_all_40 : decode cX8_all 40 = .ok (.iload 6, 2) := by decide +kernel
theorem dX8_all_42 : decode cX8_all 42 = .ok (.iload_n 3, 1) := by decide +kernel
theorem dX8_all_43 : decode cX8_all 43 = .ok (.iload 4, 2) := by decide +kernel
theorem dX8_all_45 : decode cX8_all 45 = .ok (.invokevirtual 224, 3) := by decide +kernel
theorem dX8_all_48 : decode cX8_all 48 = .ok (.iload 5, 2) := by decide +kernel
theorem dX8_all_50 : decode cX8_all 50 = .ok (.iconst 1, 1) := by decide +kernel
theorem dX8_all_51 : decode cX8_all 51 = .ok (.aload_n 0, 1) := by decide +kernel
theorem dX8_all_52 : decode cX8_all 52 = .ok (.iload_n 1, 1) := by decide +kernel
theorem dX8_all_53 : decode cX8_all 53 = .ok (.iload_n 2, 1) := by decide +kernel
theorem dX8_all_54 : decode cX8_all 54 = .ok (.invokevirtual 209, 3) := by decide +kernel
theorem dX8_all_57 : decode cX8_all 57 = .ok (.ishl, 1) := by decide +kernel
theorem dX8_all_58 : decode cX8_all 58 = .ok (.ior, 1) := by decide +kernel
theorem dX8_all_59 : decode cX8_all 59 = .ok (.istore 5, 2) := by decide +kernel
theorem dX8_all_61 : decode cX8_all 61 = .ok (.iinc 6 1, 3) := by decide +kernel
theorem dX8_all_64 : decode cX8_all 64 = .ok (.goto (-36), 3) := by decide +kernel
theorem dX8_all_67 : decode cX8_all 67 = .ok (.iload 5, 2) := by decide +kernel
theorem dX8_all_69 : decode cX8_all 69 = .ok (.ireturn, 1) := by decide +kernel
theorem dX8_row_0 : decode cX8_row 0 = .ok (.iload_n 1, 1) := by decide +kernel
theorem dX8_row_1 : decode cX8_row 1 = .ok (.invokestatic 101, 3) := by decide +kernel
theorem dX8_row_4 : decode cX8_row 4 = .ok (.ifCond .ne 5, 3) := by decide +kernel
theorem dX8_row_7 : decode cX8_row 7 = .ok (.iconst (-1), 1) := by decide +kernel
theorem dX8_row_8 : decode cX8_row 8 = .ok (.ireturn, 1) := by decide +kernel
theorem dX8_row_9 : decode cX8_row 9 = .ok (.iload_n 2, 1) := by decide +kernel
theorem dX8_row_10 : decode cX8_row 10 = .ok (.iload_n 3, 1) := by decide +kernel
theorem dX8_row_11 : decode cX8_row 11 = .ok (.iload 4, 2) := by decide +kernel
theorem dX8_row_13 : decode cX8_row 13 = .ok (.invokestatic 218, 3) := by decide +kernel
theorem dX8_row_16 : decode cX8_row 16 = .ok (.ifCond .eq 14, 3) := by decide +kernel
theorem dX8_row_19 : decode cX8_row 19 = .ok (.iload 5, 2) := by decide +kernel
theorem dX8_row_21 : decode cX8_row 21 = .ok (.iconst 0, 1) := by decide +kernel
theorem dX8_row_22 : decode cX8_row 22 = .ok (.bipush 9, 2) := by decide +kernel
theorem dX8_row_24 : decode cX8_row 24 = .ok (.invokestatic 85, 3) := by decide +kernel
theorem dX8_row_27 : decode cX8_row 27 = .ok (.ifCond .ne 6, 3) := by decide +kernel
theorem dX8_row_30 : decode cX8_row 30 = .ok (.bipush (-2), 2) := by decide +kernel
theorem dX8_row_32 : decode cX8_row 32 = .ok (.ireturn, 1) := by decide +kernel
theorem dX8_row_33 : decode cX8_row 33 = .ok (.bipush (-6), 2) := by decide +kernel
theorem dX8_row_35 : decode cX8_row 35 = .ok (.istore 7, 2) := by decide +kernel
theorem dX8_row_37 : decode cX8_row 37 = .ok (.iconst 0, 1) := by decide +kernel
theorem dX8_row_38 : decode cX8_row 38 = .ok (.istore 8, 2) := by decide +kernel
theorem dX8_row_40 : decode cX8_row 40 = .ok (.iload 8, 2) := by decide +kernel
theorem dX8_row_42 : decode cX8_row 42 = .ok (.iload_n 3, 1) := by decide +kernel
theorem dX8_row_43 : decode cX8_row 43 = .ok (.iload 4, 2) := by decide +kernel
theorem dX8_row_45 : decode cX8_row 45 = .ok (.invokestatic 221, 3) := by decide +kernel
theorem dX8_row_48 : decode cX8_row 48 = .ok (.if_icmp .ge 81, 3) := by decide +kernel
theorem dX8_row_51 : decode cX8_row 51 = .ok (.aload_n 0, 1) := by decide +kernel
theorem dX8_row_52 : decode cX8_row 52 = .ok (.iload 8, 2) := by decide +kernel
theorem dX8_row_54 : decode cX8_row 54 = .ok (.iload_n 3, 1) := by decide +kernel
theorem dX8_row_55 : decode cX8_row 55 = .ok (.iload 4, 2) := by decide +kernel
theorem dX8_row_57 : decode cX8_row 57 = .ok (.invokevirtual 224, 3) := by decide +kernel
theorem dX8_row_60 : decode cX8_row 60 = .ok (.aload_n 0, 1) := by decide +kernel
theorem dX8_row_61 : decode cX8_row 61 = .ok (.iload_n 1, 1) := by decide +kernel
theorem dX8_row_62 : decode cX8_row 62 = .ok (.iload_n 2, 1) := by decide +kernel
theorem dX8_row_63 : decode cX8_row 63 = .ok (.invokevirtual 209, 3) := by decide +kernel
theorem dX8_row_66 : decode cX8_row 66 = .ok (.iload 5, 2) := by decide +kernel
theorem dX8_row_68 : decode cX8_row 68 = .ok (.if_icmp .ne 55, 3) := by decide +kernel
theorem dX8_row_71 : decode cX8_row 71 = .ok (.iload 7, 2) := by decide +kernel
theorem dX8_row_73 : decode cX8_row 73 = .ok (.ifCond .lt 12, 3) := by decide +kernel
theorem dX8_row_76 : decode cX8_row 76 = .ok (.aload_n 0, 1) := by decide +kernel
theorem dX8_row_77 : decode cX8_row 77 = .ok (.getfield 141, 3) := by decide +kernel
theorem dX8_row_80 : decode cX8_row 80 = .ok (.iload 7, 2) := by decide +kernel
theorem dX8_row_82 : decode cX8_row 82 = .ok (.if_icmp .ge 41, 3) := by decide +kernel
theorem dX8_row_85 : decode cX8_row 85 = .ok (.aload_n 0, 1) := by decide +kernel
theorem dX8_row_86 : decode cX8_row 86 = .ok (.getfield 141, 3) := by decide +kernel
theorem dX8_row_89 : decode cX8_row 89 = .ok (.istore 7, 2) := by decide +kernel
theorem dX8_row_91 : decode cX8_row 91 = .ok (.iconst 0, 1) := by decide +kernel
theorem dX8_row_92 : decode cX8_row 92 = .ok (.istore 9, 2) := by decide +kernel
theorem dX8_row_94 : decode cX8_row 94 = .ok (.iload 9, 2) := by decide +kernel
theorem dX8_row_96 : decode cX8_row 96 = .ok (.aload_n 0, 1) := by decide +kernel
theorem dX8_row_97 : decode cX8_row 97 = .ok (.getfield 141, 3) := by decide +kernel
theorem dX8_row_100 : decode cX8_row 100 = .ok (.if_icmp .ge 23, 3) := by decide +kernel
theorem dX8_row_103 : decode cX8_row 103 = .ok (.aload_n 0, 1) := by decide +kernel
theorem dX8_row_104 : decode cX8_row 104 = .ok (.getfield 82, 3) := by decide +kernel
theorem dX8_row_107 : decode cX8_row 107 = .ok (.iload 9, 2) := by decide +kernel
theorem dX8_row_109 : decode cX8_row 109 = .ok (.aload_n 0, 1) := by decide +kernel
theorem dX8_row_110 : decode cX8_row 110 = .ok (.getfield 67, 3) := by decide +kernel
theorem dX8_row_113 : decode cX8_row 113 = .ok (.iload 9, 2) := by decide +kernel
theorem dX8_row_115 : decode cX8_row 115 = .ok (.iaload, 1) := by decide +kernel
theorem dX8_row_116 : decode cX8_row 116 = .ok (.iastore, 1) := by decide +kernel
theorem dX8_row_117 : decode cX8_row 117 = .ok (.iinc 9 1, 3) := by decide +kernel
theorem dX8_row_120 : decode cX8_row 120 = .ok (.goto (-26), 3) := by decide +kernel
theorem dX8_row_123 : decode cX8_row 123 = .ok (.iinc 8 1, 3) := by decide +kernel
theorem dX8_row_126 : decode cX8_row 126 = .ok (.goto (-86), 3) := by decide +kernel
theorem dX8_row_129 : decode cX8_row 129 = .ok (.iload 7, 2) := by decide +kernel
theorem dX8_row_131 : decode cX8_row 131 = .ok (.ifCond .ge 8, 3) := by decide +kernel
theorem dX8_row_134 : decode cX8_row 134 = .ok (.bipush (-5), 2) := by decide +kernel
theorem dX8_row_136 : decode cX8_row 136 = .ok (.goto 39, 3) := by decide +kernel
theorem dX8_row_139 : decode cX8_row 139 = .ok (.iload 6, 2) := by decide +kernel
theorem dX8_row_141 : decode cX8_row 141 = .ok (.iconst (-1), 1) := by decide +kernel
theorem dX8_row_142 : decode cX8_row 142 = .ok (.if_icmp .ne 8, 3) := by decide +kernel
theorem dX8_row_145 : decode cX8_row 145 = .ok (.iload 7, 2) := by decide +kernel
theorem dX8_row_147 : decode cX8_row 147 = .ok (.goto 28, 3) := by decide +kernel
theorem dX8_row_150 : decode cX8_row 150 = .ok (.iload 6, 2) := by decide +kernel
theorem dX8_row_152 : decode cX8_row 152 = .ok (.iconst 0, 1) := by decide +kernel
theorem dX8_row_153 : decode cX8_row 153 = .ok (.iload 7, 2) := by decide +kernel
theorem dX8_row_155 : decode cX8_row 155 = .ok (.iconst 1, 1) := by decide +kernel
theorem dX8_row_156 : decode cX8_row 156 = .ok (.isub, 1) := by decide +kernel
theorem dX8_row_157 : decode cX8_row 157 = .ok (.invokestatic 85, 3) := by decide +kernel
theorem dX8_row_160 : decode cX8_row 160 = .ok (.ifCond .eq 13, 3) := by decide +kernel
theorem dX8_row_163 : decode cX8_row 163 = .ok (.aload_n 0, 1) := by decide +kernel
theorem dX8_row_164 : decode cX8_row 164 = .ok (.getfield 82, 3) := by decide +kernel
theorem dX8_row_167 : decode cX8_row 167 = .ok (.iload 6, 2) := by decide +kernel
theorem dX8_row_169 : decode cX8_row 169 = .ok (.iaload, 1) := by decide +kernel
theorem dX8_row_170 : decode cX8_row 170 = .ok (.goto 5, 3) := by decide +kernel
theorem dX8_row_173 : decode cX8_row 173 = .ok (.bipush (-6), 2) := by decide +kernel
theorem dX8_row_175 : decode cX8_row 175 = .ok (.ireturn, 1) := by decide +kernel
theorem dX8_apart_0 : decode cX8_apart 0 = .ok (.iload_n 1, 1) := by decide +kernel
theorem dX8_apart_1 : decode cX8_apart 1 = .ok (.invokestatic 101, 3) := by decide +kernel
theorem dX8_apart_4 : decode cX8_apart 4 = .ok (.ifCond .eq 10, 3) := by decide +kernel
theorem dX8_apart_7 : decode cX8_apart 7 = .ok (.iload_n 3, 1) := by decide +kernel
theorem dX8_apart_8 : decode cX8_apart 8 = .ok (.invokestatic 101, 3) := by decide +kernel
theorem dX8_apart_11 : decode cX8_apart 11 = .ok (.ifCond .ne 5, 3) := by decide +kernel
theorem dX8_apart_14 : decode cX8_apart 14 = .ok (.iconst (-1), 1) := by decide +kernel
theorem dX8_apart_15 : decode cX8_apart 15 = .ok (.ireturn, 1) := by decide +kernel
theorem dX8_apart_16 : decode cX8_apart 16 = .ok (.iload_n 2, 1) := by decide +kernel
theorem dX8_apart_17 : decode cX8_apart 17 = .ok (.iload 5, 2) := by decide +kernel
theorem dX8_apart_19 : decode cX8_apart 19 = .ok (.iload 6, 2) := by decide +kernel
theorem dX8_apart_21 : decode cX8_apart 21 = .ok (.invokestatic 218, 3) := by decide +kernel
theorem dX8_apart_24 : decode cX8_apart 24 = .ok (.ifCond .eq 14, 3) := by decide +kernel
theorem dX8_apart_27 : decode cX8_apart 27 = .ok (.iload 4, 2) := by decide +kernel
theorem dX8_apart_29 : decode cX8_apart 29 = .ok (.iconst 0, 1) := by decide +kernel
theorem dX8_apart_30 : decode cX8_apart 30 = .ok (.bipush 7, 2) := by decide +kernel
theorem dX8_apart_32 : decode cX8_apart 32 = .ok (.invokestatic 85, 3) := by decide +kernel
theorem dX8_apart_35 : decode cX8_apart 35 = .ok (.ifCond .ne 6, 3) := by decide +kernel
theorem dX8_apart_38 : decode cX8_apart 38 = .ok (.bipush (-2), 2) := by decide +kernel
theorem dX8_apart_40 : decode cX8_apart 40 = .ok (.ireturn, 1) := by decide +kernel
theorem dX8_apart_41 : decode cX8_apart 41 = .ok (.iconst 0, 1) := by decide +kernel
theorem dX8_apart_42 : decode cX8_apart 42 = .ok (.istore 8, 2) := by decide +kernel
theorem dX8_apart_44 : decode cX8_apart 44 = .ok (.iload 8, 2) := by decide +kernel
theorem dX8_apart_46 : decode cX8_apart 46 = .ok (.iload 5, 2) := by decide +kernel
theorem dX8_apart_48 : decode cX8_apart 48 = .ok (.if_icmp .gt 139, 3) := by decide +kernel
theorem dX8_apart_51 : decode cX8_apart 51 = .ok (.iconst 0, 1) := by decide +kernel
theorem dX8_apart_52 : decode cX8_apart 52 = .ok (.istore 9, 2) := by decide +kernel
theorem dX8_apart_54 : decode cX8_apart 54 = .ok (.iload 9, 2) := by decide +kernel
theorem dX8_apart_56 : decode cX8_apart 56 = .ok (.iload 8, 2) := by decide +kernel
theorem dX8_apart_58 : decode cX8_apart 58 = .ok (.iload 6, 2) := by decide +kernel
theorem dX8_apart_60 : decode cX8_apart 60 = .ok (.invokestatic 221, 3) := by decide +kernel
theorem dX8_apart_63 : decode cX8_apart 63 = .ok (.if_icmp .ge 118, 3) := by decide +kernel
theorem dX8_apart_66 : decode cX8_apart 66 = .ok (.aload_n 0, 1) := by decide +kernel
theorem dX8_apart_67 : decode cX8_apart 67 = .ok (.iload 9, 2) := by decide +kernel
theorem dX8_apart_69 : decode cX8_apart 69 = .ok (.iload 8, 2) := by decide +kernel
theorem dX8_apart_71 : decode cX8_apart 71 = .ok (.iload 6, 2) := by decide +kernel
theorem dX8_apart_73 : decode cX8_apart 73 = .ok (.invokevirtual 224, 3) := by decide +kernel
theorem dX8_apart_76 : decode cX8_apart 76 = .ok (.aload_n 0, 1) := by decide +kernel
theorem dX8_apart_77 : decode cX8_apart 77 = .ok (.iload_n 1, 1) := by decide +kernel
theorem dX8_apart_78 : decode cX8_apart 78 = .ok (.iload_n 2, 1) := by decide +kernel
theorem dX8_apart_79 : decode cX8_apart 79 = .ok (.invokevirtual 209, 3) := by decide +kernel
theorem dX8_apart_82 : decode cX8_apart 82 = .ok (.istore 10, 2) := by decide +kernel
theorem dX8_apart_84 : decode cX8_apart 84 = .ok (.aload_n 0, 1) := by decide +kernel
theorem dX8_apart_85 : decode cX8_apart 85 = .ok (.getfield 147, 3) := by decide +kernel
theorem dX8_apart_88 : decode cX8_apart 88 = .ok (.istore 11, 2) := by decide +kernel
theorem dX8_apart_90 : decode cX8_apart 90 = .ok (.aload_n 0, 1) := by decide +kernel
theorem dX8_apart_91 : decode cX8_apart 91 = .ok (.getfield 150, 3) := by decide +kernel
theorem dX8_apart_94 : decode cX8_apart 94 = .ok (.istore 12, 2) := by decide +kernel
theorem dX8_apart_96 : decode cX8_apart 96 = .ok (.aload_n 0, 1) := by decide +kernel
theorem dX8_apart_97 : decode cX8_apart 97 = .ok (.iload_n 3, 1) := by decide +kernel
theorem dX8_apart_98 : decode cX8_apart 98 = .ok (.iload 4, 2) := by decide +kernel
theorem dX8_apart_100 : decode cX8_apart 100 = .ok (.invokevirtual 209, 3) := by decide +kernel
theorem dX8_apart_103 : decode cX8_apart 103 = .ok (.iload 10, 2) := by decide +kernel
theorem dX8_apart_105 : decode cX8_apart 105 = .ok (.if_icmp .ne 25, 3) := by decide +kernel
theorem dX8_apart_108 : decode cX8_apart 108 = .ok (.aload_n 0, 1) := by decide +kernel
theorem dX8_apart_109 : decode cX8_apart 109 = .ok (.getfield 147, 3) := by decide +kernel
theorem dX8_apart_112 : decode cX8_apart 112 = .ok (.iload 11, 2) := by decide +kernel
theorem dX8_apart_114 : decode cX8_apart 114 = .ok (.if_icmp .ne 16, 3) := by decide +kernel
theorem dX8_apart_117 : decode cX8_apart 117 = .ok (.aload_n 0, 1) := by decide +kernel
theorem dX8_apart_118 : decode cX8_apart 118 = .ok (.getfield 150, 3) := by decide +kernel
theorem dX8_apart_121 : decode cX8_apart 121 = .ok (.iload 12, 2) := by decide +kernel
theorem dX8_apart_123 : decode cX8_apart 123 = .ok (.if_icmp .ne 7, 3) := by decide +kernel
theorem dX8_apart_126 : decode cX8_apart 126 = .ok (.iconst 1, 1) := by decide +kernel
theorem dX8_apart_127 : decode cX8_apart 127 = .ok (.goto 4, 3) := by decide +kernel
theorem dX8_apart_130 : decode cX8_apart 130 = .ok (.iconst 0, 1) := by decide +kernel
theorem dX8_apart_131 : decode cX8_apart 131 = .ok (.istore 13, 2) := by decide +kernel
theorem dX8_apart_133 : decode cX8_apart 133 = .ok (.iload 13, 2) := by decide +kernel
theorem dX8_apart_135 : decode cX8_apart 135 = .ok (.ifCond .ne 40, 3) := by decide +kernel
theorem dX8_apart_138 : decode cX8_apart 138 = .ok (.iload 7, 2) := by decide +kernel
theorem dX8_apart_140 : decode cX8_apart 140 = .ok (.iconst (-1), 1) := by decide +kernel
theorem dX8_apart_141 : decode cX8_apart 141 = .ok (.if_icmp .ne 8, 3) := by decide +kernel
theorem dX8_apart_144 : decode cX8_apart 144 = .ok (.iload 8, 2) := by decide +kernel
theorem dX8_apart_146 : decode cX8_apart 146 = .ok (.goto 28, 3) := by decide +kernel
theorem dX8_apart_149 : decode cX8_apart 149 = .ok (.iload 7, 2) := by decide +kernel
theorem dX8_apart_151 : decode cX8_apart 151 = .ok (.iconst 0, 1) := by decide +kernel
theorem dX8_apart_152 : decode cX8_apart 152 = .ok (.iload 8, 2) := by decide +kernel
theorem dX8_apart_154 : decode cX8_apart 154 = .ok (.iconst 1, 1) := by decide +kernel
theorem dX8_apart_155 : decode cX8_apart 155 = .ok (.isub, 1) := by decide +kernel
theorem dX8_apart_156 : decode cX8_apart 156 = .ok (.invokestatic 85, 3) := by decide +kernel
theorem dX8_apart_159 : decode cX8_apart 159 = .ok (.ifCond .eq 13, 3) := by decide +kernel
theorem dX8_apart_162 : decode cX8_apart 162 = .ok (.aload_n 0, 1) := by decide +kernel
theorem dX8_apart_163 : decode cX8_apart 163 = .ok (.getfield 67, 3) := by decide +kernel
theorem dX8_apart_166 : decode cX8_apart 166 = .ok (.iload 7, 2) := by decide +kernel
theorem dX8_apart_168 : decode cX8_apart 168 = .ok (.iaload, 1) := by decide +kernel
theorem dX8_apart_169 : decode cX8_apart 169 = .ok (.goto 5, 3) := by decide +kernel
theorem dX8_apart_172 : decode cX8_apart 172 = .ok (.bipush (-6), 2) := by decide +kernel
theorem dX8_apart_174 : decode cX8_apart 174 = .ok (.ireturn, 1) := by decide +kernel
theorem dX8_apart_175 : decode cX8_apart 175 = .ok (.iinc 9 1, 3) := by decide +kernel
theorem dX8_apart_178 : decode cX8_apart 178 = .ok (.goto (-124), 3) := by decide +kernel
theorem dX8_apart_181 : decode cX8_apart 181 = .ok (.iinc 8 1, 3) := by decide +kernel
theorem dX8_apart_184 : decode cX8_apart 184 = .ok (.goto (-140), 3) := by decide +kernel
theorem dX8_apart_187 : decode cX8_apart 187 = .ok (.bipush (-6), 2) := by decide +kernel
theorem dX8_apart_189 : decode cX8_apart 189 = .ok (.ireturn, 1) := by decide +kernel
theorem dX8_told_0 : decode cX8_told 0 = .ok (.iload_n 1, 1) := by decide +kernel
theorem dX8_told_1 : decode cX8_told 1 = .ok (.ifCond .ne 10, 3) := by decide +kernel
theorem dX8_told_4 : decode cX8_told 4 = .ok (.aload_n 0, 1) := by decide +kernel
theorem dX8_told_5 : decode cX8_told 5 = .ok (.getfield 89, 3) := by decide +kernel
theorem dX8_told_8 : decode cX8_told 8 = .ok (.goto 40, 3) := by decide +kernel
theorem dX8_told_11 : decode cX8_told 11 = .ok (.iload_n 1, 1) := by decide +kernel
theorem dX8_told_12 : decode cX8_told 12 = .ok (.iconst 1, 1) := by decide +kernel
theorem dX8_told_13 : decode cX8_told 13 = .ok (.if_icmp .ne 10, 3) := by decide +kernel
theorem dX8_told_16 : decode cX8_told 16 = .ok (.aload_n 0, 1) := by decide +kernel
theorem dX8_told_17 : decode cX8_told 17 = .ok (.getfield 117, 3) := by decide +kernel
theorem dX8_told_20 : decode cX8_told 20 = .ok (.goto 28, 3) := by decide +kernel
theorem dX8_told_23 : decode cX8_told 23 = .ok (.iload_n 1, 1) := by decide +kernel
theorem dX8_told_24 : decode cX8_told 24 = .ok (.bipush 10, 2) := by decide +kernel
theorem dX8_told_26 : decode cX8_told 26 = .ok (.bipush 13, 2) := by decide +kernel
theorem dX8_told_28 : decode cX8_told 28 = .ok (.invokestatic 85, 3) := by decide +kernel
theorem dX8_told_31 : decode cX8_told 31 = .ok (.ifCond .eq 15, 3) := by decide +kernel
theorem dX8_told_34 : decode cX8_told 34 = .ok (.aload_n 0, 1) := by decide +kernel
theorem dX8_told_35 : decode cX8_told 35 = .ok (.getfield 13, 3) := by decide +kernel
theorem dX8_told_38 : decode cX8_told 38 = .ok (.iload_n 1, 1) := by decide +kernel
theorem dX8_told_39 : decode cX8_told 39 = .ok (.bipush 10, 2) := by decide +kernel
theorem dX8_told_41 : decode cX8_told 41 = .ok (.isub, 1) := by decide +kernel
theorem dX8_told_42 : decode cX8_told 42 = .ok (.iaload, 1) := by decide +kernel
theorem dX8_told_43 : decode cX8_told 43 = .ok (.goto 5, 3) := by decide +kernel
theorem dX8_told_46 : decode cX8_told 46 = .ok (.bipush (-2), 2) := by decide +kernel
theorem dX8_told_48 : decode cX8_told 48 = .ok (.ireturn, 1) := by decide +kernel
theorem dL_law_0 : decode cL_law 0 = .ok (.new 7, 3) := by decide +kernel
theorem dL_law_3 : decode cL_law 3 = .ok (.dup, 1) := by decide +kernel
theorem dL_law_4 : decode cL_law 4 = .ok (.invokespecial 9, 3) := by decide +kernel
theorem dL_law_7 : decode cL_law 7 = .ok (.astore_n 1, 1) := by decide +kernel
theorem dL_law_8 : decode cL_law 8 = .ok (.new 10, 3) := by decide +kernel
theorem dL_law_11 : decode cL_law 11 = .ok (.dup, 1) := by decide +kernel
theorem dL_law_12 : decode cL_law 12 = .ok (.invokespecial 12, 3) := by decide +kernel
theorem dL_law_15 : decode cL_law 15 = .ok (.astore_n 2, 1) := by decide +kernel
theorem dL_law_16 : decode cL_law 16 = .ok (.iconst 0, 1) := by decide +kernel
theorem dL_law_17 : decode cL_law 17 = .ok (.istore_n 3, 1) := by decide +kernel
theorem dL_law_18 : decode cL_law 18 = .ok (.iload_n 3, 1) := by decide +kernel
theorem dL_law_19 : decode cL_law 19 = .ok (.aload_n 0, 1) := by decide +kernel
theorem dL_law_20 : decode cL_law 20 = .ok (.arraylength, 1) := by decide +kernel
theorem dL_law_21 : decode cL_law 21 = .ok (.bipush 8, 2) := by decide +kernel
theorem dL_law_23 : decode cL_law 23 = .ok (.isub, 1) := by decide +kernel
theorem dL_law_24 : decode cL_law 24 = .ok (.if_icmp .gt 695, 3) := by decide +kernel
theorem dL_law_27 : decode cL_law 27 = .ok (.aload_n 0, 1) := by decide +kernel
theorem dL_law_28 : decode cL_law 28 = .ok (.iload_n 3, 1) := by decide +kernel
theorem dL_law_29 : decode cL_law 29 = .ok (.iaload, 1) := by decide +kernel
theorem dL_law_30 : decode cL_law 30 = .ok (.bipush 31, 2) := by decide +kernel
theorem dL_law_32 : decode cL_law 32 = .ok (.iand, 1) := by decide +kernel
theorem dL_law_33 : decode cL_law 33 = .ok (.tableswitch 680 0 16 #[83, 106, 119, 142, 165, 198, 231, 254, 277, 290, 333, 376, 409, 442, 495, 570, 657], 83) := by decide +kernel
theorem dL_law_116 : decode cL_law 116 = .ok (.aload_n 1, 1) := by decide +kernel
theorem dL_law_117 : decode cL_law 117 = .ok (.aload_n 0, 1) := by decide +kernel
theorem dL_law_118 : decode cL_law 118 = .ok (.iload_n 3, 1) := by decide +kernel
theorem dL_law_119 : decode cL_law 119 = .ok (.iconst 1, 1) := by decide +kernel
theorem dL_law_120 : decode cL_law 120 = .ok (.iadd, 1) := by decide +kernel
theorem dL_law_121 : decode cL_law 121 = .ok (.iaload, 1) := by decide +kernel
theorem dL_law_122 : decode cL_law 122 = .ok (.invokevirtual 13, 3) := by decide +kernel
theorem dL_law_125 : decode cL_law 125 = .ok (.aload_n 2, 1) := by decide +kernel
theorem dL_law_126 : decode cL_law 126 = .ok (.aload_n 0, 1) := by decide +kernel
theorem dL_law_127 : decode cL_law 127 = .ok (.iload_n 3, 1) := by decide +kernel
theorem dL_law_128 : decode cL_law 128 = .ok (.iconst 1, 1) := by decide +kernel
theorem dL_law_129 : decode cL_law 129 = .ok (.iadd, 1) := by decide +kernel
theorem dL_law_130 : decode cL_law 130 = .ok (.iaload, 1) := by decide +kernel
theorem dL_law_131 : decode cL_law 131 = .ok (.invokevirtual 17, 3) := by decide +kernel
theorem dL_law_134 : decode cL_law 134 = .ok (.if_icmp .eq 579, 3) := by decide +kernel
theorem dL_law_137 : decode cL_law 137 = .ok (.iconst 0, 1) := by decide +kernel
theorem dL_law_138 : decode cL_law 138 = .ok (.ireturn, 1) := by decide +kernel
theorem dL_law_139 : decode cL_law 139 = .ok (.aload_n 1, 1) := by decide +kernel
theorem dL_law_140 : decode cL_law 140 = .ok (.invokevirtual 18, 3) := by decide +kernel
theorem dL_law_143 : decode cL_law 143 = .ok (.aload_n 2, 1) := by decide +kernel
theorem dL_law_144 : decode cL_law 144 = .ok (.invokevirtual 22, 3) := by decide +kernel
theorem dL_law_147 : decode cL_law 147 = .ok (.if_icmp .eq 566, 3) := by decide +kernel
theorem dL_law_150 : decode cL_law 150 = .ok (.iconst 0, 1) := by decide +kernel
theorem dL_law_151 : decode cL_law 151 = .ok (.ireturn, 1) := by decide +kernel
theorem dL_law_152 : decode cL_law 152 = .ok (.aload_n 1, 1) := by decide +kernel
theorem dL_law_153 : decode cL_law 153 = .ok (.aload_n 0, 1) := by decide +kernel
theorem dL_law_154 : decode cL_law 154 = .ok (.iload_n 3, 1) := by decide +kernel
theorem dL_law_155 : decode cL_law 155 = .ok (.iconst 1, 1) := by decide +kernel
theorem dL_law_156 : decode cL_law 156 = .ok (.iadd, 1) := by decide +kernel
theorem dL_law_157 : decode cL_law 157 = .ok (.iaload, 1) := by decide +kernel
theorem dL_law_158 : decode cL_law 158 = .ok (.invokevirtual 23, 3) := by decide +kernel
theorem dL_law_161 : decode cL_law 161 = .ok (.aload_n 2, 1) := by decide +kernel
theorem dL_law_162 : decode cL_law 162 = .ok (.aload_n 0, 1) := by decide +kernel
theorem dL_law_163 : decode cL_law 163 = .ok (.iload_n 3, 1) := by decide +kernel
theorem dL_law_164 : decode cL_law 164 = .ok (.iconst 1, 1) := by decide +kernel
theorem dL_law_165 : decode cL_law 165 = .ok (.iadd, 1) := by decide +kernel
theorem dL_law_166 : decode cL_law 166 = .ok (.iaload, 1) := by decide +kernel
theorem dL_law_167 : decode cL_law 167 = .ok (.invokevirtual 26, 3) := by decide +kernel
theorem dL_law_170 : decode cL_law 170 = .ok (.if_icmp .eq 543, 3) := by decide +kernel
theorem dL_law_173 : decode cL_law 173 = .ok (.iconst 0, 1) := by decide +kernel
theorem dL_law_174 : decode cL_law 174 = .ok (.ireturn, 1) := by decide +kernel
theorem dL_law_175 : decode cL_law 175 = .ok (.aload_n 1, 1) := by decide +kernel
theorem dL_law_176 : decode cL_law 176 = .ok (.aload_n 0, 1) := by decide +kernel
theorem dL_law_177 : decode cL_law 177 = .ok (.iload_n 3, 1) := by decide +kernel
theorem dL_law_178 : decode cL_law 178 = .ok (.iconst 1, 1) := by decide +kernel
theorem dL_law_179 : decode cL_law 179 = .ok (.iadd, 1) := by decide +kernel
theorem dL_law_180 : decode cL_law 180 = .ok (.iaload, 1) := by decide +kernel
theorem dL_law_181 : decode cL_law 181 = .ok (.invokevirtual 27, 3) := by decide +kernel
theorem dL_law_184 : decode cL_law 184 = .ok (.aload_n 2, 1) := by decide +kernel
theorem dL_law_185 : decode cL_law 185 = .ok (.aload_n 0, 1) := by decide +kernel
theorem dL_law_186 : decode cL_law 186 = .ok (.iload_n 3, 1) := by decide +kernel
theorem dL_law_187 : decode cL_law 187 = .ok (.iconst 1, 1) := by decide +kernel
theorem dL_law_188 : decode cL_law 188 = .ok (.iadd, 1) := by decide +kernel
theorem dL_law_189 : decode cL_law 189 = .ok (.iaload, 1) := by decide +kernel
theorem dL_law_190 : decode cL_law 190 = .ok (.invokevirtual 30, 3) := by decide +kernel
theorem dL_law_193 : decode cL_law 193 = .ok (.if_icmp .eq 520, 3) := by decide +kernel
theorem dL_law_196 : decode cL_law 196 = .ok (.iconst 0, 1) := by decide +kernel
theorem dL_law_197 : decode cL_law 197 = .ok (.ireturn, 1) := by decide +kernel
theorem dL_law_198 : decode cL_law 198 = .ok (.aload_n 1, 1) := by decide +kernel
theorem dL_law_199 : decode cL_law 199 = .ok (.aload_n 0, 1) := by decide +kernel
theorem dL_law_200 : decode cL_law 200 = .ok (.iload_n 3, 1) := by decide +kernel
theorem dL_law_201 : decode cL_law 201 = .ok (.iconst 1, 1) := by decide +kernel
theorem dL_law_202 : decode cL_law 202 = .ok (.iadd, 1) := by decide +kernel
theorem dL_law_203 : decode cL_law 203 = .ok (.iaload, 1) := by decide +kernel
theorem dL_law_204 : decode cL_law 204 = .ok (.aload_n 0, 1) := by decide +kernel
theorem dL_law_205 : decode cL_law 205 = .ok (.iload_n 3, 1) := by decide +kernel
theorem dL_law_206 : decode cL_law 206 = .ok (.iconst 2, 1) := by decide +kernel
theorem dL_law_207 : decode cL_law 207 = .ok (.iadd, 1) := by decide +kernel
theorem dL_law_208 : decode cL_law 208 = .ok (.iaload, 1) := by decide +kernel
theorem dL_law_209 : decode cL_law 209 = .ok (.invokevirtual 31, 3) := by decide +kernel
theorem dL_law_212 : decode cL_law 212 = .ok (.aload_n 2, 1) := by decide +kernel
theorem dL_law_213 : decode cL_law 213 = .ok (.aload_n 0, 1) := by decide +kernel
theorem dL_law_214 : decode cL_law 214 = .ok (.iload_n 3, 1) := by decide +kernel
theorem dL_law_215 : decode cL_law 215 = .ok (.iconst 1, 1) := by decide +kernel
theorem dL_law_216 : decode cL_law 216 = .ok (.iadd, 1) := by decide +kernel
theorem dL_law_217 : decode cL_law 217 = .ok (.iaload, 1) := by decide +kernel
theorem dL_law_218 : decode cL_law 218 = .ok (.aload_n 0, 1) := by decide +kernel
theorem dL_law_219 : decode cL_law 219 = .ok (.iload_n 3, 1) := by decide +kernel
theorem dL_law_220 : decode cL_law 220 = .ok (.iconst 2, 1) := by decide +kernel
theorem dL_law_221 : decode cL_law 221 = .ok (.iadd, 1) := by decide +kernel
theorem dL_law_222 : decode cL_law 222 = .ok (.iaload, 1) := by decide +kernel
theorem dL_law_223 : decode cL_law 223 = .ok (.invokevirtual 35, 3) := by decide +kernel
theorem dL_law_226 : decode cL_law 226 = .ok (.if_icmp .eq 487, 3) := by decide +kernel
theorem dL_law_229 : decode cL_law 229 = .ok (.iconst 0, 1) := by decide +kernel
theorem dL_law_230 : decode cL_law 230 = .ok (.ireturn, 1) := by decide +kernel
theorem dL_law_231 : decode cL_law 231 = .ok (.aload_n 1, 1) := by decide +kernel
theorem dL_law_232 : decode cL_law 232 = .ok (.aload_n 0, 1) := by decide +kernel
theorem dL_law_233 : decode cL_law 233 = .ok (.iload_n 3, 1) := by decide +kernel
theorem dL_law_234 : decode cL_law 234 = .ok (.iconst 1, 1) := by decide +kernel
theorem dL_law_235 : decode cL_law 235 = .ok (.iadd, 1) := by decide +kernel
theorem dL_law_236 : decode cL_law 236 = .ok (.iaload, 1) := by decide +kernel
theorem dL_law_237 : decode cL_law 237 = .ok (.aload_n 0, 1) := by decide +kernel
theorem dL_law_238 : decode cL_law 238 = .ok (.iload_n 3, 1) := by decide +kernel
theorem dL_law_239 : decode cL_law 239 = .ok (.iconst 2, 1) := by decide +kernel
theorem dL_law_240 : decode cL_law 240 = .ok (.iadd, 1) := by decide +kernel
theorem dL_law_241 : decode cL_law 241 = .ok (.iaload, 1) := by decide +kernel
theorem dL_law_242 : decode cL_law 242 = .ok (.invokevirtual 36, 3) := by decide +kernel
theorem dL_law_245 : decode cL_law 245 = .ok (.aload_n 2, 1) := by decide +kernel
theorem dL_law_246 : decode cL_law 246 = .ok (.aload_n 0, 1) := by decide +kernel
theorem dL_law_247 : decode cL_law 247 = .ok (.iload_n 3, 1) := by decide +kernel
theorem dL_law_248 : decode cL_law 248 = .ok (.iconst 1, 1) := by decide +kernel
theorem dL_law_249 : decode cL_law 249 = .ok (.iadd, 1) := by decide +kernel
theorem dL_law_250 : decode cL_law 250 = .ok (.iaload, 1) := by decide +kernel
theorem dL_law_251 : decode cL_law 251 = .ok (.aload_n 0, 1) := by decide +kernel
theorem dL_law_252 : decode cL_law 252 = .ok (.iload_n 3, 1) := by decide +kernel
theorem dL_law_253 : decode cL_law 253 = .ok (.iconst 2, 1) := by decide +kernel
theorem dL_law_254 : decode cL_law 254 = .ok (.iadd, 1) := by decide +kernel
theorem dL_law_255 : decode cL_law 255 = .ok (.iaload, 1) := by decide +kernel
theorem dL_law_256 : decode cL_law 256 = .ok (.invokevirtual 39, 3) := by decide +kernel
theorem dL_law_259 : decode cL_law 259 = .ok (.if_icmp .eq 454, 3) := by decide +kernel
theorem dL_law_262 : decode cL_law 262 = .ok (.iconst 0, 1) := by decide +kernel
theorem dL_law_263 : decode cL_law 263 = .ok (.ireturn, 1) := by decide +kernel
theorem dL_law_264 : decode cL_law 264 = .ok (.aload_n 1, 1) := by decide +kernel
theorem dL_law_265 : decode cL_law 265 = .ok (.aload_n 0, 1) := by decide +kernel
theorem dL_law_266 : decode cL_law 266 = .ok (.iload_n 3, 1) := by decide +kernel
theorem dL_law_267 : decode cL_law 267 = .ok (.iconst 1, 1) := by decide +kernel
theorem dL_law_268 : decode cL_law 268 = .ok (.iadd, 1) := by decide +kernel
theorem dL_law_269 : decode cL_law 269 = .ok (.iaload, 1) := by decide +kernel
theorem dL_law_270 : decode cL_law 270 = .ok (.invokevirtual 40, 3) := by decide +kernel
theorem dL_law_273 : decode cL_law 273 = .ok (.aload_n 2, 1) := by decide +kernel
theorem dL_law_274 : decode cL_law 274 = .ok (.aload_n 0, 1) := by decide +kernel
theorem dL_law_275 : decode cL_law 275 = .ok (.iload_n 3, 1) := by decide +kernel
theorem dL_law_276 : decode cL_law 276 = .ok (.iconst 1, 1) := by decide +kernel
theorem dL_law_277 : decode cL_law 277 = .ok (.iadd, 1) := by decide +kernel
theorem dL_law_278 : decode cL_law 278 = .ok (.iaload, 1) := by decide +kernel
theorem dL_law_279 : decode cL_law 279 = .ok (.invokevirtual 43, 3) := by decide +kernel
theorem dL_law_282 : decode cL_law 282 = .ok (.if_icmp .eq 431, 3) := by decide +kernel
theorem dL_law_285 : decode cL_law 285 = .ok (.iconst 0, 1) := by decide +kernel
theorem dL_law_286 : decode cL_law 286 = .ok (.ireturn, 1) := by decide +kernel
theorem dL_law_287 : decode cL_law 287 = .ok (.aload_n 1, 1) := by decide +kernel
theorem dL_law_288 : decode cL_law 288 = .ok (.aload_n 0, 1) := by decide +kernel
theorem dL_law_289 : decode cL_law 289 = .ok (.iload_n 3, 1) := by decide +kernel
theorem dL_law_290 : decode cL_law 290 = .ok (.iconst 1, 1) := by decide +kernel
theorem dL_law_291 : decode cL_law 291 = .ok (.iadd, 1) := by decide +kernel
theorem dL_law_292 : decode cL_law 292 = .ok (.iaload, 1) := by decide +kernel
theorem dL_law_293 : decode cL_law 293 = .ok (.invokevirtual 44, 3) := by decide +kernel
theorem dL_law_296 : decode cL_law 296 = .ok (.aload_n 2, 1) := by decide +kernel
theorem dL_law_297 : decode cL_law 297 = .ok (.aload_n 0, 1) := by decide +kernel
theorem dL_law_298 : decode cL_law 298 = .ok (.iload_n 3, 1) := by decide +kernel
theorem dL_law_299 : decode cL_law 299 = .ok (.iconst 1, 1) := by decide +kernel
theorem dL_law_300 : decode cL_law 300 = .ok (.iadd, 1) := by decide +kernel
theorem dL_law_301 : decode cL_law 301 = .ok (.iaload, 1) := by decide +kernel
theorem dL_law_302 : decode cL_law 302 = .ok (.invokevirtual 47, 3) := by decide +kernel
theorem dL_law_305 : decode cL_law 305 = .ok (.if_icmp .eq 408, 3) := by decide +kernel
theorem dL_law_308 : decode cL_law 308 = .ok (.iconst 0, 1) := by decide +kernel
theorem dL_law_309 : decode cL_law 309 = .ok (.ireturn, 1) := by decide +kernel
theorem dL_law_310 : decode cL_law 310 = .ok (.aload_n 1, 1) := by decide +kernel
theorem dL_law_311 : decode cL_law 311 = .ok (.invokevirtual 48, 3) := by decide +kernel
theorem dL_law_314 : decode cL_law 314 = .ok (.aload_n 2, 1) := by decide +kernel
theorem dL_law_315 : decode cL_law 315 = .ok (.invokevirtual 51, 3) := by decide +kernel
theorem dL_law_318 : decode cL_law 318 = .ok (.if_icmp .eq 395, 3) := by decide +kernel
theorem dL_law_321 : decode cL_law 321 = .ok (.iconst 0, 1) := by decide +kernel
theorem dL_law_322 : decode cL_law 322 = .ok (.ireturn, 1) := by decide +kernel
theorem dL_law_323 : decode cL_law 323 = .ok (.aload_n 1, 1) := by decide +kernel
theorem dL_law_324 : decode cL_law 324 = .ok (.aload_n 0, 1) := by decide +kernel
theorem dL_law_325 : decode cL_law 325 = .ok (.iload_n 3, 1) := by decide +kernel
theorem dL_law_326 : decode cL_law 326 = .ok (.iconst 1, 1) := by decide +kernel
theorem dL_law_327 : decode cL_law 327 = .ok (.iadd, 1) := by decide +kernel
theorem dL_law_328 : decode cL_law 328 = .ok (.iaload, 1) := by decide +kernel
theorem dL_law_329 : decode cL_law 329 = .ok (.aload_n 0, 1) := by decide +kernel
theorem dL_law_330 : decode cL_law 330 = .ok (.iload_n 3, 1) := by decide +kernel
theorem dL_law_331 : decode cL_law 331 = .ok (.iconst 2, 1) := by decide +kernel
theorem dL_law_332 : decode cL_law 332 = .ok (.iadd, 1) := by decide +kernel
theorem dL_law_333 : decode cL_law 333 = .ok (.iaload, 1) := by decide +kernel
theorem dL_law_334 : decode cL_law 334 = .ok (.aload_n 0, 1) := by decide +kernel
theorem dL_law_335 : decode cL_law 335 = .ok (.iload_n 3, 1) := by decide +kernel
theorem dL_law_336 : decode cL_law 336 = .ok (.iconst 3, 1) := by decide +kernel
theorem dL_law_337 : decode cL_law 337 = .ok (.iadd, 1) := by decide +kernel
theorem dL_law_338 : decode cL_law 338 = .ok (.iaload, 1) := by decide +kernel
theorem dL_law_339 : decode cL_law 339 = .ok (.invokevirtual 52, 3) := by decide +kernel
theorem dL_law_342 : decode cL_law 342 = .ok (.aload_n 2, 1) := by decide +kernel
theorem dL_law_343 : decode cL_law 343 = .ok (.aload_n 0, 1) := by decide +kernel
theorem dL_law_344 : decode cL_law 344 = .ok (.iload_n 3, 1) := by decide +kernel
theorem dL_law_345 : decode cL_law 345 = .ok (.iconst 1, 1) := by decide +kernel
theorem dL_law_346 : decode cL_law 346 = .ok (.iadd, 1) := by decide +kernel
theorem dL_law_347 : decode cL_law 347 = .ok (.iaload, 1) := by decide +kernel
theorem dL_law_348 : decode cL_law 348 = .ok (.aload_n 0, 1) := by decide +kernel
theorem dL_law_349 : decode cL_law 349 = .ok (.iload_n 3, 1) := by decide +kernel
theorem dL_law_350 : decode cL_law 350 = .ok (.iconst 2, 1) := by decide +kernel
theorem dL_law_351 : decode cL_law 351 = .ok (.iadd, 1) := by decide +kernel
theorem dL_law_352 : decode cL_law 352 = .ok (.iaload, 1) := by decide +kernel
theorem dL_law_353 : decode cL_law 353 = .ok (.aload_n 0, 1) := by decide +kernel
theorem dL_law_354 : decode cL_law 354 = .ok (.iload_n 3, 1) := by decide +kernel
theorem dL_law_355 : decode cL_law 355 = .ok (.iconst 3, 1) := by decide +kernel
theorem dL_law_356 : decode cL_law 356 = .ok (.iadd, 1) := by decide +kernel
theorem dL_law_357 : decode cL_law 357 = .ok (.iaload, 1) := by decide +kernel
theorem dL_law_358 : decode cL_law 358 = .ok (.invokevirtual 56, 3) := by decide +kernel
theorem dL_law_361 : decode cL_law 361 = .ok (.if_icmp .eq 352, 3) := by decide +kernel
theorem dL_law_364 : decode cL_law 364 = .ok (.iconst 0, 1) := by decide +kernel
theorem dL_law_365 : decode cL_law 365 = .ok (.ireturn, 1) := by decide +kernel
theorem dL_law_366 : decode cL_law 366 = .ok (.aload_n 1, 1) := by decide +kernel
theorem dL_law_367 : decode cL_law 367 = .ok (.aload_n 0, 1) := by decide +kernel
theorem dL_law_368 : decode cL_law 368 = .ok (.iload_n 3, 1) := by decide +kernel
theorem dL_law_369 : decode cL_law 369 = .ok (.iconst 1, 1) := by decide +kernel
theorem dL_law_370 : decode cL_law 370 = .ok (.iadd, 1) := by decide +kernel
theorem dL_law_371 : decode cL_law 371 = .ok (.iaload, 1) := by decide +kernel
theorem dL_law_372 : decode cL_law 372 = .ok (.aload_n 0, 1) := by decide +kernel
theorem dL_law_373 : decode cL_law 373 = .ok (.iload_n 3, 1) := by decide +kernel
theorem dL_law_374 : decode cL_law 374 = .ok (.iconst 2, 1) := by decide +kernel
theorem dL_law_375 : decode cL_law 375 = .ok (.iadd, 1) := by decide +kernel
theorem dL_law_376 : decode cL_law 376 = .ok (.iaload, 1) := by decide +kernel
theorem dL_law_377 : decode cL_law 377 = .ok (.aload_n 0, 1) := by decide +kernel
theorem dL_law_378 : decode cL_law 378 = .ok (.iload_n 3, 1) := by decide +kernel
theorem dL_law_379 : decode cL_law 379 = .ok (.iconst 3, 1) := by decide +kernel
theorem dL_law_380 : decode cL_law 380 = .ok (.iadd, 1) := by decide +kernel
theorem dL_law_381 : decode cL_law 381 = .ok (.iaload, 1) := by decide +kernel
theorem dL_law_382 : decode cL_law 382 = .ok (.invokevirtual 57, 3) := by decide +kernel
theorem dL_law_385 : decode cL_law 385 = .ok (.aload_n 2, 1) := by decide +kernel
theorem dL_law_386 : decode cL_law 386 = .ok (.aload_n 0, 1) := by decide +kernel
theorem dL_law_387 : decode cL_law 387 = .ok (.iload_n 3, 1) := by decide +kernel
theorem dL_law_388 : decode cL_law 388 = .ok (.iconst 1, 1) := by decide +kernel
theorem dL_law_389 : decode cL_law 389 = .ok (.iadd, 1) := by decide +kernel
theorem dL_law_390 : decode cL_law 390 = .ok (.iaload, 1) := by decide +kernel
theorem dL_law_391 : decode cL_law 391 = .ok (.aload_n 0, 1) := by decide +kernel
theorem dL_law_392 : decode cL_law 392 = .ok (.iload_n 3, 1) := by decide +kernel
theorem dL_law_393 : decode cL_law 393 = .ok (.iconst 2, 1) := by decide +kernel
theorem dL_law_394 : decode cL_law 394 = .ok (.iadd, 1) := by decide +kernel
theorem dL_law_395 : decode cL_law 395 = .ok (.iaload, 1) := by decide +kernel
theorem dL_law_396 : decode cL_law 396 = .ok (.aload_n 0, 1) := by decide +kernel
theorem dL_law_397 : decode cL_law 397 = .ok (.iload_n 3, 1) := by decide +kernel
theorem dL_law_398 : decode cL_law 398 = .ok (.iconst 3, 1) := by decide +kernel
theorem dL_law_399 : decode cL_law 399 = .ok (.iadd, 1) := by decide +kernel
theorem dL_law_400 : decode cL_law 400 = .ok (.iaload, 1) := by decide +kernel
theorem dL_law_401 : decode cL_law 401 = .ok (.invokevirtual 60, 3) := by decide +kernel
theorem dL_law_404 : decode cL_law 404 = .ok (.if_icmp .eq 309, 3) := by decide +kernel
theorem dL_law_407 : decode cL_law 407 = .ok (.iconst 0, 1) := by decide +kernel
theorem dL_law_408 : decode cL_law 408 = .ok (.ireturn, 1) := by decide +kernel
theorem dL_law_409 : decode cL_law 409 = .ok (.aload_n 1, 1) := by decide +kernel
theorem dL_law_410 : decode cL_law 410 = .ok (.aload_n 0, 1) := by decide +kernel
theorem dL_law_411 : decode cL_law 411 = .ok (.iload_n 3, 1) := by decide +kernel
theorem dL_law_412 : decode cL_law 412 = .ok (.iconst 1, 1) := by decide +kernel
theorem dL_law_413 : decode cL_law 413 = .ok (.iadd, 1) := by decide +kernel
theorem dL_law_414 : decode cL_law 414 = .ok (.iaload, 1) := by decide +kernel
theorem dL_law_415 : decode cL_law 415 = .ok (.aload_n 0, 1) := by decide +kernel
theorem dL_law_416 : decode cL_law 416 = .ok (.iload_n 3, 1) := by decide +kernel
theorem dL_law_417 : decode cL_law 417 = .ok (.iconst 2, 1) := by decide +kernel
theorem dL_law_418 : decode cL_law 418 = .ok (.iadd, 1) := by decide +kernel
theorem dL_law_419 : decode cL_law 419 = .ok (.iaload, 1) := by decide +kernel
theorem dL_law_420 : decode cL_law 420 = .ok (.invokevirtual 61, 3) := by decide +kernel
theorem dL_law_423 : decode cL_law 423 = .ok (.aload_n 2, 1) := by decide +kernel
theorem dL_law_424 : decode cL_law 424 = .ok (.aload_n 0, 1) := by decide +kernel
theorem dL_law_425 : decode cL_law 425 = .ok (.iload_n 3, 1) := by decide +kernel
theorem dL_law_426 : decode cL_law 426 = .ok (.iconst 1, 1) := by decide +kernel
theorem dL_law_427 : decode cL_law 427 = .ok (.iadd, 1) := by decide +kernel
theorem dL_law_428 : decode cL_law 428 = .ok (.iaload, 1) := by decide +kernel
theorem dL_law_429 : decode cL_law 429 = .ok (.aload_n 0, 1) := by decide +kernel
theorem dL_law_430 : decode cL_law 430 = .ok (.iload_n 3, 1) := by decide +kernel
theorem dL_law_431 : decode cL_law 431 = .ok (.iconst 2, 1) := by decide +kernel
theorem dL_law_432 : decode cL_law 432 = .ok (.iadd, 1) := by decide +kernel
theorem dL_law_433 : decode cL_law 433 = .ok (.iaload, 1) := by decide +kernel
theorem dL_law_434 : decode cL_law 434 = .ok (.invokevirtual 64, 3) := by decide +kernel
theorem dL_law_437 : decode cL_law 437 = .ok (.if_icmp .eq 276, 3) := by decide +kernel
theorem dL_law_440 : decode cL_law 440 = .ok (.iconst 0, 1) := by decide +kernel
theorem dL_law_441 : decode cL_law 441 = .ok (.ireturn, 1) := by decide +kernel
theorem dL_law_442 : decode cL_law 442 = .ok (.aload_n 1, 1) := by decide +kernel
theorem dL_law_443 : decode cL_law 443 = .ok (.aload_n 0, 1) := by decide +kernel
theorem dL_law_444 : decode cL_law 444 = .ok (.iload_n 3, 1) := by decide +kernel
theorem dL_law_445 : decode cL_law 445 = .ok (.iconst 1, 1) := by decide +kernel
theorem dL_law_446 : decode cL_law 446 = .ok (.iadd, 1) := by decide +kernel
theorem dL_law_447 : decode cL_law 447 = .ok (.iaload, 1) := by decide +kernel
theorem dL_law_448 : decode cL_law 448 = .ok (.aload_n 0, 1) := by decide +kernel
theorem dL_law_449 : decode cL_law 449 = .ok (.iload_n 3, 1) := by decide +kernel
theorem dL_law_450 : decode cL_law 450 = .ok (.iconst 2, 1) := by decide +kernel
theorem dL_law_451 : decode cL_law 451 = .ok (.iadd, 1) := by decide +kernel
theorem dL_law_452 : decode cL_law 452 = .ok (.iaload, 1) := by decide +kernel
theorem dL_law_453 : decode cL_law 453 = .ok (.invokevirtual 65, 3) := by decide +kernel
theorem dL_law_456 : decode cL_law 456 = .ok (.aload_n 2, 1) := by decide +kernel
theorem dL_law_457 : decode cL_law 457 = .ok (.aload_n 0, 1) := by decide +kernel
theorem dL_law_458 : decode cL_law 458 = .ok (.iload_n 3, 1) := by decide +kernel
theorem dL_law_459 : decode cL_law 459 = .ok (.iconst 1, 1) := by decide +kernel
theorem dL_law_460 : decode cL_law 460 = .ok (.iadd, 1) := by decide +kernel
theorem dL_law_461 : decode cL_law 461 = .ok (.iaload, 1) := by decide +kernel
theorem dL_law_462 : decode cL_law 462 = .ok (.aload_n 0, 1) := by decide +kernel
theorem dL_law_463 : decode cL_law 463 = .ok (.iload_n 3, 1) := by decide +kernel
theorem dL_law_464 : decode cL_law 464 = .ok (.iconst 2, 1) := by decide +kernel
theorem dL_law_465 : decode cL_law 465 = .ok (.iadd, 1) := by decide +kernel
theorem dL_law_466 : decode cL_law 466 = .ok (.iaload, 1) := by decide +kernel
theorem dL_law_467 : decode cL_law 467 = .ok (.invokevirtual 68, 3) := by decide +kernel
theorem dL_law_470 : decode cL_law 470 = .ok (.if_icmp .eq 243, 3) := by decide +kernel
theorem dL_law_473 : decode cL_law 473 = .ok (.iconst 0, 1) := by decide +kernel
theorem dL_law_474 : decode cL_law 474 = .ok (.ireturn, 1) := by decide +kernel
theorem dL_law_475 : decode cL_law 475 = .ok (.aload_n 1, 1) := by decide +kernel
theorem dL_law_476 : decode cL_law 476 = .ok (.aload_n 0, 1) := by decide +kernel
theorem dL_law_477 : decode cL_law 477 = .ok (.iload_n 3, 1) := by decide +kernel
theorem dL_law_478 : decode cL_law 478 = .ok (.iconst 1, 1) := by decide +kernel
theorem dL_law_479 : decode cL_law 479 = .ok (.iadd, 1) := by decide +kernel
theorem dL_law_480 : decode cL_law 480 = .ok (.iaload, 1) := by decide +kernel
theorem dL_law_481 : decode cL_law 481 = .ok (.aload_n 0, 1) := by decide +kernel
theorem dL_law_482 : decode cL_law 482 = .ok (.iload_n 3, 1) := by decide +kernel
theorem dL_law_483 : decode cL_law 483 = .ok (.iconst 2, 1) := by decide +kernel
theorem dL_law_484 : decode cL_law 484 = .ok (.iadd, 1) := by decide +kernel
theorem dL_law_485 : decode cL_law 485 = .ok (.iaload, 1) := by decide +kernel
theorem dL_law_486 : decode cL_law 486 = .ok (.aload_n 0, 1) := by decide +kernel
theorem dL_law_487 : decode cL_law 487 = .ok (.iload_n 3, 1) := by decide +kernel
theorem dL_law_488 : decode cL_law 488 = .ok (.iconst 3, 1) := by decide +kernel
theorem dL_law_489 : decode cL_law 489 = .ok (.iadd, 1) := by decide +kernel
theorem dL_law_490 : decode cL_law 490 = .ok (.iaload, 1) := by decide +kernel
theorem dL_law_491 : decode cL_law 491 = .ok (.aload_n 0, 1) := by decide +kernel
theorem dL_law_492 : decode cL_law 492 = .ok (.iload_n 3, 1) := by decide +kernel
theorem dL_law_493 : decode cL_law 493 = .ok (.iconst 4, 1) := by decide +kernel
theorem dL_law_494 : decode cL_law 494 = .ok (.iadd, 1) := by decide +kernel
theorem dL_law_495 : decode cL_law 495 = .ok (.iaload, 1) := by decide +kernel
theorem dL_law_496 : decode cL_law 496 = .ok (.invokevirtual 69, 3) := by decide +kernel
theorem dL_law_499 : decode cL_law 499 = .ok (.aload_n 2, 1) := by decide +kernel
theorem dL_law_500 : decode cL_law 500 = .ok (.aload_n 0, 1) := by decide +kernel
theorem dL_law_501 : decode cL_law 501 = .ok (.iload_n 3, 1) := by decide +kernel
theorem dL_law_502 : decode cL_law 502 = .ok (.iconst 1, 1) := by decide +kernel
theorem dL_law_503 : decode cL_law 503 = .ok (.iadd, 1) := by decide +kernel
theorem dL_law_504 : decode cL_law 504 = .ok (.iaload, 1) := by decide +kernel
theorem dL_law_505 : decode cL_law 505 = .ok (.aload_n 0, 1) := by decide +kernel
theorem dL_law_506 : decode cL_law 506 = .ok (.iload_n 3, 1) := by decide +kernel
theorem dL_law_507 : decode cL_law 507 = .ok (.iconst 2, 1) := by decide +kernel
theorem dL_law_508 : decode cL_law 508 = .ok (.iadd, 1) := by decide +kernel
theorem dL_law_509 : decode cL_law 509 = .ok (.iaload, 1) := by decide +kernel
theorem dL_law_510 : decode cL_law 510 = .ok (.aload_n 0, 1) := by decide +kernel
theorem dL_law_511 : decode cL_law 511 = .ok (.iload_n 3, 1) := by decide +kernel
theorem dL_law_512 : decode cL_law 512 = .ok (.iconst 3, 1) := by decide +kernel
theorem dL_law_513 : decode cL_law 513 = .ok (.iadd, 1) := by decide +kernel
theorem dL_law_514 : decode cL_law 514 = .ok (.iaload, 1) := by decide +kernel
theorem dL_law_515 : decode cL_law 515 = .ok (.aload_n 0, 1) := by decide +kernel
theorem dL_law_516 : decode cL_law 516 = .ok (.iload_n 3, 1) := by decide +kernel
theorem dL_law_517 : decode cL_law 517 = .ok (.iconst 4, 1) := by decide +kernel
theorem dL_law_518 : decode cL_law 518 = .ok (.iadd, 1) := by decide +kernel
theorem dL_law_519 : decode cL_law 519 = .ok (.iaload, 1) := by decide +kernel
theorem dL_law_520 : decode cL_law 520 = .ok (.invokevirtual 73, 3) := by decide +kernel
theorem dL_law_523 : decode cL_law 523 = .ok (.if_icmp .eq 190, 3) := by decide +kernel
theorem dL_law_526 : decode cL_law 526 = .ok (.iconst 0, 1) := by decide +kernel
theorem dL_law_527 : decode cL_law 527 = .ok (.ireturn, 1) := by decide +kernel
theorem dL_law_528 : decode cL_law 528 = .ok (.aload_n 1, 1) := by decide +kernel
theorem dL_law_529 : decode cL_law 529 = .ok (.aload_n 0, 1) := by decide +kernel
theorem dL_law_530 : decode cL_law 530 = .ok (.iload_n 3, 1) := by decide +kernel
theorem dL_law_531 : decode cL_law 531 = .ok (.iconst 1, 1) := by decide +kernel
theorem dL_law_532 : decode cL_law 532 = .ok (.iadd, 1) := by decide +kernel
theorem dL_law_533 : decode cL_law 533 = .ok (.iaload, 1) := by decide +kernel
theorem dL_law_534 : decode cL_law 534 = .ok (.aload_n 0, 1) := by decide +kernel
theorem dL_law_535 : decode cL_law 535 = .ok (.iload_n 3, 1) := by decide +kernel
theorem dL_law_536 : decode cL_law 536 = .ok (.iconst 2, 1) := by decide +kernel
theorem dL_law_537 : decode cL_law 537 = .ok (.iadd, 1) := by decide +kernel
theorem dL_law_538 : decode cL_law 538 = .ok (.iaload, 1) := by decide +kernel
theorem dL_law_539 : decode cL_law 539 = .ok (.aload_n 0, 1) := by decide +kernel
theorem dL_law_540 : decode cL_law 540 = .ok (.iload_n 3, 1) := by decide +kernel
theorem dL_law_541 : decode cL_law 541 = .ok (.iconst 3, 1) := by decide +kernel
theorem dL_law_542 : decode cL_law 542 = .ok (.iadd, 1) := by decide +kernel
theorem dL_law_543 : decode cL_law 543 = .ok (.iaload, 1) := by decide +kernel
theorem dL_law_544 : decode cL_law 544 = .ok (.aload_n 0, 1) := by decide +kernel
theorem dL_law_545 : decode cL_law 545 = .ok (.iload_n 3, 1) := by decide +kernel
theorem dL_law_546 : decode cL_law 546 = .ok (.iconst 4, 1) := by decide +kernel
theorem dL_law_547 : decode cL_law 547 = .ok (.iadd, 1) := by decide +kernel
theorem dL_law_548 : decode cL_law 548 = .ok (.iaload, 1) := by decide +kernel
theorem dL_law_549 : decode cL_law 549 = .ok (.aload_n 0, 1) := by decide +kernel
theorem dL_law_550 : decode cL_law 550 = .ok (.iload_n 3, 1) := by decide +kernel
theorem dL_law_551 : decode cL_law 551 = .ok (.iconst 5, 1) := by decide +kernel
theorem dL_law_552 : decode cL_law 552 = .ok (.iadd, 1) := by decide +kernel
theorem dL_law_553 : decode cL_law 553 = .ok (.iaload, 1) := by decide +kernel
theorem dL_law_554 : decode cL_law 554 = .ok (.aload_n 0, 1) := by decide +kernel
theorem dL_law_555 : decode cL_law 555 = .ok (.iload_n 3, 1) := by decide +kernel
theorem dL_law_556 : decode cL_law 556 = .ok (.bipush 6, 2) := by decide +kernel
theorem dL_law_558 : decode cL_law 558 = .ok (.iadd, 1) := by decide +kernel
theorem dL_law_559 : decode cL_law 559 = .ok (.iaload, 1) := by decide +kernel
theorem dL_law_560 : decode cL_law 560 = .ok (.invokevirtual 74, 3) := by decide +kernel
theorem dL_law_563 : decode cL_law 563 = .ok (.aload_n 2, 1) := by decide +kernel
theorem dL_law_564 : decode cL_law 564 = .ok (.aload_n 0, 1) := by decide +kernel
theorem dL_law_565 : decode cL_law 565 = .ok (.iload_n 3, 1) := by decide +kernel
theorem dL_law_566 : decode cL_law 566 = .ok (.iconst 1, 1) := by decide +kernel
theorem dL_law_567 : decode cL_law 567 = .ok (.iadd, 1) := by decide +kernel
theorem dL_law_568 : decode cL_law 568 = .ok (.iaload, 1) := by decide +kernel
theorem dL_law_569 : decode cL_law 569 = .ok (.aload_n 0, 1) := by decide +kernel
theorem dL_law_570 : decode cL_law 570 = .ok (.iload_n 3, 1) := by decide +kernel
theorem dL_law_571 : decode cL_law 571 = .ok (.iconst 2, 1) := by decide +kernel
theorem dL_law_572 : decode cL_law 572 = .ok (.iadd, 1) := by decide +kernel
theorem dL_law_573 : decode cL_law 573 = .ok (.iaload, 1) := by decide +kernel
theorem dL_law_574 : decode cL_law 574 = .ok (.aload_n 0, 1) := by decide +kernel
theorem dL_law_575 : decode cL_law 575 = .ok (.iload_n 3, 1) := by decide +kernel
theorem dL_law_576 : decode cL_law 576 = .ok (.iconst 3, 1) := by decide +kernel
theorem dL_law_577 : decode cL_law 577 = .ok (.iadd, 1) := by decide +kernel
theorem dL_law_578 : decode cL_law 578 = .ok (.iaload, 1) := by decide +kernel
theorem dL_law_579 : decode cL_law 579 = .ok (.aload_n 0, 1) := by decide +kernel
theorem dL_law_580 : decode cL_law 580 = .ok (.iload_n 3, 1) := by decide +kernel
theorem dL_law_581 : decode cL_law 581 = .ok (.iconst 4, 1) := by decide +kernel
theorem dL_law_582 : decode cL_law 582 = .ok (.iadd, 1) := by decide +kernel
theorem dL_law_583 : decode cL_law 583 = .ok (.iaload, 1) := by decide +kernel
theorem dL_law_584 : decode cL_law 584 = .ok (.aload_n 0, 1) := by decide +kernel
theorem dL_law_585 : decode cL_law 585 = .ok (.iload_n 3, 1) := by decide +kernel
theorem dL_law_586 : decode cL_law 586 = .ok (.iconst 5, 1) := by decide +kernel
theorem dL_law_587 : decode cL_law 587 = .ok (.iadd, 1) := by decide +kernel
theorem dL_law_588 : decode cL_law 588 = .ok (.iaload, 1) := by decide +kernel
theorem dL_law_589 : decode cL_law 589 = .ok (.aload_n 0, 1) := by decide +kernel
theorem dL_law_590 : decode cL_law 590 = .ok (.iload_n 3, 1) := by decide +kernel
theorem dL_law_591 : decode cL_law 591 = .ok (.bipush 6, 2) := by decide +kernel
theorem dL_law_593 : decode cL_law 593 = .ok (.iadd, 1) := by decide +kernel
theorem dL_law_594 : decode cL_law 594 = .ok (.iaload, 1) := by decide +kernel
theorem dL_law_595 : decode cL_law 595 = .ok (.invokevirtual 78, 3) := by decide +kernel
theorem dL_law_598 : decode cL_law 598 = .ok (.if_icmp .eq 115, 3) := by decide +kernel
theorem dL_law_601 : decode cL_law 601 = .ok (.iconst 0, 1) := by decide +kernel
theorem dL_law_602 : decode cL_law 602 = .ok (.ireturn, 1) := by decide +kernel
theorem dL_law_603 : decode cL_law 603 = .ok (.aload_n 1, 1) := by decide +kernel
theorem dL_law_604 : decode cL_law 604 = .ok (.aload_n 0, 1) := by decide +kernel
theorem dL_law_605 : decode cL_law 605 = .ok (.iload_n 3, 1) := by decide +kernel
theorem dL_law_606 : decode cL_law 606 = .ok (.iconst 1, 1) := by decide +kernel
theorem dL_law_607 : decode cL_law 607 = .ok (.iadd, 1) := by decide +kernel
theorem dL_law_608 : decode cL_law 608 = .ok (.iaload, 1) := by decide +kernel
theorem dL_law_609 : decode cL_law 609 = .ok (.aload_n 0, 1) := by decide +kernel
theorem dL_law_610 : decode cL_law 610 = .ok (.iload_n 3, 1) := by decide +kernel
theorem dL_law_611 : decode cL_law 611 = .ok (.iconst 2, 1) := by decide +kernel
theorem dL_law_612 : decode cL_law 612 = .ok (.iadd, 1) := by decide +kernel
theorem dL_law_613 : decode cL_law 613 = .ok (.iaload, 1) := by decide +kernel
theorem dL_law_614 : decode cL_law 614 = .ok (.aload_n 0, 1) := by decide +kernel
theorem dL_law_615 : decode cL_law 615 = .ok (.iload_n 3, 1) := by decide +kernel
theorem dL_law_616 : decode cL_law 616 = .ok (.iconst 3, 1) := by decide +kernel
theorem dL_law_617 : decode cL_law 617 = .ok (.iadd, 1) := by decide +kernel
theorem dL_law_618 : decode cL_law 618 = .ok (.iaload, 1) := by decide +kernel
theorem dL_law_619 : decode cL_law 619 = .ok (.aload_n 0, 1) := by decide +kernel
theorem dL_law_620 : decode cL_law 620 = .ok (.iload_n 3, 1) := by decide +kernel
theorem dL_law_621 : decode cL_law 621 = .ok (.iconst 4, 1) := by decide +kernel
theorem dL_law_622 : decode cL_law 622 = .ok (.iadd, 1) := by decide +kernel
theorem dL_law_623 : decode cL_law 623 = .ok (.iaload, 1) := by decide +kernel
theorem dL_law_624 : decode cL_law 624 = .ok (.aload_n 0, 1) := by decide +kernel
theorem dL_law_625 : decode cL_law 625 = .ok (.iload_n 3, 1) := by decide +kernel
theorem dL_law_626 : decode cL_law 626 = .ok (.iconst 5, 1) := by decide +kernel
theorem dL_law_627 : decode cL_law 627 = .ok (.iadd, 1) := by decide +kernel
theorem dL_law_628 : decode cL_law 628 = .ok (.iaload, 1) := by decide +kernel
theorem dL_law_629 : decode cL_law 629 = .ok (.aload_n 0, 1) := by decide +kernel
theorem dL_law_630 : decode cL_law 630 = .ok (.iload_n 3, 1) := by decide +kernel
theorem dL_law_631 : decode cL_law 631 = .ok (.bipush 6, 2) := by decide +kernel
theorem dL_law_633 : decode cL_law 633 = .ok (.iadd, 1) := by decide +kernel
theorem dL_law_634 : decode cL_law 634 = .ok (.iaload, 1) := by decide +kernel
theorem dL_law_635 : decode cL_law 635 = .ok (.aload_n 0, 1) := by decide +kernel
theorem dL_law_636 : decode cL_law 636 = .ok (.iload_n 3, 1) := by decide +kernel
theorem dL_law_637 : decode cL_law 637 = .ok (.bipush 7, 2) := by decide +kernel
theorem dL_law_639 : decode cL_law 639 = .ok (.iadd, 1) := by decide +kernel
theorem dL_law_640 : decode cL_law 640 = .ok (.iaload, 1) := by decide +kernel
theorem dL_law_641 : decode cL_law 641 = .ok (.invokevirtual 79, 3) := by decide +kernel
theorem dL_law_644 : decode cL_law 644 = .ok (.aload_n 2, 1) := by decide +kernel
theorem dL_law_645 : decode cL_law 645 = .ok (.aload_n 0, 1) := by decide +kernel
theorem dL_law_646 : decode cL_law 646 = .ok (.iload_n 3, 1) := by decide +kernel
theorem dL_law_647 : decode cL_law 647 = .ok (.iconst 1, 1) := by decide +kernel
theorem dL_law_648 : decode cL_law 648 = .ok (.iadd, 1) := by decide +kernel
theorem dL_law_649 : decode cL_law 649 = .ok (.iaload, 1) := by decide +kernel
theorem dL_law_650 : decode cL_law 650 = .ok (.aload_n 0, 1) := by decide +kernel
theorem dL_law_651 : decode cL_law 651 = .ok (.iload_n 3, 1) := by decide +kernel
theorem dL_law_652 : decode cL_law 652 = .ok (.iconst 2, 1) := by decide +kernel
theorem dL_law_653 : decode cL_law 653 = .ok (.iadd, 1) := by decide +kernel
theorem dL_law_654 : decode cL_law 654 = .ok (.iaload, 1) := by decide +kernel
theorem dL_law_655 : decode cL_law 655 = .ok (.aload_n 0, 1) := by decide +kernel
theorem dL_law_656 : decode cL_law 656 = .ok (.iload_n 3, 1) := by decide +kernel
theorem dL_law_657 : decode cL_law 657 = .ok (.iconst 3, 1) := by decide +kernel
theorem dL_law_658 : decode cL_law 658 = .ok (.iadd, 1) := by decide +kernel
theorem dL_law_659 : decode cL_law 659 = .ok (.iaload, 1) := by decide +kernel
theorem dL_law_660 : decode cL_law 660 = .ok (.aload_n 0, 1) := by decide +kernel
theorem dL_law_661 : decode cL_law 661 = .ok (.iload_n 3, 1) := by decide +kernel
theorem dL_law_662 : decode cL_law 662 = .ok (.iconst 4, 1) := by decide +kernel
theorem dL_law_663 : decode cL_law 663 = .ok (.iadd, 1) := by decide +kernel
theorem dL_law_664 : decode cL_law 664 = .ok (.iaload, 1) := by decide +kernel
theorem dL_law_665 : decode cL_law 665 = .ok (.aload_n 0, 1) := by decide +kernel
theorem dL_law_666 : decode cL_law 666 = .ok (.iload_n 3, 1) := by decide +kernel
theorem dL_law_667 : decode cL_law 667 = .ok (.iconst 5, 1) := by decide +kernel
theorem dL_law_668 : decode cL_law 668 = .ok (.iadd, 1) := by decide +kernel
theorem dL_law_669 : decode cL_law 669 = .ok (.iaload, 1) := by decide +kernel
theorem dL_law_670 : decode cL_law 670 = .ok (.aload_n 0, 1) := by decide +kernel
theorem dL_law_671 : decode cL_law 671 = .ok (.iload_n 3, 1) := by decide +kernel
theorem dL_law_672 : decode cL_law 672 = .ok (.bipush 6, 2) := by decide +kernel
theorem dL_law_674 : decode cL_law 674 = .ok (.iadd, 1) := by decide +kernel
theorem dL_law_675 : decode cL_law 675 = .ok (.iaload, 1) := by decide +kernel
theorem dL_law_676 : decode cL_law 676 = .ok (.aload_n 0, 1) := by decide +kernel
theorem dL_law_677 : decode cL_law 677 = .ok (.iload_n 3, 1) := by decide +kernel
theorem dL_law_678 : decode cL_law 678 = .ok (.bipush 7, 2) := by decide +kernel
theorem dL_law_680 : decode cL_law 680 = .ok (.iadd, 1) := by decide +kernel
theorem dL_law_681 : decode cL_law 681 = .ok (.iaload, 1) := by decide +kernel
theorem dL_law_682 : decode cL_law 682 = .ok (.invokevirtual 83, 3) := by decide +kernel
theorem dL_law_685 : decode cL_law 685 = .ok (.if_icmp .eq 28, 3) := by decide +kernel
theorem dL_law_688 : decode cL_law 688 = .ok (.iconst 0, 1) := by decide +kernel
theorem dL_law_689 : decode cL_law 689 = .ok (.ireturn, 1) := by decide +kernel
theorem dL_law_690 : decode cL_law 690 = .ok (.aload_n 1, 1) := by decide +kernel
theorem dL_law_691 : decode cL_law 691 = .ok (.aload_n 0, 1) := by decide +kernel
theorem dL_law_692 : decode cL_law 692 = .ok (.iload_n 3, 1) := by decide +kernel
theorem dL_law_693 : decode cL_law 693 = .ok (.iconst 1, 1) := by decide +kernel
theorem dL_law_694 : decode cL_law 694 = .ok (.iadd, 1) := by decide +kernel
theorem dL_law_695 : decode cL_law 695 = .ok (.iaload, 1) := by decide +kernel
theorem dL_law_696 : decode cL_law 696 = .ok (.invokevirtual 84, 3) := by decide +kernel
theorem dL_law_699 : decode cL_law 699 = .ok (.aload_n 2, 1) := by decide +kernel
theorem dL_law_700 : decode cL_law 700 = .ok (.aload_n 0, 1) := by decide +kernel
theorem dL_law_701 : decode cL_law 701 = .ok (.iload_n 3, 1) := by decide +kernel
theorem dL_law_702 : decode cL_law 702 = .ok (.iconst 1, 1) := by decide +kernel
theorem dL_law_703 : decode cL_law 703 = .ok (.iadd, 1) := by decide +kernel
theorem dL_law_704 : decode cL_law 704 = .ok (.iaload, 1) := by decide +kernel
theorem dL_law_705 : decode cL_law 705 = .ok (.invokevirtual 87, 3) := by decide +kernel
theorem dL_law_708 : decode cL_law 708 = .ok (.if_icmp .eq 5, 3) := by decide +kernel
theorem dL_law_711 : decode cL_law 711 = .ok (.iconst 0, 1) := by decide +kernel
theorem dL_law_712 : decode cL_law 712 = .ok (.ireturn, 1) := by decide +kernel
theorem dL_law_713 : decode cL_law 713 = .ok (.iinc 3 8, 3) := by decide +kernel
theorem dL_law_716 : decode cL_law 716 = .ok (.goto (-698), 3) := by decide +kernel
theorem dL_law_719 : decode cL_law 719 = .ok (.iconst 1, 1) := by decide +kernel
theorem dL_law_720 : decode cL_law 720 = .ok (.ireturn, 1) := by decide +kernel
end
section
/-! A calculus over the whole world: cells by number, a heap of ints, a judgement mE for a method's place, rules by instruction. -/
abbrev mI : Type := String × ByteArray × Nat × Option FieldType × Room
abbrev mV : Type := Int32 ⊕ Nat
abbrev mH : Type := Nat → Nat → Int32
abbrev mS : Type := List ((Nat × List Nat) ⊕ Nat)
def mv (ad : Nat → Nat) : mV → Value
  | .inl x => .int x
  | .inr k => .ref (ad k)
def mvl (h : mH) (k j : Nat) : Nat → mV
  | 0 => .inl (h k j)
  | 1 => .inl (h k j)
  | 2 => .inr (h k j).toNatClampNeg
  | r + 3 => .inr r
def ment (ad : Nat → Nat) (cI : ClassId) (h : mH) (k : Nat) : ((Nat × List Nat) ⊕ Nat) → va_E
  | .inl q => .inr (q.1, q.2.mapIdx (fun j f => mv ad (mvl h k j f)))
  | .inr n => .inl (cI, n, .inl (h k))
def mws (Sh : mS) (ad : Nat → Nat) (cI : ClassId) (h : mH) : va_W := Sh.mapIdx (fun k s => (ad k, ment ad cI h k s))
def hs (h : mH) (k j : Nat) (v : Int32) : mH := fun a b => if a = k ∧ b = j then v else h a b
def mNest : Cond → Bool
  | .fieldLinkNest .. => true
  | .methodLinkNest .. => true
  | _ => false
def mRet (r : Option FieldType) (v : Int32) : Prop := ∃ ty, r = some ty ∧ narrow ty (.int v) = .int v
theorem mv_cat (ad : Nat → Nat) (v : mV) : (mv ad v).category = 1 := by cases v <;> rfl
theorem mws_at (Sh : mS) (ad : Nat → Nat) (cI : ClassId) (h : mH) (k : Nat) {e : (Nat × List Nat) ⊕ Nat} (he : Sh[k]? = some e) : (mws Sh ad cI h)[k]? = some (ad k, ment ad cI h k e) := by
  simp [mws, List.getElem?_mapIdx, he]
theorem mws_addr {Sh : mS} {ad : Nat → Nat} {cI : ClassId} {h : mH} {k : Nat} {q : Nat × va_E} (hq : (mws Sh ad cI h)[k]? = some q) : q.1 = ad k ∧ k < Sh.length := by
  simp only [mws, List.getElem?_mapIdx] at hq
  cases he : Sh[k]? with
  | none => rw [he] at hq; cases hq
  | some e =>
    rw [he] at hq
    have := (List.getElem?_eq_some_iff.mp he).1
    cases hq
    exact ⟨rfl, this⟩
theorem mws_D {Sh : mS} {ad : Nat → Nat} {cI : ClassId} {h h' : mH} {A : Nat → Prop} (hD : va_D A (mws Sh ad cI h)) : va_D A (mws Sh ad cI h') := by
  have key : ∀ (k : Nat) (q : Nat × va_E), (mws Sh ad cI h')[k]? = some q → ∃ q', (mws Sh ad cI h)[k]? = some q' ∧ q'.1 = q.1 := by
    intro k q hq
    obtain ⟨h1, h2⟩ := mws_addr hq
    obtain ⟨e, he⟩ : ∃ e, Sh[k]? = some e := ⟨_, List.getElem?_eq_getElem h2⟩
    exact ⟨_, mws_at Sh ad cI h k he, h1.symm⟩
  refine ⟨fun i j p q hi hj hpq => ?_, fun k q hk => ?_⟩
  · obtain ⟨p', hp', ep⟩ := key i p hi
    obtain ⟨q', hq', eq⟩ := key j q hj
    exact hD.1 i j p' q' hp' hq' (by rw [ep, eq]; exact hpq)
  · obtain ⟨q', hq', eq⟩ := key k q hk
    rw [← eq]
    exact hD.2 k q' hq'
theorem mws_A {Sh : mS} {ad : Nat → Nat} {cI : ClassId} {h h' : mH} {sz q : Nat} (hq : va_A (mws Sh ad cI h) sz q) : va_A (mws Sh ad cI h') sz q := by
  rcases hq with ⟨k, e, hk⟩ | hq
  · obtain ⟨h1, h2⟩ := mws_addr hk
    obtain ⟨e', he⟩ : ∃ e, Sh[k]? = some e := ⟨_, List.getElem?_eq_getElem h2⟩
    have h3 := mws_at Sh ad cI h' k he
    exact Or.inl ⟨k, _, by rw [h3, ← h1]⟩
  · exact Or.inr hq
theorem hs_at (h : mH) (k j : Nat) (v : Int32) : hs h k j v k j = v := by simp [hs]
theorem hs_ne (h : mH) {k j a b : Nat} (v : Int32) (hne : ¬ (a = k ∧ b = j)) : hs h k j v a b = h a b := by simp [hs, hne]
theorem hs_row (h : mH) (k j : Nat) (v : Int32) : hs h k j v k = upd (h k) j v := by
  funext b
  by_cases hb : b = j
  · subst hb; rw [hs_at, pk_us]
  · rw [hs_ne _ _ (fun q => hb q.2), pk_un hb]
theorem hs_rown (h : mH) {k a : Nat} (j : Nat) (v : Int32) (hne : a ≠ k) : hs h k j v a = h a := by
  funext b
  exact hs_ne _ _ (fun q => hne q.1)
/-- a put into an array's cell -/
theorem mws_setA {Sh : mS} {ad : Nat → Nat} {cI : ClassId} {h : mH} {k n j : Nat} {v : Int32} (he : Sh[k]? = some (.inr n)) : (mws Sh ad cI h).set k (ad k, .inl (cI, n, .inl (upd (h k) j v))) = mws Sh ad cI (hs h k j v) := by
  apply List.ext_getElem?
  intro i
  rw [List.getElem?_set]
  by_cases hi : k = i
  · subst hi
    have hl : k < (mws Sh ad cI h).length := by simp only [mws, List.length_mapIdx]; exact (List.getElem?_eq_some_iff.mp he).1
    rw [if_pos rfl, if_pos hl, mws_at Sh ad cI _ k he]
    simp only [ment, hs_row]
  · rw [if_neg hi]
    cases hei : Sh[i]? with
    | none => simp [mws, List.getElem?_mapIdx, hei]
    | some e =>
      rw [mws_at Sh ad cI _ i hei, mws_at Sh ad cI _ i hei]
      have h1 : hs h k j v i = h i := hs_rown h j v (fun q => hi q.symm)
      have h2 : ∀ j' f, mvl (hs h k j v) i j' f = mvl h i j' f := fun j' f => by
        have h3 : hs h k j v i j' = h i j' := by rw [h1]
        match f with
        | 0 => simp only [mvl, h3]
        | 1 => simp only [mvl, h3]
        | 2 => simp only [mvl, h3]
        | r + 3 => rfl
      cases e with
      | inl q => simp only [ment, h2]
      | inr n => simp only [ment, h1]
/-- a put into a field -/
theorem mws_setF {Sh : mS} {ad : Nat → Nat} {cI : ClassId} {h : mH} {k ci j f : Nat} {fks : List Nat} {x : Int32} {v : mV} (he : Sh[k]? = some (.inl (ci, fks))) (hj : fks[j]? = some f) (hv : mvl (hs h k j x) k j f = v) : (mws Sh ad cI h).set k (ad k, .inr (ci, (fks.mapIdx (fun j f => mv ad (mvl h k j f))).set j (mv ad v))) = mws Sh ad cI (hs h k j x) := by
  apply List.ext_getElem?
  intro i
  rw [List.getElem?_set]
  by_cases hi : k = i
  · subst hi
    have hl : k < (mws Sh ad cI h).length := by simp only [mws, List.length_mapIdx]; exact (List.getElem?_eq_some_iff.mp he).1
    rw [if_pos rfl, if_pos hl, mws_at Sh ad cI _ k he]
    simp only [ment]
    refine congrArg (fun z => some (ad k, Sum.inr (ci, z))) ?_
    apply List.ext_getElem?
    intro b
    rw [List.getElem?_set]
    by_cases hb : j = b
    · subst hb
      have hjl := (List.getElem?_eq_some_iff.mp hj).1
      rw [if_pos rfl, if_pos (by rw [List.length_mapIdx]; exact hjl), List.getElem?_mapIdx, hj]
      simp only [Option.map_some, hv]
    · rw [if_neg hb, List.getElem?_mapIdx, List.getElem?_mapIdx]
      refine congrArg (fun g => Option.map g fks[b]?) ?_
      funext f'
      have h3 : hs h k j x k b = h k b := hs_ne _ _ (fun q => hb q.2.symm)
      match f' with
      | 0 => simp only [mvl, h3]
      | 1 => simp only [mvl, h3]
      | 2 => simp only [mvl, h3]
      | r + 3 => rfl
  · rw [if_neg hi]
    cases hei : Sh[i]? with
    | none => simp [mws, List.getElem?_mapIdx, hei]
    | some e =>
      rw [mws_at Sh ad cI _ i hei, mws_at Sh ad cI _ i hei]
      have h1 : hs h k j x i = h i := hs_rown h j x (fun q => hi q.symm)
      have h2 : ∀ j' f, mvl (hs h k j x) i j' f = mvl h i j' f := fun j' f => by
        have h3 : hs h k j x i j' = h i j' := by rw [h1]
        match f with
        | 0 => simp only [mvl, h3]
        | 1 => simp only [mvl, h3]
        | 2 => simp only [mvl, h3]
        | r + 3 => rfl
      cases e with
      | inl q => simp only [ment, h2]
      | inr n => simp only [ment, h1]
/-- the world: the cells, apart, nothing else changed -/
def mW (Sh : mS) (D : va_G) (cI : ClassId) (ad : Nat → Nat) (A : Nat → Prop) (H0 : Heap) (H : Heap) (locs : List Loc) (h : mH) : Prop := va_P D vwCl (mws Sh ad cI h) H ∧ va_D A (mws Sh ad cI h) ∧ va_S A H0 H locs
/-- the locals -/
def mL (ad : Nat → Nat) (nL : Nat) (ls : List (Option mV)) (lr : Array Slot) : Prop := lr.size = nL ∧ lv_wf lr ∧ ∀ (i : Nat) (v : mV), ls[i]? = some (some v) → lr[i]? = some (.val (mv ad v))
def mC (sx : Option (Nat × (Nat → Int32))) (I : mI) (p : Program) (s : State) (m : MethodId) (args : Array Value) (meth : Method) (c : Code) (D : va_G) (cI : ClassId) (ad : Nat → Nat) (A : Nat → Prop) : Prop :=
  p.tables.exec = Jvm.exec ∧ c.code = I.2.1 ∧ c.maxLocals = I.2.2.1 ∧ meth.sig.returnType = I.2.2.2.1 ∧ meth.locks = false ∧ s.vm.findClass I.1 = some m.cls ∧ (∀ w ∈ wG, w.before args s = true) ∧ (∀ w ∈ lw_tbl, mNest w = true → va_Nw w s) ∧ va_K D vwCl [(cI, .int)] s ∧ (∀ q : Nat, s.heap.size ≤ q → A q) ∧ (∀ (L : Nat) (xs : Nat → Int32), sx = some (L, xs) → va_X (ad 1000) L xs s s.heap ∧ ad 1000 < s.heap.size ∧ ¬ A (ad 1000))
def mF (l : Launch) (Sh : mS) (I : mI) (RT : Option Int32 → mH → Prop) (p : Program) (e : Env) (s : State) (m : MethodId) (args : Array Value) (below : List Frame) (meth : Method) (c : Code) (Q : State → Prop) (D : va_G) (cI : ClassId) (ad : Nat → Nat) (A : Nat → Prop) : Prop :=
  (∀ (v : Int32) (h : mH) (H : Heap) (locs : List Loc) (pc : Nat) (lr : Array Slot), RT (some v) h → mRet I.2.2.2.1 v → mW Sh D cI ad A s.heap H locs h → decode I.2.1 pc = .ok (.ireturn, 1) → W p l e I.2.2.2.2 s m args below meth c H locs 0 0 Q (F0 m pc lr [.int v])) ∧
  (∀ (h : mH) (H : Heap) (locs : List Loc) (pc : Nat) (lr : Array Slot), RT none h → I.2.2.2.1 = none → mW Sh D cI ad A s.heap H locs h → decode I.2.1 pc = .ok (.return_, 1) → W p l e I.2.2.2.2 s m args below meth c H locs 0 0 Q (F0 m pc lr []))
/-- from this place of method I, with locals ls, stack st and heap h, the method comes to an end that RT takes -/
def mE (l : Launch) (Sh : mS) (sx : Option (Nat × (Nat → Int32))) (I : mI) (RT : Option Int32 → mH → Prop) (pc : Nat) (ls : List (Option mV)) (st : List mV) (h : mH) : Prop :=
  ∀ (p : Program) (e : Env) (s : State) (m : MethodId) (args : Array Value) (below : List Frame) (meth : Method) (c : Code) (Q : State → Prop) (D : va_G) (cI : ClassId) (ad : Nat → Nat) (A : Nat → Prop) (H : Heap) (locs : List Loc) (lr : Array Slot), mC sx I p s m args meth c D cI ad A → mF l Sh I RT p e s m args below meth c Q D cI ad A → mW Sh D cI ad A s.heap H locs h → mL ad I.2.2.1 ls lr → W p l e I.2.2.2.2 s m args below meth c H locs 0 0 Q (F0 m pc lr (st.map (mv ad)))
def mAl (ad : Nat → Nat) : Nat → List (Option mV) → List (Nat × Value)
  | _, [] => []
  | i, none :: t => mAl ad (i + 1) t
  | i, some v :: t => (i, mv ad v) :: mAl ad (i + 1) t
theorem mAl_in {ad : Nat → Nat} : ∀ {ls : List (Option mV)} {i0 : Nat} {q : Nat × Value}, q ∈ mAl ad i0 ls → ∃ (i : Nat) (v : mV), ls[i]? = some (some v) ∧ q = (i0 + i, mv ad v)
  | [], _, _, h => by cases h
  | none :: t, i0, q, h => by
    obtain ⟨i, v, h1, h2⟩ := mAl_in (ls := t) (i0 := i0 + 1) h
    exact ⟨i + 1, v, by simpa using h1, by rw [h2, Nat.add_assoc, Nat.add_comm 1 i]⟩
  | some v :: t, i0, q, h => by
    rcases List.mem_cons.mp h with h | h
    · exact ⟨0, v, rfl, h⟩
    · obtain ⟨i, v, h1, h2⟩ := mAl_in (ls := t) (i0 := i0 + 1) h
      exact ⟨i + 1, v, by simpa using h1, by rw [h2, Nat.add_assoc, Nat.add_comm 1 i]⟩
theorem mAl_mem {ad : Nat → Nat} : ∀ {ls : List (Option mV)} {i0 i : Nat} {v : mV}, ls[i]? = some (some v) → (i0 + i, mv ad v) ∈ mAl ad i0 ls
  | [], _, _, _, h => by simp at h
  | none :: t, i0, 0, v, h => by simp at h
  | none :: t, i0, i + 1, v, h => by
    have := mAl_mem (ad := ad) (ls := t) (i0 := i0 + 1) (i := i) (v := v) (by simpa using h)
    rw [Nat.add_assoc, Nat.add_comm 1 i] at this
    exact this
  | some w :: t, i0, 0, v, h => by
    simp at h
    subst h
    exact List.mem_cons_self
  | some w :: t, i0, i + 1, v, h => by
    have := mAl_mem (ad := ad) (ls := t) (i0 := i0 + 1) (i := i) (v := v) (by simpa using h)
    rw [Nat.add_assoc, Nat.add_comm 1 i] at this
    exact List.mem_cons_of_mem _ this
theorem mL_has {ad : Nat → Nat} {nL : Nat} {ls : List (Option mV)} {lr : Array Slot} (L : mL ad nL ls lr) : lv_has lr nL (mAl ad 0 ls) := by
  refine ⟨L.1, L.2.1, fun q hq => ?_⟩
  obtain ⟨i, v, h1, h2⟩ := mAl_in hq
  rw [h2]
  simpa using L.2.2 i v h1
theorem mL_st {ad : Nat → Nat} {nL i : Nat} {ls : List (Option mV)} {lr : Array Slot} {v : mV} (h : lv_has lr nL ((i, mv ad v) :: (mAl ad 0 ls).filter (fun q => !(q.1 == i) && !(q.1 + 1 == i && q.2.category == 2)))) : mL ad nL (ls.set i (some v)) lr := by
  refine ⟨h.1, h.2.1, fun j w hj => ?_⟩
  rw [List.getElem?_set] at hj
  by_cases hi : i = j
  · subst hi
    rw [if_pos rfl] at hj
    split at hj
    · cases hj
      exact h.2.2 _ List.mem_cons_self
    · cases hj
  · rw [if_neg hi] at hj
    have h1 := mAl_mem (ad := ad) (i0 := 0) hj
    rw [Nat.zero_add] at h1
    refine h.2.2 (j, mv ad w) (List.mem_cons_of_mem _ (List.mem_filter.mpr ⟨h1, ?_⟩))
    have h2 : ¬ j = i := fun q => hi q.symm
    simp [h2, mv_cat]
section RULES
variable {l : Launch} {Sh : mS} {sx : Option (Nat × (Nat → Int32))} {I : mI} {RT : Option Int32 → mH → Prop} {pc : Nat} {ls : List (Option mV)} {st : List mV} {h : mH}
theorem mE_mono {RT' : Option Int32 → mH → Prop} (hm : ∀ v h, RT v h → RT' v h) (k : mE l Sh sx I RT pc ls st h) : mE l Sh sx I RT' pc ls st h := fun p e s m args below meth c Q D cI ad A H locs lr C F Wd L => k p e s m args below meth c Q D cI ad A H locs lr C ⟨fun v h H locs pc lr r => F.1 v h H locs pc lr (hm _ _ r), fun h H locs pc lr r => F.2 h H locs pc lr (hm _ _ r)⟩ Wd L
theorem e_iadd {x y : Int32} (hd : decode I.2.1 pc = .ok (.iadd, 1))  (k : mE l Sh sx I RT (pc + 1) ls (.inl (x + y) :: st) h) : mE l Sh sx I RT pc ls (.inl y :: .inl x :: st) h := by
  intro p e s m args below meth c Q D cI ad A H locs lr C F Wd L
  exact lv_iadd C.1 C.2.1 hd  (k p e s m args below meth c Q D cI ad A H locs lr C F Wd L)
theorem e_isub {x y : Int32} (hd : decode I.2.1 pc = .ok (.isub, 1))  (k : mE l Sh sx I RT (pc + 1) ls (.inl (x - y) :: st) h) : mE l Sh sx I RT pc ls (.inl y :: .inl x :: st) h := by
  intro p e s m args below meth c Q D cI ad A H locs lr C F Wd L
  exact lv_isub C.1 C.2.1 hd  (k p e s m args below meth c Q D cI ad A H locs lr C F Wd L)
theorem e_imul {x y : Int32} (hd : decode I.2.1 pc = .ok (.imul, 1))  (k : mE l Sh sx I RT (pc + 1) ls (.inl (x * y) :: st) h) : mE l Sh sx I RT pc ls (.inl y :: .inl x :: st) h := by
  intro p e s m args below meth c Q D cI ad A H locs lr C F Wd L
  exact lv_imul C.1 C.2.1 hd  (k p e s m args below meth c Q D cI ad A H locs lr C F Wd L)
theorem e_iand {x y : Int32} (hd : decode I.2.1 pc = .ok (.iand, 1))  (k : mE l Sh sx I RT (pc + 1) ls (.inl (x &&& y) :: st) h) : mE l Sh sx I RT pc ls (.inl y :: .inl x :: st) h := by
  intro p e s m args below meth c Q D cI ad A H locs lr C F Wd L
  exact lv_iand C.1 C.2.1 hd  (k p e s m args below meth c Q D cI ad A H locs lr C F Wd L)
theorem e_ior {x y : Int32} (hd : decode I.2.1 pc = .ok (.ior, 1))  (k : mE l Sh sx I RT (pc + 1) ls (.inl (x ||| y) :: st) h) : mE l Sh sx I RT pc ls (.inl y :: .inl x :: st) h := by
  intro p e s m args below meth c Q D cI ad A H locs lr C F Wd L
  exact lv_ior C.1 C.2.1 hd  (k p e s m args below meth c Q D cI ad A H locs lr C F Wd L)
theorem e_ixor {x y : Int32} (hd : decode I.2.1 pc = .ok (.ixor, 1))  (k : mE l Sh sx I RT (pc + 1) ls (.inl (x ^^^ y) :: st) h) : mE l Sh sx I RT pc ls (.inl y :: .inl x :: st) h := by
  intro p e s m args below meth c Q D cI ad A H locs lr C F Wd L
  exact lv_ixor C.1 C.2.1 hd  (k p e s m args below meth c Q D cI ad A H locs lr C F Wd L)
theorem e_ishl {x y : Int32} (hd : decode I.2.1 pc = .ok (.ishl, 1))  (k : mE l Sh sx I RT (pc + 1) ls (.inl (x <<< (y &&& 31)) :: st) h) : mE l Sh sx I RT pc ls (.inl y :: .inl x :: st) h := by
  intro p e s m args below meth c Q D cI ad A H locs lr C F Wd L
  exact lv_ishl C.1 C.2.1 hd  (k p e s m args below meth c Q D cI ad A H locs lr C F Wd L)
theorem e_ishr {x y : Int32} (hd : decode I.2.1 pc = .ok (.ishr, 1))  (k : mE l Sh sx I RT (pc + 1) ls (.inl (x >>> (y &&& 31)) :: st) h) : mE l Sh sx I RT pc ls (.inl y :: .inl x :: st) h := by
  intro p e s m args below meth c Q D cI ad A H locs lr C F Wd L
  exact lv_ishr C.1 C.2.1 hd  (k p e s m args below meth c Q D cI ad A H locs lr C F Wd L)
theorem e_idiv {x y : Int32} (hd : decode I.2.1 pc = .ok (.idiv, 1)) (hne : ¬ y = 0) (k : mE l Sh sx I RT (pc + 1) ls (.inl (x / y) :: st) h) : mE l Sh sx I RT pc ls (.inl y :: .inl x :: st) h := by
  intro p e s m args below meth c Q D cI ad A H locs lr C F Wd L
  exact lv_idiv C.1 C.2.1 hd hne (k p e s m args below meth c Q D cI ad A H locs lr C F Wd L)
theorem e_irem {x y : Int32} (hd : decode I.2.1 pc = .ok (.irem, 1)) (hne : ¬ y = 0) (k : mE l Sh sx I RT (pc + 1) ls (.inl (x - x / y * y) :: st) h) : mE l Sh sx I RT pc ls (.inl y :: .inl x :: st) h := by
  intro p e s m args below meth c Q D cI ad A H locs lr C F Wd L
  exact lv_irem C.1 C.2.1 hd hne (k p e s m args below meth c Q D cI ad A H locs lr C F Wd L)
theorem e_iconst {n : Int} {v : Int32} (hd : decode I.2.1 pc = .ok (.iconst n, 1)) (hv : Int32.ofInt n = v) (k : mE l Sh sx I RT (pc + 1) ls (.inl v :: st) h) : mE l Sh sx I RT pc ls (st) h := by
  intro p e s m args below meth c Q D cI ad A H locs lr C F Wd L
  exact lv_iconst C.1 C.2.1 hd hv (k p e s m args below meth c Q D cI ad A H locs lr C F Wd L)
theorem e_bipush {n : Int} {v : Int32} (hd : decode I.2.1 pc = .ok (.bipush n, 2)) (hv : (Int8.ofInt n).toInt32 = v) (k : mE l Sh sx I RT (pc + 2) ls (.inl v :: st) h) : mE l Sh sx I RT pc ls (st) h := by
  intro p e s m args below meth c Q D cI ad A H locs lr C F Wd L
  exact lv_bipush C.1 C.2.1 hd hv (k p e s m args below meth c Q D cI ad A H locs lr C F Wd L)
theorem e_sipush {n : Int} {v : Int32} (hd : decode I.2.1 pc = .ok (.sipush n, 3)) (hv : (Int16.ofInt n).toInt32 = v) (k : mE l Sh sx I RT (pc + 3) ls (.inl v :: st) h) : mE l Sh sx I RT pc ls (st) h := by
  intro p e s m args below meth c Q D cI ad A H locs lr C F Wd L
  exact lv_sipush C.1 C.2.1 hd hv (k p e s m args below meth c Q D cI ad A H locs lr C F Wd L)
theorem e_dup {v : mV} (hd : decode I.2.1 pc = .ok (.dup, 1))  (k : mE l Sh sx I RT (pc + 1) ls (v :: v :: st) h) : mE l Sh sx I RT pc ls (v :: st) h := by
  intro p e s m args below meth c Q D cI ad A H locs lr C F Wd L
  exact lv_dup C.1 C.2.1 hd (mv_cat ad v) (k p e s m args below meth c Q D cI ad A H locs lr C F Wd L)
theorem e_pop {v : mV} (hd : decode I.2.1 pc = .ok (.pop, 1))  (k : mE l Sh sx I RT (pc + 1) ls (st) h) : mE l Sh sx I RT pc ls (v :: st) h := by
  intro p e s m args below meth c Q D cI ad A H locs lr C F Wd L
  exact lv_pop C.1 C.2.1 hd (mv_cat ad v) (k p e s m args below meth c Q D cI ad A H locs lr C F Wd L)
theorem e_dup2 {v v2 : mV} (hd : decode I.2.1 pc = .ok (.dup2, 1))  (k : mE l Sh sx I RT (pc + 1) ls (v :: v2 :: v :: v2 :: st) h) : mE l Sh sx I RT pc ls (v :: v2 :: st) h := by
  intro p e s m args below meth c Q D cI ad A H locs lr C F Wd L
  exact lv_dup2_11 C.1 C.2.1 hd (mv_cat ad v) (mv_cat ad v2) (k p e s m args below meth c Q D cI ad A H locs lr C F Wd L)
theorem e_iload_n {n : Fin 4} {i : Nat} {x : Int32} (hd : decode I.2.1 pc = .ok (.iload_n n, 1)) (hi : (n : Nat) = i) (hl : ls[i]? = some (some (.inl x))) (k : mE l Sh sx I RT (pc + 1) ls (.inl x :: st) h) : mE l Sh sx I RT pc ls (st) h := by
  intro p e s m args below meth c Q D cI ad A H locs lr C F Wd L
  exact lv_iload_n C.1 C.2.1 hd hi (L.2.2 _ _ hl) (k p e s m args below meth c Q D cI ad A H locs lr C F Wd L)
theorem e_iload {i : Nat} {x : Int32} (hd : decode I.2.1 pc = .ok (.iload i, 2)) (hl : ls[i]? = some (some (.inl x))) (k : mE l Sh sx I RT (pc + 2) ls (.inl x :: st) h) : mE l Sh sx I RT pc ls (st) h := by
  intro p e s m args below meth c Q D cI ad A H locs lr C F Wd L
  exact lv_iload C.1 C.2.1 hd (L.2.2 _ _ hl) (k p e s m args below meth c Q D cI ad A H locs lr C F Wd L)
theorem e_aload_n {n : Fin 4} {i : Nat} {x : Nat} (hd : decode I.2.1 pc = .ok (.aload_n n, 1)) (hi : (n : Nat) = i) (hl : ls[i]? = some (some (.inr x))) (k : mE l Sh sx I RT (pc + 1) ls (.inr x :: st) h) : mE l Sh sx I RT pc ls (st) h := by
  intro p e s m args below meth c Q D cI ad A H locs lr C F Wd L
  exact lv_aload_n C.1 C.2.1 hd hi (L.2.2 _ _ hl) (k p e s m args below meth c Q D cI ad A H locs lr C F Wd L)
theorem e_aload {i : Nat} {x : Nat} (hd : decode I.2.1 pc = .ok (.aload i, 2)) (hl : ls[i]? = some (some (.inr x))) (k : mE l Sh sx I RT (pc + 2) ls (.inr x :: st) h) : mE l Sh sx I RT pc ls (st) h := by
  intro p e s m args below meth c Q D cI ad A H locs lr C F Wd L
  exact lv_aload C.1 C.2.1 hd (L.2.2 _ _ hl) (k p e s m args below meth c Q D cI ad A H locs lr C F Wd L)
theorem e_ldc {index : Nat} {v : Int32} (hd : decode I.2.1 pc = .ok (.ldc index, 2)) (hw : Cond.constant I.1 index v ∈ wG) (k : mE l Sh sx I RT (pc + 2) ls (.inl v :: st) h) : mE l Sh sx I RT pc ls st h := by
  intro p e s m args below meth c Q D cI ad A H locs lr C F Wd L
  exact lv_ldc C.1 C.2.1 C.2.2.2.2.2.1 (C.2.2.2.2.2.2.1 _ hw) hd (k p e s m args below meth c Q D cI ad A H locs lr C F Wd L)
theorem e_istore_n {n : Fin 4} {i : Nat} {x : Int32} {ls2 : List (Option mV)} (hd : decode I.2.1 pc = .ok (.istore_n n, 1)) (hi : (n : Nat) = i) (hn : i < I.2.2.1) (hl : ls.set i (some (.inl x)) = ls2) (k : mE l Sh sx I RT (pc + 1) ls2 st h) : mE l Sh sx I RT pc ls (.inl x :: st) h := by
  intro p e s m args below meth c Q D cI ad A H locs lr C F Wd L
  exact lv_istore_n C.1 C.2.1 hd hi (mL_has L) hn rfl (fun lr2 hl2 => k p e s m args below meth c Q D cI ad A H locs lr2 C F Wd (by rw [← hl]; exact mL_st hl2))
theorem e_istore {i : Nat} {x : Int32} {ls2 : List (Option mV)} (hd : decode I.2.1 pc = .ok (.istore i, 2)) (hn : i < I.2.2.1) (hl : ls.set i (some (.inl x)) = ls2) (k : mE l Sh sx I RT (pc + 2) ls2 st h) : mE l Sh sx I RT pc ls (.inl x :: st) h := by
  intro p e s m args below meth c Q D cI ad A H locs lr C F Wd L
  exact lv_istore C.1 C.2.1 hd (mL_has L) hn rfl (fun lr2 hl2 => k p e s m args below meth c Q D cI ad A H locs lr2 C F Wd (by rw [← hl]; exact mL_st hl2))
theorem e_iinc {i : Nat} {n : Int} {x v : Int32} {ls2 : List (Option mV)} (hd : decode I.2.1 pc = .ok (.iinc i n, 3)) (hx : ls[i]? = some (some (.inl x))) (hv : x + Int32.ofInt n = v) (hn : i < I.2.2.1) (hl : ls.set i (some (.inl v)) = ls2) (k : mE l Sh sx I RT (pc + 3) ls2 st h) : mE l Sh sx I RT pc ls st h := by
  intro p e s m args below meth c Q D cI ad A H locs lr C F Wd L
  have hm := mAl_mem (ad := ad) (i0 := 0) hx
  rw [Nat.zero_add] at hm
  obtain ⟨kk, hkk⟩ := List.getElem?_of_mem hm
  exact lv_iinc C.1 C.2.1 hd (mL_has L) hkk hv hn rfl (fun lr2 hl2 => k p e s m args below meth c Q D cI ad A H locs lr2 C F Wd (by rw [← hl]; exact mL_st hl2))
theorem e_if_eq {x : Int32} {off : Int} {tgt : Nat} (hd : decode I.2.1 pc = .ok (.ifCond .eq off, 3)) (ht : (pc : Int) + off = (tgt : Int)) (kt : x = 0 → mE l Sh sx I RT tgt ls st h) (kf : ¬ x = 0 → mE l Sh sx I RT (pc + 3) ls st h) : mE l Sh sx I RT pc ls (.inl x :: st) h := by
  intro p e s m args below meth c Q D cI ad A H locs lr C F Wd L
  exact lv_if_eq C.1 C.2.1 hd ht (fun q => kt q p e s m args below meth c Q D cI ad A H locs lr C F Wd L) (fun q => kf q p e s m args below meth c Q D cI ad A H locs lr C F Wd L)
theorem e_icmp_eq {x y : Int32} {off : Int} {tgt : Nat} (hd : decode I.2.1 pc = .ok (.if_icmp .eq off, 3)) (ht : (pc : Int) + off = (tgt : Int)) (kt : x = y → mE l Sh sx I RT tgt ls st h) (kf : ¬ x = y → mE l Sh sx I RT (pc + 3) ls st h) : mE l Sh sx I RT pc ls (.inl y :: .inl x :: st) h := by
  intro p e s m args below meth c Q D cI ad A H locs lr C F Wd L
  exact lv_icmp_eq C.1 C.2.1 hd ht (fun q => kt q p e s m args below meth c Q D cI ad A H locs lr C F Wd L) (fun q => kf q p e s m args below meth c Q D cI ad A H locs lr C F Wd L)
theorem e_if_ne {x : Int32} {off : Int} {tgt : Nat} (hd : decode I.2.1 pc = .ok (.ifCond .ne off, 3)) (ht : (pc : Int) + off = (tgt : Int)) (kt : ¬ x = 0 → mE l Sh sx I RT tgt ls st h) (kf : x = 0 → mE l Sh sx I RT (pc + 3) ls st h) : mE l Sh sx I RT pc ls (.inl x :: st) h := by
  intro p e s m args below meth c Q D cI ad A H locs lr C F Wd L
  exact lv_if_ne C.1 C.2.1 hd ht (fun q => kt q p e s m args below meth c Q D cI ad A H locs lr C F Wd L) (fun q => kf q p e s m args below meth c Q D cI ad A H locs lr C F Wd L)
theorem e_icmp_ne {x y : Int32} {off : Int} {tgt : Nat} (hd : decode I.2.1 pc = .ok (.if_icmp .ne off, 3)) (ht : (pc : Int) + off = (tgt : Int)) (kt : ¬ x = y → mE l Sh sx I RT tgt ls st h) (kf : x = y → mE l Sh sx I RT (pc + 3) ls st h) : mE l Sh sx I RT pc ls (.inl y :: .inl x :: st) h := by
  intro p e s m args below meth c Q D cI ad A H locs lr C F Wd L
  exact lv_icmp_ne C.1 C.2.1 hd ht (fun q => kt q p e s m args below meth c Q D cI ad A H locs lr C F Wd L) (fun q => kf q p e s m args below meth c Q D cI ad A H locs lr C F Wd L)
theorem e_if_lt {x : Int32} {off : Int} {tgt : Nat} (hd : decode I.2.1 pc = .ok (.ifCond .lt off, 3)) (ht : (pc : Int) + off = (tgt : Int)) (kt : x < 0 → mE l Sh sx I RT tgt ls st h) (kf : ¬ x < 0 → mE l Sh sx I RT (pc + 3) ls st h) : mE l Sh sx I RT pc ls (.inl x :: st) h := by
  intro p e s m args below meth c Q D cI ad A H locs lr C F Wd L
  exact lv_if_lt C.1 C.2.1 hd ht (fun q => kt q p e s m args below meth c Q D cI ad A H locs lr C F Wd L) (fun q => kf q p e s m args below meth c Q D cI ad A H locs lr C F Wd L)
theorem e_icmp_lt {x y : Int32} {off : Int} {tgt : Nat} (hd : decode I.2.1 pc = .ok (.if_icmp .lt off, 3)) (ht : (pc : Int) + off = (tgt : Int)) (kt : x < y → mE l Sh sx I RT tgt ls st h) (kf : ¬ x < y → mE l Sh sx I RT (pc + 3) ls st h) : mE l Sh sx I RT pc ls (.inl y :: .inl x :: st) h := by
  intro p e s m args below meth c Q D cI ad A H locs lr C F Wd L
  exact lv_icmp_lt C.1 C.2.1 hd ht (fun q => kt q p e s m args below meth c Q D cI ad A H locs lr C F Wd L) (fun q => kf q p e s m args below meth c Q D cI ad A H locs lr C F Wd L)
theorem e_if_ge {x : Int32} {off : Int} {tgt : Nat} (hd : decode I.2.1 pc = .ok (.ifCond .ge off, 3)) (ht : (pc : Int) + off = (tgt : Int)) (kt : 0 ≤ x → mE l Sh sx I RT tgt ls st h) (kf : ¬ 0 ≤ x → mE l Sh sx I RT (pc + 3) ls st h) : mE l Sh sx I RT pc ls (.inl x :: st) h := by
  intro p e s m args below meth c Q D cI ad A H locs lr C F Wd L
  exact lv_if_ge C.1 C.2.1 hd ht (fun q => kt q p e s m args below meth c Q D cI ad A H locs lr C F Wd L) (fun q => kf q p e s m args below meth c Q D cI ad A H locs lr C F Wd L)
theorem e_icmp_ge {x y : Int32} {off : Int} {tgt : Nat} (hd : decode I.2.1 pc = .ok (.if_icmp .ge off, 3)) (ht : (pc : Int) + off = (tgt : Int)) (kt : y ≤ x → mE l Sh sx I RT tgt ls st h) (kf : ¬ y ≤ x → mE l Sh sx I RT (pc + 3) ls st h) : mE l Sh sx I RT pc ls (.inl y :: .inl x :: st) h := by
  intro p e s m args below meth c Q D cI ad A H locs lr C F Wd L
  exact lv_icmp_ge C.1 C.2.1 hd ht (fun q => kt q p e s m args below meth c Q D cI ad A H locs lr C F Wd L) (fun q => kf q p e s m args below meth c Q D cI ad A H locs lr C F Wd L)
theorem e_if_gt {x : Int32} {off : Int} {tgt : Nat} (hd : decode I.2.1 pc = .ok (.ifCond .gt off, 3)) (ht : (pc : Int) + off = (tgt : Int)) (kt : 0 < x → mE l Sh sx I RT tgt ls st h) (kf : ¬ 0 < x → mE l Sh sx I RT (pc + 3) ls st h) : mE l Sh sx I RT pc ls (.inl x :: st) h := by
  intro p e s m args below meth c Q D cI ad A H locs lr C F Wd L
  exact lv_if_gt C.1 C.2.1 hd ht (fun q => kt q p e s m args below meth c Q D cI ad A H locs lr C F Wd L) (fun q => kf q p e s m args below meth c Q D cI ad A H locs lr C F Wd L)
theorem e_icmp_gt {x y : Int32} {off : Int} {tgt : Nat} (hd : decode I.2.1 pc = .ok (.if_icmp .gt off, 3)) (ht : (pc : Int) + off = (tgt : Int)) (kt : y < x → mE l Sh sx I RT tgt ls st h) (kf : ¬ y < x → mE l Sh sx I RT (pc + 3) ls st h) : mE l Sh sx I RT pc ls (.inl y :: .inl x :: st) h := by
  intro p e s m args below meth c Q D cI ad A H locs lr C F Wd L
  exact lv_icmp_gt C.1 C.2.1 hd ht (fun q => kt q p e s m args below meth c Q D cI ad A H locs lr C F Wd L) (fun q => kf q p e s m args below meth c Q D cI ad A H locs lr C F Wd L)
theorem e_if_le {x : Int32} {off : Int} {tgt : Nat} (hd : decode I.2.1 pc = .ok (.ifCond .le off, 3)) (ht : (pc : Int) + off = (tgt : Int)) (kt : x ≤ 0 → mE l Sh sx I RT tgt ls st h) (kf : ¬ x ≤ 0 → mE l Sh sx I RT (pc + 3) ls st h) : mE l Sh sx I RT pc ls (.inl x :: st) h := by
  intro p e s m args below meth c Q D cI ad A H locs lr C F Wd L
  exact lv_if_le C.1 C.2.1 hd ht (fun q => kt q p e s m args below meth c Q D cI ad A H locs lr C F Wd L) (fun q => kf q p e s m args below meth c Q D cI ad A H locs lr C F Wd L)
theorem e_icmp_le {x y : Int32} {off : Int} {tgt : Nat} (hd : decode I.2.1 pc = .ok (.if_icmp .le off, 3)) (ht : (pc : Int) + off = (tgt : Int)) (kt : x ≤ y → mE l Sh sx I RT tgt ls st h) (kf : ¬ x ≤ y → mE l Sh sx I RT (pc + 3) ls st h) : mE l Sh sx I RT pc ls (.inl y :: .inl x :: st) h := by
  intro p e s m args below meth c Q D cI ad A H locs lr C F Wd L
  exact lv_icmp_le C.1 C.2.1 hd ht (fun q => kt q p e s m args below meth c Q D cI ad A H locs lr C F Wd L) (fun q => kf q p e s m args below meth c Q D cI ad A H locs lr C F Wd L)
theorem e_goto {off : Int} {tgt : Nat} (hd : decode I.2.1 pc = .ok (.goto off, 3)) (ht : (pc : Int) + off = (tgt : Int)) (k : mE l Sh sx I RT tgt ls st h) : mE l Sh sx I RT pc ls st h := by
  intro p e s m args below meth c Q D cI ad A H locs lr C F Wd L
  exact lv_goto C.1 C.2.1 hd ht (k p e s m args below meth c Q D cI ad A H locs lr C F Wd L)
theorem e_lookup {dflt : Int} {ps : Array (Int × Int)} {len : Nat} {x : Int32} {off : Int} {tgt : Nat} (hd : decode I.2.1 pc = .ok (.lookupswitch dflt ps, len)) (hp : (ps.toList.zip (ps.toList.drop 1)).all (fun (a, next) => a.1 < next.1) = true) (ho : Op.lookupswitch.offset ps.toList dflt x.toInt = off) (ht : (pc : Int) + off = (tgt : Int)) (k : mE l Sh sx I RT tgt ls st h) : mE l Sh sx I RT pc ls (.inl x :: st) h := by
  intro p e s m args below meth c Q D cI ad A H locs lr C F Wd L
  exact lv_lookup C.1 C.2.1 hd hp ho ht (k p e s m args below meth c Q D cI ad A H locs lr C F Wd L)
theorem e_tableOut {dflt lo hi : Int} {offs : Array Int} {len : Nat} {x : Int32} {tgt : Nat} (hd : decode I.2.1 pc = .ok (.tableswitch dflt lo hi offs, len)) (hq : x.toInt < lo ∨ hi < x.toInt) (ht : (pc : Int) + dflt = (tgt : Int)) (k : mE l Sh sx I RT tgt ls st h) : mE l Sh sx I RT pc ls (.inl x :: st) h := by
  intro p e s m args below meth c Q D cI ad A H locs lr C F Wd L
  exact lv_tableOut C.1 C.2.1 hd hq ht (k p e s m args below meth c Q D cI ad A H locs lr C F Wd L)
theorem e_tableIn {dflt lo hi : Int} {offs : Array Int} {len : Nat} {x : Int32} {off : Int} {tgt : Nat} (hd : decode I.2.1 pc = .ok (.tableswitch dflt lo hi offs, len)) (h1 : ¬ x.toInt < lo) (h2 : ¬ hi < x.toInt) (ho : offs[(x.toInt - lo).toNat]? = some off) (ht : (pc : Int) + off = (tgt : Int)) (k : mE l Sh sx I RT tgt ls st h) : mE l Sh sx I RT pc ls (.inl x :: st) h := by
  intro p e s m args below meth c Q D cI ad A H locs lr C F Wd L
  exact lv_tableIn C.1 C.2.1 hd h1 h2 ho ht (k p e s m args below meth c Q D cI ad A H locs lr C F Wd L)
theorem e_iret {v : Int32} (hd : decode I.2.1 pc = .ok (.ireturn, 1)) (hr : mRet I.2.2.2.1 v) (r : RT (some v) h) : mE l Sh sx I RT pc ls [.inl v] h := by
  intro p e s m args below meth c Q D cI ad A H locs lr C F Wd L
  exact F.1 v h H locs pc lr r hr Wd hd
theorem e_ret (hd : decode I.2.1 pc = .ok (.return_, 1)) (hr : I.2.2.2.1 = none) (r : RT none h) : mE l Sh sx I RT pc ls [] h := by
  intro p e s m args below meth c Q D cI ad A H locs lr C F Wd L
  exact F.2 h H locs pc lr r hr Wd hd
/-- a field's link -/
def mFL (own : String) (idx ci j : Nat) : Prop := ∃ (C : String) (T : u_T) (N : Nat), vwCl[ci]? = some (C, T, N) ∧ j < N ∧ (∀ w ∈ u_ws C T N, w ∈ wG) ∧ (Cond.fieldLink own idx (T j).1 (T j).2.1 (T j).2.2.1 ∈ wG ∨ ∃ host, Cond.fieldLinkNest own idx (T j).1 (T j).2.1 (T j).2.2.1 host ∈ lw_tbl)
def mFP (ci j : Nat) (ty : FieldType) : Prop := ∃ (C : String) (T : u_T) (N : Nat), vwCl[ci]? = some (C, T, N) ∧ (∃ ty0 : Nat → FieldType, ∀ k, k < N → parseFieldDescriptor (T k).2.2.1 = some (ty0 k)) ∧ (∀ a, a < N → ∀ b, b < N → a ≠ b → (T a).2.1 ≠ (T b).2.1) ∧ (T j).2.2.2 = false ∧ parseFieldDescriptor (T j).2.2.1 = some ty
theorem e_get {idx ci j k f : Nat} {fks : List Nat} (hd : decode I.2.1 pc = .ok (.getfield idx, 3)) (hf : mFL I.1 idx ci j) (hS : Sh[k]? = some (.inl (ci, fks))) (hj : fks[j]? = some f) (kk : mE l Sh sx I RT (pc + 3) ls (mvl h k j f :: st) h) : mE l Sh sx I RT pc ls (.inr k :: st) h := by
  intro p e s m args below meth c Q D cI ad A H locs lr C F Wd L
  obtain ⟨C1, T1, N1, hc, hjN, hin, hlk⟩ := hf
  have hv : (fks.mapIdx (fun j f => mv ad (mvl h k j f)))[j]? = some (mv ad (mvl h k j f)) := by rw [List.getElem?_mapIdx, hj]; rfl
  have k2 := kk p e s m args below meth c Q D cI ad A H locs lr C F Wd L
  rcases hlk with hlk | ⟨host, hlk⟩
  · exact va_get C.1 C.2.1 C.2.2.2.2.2.2.1 hin C.2.2.2.2.2.1 C.2.2.2.2.2.2.2.2.1 Wd.1 k (mws_at Sh ad cI h k hS) hc j hjN (C.2.2.2.2.2.2.1 _ hlk) (fun _ h9 => h9) hv hd k2
  · exact va_getN C.1 C.2.1 C.2.2.2.2.2.2.1 hin C.2.2.2.2.2.1 C.2.2.2.2.2.2.2.2.1 Wd.1 k (mws_at Sh ad cI h k hS) hc j hjN (va_Nw.use rfl (C.2.2.2.2.2.2.2.1 _ hlk rfl)) (fun _ h9 => h9) hv hd k2
theorem e_getI {idx ci j k : Nat} {fks : List Nat} {x : Int32} (hd : decode I.2.1 pc = .ok (.getfield idx, 3)) (hf : mFL I.1 idx ci j) (hS : Sh[k]? = some (.inl (ci, fks))) (hj : fks[j]? = some 0) (hx : h k j = x) (kk : mE l Sh sx I RT (pc + 3) ls (.inl x :: st) h) : mE l Sh sx I RT pc ls (.inr k :: st) h := e_get hd hf hS hj (by subst hx; exact kk)
theorem e_getZ {idx ci j k : Nat} {fks : List Nat} {x : Int32} (hd : decode I.2.1 pc = .ok (.getfield idx, 3)) (hf : mFL I.1 idx ci j) (hS : Sh[k]? = some (.inl (ci, fks))) (hj : fks[j]? = some 1) (hx : h k j = x) (kk : mE l Sh sx I RT (pc + 3) ls (.inl x :: st) h) : mE l Sh sx I RT pc ls (.inr k :: st) h := e_get hd hf hS hj (by subst hx; exact kk)
theorem e_getR {idx ci j k r : Nat} {fks : List Nat} (hd : decode I.2.1 pc = .ok (.getfield idx, 3)) (hf : mFL I.1 idx ci j) (hS : Sh[k]? = some (.inl (ci, fks))) (hj : fks[j]? = some (r + 3)) (kk : mE l Sh sx I RT (pc + 3) ls (.inr r :: st) h) : mE l Sh sx I RT pc ls (.inr k :: st) h := e_get hd hf hS hj kk
theorem e_getD {idx ci j k r : Nat} {fks : List Nat} (hd : decode I.2.1 pc = .ok (.getfield idx, 3)) (hf : mFL I.1 idx ci j) (hS : Sh[k]? = some (.inl (ci, fks))) (hj : fks[j]? = some 2) (hx : (h k j).toNatClampNeg = r) (kk : mE l Sh sx I RT (pc + 3) ls (.inr r :: st) h) : mE l Sh sx I RT pc ls (.inr k :: st) h := e_get hd hf hS hj (by subst hx; exact kk)
theorem e_put {idx ci j k f : Nat} {ty : FieldType} {fks : List Nat} {x : Int32} {v : mV} (hd : decode I.2.1 pc = .ok (.putfield idx, 3)) (hf : mFL I.1 idx ci j) (hp : mFP ci j ty) (hS : Sh[k]? = some (.inl (ci, fks))) (hj : fks[j]? = some f) (hv : mvl (hs h k j x) k j f = v) (hn : ∀ ad, narrow ty (mv ad v) = mv ad v) (hfit : ∀ ad, fits ty (mv ad v) = true) (kk : mE l Sh sx I RT (pc + 3) ls st (hs h k j x)) : mE l Sh sx I RT pc ls (v :: .inr k :: st) h := by
  intro p e s m args below meth c Q D cI ad A H locs lr C F Wd L
  obtain ⟨C1, T1, N1, hc, hjN, hin, hlk⟩ := hf
  obtain ⟨C2, T2, N2, hc2, ⟨ty0, hty⟩, hnm, hfin, hd2⟩ := hp
  obtain ⟨rfl, rfl, rfl⟩ : C1 = C2 ∧ T1 = T2 ∧ N1 = N2 := by
    have := Option.some.inj (hc.symm.trans hc2)
    cases this
    exact ⟨rfl, rfl, rfl⟩
  have hlen : j < (fks.mapIdx (fun j f => mv ad (mvl h k j f))).length := by rw [List.length_mapIdx]; exact (List.getElem?_eq_some_iff.mp hj).1
  have hset := mws_setF (ad := ad) (cI := cI) (x := x) hS hj hv
  have k2 : ∀ (H1 : Heap) (locs1 : List Loc), va_P D vwCl ((mws Sh ad cI h).set k (ad k, .inr (ci, (fks.mapIdx (fun j f => mv ad (mvl h k j f))).set j (mv ad v)))) H1 → va_D A ((mws Sh ad cI h).set k (ad k, .inr (ci, (fks.mapIdx (fun j f => mv ad (mvl h k j f))).set j (mv ad v)))) → va_S A s.heap H1 locs1 → W p l e I.2.2.2.2 s m args below meth c H1 locs1 0 0 Q (F0 m (pc + 3) lr (st.map (mv ad))) := by
    intro H1 locs1 q1 q2 q3
    rw [hset] at q1 q2
    exact kk p e s m args below meth c Q D cI ad A H1 locs1 lr C F ⟨q1, q2, q3⟩ L
  rcases hlk with hlk | ⟨host, hlk⟩
  · exact va_put C.1 C.2.1 C.2.2.2.2.2.2.1 hin ty0 hty hnm C.2.2.2.2.2.1 C.2.2.2.2.2.2.2.2.1 Wd.1 Wd.2.1 Wd.2.2 k (mws_at Sh ad cI h k hS) hc j hjN (C.2.2.2.2.2.2.1 _ hlk) (fun _ h9 => h9) hfin hd2 (hn ad) (hfit ad) hlen hd k2
  · exact va_putN C.1 C.2.1 C.2.2.2.2.2.2.1 hin ty0 hty hnm C.2.2.2.2.2.1 C.2.2.2.2.2.2.2.2.1 Wd.1 Wd.2.1 Wd.2.2 k (mws_at Sh ad cI h k hS) hc j hjN (va_Nw.use rfl (C.2.2.2.2.2.2.2.1 _ hlk rfl)) (fun _ h9 => h9) hfin hd2 (hn ad) (hfit ad) hlen hd k2
theorem e_putI {idx ci j k : Nat} {fks : List Nat} {x : Int32} (hd : decode I.2.1 pc = .ok (.putfield idx, 3)) (hf : mFL I.1 idx ci j) (hp : mFP ci j .int) (hS : Sh[k]? = some (.inl (ci, fks))) (hj : fks[j]? = some 0) (kk : mE l Sh sx I RT (pc + 3) ls st (hs h k j x)) : mE l Sh sx I RT pc ls (.inl x :: .inr k :: st) h := e_put hd hf hp hS hj (by simp only [mvl, hs_at]) (fun _ => rfl) (fun _ => rfl) kk
theorem e_putZ {idx ci j k : Nat} {fks : List Nat} {x : Int32} (hd : decode I.2.1 pc = .ok (.putfield idx, 3)) (hf : mFL I.1 idx ci j) (hp : mFP ci j .boolean) (hS : Sh[k]? = some (.inl (ci, fks))) (hj : fks[j]? = some 1) (hx : x = 0 ∨ x = 1) (kk : mE l Sh sx I RT (pc + 3) ls st (hs h k j x)) : mE l Sh sx I RT pc ls (.inl x :: .inr k :: st) h := e_put hd hf hp hS hj (by simp only [mvl, hs_at]) (fun _ => by rcases hx with rfl | rfl <;> rfl) (fun _ => by rcases hx with rfl | rfl <;> rfl) kk
theorem e_putD {idx ci j k r : Nat} {C : String} {fks : List Nat} (hd : decode I.2.1 pc = .ok (.putfield idx, 3)) (hf : mFL I.1 idx ci j) (hp : mFP ci j (.object C)) (hS : Sh[k]? = some (.inl (ci, fks))) (hj : fks[j]? = some 2) (hr : r < 2 ^ 31) (kk : mE l Sh sx I RT (pc + 3) ls st (hs h k j (nI r))) : mE l Sh sx I RT pc ls (.inr r :: .inr k :: st) h := e_put hd hf hp hS hj (by simp only [mvl, hs_at, nI_clamp hr]) (fun _ => rfl) (fun _ => rfl) kk
theorem e_iald {k n : Nat} {i x : Int32} (hd : decode I.2.1 pc = .ok (.iaload, 1)) (hS : Sh[k]? = some (.inr n)) (hin : vp_in i n) (hx : h k i.toNatClampNeg = x) (kk : mE l Sh sx I RT (pc + 1) ls (.inl x :: st) h) : mE l Sh sx I RT pc ls (.inl i :: .inr k :: st) h := by
  intro p e s m args below meth c Q D cI ad A H locs lr C F Wd L
  subst hx
  exact va_iald C.1 C.2.1 C.2.2.2.2.2.2.2.2.1 Wd.1 k 0 (mws_at Sh ad cI h k hS) rfl hin hd (kk p e s m args below meth c Q D cI ad A H locs lr C F Wd L)
theorem e_iast {k n : Nat} {i x : Int32} (hd : decode I.2.1 pc = .ok (.iastore, 1)) (hS : Sh[k]? = some (.inr n)) (hin : vp_in i n) (kk : mE l Sh sx I RT (pc + 1) ls st (hs h k i.toNatClampNeg x)) : mE l Sh sx I RT pc ls (.inl x :: .inl i :: .inr k :: st) h := by
  intro p e s m args below meth c Q D cI ad A H locs lr C F Wd L
  refine va_iast C.1 C.2.1 C.2.2.2.2.2.2.2.2.1 Wd.1 Wd.2.1 Wd.2.2 k 0 (mws_at Sh ad cI h k hS) rfl hin hd (fun H1 locs1 q1 q2 q3 => ?_)
  rw [mws_setA hS] at q1 q2
  exact kk p e s m args below meth c Q D cI ad A H1 locs1 lr C F ⟨q1, q2, q3⟩ L
theorem e_sld {n : Nat} {xs : Nat → Int32} {i : Int32} (hd : decode I.2.1 pc = .ok (.iaload, 1)) (hsx : sx = some (n, xs)) (hin : vp_in i n) (kk : mE l Sh sx I RT (pc + 1) ls (.inl (xs i.toNatClampNeg) :: st) h) : mE l Sh sx I RT pc ls (.inl i :: .inr 1000 :: st) h := by
  intro p e s m args below meth c Q D cI ad A H locs lr C F Wd L
  obtain ⟨h1, h2, h3⟩ := C.2.2.2.2.2.2.2.2.2.2 n xs hsx
  exact va_sld C.1 C.2.1 h1 h2 h3 Wd.2.2 hin hd (kk p e s m args below meth c Q D cI ad A H locs lr C F Wd L)
theorem e_slen {n : Nat} {xs : Nat → Int32} (hd : decode I.2.1 pc = .ok (.arraylength, 1)) (hsx : sx = some (n, xs)) (kk : mE l Sh sx I RT (pc + 1) ls (.inl (nI n) :: st) h) : mE l Sh sx I RT pc ls (.inr 1000 :: st) h := by
  intro p e s m args below meth c Q D cI ad A H locs lr C F Wd L
  obtain ⟨h1, h2, h3⟩ := C.2.2.2.2.2.2.2.2.2.2 n xs hsx
  exact va_slen C.1 C.2.1 h1 h2 h3 Wd.2.2 hd (kk p e s m args below meth c Q D cI ad A H locs lr C F Wd L)
/-! calls -/
def mLk (own : String) (idx : Nat) (y : MethodName) : Prop := Cond.methodLink own idx y ∈ wG ∨ ∃ host, Cond.methodLinkNest own idx y host ∈ lw_tbl
def mY (y : MethodName) (J : mI) (n : Nat) : Prop := plainName y.cls = true ∧ y.cls = J.1 ∧ (y.cls ≠ "java/lang/invoke/MethodHandle" ∧ y.cls ≠ "java/lang/invoke/VarHandle" ∧ (parseMethodDescriptor y.desc).map (fun d => d.parameters.length) = some n) ∧ Cond.code y J.2.1 J.2.2.1 J.2.2.2.1 ∈ wG ∧ Cond.initialized y.cls ∈ wG ∧ J.2.2.2.2.cells = 0 ∧ J.2.2.2.2.slots = 0
def mYv (y : MethodName) (J : mI) (n : Nat) : Prop := mY y J n ∧ Cond.instanceMethod y ∈ wG ∧ Cond.selects y.cls y y ∈ wG
def mYs (y : MethodName) (J : mI) (n : Nat) : Prop := mY y J n ∧ Cond.static y ∈ wG
theorem wG_good {ws : List Cond} (hw : ∀ w ∈ ws, w ∈ wG) : GoodIn wG ws := fun w h => ⟨hw w h, good_of_word (List.mem_filter.mp (hw w h)).2⟩
def entl (n : Nat) (As : List mV) : List (Option mV) := As.map some ++ List.replicate (n - As.length) none
/-- method J on these arguments, from h, answers v and leaves h' -/
def mD (l : Launch) (Sh : mS) (J : mI) (As : List mV) (h : mH) (v : Option Int32) (h' : mH) : Prop := ∀ RT : Option Int32 → mH → Prop, RT v h' → mE l Sh none J RT 0 (entl J.2.2.1 As) [] h
/-- the same, with all ends that P takes -/
def mG (l : Launch) (Sh : mS) (J : mI) (As : List mV) (h : mH) (P : Option Int32 → mH → Prop) : Prop := ∀ RT : Option Int32 → mH → Prop, (∀ v u, P v u → RT v u) → mE l Sh none J RT 0 (entl J.2.2.1 As) [] h
theorem mD.g {J : mI} {As : List mV} {v : Option Int32} {h2 : mH} (hE : mD l Sh J As h v h2) : mG l Sh J As h (fun w u => w = v ∧ u = h2) := fun RT r => hE RT (r _ _ ⟨rfl, rfl⟩)
theorem mG.weaken {J : mI} {As : List mV} {P P2 : Option Int32 → mH → Prop} (hE : mG l Sh J As h P) (hm : ∀ v u, P v u → P2 v u) : mG l Sh J As h P2 := fun RT r => hE RT (fun v u q => r v u (hm v u q))
theorem lg_sl_len (ad : Nat → Nat) : ∀ As : List mV, (lg_sl (As.map (mv ad))).length = As.length
  | [] => rfl
  | v :: t => by
    have ih := lg_sl_len ad t
    simp only [lg_sl, List.map_cons, List.flatMap_cons, mv_cat] at ih ⊢
    simp [ih]
theorem lv_args_mem (ad : Nat → Nat) : ∀ (As : List mV) (i0 i : Nat) (v : mV), As[i]? = some v → (i0 + i, mv ad v) ∈ lv_args i0 (As.map (mv ad))
  | [], _, _, _, h => by simp at h
  | w :: t, i0, 0, v, h => by
    simp at h
    subst h
    exact List.mem_cons_self
  | w :: t, i0, i + 1, v, h => by
    have ih := lv_args_mem ad t (i0 + 1) i v (by simpa using h)
    rw [Nat.add_assoc, Nat.add_comm 1 i] at ih
    refine List.mem_cons_of_mem _ ?_
    rw [if_neg (by rw [mv_cat]; decide)]
    exact ih
theorem mL_entry (ad : Nat → Nat) (As : List mV) {n : Nat} (hn : As.length ≤ n) : mL ad n (entl n As) ((lg_sl (As.map (mv ad)) ++ List.replicate (n - (lg_sl (As.map (mv ad))).length) Slot.unset).toArray) := by
  have h1 := lv_entry (As.map (mv ad)) (n := n) (by rw [lg_sl_len]; exact hn)
  refine ⟨h1.1, h1.2.1, fun i v hi => ?_⟩
  have h2 : As[i]? = some v := by
    unfold entl at hi
    rw [List.getElem?_append] at hi
    split at hi
    · rw [List.getElem?_map] at hi
      cases hq : As[i]? with
      | none => rw [hq] at hi; cases hi
      | some w => rw [hq] at hi; cases hi; rfl
    · rw [List.getElem?_replicate] at hi
      split at hi <;> cases hi
  have h3 := lv_args_mem ad As 0 i v h2
  rw [Nat.zero_add] at h3
  exact h1.2.2 _ h3
theorem mNest_on {w : Cond} (h : mNest w = true) : w.onTables = true := by cases w <;> first | rfl | cases h
theorem mNest_warm {w : Cond} {s U : State} (h : mNest w = true) (hW : s.WarmedH U.vm) (hN : va_Nw w s) : va_Nw w U := by
  cases w <;> first | exact va_Nw.warmF hW hN | exact va_Nw.warmM hW hN | cases h
def mPc (Sh : mS) (D : va_G) (cI : ClassId) (ad : Nat → Nat) (h : mH) (sz : Nat) : State → Prop := fun U => U.heap.size = sz ∧ va_P D vwCl (mws Sh ad cI h) U.heap ∧ va_K D vwCl [(cI, .int)] U ∧ va_D (fun _ => True) (mws Sh ad cI h) ∧ ∀ w ∈ lw_tbl, mNest w = true → va_Nw w U
def mB (Sh : mS) (D : va_G) (cI : ClassId) (ad : Nat → Nat) (h : mH) (t : State) : Prop := va_P D vwCl (mws Sh ad cI h) t.heap
theorem mPc_blind (Sh : mS) (D : va_G) (cI : ClassId) (ad : Nat → Nat) (h : mH) (sz : Nat) (As : List Value) : FrameBlind (va_Pc As (mPc Sh D cI ad h sz)) := by
  intro a U g mk q
  obtain ⟨e, q1, q2, q3, q4, q5⟩ := q
  exact ⟨e, q1, q2, va_K.moved (u := U) (U := U.calling g mk a) (Vm.Alike.refl U.vm) q3, q4, fun w hw hn => va_tabs (mNest_on hn) (u := U) (U := U.calling g mk a) rfl (q5 w hw hn)⟩
theorem met_i {y : MethodName} {J : mI} {n : Nat} (hy : mY y J n) {ty : FieldType} (hr0 : J.2.2.2.1 = some ty) {As : List mV} {h0 : mH} {RT0 : Int32 → mH → Prop} (hn : As.length ≤ J.2.2.1) (hE : mE l Sh none J (fun v u => ∀ r, v = some r → RT0 r u) 0 (entl J.2.2.1 As) [] h0) (D : va_G) (cI : ClassId) (ad : Nat → Nat) (sz : Nat) : Met l y (Cond.code y J.2.1 J.2.2.1 J.2.2.2.1 :: wG) J.2.2.2.2 (va_Pc (As.map (mv ad)) (mPc Sh D cI ad h0 sz)) (va_Qi RT0 (mB Sh D cI ad) (va_A (mws Sh ad cI h0) sz)) 0 0 (va_A (mws Sh ad cI h0) sz) := by
  refine Met.ofW (cc := J.2.1) (maxL := J.2.2.1) (ret := J.2.2.2.1) hy.1 rfl ?_
  intro p e s m args below meth c s₁ B hml hv
  obtain ⟨rfl, hsz, hP, hK, hD0, hN⟩ := hv
  have hts := atoms_spec (ws := Cond.code y J.2.1 J.2.2.1 J.2.2.2.1 :: wG) B.pre
  have hown : s.vm.findClass y.cls = some m.cls := findClass_of_methodNamed B.named
  rw [hy.2.1] at hown
  have hlocks := B.notSynchronized
  subst hsz
  rw [lg_entry_eq]
  refine hE p e s m _ below meth c _ D cI ad (va_A (mws Sh ad cI h0) s.heap.size) s.heap [] _ ⟨B.exec, B.bytes, hml, B.returns, hlocks, hown, fun w h => hts w (List.mem_cons_of_mem _ h), hN, hK, fun q h => Or.inr h, fun L xs q => by cases q⟩ ⟨?_, ?_⟩ ⟨hP, hD0.self, va_S.rf⟩ (mL_entry ad As hn)
  · intro v u H locs pc lr r hret hw hd
    obtain ⟨ty', e2, hnr⟩ := hret
    exact W.zret B.exec B.bytes (B.returns.trans e2) hnr (fun t ht hW => ⟨⟨v, u, rfl, r v rfl, by show va_P _ _ _ t.heap; rw [ht]; exact hw.1⟩, hw.2.2.F ht⟩) hw.2.2.2.2 hd
  · intro u H locs pc lr r hret hw hd
    rw [hr0] at hret
    cases hret
theorem met_v {y : MethodName} {J : mI} {n : Nat} (hy : mY y J n) (hr0 : J.2.2.2.1 = none) {As : List mV} {h0 : mH} {RT0 : mH → Prop} (hn : As.length ≤ J.2.2.1) (hE : mE l Sh none J (fun v u => v = none → RT0 u) 0 (entl J.2.2.1 As) [] h0) (D : va_G) (cI : ClassId) (ad : Nat → Nat) (sz : Nat) : Met l y (Cond.code y J.2.1 J.2.2.1 J.2.2.2.1 :: wG) J.2.2.2.2 (va_Pc (As.map (mv ad)) (mPc Sh D cI ad h0 sz)) (va_Qv RT0 (mB Sh D cI ad) (va_A (mws Sh ad cI h0) sz)) 0 0 (va_A (mws Sh ad cI h0) sz) := by
  refine Met.ofW (cc := J.2.1) (maxL := J.2.2.1) (ret := J.2.2.2.1) hy.1 rfl ?_
  intro p e s m args below meth c s₁ B hml hv
  obtain ⟨rfl, hsz, hP, hK, hD0, hN⟩ := hv
  have hts := atoms_spec (ws := Cond.code y J.2.1 J.2.2.1 J.2.2.2.1 :: wG) B.pre
  have hown : s.vm.findClass y.cls = some m.cls := findClass_of_methodNamed B.named
  rw [hy.2.1] at hown
  have hlocks := B.notSynchronized
  subst hsz
  rw [lg_entry_eq]
  refine hE p e s m _ below meth c _ D cI ad (va_A (mws Sh ad cI h0) s.heap.size) s.heap [] _ ⟨B.exec, B.bytes, hml, B.returns, hlocks, hown, fun w h => hts w (List.mem_cons_of_mem _ h), hN, hK, fun q h => Or.inr h, fun L xs q => by cases q⟩ ⟨?_, ?_⟩ ⟨hP, hD0.self, va_S.rf⟩ (mL_entry ad As hn)
  · intro v u H locs pc lr r hret hw hd
    obtain ⟨ty', e2, hnr⟩ := hret
    rw [hr0] at e2
    cases e2
  · intro u H locs pc lr r hret hw hd
    exact W.vret B.exec B.bytes (B.returns.trans hr0) (fun t ht hW => ⟨⟨u, rfl, r rfl, by show va_P _ _ _ t.heap; rw [ht]; exact hw.1⟩, hw.2.2.F ht⟩) hw.2.2.2.2 hd
theorem mA_in {D : va_G} {cI : ClassId} {ad : Nat → Nat} {A : Nat → Prop} {H0 H : Heap} {locs : List Loc} (hA : ∀ q : Nat, H0.size ≤ q → A q) (Wd : mW Sh D cI ad A H0 H locs h) : ∀ q, va_A (mws Sh ad cI h) H.size q → A q := by
  intro q hq
  rcases hq with ⟨k, e, hk⟩ | hq
  · exact Wd.2.1.2 k _ hk
  · exact hA q (Nat.le_trans Wd.2.2.1 hq)
theorem cat_sum (ad : Nat → Nat) : ∀ st : List mV, ((st.map (mv ad)).map fun v => v.category).sum = st.length
  | [] => rfl
  | v :: t => by
    have ih := cat_sum ad t
    simp only [List.map_cons, List.sum_cons, mv_cat, List.length_cons, ih]
    omega
theorem mPre {D : va_G} {cI : ClassId} {ad : Nat → Nat} {A : Nat → Prop} {p : Program} {s : State} {m : MethodId} {args : Array Value} {meth : Method} {c : Code} {H : Heap} {locs : List Loc} (C : mC sx I p s m args meth c D cI ad A) (Wd : mW Sh D cI ad A s.heap H locs h) (As : List Value) : ∀ U : State, U.heap = H → s.WarmedH U.vm → va_Pc As (mPc Sh D cI ad h H.size) As.toArray U :=
  fun U hU hW => ⟨rfl, by rw [hU], by rw [hU]; exact Wd.1, va_K.moved hW.alike C.2.2.2.2.2.2.2.2.1, Wd.2.1.weaken (fun _ _ _ _ => trivial), fun w hw hn => mNest_warm hn hW (C.2.2.2.2.2.2.2.1 w hw hn)⟩
theorem wsV_in {own : String} {idx : Nat} {y : MethodName} {J : mI} {n : Nat} (hy : mYv y J n) (hl : Cond.methodLink own idx y ∈ wG) : GoodIn wG (wsV own idx y.cls y (Cond.code y J.2.1 J.2.2.1 J.2.2.2.1 :: wG)) := by
  refine wG_good (fun w hw => ?_)
  simp only [wsV, List.cons_append, List.nil_append, List.mem_cons] at hw
  rcases hw with rfl | rfl | rfl | rfl | rfl | hw
  · exact hl
  · exact hy.2.1
  · exact hy.2.2
  · exact hy.1.2.2.2.2.1
  · exact hy.1.2.2.2.1
  · exact hw
theorem wsS_in {y : MethodName} {J : mI} {n : Nat} (hy : mY y J n) : GoodIn wG (Cond.code y J.2.1 J.2.2.1 J.2.2.2.1 :: wG) := by
  refine wG_good (fun w hw => ?_)
  rcases List.mem_cons.mp hw with rfl | hw
  · exact hy.2.2.2.1
  · exact hw
theorem e_invViG {idx n k ci : Nat} {ty : FieldType} {y : MethodName} {J : mI} {As stk : List mV} {fks : List Nat} {PP : Option Int32 → mH → Prop} (hd : decode I.2.1 pc = .ok (.invokevirtual idx, 3)) (hl : mLk I.1 idx y) (hy : mYv y J n) (hr : J.2.2.2.1 = some ty) (hst : stk = As.reverse ++ .inr k :: st) (hn : As.length = n) (hnl : (.inr k :: As).length ≤ J.2.2.1) (hS : Sh[k]? = some (.inl (ci, fks))) (hci : (vwCl[ci]?).map (fun q => q.1) = some J.1) (hq : st.length ≤ 8) (hR : J.2.2.2.2.frames + 1 ≤ I.2.2.2.2.frames ∧ 8 + (J.2.2.1 + 11) + J.2.2.2.2.locals ≤ I.2.2.2.2.locals) (hE : mG l Sh J (.inr k :: As) h PP) (kk : ∀ (v : Int32) (h2 : mH), PP (some v) h2 → mE l Sh sx I RT (pc + 3) ls (.inl v :: st) h2) : mE l Sh sx I RT pc ls stk h := by
  intro p e s m args below meth c Q D cI ad A H locs lr C F Wd L
  have hFc := mA_in C.2.2.2.2.2.2.2.2.2.1 Wd
  have hM := met_i (RT0 := fun r u => PP (some r) u) hy.1 hr hnl (hE _ (fun v u q r e => by rw [← e]; exact q)) D cI ad H.size
  have hstk : (stk.map (mv ad)) = (As.map (mv ad)).reverse ++ .ref (ad k) :: (st.map (mv ad)) := by rw [hst, List.map_append, List.map_reverse]; rfl
  obtain ⟨q, hq1, hq2⟩ : ∃ q, vwCl[ci]? = some q ∧ q.1 = y.cls := by
    cases hv : vwCl[ci]? with
    | none => rw [hv] at hci; cases hci
    | some q => rw [hv] at hci; exact ⟨q, rfl, (Option.some.inj hci).trans hy.1.2.1.symm⟩
  have hrecv := va_recv C.2.2.2.2.2.2.2.2.1 Wd.1 hq1 (mws_at Sh ad cI h k hS)
  rw [hq2] at hrecv
  have hfix : CallFix p m c I.2.1 I.2.2.1 s args wG I.1 := ⟨C.1, C.2.1, C.2.2.1, C.2.2.2.2.2.1, C.2.2.2.2.2.2.1⟩
  have hrun : va_Run p l e I.2.2.2.2 s m args below meth c H locs 0 0 0 0 (F0 m pc lr (stk.map (mv ad))) (st.map (mv ad)) (va_Qi (fun r u => PP (some r) u) (mB Sh D cI ad) (va_A (mws Sh ad cI h) H.size) (List.map (mv ad) (.inr k :: As)).toArray) (va_A (mws Sh ad cI h) H.size) := by
    rcases hl with hl | ⟨host, hl⟩
    · exact va_runV (As := As.map (mv ad)) hfix hM (cwV n C.2.2.2.2.2.2.1 (wsV_in hy hl) rfl hy.1.2.2.2.2.2.1 hy.1.2.2.2.2.2.2 ⟨rfl, hy.1.2.2.1⟩ hR) ⟨mPc_blind Sh D cI ad h H.size _, hrecv, mPre C Wd (Value.ref (ad k) :: As.map (mv ad))⟩ rfl (by rw [List.length_map]; exact hn) L.1 hstk (lv_room (by rw [cat_sum]; exact hq)) hd ⟨Nat.zero_le _, Nat.zero_le _⟩
    · exact va_runVN (As := As.map (mv ad)) hfix hM ⟨va_cnB n C.2.2.2.2.2.2.1 (wsS_in hy.1) rfl hy.1.2.2.2.2.2.1 hy.1.2.2.2.2.2.2 (C.2.2.2.2.2.2.2.1 _ hl rfl) (C.2.2.2.2.2.2.1 _ hy.1.2.2.2.2.1) hy.1.2.2.1 hR, C.2.2.2.2.2.2.1 _ hy.2.1, C.2.2.2.2.2.2.1 _ hy.2.2⟩ ⟨mPc_blind Sh D cI ad h H.size _, hrecv, mPre C Wd (Value.ref (ad k) :: As.map (mv ad))⟩ rfl (by rw [List.length_map]; exact hn) L.1 hstk (lv_room (by rw [cat_sum]; exact hq)) hd ⟨Nat.zero_le _, Nat.zero_le _⟩
  refine va_calli hrun Wd.2.2 (fun q _ hq => hFc q hq) hFc (fun r u t H1 locs1 ht hvm hw hB hz1 hk1 hS1 => ?_)
  exact kk r u hw p e s m args below meth c Q D cI ad A H1 locs1 lr C F ⟨by rw [← ht]; exact hB, mws_D Wd.2.1, hS1⟩ L
theorem e_invVvG {idx n k ci : Nat} {ty : FieldType} {y : MethodName} {J : mI} {As stk : List mV} {fks : List Nat} {PP : Option Int32 → mH → Prop} (hd : decode I.2.1 pc = .ok (.invokevirtual idx, 3)) (hl : mLk I.1 idx y) (hy : mYv y J n) (hr : J.2.2.2.1 = none) (hst : stk = As.reverse ++ .inr k :: st) (hn : As.length = n) (hnl : (.inr k :: As).length ≤ J.2.2.1) (hS : Sh[k]? = some (.inl (ci, fks))) (hci : (vwCl[ci]?).map (fun q => q.1) = some J.1) (hq : st.length ≤ 8) (hR : J.2.2.2.2.frames + 1 ≤ I.2.2.2.2.frames ∧ 8 + (J.2.2.1 + 11) + J.2.2.2.2.locals ≤ I.2.2.2.2.locals) (hE : mG l Sh J (.inr k :: As) h PP) (kk : ∀ h2 : mH, PP none h2 → mE l Sh sx I RT (pc + 3) ls (st) h2) : mE l Sh sx I RT pc ls stk h := by
  intro p e s m args below meth c Q D cI ad A H locs lr C F Wd L
  have hFc := mA_in C.2.2.2.2.2.2.2.2.2.1 Wd
  have hM := met_v (RT0 := fun u => PP none u) hy.1 hr hnl (hE _ (fun v u q e => by rw [← e]; exact q)) D cI ad H.size
  have hstk : (stk.map (mv ad)) = (As.map (mv ad)).reverse ++ .ref (ad k) :: (st.map (mv ad)) := by rw [hst, List.map_append, List.map_reverse]; rfl
  obtain ⟨q, hq1, hq2⟩ : ∃ q, vwCl[ci]? = some q ∧ q.1 = y.cls := by
    cases hv : vwCl[ci]? with
    | none => rw [hv] at hci; cases hci
    | some q => rw [hv] at hci; exact ⟨q, rfl, (Option.some.inj hci).trans hy.1.2.1.symm⟩
  have hrecv := va_recv C.2.2.2.2.2.2.2.2.1 Wd.1 hq1 (mws_at Sh ad cI h k hS)
  rw [hq2] at hrecv
  have hfix : CallFix p m c I.2.1 I.2.2.1 s args wG I.1 := ⟨C.1, C.2.1, C.2.2.1, C.2.2.2.2.2.1, C.2.2.2.2.2.2.1⟩
  have hrun : va_Run p l e I.2.2.2.2 s m args below meth c H locs 0 0 0 0 (F0 m pc lr (stk.map (mv ad))) (st.map (mv ad)) (va_Qv (fun u => PP none u) (mB Sh D cI ad) (va_A (mws Sh ad cI h) H.size) (List.map (mv ad) (.inr k :: As)).toArray) (va_A (mws Sh ad cI h) H.size) := by
    rcases hl with hl | ⟨host, hl⟩
    · exact va_runV (As := As.map (mv ad)) hfix hM (cwV n C.2.2.2.2.2.2.1 (wsV_in hy hl) rfl hy.1.2.2.2.2.2.1 hy.1.2.2.2.2.2.2 ⟨rfl, hy.1.2.2.1⟩ hR) ⟨mPc_blind Sh D cI ad h H.size _, hrecv, mPre C Wd (Value.ref (ad k) :: As.map (mv ad))⟩ rfl (by rw [List.length_map]; exact hn) L.1 hstk (lv_room (by rw [cat_sum]; exact hq)) hd ⟨Nat.zero_le _, Nat.zero_le _⟩
    · exact va_runVN (As := As.map (mv ad)) hfix hM ⟨va_cnB n C.2.2.2.2.2.2.1 (wsS_in hy.1) rfl hy.1.2.2.2.2.2.1 hy.1.2.2.2.2.2.2 (C.2.2.2.2.2.2.2.1 _ hl rfl) (C.2.2.2.2.2.2.1 _ hy.1.2.2.2.2.1) hy.1.2.2.1 hR, C.2.2.2.2.2.2.1 _ hy.2.1, C.2.2.2.2.2.2.1 _ hy.2.2⟩ ⟨mPc_blind Sh D cI ad h H.size _, hrecv, mPre C Wd (Value.ref (ad k) :: As.map (mv ad))⟩ rfl (by rw [List.length_map]; exact hn) L.1 hstk (lv_room (by rw [cat_sum]; exact hq)) hd ⟨Nat.zero_le _, Nat.zero_le _⟩
  refine va_callv hrun Wd.2.2 (fun q _ hq => hFc q hq) hFc (fun u t H1 locs1 ht hvm hw hB hz1 hk1 hS1 => ?_)
  exact kk u hw p e s m args below meth c Q D cI ad A H1 locs1 lr C F ⟨by rw [← ht]; exact hB, mws_D Wd.2.1, hS1⟩ L
theorem e_invSiG {idx n : Nat} {ty : FieldType} {y : MethodName} {J : mI} {As stk : List mV} {PP : Option Int32 → mH → Prop} (hd : decode I.2.1 pc = .ok (.invokestatic idx, 3)) (hl : mLk I.1 idx y) (hy : mYs y J n) (hr : J.2.2.2.1 = some ty) (hst : stk = As.reverse ++ st) (hn : As.length = n) (hnl : (As).length ≤ J.2.2.1) (hq : st.length ≤ 8) (hR : J.2.2.2.2.frames + 1 ≤ I.2.2.2.2.frames ∧ 8 + (J.2.2.1 + 11) + J.2.2.2.2.locals ≤ I.2.2.2.2.locals) (hE : mG l Sh J (As) h PP) (kk : ∀ (v : Int32) (h2 : mH), PP (some v) h2 → mE l Sh sx I RT (pc + 3) ls (.inl v :: st) h2) : mE l Sh sx I RT pc ls stk h := by
  intro p e s m args below meth c Q D cI ad A H locs lr C F Wd L
  have hFc := mA_in C.2.2.2.2.2.2.2.2.2.1 Wd
  have hM := met_i (RT0 := fun r u => PP (some r) u) hy.1 hr hnl (hE _ (fun v u q r e => by rw [← e]; exact q)) D cI ad H.size
  have hstk : (stk.map (mv ad)) = (As.map (mv ad)).reverse ++ (st.map (mv ad)) := by rw [hst, List.map_append, List.map_reverse]
  have hfix : CallFix p m c I.2.1 I.2.2.1 s args wG I.1 := ⟨C.1, C.2.1, C.2.2.1, C.2.2.2.2.2.1, C.2.2.2.2.2.2.1⟩
  have hrun : va_Run p l e I.2.2.2.2 s m args below meth c H locs 0 0 0 0 (F0 m pc lr (stk.map (mv ad))) (st.map (mv ad)) (va_Qi (fun r u => PP (some r) u) (mB Sh D cI ad) (va_A (mws Sh ad cI h) H.size) (List.map (mv ad) (As)).toArray) (va_A (mws Sh ad cI h) H.size) := by
    rcases hl with hl | ⟨host, hl⟩
    · exact va_runS (As := As.map (mv ad)) hfix hM ⟨callB_of n C.2.2.2.2.2.2.1 (wsS_in hy.1) rfl hy.1.2.2.2.2.2.1 hy.1.2.2.2.2.2.2 (C.2.2.2.2.2.2.1 _ hy.1.2.2.2.2.1) (C.2.2.2.2.2.2.1 _ hl) hy.1.2.2.1 hR, C.2.2.2.2.2.2.1 _ hy.2⟩ ⟨mPc_blind Sh D cI ad h H.size _, mPre C Wd (As.map (mv ad))⟩ rfl (by rw [List.length_map]; exact hn) L.1 hstk (lv_room (by rw [cat_sum]; exact hq)) hd ⟨Nat.zero_le _, Nat.zero_le _⟩
    · exact va_runSN (As := As.map (mv ad)) hfix hM ⟨va_cnB n C.2.2.2.2.2.2.1 (wsS_in hy.1) rfl hy.1.2.2.2.2.2.1 hy.1.2.2.2.2.2.2 (C.2.2.2.2.2.2.2.1 _ hl rfl) (C.2.2.2.2.2.2.1 _ hy.1.2.2.2.2.1) hy.1.2.2.1 hR, C.2.2.2.2.2.2.1 _ hy.2, trivial⟩ ⟨mPc_blind Sh D cI ad h H.size _, mPre C Wd (As.map (mv ad))⟩ rfl (by rw [List.length_map]; exact hn) L.1 hstk (lv_room (by rw [cat_sum]; exact hq)) hd ⟨Nat.zero_le _, Nat.zero_le _⟩
  refine va_calli hrun Wd.2.2 (fun q _ hq => hFc q hq) hFc (fun r u t H1 locs1 ht hvm hw hB hz1 hk1 hS1 => ?_)
  exact kk r u hw p e s m args below meth c Q D cI ad A H1 locs1 lr C F ⟨by rw [← ht]; exact hB, mws_D Wd.2.1, hS1⟩ L
theorem e_invSvG {idx n : Nat} {ty : FieldType} {y : MethodName} {J : mI} {As stk : List mV} {PP : Option Int32 → mH → Prop} (hd : decode I.2.1 pc = .ok (.invokestatic idx, 3)) (hl : mLk I.1 idx y) (hy : mYs y J n) (hr : J.2.2.2.1 = none) (hst : stk = As.reverse ++ st) (hn : As.length = n) (hnl : (As).length ≤ J.2.2.1) (hq : st.length ≤ 8) (hR : J.2.2.2.2.frames + 1 ≤ I.2.2.2.2.frames ∧ 8 + (J.2.2.1 + 11) + J.2.2.2.2.locals ≤ I.2.2.2.2.locals) (hE : mG l Sh J (As) h PP) (kk : ∀ h2 : mH, PP none h2 → mE l Sh sx I RT (pc + 3) ls (st) h2) : mE l Sh sx I RT pc ls stk h := by
  intro p e s m args below meth c Q D cI ad A H locs lr C F Wd L
  have hFc := mA_in C.2.2.2.2.2.2.2.2.2.1 Wd
  have hM := met_v (RT0 := fun u => PP none u) hy.1 hr hnl (hE _ (fun v u q e => by rw [← e]; exact q)) D cI ad H.size
  have hstk : (stk.map (mv ad)) = (As.map (mv ad)).reverse ++ (st.map (mv ad)) := by rw [hst, List.map_append, List.map_reverse]
  have hfix : CallFix p m c I.2.1 I.2.2.1 s args wG I.1 := ⟨C.1, C.2.1, C.2.2.1, C.2.2.2.2.2.1, C.2.2.2.2.2.2.1⟩
  have hrun : va_Run p l e I.2.2.2.2 s m args below meth c H locs 0 0 0 0 (F0 m pc lr (stk.map (mv ad))) (st.map (mv ad)) (va_Qv (fun u => PP none u) (mB Sh D cI ad) (va_A (mws Sh ad cI h) H.size) (List.map (mv ad) (As)).toArray) (va_A (mws Sh ad cI h) H.size) := by
    rcases hl with hl | ⟨host, hl⟩
    · exact va_runS (As := As.map (mv ad)) hfix hM ⟨callB_of n C.2.2.2.2.2.2.1 (wsS_in hy.1) rfl hy.1.2.2.2.2.2.1 hy.1.2.2.2.2.2.2 (C.2.2.2.2.2.2.1 _ hy.1.2.2.2.2.1) (C.2.2.2.2.2.2.1 _ hl) hy.1.2.2.1 hR, C.2.2.2.2.2.2.1 _ hy.2⟩ ⟨mPc_blind Sh D cI ad h H.size _, mPre C Wd (As.map (mv ad))⟩ rfl (by rw [List.length_map]; exact hn) L.1 hstk (lv_room (by rw [cat_sum]; exact hq)) hd ⟨Nat.zero_le _, Nat.zero_le _⟩
    · exact va_runSN (As := As.map (mv ad)) hfix hM ⟨va_cnB n C.2.2.2.2.2.2.1 (wsS_in hy.1) rfl hy.1.2.2.2.2.2.1 hy.1.2.2.2.2.2.2 (C.2.2.2.2.2.2.2.1 _ hl rfl) (C.2.2.2.2.2.2.1 _ hy.1.2.2.2.2.1) hy.1.2.2.1 hR, C.2.2.2.2.2.2.1 _ hy.2, trivial⟩ ⟨mPc_blind Sh D cI ad h H.size _, mPre C Wd (As.map (mv ad))⟩ rfl (by rw [List.length_map]; exact hn) L.1 hstk (lv_room (by rw [cat_sum]; exact hq)) hd ⟨Nat.zero_le _, Nat.zero_le _⟩
  refine va_callv hrun Wd.2.2 (fun q _ hq => hFc q hq) hFc (fun u t H1 locs1 ht hvm hw hB hz1 hk1 hS1 => ?_)
  exact kk u hw p e s m args below meth c Q D cI ad A H1 locs1 lr C F ⟨by rw [← ht]; exact hB, mws_D Wd.2.1, hS1⟩ L
theorem e_invVi {idx n k ci : Nat} {ty : FieldType} {y : MethodName} {J : mI} {As stk : List mV} {fks : List Nat} {v : Int32} {h2 : mH} (hd : decode I.2.1 pc = .ok (.invokevirtual idx, 3)) (hl : mLk I.1 idx y) (hy : mYv y J n) (hr : J.2.2.2.1 = some ty) (hst : stk = As.reverse ++ .inr k :: st) (hn : As.length = n) (hnl : (.inr k :: As).length ≤ J.2.2.1) (hS : Sh[k]? = some (.inl (ci, fks))) (hci : (vwCl[ci]?).map (fun q => q.1) = some J.1) (hq : st.length ≤ 8) (hR : J.2.2.2.2.frames + 1 ≤ I.2.2.2.2.frames ∧ 8 + (J.2.2.1 + 11) + J.2.2.2.2.locals ≤ I.2.2.2.2.locals) (hE : mD l Sh J (.inr k :: As) h (some v) h2) (kk : mE l Sh sx I RT (pc + 3) ls (.inl v :: st) h2) : mE l Sh sx I RT pc ls stk h := e_invViG hd hl hy hr hst hn hnl hS hci hq hR hE.g (fun w u q => by obtain ⟨q1, rfl⟩ := q; cases q1; exact kk)
theorem e_invVv {idx n k ci : Nat} {ty : FieldType} {y : MethodName} {J : mI} {As stk : List mV} {fks : List Nat} {v : Int32} {h2 : mH} (hd : decode I.2.1 pc = .ok (.invokevirtual idx, 3)) (hl : mLk I.1 idx y) (hy : mYv y J n) (hr : J.2.2.2.1 = none) (hst : stk = As.reverse ++ .inr k :: st) (hn : As.length = n) (hnl : (.inr k :: As).length ≤ J.2.2.1) (hS : Sh[k]? = some (.inl (ci, fks))) (hci : (vwCl[ci]?).map (fun q => q.1) = some J.1) (hq : st.length ≤ 8) (hR : J.2.2.2.2.frames + 1 ≤ I.2.2.2.2.frames ∧ 8 + (J.2.2.1 + 11) + J.2.2.2.2.locals ≤ I.2.2.2.2.locals) (hE : mD l Sh J (.inr k :: As) h none h2) (kk : mE l Sh sx I RT (pc + 3) ls (st) h2) : mE l Sh sx I RT pc ls stk h := e_invVvG (ty := ty) hd hl hy hr hst hn hnl hS hci hq hR hE.g (fun u q => by obtain ⟨-, rfl⟩ := q; exact kk)
theorem e_invSi {idx n : Nat} {ty : FieldType} {y : MethodName} {J : mI} {As stk : List mV} {v : Int32} {h2 : mH} (hd : decode I.2.1 pc = .ok (.invokestatic idx, 3)) (hl : mLk I.1 idx y) (hy : mYs y J n) (hr : J.2.2.2.1 = some ty) (hst : stk = As.reverse ++ st) (hn : As.length = n) (hnl : (As).length ≤ J.2.2.1) (hq : st.length ≤ 8) (hR : J.2.2.2.2.frames + 1 ≤ I.2.2.2.2.frames ∧ 8 + (J.2.2.1 + 11) + J.2.2.2.2.locals ≤ I.2.2.2.2.locals) (hE : mD l Sh J (As) h (some v) h2) (kk : mE l Sh sx I RT (pc + 3) ls (.inl v :: st) h2) : mE l Sh sx I RT pc ls stk h := e_invSiG hd hl hy hr hst hn hnl hq hR hE.g (fun w u q => by obtain ⟨q1, rfl⟩ := q; cases q1; exact kk)
theorem e_invSv {idx n : Nat} {ty : FieldType} {y : MethodName} {J : mI} {As stk : List mV} {v : Int32} {h2 : mH} (hd : decode I.2.1 pc = .ok (.invokestatic idx, 3)) (hl : mLk I.1 idx y) (hy : mYs y J n) (hr : J.2.2.2.1 = none) (hst : stk = As.reverse ++ st) (hn : As.length = n) (hnl : (As).length ≤ J.2.2.1) (hq : st.length ≤ 8) (hR : J.2.2.2.2.frames + 1 ≤ I.2.2.2.2.frames ∧ 8 + (J.2.2.1 + 11) + J.2.2.2.2.locals ≤ I.2.2.2.2.locals) (hE : mD l Sh J (As) h none h2) (kk : mE l Sh sx I RT (pc + 3) ls (st) h2) : mE l Sh sx I RT pc ls stk h := e_invSvG (ty := ty) hd hl hy hr hst hn hnl hq hR hE.g (fun u q => by obtain ⟨-, rfl⟩ := q; exact kk)
theorem e_min {idx : Nat} {x y : Int32} (hd : decode I.2.1 pc = .ok (.invokestatic idx, 3)) (hl : Cond.methodLink I.1 idx Lib.Math.min.name ∈ wG) (hs1 : Cond.static Lib.Math.min.name ∈ wG) (hs2 : Cond.initialized "java/lang/Math" ∈ wG) (hs3 : Cond.code Lib.Math.min.name Lib.Math.min.code 2 (some .int) ∈ wG) (hR : 1 ≤ I.2.2.2.2.frames ∧ st.length + 13 ≤ I.2.2.2.2.locals) (k : mE l Sh sx I RT (pc + 3) ls (.inl (if y < x then y else x) :: st) h) : mE l Sh sx I RT pc ls (.inl y :: .inl x :: st) h := by
  intro p e s m args below meth c Q D cI ad A H locs lr C F Wd L
  exact va_mmin C.1 C.2.1 (C.2.2.1.trans L.1.symm) C.2.2.2.2.2.1 (C.2.2.2.2.2.2.1 _ hl) (C.2.2.2.2.2.2.1 _ hs1) (C.2.2.2.2.2.2.1 _ hs2) (C.2.2.2.2.2.2.1 _ hs3) hR.1 (by rw [cat_sum]; exact hR.2) (Nat.zero_le _) (Nat.zero_le _) hd (k p e s m args below meth c Q D cI ad A H locs lr C F Wd L)
theorem e_max {idx : Nat} {x y : Int32} (hd : decode I.2.1 pc = .ok (.invokestatic idx, 3)) (hl : Cond.methodLink I.1 idx Lib.Math.max.name ∈ wG) (hs1 : Cond.static Lib.Math.max.name ∈ wG) (hs2 : Cond.initialized "java/lang/Math" ∈ wG) (hs3 : Cond.code Lib.Math.max.name Lib.Math.max.code 2 (some .int) ∈ wG) (hR : 1 ≤ I.2.2.2.2.frames ∧ st.length + 13 ≤ I.2.2.2.2.locals) (k : mE l Sh sx I RT (pc + 3) ls (.inl (if x < y then y else x) :: st) h) : mE l Sh sx I RT pc ls (.inl y :: .inl x :: st) h := by
  intro p e s m args below meth c Q D cI ad A H locs lr C F Wd L
  exact va_mmax C.1 C.2.1 (C.2.2.1.trans L.1.symm) C.2.2.2.2.2.1 (C.2.2.2.2.2.2.1 _ hl) (C.2.2.2.2.2.2.1 _ hs1) (C.2.2.2.2.2.2.1 _ hs2) (C.2.2.2.2.2.2.1 _ hs3) hR.1 (by rw [cat_sum]; exact hR.2) (Nat.zero_le _) (Nat.zero_le _) hd (k p e s m args below meth c Q D cI ad A H locs lr C F Wd L)

theorem b_icmp_lt {x y : Int32} {X Y : Int} {off : Int} {tgt : Nat} (hx : x.toInt = X) (hy : y.toInt = Y) (hd : decode I.2.1 pc = .ok (.if_icmp .lt off, 3)) (ht : (pc : Int) + off = (tgt : Int)) (kt : X < Y → mE l Sh sx I RT tgt ls st h) (kf : Y ≤ X → mE l Sh sx I RT (pc + 3) ls st h) : mE l Sh sx I RT pc ls (.inl y :: .inl x :: st) h := by
  subst hx hy
  exact e_icmp_lt hd ht (fun q => kt (Int32.lt_iff_toInt_lt.mp q)) (fun q => kf (Int.not_lt.mp (fun z => q (Int32.lt_iff_toInt_lt.mpr z))))
theorem b_if_lt {x : Int32} {X : Int} {off : Int} {tgt : Nat} (hx : x.toInt = X) (hd : decode I.2.1 pc = .ok (.ifCond .lt off, 3)) (ht : (pc : Int) + off = (tgt : Int)) (kt : X < 0 → mE l Sh sx I RT tgt ls st h) (kf : 0 ≤ X → mE l Sh sx I RT (pc + 3) ls st h) : mE l Sh sx I RT pc ls (.inl x :: st) h := by
  subst hx
  exact e_if_lt hd ht (fun q => kt (Int32.lt_iff_toInt_lt.mp q)) (fun q => kf (Int.not_lt.mp (fun z => q (Int32.lt_iff_toInt_lt.mpr z))))
theorem b_icmp_ge {x y : Int32} {X Y : Int} {off : Int} {tgt : Nat} (hx : x.toInt = X) (hy : y.toInt = Y) (hd : decode I.2.1 pc = .ok (.if_icmp .ge off, 3)) (ht : (pc : Int) + off = (tgt : Int)) (kt : Y ≤ X → mE l Sh sx I RT tgt ls st h) (kf : X < Y → mE l Sh sx I RT (pc + 3) ls st h) : mE l Sh sx I RT pc ls (.inl y :: .inl x :: st) h := by
  subst hx hy
  exact e_icmp_ge hd ht (fun q => kt (Int32.le_iff_toInt_le.mp q)) (fun q => kf (Int.not_le.mp (fun z => q (Int32.le_iff_toInt_le.mpr z))))
theorem b_if_ge {x : Int32} {X : Int} {off : Int} {tgt : Nat} (hx : x.toInt = X) (hd : decode I.2.1 pc = .ok (.ifCond .ge off, 3)) (ht : (pc : Int) + off = (tgt : Int)) (kt : 0 ≤ X → mE l Sh sx I RT tgt ls st h) (kf : X < 0 → mE l Sh sx I RT (pc + 3) ls st h) : mE l Sh sx I RT pc ls (.inl x :: st) h := by
  subst hx
  exact e_if_ge hd ht (fun q => kt (Int32.le_iff_toInt_le.mp q)) (fun q => kf (Int.not_le.mp (fun z => q (Int32.le_iff_toInt_le.mpr z))))
theorem b_icmp_gt {x y : Int32} {X Y : Int} {off : Int} {tgt : Nat} (hx : x.toInt = X) (hy : y.toInt = Y) (hd : decode I.2.1 pc = .ok (.if_icmp .gt off, 3)) (ht : (pc : Int) + off = (tgt : Int)) (kt : Y < X → mE l Sh sx I RT tgt ls st h) (kf : X ≤ Y → mE l Sh sx I RT (pc + 3) ls st h) : mE l Sh sx I RT pc ls (.inl y :: .inl x :: st) h := by
  subst hx hy
  exact e_icmp_gt hd ht (fun q => kt (Int32.lt_iff_toInt_lt.mp q)) (fun q => kf (Int.not_lt.mp (fun z => q (Int32.lt_iff_toInt_lt.mpr z))))
theorem b_if_gt {x : Int32} {X : Int} {off : Int} {tgt : Nat} (hx : x.toInt = X) (hd : decode I.2.1 pc = .ok (.ifCond .gt off, 3)) (ht : (pc : Int) + off = (tgt : Int)) (kt : 0 < X → mE l Sh sx I RT tgt ls st h) (kf : X ≤ 0 → mE l Sh sx I RT (pc + 3) ls st h) : mE l Sh sx I RT pc ls (.inl x :: st) h := by
  subst hx
  exact e_if_gt hd ht (fun q => kt (Int32.lt_iff_toInt_lt.mp q)) (fun q => kf (Int.not_lt.mp (fun z => q (Int32.lt_iff_toInt_lt.mpr z))))
theorem b_icmp_le {x y : Int32} {X Y : Int} {off : Int} {tgt : Nat} (hx : x.toInt = X) (hy : y.toInt = Y) (hd : decode I.2.1 pc = .ok (.if_icmp .le off, 3)) (ht : (pc : Int) + off = (tgt : Int)) (kt : X ≤ Y → mE l Sh sx I RT tgt ls st h) (kf : Y < X → mE l Sh sx I RT (pc + 3) ls st h) : mE l Sh sx I RT pc ls (.inl y :: .inl x :: st) h := by
  subst hx hy
  exact e_icmp_le hd ht (fun q => kt (Int32.le_iff_toInt_le.mp q)) (fun q => kf (Int.not_le.mp (fun z => q (Int32.le_iff_toInt_le.mpr z))))
theorem b_if_le {x : Int32} {X : Int} {off : Int} {tgt : Nat} (hx : x.toInt = X) (hd : decode I.2.1 pc = .ok (.ifCond .le off, 3)) (ht : (pc : Int) + off = (tgt : Int)) (kt : X ≤ 0 → mE l Sh sx I RT tgt ls st h) (kf : 0 < X → mE l Sh sx I RT (pc + 3) ls st h) : mE l Sh sx I RT pc ls (.inl x :: st) h := by
  subst hx
  exact e_if_le hd ht (fun q => kt (Int32.le_iff_toInt_le.mp q)) (fun q => kf (Int.not_le.mp (fun z => q (Int32.le_iff_toInt_le.mpr z))))
theorem b_icmp_eq {x y : Int32} {X Y : Int} {off : Int} {tgt : Nat} (hx : x.toInt = X) (hy : y.toInt = Y) (hd : decode I.2.1 pc = .ok (.if_icmp .eq off, 3)) (ht : (pc : Int) + off = (tgt : Int)) (kt : x = y → X = Y → mE l Sh sx I RT tgt ls st h) (kf : ¬ x = y → ¬ X = Y → mE l Sh sx I RT (pc + 3) ls st h) : mE l Sh sx I RT pc ls (.inl y :: .inl x :: st) h := by
  subst hx hy
  exact e_icmp_eq hd ht (fun q => kt q (by subst q; rfl)) (fun q => kf q (fun z => q (Int32.toInt_inj.mp z)))
theorem b_if_eq {x : Int32} {X : Int} {off : Int} {tgt : Nat} (hx : x.toInt = X) (hd : decode I.2.1 pc = .ok (.ifCond .eq off, 3)) (ht : (pc : Int) + off = (tgt : Int)) (kt : x = 0 → X = 0 → mE l Sh sx I RT tgt ls st h) (kf : ¬ x = 0 → ¬ X = 0 → mE l Sh sx I RT (pc + 3) ls st h) : mE l Sh sx I RT pc ls (.inl x :: st) h := by
  subst hx
  exact e_if_eq hd ht (fun q => kt q (by subst q; rfl)) (fun q => kf q (fun z => q (Int32.toInt_inj.mp z)))
theorem b_icmp_ne {x y : Int32} {X Y : Int} {off : Int} {tgt : Nat} (hx : x.toInt = X) (hy : y.toInt = Y) (hd : decode I.2.1 pc = .ok (.if_icmp .ne off, 3)) (ht : (pc : Int) + off = (tgt : Int)) (kt : ¬ x = y → ¬ X = Y → mE l Sh sx I RT tgt ls st h) (kf : x = y → X = Y → mE l Sh sx I RT (pc + 3) ls st h) : mE l Sh sx I RT pc ls (.inl y :: .inl x :: st) h := by
  subst hx hy
  exact e_icmp_ne hd ht (fun q => kt q (fun z => q (Int32.toInt_inj.mp z))) (fun q => kf q (by subst q; rfl))
theorem b_if_ne {x : Int32} {X : Int} {off : Int} {tgt : Nat} (hx : x.toInt = X) (hd : decode I.2.1 pc = .ok (.ifCond .ne off, 3)) (ht : (pc : Int) + off = (tgt : Int)) (kt : ¬ x = 0 → ¬ X = 0 → mE l Sh sx I RT tgt ls st h) (kf : x = 0 → X = 0 → mE l Sh sx I RT (pc + 3) ls st h) : mE l Sh sx I RT pc ls (.inl x :: st) h := by
  subst hx
  exact e_if_ne hd ht (fun q => kt q (fun z => q (Int32.toInt_inj.mp z))) (fun q => kf q (by subst q; rfl))
theorem z_iadd {x y z : Int32} (hz : x + y = z) (hd : decode I.2.1 pc = .ok (.iadd, 1)) (k : mE l Sh sx I RT (pc + 1) ls (.inl z :: st) h) : mE l Sh sx I RT pc ls (.inl y :: .inl x :: st) h := e_iadd hd (by rw [hz]; exact k)
theorem z_isub {x y z : Int32} (hz : x - y = z) (hd : decode I.2.1 pc = .ok (.isub, 1)) (k : mE l Sh sx I RT (pc + 1) ls (.inl z :: st) h) : mE l Sh sx I RT pc ls (.inl y :: .inl x :: st) h := e_isub hd (by rw [hz]; exact k)
theorem z_imul {x y z : Int32} (hz : x * y = z) (hd : decode I.2.1 pc = .ok (.imul, 1)) (k : mE l Sh sx I RT (pc + 1) ls (.inl z :: st) h) : mE l Sh sx I RT pc ls (.inl y :: .inl x :: st) h := e_imul hd (by rw [hz]; exact k)
theorem z_iand {x y z : Int32} (hz : x &&& y = z) (hd : decode I.2.1 pc = .ok (.iand, 1)) (k : mE l Sh sx I RT (pc + 1) ls (.inl z :: st) h) : mE l Sh sx I RT pc ls (.inl y :: .inl x :: st) h := e_iand hd (by rw [hz]; exact k)
theorem z_ior {x y z : Int32} (hz : x ||| y = z) (hd : decode I.2.1 pc = .ok (.ior, 1)) (k : mE l Sh sx I RT (pc + 1) ls (.inl z :: st) h) : mE l Sh sx I RT pc ls (.inl y :: .inl x :: st) h := e_ior hd (by rw [hz]; exact k)
theorem z_ixor {x y z : Int32} (hz : x ^^^ y = z) (hd : decode I.2.1 pc = .ok (.ixor, 1)) (k : mE l Sh sx I RT (pc + 1) ls (.inl z :: st) h) : mE l Sh sx I RT pc ls (.inl y :: .inl x :: st) h := e_ixor hd (by rw [hz]; exact k)
theorem z_ishl {x y z : Int32} (hz : x <<< (y &&& 31) = z) (hd : decode I.2.1 pc = .ok (.ishl, 1)) (k : mE l Sh sx I RT (pc + 1) ls (.inl z :: st) h) : mE l Sh sx I RT pc ls (.inl y :: .inl x :: st) h := e_ishl hd (by rw [hz]; exact k)
theorem z_ishr {x y z : Int32} (hz : x >>> (y &&& 31) = z) (hd : decode I.2.1 pc = .ok (.ishr, 1)) (k : mE l Sh sx I RT (pc + 1) ls (.inl z :: st) h) : mE l Sh sx I RT pc ls (.inl y :: .inl x :: st) h := e_ishr hd (by rw [hz]; exact k)
theorem z_idiv {x y z : Int32} (hz : x / y = z) (hd : decode I.2.1 pc = .ok (.idiv, 1)) (hne : ¬ y = 0) (k : mE l Sh sx I RT (pc + 1) ls (.inl z :: st) h) : mE l Sh sx I RT pc ls (.inl y :: .inl x :: st) h := e_idiv hd hne (by rw [hz]; exact k)
theorem z_irem {x y z : Int32} (hz : x - x / y * y = z) (hd : decode I.2.1 pc = .ok (.irem, 1)) (hne : ¬ y = 0) (k : mE l Sh sx I RT (pc + 1) ls (.inl z :: st) h) : mE l Sh sx I RT pc ls (.inl y :: .inl x :: st) h := e_irem hd hne (by rw [hz]; exact k)
theorem vin_of {x : Int32} {n : Nat} (h0 : 0 ≤ x.toInt) (h1 : x.toInt < n) : vp_in x n := vp_in_iff.mpr ⟨h0, h1⟩
theorem vin_ofX {x : Int32} {X : Int} {n : Nat} (hx : x.toInt = X) (h0 : 0 ≤ X) (h1 : X < n) : vp_in x n := vp_in_iff.mpr ⟨by rw [hx]; exact h0, by rw [hx]; exact h1⟩
theorem mret_i (v : Int32) : mRet (some .int) v := ⟨_, rfl, rfl⟩
theorem mret_z {v : Int32} (h : v = 0 ∨ v = 1) : mRet (some .boolean) v := ⟨_, rfl, by rcases h with rfl | rfl <;> rfl⟩
end RULES
end
section
/-! The world of the claim: 53 cells; links, methods. -/
def fk_0 : List Nat := [4, 5, 6, 7, 8, 9, 12]
def fk_1 : List Nat := [14, 15, 0]
def fk_2 : List Nat := [16, 17, 18]
def fk_3 : List Nat := [19, 0]
def fk_4 : List Nat := [20, 0]
def fk_5 : List Nat := [21, 0]
def fk_6 : List Nat := [5, 10, 11, 22, 2, 1, 0, 0, 0, 0, 0, 0, 0, 0, 0, 0]
def fk_7 : List Nat := [23, 24, 0, 0]
def fk_8 : List Nat := [25, 26, 27, 0]
def fk_9 : List Nat := [5, 28, 29, 30]
def fk_10 : List Nat := [0, 31, 32, 33, 34, 0, 35, 36, 0, 37, 38, 39, 40, 41, 42, 0, 43, 44, 45, 0, 46, 47, 48, 0, 0, 0, 0, 0, 0, 49, 0, 50, 0, 0, 51, 0, 0, 0, 0, 0, 52, 53, 54, 55]
def Sh0 : mS := [.inl (7, fk_0), .inl (2, fk_1), .inl (0, fk_2), .inl (3, fk_3), .inl (3, fk_4), .inl (3, fk_5), .inl (4, fk_6), .inl (5, fk_7), .inl (1, fk_8), .inl (6, fk_9), .inl (8, fk_10), .inr 40, .inr 10, .inr 800, .inr 800, .inr 20, .inr 8, .inr 8, .inr 8, .inr 200, .inr 8200, .inr 8200, .inr 201, .inr 201, .inr 201, .inr 800, .inr 800, .inr 4, .inr 40, .inr 20, .inr 800, .inr 800, .inr 8, .inr 41, .inr 512, .inr 512, .inr 512, .inr 512, .inr 512, .inr 512, .inr 12000, .inr 12000, .inr 12000, .inr 256, .inr 256, .inr 256, .inr 256, .inr 8, .inr 12000, .inr 20, .inr 4, .inr 41, .inr 4]
theorem sh_0 : Sh0[0]? = some (.inl (7, fk_0)) := rfl
theorem sh_1 : Sh0[1]? = some (.inl (2, fk_1)) := rfl
theorem sh_2 : Sh0[2]? = some (.inl (0, fk_2)) := rfl
theorem sh_3 : Sh0[3]? = some (.inl (3, fk_3)) := rfl
theorem sh_4 : Sh0[4]? = some (.inl (3, fk_4)) := rfl
theorem sh_5 : Sh0[5]? = some (.inl (3, fk_5)) := rfl
theorem sh_6 : Sh0[6]? = some (.inl (4, fk_6)) := rfl
theorem sh_7 : Sh0[7]? = some (.inl (5, fk_7)) := rfl
theorem sh_8 : Sh0[8]? = some (.inl (1, fk_8)) := rfl
theorem sh_9 : Sh0[9]? = some (.inl (6, fk_9)) := rfl
theorem sh_10 : Sh0[10]? = some (.inl (8, fk_10)) := rfl
theorem sh_11 : Sh0[11]? = some (.inr 40) := rfl
theorem sh_12 : Sh0[12]? = some (.inr 10) := rfl
theorem sh_13 : Sh0[13]? = some (.inr 800) := rfl
theorem sh_14 : Sh0[14]? = some (.inr 800) := rfl
theorem sh_15 : Sh0[15]? = some (.inr 20) := rfl
theorem sh_16 : Sh0[16]? = some (.inr 8) := rfl
theorem sh_17 : Sh0[17]? = some (.inr 8) := rfl
theorem sh_18 : Sh0[18]? = some (.inr 8) := rfl
theorem sh_19 : Sh0[19]? = some (.inr 200) := rfl
theorem sh_20 : Sh0[20]? = some (.inr 8200) := rfl
theorem sh_21 : Sh0[21]? = some (.inr 8200) := rfl
theorem sh_22 : Sh0[22]? = some (.inr 201) := rfl
theorem sh_23 : Sh0[23]? = some (.inr 201) := rfl
theorem sh_24 : Sh0[24]? = some (.inr 201) := rfl
theorem sh_25 : Sh0[25]? = some (.inr 800) := rfl
theorem sh_26 : Sh0[26]? = some (.inr 800) := rfl
theorem sh_27 : Sh0[27]? = some (.inr 4) := rfl
theorem sh_28 : Sh0[28]? = some (.inr 40) := rfl
theorem sh_29 : Sh0[29]? = some (.inr 20) := rfl
theorem sh_30 : Sh0[30]? = some (.inr 800) := rfl
theorem sh_31 : Sh0[31]? = some (.inr 800) := rfl
theorem sh_32 : Sh0[32]? = some (.inr 8) := rfl
theorem sh_33 : Sh0[33]? = some (.inr 41) := rfl
theorem sh_34 : Sh0[34]? = some (.inr 512) := rfl
theorem sh_35 : Sh0[35]? = some (.inr 512) := rfl
theorem sh_36 : Sh0[36]? = some (.inr 512) := rfl
theorem sh_37 : Sh0[37]? = some (.inr 512) := rfl
theorem sh_38 : Sh0[38]? = some (.inr 512) := rfl
theorem sh_39 : Sh0[39]? = some (.inr 512) := rfl
theorem sh_40 : Sh0[40]? = some (.inr 12000) := rfl
theorem sh_41 : Sh0[41]? = some (.inr 12000) := rfl
theorem sh_42 : Sh0[42]? = some (.inr 12000) := rfl
theorem sh_43 : Sh0[43]? = some (.inr 256) := rfl
theorem sh_44 : Sh0[44]? = some (.inr 256) := rfl
theorem sh_45 : Sh0[45]? = some (.inr 256) := rfl
theorem sh_46 : Sh0[46]? = some (.inr 256) := rfl
theorem sh_47 : Sh0[47]? = some (.inr 8) := rfl
theorem sh_48 : Sh0[48]? = some (.inr 12000) := rfl
theorem sh_49 : Sh0[49]? = some (.inr 20) := rfl
theorem sh_50 : Sh0[50]? = some (.inr 4) := rfl
theorem sh_51 : Sh0[51]? = some (.inr 41) := rfl
theorem sh_52 : Sh0[52]? = some (.inr 4) := rfl
theorem fj_0_0 : fk_0[0]? = some (1 + 3) := rfl
theorem fj_0_1 : fk_0[1]? = some (2 + 3) := rfl
theorem fj_0_2 : fk_0[2]? = some (3 + 3) := rfl
theorem fj_0_3 : fk_0[3]? = some (4 + 3) := rfl
theorem fj_0_4 : fk_0[4]? = some (5 + 3) := rfl
theorem fj_0_5 : fk_0[5]? = some (6 + 3) := rfl
theorem fj_0_6 : fk_0[6]? = some (9 + 3) := rfl
theorem fj_1_0 : fk_1[0]? = some (11 + 3) := rfl
theorem fj_1_1 : fk_1[1]? = some (12 + 3) := rfl
theorem fj_1_2 : fk_1[2]? = some 0 := rfl
theorem fj_2_0 : fk_2[0]? = some (13 + 3) := rfl
theorem fj_2_1 : fk_2[1]? = some (14 + 3) := rfl
theorem fj_2_2 : fk_2[2]? = some (15 + 3) := rfl
theorem fj_3_0 : fk_3[0]? = some (16 + 3) := rfl
theorem fj_3_1 : fk_3[1]? = some 0 := rfl
theorem fj_4_0 : fk_4[0]? = some (17 + 3) := rfl
theorem fj_4_1 : fk_4[1]? = some 0 := rfl
theorem fj_5_0 : fk_5[0]? = some (18 + 3) := rfl
theorem fj_5_1 : fk_5[1]? = some 0 := rfl
theorem fj_6_0 : fk_6[0]? = some (2 + 3) := rfl
theorem fj_6_1 : fk_6[1]? = some (7 + 3) := rfl
theorem fj_6_2 : fk_6[2]? = some (8 + 3) := rfl
theorem fj_6_3 : fk_6[3]? = some (19 + 3) := rfl
theorem fj_6_4 : fk_6[4]? = some 2 := rfl
theorem fj_6_5 : fk_6[5]? = some 1 := rfl
theorem fj_6_6 : fk_6[6]? = some 0 := rfl
theorem fj_6_7 : fk_6[7]? = some 0 := rfl
theorem fj_6_8 : fk_6[8]? = some 0 := rfl
theorem fj_6_9 : fk_6[9]? = some 0 := rfl
theorem fj_6_10 : fk_6[10]? = some 0 := rfl
theorem fj_6_11 : fk_6[11]? = some 0 := rfl
theorem fj_6_12 : fk_6[12]? = some 0 := rfl
theorem fj_6_13 : fk_6[13]? = some 0 := rfl
theorem fj_6_14 : fk_6[14]? = some 0 := rfl
theorem fj_6_15 : fk_6[15]? = some 0 := rfl
theorem fj_7_0 : fk_7[0]? = some (20 + 3) := rfl
theorem fj_7_1 : fk_7[1]? = some (21 + 3) := rfl
theorem fj_7_2 : fk_7[2]? = some 0 := rfl
theorem fj_7_3 : fk_7[3]? = some 0 := rfl
theorem fj_8_0 : fk_8[0]? = some (22 + 3) := rfl
theorem fj_8_1 : fk_8[1]? = some (23 + 3) := rfl
theorem fj_8_2 : fk_8[2]? = some (24 + 3) := rfl
theorem fj_8_3 : fk_8[3]? = some 0 := rfl
theorem fj_9_0 : fk_9[0]? = some (2 + 3) := rfl
theorem fj_9_1 : fk_9[1]? = some (25 + 3) := rfl
theorem fj_9_2 : fk_9[2]? = some (26 + 3) := rfl
theorem fj_9_3 : fk_9[3]? = some (27 + 3) := rfl
theorem fj_10_0 : fk_10[0]? = some 0 := rfl
theorem fj_10_1 : fk_10[1]? = some (28 + 3) := rfl
theorem fj_10_2 : fk_10[2]? = some (29 + 3) := rfl
theorem fj_10_3 : fk_10[3]? = some (30 + 3) := rfl
theorem fj_10_4 : fk_10[4]? = some (31 + 3) := rfl
theorem fj_10_5 : fk_10[5]? = some 0 := rfl
theorem fj_10_6 : fk_10[6]? = some (32 + 3) := rfl
theorem fj_10_7 : fk_10[7]? = some (33 + 3) := rfl
theorem fj_10_8 : fk_10[8]? = some 0 := rfl
theorem fj_10_9 : fk_10[9]? = some (34 + 3) := rfl
theorem fj_10_10 : fk_10[10]? = some (35 + 3) := rfl
theorem fj_10_11 : fk_10[11]? = some (36 + 3) := rfl
theorem fj_10_12 : fk_10[12]? = some (37 + 3) := rfl
theorem fj_10_13 : fk_10[13]? = some (38 + 3) := rfl
theorem fj_10_14 : fk_10[14]? = some (39 + 3) := rfl
theorem fj_10_15 : fk_10[15]? = some 0 := rfl
theorem fj_10_16 : fk_10[16]? = some (40 + 3) := rfl
theorem fj_10_17 : fk_10[17]? = some (41 + 3) := rfl
theorem fj_10_18 : fk_10[18]? = some (42 + 3) := rfl
theorem fj_10_19 : fk_10[19]? = some 0 := rfl
theorem fj_10_20 : fk_10[20]? = some (43 + 3) := rfl
theorem fj_10_21 : fk_10[21]? = some (44 + 3) := rfl
theorem fj_10_22 : fk_10[22]? = some (45 + 3) := rfl
theorem fj_10_23 : fk_10[23]? = some 0 := rfl
theorem fj_10_24 : fk_10[24]? = some 0 := rfl
theorem fj_10_25 : fk_10[25]? = some 0 := rfl
theorem fj_10_26 : fk_10[26]? = some 0 := rfl
theorem fj_10_27 : fk_10[27]? = some 0 := rfl
theorem fj_10_28 : fk_10[28]? = some 0 := rfl
theorem fj_10_29 : fk_10[29]? = some (46 + 3) := rfl
theorem fj_10_30 : fk_10[30]? = some 0 := rfl
theorem fj_10_31 : fk_10[31]? = some (47 + 3) := rfl
theorem fj_10_32 : fk_10[32]? = some 0 := rfl
theorem fj_10_33 : fk_10[33]? = some 0 := rfl
theorem fj_10_34 : fk_10[34]? = some (48 + 3) := rfl
theorem fj_10_35 : fk_10[35]? = some 0 := rfl
theorem fj_10_36 : fk_10[36]? = some 0 := rfl
theorem fj_10_37 : fk_10[37]? = some 0 := rfl
theorem fj_10_38 : fk_10[38]? = some 0 := rfl
theorem fj_10_39 : fk_10[39]? = some 0 := rfl
theorem fj_10_40 : fk_10[40]? = some (49 + 3) := rfl
theorem fj_10_41 : fk_10[41]? = some (50 + 3) := rfl
theorem fj_10_42 : fk_10[42]? = some (51 + 3) := rfl
theorem fj_10_43 : fk_10[43]? = some (52 + 3) := rfl
theorem ci_X0 : (vwCl[0]?).map (fun q => q.1) = some RX0 := rfl
theorem ci_X1 : (vwCl[1]?).map (fun q => q.1) = some RX1 := rfl
theorem ci_X2 : (vwCl[2]?).map (fun q => q.1) = some RX2 := rfl
theorem ci_X3 : (vwCl[3]?).map (fun q => q.1) = some RX3 := rfl
theorem ci_X4 : (vwCl[4]?).map (fun q => q.1) = some RX4 := rfl
theorem ci_X5 : (vwCl[5]?).map (fun q => q.1) = some RX5 := rfl
theorem ci_X6 : (vwCl[6]?).map (fun q => q.1) = some RX6 := rfl
theorem ci_X7 : (vwCl[7]?).map (fun q => q.1) = some RX7 := rfl
theorem ci_X8 : (vwCl[8]?).map (fun q => q.1) = some RX8 := rfl
theorem fl_X7_12 : mFL RX7 12 7 0 := ⟨RX7, TX7, 7, rfl, by decide, inX7, Or.inl (wG_at 231 (by decide +kernel) rfl)⟩
theorem fl_X7_19 : mFL RX7 19 7 1 := ⟨RX7, TX7, 7, rfl, by decide, inX7, Or.inl (wG_at 232 (by decide +kernel) rfl)⟩
theorem fl_X7_26 : mFL RX7 26 7 2 := ⟨RX7, TX7, 7, rfl, by decide, inX7, Or.inl (wG_at 233 (by decide +kernel) rfl)⟩
theorem fl_X7_30 : mFL RX7 30 7 3 := ⟨RX7, TX7, 7, rfl, by decide, inX7, Or.inl (wG_at 234 (by decide +kernel) rfl)⟩
theorem fl_X7_33 : mFL RX7 33 7 4 := ⟨RX7, TX7, 7, rfl, by decide, inX7, Or.inl (wG_at 235 (by decide +kernel) rfl)⟩
theorem fl_X7_41 : mFL RX7 41 7 5 := ⟨RX7, TX7, 7, rfl, by decide, inX7, Or.inl (wG_at 236 (by decide +kernel) rfl)⟩
theorem fl_X7_50 : mFL RX7 50 7 6 := ⟨RX7, TX7, 7, rfl, by decide, inX7, Or.inl (wG_at 237 (by decide +kernel) rfl)⟩
theorem fl_X7_62 : mFL RX7 62 2 2 := ⟨RX2, TX2, 3, rfl, by decide, inX2, Or.inr ⟨"DeedHands", List.mem_of_getElem? (i := 70) (by decide +kernel)⟩⟩
theorem fp_X2_2 : mFP 2 2 .int := ⟨RX2, TX2, 3, rfl, ⟨tyX2, tyX2_ok⟩, nmX2, rfl, by decide +kernel⟩
theorem fl_X7_98 : mFL RX7 98 3 1 := ⟨RX3, TX3, 2, rfl, by decide, inX3, Or.inr ⟨"DeedHands", List.mem_of_getElem? (i := 104) (by decide +kernel)⟩⟩
theorem fl_X7_143 : mFL RX7 143 4 9 := ⟨RX4, TX4, 16, rfl, by decide, inX4, Or.inr ⟨"DeedHands", List.mem_of_getElem? (i := 167) (by decide +kernel)⟩⟩
theorem fl_X7_146 : mFL RX7 146 4 11 := ⟨RX4, TX4, 16, rfl, by decide, inX4, Or.inr ⟨"DeedHands", List.mem_of_getElem? (i := 170) (by decide +kernel)⟩⟩
theorem fl_X0_9 : mFL RX0 9 0 0 := ⟨RX0, TX0, 3, rfl, by decide, inX0, Or.inl (wG_at 86 (by decide +kernel) rfl)⟩
theorem fl_X0_15 : mFL RX0 15 0 1 := ⟨RX0, TX0, 3, rfl, by decide, inX0, Or.inl (wG_at 87 (by decide +kernel) rfl)⟩
theorem fl_X0_18 : mFL RX0 18 0 2 := ⟨RX0, TX0, 3, rfl, by decide, inX0, Or.inl (wG_at 88 (by decide +kernel) rfl)⟩
theorem fl_X0_21 : mFL RX0 21 2 2 := ⟨RX2, TX2, 3, rfl, by decide, inX2, Or.inr ⟨"DeedHands", List.mem_of_getElem? (i := 71) (by decide +kernel)⟩⟩
theorem fl_X1_11 : mFL RX1 11 1 0 := ⟨RX1, TX1, 4, rfl, by decide, inX1, Or.inl (wG_at 143 (by decide +kernel) rfl)⟩
theorem fl_X1_15 : mFL RX1 15 1 1 := ⟨RX1, TX1, 4, rfl, by decide, inX1, Or.inl (wG_at 144 (by decide +kernel) rfl)⟩
theorem fl_X1_18 : mFL RX1 18 1 2 := ⟨RX1, TX1, 4, rfl, by decide, inX1, Or.inl (wG_at 145 (by decide +kernel) rfl)⟩
theorem fl_X1_21 : mFL RX1 21 1 3 := ⟨RX1, TX1, 4, rfl, by decide, inX1, Or.inl (wG_at 146 (by decide +kernel) rfl)⟩
theorem fp_X1_3 : mFP 1 3 .int := ⟨RX1, TX1, 4, rfl, ⟨tyX1, tyX1_ok⟩, nmX1, rfl, by decide +kernel⟩
theorem fl_X2_9 : mFL RX2 9 2 0 := ⟨RX2, TX2, 3, rfl, by decide, inX2, Or.inl (wG_at 67 (by decide +kernel) rfl)⟩
theorem fl_X2_15 : mFL RX2 15 2 1 := ⟨RX2, TX2, 3, rfl, by decide, inX2, Or.inl (wG_at 68 (by decide +kernel) rfl)⟩
theorem fl_X2_18 : mFL RX2 18 2 2 := ⟨RX2, TX2, 3, rfl, by decide, inX2, Or.inl (wG_at 69 (by decide +kernel) rfl)⟩
theorem fl_X3_9 : mFL RX3 9 3 0 := ⟨RX3, TX3, 2, rfl, by decide, inX3, Or.inl (wG_at 102 (by decide +kernel) rfl)⟩
theorem fl_X3_15 : mFL RX3 15 3 1 := ⟨RX3, TX3, 2, rfl, by decide, inX3, Or.inl (wG_at 103 (by decide +kernel) rfl)⟩
theorem fp_X3_1 : mFP 3 1 .int := ⟨RX3, TX3, 2, rfl, ⟨tyX3, tyX3_ok⟩, nmX3, rfl, by decide +kernel⟩
theorem fl_X4_12 : mFL RX4 12 4 1 := ⟨RX4, TX4, 16, rfl, by decide, inX4, Or.inl (wG_at 158 (by decide +kernel) rfl)⟩
theorem fl_X4_21 : mFL RX4 21 4 2 := ⟨RX4, TX4, 16, rfl, by decide, inX4, Or.inl (wG_at 159 (by decide +kernel) rfl)⟩
theorem fl_X4_25 : mFL RX4 25 4 3 := ⟨RX4, TX4, 16, rfl, by decide, inX4, Or.inl (wG_at 160 (by decide +kernel) rfl)⟩
theorem fl_X4_29 : mFL RX4 29 4 0 := ⟨RX4, TX4, 16, rfl, by decide, inX4, Or.inl (wG_at 157 (by decide +kernel) rfl)⟩
theorem fl_X4_33 : mFL RX4 33 4 4 := ⟨RX4, TX4, 16, rfl, by decide, inX4, Or.inl (wG_at 161 (by decide +kernel) rfl)⟩
theorem fp_X4_4 : mFP 4 4 (.object "DeedHands$Row") := ⟨RX4, TX4, 16, rfl, ⟨tyX4, tyX4_ok⟩, nmX4, rfl, by decide +kernel⟩
theorem fl_X4_40 : mFL RX4 40 1 3 := ⟨RX1, TX1, 4, rfl, by decide, inX1, Or.inr ⟨"DeedHands", List.mem_of_getElem? (i := 147) (by decide +kernel)⟩⟩
theorem fl_X4_44 : mFL RX4 44 4 9 := ⟨RX4, TX4, 16, rfl, by decide, inX4, Or.inl (wG_at 166 (by decide +kernel) rfl)⟩
theorem fp_X4_9 : mFP 4 9 .int := ⟨RX4, TX4, 16, rfl, ⟨tyX4, tyX4_ok⟩, nmX4, rfl, by decide +kernel⟩
theorem fl_X4_47 : mFL RX4 47 4 10 := ⟨RX4, TX4, 16, rfl, by decide, inX4, Or.inl (wG_at 168 (by decide +kernel) rfl)⟩
theorem fp_X4_10 : mFP 4 10 .int := ⟨RX4, TX4, 16, rfl, ⟨tyX4, tyX4_ok⟩, nmX4, rfl, by decide +kernel⟩
theorem fl_X4_50 : mFL RX4 50 4 11 := ⟨RX4, TX4, 16, rfl, by decide, inX4, Or.inl (wG_at 169 (by decide +kernel) rfl)⟩
theorem fp_X4_11 : mFP 4 11 .int := ⟨RX4, TX4, 16, rfl, ⟨tyX4, tyX4_ok⟩, nmX4, rfl, by decide +kernel⟩
theorem fl_X4_53 : mFL RX4 53 4 12 := ⟨RX4, TX4, 16, rfl, by decide, inX4, Or.inl (wG_at 171 (by decide +kernel) rfl)⟩
theorem fp_X4_12 : mFP 4 12 .int := ⟨RX4, TX4, 16, rfl, ⟨tyX4, tyX4_ok⟩, nmX4, rfl, by decide +kernel⟩
theorem fl_X4_56 : mFL RX4 56 4 13 := ⟨RX4, TX4, 16, rfl, by decide, inX4, Or.inl (wG_at 172 (by decide +kernel) rfl)⟩
theorem fp_X4_13 : mFP 4 13 .int := ⟨RX4, TX4, 16, rfl, ⟨tyX4, tyX4_ok⟩, nmX4, rfl, by decide +kernel⟩
theorem fl_X4_59 : mFL RX4 59 4 14 := ⟨RX4, TX4, 16, rfl, by decide, inX4, Or.inl (wG_at 173 (by decide +kernel) rfl)⟩
theorem fp_X4_14 : mFP 4 14 .int := ⟨RX4, TX4, 16, rfl, ⟨tyX4, tyX4_ok⟩, nmX4, rfl, by decide +kernel⟩
theorem fl_X4_62 : mFL RX4 62 4 15 := ⟨RX4, TX4, 16, rfl, by decide, inX4, Or.inl (wG_at 174 (by decide +kernel) rfl)⟩
theorem fp_X4_15 : mFP 4 15 .int := ⟨RX4, TX4, 16, rfl, ⟨tyX4, tyX4_ok⟩, nmX4, rfl, by decide +kernel⟩
theorem fl_X4_70 : mFL RX4 70 4 5 := ⟨RX4, TX4, 16, rfl, by decide, inX4, Or.inl (wG_at 162 (by decide +kernel) rfl)⟩
theorem fp_X4_5 : mFP 4 5 .boolean := ⟨RX4, TX4, 16, rfl, ⟨tyX4, tyX4_ok⟩, nmX4, rfl, by decide +kernel⟩
theorem fl_X4_83 : mFL RX4 83 4 7 := ⟨RX4, TX4, 16, rfl, by decide, inX4, Or.inl (wG_at 164 (by decide +kernel) rfl)⟩
theorem fp_X4_7 : mFP 4 7 .int := ⟨RX4, TX4, 16, rfl, ⟨tyX4, tyX4_ok⟩, nmX4, rfl, by decide +kernel⟩
theorem fl_X4_86 : mFL RX4 86 4 6 := ⟨RX4, TX4, 16, rfl, by decide, inX4, Or.inl (wG_at 163 (by decide +kernel) rfl)⟩
theorem fp_X4_6 : mFP 4 6 .int := ⟨RX4, TX4, 16, rfl, ⟨tyX4, tyX4_ok⟩, nmX4, rfl, by decide +kernel⟩
theorem fl_X4_89 : mFL RX4 89 4 8 := ⟨RX4, TX4, 16, rfl, by decide, inX4, Or.inl (wG_at 165 (by decide +kernel) rfl)⟩
theorem fp_X4_8 : mFP 4 8 .int := ⟨RX4, TX4, 16, rfl, ⟨tyX4, tyX4_ok⟩, nmX4, rfl, by decide +kernel⟩
theorem fl_X4_115 : mFL RX4 115 5 3 := ⟨RX5, TX5, 4, rfl, by decide, inX5, Or.inr ⟨"DeedHands", List.mem_of_getElem? (i := 127) (by decide +kernel)⟩⟩
theorem fp_X5_3 : mFP 5 3 .int := ⟨RX5, TX5, 4, rfl, ⟨tyX5, tyX5_ok⟩, nmX5, rfl, by decide +kernel⟩
theorem fl_X4_177 : mFL RX4 177 3 1 := ⟨RX3, TX3, 2, rfl, by decide, inX3, Or.inr ⟨"DeedHands", List.mem_of_getElem? (i := 105) (by decide +kernel)⟩⟩
theorem fl_X5_11 : mFL RX5 11 5 0 := ⟨RX5, TX5, 4, rfl, by decide, inX5, Or.inl (wG_at 123 (by decide +kernel) rfl)⟩
theorem fl_X5_15 : mFL RX5 15 5 1 := ⟨RX5, TX5, 4, rfl, by decide, inX5, Or.inl (wG_at 124 (by decide +kernel) rfl)⟩
theorem fl_X5_18 : mFL RX5 18 5 2 := ⟨RX5, TX5, 4, rfl, by decide, inX5, Or.inl (wG_at 125 (by decide +kernel) rfl)⟩
theorem fp_X5_2 : mFP 5 2 .int := ⟨RX5, TX5, 4, rfl, ⟨tyX5, tyX5_ok⟩, nmX5, rfl, by decide +kernel⟩
theorem fl_X5_22 : mFL RX5 22 5 3 := ⟨RX5, TX5, 4, rfl, by decide, inX5, Or.inl (wG_at 126 (by decide +kernel) rfl)⟩
theorem fl_X6_9 : mFL RX6 9 6 1 := ⟨RX6, TX6, 4, rfl, by decide, inX6, Or.inl (wG_at 215 (by decide +kernel) rfl)⟩
theorem fl_X6_15 : mFL RX6 15 6 2 := ⟨RX6, TX6, 4, rfl, by decide, inX6, Or.inl (wG_at 216 (by decide +kernel) rfl)⟩
theorem fl_X6_18 : mFL RX6 18 6 3 := ⟨RX6, TX6, 4, rfl, by decide, inX6, Or.inl (wG_at 217 (by decide +kernel) rfl)⟩
theorem fl_X6_21 : mFL RX6 21 6 0 := ⟨RX6, TX6, 4, rfl, by decide, inX6, Or.inl (wG_at 214 (by decide +kernel) rfl)⟩
theorem fl_X8_7 : mFL RX8 7 8 1 := ⟨RX8, TX8, 44, rfl, by decide, inX8, Or.inl (wG_at 626 (by decide +kernel) rfl)⟩
theorem fl_X8_13 : mFL RX8 13 8 2 := ⟨RX8, TX8, 44, rfl, by decide, inX8, Or.inl (wG_at 627 (by decide +kernel) rfl)⟩
theorem fl_X8_16 : mFL RX8 16 8 3 := ⟨RX8, TX8, 44, rfl, by decide, inX8, Or.inl (wG_at 628 (by decide +kernel) rfl)⟩
theorem fl_X8_19 : mFL RX8 19 8 4 := ⟨RX8, TX8, 44, rfl, by decide, inX8, Or.inl (wG_at 629 (by decide +kernel) rfl)⟩
theorem fl_X8_22 : mFL RX8 22 8 6 := ⟨RX8, TX8, 44, rfl, by decide, inX8, Or.inl (wG_at 631 (by decide +kernel) rfl)⟩
theorem fl_X8_25 : mFL RX8 25 8 7 := ⟨RX8, TX8, 44, rfl, by decide, inX8, Or.inl (wG_at 632 (by decide +kernel) rfl)⟩
theorem fl_X8_28 : mFL RX8 28 8 9 := ⟨RX8, TX8, 44, rfl, by decide, inX8, Or.inl (wG_at 634 (by decide +kernel) rfl)⟩
theorem fl_X8_31 : mFL RX8 31 8 10 := ⟨RX8, TX8, 44, rfl, by decide, inX8, Or.inl (wG_at 635 (by decide +kernel) rfl)⟩
theorem fl_X8_34 : mFL RX8 34 8 11 := ⟨RX8, TX8, 44, rfl, by decide, inX8, Or.inl (wG_at 636 (by decide +kernel) rfl)⟩
theorem fl_X8_37 : mFL RX8 37 8 12 := ⟨RX8, TX8, 44, rfl, by decide, inX8, Or.inl (wG_at 637 (by decide +kernel) rfl)⟩
theorem fl_X8_40 : mFL RX8 40 8 13 := ⟨RX8, TX8, 44, rfl, by decide, inX8, Or.inl (wG_at 638 (by decide +kernel) rfl)⟩
theorem fl_X8_43 : mFL RX8 43 8 14 := ⟨RX8, TX8, 44, rfl, by decide, inX8, Or.inl (wG_at 639 (by decide +kernel) rfl)⟩
theorem fl_X8_46 : mFL RX8 46 8 16 := ⟨RX8, TX8, 44, rfl, by decide, inX8, Or.inl (wG_at 641 (by decide +kernel) rfl)⟩
theorem fl_X8_49 : mFL RX8 49 8 17 := ⟨RX8, TX8, 44, rfl, by decide, inX8, Or.inl (wG_at 642 (by decide +kernel) rfl)⟩
theorem fl_X8_52 : mFL RX8 52 8 18 := ⟨RX8, TX8, 44, rfl, by decide, inX8, Or.inl (wG_at 643 (by decide +kernel) rfl)⟩
theorem fl_X8_55 : mFL RX8 55 8 20 := ⟨RX8, TX8, 44, rfl, by decide, inX8, Or.inl (wG_at 645 (by decide +kernel) rfl)⟩
theorem fl_X8_58 : mFL RX8 58 8 21 := ⟨RX8, TX8, 44, rfl, by decide, inX8, Or.inl (wG_at 646 (by decide +kernel) rfl)⟩
theorem fl_X8_61 : mFL RX8 61 8 22 := ⟨RX8, TX8, 44, rfl, by decide, inX8, Or.inl (wG_at 647 (by decide +kernel) rfl)⟩
theorem fl_X8_64 : mFL RX8 64 8 29 := ⟨RX8, TX8, 44, rfl, by decide, inX8, Or.inl (wG_at 654 (by decide +kernel) rfl)⟩
theorem fl_X8_67 : mFL RX8 67 8 31 := ⟨RX8, TX8, 44, rfl, by decide, inX8, Or.inl (wG_at 656 (by decide +kernel) rfl)⟩
theorem fl_X8_70 : mFL RX8 70 8 34 := ⟨RX8, TX8, 44, rfl, by decide, inX8, Or.inl (wG_at 659 (by decide +kernel) rfl)⟩
theorem fl_X8_73 : mFL RX8 73 8 40 := ⟨RX8, TX8, 44, rfl, by decide, inX8, Or.inl (wG_at 665 (by decide +kernel) rfl)⟩
theorem fl_X8_76 : mFL RX8 76 8 41 := ⟨RX8, TX8, 44, rfl, by decide, inX8, Or.inl (wG_at 666 (by decide +kernel) rfl)⟩
theorem fl_X8_79 : mFL RX8 79 8 42 := ⟨RX8, TX8, 44, rfl, by decide, inX8, Or.inl (wG_at 667 (by decide +kernel) rfl)⟩
theorem fl_X8_82 : mFL RX8 82 8 43 := ⟨RX8, TX8, 44, rfl, by decide, inX8, Or.inl (wG_at 668 (by decide +kernel) rfl)⟩
theorem fl_X8_89 : mFL RX8 89 8 0 := ⟨RX8, TX8, 44, rfl, by decide, inX8, Or.inl (wG_at 625 (by decide +kernel) rfl)⟩
theorem fp_X8_0 : mFP 8 0 .int := ⟨RX8, TX8, 44, rfl, ⟨tyX8, tyX8_ok⟩, nmX8, rfl, by decide +kernel⟩
theorem fl_X8_117 : mFL RX8 117 8 5 := ⟨RX8, TX8, 44, rfl, by decide, inX8, Or.inl (wG_at 630 (by decide +kernel) rfl)⟩
theorem fp_X8_5 : mFP 8 5 .int := ⟨RX8, TX8, 44, rfl, ⟨tyX8, tyX8_ok⟩, nmX8, rfl, by decide +kernel⟩
theorem fl_X8_120 : mFL RX8 120 8 8 := ⟨RX8, TX8, 44, rfl, by decide, inX8, Or.inl (wG_at 633 (by decide +kernel) rfl)⟩
theorem fp_X8_8 : mFP 8 8 .int := ⟨RX8, TX8, 44, rfl, ⟨tyX8, tyX8_ok⟩, nmX8, rfl, by decide +kernel⟩
theorem fl_X8_123 : mFL RX8 123 8 32 := ⟨RX8, TX8, 44, rfl, by decide, inX8, Or.inl (wG_at 657 (by decide +kernel) rfl)⟩
theorem fp_X8_32 : mFP 8 32 .int := ⟨RX8, TX8, 44, rfl, ⟨tyX8, tyX8_ok⟩, nmX8, rfl, by decide +kernel⟩
theorem fl_X8_126 : mFL RX8 126 8 15 := ⟨RX8, TX8, 44, rfl, by decide, inX8, Or.inl (wG_at 640 (by decide +kernel) rfl)⟩
theorem fp_X8_15 : mFP 8 15 .int := ⟨RX8, TX8, 44, rfl, ⟨tyX8, tyX8_ok⟩, nmX8, rfl, by decide +kernel⟩
theorem fl_X8_129 : mFL RX8 129 8 33 := ⟨RX8, TX8, 44, rfl, by decide, inX8, Or.inl (wG_at 658 (by decide +kernel) rfl)⟩
theorem fp_X8_33 : mFP 8 33 .int := ⟨RX8, TX8, 44, rfl, ⟨tyX8, tyX8_ok⟩, nmX8, rfl, by decide +kernel⟩
theorem fl_X8_132 : mFL RX8 132 8 19 := ⟨RX8, TX8, 44, rfl, by decide, inX8, Or.inl (wG_at 644 (by decide +kernel) rfl)⟩
theorem fp_X8_19 : mFP 8 19 .int := ⟨RX8, TX8, 44, rfl, ⟨tyX8, tyX8_ok⟩, nmX8, rfl, by decide +kernel⟩
theorem fl_X8_135 : mFL RX8 135 8 23 := ⟨RX8, TX8, 44, rfl, by decide, inX8, Or.inl (wG_at 648 (by decide +kernel) rfl)⟩
theorem fp_X8_23 : mFP 8 23 .int := ⟨RX8, TX8, 44, rfl, ⟨tyX8, tyX8_ok⟩, nmX8, rfl, by decide +kernel⟩
theorem fl_X8_138 : mFL RX8 138 8 24 := ⟨RX8, TX8, 44, rfl, by decide, inX8, Or.inl (wG_at 649 (by decide +kernel) rfl)⟩
theorem fp_X8_24 : mFP 8 24 .int := ⟨RX8, TX8, 44, rfl, ⟨tyX8, tyX8_ok⟩, nmX8, rfl, by decide +kernel⟩
theorem fl_X8_141 : mFL RX8 141 8 25 := ⟨RX8, TX8, 44, rfl, by decide, inX8, Or.inl (wG_at 650 (by decide +kernel) rfl)⟩
theorem fp_X8_25 : mFP 8 25 .int := ⟨RX8, TX8, 44, rfl, ⟨tyX8, tyX8_ok⟩, nmX8, rfl, by decide +kernel⟩
theorem fl_X8_144 : mFL RX8 144 8 26 := ⟨RX8, TX8, 44, rfl, by decide, inX8, Or.inl (wG_at 651 (by decide +kernel) rfl)⟩
theorem fp_X8_26 : mFP 8 26 .int := ⟨RX8, TX8, 44, rfl, ⟨tyX8, tyX8_ok⟩, nmX8, rfl, by decide +kernel⟩
theorem fl_X8_147 : mFL RX8 147 8 27 := ⟨RX8, TX8, 44, rfl, by decide, inX8, Or.inl (wG_at 652 (by decide +kernel) rfl)⟩
theorem fp_X8_27 : mFP 8 27 .int := ⟨RX8, TX8, 44, rfl, ⟨tyX8, tyX8_ok⟩, nmX8, rfl, by decide +kernel⟩
theorem fl_X8_150 : mFL RX8 150 8 28 := ⟨RX8, TX8, 44, rfl, by decide, inX8, Or.inl (wG_at 653 (by decide +kernel) rfl)⟩
theorem fp_X8_28 : mFP 8 28 .int := ⟨RX8, TX8, 44, rfl, ⟨tyX8, tyX8_ok⟩, nmX8, rfl, by decide +kernel⟩
theorem fl_X8_153 : mFL RX8 153 8 35 := ⟨RX8, TX8, 44, rfl, by decide, inX8, Or.inl (wG_at 660 (by decide +kernel) rfl)⟩
theorem fp_X8_35 : mFP 8 35 .int := ⟨RX8, TX8, 44, rfl, ⟨tyX8, tyX8_ok⟩, nmX8, rfl, by decide +kernel⟩
theorem fl_X8_156 : mFL RX8 156 8 36 := ⟨RX8, TX8, 44, rfl, by decide, inX8, Or.inl (wG_at 661 (by decide +kernel) rfl)⟩
theorem fp_X8_36 : mFP 8 36 .int := ⟨RX8, TX8, 44, rfl, ⟨tyX8, tyX8_ok⟩, nmX8, rfl, by decide +kernel⟩
theorem fl_X8_159 : mFL RX8 159 8 37 := ⟨RX8, TX8, 44, rfl, by decide, inX8, Or.inl (wG_at 662 (by decide +kernel) rfl)⟩
theorem fp_X8_37 : mFP 8 37 .int := ⟨RX8, TX8, 44, rfl, ⟨tyX8, tyX8_ok⟩, nmX8, rfl, by decide +kernel⟩
theorem fl_X8_162 : mFL RX8 162 8 38 := ⟨RX8, TX8, 44, rfl, by decide, inX8, Or.inl (wG_at 663 (by decide +kernel) rfl)⟩
theorem fp_X8_38 : mFP 8 38 .int := ⟨RX8, TX8, 44, rfl, ⟨tyX8, tyX8_ok⟩, nmX8, rfl, by decide +kernel⟩
theorem fl_X8_165 : mFL RX8 165 8 39 := ⟨RX8, TX8, 44, rfl, by decide, inX8, Or.inl (wG_at 664 (by decide +kernel) rfl)⟩
theorem fp_X8_39 : mFP 8 39 .int := ⟨RX8, TX8, 44, rfl, ⟨tyX8, tyX8_ok⟩, nmX8, rfl, by decide +kernel⟩
theorem fl_X8_203 : mFL RX8 203 8 30 := ⟨RX8, TX8, 44, rfl, by decide, inX8, Or.inl (wG_at 655 (by decide +kernel) rfl)⟩
theorem fp_X8_30 : mFP 8 30 .int := ⟨RX8, TX8, 44, rfl, ⟨tyX8, tyX8_ok⟩, nmX8, rfl, by decide +kernel⟩
abbrev iX0_size : mI := (RX0, cX0_size, 2, (some .int), { frames := 0, cells := 0, slots := 0, locals := 0 })
theorem yv_X0_size : mYv yX0_size iX0_size 1 := ⟨⟨by decide +kernel, rfl, ⟨by decide +kernel, by decide +kernel, by decide +kernel⟩, wG_at 344 (by decide +kernel) rfl, wG_at 45 (by decide +kernel) rfl, rfl, rfl⟩, wG_at 342 (by decide +kernel) rfl, wG_at 343 (by decide +kernel) rfl⟩
abbrev iX0_clear : mI := (RX0, cX0_clear, 2, none, { frames := 0, cells := 0, slots := 0, locals := 0 })
theorem yv_X0_clear : mYv yX0_clear iX0_clear 1 := ⟨⟨by decide +kernel, rfl, ⟨by decide +kernel, by decide +kernel, by decide +kernel⟩, wG_at 348 (by decide +kernel) rfl, wG_at 45 (by decide +kernel) rfl, rfl, rfl⟩, wG_at 346 (by decide +kernel) rfl, wG_at 347 (by decide +kernel) rfl⟩
abbrev iX0_writeNought : mI := (RX0, cX0_writeNought, 2, none, { frames := 0, cells := 0, slots := 0, locals := 0 })
theorem yv_X0_writeNought : mYv yX0_writeNought iX0_writeNought 1 := ⟨⟨by decide +kernel, rfl, ⟨by decide +kernel, by decide +kernel, by decide +kernel⟩, wG_at 230 (by decide +kernel) rfl, wG_at 45 (by decide +kernel) rfl, rfl, rfl⟩, wG_at 228 (by decide +kernel) rfl, wG_at 229 (by decide +kernel) rfl⟩
abbrev iX0_write : mI := (RX0, cX0_write, 5, none, { frames := 3, cells := 0, slots := 0, locals := 66 })
theorem yv_X0_write : mYv yX0_write iX0_write 2 := ⟨⟨by decide +kernel, rfl, ⟨by decide +kernel, by decide +kernel, by decide +kernel⟩, wG_at 304 (by decide +kernel) rfl, wG_at 45 (by decide +kernel) rfl, rfl, rfl⟩, wG_at 302 (by decide +kernel) rfl, wG_at 303 (by decide +kernel) rfl⟩
abbrev iX0_behind : mI := (RX0, cX0_behind, 5, (some .int), { frames := 2, cells := 0, slots := 0, locals := 42 })
theorem yv_X0_behind : mYv yX0_behind iX0_behind 1 := ⟨⟨by decide +kernel, rfl, ⟨by decide +kernel, by decide +kernel, by decide +kernel⟩, wG_at 312 (by decide +kernel) rfl, wG_at 45 (by decide +kernel) rfl, rfl, rfl⟩, wG_at 311 (by decide +kernel) rfl, wG_at 2 (by decide +kernel) rfl⟩
abbrev iX0_sign : mI := (RX0, cX0_sign, 2, (some .int), { frames := 0, cells := 0, slots := 0, locals := 0 })
theorem yv_X0_sign : mYv yX0_sign iX0_sign 1 := ⟨⟨by decide +kernel, rfl, ⟨by decide +kernel, by decide +kernel, by decide +kernel⟩, wG_at 320 (by decide +kernel) rfl, wG_at 45 (by decide +kernel) rfl, rfl, rfl⟩, wG_at 318 (by decide +kernel) rfl, wG_at 319 (by decide +kernel) rfl⟩
abbrev iX0_after : mI := (RX0, cX0_after, 2, (some .int), { frames := 0, cells := 0, slots := 0, locals := 0 })
theorem yv_X0_after : mYv yX0_after iX0_after 1 := ⟨⟨by decide +kernel, rfl, ⟨by decide +kernel, by decide +kernel, by decide +kernel⟩, wG_at 325 (by decide +kernel) rfl, wG_at 45 (by decide +kernel) rfl, rfl, rfl⟩, wG_at 323 (by decide +kernel) rfl, wG_at 324 (by decide +kernel) rfl⟩
abbrev iX0_first : mI := (RX0, cX0_first, 2, (some .int), { frames := 1, cells := 0, slots := 0, locals := 21 })
theorem yv_X0_first : mYv yX0_first iX0_first 1 := ⟨⟨by decide +kernel, rfl, ⟨by decide +kernel, by decide +kernel, by decide +kernel⟩, wG_at 316 (by decide +kernel) rfl, wG_at 45 (by decide +kernel) rfl, rfl, rfl⟩, wG_at 314 (by decide +kernel) rfl, wG_at 315 (by decide +kernel) rfl⟩
abbrev iX0_hand : mI := (RX0, cX0_hand, 3, (some .int), { frames := 0, cells := 0, slots := 0, locals := 0 })
theorem yv_X0_hand : mYv yX0_hand iX0_hand 1 := ⟨⟨by decide +kernel, rfl, ⟨by decide +kernel, by decide +kernel, by decide +kernel⟩, wG_at 462 (by decide +kernel) rfl, wG_at 45 (by decide +kernel) rfl, rfl, rfl⟩, wG_at 460 (by decide +kernel) rfl, wG_at 461 (by decide +kernel) rfl⟩
abbrev iX0_clauses : mI := (RX0, cX0_clauses, 4, (some .int), { frames := 1, cells := 0, slots := 0, locals := 21 })
theorem yv_X0_clauses : mYv yX0_clauses iX0_clauses 1 := ⟨⟨by decide +kernel, rfl, ⟨by decide +kernel, by decide +kernel, by decide +kernel⟩, wG_at 356 (by decide +kernel) rfl, wG_at 45 (by decide +kernel) rfl, rfl, rfl⟩, wG_at 354 (by decide +kernel) rfl, wG_at 355 (by decide +kernel) rfl⟩
abbrev iX1_stands : mI := (RX1, cX1_stands, 2, (some .boolean), { frames := 0, cells := 0, slots := 0, locals := 0 })
theorem yv_X1_stands : mYv yX1_stands iX1_stands 1 := ⟨⟨by decide +kernel, rfl, ⟨by decide +kernel, by decide +kernel, by decide +kernel⟩, wG_at 411 (by decide +kernel) rfl, wG_at 49 (by decide +kernel) rfl, rfl, rfl⟩, wG_at 410 (by decide +kernel) rfl, wG_at 5 (by decide +kernel) rfl⟩
abbrev iX1_enter : mI := (RX1, cX1_enter, 4, (some .int), { frames := 0, cells := 0, slots := 0, locals := 0 })
theorem yv_X1_enter : mYv yX1_enter iX1_enter 3 := ⟨⟨by decide +kernel, rfl, ⟨by decide +kernel, by decide +kernel, by decide +kernel⟩, wG_at 397 (by decide +kernel) rfl, wG_at 49 (by decide +kernel) rfl, rfl, rfl⟩, wG_at 395 (by decide +kernel) rfl, wG_at 396 (by decide +kernel) rfl⟩
abbrev iX1_argument : mI := (RX1, cX1_argument, 2, (some .int), { frames := 1, cells := 0, slots := 0, locals := 21 })
theorem yv_X1_argument : mYv yX1_argument iX1_argument 1 := ⟨⟨by decide +kernel, rfl, ⟨by decide +kernel, by decide +kernel, by decide +kernel⟩, wG_at 407 (by decide +kernel) rfl, wG_at 49 (by decide +kernel) rfl, rfl, rfl⟩, wG_at 405 (by decide +kernel) rfl, wG_at 406 (by decide +kernel) rfl⟩
abbrev iX1_keptTop : mI := (RX1, cX1_keptTop, 2, (some .int), { frames := 1, cells := 0, slots := 0, locals := 21 })
theorem yv_X1_keptTop : mYv yX1_keptTop iX1_keptTop 1 := ⟨⟨by decide +kernel, rfl, ⟨by decide +kernel, by decide +kernel, by decide +kernel⟩, wG_at 476 (by decide +kernel) rfl, wG_at 49 (by decide +kernel) rfl, rfl, rfl⟩, wG_at 474 (by decide +kernel) rfl, wG_at 475 (by decide +kernel) rfl⟩
abbrev iX1_keptHand : mI := (RX1, cX1_keptHand, 2, (some .int), { frames := 1, cells := 0, slots := 0, locals := 21 })
theorem yv_X1_keptHand : mYv yX1_keptHand iX1_keptHand 1 := ⟨⟨by decide +kernel, rfl, ⟨by decide +kernel, by decide +kernel, by decide +kernel⟩, wG_at 480 (by decide +kernel) rfl, wG_at 49 (by decide +kernel) rfl, rfl, rfl⟩, wG_at 478 (by decide +kernel) rfl, wG_at 479 (by decide +kernel) rfl⟩
abbrev iX2_add : mI := (RX2, cX2_add, 2, (some .boolean), { frames := 0, cells := 0, slots := 0, locals := 0 })
theorem yv_X2_add : mYv yX2_add iX2_add 1 := ⟨⟨by decide +kernel, rfl, ⟨by decide +kernel, by decide +kernel, by decide +kernel⟩, wG_at 260 (by decide +kernel) rfl, wG_at 44 (by decide +kernel) rfl, rfl, rfl⟩, wG_at 258 (by decide +kernel) rfl, wG_at 259 (by decide +kernel) rfl⟩
abbrev iX2_sign : mI := (RX2, cX2_sign, 2, (some .int), { frames := 0, cells := 0, slots := 0, locals := 0 })
theorem yv_X2_sign : mYv yX2_sign iX2_sign 1 := ⟨⟨by decide +kernel, rfl, ⟨by decide +kernel, by decide +kernel, by decide +kernel⟩, wG_at 276 (by decide +kernel) rfl, wG_at 44 (by decide +kernel) rfl, rfl, rfl⟩, wG_at 274 (by decide +kernel) rfl, wG_at 275 (by decide +kernel) rfl⟩
abbrev iX2_firstFault : mI := (RX2, cX2_firstFault, 5, (some .int), { frames := 2, cells := 0, slots := 0, locals := 43 })
theorem yv_X2_firstFault : mYv yX2_firstFault iX2_firstFault 1 := ⟨⟨by decide +kernel, rfl, ⟨by decide +kernel, by decide +kernel, by decide +kernel⟩, wG_at 272 (by decide +kernel) rfl, wG_at 44 (by decide +kernel) rfl, rfl, rfl⟩, wG_at 270 (by decide +kernel) rfl, wG_at 271 (by decide +kernel) rfl⟩
abbrev iX2_canStand : mI := (RX2, cX2_canStand, 4, (some .boolean), { frames := 1, cells := 0, slots := 0, locals := 20 })
theorem ys_X2_canStand : mYs yX2_canStand iX2_canStand 3 := ⟨⟨by decide +kernel, rfl, ⟨by decide +kernel, by decide +kernel, by decide +kernel⟩, wG_at 279 (by decide +kernel) rfl, wG_at 44 (by decide +kernel) rfl, rfl, rfl⟩, wG_at 278 (by decide +kernel) rfl⟩
abbrev iX2_isHandSign : mI := (RX2, cX2_isHandSign, 1, (some .boolean), { frames := 0, cells := 0, slots := 0, locals := 0 })
theorem ys_X2_isHandSign : mYs yX2_isHandSign iX2_isHandSign 1 := ⟨⟨by decide +kernel, rfl, ⟨by decide +kernel, by decide +kernel, by decide +kernel⟩, wG_at 285 (by decide +kernel) rfl, wG_at 44 (by decide +kernel) rfl, rfl, rfl⟩, wG_at 284 (by decide +kernel) rfl⟩
abbrev iX2_depthOfNext : mI := (RX2, cX2_depthOfNext, 3, (some .int), { frames := 0, cells := 0, slots := 0, locals := 0 })
theorem yv_X2_depthOfNext : mYv yX2_depthOfNext iX2_depthOfNext 1 := ⟨⟨by decide +kernel, rfl, ⟨by decide +kernel, by decide +kernel, by decide +kernel⟩, wG_at 289 (by decide +kernel) rfl, wG_at 44 (by decide +kernel) rfl, rfl, rfl⟩, wG_at 288 (by decide +kernel) rfl, wG_at 0 (by decide +kernel) rfl⟩
abbrev iX3_start : mI := (RX3, cX3_start, 3, none, { frames := 0, cells := 0, slots := 0, locals := 0 })
theorem yv_X3_start : mYv yX3_start iX3_start 1 := ⟨⟨by decide +kernel, rfl, ⟨by decide +kernel, by decide +kernel, by decide +kernel⟩, wG_at 377 (by decide +kernel) rfl, wG_at 46 (by decide +kernel) rfl, rfl, rfl⟩, wG_at 375 (by decide +kernel) rfl, wG_at 376 (by decide +kernel) rfl⟩
abbrev iX3_add : mI := (RX3, cX3_add, 2, (some .boolean), { frames := 0, cells := 0, slots := 0, locals := 0 })
theorem yv_X3_add : mYv yX3_add iX3_add 1 := ⟨⟨by decide +kernel, rfl, ⟨by decide +kernel, by decide +kernel, by decide +kernel⟩, wG_at 369 (by decide +kernel) rfl, wG_at 46 (by decide +kernel) rfl, rfl, rfl⟩, wG_at 367 (by decide +kernel) rfl, wG_at 368 (by decide +kernel) rfl⟩
abbrev iX3_value : mI := (RX3, cX3_value, 2, (some .int), { frames := 0, cells := 0, slots := 0, locals := 0 })
theorem yv_X3_value : mYv yX3_value iX3_value 1 := ⟨⟨by decide +kernel, rfl, ⟨by decide +kernel, by decide +kernel, by decide +kernel⟩, wG_at 496 (by decide +kernel) rfl, wG_at 46 (by decide +kernel) rfl, rfl, rfl⟩, wG_at 494 (by decide +kernel) rfl, wG_at 495 (by decide +kernel) rfl⟩
abbrev iX3_take : mI := (RX3, cX3_take, 4, none, { frames := 1, cells := 0, slots := 0, locals := 22 })
theorem yv_X3_take : mYv yX3_take iX3_take 2 := ⟨⟨by decide +kernel, rfl, ⟨by decide +kernel, by decide +kernel, by decide +kernel⟩, wG_at 587 (by decide +kernel) rfl, wG_at 46 (by decide +kernel) rfl, rfl, rfl⟩, wG_at 585 (by decide +kernel) rfl, wG_at 586 (by decide +kernel) rfl⟩
abbrev iX3_tell : mI := (RX3, cX3_tell, 2, (some .int), { frames := 1, cells := 0, slots := 0, locals := 21 })
theorem yv_X3_tell : mYv yX3_tell iX3_tell 1 := ⟨⟨by decide +kernel, rfl, ⟨by decide +kernel, by decide +kernel, by decide +kernel⟩, wG_at 602 (by decide +kernel) rfl, wG_at 46 (by decide +kernel) rfl, rfl, rfl⟩, wG_at 600 (by decide +kernel) rfl, wG_at 601 (by decide +kernel) rfl⟩
abbrev iX3_next : mI := (RX3, cX3_next, 4, (some .boolean), { frames := 1, cells := 0, slots := 0, locals := 21 })
theorem yv_X3_next : mYv yX3_next iX3_next 2 := ⟨⟨by decide +kernel, rfl, ⟨by decide +kernel, by decide +kernel, by decide +kernel⟩, wG_at 593 (by decide +kernel) rfl, wG_at 46 (by decide +kernel) rfl, rfl, rfl⟩, wG_at 591 (by decide +kernel) rfl, wG_at 592 (by decide +kernel) rfl⟩
abbrev iX4_work : mI := (RX4, cX4_work, 5, none, { frames := 4, cells := 0, slots := 0, locals := 93 })
theorem yv_X4_work : mYv yX4_work iX4_work 3 := ⟨⟨by decide +kernel, rfl, ⟨by decide +kernel, by decide +kernel, by decide +kernel⟩, wG_at 385 (by decide +kernel) rfl, wG_at 47 (by decide +kernel) rfl, rfl, rfl⟩, wG_at 383 (by decide +kernel) rfl, wG_at 384 (by decide +kernel) rfl⟩
abbrev iX4_tell : mI := (RX4, cX4_tell, 2, (some .int), { frames := 0, cells := 0, slots := 0, locals := 0 })
theorem yv_X4_tell : mYv yX4_tell iX4_tell 1 := ⟨⟨by decide +kernel, rfl, ⟨by decide +kernel, by decide +kernel, by decide +kernel⟩, wG_at 504 (by decide +kernel) rfl, wG_at 47 (by decide +kernel) rfl, rfl, rfl⟩, wG_at 502 (by decide +kernel) rfl, wG_at 503 (by decide +kernel) rfl⟩
abbrev iX4_answerer : mI := (RX4, cX4_answerer, 2, (some .int), { frames := 0, cells := 0, slots := 0, locals := 0 })
theorem yv_X4_answerer : mYv yX4_answerer iX4_answerer 1 := ⟨⟨by decide +kernel, rfl, ⟨by decide +kernel, by decide +kernel, by decide +kernel⟩, wG_at 512 (by decide +kernel) rfl, wG_at 47 (by decide +kernel) rfl, rfl, rfl⟩, wG_at 510 (by decide +kernel) rfl, wG_at 511 (by decide +kernel) rfl⟩
abbrev iX4_doing : mI := (RX4, cX4_doing, 1, (some .int), { frames := 0, cells := 0, slots := 0, locals := 0 })
theorem yv_X4_doing : mYv yX4_doing iX4_doing 0 := ⟨⟨by decide +kernel, rfl, ⟨by decide +kernel, by decide +kernel, by decide +kernel⟩, wG_at 614 (by decide +kernel) rfl, wG_at 47 (by decide +kernel) rfl, rfl, rfl⟩, wG_at 612 (by decide +kernel) rfl, wG_at 613 (by decide +kernel) rfl⟩
abbrev iX4_enter : mI := (RX4, cX4_enter, 5, none, { frames := 1, cells := 0, slots := 0, locals := 23 })
theorem yv_X4_enter : mYv yX4_enter iX4_enter 4 := ⟨⟨by decide +kernel, rfl, ⟨by decide +kernel, by decide +kernel, by decide +kernel⟩, wG_at 393 (by decide +kernel) rfl, wG_at 47 (by decide +kernel) rfl, rfl, rfl⟩, wG_at 392 (by decide +kernel) rfl, wG_at 3 (by decide +kernel) rfl⟩
abbrev iX4_give : mI := (RX4, cX4_give, 2, none, { frames := 0, cells := 0, slots := 0, locals := 0 })
theorem yv_X4_give : mYv yX4_give iX4_give 1 := ⟨⟨by decide +kernel, rfl, ⟨by decide +kernel, by decide +kernel, by decide +kernel⟩, wG_at 415 (by decide +kernel) rfl, wG_at 47 (by decide +kernel) rfl, rfl, rfl⟩, wG_at 414 (by decide +kernel) rfl, wG_at 6 (by decide +kernel) rfl⟩
abbrev iX4_begin : mI := (RX4, cX4_begin, 2, none, { frames := 2, cells := 0, slots := 0, locals := 45 })
theorem yv_X4_begin : mYv yX4_begin iX4_begin 0 := ⟨⟨by decide +kernel, rfl, ⟨by decide +kernel, by decide +kernel, by decide +kernel⟩, wG_at 402 (by decide +kernel) rfl, wG_at 47 (by decide +kernel) rfl, rfl, rfl⟩, wG_at 401 (by decide +kernel) rfl, wG_at 4 (by decide +kernel) rfl⟩
abbrev iX4_takeUp : mI := (RX4, cX4_takeUp, 3, none, { frames := 3, cells := 0, slots := 0, locals := 71 })
theorem yv_X4_takeUp : mYv yX4_takeUp iX4_takeUp 0 := ⟨⟨by decide +kernel, rfl, ⟨by decide +kernel, by decide +kernel, by decide +kernel⟩, wG_at 429 (by decide +kernel) rfl, wG_at 47 (by decide +kernel) rfl, rfl, rfl⟩, wG_at 428 (by decide +kernel) rfl, wG_at 8 (by decide +kernel) rfl⟩
abbrev iX4_act : mI := (RX4, cX4_act, 3, (some .int), { frames := 1, cells := 0, slots := 0, locals := 21 })
theorem ys_X4_act : mYs yX4_act iX4_act 3 := ⟨⟨by decide +kernel, rfl, ⟨by decide +kernel, by decide +kernel, by decide +kernel⟩, wG_at 499 (by decide +kernel) rfl, wG_at 47 (by decide +kernel) rfl, rfl, rfl⟩, wG_at 498 (by decide +kernel) rfl⟩
abbrev iX4_choose : mI := (RX4, cX4_choose, 2, none, { frames := 2, cells := 0, slots := 0, locals := 42 })
theorem yv_X4_choose : mYv yX4_choose iX4_choose 0 := ⟨⟨by decide +kernel, rfl, ⟨by decide +kernel, by decide +kernel, by decide +kernel⟩, wG_at 458 (by decide +kernel) rfl, wG_at 47 (by decide +kernel) rfl, rfl, rfl⟩, wG_at 457 (by decide +kernel) rfl, wG_at 10 (by decide +kernel) rfl⟩
abbrev iX4_comeBack : mI := (RX4, cX4_comeBack, 3, none, { frames := 2, cells := 0, slots := 0, locals := 47 })
theorem yv_X4_comeBack : mYv yX4_comeBack iX4_comeBack 1 := ⟨⟨by decide +kernel, rfl, ⟨by decide +kernel, by decide +kernel, by decide +kernel⟩, wG_at 466 (by decide +kernel) rfl, wG_at 47 (by decide +kernel) rfl, rfl, rfl⟩, wG_at 465 (by decide +kernel) rfl, wG_at 11 (by decide +kernel) rfl⟩
abbrev iX4_goOn : mI := (RX4, cX4_goOn, 1, none, { frames := 2, cells := 0, slots := 0, locals := 48 })
theorem yv_X4_goOn : mYv yX4_goOn iX4_goOn 0 := ⟨⟨by decide +kernel, rfl, ⟨by decide +kernel, by decide +kernel, by decide +kernel⟩, wG_at 472 (by decide +kernel) rfl, wG_at 47 (by decide +kernel) rfl, rfl, rfl⟩, wG_at 471 (by decide +kernel) rfl, wG_at 12 (by decide +kernel) rfl⟩
abbrev iX4_ask : mI := (RX4, cX4_ask, 5, none, { frames := 2, cells := 0, slots := 0, locals := 47 })
theorem yv_X4_ask : mYv yX4_ask iX4_ask 2 := ⟨⟨by decide +kernel, rfl, ⟨by decide +kernel, by decide +kernel, by decide +kernel⟩, wG_at 492 (by decide +kernel) rfl, wG_at 47 (by decide +kernel) rfl, rfl, rfl⟩, wG_at 491 (by decide +kernel) rfl, wG_at 14 (by decide +kernel) rfl⟩
abbrev iX4_nearest : mI := (RX4, cX4_nearest, 5, (some .int), { frames := 2, cells := 0, slots := 0, locals := 42 })
theorem yv_X4_nearest : mYv yX4_nearest iX4_nearest 1 := ⟨⟨by decide +kernel, rfl, ⟨by decide +kernel, by decide +kernel, by decide +kernel⟩, wG_at 488 (by decide +kernel) rfl, wG_at 47 (by decide +kernel) rfl, rfl, rfl⟩, wG_at 487 (by decide +kernel) rfl, wG_at 13 (by decide +kernel) rfl⟩
abbrev iX5_clear : mI := (RX5, cX5_clear, 1, none, { frames := 0, cells := 0, slots := 0, locals := 0 })
theorem yv_X5_clear : mYv yX5_clear iX5_clear 0 := ⟨⟨by decide +kernel, rfl, ⟨by decide +kernel, by decide +kernel, by decide +kernel⟩, wG_at 389 (by decide +kernel) rfl, wG_at 48 (by decide +kernel) rfl, rfl, rfl⟩, wG_at 387 (by decide +kernel) rfl, wG_at 388 (by decide +kernel) rfl⟩
abbrev iX5_stands : mI := (RX5, cX5_stands, 2, (some .boolean), { frames := 0, cells := 0, slots := 0, locals := 0 })
theorem yv_X5_stands : mYv yX5_stands iX5_stands 1 := ⟨⟨by decide +kernel, rfl, ⟨by decide +kernel, by decide +kernel, by decide +kernel⟩, wG_at 437 (by decide +kernel) rfl, wG_at 48 (by decide +kernel) rfl, rfl, rfl⟩, wG_at 436 (by decide +kernel) rfl, wG_at 9 (by decide +kernel) rfl⟩
abbrev iX5_place : mI := (RX5, cX5_place, 2, (some .int), { frames := 1, cells := 0, slots := 0, locals := 21 })
theorem yv_X5_place : mYv yX5_place iX5_place 1 := ⟨⟨by decide +kernel, rfl, ⟨by decide +kernel, by decide +kernel, by decide +kernel⟩, wG_at 433 (by decide +kernel) rfl, wG_at 48 (by decide +kernel) rfl, rfl, rfl⟩, wG_at 431 (by decide +kernel) rfl, wG_at 432 (by decide +kernel) rfl⟩
abbrev iX5_call : mI := (RX5, cX5_call, 2, (some .int), { frames := 1, cells := 0, slots := 0, locals := 21 })
theorem yv_X5_call : mYv yX5_call iX5_call 1 := ⟨⟨by decide +kernel, rfl, ⟨by decide +kernel, by decide +kernel, by decide +kernel⟩, wG_at 441 (by decide +kernel) rfl, wG_at 48 (by decide +kernel) rfl, rfl, rfl⟩, wG_at 439 (by decide +kernel) rfl, wG_at 440 (by decide +kernel) rfl⟩
abbrev iX5_below : mI := (RX5, cX5_below, 2, (some .int), { frames := 1, cells := 0, slots := 0, locals := 21 })
theorem yv_X5_below : mYv yX5_below iX5_below 1 := ⟨⟨by decide +kernel, rfl, ⟨by decide +kernel, by decide +kernel, by decide +kernel⟩, wG_at 454 (by decide +kernel) rfl, wG_at 48 (by decide +kernel) rfl, rfl, rfl⟩, wG_at 452 (by decide +kernel) rfl, wG_at 453 (by decide +kernel) rfl⟩
abbrev iX5_held : mI := (RX5, cX5_held, 2, (some .int), { frames := 1, cells := 0, slots := 0, locals := 21 })
theorem yv_X5_held : mYv yX5_held iX5_held 1 := ⟨⟨by decide +kernel, rfl, ⟨by decide +kernel, by decide +kernel, by decide +kernel⟩, wG_at 445 (by decide +kernel) rfl, wG_at 48 (by decide +kernel) rfl, rfl, rfl⟩, wG_at 443 (by decide +kernel) rfl, wG_at 444 (by decide +kernel) rfl⟩
abbrev iX5_hold : mI := (RX5, cX5_hold, 3, none, { frames := 1, cells := 0, slots := 0, locals := 21 })
theorem yv_X5_hold : mYv yX5_hold iX5_hold 2 := ⟨⟨by decide +kernel, rfl, ⟨by decide +kernel, by decide +kernel, by decide +kernel⟩, wG_at 449 (by decide +kernel) rfl, wG_at 48 (by decide +kernel) rfl, rfl, rfl⟩, wG_at 447 (by decide +kernel) rfl, wG_at 448 (by decide +kernel) rfl⟩
abbrev iX5_push : mI := (RX5, cX5_push, 4, (some .boolean), { frames := 1, cells := 0, slots := 0, locals := 22 })
theorem yv_X5_push : mYv yX5_push iX5_push 2 := ⟨⟨by decide +kernel, rfl, ⟨by decide +kernel, by decide +kernel, by decide +kernel⟩, wG_at 420 (by decide +kernel) rfl, wG_at 48 (by decide +kernel) rfl, rfl, rfl⟩, wG_at 418 (by decide +kernel) rfl, wG_at 419 (by decide +kernel) rfl⟩
abbrev iX5_make : mI := (RX5, cX5_make, 3, (some .boolean), { frames := 0, cells := 0, slots := 0, locals := 0 })
theorem yv_X5_make : mYv yX5_make iX5_make 2 := ⟨⟨by decide +kernel, rfl, ⟨by decide +kernel, by decide +kernel, by decide +kernel⟩, wG_at 424 (by decide +kernel) rfl, wG_at 48 (by decide +kernel) rfl, rfl, rfl⟩, wG_at 423 (by decide +kernel) rfl, wG_at 7 (by decide +kernel) rfl⟩
abbrev iX5_layDown : mI := (RX5, cX5_layDown, 7, (some .boolean), { frames := 1, cells := 0, slots := 0, locals := 22 })
theorem yv_X5_layDown : mYv yX5_layDown iX5_layDown 2 := ⟨⟨by decide +kernel, rfl, ⟨by decide +kernel, by decide +kernel, by decide +kernel⟩, wG_at 484 (by decide +kernel) rfl, wG_at 48 (by decide +kernel) rfl, rfl, rfl⟩, wG_at 482 (by decide +kernel) rfl, wG_at 483 (by decide +kernel) rfl⟩
abbrev iX6_beyond : mI := (RX6, cX6_beyond, 5, (some .int), { frames := 5, cells := 0, slots := 0, locals := 122 })
theorem yv_X6_beyond : mYv yX6_beyond iX6_beyond 1 := ⟨⟨by decide +kernel, rfl, ⟨by decide +kernel, by decide +kernel, by decide +kernel⟩, wG_at 520 (by decide +kernel) rfl, wG_at 50 (by decide +kernel) rfl, rfl, rfl⟩, wG_at 518 (by decide +kernel) rfl, wG_at 519 (by decide +kernel) rfl⟩
abbrev iX6_addsTo : mI := (RX6, cX6_addsTo, 7, (some .boolean), { frames := 4, cells := 0, slots := 0, locals := 96 })
theorem yv_X6_addsTo : mYv yX6_addsTo iX6_addsTo 1 := ⟨⟨by decide +kernel, rfl, ⟨by decide +kernel, by decide +kernel, by decide +kernel⟩, wG_at 524 (by decide +kernel) rfl, wG_at 50 (by decide +kernel) rfl, rfl, rfl⟩, wG_at 523 (by decide +kernel) rfl, wG_at 15 (by decide +kernel) rfl⟩
abbrev iX6_asked : mI := (RX6, cX6_asked, 2, (some .int), { frames := 0, cells := 0, slots := 0, locals := 0 })
theorem yv_X6_asked : mYv yX6_asked iX6_asked 1 := ⟨⟨by decide +kernel, rfl, ⟨by decide +kernel, by decide +kernel, by decide +kernel⟩, wG_at 537 (by decide +kernel) rfl, wG_at 50 (by decide +kernel) rfl, rfl, rfl⟩, wG_at 536 (by decide +kernel) rfl, wG_at 17 (by decide +kernel) rfl⟩
abbrev iX6_asksOf : mI := (RX6, cX6_asksOf, 7, (some .int), { frames := 3, cells := 0, slots := 0, locals := 70 })
theorem yv_X6_asksOf : mYv yX6_asksOf iX6_asksOf 1 := ⟨⟨by decide +kernel, rfl, ⟨by decide +kernel, by decide +kernel, by decide +kernel⟩, wG_at 530 (by decide +kernel) rfl, wG_at 50 (by decide +kernel) rfl, rfl, rfl⟩, wG_at 529 (by decide +kernel) rfl, wG_at 16 (by decide +kernel) rfl⟩
abbrev iX6_whatGoesOn : mI := (RX6, cX6_whatGoesOn, 3, (some .int), { frames := 0, cells := 0, slots := 0, locals := 0 })
theorem yv_X6_whatGoesOn : mYv yX6_whatGoesOn iX6_whatGoesOn 1 := ⟨⟨by decide +kernel, rfl, ⟨by decide +kernel, by decide +kernel, by decide +kernel⟩, wG_at 542 (by decide +kernel) rfl, wG_at 50 (by decide +kernel) rfl, rfl, rfl⟩, wG_at 541 (by decide +kernel) rfl, wG_at 18 (by decide +kernel) rfl⟩
abbrev iX6_pastHand : mI := (RX6, cX6_pastHand, 7, (some .int), { frames := 2, cells := 0, slots := 0, locals := 44 })
theorem yv_X6_pastHand : mYv yX6_pastHand iX6_pastHand 2 := ⟨⟨by decide +kernel, rfl, ⟨by decide +kernel, by decide +kernel, by decide +kernel⟩, wG_at 547 (by decide +kernel) rfl, wG_at 50 (by decide +kernel) rfl, rfl, rfl⟩, wG_at 546 (by decide +kernel) rfl, wG_at 19 (by decide +kernel) rfl⟩
abbrev iX6_goings : mI := (RX6, cX6_goings, 4, (some .int), { frames := 3, cells := 0, slots := 0, locals := 65 })
theorem yv_X6_goings : mYv yX6_goings iX6_goings 1 := ⟨⟨by decide +kernel, rfl, ⟨by decide +kernel, by decide +kernel, by decide +kernel⟩, wG_at 561 (by decide +kernel) rfl, wG_at 50 (by decide +kernel) rfl, rfl, rfl⟩, wG_at 559 (by decide +kernel) rfl, wG_at 560 (by decide +kernel) rfl⟩
abbrev iX6_counted : mI := (RX6, cX6_counted, 2, (some .int), { frames := 0, cells := 0, slots := 0, locals := 0 })
theorem yv_X6_counted : mYv yX6_counted iX6_counted 1 := ⟨⟨by decide +kernel, rfl, ⟨by decide +kernel, by decide +kernel, by decide +kernel⟩, wG_at 569 (by decide +kernel) rfl, wG_at 50 (by decide +kernel) rfl, rfl, rfl⟩, wG_at 568 (by decide +kernel) rfl, wG_at 22 (by decide +kernel) rfl⟩
abbrev iX6_goingsOf : mI := (RX6, cX6_goingsOf, 4, (some .int), { frames := 2, cells := 0, slots := 0, locals := 42 })
theorem yv_X6_goingsOf : mYv yX6_goingsOf iX6_goingsOf 1 := ⟨⟨by decide +kernel, rfl, ⟨by decide +kernel, by decide +kernel, by decide +kernel⟩, wG_at 565 (by decide +kernel) rfl, wG_at 50 (by decide +kernel) rfl, rfl, rfl⟩, wG_at 564 (by decide +kernel) rfl, wG_at 21 (by decide +kernel) rfl⟩
abbrev iX7_say : mI := (RX7, cX7_say, 2, (some .int), { frames := 1, cells := 0, slots := 0, locals := 21 })
theorem yv_X7_say : mYv yX7_say iX7_say 1 := ⟨⟨by decide +kernel, rfl, ⟨by decide +kernel, by decide +kernel, by decide +kernel⟩, wG_at 256 (by decide +kernel) rfl, wG_at 43 (by decide +kernel) rfl, rfl, rfl⟩, wG_at 254 (by decide +kernel) rfl, wG_at 255 (by decide +kernel) rfl⟩
abbrev iX7_wipe : mI := (RX7, cX7_wipe, 2, (some .int), { frames := 0, cells := 0, slots := 0, locals := 0 })
theorem yv_X7_wipe : mYv yX7_wipe iX7_wipe 0 := ⟨⟨by decide +kernel, rfl, ⟨by decide +kernel, by decide +kernel, by decide +kernel⟩, wG_at 264 (by decide +kernel) rfl, wG_at 43 (by decide +kernel) rfl, rfl, rfl⟩, wG_at 262 (by decide +kernel) rfl, wG_at 263 (by decide +kernel) rfl⟩
abbrev iX7_fault : mI := (RX7, cX7_fault, 2, (some .int), { frames := 3, cells := 0, slots := 0, locals := 67 })
theorem yv_X7_fault : mYv yX7_fault iX7_fault 1 := ⟨⟨by decide +kernel, rfl, ⟨by decide +kernel, by decide +kernel, by decide +kernel⟩, wG_at 268 (by decide +kernel) rfl, wG_at 43 (by decide +kernel) rfl, rfl, rfl⟩, wG_at 266 (by decide +kernel) rfl, wG_at 267 (by decide +kernel) rfl⟩
abbrev iX7_text : mI := (RX7, cX7_text, 2, (some .int), { frames := 5, cells := 0, slots := 0, locals := 112 })
theorem yv_X7_text : mYv yX7_text iX7_text 1 := ⟨⟨by decide +kernel, rfl, ⟨by decide +kernel, by decide +kernel, by decide +kernel⟩, wG_at 293 (by decide +kernel) rfl, wG_at 43 (by decide +kernel) rfl, rfl, rfl⟩, wG_at 291 (by decide +kernel) rfl, wG_at 292 (by decide +kernel) rfl⟩
abbrev iX7_clause : mI := (RX7, cX7_clause, 3, (some .int), { frames := 5, cells := 0, slots := 0, locals := 112 })
theorem yv_X7_clause : mYv yX7_clause iX7_clause 2 := ⟨⟨by decide +kernel, rfl, ⟨by decide +kernel, by decide +kernel, by decide +kernel⟩, wG_at 330 (by decide +kernel) rfl, wG_at 43 (by decide +kernel) rfl, rfl, rfl⟩, wG_at 328 (by decide +kernel) rfl, wG_at 329 (by decide +kernel) rfl⟩
abbrev iX7_drop : mI := (RX7, cX7_drop, 5, (some .int), { frames := 1, cells := 0, slots := 0, locals := 21 })
theorem yv_X7_drop : mYv yX7_drop iX7_drop 2 := ⟨⟨by decide +kernel, rfl, ⟨by decide +kernel, by decide +kernel, by decide +kernel⟩, wG_at 340 (by decide +kernel) rfl, wG_at 43 (by decide +kernel) rfl, rfl, rfl⟩, wG_at 338 (by decide +kernel) rfl, wG_at 339 (by decide +kernel) rfl⟩
abbrev iX7_has : mI := (RX7, cX7_has, 2, (some .int), { frames := 2, cells := 0, slots := 0, locals := 44 })
theorem yv_X7_has : mYv yX7_has iX7_has 1 := ⟨⟨by decide +kernel, rfl, ⟨by decide +kernel, by decide +kernel, by decide +kernel⟩, wG_at 352 (by decide +kernel) rfl, wG_at 43 (by decide +kernel) rfl, rfl, rfl⟩, wG_at 350 (by decide +kernel) rfl, wG_at 351 (by decide +kernel) rfl⟩
abbrev iX7_reply : mI := (RX7, cX7_reply, 2, (some .int), { frames := 1, cells := 0, slots := 0, locals := 21 })
theorem yv_X7_reply : mYv yX7_reply iX7_reply 1 := ⟨⟨by decide +kernel, rfl, ⟨by decide +kernel, by decide +kernel, by decide +kernel⟩, wG_at 362 (by decide +kernel) rfl, wG_at 43 (by decide +kernel) rfl, rfl, rfl⟩, wG_at 360 (by decide +kernel) rfl, wG_at 361 (by decide +kernel) rfl⟩
abbrev iX7_mute : mI := (RX7, cX7_mute, 2, (some .int), { frames := 1, cells := 0, slots := 0, locals := 22 })
theorem yv_X7_mute : mYv yX7_mute iX7_mute 0 := ⟨⟨by decide +kernel, rfl, ⟨by decide +kernel, by decide +kernel, by decide +kernel⟩, wG_at 373 (by decide +kernel) rfl, wG_at 43 (by decide +kernel) rfl, rfl, rfl⟩, wG_at 371 (by decide +kernel) rfl, wG_at 372 (by decide +kernel) rfl⟩
abbrev iX7_run : mI := (RX7, cX7_run, 4, (some .int), { frames := 5, cells := 0, slots := 0, locals := 117 })
theorem yv_X7_run : mYv yX7_run iX7_run 3 := ⟨⟨by decide +kernel, rfl, ⟨by decide +kernel, by decide +kernel, by decide +kernel⟩, wG_at 381 (by decide +kernel) rfl, wG_at 43 (by decide +kernel) rfl, rfl, rfl⟩, wG_at 379 (by decide +kernel) rfl, wG_at 380 (by decide +kernel) rfl⟩
abbrev iX7_who : mI := (RX7, cX7_who, 4, (some .int), { frames := 5, cells := 0, slots := 0, locals := 117 })
theorem yv_X7_who : mYv yX7_who iX7_who 3 := ⟨⟨by decide +kernel, rfl, ⟨by decide +kernel, by decide +kernel, by decide +kernel⟩, wG_at 508 (by decide +kernel) rfl, wG_at 43 (by decide +kernel) rfl, rfl, rfl⟩, wG_at 506 (by decide +kernel) rfl, wG_at 507 (by decide +kernel) rfl⟩
abbrev iX7_may : mI := (RX7, cX7_may, 3, (some .int), { frames := 6, cells := 0, slots := 0, locals := 146 })
theorem yv_X7_may : mYv yX7_may iX7_may 2 := ⟨⟨by decide +kernel, rfl, ⟨by decide +kernel, by decide +kernel, by decide +kernel⟩, wG_at 516 (by decide +kernel) rfl, wG_at 43 (by decide +kernel) rfl, rfl, rfl⟩, wG_at 514 (by decide +kernel) rfl, wG_at 515 (by decide +kernel) rfl⟩
abbrev iX7_often : mI := (RX7, cX7_often, 3, (some .int), { frames := 4, cells := 0, slots := 0, locals := 88 })
theorem yv_X7_often : mYv yX7_often iX7_often 2 := ⟨⟨by decide +kernel, rfl, ⟨by decide +kernel, by decide +kernel, by decide +kernel⟩, wG_at 557 (by decide +kernel) rfl, wG_at 43 (by decide +kernel) rfl, rfl, rfl⟩, wG_at 555 (by decide +kernel) rfl, wG_at 556 (by decide +kernel) rfl⟩
abbrev iX7_all : mI := (RX7, cX7_all, 5, (some .int), { frames := 6, cells := 0, slots := 0, locals := 146 })
theorem yv_X7_all : mYv yX7_all iX7_all 4 := ⟨⟨by decide +kernel, rfl, ⟨by decide +kernel, by decide +kernel, by decide +kernel⟩, wG_at 576 (by decide +kernel) rfl, wG_at 43 (by decide +kernel) rfl, rfl, rfl⟩, wG_at 574 (by decide +kernel) rfl, wG_at 575 (by decide +kernel) rfl⟩
abbrev iX7_row : mI := (RX7, cX7_row, 8, (some .int), { frames := 6, cells := 0, slots := 0, locals := 146 })
theorem yv_X7_row : mYv yX7_row iX7_row 6 := ⟨⟨by decide +kernel, rfl, ⟨by decide +kernel, by decide +kernel, by decide +kernel⟩, wG_at 598 (by decide +kernel) rfl, wG_at 43 (by decide +kernel) rfl, rfl, rfl⟩, wG_at 596 (by decide +kernel) rfl, wG_at 597 (by decide +kernel) rfl⟩
abbrev iX7_apart : mI := (RX7, cX7_apart, 9, (some .int), { frames := 6, cells := 0, slots := 0, locals := 146 })
theorem yv_X7_apart : mYv yX7_apart iX7_apart 7 := ⟨⟨by decide +kernel, rfl, ⟨by decide +kernel, by decide +kernel, by decide +kernel⟩, wG_at 606 (by decide +kernel) rfl, wG_at 43 (by decide +kernel) rfl, rfl, rfl⟩, wG_at 604 (by decide +kernel) rfl, wG_at 605 (by decide +kernel) rfl⟩
abbrev iX7_told : mI := (RX7, cX7_told, 2, (some .int), { frames := 1, cells := 0, slots := 0, locals := 21 })
theorem yv_X7_told : mYv yX7_told iX7_told 1 := ⟨⟨by decide +kernel, rfl, ⟨by decide +kernel, by decide +kernel, by decide +kernel⟩, wG_at 618 (by decide +kernel) rfl, wG_at 43 (by decide +kernel) rfl, rfl, rfl⟩, wG_at 616 (by decide +kernel) rfl, wG_at 617 (by decide +kernel) rfl⟩
abbrev iX7_isText : mI := (RX7, cX7_isText, 1, (some .boolean), { frames := 0, cells := 0, slots := 0, locals := 0 })
theorem ys_X7_isText : mYs yX7_isText iX7_isText 1 := ⟨⟨by decide +kernel, rfl, ⟨by decide +kernel, by decide +kernel, by decide +kernel⟩, wG_at 296 (by decide +kernel) rfl, wG_at 43 (by decide +kernel) rfl, rfl, rfl⟩, wG_at 295 (by decide +kernel) rfl⟩
abbrev iX7_isNumber : mI := (RX7, cX7_isNumber, 1, (some .boolean), { frames := 0, cells := 0, slots := 0, locals := 0 })
theorem ys_X7_isNumber : mYs yX7_isNumber iX7_isNumber 1 := ⟨⟨by decide +kernel, rfl, ⟨by decide +kernel, by decide +kernel, by decide +kernel⟩, wG_at 365 (by decide +kernel) rfl, wG_at 43 (by decide +kernel) rfl, rfl, rfl⟩, wG_at 364 (by decide +kernel) rfl⟩
abbrev iX7_isPart : mI := (RX7, cX7_isPart, 2, (some .boolean), { frames := 0, cells := 0, slots := 0, locals := 0 })
theorem ys_X7_isPart : mYs yX7_isPart iX7_isPart 2 := ⟨⟨by decide +kernel, rfl, ⟨by decide +kernel, by decide +kernel, by decide +kernel⟩, wG_at 333 (by decide +kernel) rfl, wG_at 43 (by decide +kernel) rfl, rfl, rfl⟩, wG_at 332 (by decide +kernel) rfl⟩
abbrev iX7_areRows : mI := (RX7, cX7_areRows, 2, (some .boolean), { frames := 0, cells := 0, slots := 0, locals := 0 })
theorem ys_X7_areRows : mYs yX7_areRows iX7_areRows 2 := ⟨⟨by decide +kernel, rfl, ⟨by decide +kernel, by decide +kernel, by decide +kernel⟩, wG_at 579 (by decide +kernel) rfl, wG_at 43 (by decide +kernel) rfl, rfl, rfl⟩, wG_at 578 (by decide +kernel) rfl⟩
abbrev iX7_isClause : mI := (RX7, cX7_isClause, 3, (some .boolean), { frames := 1, cells := 0, slots := 0, locals := 21 })
theorem yv_X7_isClause : mYv yX7_isClause iX7_isClause 2 := ⟨⟨by decide +kernel, rfl, ⟨by decide +kernel, by decide +kernel, by decide +kernel⟩, wG_at 553 (by decide +kernel) rfl, wG_at 43 (by decide +kernel) rfl, rfl, rfl⟩, wG_at 552 (by decide +kernel) rfl, wG_at 20 (by decide +kernel) rfl⟩
abbrev iX7_pageOf : mI := (RX7, cX7_pageOf, 2, (some .int), { frames := 0, cells := 0, slots := 0, locals := 0 })
theorem ys_X7_pageOf : mYs yX7_pageOf iX7_pageOf 2 := ⟨⟨by decide +kernel, rfl, ⟨by decide +kernel, by decide +kernel, by decide +kernel⟩, wG_at 336 (by decide +kernel) rfl, wG_at 43 (by decide +kernel) rfl, rfl, rfl⟩, wG_at 335 (by decide +kernel) rfl⟩
abbrev iX7_textsOf : mI := (RX7, cX7_textsOf, 1, (some .int), { frames := 0, cells := 0, slots := 0, locals := 0 })
theorem ys_X7_textsOf : mYs yX7_textsOf iX7_textsOf 1 := ⟨⟨by decide +kernel, rfl, ⟨by decide +kernel, by decide +kernel, by decide +kernel⟩, wG_at 282 (by decide +kernel) rfl, wG_at 43 (by decide +kernel) rfl, rfl, rfl⟩, wG_at 281 (by decide +kernel) rfl⟩
abbrev iX7_becomes : mI := (RX7, cX7_becomes, 3, (some .int), { frames := 4, cells := 0, slots := 0, locals := 90 })
theorem yv_X7_becomes : mYv yX7_becomes iX7_becomes 2 := ⟨⟨by decide +kernel, rfl, ⟨by decide +kernel, by decide +kernel, by decide +kernel⟩, wG_at 300 (by decide +kernel) rfl, wG_at 43 (by decide +kernel) rfl, rfl, rfl⟩, wG_at 299 (by decide +kernel) rfl, wG_at 1 (by decide +kernel) rfl⟩
abbrev iX7_goThrough : mI := (RX7, cX7_goThrough, 10, (some .int), { frames := 5, cells := 0, slots := 0, locals := 117 })
theorem yv_X7_goThrough : mYv yX7_goThrough iX7_goThrough 5 := ⟨⟨by decide +kernel, rfl, ⟨by decide +kernel, by decide +kernel, by decide +kernel⟩, wG_at 583 (by decide +kernel) rfl, wG_at 43 (by decide +kernel) rfl, rfl, rfl⟩, wG_at 582 (by decide +kernel) rfl, wG_at 23 (by decide +kernel) rfl⟩
abbrev iX7_differ : mI := (RX7, cX7_differ, 10, (some .boolean), { frames := 5, cells := 0, slots := 0, locals := 117 })
theorem yv_X7_differ : mYv yX7_differ iX7_differ 5 := ⟨⟨by decide +kernel, rfl, ⟨by decide +kernel, by decide +kernel, by decide +kernel⟩, wG_at 610 (by decide +kernel) rfl, wG_at 43 (by decide +kernel) rfl, rfl, rfl⟩, wG_at 609 (by decide +kernel) rfl, wG_at 24 (by decide +kernel) rfl⟩
abbrev iX8_in : mI := (RX8, cX8_in, 3, (some .boolean), { frames := 0, cells := 0, slots := 0, locals := 0 })
theorem ys_X8_in : mYs yX8_in iX8_in 3 := ⟨⟨by decide +kernel, rfl, ⟨by decide +kernel, by decide +kernel, by decide +kernel⟩, wG_at 764 (by decide +kernel) rfl, wG_at 51 (by decide +kernel) rfl, rfl, rfl⟩, wG_at 763 (by decide +kernel) rfl⟩
abbrev iX8_isFour : mI := (RX8, cX8_isFour, 1, (some .boolean), { frames := 1, cells := 0, slots := 0, locals := 22 })
theorem ys_X8_isFour : mYs yX8_isFour iX8_isFour 1 := ⟨⟨by decide +kernel, rfl, ⟨by decide +kernel, by decide +kernel, by decide +kernel⟩, wG_at 786 (by decide +kernel) rfl, wG_at 51 (by decide +kernel) rfl, rfl, rfl⟩, wG_at 785 (by decide +kernel) rfl⟩
abbrev iX8_say : mI := (RX8, cX8_say, 2, (some .int), { frames := 1, cells := 0, slots := 0, locals := 22 })
theorem yv_X8_say : mYv yX8_say iX8_say 1 := ⟨⟨by decide +kernel, rfl, ⟨by decide +kernel, by decide +kernel, by decide +kernel⟩, wG_at 761 (by decide +kernel) rfl, wG_at 51 (by decide +kernel) rfl, rfl, rfl⟩, wG_at 759 (by decide +kernel) rfl, wG_at 760 (by decide +kernel) rfl⟩
abbrev iX8_wipe : mI := (RX8, cX8_wipe, 2, (some .int), { frames := 0, cells := 0, slots := 0, locals := 0 })
theorem yv_X8_wipe : mYv yX8_wipe iX8_wipe 0 := ⟨⟨by decide +kernel, rfl, ⟨by decide +kernel, by decide +kernel, by decide +kernel⟩, wG_at 768 (by decide +kernel) rfl, wG_at 51 (by decide +kernel) rfl, rfl, rfl⟩, wG_at 766 (by decide +kernel) rfl, wG_at 767 (by decide +kernel) rfl⟩
abbrev iX8_partsOf : mI := (RX8, cX8_partsOf, 4, (some .int), { frames := 1, cells := 0, slots := 0, locals := 22 })
theorem ys_X8_partsOf : mYs yX8_partsOf iX8_partsOf 2 := ⟨⟨by decide +kernel, rfl, ⟨by decide +kernel, by decide +kernel, by decide +kernel⟩, wG_at 779 (by decide +kernel) rfl, wG_at 51 (by decide +kernel) rfl, rfl, rfl⟩, wG_at 778 (by decide +kernel) rfl⟩
abbrev iX8_faultOf : mI := (RX8, cX8_faultOf, 7, (some .int), { frames := 2, cells := 0, slots := 0, locals := 45 })
theorem yv_X8_faultOf : mYv yX8_faultOf iX8_faultOf 1 := ⟨⟨by decide +kernel, rfl, ⟨by decide +kernel, by decide +kernel, by decide +kernel⟩, wG_at 776 (by decide +kernel) rfl, wG_at 51 (by decide +kernel) rfl, rfl, rfl⟩, wG_at 775 (by decide +kernel) rfl, wG_at 25 (by decide +kernel) rfl⟩
abbrev iX8_fault : mI := (RX8, cX8_fault, 2, (some .int), { frames := 3, cells := 0, slots := 0, locals := 71 })
theorem yv_X8_fault : mYv yX8_fault iX8_fault 1 := ⟨⟨by decide +kernel, rfl, ⟨by decide +kernel, by decide +kernel, by decide +kernel⟩, wG_at 772 (by decide +kernel) rfl, wG_at 51 (by decide +kernel) rfl, rfl, rfl⟩, wG_at 770 (by decide +kernel) rfl, wG_at 771 (by decide +kernel) rfl⟩
abbrev iX8_keep : mI := (RX8, cX8_keep, 8, (some .int), { frames := 2, cells := 0, slots := 0, locals := 45 })
theorem yv_X8_keep : mYv yX8_keep iX8_keep 1 := ⟨⟨by decide +kernel, rfl, ⟨by decide +kernel, by decide +kernel, by decide +kernel⟩, wG_at 790 (by decide +kernel) rfl, wG_at 51 (by decide +kernel) rfl, rfl, rfl⟩, wG_at 789 (by decide +kernel) rfl, wG_at 26 (by decide +kernel) rfl⟩
abbrev iX8_text : mI := (RX8, cX8_text, 2, (some .int), { frames := 3, cells := 0, slots := 0, locals := 72 })
theorem yv_X8_text : mYv yX8_text iX8_text 1 := ⟨⟨by decide +kernel, rfl, ⟨by decide +kernel, by decide +kernel, by decide +kernel⟩, wG_at 783 (by decide +kernel) rfl, wG_at 51 (by decide +kernel) rfl, rfl, rfl⟩, wG_at 781 (by decide +kernel) rfl, wG_at 782 (by decide +kernel) rfl⟩
abbrev iX8_clauseOf : mI := (RX8, cX8_clauseOf, 2, (some .int), { frames := 0, cells := 0, slots := 0, locals := 0 })
theorem ys_X8_clauseOf : mYs yX8_clauseOf iX8_clauseOf 2 := ⟨⟨by decide +kernel, rfl, ⟨by decide +kernel, by decide +kernel, by decide +kernel⟩, wG_at 797 (by decide +kernel) rfl, wG_at 51 (by decide +kernel) rfl, rfl, rfl⟩, wG_at 796 (by decide +kernel) rfl⟩
abbrev iX8_clause : mI := (RX8, cX8_clause, 3, (some .int), { frames := 3, cells := 0, slots := 0, locals := 72 })
theorem yv_X8_clause : mYv yX8_clause iX8_clause 2 := ⟨⟨by decide +kernel, rfl, ⟨by decide +kernel, by decide +kernel, by decide +kernel⟩, wG_at 794 (by decide +kernel) rfl, wG_at 51 (by decide +kernel) rfl, rfl, rfl⟩, wG_at 792 (by decide +kernel) rfl, wG_at 793 (by decide +kernel) rfl⟩
abbrev iX8_drop : mI := (RX8, cX8_drop, 4, (some .int), { frames := 2, cells := 0, slots := 0, locals := 42 })
theorem yv_X8_drop : mYv yX8_drop iX8_drop 2 := ⟨⟨by decide +kernel, rfl, ⟨by decide +kernel, by decide +kernel, by decide +kernel⟩, wG_at 801 (by decide +kernel) rfl, wG_at 51 (by decide +kernel) rfl, rfl, rfl⟩, wG_at 799 (by decide +kernel) rfl, wG_at 800 (by decide +kernel) rfl⟩
abbrev iX8_hasClause : mI := (RX8, cX8_hasClause, 3, (some .boolean), { frames := 1, cells := 0, slots := 0, locals := 21 })
theorem yv_X8_hasClause : mYv yX8_hasClause iX8_hasClause 2 := ⟨⟨by decide +kernel, rfl, ⟨by decide +kernel, by decide +kernel, by decide +kernel⟩, wG_at 809 (by decide +kernel) rfl, wG_at 51 (by decide +kernel) rfl, rfl, rfl⟩, wG_at 808 (by decide +kernel) rfl, wG_at 27 (by decide +kernel) rfl⟩
abbrev iX8_has : mI := (RX8, cX8_has, 4, (some .int), { frames := 2, cells := 0, slots := 0, locals := 43 })
theorem yv_X8_has : mYv yX8_has iX8_has 1 := ⟨⟨by decide +kernel, rfl, ⟨by decide +kernel, by decide +kernel, by decide +kernel⟩, wG_at 805 (by decide +kernel) rfl, wG_at 51 (by decide +kernel) rfl, rfl, rfl⟩, wG_at 803 (by decide +kernel) rfl, wG_at 804 (by decide +kernel) rfl⟩
abbrev iX8_reply : mI := (RX8, cX8_reply, 2, (some .int), { frames := 1, cells := 0, slots := 0, locals := 22 })
theorem yv_X8_reply : mYv yX8_reply iX8_reply 1 := ⟨⟨by decide +kernel, rfl, ⟨by decide +kernel, by decide +kernel, by decide +kernel⟩, wG_at 813 (by decide +kernel) rfl, wG_at 51 (by decide +kernel) rfl, rfl, rfl⟩, wG_at 811 (by decide +kernel) rfl, wG_at 812 (by decide +kernel) rfl⟩
abbrev iX8_mute : mI := (RX8, cX8_mute, 2, (some .int), { frames := 0, cells := 0, slots := 0, locals := 0 })
theorem yv_X8_mute : mYv yX8_mute iX8_mute 0 := ⟨⟨by decide +kernel, rfl, ⟨by decide +kernel, by decide +kernel, by decide +kernel⟩, wG_at 817 (by decide +kernel) rfl, wG_at 51 (by decide +kernel) rfl, rfl, rfl⟩, wG_at 815 (by decide +kernel) rfl, wG_at 816 (by decide +kernel) rfl⟩
abbrev iX8_wait : mI := (RX8, cX8_wait, 6, none, { frames := 0, cells := 0, slots := 0, locals := 0 })
theorem yv_X8_wait : mYv yX8_wait iX8_wait 5 := ⟨⟨by decide +kernel, rfl, ⟨by decide +kernel, by decide +kernel, by decide +kernel⟩, wG_at 841 (by decide +kernel) rfl, wG_at 51 (by decide +kernel) rfl, rfl, rfl⟩, wG_at 840 (by decide +kernel) rfl, wG_at 32 (by decide +kernel) rfl⟩
abbrev iX8_lay : mI := (RX8, cX8_lay, 3, none, { frames := 0, cells := 0, slots := 0, locals := 0 })
theorem yv_X8_lay : mYv yX8_lay iX8_lay 2 := ⟨⟨by decide +kernel, rfl, ⟨by decide +kernel, by decide +kernel, by decide +kernel⟩, wG_at 837 (by decide +kernel) rfl, wG_at 51 (by decide +kernel) rfl, rfl, rfl⟩, wG_at 836 (by decide +kernel) rfl, wG_at 31 (by decide +kernel) rfl⟩
abbrev iX8_act : mI := (RX8, cX8_act, 3, (some .int), { frames := 0, cells := 0, slots := 0, locals := 0 })
theorem ys_X8_act : mYs yX8_act iX8_act 3 := ⟨⟨by decide +kernel, rfl, ⟨by decide +kernel, by decide +kernel, by decide +kernel⟩, wG_at 868 (by decide +kernel) rfl, wG_at 51 (by decide +kernel) rfl, rfl, rfl⟩, wG_at 867 (by decide +kernel) rfl⟩
abbrev iX8_partOf : mI := (RX8, cX8_partOf, 5, (some .int), { frames := 0, cells := 0, slots := 0, locals := 0 })
theorem yv_X8_partOf : mYv yX8_partOf iX8_partOf 2 := ⟨⟨by decide +kernel, rfl, ⟨by decide +kernel, by decide +kernel, by decide +kernel⟩, wG_at 857 (by decide +kernel) rfl, wG_at 51 (by decide +kernel) rfl, rfl, rfl⟩, wG_at 856 (by decide +kernel) rfl, wG_at 36 (by decide +kernel) rfl⟩
abbrev iX8_end : mI := (RX8, cX8_end, 3, (some .int), { frames := 4, cells := 0, slots := 0, locals := 88 })
theorem yv_X8_end : mYv yX8_end iX8_end 2 := ⟨⟨by decide +kernel, rfl, ⟨by decide +kernel, by decide +kernel, by decide +kernel⟩, wG_at 829 (by decide +kernel) rfl, wG_at 51 (by decide +kernel) rfl, rfl, rfl⟩, wG_at 828 (by decide +kernel) rfl, wG_at 29 (by decide +kernel) rfl⟩
abbrev iX8_begin : mI := (RX8, cX8_begin, 2, none, { frames := 1, cells := 0, slots := 0, locals := 25 })
theorem yv_X8_begin : mYv yX8_begin iX8_begin 0 := ⟨⟨by decide +kernel, rfl, ⟨by decide +kernel, by decide +kernel, by decide +kernel⟩, wG_at 833 (by decide +kernel) rfl, wG_at 51 (by decide +kernel) rfl, rfl, rfl⟩, wG_at 832 (by decide +kernel) rfl, wG_at 30 (by decide +kernel) rfl⟩
abbrev iX8_work : mI := (RX8, cX8_work, 4, none, { frames := 0, cells := 0, slots := 0, locals := 0 })
theorem yv_X8_work : mYv yX8_work iX8_work 3 := ⟨⟨by decide +kernel, rfl, ⟨by decide +kernel, by decide +kernel, by decide +kernel⟩, wG_at 849 (by decide +kernel) rfl, wG_at 51 (by decide +kernel) rfl, rfl, rfl⟩, wG_at 848 (by decide +kernel) rfl, wG_at 34 (by decide +kernel) rfl⟩
abbrev iX8_leave : mI := (RX8, cX8_leave, 2, none, { frames := 2, cells := 0, slots := 0, locals := 43 })
theorem yv_X8_leave : mYv yX8_leave iX8_leave 0 := ⟨⟨by decide +kernel, rfl, ⟨by decide +kernel, by decide +kernel, by decide +kernel⟩, wG_at 845 (by decide +kernel) rfl, wG_at 51 (by decide +kernel) rfl, rfl, rfl⟩, wG_at 844 (by decide +kernel) rfl, wG_at 33 (by decide +kernel) rfl⟩
abbrev iX8_come : mI := (RX8, cX8_come, 4, none, { frames := 3, cells := 0, slots := 0, locals := 65 })
theorem yv_X8_come : mYv yX8_come iX8_come 0 := ⟨⟨by decide +kernel, rfl, ⟨by decide +kernel, by decide +kernel, by decide +kernel⟩, wG_at 853 (by decide +kernel) rfl, wG_at 51 (by decide +kernel) rfl, rfl, rfl⟩, wG_at 852 (by decide +kernel) rfl, wG_at 35 (by decide +kernel) rfl⟩
abbrev iX8_ask : mI := (RX8, cX8_ask, 3, none, { frames := 2, cells := 0, slots := 0, locals := 43 })
theorem yv_X8_ask : mYv yX8_ask iX8_ask 1 := ⟨⟨by decide +kernel, rfl, ⟨by decide +kernel, by decide +kernel, by decide +kernel⟩, wG_at 865 (by decide +kernel) rfl, wG_at 51 (by decide +kernel) rfl, rfl, rfl⟩, wG_at 864 (by decide +kernel) rfl, wG_at 38 (by decide +kernel) rfl⟩
abbrev iX8_goOn : mI := (RX8, cX8_goOn, 4, none, { frames := 1, cells := 0, slots := 0, locals := 22 })
theorem yv_X8_goOn : mYv yX8_goOn iX8_goOn 1 := ⟨⟨by decide +kernel, rfl, ⟨by decide +kernel, by decide +kernel, by decide +kernel⟩, wG_at 861 (by decide +kernel) rfl, wG_at 51 (by decide +kernel) rfl, rfl, rfl⟩, wG_at 860 (by decide +kernel) rfl, wG_at 37 (by decide +kernel) rfl⟩
abbrev iX8_giveReplies : mI := (RX8, cX8_giveReplies, 2, none, { frames := 0, cells := 0, slots := 0, locals := 0 })
theorem yv_X8_giveReplies : mYv yX8_giveReplies iX8_giveReplies 0 := ⟨⟨by decide +kernel, rfl, ⟨by decide +kernel, by decide +kernel, by decide +kernel⟩, wG_at 825 (by decide +kernel) rfl, wG_at 51 (by decide +kernel) rfl, rfl, rfl⟩, wG_at 824 (by decide +kernel) rfl, wG_at 28 (by decide +kernel) rfl⟩
abbrev iX8_run : mI := (RX8, cX8_run, 5, (some .int), { frames := 5, cells := 0, slots := 0, locals := 110 })
theorem yv_X8_run : mYv yX8_run iX8_run 3 := ⟨⟨by decide +kernel, rfl, ⟨by decide +kernel, by decide +kernel, by decide +kernel⟩, wG_at 821 (by decide +kernel) rfl, wG_at 51 (by decide +kernel) rfl, rfl, rfl⟩, wG_at 819 (by decide +kernel) rfl, wG_at 820 (by decide +kernel) rfl⟩
abbrev iX8_who : mI := (RX8, cX8_who, 4, (some .int), { frames := 5, cells := 0, slots := 0, locals := 110 })
theorem yv_X8_who : mYv yX8_who iX8_who 3 := ⟨⟨by decide +kernel, rfl, ⟨by decide +kernel, by decide +kernel, by decide +kernel⟩, wG_at 872 (by decide +kernel) rfl, wG_at 51 (by decide +kernel) rfl, rfl, rfl⟩, wG_at 870 (by decide +kernel) rfl, wG_at 871 (by decide +kernel) rfl⟩
abbrev iX8_mayOf : mI := (RX8, cX8_mayOf, 13, (some .int), { frames := 2, cells := 0, slots := 0, locals := 45 })
theorem yv_X8_mayOf : mYv yX8_mayOf iX8_mayOf 1 := ⟨⟨by decide +kernel, rfl, ⟨by decide +kernel, by decide +kernel, by decide +kernel⟩, wG_at 884 (by decide +kernel) rfl, wG_at 51 (by decide +kernel) rfl, rfl, rfl⟩, wG_at 883 (by decide +kernel) rfl, wG_at 40 (by decide +kernel) rfl⟩
abbrev iX8_layMay : mI := (RX8, cX8_layMay, 5, none, { frames := 3, cells := 0, slots := 0, locals := 77 })
theorem yv_X8_layMay : mYv yX8_layMay iX8_layMay 0 := ⟨⟨by decide +kernel, rfl, ⟨by decide +kernel, by decide +kernel, by decide +kernel⟩, wG_at 880 (by decide +kernel) rfl, wG_at 51 (by decide +kernel) rfl, rfl, rfl⟩, wG_at 879 (by decide +kernel) rfl, wG_at 39 (by decide +kernel) rfl⟩
abbrev iX8_may : mI := (RX8, cX8_may, 4, (some .int), { frames := 4, cells := 0, slots := 0, locals := 101 })
theorem yv_X8_may : mYv yX8_may iX8_may 2 := ⟨⟨by decide +kernel, rfl, ⟨by decide +kernel, by decide +kernel, by decide +kernel⟩, wG_at 876 (by decide +kernel) rfl, wG_at 51 (by decide +kernel) rfl, rfl, rfl⟩, wG_at 874 (by decide +kernel) rfl, wG_at 875 (by decide +kernel) rfl⟩
abbrev iX8_often : mI := (RX8, cX8_often, 14, (some .int), { frames := 2, cells := 0, slots := 0, locals := 45 })
theorem yv_X8_often : mYv yX8_often iX8_often 2 := ⟨⟨by decide +kernel, rfl, ⟨by decide +kernel, by decide +kernel, by decide +kernel⟩, wG_at 888 (by decide +kernel) rfl, wG_at 51 (by decide +kernel) rfl, rfl, rfl⟩, wG_at 886 (by decide +kernel) rfl, wG_at 887 (by decide +kernel) rfl⟩
abbrev iX8_giveRow : mI := (RX8, cX8_giveRow, 6, none, { frames := 0, cells := 0, slots := 0, locals := 0 })
theorem yv_X8_giveRow : mYv yX8_giveRow iX8_giveRow 3 := ⟨⟨by decide +kernel, rfl, ⟨by decide +kernel, by decide +kernel, by decide +kernel⟩, wG_at 902 (by decide +kernel) rfl, wG_at 51 (by decide +kernel) rfl, rfl, rfl⟩, wG_at 901 (by decide +kernel) rfl, wG_at 41 (by decide +kernel) rfl⟩
abbrev iX8_rows : mI := (RX8, cX8_rows, 4, (some .int), { frames := 0, cells := 0, slots := 0, locals := 0 })
theorem ys_X8_rows : mYs yX8_rows iX8_rows 2 := ⟨⟨by decide +kernel, rfl, ⟨by decide +kernel, by decide +kernel, by decide +kernel⟩, wG_at 898 (by decide +kernel) rfl, wG_at 51 (by decide +kernel) rfl, rfl, rfl⟩, wG_at 897 (by decide +kernel) rfl⟩
abbrev iX8_areTold : mI := (RX8, cX8_areTold, 3, (some .boolean), { frames := 1, cells := 0, slots := 0, locals := 22 })
theorem ys_X8_areTold : mYs yX8_areTold iX8_areTold 3 := ⟨⟨by decide +kernel, rfl, ⟨by decide +kernel, by decide +kernel, by decide +kernel⟩, wG_at 895 (by decide +kernel) rfl, wG_at 51 (by decide +kernel) rfl, rfl, rfl⟩, wG_at 894 (by decide +kernel) rfl⟩
abbrev iX8_all : mI := (RX8, cX8_all, 7, (some .int), { frames := 5, cells := 0, slots := 0, locals := 110 })
theorem yv_X8_all : mYv yX8_all iX8_all 4 := ⟨⟨by decide +kernel, rfl, ⟨by decide +kernel, by decide +kernel, by decide +kernel⟩, wG_at 892 (by decide +kernel) rfl, wG_at 51 (by decide +kernel) rfl, rfl, rfl⟩, wG_at 890 (by decide +kernel) rfl, wG_at 891 (by decide +kernel) rfl⟩
abbrev iX8_row : mI := (RX8, cX8_row, 10, (some .int), { frames := 5, cells := 0, slots := 0, locals := 110 })
theorem yv_X8_row : mYv yX8_row iX8_row 6 := ⟨⟨by decide +kernel, rfl, ⟨by decide +kernel, by decide +kernel, by decide +kernel⟩, wG_at 906 (by decide +kernel) rfl, wG_at 51 (by decide +kernel) rfl, rfl, rfl⟩, wG_at 904 (by decide +kernel) rfl, wG_at 905 (by decide +kernel) rfl⟩
abbrev iX8_apart : mI := (RX8, cX8_apart, 14, (some .int), { frames := 5, cells := 0, slots := 0, locals := 110 })
theorem yv_X8_apart : mYv yX8_apart iX8_apart 7 := ⟨⟨by decide +kernel, rfl, ⟨by decide +kernel, by decide +kernel, by decide +kernel⟩, wG_at 910 (by decide +kernel) rfl, wG_at 51 (by decide +kernel) rfl, rfl, rfl⟩, wG_at 908 (by decide +kernel) rfl, wG_at 909 (by decide +kernel) rfl⟩
abbrev iX8_told : mI := (RX8, cX8_told, 2, (some .int), { frames := 1, cells := 0, slots := 0, locals := 22 })
theorem yv_X8_told : mYv yX8_told iX8_told 1 := ⟨⟨by decide +kernel, rfl, ⟨by decide +kernel, by decide +kernel, by decide +kernel⟩, wG_at 914 (by decide +kernel) rfl, wG_at 51 (by decide +kernel) rfl, rfl, rfl⟩, wG_at 912 (by decide +kernel) rfl, wG_at 913 (by decide +kernel) rfl⟩
theorem lk_X7_54 : mLk RX7 54 yX0_writeNought := Or.inl (wG_at 227 (by decide +kernel) rfl)
theorem lk_X7_58 : mLk RX7 58 yX2_add := Or.inl (wG_at 257 (by decide +kernel) rfl)
theorem lk_X7_66 : mLk RX7 66 yX2_firstFault := Or.inl (wG_at 269 (by decide +kernel) rfl)
theorem lk_X7_70 : mLk RX7 70 yX7_isText := Or.inl (wG_at 294 (by decide +kernel) rfl)
theorem lk_X7_73 : mLk RX7 73 yX7_becomes := Or.inl (wG_at 297 (by decide +kernel) rfl)
theorem lk_X7_77 : mLk RX7 77 yX7_isPart := Or.inl (wG_at 331 (by decide +kernel) rfl)
theorem lk_X7_81 : mLk RX7 81 yX7_pageOf := Or.inl (wG_at 334 (by decide +kernel) rfl)
theorem lk_X7_85 : mLk RX7 85 yX0_size := Or.inl (wG_at 341 (by decide +kernel) rfl)
theorem lk_X7_88 : mLk RX7 88 yX0_clear := Or.inl (wG_at 345 (by decide +kernel) rfl)
theorem lk_X7_91 : mLk RX7 91 yX0_clauses := Or.inl (wG_at 353 (by decide +kernel) rfl)
theorem lk_X7_94 : mLk RX7 94 yX7_isNumber := Or.inl (wG_at 363 (by decide +kernel) rfl)
theorem lk_X7_97 : mLk RX7 97 yX3_add := Or.inl (wG_at 366 (by decide +kernel) rfl)
theorem lk_X7_101 : mLk RX7 101 yX3_start := Or.inl (wG_at 374 (by decide +kernel) rfl)
theorem lk_X7_104 : mLk RX7 104 yX4_work := Or.inl (wG_at 382 (by decide +kernel) rfl)
theorem lk_X7_108 : mLk RX7 108 yX4_tell := Or.inl (wG_at 501 (by decide +kernel) rfl)
theorem lk_X7_111 : mLk RX7 111 yX4_answerer := Or.inl (wG_at 509 (by decide +kernel) rfl)
theorem lk_X7_114 : mLk RX7 114 yX6_beyond := Or.inl (wG_at 517 (by decide +kernel) rfl)
theorem lk_X7_117 : mLk RX7 117 yX7_isClause := Or.inl (wG_at 550 (by decide +kernel) rfl)
theorem lk_X7_120 : mLk RX7 120 yX6_goings := Or.inl (wG_at 558 (by decide +kernel) rfl)
theorem lk_X7_123 : mLk RX7 123 yX7_areRows := Or.inl (wG_at 577 (by decide +kernel) rfl)
theorem lk_X7_126 : mLk RX7 126 yX7_goThrough := Or.inl (wG_at 580 (by decide +kernel) rfl)
theorem lk_X7_130 : mLk RX7 130 yX3_tell := Or.inl (wG_at 599 (by decide +kernel) rfl)
theorem lk_X7_131 : mLk RX7 131 yX7_differ := Or.inl (wG_at 607 (by decide +kernel) rfl)
theorem lk_X7_135 : mLk RX7 135 yX0_write := Or.inl (wG_at 301 (by decide +kernel) rfl)
theorem lk_X7_139 : mLk RX7 139 yX7_wipe := Or.inl (wG_at 326 (by decide +kernel) rfl)
theorem lk_X7_149 : mLk RX7 149 yX3_take := Or.inl (wG_at 584 (by decide +kernel) rfl)
theorem lk_X7_153 : mLk RX7 153 yX3_next := Or.inl (wG_at 590 (by decide +kernel) rfl)
theorem lk_X7_156 : mLk RX7 156 yX4_doing := Or.inl (wG_at 611 (by decide +kernel) rfl)
theorem lk_X0_27 : Cond.methodLink RX0 27 Lib.Math.min.name ∈ wG := wG_at 305 (by decide +kernel) rfl
theorem lk_X0_33 : mLk RX0 33 yX2_sign := Or.inl (wG_at 308 (by decide +kernel) rfl)
theorem lk_X0_37 : mLk RX0 37 yX0_behind := Or.inl (wG_at 309 (by decide +kernel) rfl)
theorem lk_X0_40 : mLk RX0 40 yX0_first := Or.inl (wG_at 313 (by decide +kernel) rfl)
theorem lk_X0_43 : mLk RX0 43 yX0_sign := Or.inl (wG_at 317 (by decide +kernel) rfl)
theorem lk_X0_44 : mLk RX0 44 yX7_textsOf := Or.inr ⟨"DeedHands", List.mem_of_getElem? (i := 321) (by decide +kernel)⟩
theorem lk_X0_47 : mLk RX0 47 yX0_after := Or.inl (wG_at 322 (by decide +kernel) rfl)
theorem lk_X0_50 : mLk RX0 50 yX7_pageOf := Or.inr ⟨"DeedHands", List.mem_of_getElem? (i := 357) (by decide +kernel)⟩
theorem lk_X0_53 : mLk RX0 53 yX0_size := Or.inl (wG_at 358 (by decide +kernel) rfl)
theorem lk_X1_25 : mLk RX1 25 yX1_stands := Or.inl (wG_at 408 (by decide +kernel) rfl)
theorem lk_X2_22 : mLk RX2 22 yX2_sign := Or.inl (wG_at 273 (by decide +kernel) rfl)
theorem lk_X2_26 : mLk RX2 26 yX2_canStand := Or.inl (wG_at 277 (by decide +kernel) rfl)
theorem lk_X2_30 : mLk RX2 30 yX7_textsOf := Or.inr ⟨"DeedHands", List.mem_of_getElem? (i := 280) (by decide +kernel)⟩
theorem lk_X2_33 : mLk RX2 33 yX2_isHandSign := Or.inl (wG_at 283 (by decide +kernel) rfl)
theorem lk_X2_37 : mLk RX2 37 yX2_depthOfNext := Or.inl (wG_at 286 (by decide +kernel) rfl)
theorem lk_X3_19 : mLk RX3 19 yX3_start := Or.inl (wG_at 588 (by decide +kernel) rfl)
theorem lk_X3_23 : mLk RX3 23 yX3_value := Or.inl (wG_at 589 (by decide +kernel) rfl)
theorem lk_X3_27 : Cond.methodLink RX3 27 Lib.Math.min.name ∈ wG := wG_at 594 (by decide +kernel) rfl
theorem lk_X4_37 : mLk RX4 37 yX5_clear := Or.inl (wG_at 386 (by decide +kernel) rfl)
theorem lk_X4_65 : mLk RX4 65 yX4_enter := Or.inl (wG_at 390 (by decide +kernel) rfl)
theorem lk_X4_74 : mLk RX4 74 yX4_begin := Or.inl (wG_at 399 (by decide +kernel) rfl)
theorem lk_X4_77 : mLk RX4 77 yX4_takeUp := Or.inl (wG_at 426 (by decide +kernel) rfl)
theorem lk_X4_80 : mLk RX4 80 yX1_enter := Or.inl (wG_at 394 (by decide +kernel) rfl)
theorem lk_X4_92 : mLk RX4 92 yX0_sign := Or.inl (wG_at 403 (by decide +kernel) rfl)
theorem lk_X4_98 : mLk RX4 98 yX1_argument := Or.inl (wG_at 404 (by decide +kernel) rfl)
theorem lk_X4_101 : mLk RX4 101 yX4_give := Or.inl (wG_at 412 (by decide +kernel) rfl)
theorem lk_X4_105 : mLk RX4 105 yX7_textsOf := Or.inr ⟨"DeedHands", List.mem_of_getElem? (i := 416) (by decide +kernel)⟩
theorem lk_X4_108 : mLk RX4 108 yX5_push := Or.inl (wG_at 417 (by decide +kernel) rfl)
theorem lk_X4_112 : mLk RX4 112 yX0_first := Or.inl (wG_at 425 (by decide +kernel) rfl)
theorem lk_X4_118 : mLk RX4 118 yX5_place := Or.inl (wG_at 430 (by decide +kernel) rfl)
theorem lk_X4_120 : mLk RX4 120 yX5_call := Or.inl (wG_at 438 (by decide +kernel) rfl)
theorem lk_X4_122 : mLk RX4 122 yX5_held := Or.inl (wG_at 442 (by decide +kernel) rfl)
theorem lk_X4_125 : mLk RX4 125 yX5_hold := Or.inl (wG_at 446 (by decide +kernel) rfl)
theorem lk_X4_129 : mLk RX4 129 yX0_after := Or.inl (wG_at 450 (by decide +kernel) rfl)
theorem lk_X4_132 : mLk RX4 132 yX5_below := Or.inl (wG_at 451 (by decide +kernel) rfl)
theorem lk_X4_135 : mLk RX4 135 yX4_choose := Or.inl (wG_at 455 (by decide +kernel) rfl)
theorem lk_X4_138 : mLk RX4 138 yX0_hand := Or.inl (wG_at 459 (by decide +kernel) rfl)
theorem lk_X4_141 : mLk RX4 141 yX4_comeBack := Or.inl (wG_at 463 (by decide +kernel) rfl)
theorem lk_X4_144 : mLk RX4 144 yX4_goOn := Or.inl (wG_at 469 (by decide +kernel) rfl)
theorem lk_X4_147 : mLk RX4 147 yX4_nearest := Or.inl (wG_at 485 (by decide +kernel) rfl)
theorem lk_X4_150 : mLk RX4 150 yX4_ask := Or.inl (wG_at 489 (by decide +kernel) rfl)
theorem lk_X4_153 : mLk RX4 153 yX4_act := Or.inl (wG_at 497 (by decide +kernel) rfl)
theorem lk_X4_156 : Cond.methodLink RX4 156 Lib.Math.min.name ∈ wG := wG_at 500 (by decide +kernel) rfl
theorem lk_X4_162 : mLk RX4 162 yX7_pageOf := Or.inr ⟨"DeedHands", List.mem_of_getElem? (i := 467) (by decide +kernel)⟩
theorem lk_X4_165 : mLk RX4 165 yX0_size := Or.inl (wG_at 468 (by decide +kernel) rfl)
theorem lk_X4_168 : mLk RX4 168 yX1_keptTop := Or.inl (wG_at 473 (by decide +kernel) rfl)
theorem lk_X4_171 : mLk RX4 171 yX1_keptHand := Or.inl (wG_at 477 (by decide +kernel) rfl)
theorem lk_X4_174 : mLk RX4 174 yX5_layDown := Or.inl (wG_at 481 (by decide +kernel) rfl)
theorem lk_X4_182 : mLk RX4 182 yX3_value := Or.inl (wG_at 493 (by decide +kernel) rfl)
theorem lk_X5_25 : mLk RX5 25 yX5_stands := Or.inl (wG_at 434 (by decide +kernel) rfl)
theorem lk_X5_29 : mLk RX5 29 yX5_make := Or.inl (wG_at 421 (by decide +kernel) rfl)
theorem lk_X6_25 : mLk RX6 25 yX6_addsTo := Or.inl (wG_at 521 (by decide +kernel) rfl)
theorem lk_X6_29 : mLk RX6 29 yX6_asked := Or.inl (wG_at 534 (by decide +kernel) rfl)
theorem lk_X6_33 : mLk RX6 33 yX0_size := Or.inl (wG_at 525 (by decide +kernel) rfl)
theorem lk_X6_38 : Cond.methodLink RX6 38 Lib.Math.min.name ∈ wG := wG_at 526 (by decide +kernel) rfl
theorem lk_X6_44 : mLk RX6 44 yX6_asksOf := Or.inl (wG_at 527 (by decide +kernel) rfl)
theorem lk_X6_47 : mLk RX6 47 yX0_hand := Or.inl (wG_at 543 (by decide +kernel) rfl)
theorem lk_X6_50 : mLk RX6 50 yX0_sign := Or.inl (wG_at 531 (by decide +kernel) rfl)
theorem lk_X6_53 : mLk RX6 53 yX0_first := Or.inl (wG_at 532 (by decide +kernel) rfl)
theorem lk_X6_56 : mLk RX6 56 yX7_textsOf := Or.inr ⟨"DeedHands", List.mem_of_getElem? (i := 533) (by decide +kernel)⟩
theorem lk_X6_59 : mLk RX6 59 yX0_after := Or.inl (wG_at 538 (by decide +kernel) rfl)
theorem lk_X6_62 : mLk RX6 62 yX6_whatGoesOn := Or.inl (wG_at 539 (by decide +kernel) rfl)
theorem lk_X6_65 : mLk RX6 65 yX6_pastHand := Or.inl (wG_at 544 (by decide +kernel) rfl)
theorem lk_X6_68 : mLk RX6 68 yX0_clauses := Or.inl (wG_at 548 (by decide +kernel) rfl)
theorem lk_X6_71 : mLk RX6 71 yX7_pageOf := Or.inr ⟨"DeedHands", List.mem_of_getElem? (i := 549) (by decide +kernel)⟩
theorem lk_X6_74 : mLk RX6 74 yX6_goingsOf := Or.inl (wG_at 562 (by decide +kernel) rfl)
theorem lk_X6_77 : mLk RX6 77 yX6_counted := Or.inl (wG_at 566 (by decide +kernel) rfl)
theorem lk_X6_80 : Cond.methodLink RX6 80 Lib.Math.max.name ∈ wG := wG_at 570 (by decide +kernel) rfl
theorem lk_L_13 : mLk RL 13 yX7_say := Or.inl (wG_at 253 (by decide +kernel) rfl)
theorem lk_L_17 : mLk RL 17 yX8_say := Or.inl (wG_at 758 (by decide +kernel) rfl)
theorem lk_L_18 : mLk RL 18 yX7_wipe := Or.inl (wG_at 261 (by decide +kernel) rfl)
theorem lk_L_22 : mLk RL 22 yX8_wipe := Or.inl (wG_at 765 (by decide +kernel) rfl)
theorem lk_L_23 : mLk RL 23 yX7_fault := Or.inl (wG_at 265 (by decide +kernel) rfl)
theorem lk_L_26 : mLk RL 26 yX8_fault := Or.inl (wG_at 769 (by decide +kernel) rfl)
theorem lk_L_27 : mLk RL 27 yX7_text := Or.inl (wG_at 290 (by decide +kernel) rfl)
theorem lk_L_30 : mLk RL 30 yX8_text := Or.inl (wG_at 780 (by decide +kernel) rfl)
theorem lk_L_31 : mLk RL 31 yX7_clause := Or.inl (wG_at 327 (by decide +kernel) rfl)
theorem lk_L_35 : mLk RL 35 yX8_clause := Or.inl (wG_at 791 (by decide +kernel) rfl)
theorem lk_L_36 : mLk RL 36 yX7_drop := Or.inl (wG_at 337 (by decide +kernel) rfl)
theorem lk_L_39 : mLk RL 39 yX8_drop := Or.inl (wG_at 798 (by decide +kernel) rfl)
theorem lk_L_40 : mLk RL 40 yX7_has := Or.inl (wG_at 349 (by decide +kernel) rfl)
theorem lk_L_43 : mLk RL 43 yX8_has := Or.inl (wG_at 802 (by decide +kernel) rfl)
theorem lk_L_44 : mLk RL 44 yX7_reply := Or.inl (wG_at 359 (by decide +kernel) rfl)
theorem lk_L_47 : mLk RL 47 yX8_reply := Or.inl (wG_at 810 (by decide +kernel) rfl)
theorem lk_L_48 : mLk RL 48 yX7_mute := Or.inl (wG_at 370 (by decide +kernel) rfl)
theorem lk_L_51 : mLk RL 51 yX8_mute := Or.inl (wG_at 814 (by decide +kernel) rfl)
theorem lk_L_52 : mLk RL 52 yX7_run := Or.inl (wG_at 378 (by decide +kernel) rfl)
theorem lk_L_56 : mLk RL 56 yX8_run := Or.inl (wG_at 818 (by decide +kernel) rfl)
theorem lk_L_57 : mLk RL 57 yX7_who := Or.inl (wG_at 505 (by decide +kernel) rfl)
theorem lk_L_60 : mLk RL 60 yX8_who := Or.inl (wG_at 869 (by decide +kernel) rfl)
theorem lk_L_61 : mLk RL 61 yX7_may := Or.inl (wG_at 513 (by decide +kernel) rfl)
theorem lk_L_64 : mLk RL 64 yX8_may := Or.inl (wG_at 873 (by decide +kernel) rfl)
theorem lk_L_65 : mLk RL 65 yX7_often := Or.inl (wG_at 554 (by decide +kernel) rfl)
theorem lk_L_68 : mLk RL 68 yX8_often := Or.inl (wG_at 885 (by decide +kernel) rfl)
theorem lk_L_69 : mLk RL 69 yX7_all := Or.inl (wG_at 573 (by decide +kernel) rfl)
theorem lk_L_73 : mLk RL 73 yX8_all := Or.inl (wG_at 889 (by decide +kernel) rfl)
theorem lk_L_74 : mLk RL 74 yX7_row := Or.inl (wG_at 595 (by decide +kernel) rfl)
theorem lk_L_78 : mLk RL 78 yX8_row := Or.inl (wG_at 903 (by decide +kernel) rfl)
theorem lk_L_79 : mLk RL 79 yX7_apart := Or.inl (wG_at 603 (by decide +kernel) rfl)
theorem lk_L_83 : mLk RL 83 yX8_apart := Or.inl (wG_at 907 (by decide +kernel) rfl)
theorem lk_L_84 : mLk RL 84 yX7_told := Or.inl (wG_at 615 (by decide +kernel) rfl)
theorem lk_L_87 : mLk RL 87 yX8_told := Or.inl (wG_at 911 (by decide +kernel) rfl)
theorem lk_X8_85 : mLk RX8 85 yX8_in := Or.inl (wG_at 762 (by decide +kernel) rfl)
theorem lk_X8_93 : mLk RX8 93 yX8_partsOf := Or.inl (wG_at 777 (by decide +kernel) rfl)
theorem lk_X8_97 : mLk RX8 97 yX8_faultOf := Or.inl (wG_at 773 (by decide +kernel) rfl)
theorem lk_X8_101 : mLk RX8 101 yX8_isFour := Or.inl (wG_at 784 (by decide +kernel) rfl)
theorem lk_X8_105 : mLk RX8 105 yX8_keep := Or.inl (wG_at 787 (by decide +kernel) rfl)
theorem lk_X8_109 : mLk RX8 109 yX8_clauseOf := Or.inl (wG_at 795 (by decide +kernel) rfl)
theorem lk_X8_113 : mLk RX8 113 yX8_hasClause := Or.inl (wG_at 806 (by decide +kernel) rfl)
theorem lk_X8_168 : mLk RX8 168 yX8_begin := Or.inl (wG_at 830 (by decide +kernel) rfl)
theorem lk_X8_171 : mLk RX8 171 yX8_leave := Or.inl (wG_at 842 (by decide +kernel) rfl)
theorem lk_X8_174 : mLk RX8 174 yX8_come := Or.inl (wG_at 850 (by decide +kernel) rfl)
theorem lk_X8_177 : mLk RX8 177 yX8_lay := Or.inl (wG_at 834 (by decide +kernel) rfl)
theorem lk_X8_181 : mLk RX8 181 yX8_wait := Or.inl (wG_at 838 (by decide +kernel) rfl)
theorem lk_X8_185 : mLk RX8 185 yX8_work := Or.inl (wG_at 846 (by decide +kernel) rfl)
theorem lk_X8_189 : mLk RX8 189 yX8_partOf := Or.inl (wG_at 854 (by decide +kernel) rfl)
theorem lk_X8_192 : mLk RX8 192 yX8_goOn := Or.inl (wG_at 858 (by decide +kernel) rfl)
theorem lk_X8_196 : mLk RX8 196 yX8_ask := Or.inl (wG_at 862 (by decide +kernel) rfl)
theorem lk_X8_199 : mLk RX8 199 yX8_act := Or.inl (wG_at 866 (by decide +kernel) rfl)
theorem lk_X8_206 : mLk RX8 206 yX8_giveReplies := Or.inl (wG_at 822 (by decide +kernel) rfl)
theorem lk_X8_209 : mLk RX8 209 yX8_end := Or.inl (wG_at 826 (by decide +kernel) rfl)
theorem lk_X8_212 : mLk RX8 212 yX8_mayOf := Or.inl (wG_at 881 (by decide +kernel) rfl)
theorem lk_X8_215 : mLk RX8 215 yX8_layMay := Or.inl (wG_at 877 (by decide +kernel) rfl)
theorem lk_X8_218 : mLk RX8 218 yX8_areTold := Or.inl (wG_at 893 (by decide +kernel) rfl)
theorem lk_X8_221 : mLk RX8 221 yX8_rows := Or.inl (wG_at 896 (by decide +kernel) rfl)
theorem lk_X8_224 : mLk RX8 224 yX8_giveRow := Or.inl (wG_at 899 (by decide +kernel) rfl)
theorem mm_min : Cond.static Lib.Math.min.name ∈ wG ∧ Cond.initialized "java/lang/Math" ∈ wG ∧ Cond.code Lib.Math.min.name Lib.Math.min.code 2 (some .int) ∈ wG := ⟨wG_at 306 (by decide +kernel) rfl, wG_at 52 (by decide +kernel) rfl, wG_at 307 (by decide +kernel) rfl⟩
theorem mm_max : Cond.static Lib.Math.max.name ∈ wG ∧ Cond.initialized "java/lang/Math" ∈ wG ∧ Cond.code Lib.Math.max.name Lib.Math.max.code 2 (some .int) ∈ wG := ⟨wG_at 571 (by decide +kernel) rfl, wG_at 52 (by decide +kernel) rfl, wG_at 572 (by decide +kernel) rfl⟩
theorem kc_X4_69 : Cond.constant RX4 69 (1000000) ∈ wG := wG_at 398 (by decide +kernel) rfl
end
section
/-! Numbers, guarded reads. -/
theorem nI_inc1 (i : Nat) : nI i + Int32.ofInt 1 = nI (i + 1) := nI_1 i
theorem nI_addc (n c : Nat) : nI n + (OfNat.ofNat c : Int32) = nI (n + c) := nI_add n c
theorem nI_addcl (c n : Nat) : (OfNat.ofNat c : Int32) + nI n = nI (c + n) := nI_add c n
theorem nI_mulc (n c : Nat) : nI n * (OfNat.ofNat c : Int32) = nI (n * c) := pk_mul n c
theorem nI_mulcl (c n : Nat) : (OfNat.ofNat c : Int32) * nI n = nI (c * n) := pk_mul c n
theorem nI_subc {n : Nat} (c : Nat) (h : c ≤ n) : nI n - (OfNat.ofNat c : Int32) = nI (n - c) := pk_sub h
theorem clampInt (x : Int32) : x.toNatClampNeg = x.toInt.toNat := rfl
theorem toInt_nI {x : Int32} {n : Nat} (h : x.toInt = n) : x = nI n := by
  have h1 : n < 2 ^ 31 := by have := Int32.toInt_lt x; omega
  exact Int32.toInt_inj.mp (by rw [h, nI_toInt h1])
theorem nI_ofInt {x : Int32} (h0 : 0 ≤ x.toInt) : x = nI x.toInt.toNat := toInt_nI (by omega)
theorem i32_lo (x : Int32) : -2147483648 ≤ x.toInt := by have := Int32.le_toInt x; omega
theorem i32_hi (x : Int32) : x.toInt < 2147483648 := by have := Int32.toInt_lt x; omega
/-- a read with a guard -/
def gA (h : mH) (c n : Nat) (d x : Int32) : Int32 := if 0 ≤ x.toInt ∧ x.toInt < n then h c x.toInt.toNat else d
theorem gA_in {h : mH} {c n : Nat} {d : Int32} {i : Nat} (hi : i < n) (hn : n < 2 ^ 31) : gA h c n d (nI i) = h c i := by
  unfold gA
  rw [nI_toInt (by omega), if_pos (by omega)]
  rfl
/-- how many texts of its own a sign has -/
def aOf (x : Int) : Int := if (48 ≤ x ∧ x ≤ 55) ∨ x = 120 then 0 else if x = 112 ∨ x = 113 ∨ x = 114 ∨ x = 107 ∨ x = 64 then 1 else if x = 43 ∨ x = 45 ∨ x = 42 ∨ x = 109 then 2 else if x = 63 then 3 else -1
def aI (x : Int) : Int32 := if (48 ≤ x ∧ x ≤ 55) ∨ x = 120 then 0 else if x = 112 ∨ x = 113 ∨ x = 114 ∨ x = 107 ∨ x = 64 then 1 else if x = 43 ∨ x = 45 ∨ x = 42 ∨ x = 109 then 2 else if x = 63 then 3 else -1
theorem aI_toInt (x : Int) : (aI x).toInt = aOf x := by
  unfold aI aOf
  repeat' split
  all_goals rfl
def bI (b : Bool) : Int32 := if b then 1 else 0
theorem bI_01 (b : Bool) : bI b = 0 ∨ bI b = 1 := by cases b <;> simp [bI]
end
section
set_option maxHeartbeats 1000000 in
theorem k_B_sign (l : Launch) (h : mH) (x : Int32) : mD l Sh0 iX0_sign [.inr 2, .inl x] h (some (gA h 13 800 0 x)) h := by
  intro RT hR
  show mE l Sh0 none iX0_sign RT 0 [some (.inr 2), some (.inl x)] [] h
  refine e_iload_n (i := 1) dX0_sign_0 rfl rfl ?_
  refine b_if_lt (X := x.toInt) (tgt := 20) rfl dX0_sign_1 (by decide) ?_ ?_
  · intro c_1_t
    refine e_iconst (v := 0) dX0_sign_20 (by decide) ?_
    refine e_iret dX0_sign_21 (mret_i _) ?_
    unfold gA at hR; first | exact hR | ((repeat' (split at hR)) <;> first | exact hR | (exfalso; omega))
  · intro c_1_f
    refine e_iload_n (i := 1) dX0_sign_4 rfl rfl ?_
    refine e_sipush (v := 800) dX0_sign_5 (by decide) ?_
    refine b_icmp_ge (X := x.toInt) (Y := 800) (tgt := 20) rfl (by decide) dX0_sign_8 (by decide) ?_ ?_
    · intro c_8_t
      refine e_iconst (v := 0) dX0_sign_20 (by decide) ?_
      refine e_iret dX0_sign_21 (mret_i _) ?_
      unfold gA at hR; first | exact hR | ((repeat' (split at hR)) <;> first | exact hR | (exfalso; omega))
    · intro c_8_f
      refine e_aload_n (i := 0) dX0_sign_11 rfl rfl ?_
      refine e_getR (r := 13) dX0_sign_12 fl_X0_9 sh_2 fj_2_0 ?_
      refine e_iload_n (i := 1) dX0_sign_15 rfl rfl ?_
      refine e_iald (x := h 13 ((x).toInt.toNat)) dX0_sign_16 sh_13 (vin_ofX (X := x.toInt) rfl (by omega) (by omega)) rfl ?_
      refine e_goto (tgt := 21) dX0_sign_17 (by decide) ?_
      refine e_iret dX0_sign_21 (mret_i _) ?_
      unfold gA at hR; first | exact hR | ((repeat' (split at hR)) <;> first | exact hR | (exfalso; omega))
set_option maxHeartbeats 1000000 in
theorem k_B_after (l : Launch) (h : mH) (x : Int32) : mD l Sh0 iX0_after [.inr 2, .inl x] h (some (gA h 14 800 (-1) x)) h := by
  intro RT hR
  show mE l Sh0 none iX0_after RT 0 [some (.inr 2), some (.inl x)] [] h
  refine e_iload_n (i := 1) dX0_after_0 rfl rfl ?_
  refine b_if_lt (X := x.toInt) (tgt := 20) rfl dX0_after_1 (by decide) ?_ ?_
  · intro c_1_t
    refine e_iconst (v := (-1)) dX0_after_20 (by decide) ?_
    refine e_iret dX0_after_21 (mret_i _) ?_
    unfold gA at hR; first | exact hR | ((repeat' (split at hR)) <;> first | exact hR | (exfalso; omega))
  · intro c_1_f
    refine e_iload_n (i := 1) dX0_after_4 rfl rfl ?_
    refine e_sipush (v := 800) dX0_after_5 (by decide) ?_
    refine b_icmp_ge (X := x.toInt) (Y := 800) (tgt := 20) rfl (by decide) dX0_after_8 (by decide) ?_ ?_
    · intro c_8_t
      refine e_iconst (v := (-1)) dX0_after_20 (by decide) ?_
      refine e_iret dX0_after_21 (mret_i _) ?_
      unfold gA at hR; first | exact hR | ((repeat' (split at hR)) <;> first | exact hR | (exfalso; omega))
    · intro c_8_f
      refine e_aload_n (i := 0) dX0_after_11 rfl rfl ?_
      refine e_getR (r := 14) dX0_after_12 fl_X0_15 sh_2 fj_2_1 ?_
      refine e_iload_n (i := 1) dX0_after_15 rfl rfl ?_
      refine e_iald (x := h 14 ((x).toInt.toNat)) dX0_after_16 sh_14 (vin_ofX (X := x.toInt) rfl (by omega) (by omega)) rfl ?_
      refine e_goto (tgt := 21) dX0_after_17 (by decide) ?_
      refine e_iret dX0_after_21 (mret_i _) ?_
      unfold gA at hR; first | exact hR | ((repeat' (split at hR)) <;> first | exact hR | (exfalso; omega))
set_option maxHeartbeats 1000000 in
theorem k_B_size (l : Launch) (h : mH) (x : Int32) : mD l Sh0 iX0_size [.inr 2, .inl x] h (some (gA h 15 20 0 x)) h := by
  intro RT hR
  show mE l Sh0 none iX0_size RT 0 [some (.inr 2), some (.inl x)] [] h
  refine e_iload_n (i := 1) dX0_size_0 rfl rfl ?_
  refine b_if_lt (X := x.toInt) (tgt := 19) rfl dX0_size_1 (by decide) ?_ ?_
  · intro c_1_t
    refine e_iconst (v := 0) dX0_size_19 (by decide) ?_
    refine e_iret dX0_size_20 (mret_i _) ?_
    unfold gA at hR; first | exact hR | ((repeat' (split at hR)) <;> first | exact hR | (exfalso; omega))
  · intro c_1_f
    refine e_iload_n (i := 1) dX0_size_4 rfl rfl ?_
    refine e_bipush (v := 20) dX0_size_5 (by decide) ?_
    refine b_icmp_ge (X := x.toInt) (Y := 20) (tgt := 19) rfl (by decide) dX0_size_7 (by decide) ?_ ?_
    · intro c_7_t
      refine e_iconst (v := 0) dX0_size_19 (by decide) ?_
      refine e_iret dX0_size_20 (mret_i _) ?_
      unfold gA at hR; first | exact hR | ((repeat' (split at hR)) <;> first | exact hR | (exfalso; omega))
    · intro c_7_f
      refine e_aload_n (i := 0) dX0_size_10 rfl rfl ?_
      refine e_getR (r := 15) dX0_size_11 fl_X0_18 sh_2 fj_2_2 ?_
      refine e_iload_n (i := 1) dX0_size_14 rfl rfl ?_
      refine e_iald (x := h 15 ((x).toInt.toNat)) dX0_size_15 sh_15 (vin_ofX (X := x.toInt) rfl (by omega) (by omega)) rfl ?_
      refine e_goto (tgt := 20) dX0_size_16 (by decide) ?_
      refine e_iret dX0_size_20 (mret_i _) ?_
      unfold gA at hR; first | exact hR | ((repeat' (split at hR)) <;> first | exact hR | (exfalso; omega))
set_option maxHeartbeats 1000000 in
theorem k_W_asked (l : Launch) (h : mH) (x : Int32) : mD l Sh0 iX6_asked [.inr 9, .inl x] h (some (gA h 25 800 0 x)) h := by
  intro RT hR
  show mE l Sh0 none iX6_asked RT 0 [some (.inr 9), some (.inl x)] [] h
  refine e_iload_n (i := 1) dX6_asked_0 rfl rfl ?_
  refine b_if_lt (X := x.toInt) (tgt := 20) rfl dX6_asked_1 (by decide) ?_ ?_
  · intro c_1_t
    refine e_iconst (v := 0) dX6_asked_20 (by decide) ?_
    refine e_iret dX6_asked_21 (mret_i _) ?_
    unfold gA at hR; first | exact hR | ((repeat' (split at hR)) <;> first | exact hR | (exfalso; omega))
  · intro c_1_f
    refine e_iload_n (i := 1) dX6_asked_4 rfl rfl ?_
    refine e_sipush (v := 800) dX6_asked_5 (by decide) ?_
    refine b_icmp_ge (X := x.toInt) (Y := 800) (tgt := 20) rfl (by decide) dX6_asked_8 (by decide) ?_ ?_
    · intro c_8_t
      refine e_iconst (v := 0) dX6_asked_20 (by decide) ?_
      refine e_iret dX6_asked_21 (mret_i _) ?_
      unfold gA at hR; first | exact hR | ((repeat' (split at hR)) <;> first | exact hR | (exfalso; omega))
    · intro c_8_f
      refine e_aload_n (i := 0) dX6_asked_11 rfl rfl ?_
      refine e_getR (r := 25) dX6_asked_12 fl_X6_9 sh_9 fj_9_1 ?_
      refine e_iload_n (i := 1) dX6_asked_15 rfl rfl ?_
      refine e_iald (x := h 25 ((x).toInt.toNat)) dX6_asked_16 sh_25 (vin_ofX (X := x.toInt) rfl (by omega) (by omega)) rfl ?_
      refine e_goto (tgt := 21) dX6_asked_17 (by decide) ?_
      refine e_iret dX6_asked_21 (mret_i _) ?_
      unfold gA at hR; first | exact hR | ((repeat' (split at hR)) <;> first | exact hR | (exfalso; omega))
set_option maxHeartbeats 1000000 in
theorem k_W_counted (l : Launch) (h : mH) (x : Int32) : mD l Sh0 iX6_counted [.inr 9, .inl x] h (some (gA h 26 800 0 x)) h := by
  intro RT hR
  show mE l Sh0 none iX6_counted RT 0 [some (.inr 9), some (.inl x)] [] h
  refine e_iload_n (i := 1) dX6_counted_0 rfl rfl ?_
  refine b_if_lt (X := x.toInt) (tgt := 20) rfl dX6_counted_1 (by decide) ?_ ?_
  · intro c_1_t
    refine e_iconst (v := 0) dX6_counted_20 (by decide) ?_
    refine e_iret dX6_counted_21 (mret_i _) ?_
    unfold gA at hR; first | exact hR | ((repeat' (split at hR)) <;> first | exact hR | (exfalso; omega))
  · intro c_1_f
    refine e_iload_n (i := 1) dX6_counted_4 rfl rfl ?_
    refine e_sipush (v := 800) dX6_counted_5 (by decide) ?_
    refine b_icmp_ge (X := x.toInt) (Y := 800) (tgt := 20) rfl (by decide) dX6_counted_8 (by decide) ?_ ?_
    · intro c_8_t
      refine e_iconst (v := 0) dX6_counted_20 (by decide) ?_
      refine e_iret dX6_counted_21 (mret_i _) ?_
      unfold gA at hR; first | exact hR | ((repeat' (split at hR)) <;> first | exact hR | (exfalso; omega))
    · intro c_8_f
      refine e_aload_n (i := 0) dX6_counted_11 rfl rfl ?_
      refine e_getR (r := 26) dX6_counted_12 fl_X6_15 sh_9 fj_9_2 ?_
      refine e_iload_n (i := 1) dX6_counted_15 rfl rfl ?_
      refine e_iald (x := h 26 ((x).toInt.toNat)) dX6_counted_16 sh_26 (vin_ofX (X := x.toInt) rfl (by omega) (by omega)) rfl ?_
      refine e_goto (tgt := 21) dX6_counted_17 (by decide) ?_
      refine e_iret dX6_counted_21 (mret_i _) ?_
      unfold gA at hR; first | exact hR | ((repeat' (split at hR)) <;> first | exact hR | (exfalso; omega))
def cFirst (h : mH) (x : Int32) : Int32 := if (gA h 13 800 0 x).toInt = 64 then x + 2 else x + 1
set_option maxHeartbeats 1000000 in
theorem k_B_first (l : Launch) (h : mH) (x : Int32) : mD l Sh0 iX0_first [.inr 2, .inl x] h (some (cFirst h x)) h := by
  intro RT hR
  show mE l Sh0 none iX0_first RT 0 [some (.inr 2), some (.inl x)] [] h
  refine e_aload_n (i := 0) dX0_first_0 rfl rfl ?_
  refine e_iload_n (i := 1) dX0_first_1 rfl rfl ?_
  refine e_invVi (As := [.inl x]) (v := gA h 13 800 0 x) (h2 := h) dX0_first_2 lk_X0_43 yv_X0_sign rfl rfl rfl (Nat.le_of_ble_eq_true rfl) sh_2 ci_X0 (Nat.le_of_ble_eq_true rfl) ⟨Nat.le_of_ble_eq_true rfl, Nat.le_of_ble_eq_true rfl⟩ (k_B_sign l h x) ?_
  refine e_bipush (v := 64) dX0_first_5 (by decide) ?_
  refine b_icmp_ne (X := (gA h 13 800 0 x).toInt) (Y := 64) (tgt := 16) rfl (by decide) dX0_first_7 (by decide) ?_ ?_
  · intro e_7_t c_7_t
    refine e_iload_n (i := 1) dX0_first_16 rfl rfl ?_
    refine e_iconst (v := 1) dX0_first_17 (by decide) ?_
    refine e_iadd dX0_first_18 ?_
    refine e_iret dX0_first_19 (mret_i _) ?_
    unfold cFirst at hR; first | exact hR | ((repeat' (split at hR)) <;> first | exact hR | (exfalso; omega))
  · intro e_7_f c_7_f
    refine e_iload_n (i := 1) dX0_first_10 rfl rfl ?_
    refine e_iconst (v := 2) dX0_first_11 (by decide) ?_
    refine e_iadd dX0_first_12 ?_
    refine e_goto (tgt := 19) dX0_first_13 (by decide) ?_
    refine e_iret dX0_first_19 (mret_i _) ?_
    unfold cFirst at hR; first | exact hR | ((repeat' (split at hR)) <;> first | exact hR | (exfalso; omega))
def cHand (h : mH) (x : Int32) : Int32 := if 0 ≤ x.toInt ∧ x.toInt < 799 ∧ (h 13 x.toInt.toNat).toInt = 64 then h 13 (x + 1).toInt.toNat - 48 else -1
set_option maxHeartbeats 1000000 in
theorem k_B_clear (l : Launch) (h : mH) (x : Int32) (hx : 0 ≤ x.toInt ∧ x.toInt < 20) : mD l Sh0 iX0_clear [.inr 2, .inl x] h (none) (hs h 15 x.toNatClampNeg 0) := by
  intro RT hR
  show mE l Sh0 none iX0_clear RT 0 [some (.inr 2), some (.inl x)] [] h
  refine e_iload_n (i := 1) dX0_clear_0 rfl rfl ?_
  refine b_if_lt (X := x.toInt) (tgt := 17) rfl dX0_clear_1 (by decide) ?_ ?_
  · intro c_1_t
    exfalso; omega
  · intro c_1_f
    refine e_iload_n (i := 1) dX0_clear_4 rfl rfl ?_
    refine e_bipush (v := 20) dX0_clear_5 (by decide) ?_
    refine b_icmp_ge (X := x.toInt) (Y := 20) (tgt := 17) rfl (by decide) dX0_clear_7 (by decide) ?_ ?_
    · intro c_7_t
      exfalso; omega
    · intro c_7_f
      refine e_aload_n (i := 0) dX0_clear_10 rfl rfl ?_
      refine e_getR (r := 15) dX0_clear_11 fl_X0_18 sh_2 fj_2_2 ?_
      refine e_iload_n (i := 1) dX0_clear_14 rfl rfl ?_
      refine e_iconst (v := 0) dX0_clear_15 (by decide) ?_
      refine e_iast dX0_clear_16 sh_15 (vin_ofX (X := x.toInt) rfl (by omega) (by omega)) ?_
      refine e_ret dX0_clear_17 rfl ?_
      exact hR
def cPage (a b : Int32) : Int32 := 4 + a * 4 + b
set_option maxHeartbeats 1000000 in
theorem k_pageOf (l : Launch) (h : mH) (x y : Int32) : mD l Sh0 iX7_pageOf [.inl x, .inl y] h (some (cPage x y)) h := by
  intro RT hR
  show mE l Sh0 none iX7_pageOf RT 0 [some (.inl x), some (.inl y)] [] h
  refine e_iconst (v := 4) dX7_pageOf_0 (by decide) ?_
  refine e_iload_n (i := 0) dX7_pageOf_1 rfl rfl ?_
  refine e_iconst (v := 4) dX7_pageOf_2 (by decide) ?_
  refine e_imul dX7_pageOf_3 ?_
  refine e_iadd dX7_pageOf_4 ?_
  refine e_iload_n (i := 1) dX7_pageOf_5 rfl rfl ?_
  refine e_iadd dX7_pageOf_6 ?_
  refine e_iret dX7_pageOf_7 (mret_i _) ?_
  unfold cPage at hR; first | exact hR | ((repeat' (split at hR)) <;> first | exact hR | (exfalso; omega))
def cText (x : Int32) : Int32 := if 0 ≤ x.toInt ∧ x.toInt < 4 then 1 else 0
set_option maxHeartbeats 1000000 in
theorem k_cText (l : Launch) (h : mH) (x : Int32) : mD l Sh0 iX7_isText [.inl x] h (some (cText x)) h := by
  intro RT hR
  show mE l Sh0 none iX7_isText RT 0 [some (.inl x)] [] h
  refine e_iload_n (i := 0) dX7_isText_0 rfl rfl ?_
  refine b_if_lt (X := x.toInt) (tgt := 13) rfl dX7_isText_1 (by decide) ?_ ?_
  · intro c_1_t
    refine e_iconst (v := 0) dX7_isText_13 (by decide) ?_
    refine e_iret dX7_isText_14 (mret_z (by first | decide | (simp only []; split <;> decide))) ?_
    unfold cText at hR; first | exact hR | ((repeat' (split at hR)) <;> first | exact hR | (exfalso; omega))
  · intro c_1_f
    refine e_iload_n (i := 0) dX7_isText_4 rfl rfl ?_
    refine e_iconst (v := 4) dX7_isText_5 (by decide) ?_
    refine b_icmp_ge (X := x.toInt) (Y := 4) (tgt := 13) rfl (by decide) dX7_isText_6 (by decide) ?_ ?_
    · intro c_6_t
      refine e_iconst (v := 0) dX7_isText_13 (by decide) ?_
      refine e_iret dX7_isText_14 (mret_z (by first | decide | (simp only []; split <;> decide))) ?_
      unfold cText at hR; first | exact hR | ((repeat' (split at hR)) <;> first | exact hR | (exfalso; omega))
    · intro c_6_f
      refine e_iconst (v := 1) dX7_isText_9 (by decide) ?_
      refine e_goto (tgt := 14) dX7_isText_10 (by decide) ?_
      refine e_iret dX7_isText_14 (mret_z (by first | decide | (simp only []; split <;> decide))) ?_
      unfold cText at hR; first | exact hR | ((repeat' (split at hR)) <;> first | exact hR | (exfalso; omega))
def cNum (x : Int32) : Int32 := if 0 ≤ x.toInt ∧ x.toInt < 8 then 1 else 0
set_option maxHeartbeats 1000000 in
theorem k_cNum (l : Launch) (h : mH) (x : Int32) : mD l Sh0 iX7_isNumber [.inl x] h (some (cNum x)) h := by
  intro RT hR
  show mE l Sh0 none iX7_isNumber RT 0 [some (.inl x)] [] h
  refine e_iload_n (i := 0) dX7_isNumber_0 rfl rfl ?_
  refine b_if_lt (X := x.toInt) (tgt := 14) rfl dX7_isNumber_1 (by decide) ?_ ?_
  · intro c_1_t
    refine e_iconst (v := 0) dX7_isNumber_14 (by decide) ?_
    refine e_iret dX7_isNumber_15 (mret_z (by first | decide | (simp only []; split <;> decide))) ?_
    unfold cNum at hR; first | exact hR | ((repeat' (split at hR)) <;> first | exact hR | (exfalso; omega))
  · intro c_1_f
    refine e_iload_n (i := 0) dX7_isNumber_4 rfl rfl ?_
    refine e_bipush (v := 8) dX7_isNumber_5 (by decide) ?_
    refine b_icmp_ge (X := x.toInt) (Y := 8) (tgt := 14) rfl (by decide) dX7_isNumber_7 (by decide) ?_ ?_
    · intro c_7_t
      refine e_iconst (v := 0) dX7_isNumber_14 (by decide) ?_
      refine e_iret dX7_isNumber_15 (mret_z (by first | decide | (simp only []; split <;> decide))) ?_
      unfold cNum at hR; first | exact hR | ((repeat' (split at hR)) <;> first | exact hR | (exfalso; omega))
    · intro c_7_f
      refine e_iconst (v := 1) dX7_isNumber_10 (by decide) ?_
      refine e_goto (tgt := 15) dX7_isNumber_11 (by decide) ?_
      refine e_iret dX7_isNumber_15 (mret_z (by first | decide | (simp only []; split <;> decide))) ?_
      unfold cNum at hR; first | exact hR | ((repeat' (split at hR)) <;> first | exact hR | (exfalso; omega))
def cPart (x y : Int32) : Int32 := if 0 ≤ x.toInt ∧ x.toInt < 4 ∧ 0 ≤ y.toInt ∧ y.toInt < 4 then 1 else 0
set_option maxHeartbeats 1000000 in
theorem k_cPart (l : Launch) (h : mH) (x y : Int32) : mD l Sh0 iX7_isPart [.inl x, .inl y] h (some (cPart x y)) h := by
  intro RT hR
  show mE l Sh0 none iX7_isPart RT 0 [some (.inl x), some (.inl y)] [] h
  refine e_iload_n (i := 0) dX7_isPart_0 rfl rfl ?_
  refine b_if_lt (X := x.toInt) (tgt := 22) rfl dX7_isPart_1 (by decide) ?_ ?_
  · intro c_1_t
    refine e_iconst (v := 0) dX7_isPart_22 (by decide) ?_
    refine e_iret dX7_isPart_23 (mret_z (by first | decide | (simp only []; split <;> decide))) ?_
    unfold cPart at hR; first | exact hR | ((repeat' (split at hR)) <;> first | exact hR | (exfalso; omega))
  · intro c_1_f
    refine e_iload_n (i := 0) dX7_isPart_4 rfl rfl ?_
    refine e_iconst (v := 4) dX7_isPart_5 (by decide) ?_
    refine b_icmp_ge (X := x.toInt) (Y := 4) (tgt := 22) rfl (by decide) dX7_isPart_6 (by decide) ?_ ?_
    · intro c_6_t
      refine e_iconst (v := 0) dX7_isPart_22 (by decide) ?_
      refine e_iret dX7_isPart_23 (mret_z (by first | decide | (simp only []; split <;> decide))) ?_
      unfold cPart at hR; first | exact hR | ((repeat' (split at hR)) <;> first | exact hR | (exfalso; omega))
    · intro c_6_f
      refine e_iload_n (i := 1) dX7_isPart_9 rfl rfl ?_
      refine b_if_lt (X := y.toInt) (tgt := 22) rfl dX7_isPart_10 (by decide) ?_ ?_
      · intro c_10_t
        refine e_iconst (v := 0) dX7_isPart_22 (by decide) ?_
        refine e_iret dX7_isPart_23 (mret_z (by first | decide | (simp only []; split <;> decide))) ?_
        unfold cPart at hR; first | exact hR | ((repeat' (split at hR)) <;> first | exact hR | (exfalso; omega))
      · intro c_10_f
        refine e_iload_n (i := 1) dX7_isPart_13 rfl rfl ?_
        refine e_iconst (v := 4) dX7_isPart_14 (by decide) ?_
        refine b_icmp_ge (X := y.toInt) (Y := 4) (tgt := 22) rfl (by decide) dX7_isPart_15 (by decide) ?_ ?_
        · intro c_15_t
          refine e_iconst (v := 0) dX7_isPart_22 (by decide) ?_
          refine e_iret dX7_isPart_23 (mret_z (by first | decide | (simp only []; split <;> decide))) ?_
          unfold cPart at hR; first | exact hR | ((repeat' (split at hR)) <;> first | exact hR | (exfalso; omega))
        · intro c_15_f
          refine e_iconst (v := 1) dX7_isPart_18 (by decide) ?_
          refine e_goto (tgt := 23) dX7_isPart_19 (by decide) ?_
          refine e_iret dX7_isPart_23 (mret_z (by first | decide | (simp only []; split <;> decide))) ?_
          unfold cPart at hR; first | exact hR | ((repeat' (split at hR)) <;> first | exact hR | (exfalso; omega))
def cRows (x y : Int32) : Int32 := if 0 ≤ x.toInt ∧ x.toInt ≤ 4 ∧ 0 ≤ y.toInt ∧ y.toInt ≤ 2 then 1 else 0
set_option maxHeartbeats 1000000 in
theorem k_cRows (l : Launch) (h : mH) (x y : Int32) : mD l Sh0 iX7_areRows [.inl x, .inl y] h (some (cRows x y)) h := by
  intro RT hR
  show mE l Sh0 none iX7_areRows RT 0 [some (.inl x), some (.inl y)] [] h
  refine e_iload_n (i := 0) dX7_areRows_0 rfl rfl ?_
  refine b_if_lt (X := x.toInt) (tgt := 22) rfl dX7_areRows_1 (by decide) ?_ ?_
  · intro c_1_t
    refine e_iconst (v := 0) dX7_areRows_22 (by decide) ?_
    refine e_iret dX7_areRows_23 (mret_z (by first | decide | (simp only []; split <;> decide))) ?_
    unfold cRows at hR; first | exact hR | ((repeat' (split at hR)) <;> first | exact hR | (exfalso; omega))
  · intro c_1_f
    refine e_iload_n (i := 0) dX7_areRows_4 rfl rfl ?_
    refine e_iconst (v := 4) dX7_areRows_5 (by decide) ?_
    refine b_icmp_gt (X := x.toInt) (Y := 4) (tgt := 22) rfl (by decide) dX7_areRows_6 (by decide) ?_ ?_
    · intro c_6_t
      refine e_iconst (v := 0) dX7_areRows_22 (by decide) ?_
      refine e_iret dX7_areRows_23 (mret_z (by first | decide | (simp only []; split <;> decide))) ?_
      unfold cRows at hR; first | exact hR | ((repeat' (split at hR)) <;> first | exact hR | (exfalso; omega))
    · intro c_6_f
      refine e_iload_n (i := 1) dX7_areRows_9 rfl rfl ?_
      refine b_if_lt (X := y.toInt) (tgt := 22) rfl dX7_areRows_10 (by decide) ?_ ?_
      · intro c_10_t
        refine e_iconst (v := 0) dX7_areRows_22 (by decide) ?_
        refine e_iret dX7_areRows_23 (mret_z (by first | decide | (simp only []; split <;> decide))) ?_
        unfold cRows at hR; first | exact hR | ((repeat' (split at hR)) <;> first | exact hR | (exfalso; omega))
      · intro c_10_f
        refine e_iload_n (i := 1) dX7_areRows_13 rfl rfl ?_
        refine e_iconst (v := 2) dX7_areRows_14 (by decide) ?_
        refine b_icmp_gt (X := y.toInt) (Y := 2) (tgt := 22) rfl (by decide) dX7_areRows_15 (by decide) ?_ ?_
        · intro c_15_t
          refine e_iconst (v := 0) dX7_areRows_22 (by decide) ?_
          refine e_iret dX7_areRows_23 (mret_z (by first | decide | (simp only []; split <;> decide))) ?_
          unfold cRows at hR; first | exact hR | ((repeat' (split at hR)) <;> first | exact hR | (exfalso; omega))
        · intro c_15_f
          refine e_iconst (v := 1) dX7_areRows_18 (by decide) ?_
          refine e_goto (tgt := 23) dX7_areRows_19 (by decide) ?_
          refine e_iret dX7_areRows_23 (mret_z (by first | decide | (simp only []; split <;> decide))) ?_
          unfold cRows at hR; first | exact hR | ((repeat' (split at hR)) <;> first | exact hR | (exfalso; omega))
def cHandSign (x : Int32) : Int32 := if 48 ≤ x.toInt ∧ x.toInt < 52 then 1 else 0
set_option maxHeartbeats 1000000 in
theorem k_cHandSign (l : Launch) (h : mH) (x : Int32) : mD l Sh0 iX2_isHandSign [.inl x] h (some (cHandSign x)) h := by
  intro RT hR
  show mE l Sh0 none iX2_isHandSign RT 0 [some (.inl x)] [] h
  refine e_iload_n (i := 0) dX2_isHandSign_0 rfl rfl ?_
  refine e_bipush (v := 48) dX2_isHandSign_1 (by decide) ?_
  refine b_icmp_lt (X := x.toInt) (Y := 48) (tgt := 16) rfl (by decide) dX2_isHandSign_3 (by decide) ?_ ?_
  · intro c_3_t
    refine e_iconst (v := 0) dX2_isHandSign_16 (by decide) ?_
    refine e_iret dX2_isHandSign_17 (mret_z (by first | decide | (simp only []; split <;> decide))) ?_
    unfold cHandSign at hR; first | exact hR | ((repeat' (split at hR)) <;> first | exact hR | (exfalso; omega))
  · intro c_3_f
    refine e_iload_n (i := 0) dX2_isHandSign_6 rfl rfl ?_
    refine e_bipush (v := 52) dX2_isHandSign_7 (by decide) ?_
    refine b_icmp_ge (X := x.toInt) (Y := 52) (tgt := 16) rfl (by decide) dX2_isHandSign_9 (by decide) ?_ ?_
    · intro c_9_t
      refine e_iconst (v := 0) dX2_isHandSign_16 (by decide) ?_
      refine e_iret dX2_isHandSign_17 (mret_z (by first | decide | (simp only []; split <;> decide))) ?_
      unfold cHandSign at hR; first | exact hR | ((repeat' (split at hR)) <;> first | exact hR | (exfalso; omega))
    · intro c_9_f
      refine e_iconst (v := 1) dX2_isHandSign_12 (by decide) ?_
      refine e_goto (tgt := 17) dX2_isHandSign_13 (by decide) ?_
      refine e_iret dX2_isHandSign_17 (mret_z (by first | decide | (simp only []; split <;> decide))) ?_
      unfold cHandSign at hR; first | exact hR | ((repeat' (split at hR)) <;> first | exact hR | (exfalso; omega))
def mIn (x y z : Int32) : Int32 := if y.toInt ≤ x.toInt ∧ x.toInt ≤ z.toInt then 1 else 0
set_option maxHeartbeats 1000000 in
theorem k_mIn (l : Launch) (h : mH) (x y z : Int32) : mD l Sh0 iX8_in [.inl x, .inl y, .inl z] h (some (mIn x y z)) h := by
  intro RT hR
  show mE l Sh0 none iX8_in RT 0 [some (.inl x), some (.inl y), some (.inl z)] [] h
  refine e_iload_n (i := 0) dX8_in_0 rfl rfl ?_
  refine e_iload_n (i := 1) dX8_in_1 rfl rfl ?_
  refine b_icmp_lt (X := x.toInt) (Y := y.toInt) (tgt := 14) rfl rfl dX8_in_2 (by decide) ?_ ?_
  · intro c_2_t
    refine e_iconst (v := 0) dX8_in_14 (by decide) ?_
    refine e_iret dX8_in_15 (mret_z (by first | decide | (simp only []; split <;> decide))) ?_
    unfold mIn at hR; first | exact hR | ((repeat' (split at hR)) <;> first | exact hR | (exfalso; omega))
  · intro c_2_f
    refine e_iload_n (i := 0) dX8_in_5 rfl rfl ?_
    refine e_iload_n (i := 2) dX8_in_6 rfl rfl ?_
    refine b_icmp_gt (X := x.toInt) (Y := z.toInt) (tgt := 14) rfl rfl dX8_in_7 (by decide) ?_ ?_
    · intro c_7_t
      refine e_iconst (v := 0) dX8_in_14 (by decide) ?_
      refine e_iret dX8_in_15 (mret_z (by first | decide | (simp only []; split <;> decide))) ?_
      unfold mIn at hR; first | exact hR | ((repeat' (split at hR)) <;> first | exact hR | (exfalso; omega))
    · intro c_7_f
      refine e_iconst (v := 1) dX8_in_10 (by decide) ?_
      refine e_goto (tgt := 15) dX8_in_11 (by decide) ?_
      refine e_iret dX8_in_15 (mret_z (by first | decide | (simp only []; split <;> decide))) ?_
      unfold mIn at hR; first | exact hR | ((repeat' (split at hR)) <;> first | exact hR | (exfalso; omega))
def mFour (x : Int32) : Int32 := if 0 ≤ x.toInt ∧ x.toInt ≤ 3 then 1 else 0
def rVal (h : mH) (k r : Nat) (x : Int32) : Int32 := if 0 ≤ x.toInt ∧ x.toInt < (h k 1).toInt ∧ x.toInt < 8 then h r x.toInt.toNat else 0
set_option maxHeartbeats 1000000 in
theorem k_R_value (l : Launch) {k r : Nat} (hS : Sh0[k]? = some (.inl (3, [r + 3, 0]))) (hA : Sh0[r]? = some (.inr 8)) (h : mH) (x : Int32) : mD l Sh0 iX3_value [.inr k, .inl x] h (some (rVal h k r x)) h := by
  intro RT hR
  show mE l Sh0 none iX3_value RT 0 [some (.inr k), some (.inl x)] [] h
  refine e_iload_n (i := 1) dX3_value_0 rfl rfl ?_
  refine b_if_lt (X := x.toInt) (tgt := 27) rfl dX3_value_1 (by decide) ?_ ?_
  · intro c_1_t
    refine e_iconst (v := 0) dX3_value_27 (by decide) ?_
    refine e_iret dX3_value_28 (mret_i _) ?_
    unfold rVal at hR; first | exact hR | ((repeat' (split at hR)) <;> first | exact hR | (exfalso; omega))
  · intro c_1_f
    refine e_iload_n (i := 1) dX3_value_4 rfl rfl ?_
    refine e_aload_n (i := 0) dX3_value_5 rfl rfl ?_
    refine e_getI (x := h k 1) dX3_value_6 fl_X3_15 hS rfl rfl ?_
    refine b_icmp_ge (X := x.toInt) (Y := (h k 1).toInt) (tgt := 27) rfl rfl dX3_value_9 (by decide) ?_ ?_
    · intro c_9_t
      refine e_iconst (v := 0) dX3_value_27 (by decide) ?_
      refine e_iret dX3_value_28 (mret_i _) ?_
      unfold rVal at hR; first | exact hR | ((repeat' (split at hR)) <;> first | exact hR | (exfalso; omega))
    · intro c_9_f
      refine e_iload_n (i := 1) dX3_value_12 rfl rfl ?_
      refine e_bipush (v := 8) dX3_value_13 (by decide) ?_
      refine b_icmp_ge (X := x.toInt) (Y := 8) (tgt := 27) rfl (by decide) dX3_value_15 (by decide) ?_ ?_
      · intro c_15_t
        refine e_iconst (v := 0) dX3_value_27 (by decide) ?_
        refine e_iret dX3_value_28 (mret_i _) ?_
        unfold rVal at hR; first | exact hR | ((repeat' (split at hR)) <;> first | exact hR | (exfalso; omega))
      · intro c_15_f
        refine e_aload_n (i := 0) dX3_value_18 rfl rfl ?_
        refine e_getR (r := r) dX3_value_19 fl_X3_9 hS rfl ?_
        refine e_iload_n (i := 1) dX3_value_22 rfl rfl ?_
        refine e_iald (x := h r ((x).toInt.toNat)) dX3_value_23 hA (vin_ofX (X := x.toInt) rfl (by omega) (by omega)) rfl ?_
        refine e_goto (tgt := 28) dX3_value_24 (by decide) ?_
        refine e_iret dX3_value_28 (mret_i _) ?_
        unfold rVal at hR; first | exact hR | ((repeat' (split at hR)) <;> first | exact hR | (exfalso; omega))
def rTell (h : mH) (k r : Nat) (x : Int32) : Int32 := if x.toInt = -1 then h k 1 else if 0 ≤ x.toInt ∧ x.toInt < (h k 1).toInt then rVal h k r x else -6
set_option maxHeartbeats 1000000 in
theorem k_R_tell (l : Launch) {k r : Nat} (hS : Sh0[k]? = some (.inl (3, [r + 3, 0]))) (hA : Sh0[r]? = some (.inr 8)) (h : mH) (x : Int32) : mD l Sh0 iX3_tell [.inr k, .inl x] h (some (rTell h k r x)) h := by
  intro RT hR
  show mE l Sh0 none iX3_tell RT 0 [some (.inr k), some (.inl x)] [] h
  refine e_iload_n (i := 1) dX3_tell_0 rfl rfl ?_
  refine e_iconst (v := (-1)) dX3_tell_1 (by decide) ?_
  refine b_icmp_ne (X := x.toInt) (Y := (-1)) (tgt := 10) rfl (by decide) dX3_tell_2 (by decide) ?_ ?_
  · intro e_2_t c_2_t
    refine e_iload_n (i := 1) dX3_tell_10 rfl rfl ?_
    refine b_if_lt (X := x.toInt) (tgt := 30) rfl dX3_tell_11 (by decide) ?_ ?_
    · intro c_11_t
      refine e_bipush (v := (-6)) dX3_tell_30 (by decide) ?_
      refine e_iret dX3_tell_32 (mret_i _) ?_
      unfold rTell at hR; first | exact hR | ((repeat' (split at hR)) <;> first | exact hR | (exfalso; omega))
    · intro c_11_f
      refine e_iload_n (i := 1) dX3_tell_14 rfl rfl ?_
      refine e_aload_n (i := 0) dX3_tell_15 rfl rfl ?_
      refine e_getI (x := h k 1) dX3_tell_16 fl_X3_15 hS rfl rfl ?_
      refine b_icmp_ge (X := x.toInt) (Y := (h k 1).toInt) (tgt := 30) rfl rfl dX3_tell_19 (by decide) ?_ ?_
      · intro c_19_t
        refine e_bipush (v := (-6)) dX3_tell_30 (by decide) ?_
        refine e_iret dX3_tell_32 (mret_i _) ?_
        unfold rTell at hR; first | exact hR | ((repeat' (split at hR)) <;> first | exact hR | (exfalso; omega))
      · intro c_19_f
        refine e_aload_n (i := 0) dX3_tell_22 rfl rfl ?_
        refine e_iload_n (i := 1) dX3_tell_23 rfl rfl ?_
        refine e_invVi (As := [.inl x]) (v := rVal h k r x) (h2 := h) dX3_tell_24 lk_X3_23 yv_X3_value rfl rfl rfl (Nat.le_of_ble_eq_true rfl) hS ci_X3 (Nat.le_of_ble_eq_true rfl) ⟨Nat.le_of_ble_eq_true rfl, Nat.le_of_ble_eq_true rfl⟩ (k_R_value l hS hA h x) ?_
        refine e_goto (tgt := 32) dX3_tell_27 (by decide) ?_
        refine e_iret dX3_tell_32 (mret_i _) ?_
        unfold rTell at hR; first | exact hR | ((repeat' (split at hR)) <;> first | exact hR | (exfalso; omega))
  · intro e_2_f c_2_f
    refine e_aload_n (i := 0) dX3_tell_5 rfl rfl ?_
    refine e_getI (x := h k 1) dX3_tell_6 fl_X3_15 hS rfl rfl ?_
    refine e_iret dX3_tell_9 (mret_i _) ?_
    unfold rTell at hR; first | exact hR | ((repeat' (split at hR)) <;> first | exact hR | (exfalso; omega))
def rAdd (h : mH) (k r : Nat) (x : Int32) : Int32 := if 0 ≤ (h k 1).toInt ∧ (h k 1).toInt < 8 then 1 else 0
end
section
/-! Rows of the heap. -/
def hr (h : mH) (k : Nat) (f : Nat → Int32) : mH := fun a b => if a = k then f b else h a b
theorem hr_at (h : mH) (k : Nat) (f : Nat → Int32) : hr h k f k = f := by funext b; simp [hr]
theorem hr_ne (h : mH) {k a : Nat} (f : Nat → Int32) (hne : a ≠ k) : hr h k f a = h a := by funext b; simp [hr, hne]
theorem hr_self (h : mH) (k : Nat) : hr h k (h k) = h := by
  funext a b
  by_cases q : a = k
  · subst q; rw [hr_at]
  · rw [hr_ne _ _ q]
theorem hs_eq (h : mH) (k j : Nat) (v : Int32) : hs h k j v = hr h k (upd (h k) j v) := by
  funext a
  by_cases q : a = k
  · subst q; rw [hs_row, hr_at]
  · rw [hs_rown h j v q, hr_ne _ _ q]
theorem hr_hs (h : mH) (k j : Nat) (f : Nat → Int32) (v : Int32) : hs (hr h k f) k j v = hr h k (upd f j v) := by
  funext a
  by_cases q : a = k
  · subst q; rw [hs_row, hr_at, hr_at]
  · rw [hs_rown _ j v q, hr_ne _ _ q, hr_ne _ _ q]
theorem hr_hr (h : mH) (k : Nat) (f g : Nat → Int32) : hr (hr h k f) k g = hr h k g := by
  funext a
  by_cases q : a = k
  · subst q; rw [hr_at, hr_at]
  · rw [hr_ne _ _ q, hr_ne _ _ q, hr_ne _ _ q]
theorem hr_cm (h : mH) {k j : Nat} (f g : Nat → Int32) (hne : k ≠ j) : hr (hr h k f) j g = hr (hr h j g) k f := by
  funext a b
  simp only [hr]
  by_cases q : a = j
  · by_cases q2 : a = k
    · omega
    · simp [q, q2]; intro z; omega
  · by_cases q2 : a = k
    · simp [q2]; intro z; omega
    · simp [q, q2]
theorem sh_ne {k r ci n : Nat} {fks : List Nat} (hS : Sh0[k]? = some (.inl (ci, fks))) (hA : Sh0[r]? = some (.inr n)) : k ≠ r := by
  intro q
  subst q
  rw [hS] at hA
  cases hA
/-- zeros in the first n places -/
def zf (f : Nat → Int32) (n : Nat) : Nat → Int32 := fun j => if j < n then 0 else f j
theorem zf_0 (f : Nat → Int32) : zf f 0 = f := by funext j; simp [zf]
theorem zf_s (f : Nat → Int32) (n : Nat) : upd (zf f n) n 0 = zf f (n + 1) := by
  funext j
  by_cases q : j = n
  · subst q; rw [pk_us]; simp [zf]
  · rw [pk_un q]
    unfold zf
    by_cases q2 : j < n
    · rw [if_pos q2, if_pos (by omega)]
    · rw [if_neg q2, if_neg (by omega)]
/-- the first n places of g, then f -/
def cf (g f : Nat → Int32) (n : Nat) : Nat → Int32 := fun j => if j < n then g j else f j
theorem cf_0 (g f : Nat → Int32) : cf g f 0 = f := by funext j; simp [cf]
theorem cf_s (g f : Nat → Int32) (n : Nat) : upd (cf g f n) n (g n) = cf g f (n + 1) := by
  funext j
  by_cases q : j = n
  · subst q; rw [pk_us]; simp [cf]
  · rw [pk_un q]
    unfold cf
    by_cases q2 : j < n
    · rw [if_pos q2, if_pos (by omega)]
    · rw [if_neg q2, if_neg (by omega)]
theorem cf_in {g f : Nat → Int32} {n j : Nat} (h : j < n) : cf g f n j = g j := if_pos h
theorem cf_out {g f : Nat → Int32} {n j : Nat} (h : n ≤ j) : cf g f n j = f j := if_neg (by omega)
theorem zf_in {f : Nat → Int32} {n j : Nat} (h : j < n) : zf f n j = 0 := if_pos h
theorem zf_out {f : Nat → Int32} {n j : Nat} (h : n ≤ j) : zf f n j = f j := if_neg (by omega)
end
section
def txF (n : Nat) : Int := if aOf (42 + n) = 0 then 331 else if aOf (42 + n) = 1 then 333 else if aOf (42 + n) = 2 then 335 else if aOf (42 + n) = 3 then 337 else 339
set_option maxRecDepth 20000 in
theorem txF_ok : ∀ n : Fin 79, (#[335, 335, 339, 335, 339, 339, 331, 331, 331, 331, 331, 331, 331, 331, 339, 339, 339, 339, 339, 339, 339, 337, 333, 339, 339, 339, 339, 339, 339, 339, 339, 339, 339, 339, 339, 339, 339, 339, 339, 339, 339, 339, 339, 339, 339, 339, 339, 339, 339, 339, 339, 339, 339, 339, 339, 339, 339, 339, 339, 339, 339, 339, 339, 339, 339, 333, 339, 335, 339, 339, 333, 333, 333, 339, 339, 339, 339, 339, 331] : Array Int)[n.val]? = some (txF n.val) := by decide +kernel
theorem k_textsOf (l : Launch) (h : mH) (x : Int32) : mD l Sh0 iX7_textsOf [.inl x] h (some (aI x.toInt)) h := by
  intro RT hR
  show mE l Sh0 none iX7_textsOf RT 0 [some (.inl x)] [] h
  refine e_iload_n (i := 0) dX7_textsOf_0 rfl rfl ?_
  by_cases q : x.toInt < 42 ∨ 120 < x.toInt
  · refine e_tableOut (tgt := 340) dX7_textsOf_1 q (by decide) ?_
    refine e_iconst (v := (-1)) dX7_textsOf_340 (by decide) ?_
    refine e_iret dX7_textsOf_341 (mret_i _) ?_
    have e : aI x.toInt = -1 := by
      unfold aI
      rw [if_neg (by omega), if_neg (by omega), if_neg (by omega), if_neg (by omega)]
    rw [e] at hR
    exact hR
  · have hk : (x.toInt - 42).toNat < 79 := by omega
    have ho := txF_ok ⟨(x.toInt - 42).toNat, hk⟩
    have e42 : (42 : Int) + ((x.toInt - 42).toNat : Nat) = x.toInt := by omega
    simp only [txF, e42] at ho
    have hq : aOf x.toInt = 0 ∨ aOf x.toInt = 1 ∨ aOf x.toInt = 2 ∨ aOf x.toInt = 3 ∨ aOf x.toInt = -1 := by
      unfold aOf
      repeat' split
      all_goals omega
    have hi := aI_toInt x.toInt
    rcases hq with q1 | q1 | q1 | q1 | q1
    · rw [q1] at ho hi
      refine e_tableIn (off := 331) (tgt := 332) dX7_textsOf_1 (by omega) (by omega) ho (by decide) ?_
      refine e_iconst (v := (0)) dX7_textsOf_332 (by decide) ?_
      refine e_iret dX7_textsOf_333 (mret_i _) ?_
      have e : aI x.toInt = (0) := Int32.toInt_inj.mp (by rw [hi]; rfl)
      rw [e] at hR
      exact hR
    · rw [q1] at ho hi
      refine e_tableIn (off := 333) (tgt := 334) dX7_textsOf_1 (by omega) (by omega) ho (by decide) ?_
      refine e_iconst (v := (1)) dX7_textsOf_334 (by decide) ?_
      refine e_iret dX7_textsOf_335 (mret_i _) ?_
      have e : aI x.toInt = (1) := Int32.toInt_inj.mp (by rw [hi]; rfl)
      rw [e] at hR
      exact hR
    · rw [q1] at ho hi
      refine e_tableIn (off := 335) (tgt := 336) dX7_textsOf_1 (by omega) (by omega) ho (by decide) ?_
      refine e_iconst (v := (2)) dX7_textsOf_336 (by decide) ?_
      refine e_iret dX7_textsOf_337 (mret_i _) ?_
      have e : aI x.toInt = (2) := Int32.toInt_inj.mp (by rw [hi]; rfl)
      rw [e] at hR
      exact hR
    · rw [q1] at ho hi
      refine e_tableIn (off := 337) (tgt := 338) dX7_textsOf_1 (by omega) (by omega) ho (by decide) ?_
      refine e_iconst (v := (3)) dX7_textsOf_338 (by decide) ?_
      refine e_iret dX7_textsOf_339 (mret_i _) ?_
      have e : aI x.toInt = (3) := Int32.toInt_inj.mp (by rw [hi]; rfl)
      rw [e] at hR
      exact hR
    · rw [q1] at ho hi
      refine e_tableIn (off := 339) (tgt := 340) dX7_textsOf_1 (by omega) (by omega) ho (by decide) ?_
      refine e_iconst (v := (-1)) dX7_textsOf_340 (by decide) ?_
      refine e_iret dX7_textsOf_341 (mret_i _) ?_
      have e : aI x.toInt = (-1) := Int32.toInt_inj.mp (by rw [hi]; rfl)
      rw [e] at hR
      exact hR
set_option maxHeartbeats 1000000 in
theorem lp_R_start (l : Launch) {k r : Nat} (hS : Sh0[k]? = some (.inl (3, [r + 3, 0]))) (hA : Sh0[r]? = some (.inr 8)) (h : mH) (n : Nat) (hn : n ≤ 8) (hc : h k 1 = nI n) (RT : Option Int32 → mH → Prop) (y : Option mV) (hR : RT none (hr h r (zf (h r) n))) : ∀ (d i : Nat), i + d = n → mE l Sh0 none iX3_start RT 21 [some (.inr k), y, some (.inl (nI i))] [] (hr h r (zf (h r) i))
  | 0, i, hd => by
    have hkr := sh_ne hS hA
    have hc2 : ∀ f, hr h r f k 1 = nI n := fun f => by rw [hr_ne _ _ hkr]; exact hc
    refine e_iload_n (i := 2) dX3_start_21 rfl rfl ?_
    refine e_aload_n (i := 0) dX3_start_22 rfl rfl ?_
    refine e_getI (x := nI n) dX3_start_23 fl_X3_15 hS rfl (hc2 _) ?_
    refine b_icmp_ge (X := ((i : Nat) : Int)) (Y := ((n : Nat) : Int)) (tgt := 42) (nI_toInt (by omega)) (nI_toInt (by omega)) dX3_start_26 (by decide) ?_ ?_
    · intro c_26_t
      refine e_ret dX3_start_42 rfl ?_
      have e : i = n := by omega
      subst e
      exact hR
    · intro c_26_f
      exfalso; omega
  | d + 1, i, hd => by
    have hkr := sh_ne hS hA
    have hc2 : ∀ f, hr h r f k 1 = nI n := fun f => by rw [hr_ne _ _ hkr]; exact hc
    refine e_iload_n (i := 2) dX3_start_21 rfl rfl ?_
    refine e_aload_n (i := 0) dX3_start_22 rfl rfl ?_
    refine e_getI (x := nI n) dX3_start_23 fl_X3_15 hS rfl (hc2 _) ?_
    refine b_icmp_ge (X := ((i : Nat) : Int)) (Y := ((n : Nat) : Int)) (tgt := 42) (nI_toInt (by omega)) (nI_toInt (by omega)) dX3_start_26 (by decide) ?_ ?_
    · intro c_26_t
      exfalso; omega
    · intro c_26_f
      refine e_aload_n (i := 0) dX3_start_29 rfl rfl ?_
      refine e_getR (r := r) dX3_start_30 fl_X3_9 hS rfl ?_
      refine e_iload_n (i := 2) dX3_start_33 rfl rfl ?_
      refine e_iconst (v := 0) dX3_start_34 (by decide) ?_
      refine e_iast dX3_start_35 hA (vin_ofX (X := ((i : Nat) : Int)) (nI_toInt (by omega)) (by omega) (by omega)) ?_
      rw [nI_clamp (by omega)]
      refine e_iinc (v := nI (i + 1)) (ls2 := [some (.inr k), y, some (.inl (nI (i + 1)))]) dX3_start_36 rfl (nI_inc1 _) (Nat.le_of_ble_eq_true rfl) rfl ?_
      refine e_goto (tgt := 21) dX3_start_39 (by decide) ?_
      rw [hr_hs, zf_s]
      exact lp_R_start l hS hA h n hn hc RT y hR d (i + 1) (by omega)
set_option maxHeartbeats 1000000 in
theorem k_R_start (l : Launch) {k r : Nat} (hS : Sh0[k]? = some (.inl (3, [r + 3, 0]))) (hA : Sh0[r]? = some (.inr 8)) (h : mH) (n : Nat) (hn : n ≤ 8) : mD l Sh0 iX3_start [.inr k, .inl (nI n)] h (none) (hr (hs h k 1 (nI n)) r (zf (h r) n)) := by
  intro RT hR
  have hkr := sh_ne hS hA
  show mE l Sh0 none iX3_start RT 0 [some (.inr k), some (.inl (nI n)), none] [] h
  refine e_aload_n (i := 0) dX3_start_0 rfl rfl ?_
  refine e_iload_n (i := 1) dX3_start_1 rfl rfl ?_
  refine b_if_lt (X := ((n : Nat) : Int)) (tgt := 15) (nI_toInt (by omega)) dX3_start_2 (by decide) ?_ ?_
  · intro c_2_t
    exfalso; omega
  · intro c_2_f
    refine e_iload_n (i := 1) dX3_start_5 rfl rfl ?_
    refine e_bipush (v := 8) dX3_start_6 (by decide) ?_
    refine b_icmp_gt (X := ((n : Nat) : Int)) (Y := 8) (tgt := 15) (nI_toInt (by omega)) (by decide) dX3_start_8 (by decide) ?_ ?_
    · intro c_8_t
      exfalso; omega
    · intro c_8_f
      refine e_iload_n (i := 1) dX3_start_11 rfl rfl ?_
      refine e_goto (tgt := 16) dX3_start_12 (by decide) ?_
      refine e_putI dX3_start_16 fl_X3_15 fp_X3_1 hS rfl ?_
      refine e_iconst (v := 0) dX3_start_19 (by decide) ?_
      refine e_istore_n (i := 2) (ls2 := [some (.inr k), some (.inl (nI n)), some (.inl 0)]) dX3_start_20 rfl (Nat.le_of_ble_eq_true rfl) rfl ?_
      have e1 : hs h k 1 (nI n) r = h r := hs_rown h 1 (nI n) (fun q => hkr q.symm)
      have q0 := lp_R_start l hS hA (hs h k 1 (nI n)) n hn (hs_at _ _ _ _) RT (some (.inl (nI n))) (by rw [e1]; exact hR) n 0 (by omega)
      rw [zf_0, hr_self] at q0
      exact q0
set_option maxHeartbeats 1000000 in
theorem k_R_add (l : Launch) {k r : Nat} (hS : Sh0[k]? = some (.inl (3, [r + 3, 0]))) (hA : Sh0[r]? = some (.inr 8)) (h : mH) (x : Int32) (n : Nat) (hc : h k 1 = nI n) (hn : n < 8) : mD l Sh0 iX3_add [.inr k, .inl x] h (some 1) (hs (hs h r n x) k 1 (nI (n + 1))) := by
  intro RT hR
  have hkr := sh_ne hS hA
  have hc2 : hs h r n x k 1 = nI n := by rw [hs_ne _ _ (fun q => hkr q.1)]; exact hc
  show mE l Sh0 none iX3_add RT 0 [some (.inr k), some (.inl x)] [] h
  refine e_aload_n (i := 0) dX3_add_0 rfl rfl ?_
  refine e_getI (x := nI n) dX3_add_1 fl_X3_15 hS rfl (by first | exact hc | exact hc2) ?_
  refine b_if_lt (X := ((n : Nat) : Int)) (tgt := 16) (nI_toInt (by omega)) dX3_add_4 (by decide) ?_ ?_
  · intro c_4_t
    exfalso; omega
  · intro c_4_f
    refine e_aload_n (i := 0) dX3_add_7 rfl rfl ?_
    refine e_getI (x := nI n) dX3_add_8 fl_X3_15 hS rfl (by first | exact hc | exact hc2) ?_
    refine e_bipush (v := 8) dX3_add_11 (by decide) ?_
    refine b_icmp_lt (X := ((n : Nat) : Int)) (Y := 8) (tgt := 18) (nI_toInt (by omega)) (by decide) dX3_add_13 (by decide) ?_ ?_
    · intro c_13_t
      refine e_aload_n (i := 0) dX3_add_18 rfl rfl ?_
      refine e_getR (r := r) dX3_add_19 fl_X3_9 hS rfl ?_
      refine e_aload_n (i := 0) dX3_add_22 rfl rfl ?_
      refine e_getI (x := nI n) dX3_add_23 fl_X3_15 hS rfl (by first | exact hc | exact hc2) ?_
      refine e_iload_n (i := 1) dX3_add_26 rfl rfl ?_
      refine e_iast dX3_add_27 hA (vin_ofX (X := ((n : Nat) : Int)) (nI_toInt (by omega)) (by omega) (by omega)) ?_
      rw [nI_clamp (by omega)]
      refine e_aload_n (i := 0) dX3_add_28 rfl rfl ?_
      refine e_dup dX3_add_29 ?_
      refine e_getI (x := nI n) dX3_add_30 fl_X3_15 hS rfl (by first | exact hc | exact hc2) ?_
      refine e_iconst (v := 1) dX3_add_33 (by decide) ?_
      refine z_iadd (z := nI (n + 1)) (nI_addc _ 1) dX3_add_34 ?_
      refine e_putI dX3_add_35 fl_X3_15 fp_X3_1 hS rfl ?_
      refine e_iconst (v := 1) dX3_add_38 (by decide) ?_
      refine e_iret dX3_add_39 (mret_z (by first | decide | (simp only []; split <;> decide))) ?_
      exact hR
    · intro c_13_f
      exfalso; omega
set_option maxHeartbeats 1000000 in
theorem k_R_addF (l : Launch) {k r : Nat} (hS : Sh0[k]? = some (.inl (3, [r + 3, 0]))) (hA : Sh0[r]? = some (.inr 8)) (h : mH) (x : Int32) (hc : h k 1 = nI 8) : mD l Sh0 iX3_add [.inr k, .inl x] h (some 0) h := by
  intro RT hR
  show mE l Sh0 none iX3_add RT 0 [some (.inr k), some (.inl x)] [] h
  refine e_aload_n (i := 0) dX3_add_0 rfl rfl ?_
  refine e_getI (x := nI 8) dX3_add_1 fl_X3_15 hS rfl hc ?_
  refine b_if_lt (X := ((8 : Nat) : Int)) (tgt := 16) (nI_toInt (by omega)) dX3_add_4 (by decide) ?_ ?_
  · intro c_4_t
    exfalso; omega
  · intro c_4_f
    refine e_aload_n (i := 0) dX3_add_7 rfl rfl ?_
    refine e_getI (x := nI 8) dX3_add_8 fl_X3_15 hS rfl hc ?_
    refine e_bipush (v := 8) dX3_add_11 (by decide) ?_
    refine b_icmp_lt (X := ((8 : Nat) : Int)) (Y := 8) (tgt := 18) (nI_toInt (by omega)) (by decide) dX3_add_13 (by decide) ?_ ?_
    · intro c_13_t
      exfalso; omega
    · intro c_13_f
      refine e_iconst (v := 0) dX3_add_16 (by decide) ?_
      refine e_iret dX3_add_17 (mret_z (by first | decide | (simp only []; split <;> decide))) ?_
      exact hR
/-- the next row that differs among the first places -/
def rN (c : Int32) : Nat → (Nat → Int32) → Bool × (Nat → Int32)
  | 0, f => (false, f)
  | m + 1, f => if (f m).toInt < c.toInt then (true, upd f m (f m + 1)) else rN c m (upd f m 0)
theorem rVal_in {h : mH} {k r i n : Nat} (hc : h k 1 = nI n) (hi : i < n) (hn : n ≤ 8) : rVal h k r (nI i) = h r i := by
  unfold rVal
  rw [hc, nI_toInt (by omega), nI_toInt (by omega), if_pos (by omega)]
  rfl
/-- the number before -/
def dn (m : Nat) : Int32 := nI m - 1
theorem dn_0 : dn 0 = -1 := by decide
theorem dn_s (m : Nat) : dn (m + 1) = nI m := nI_pred m
theorem dn_dec (m : Nat) : nI m + Int32.ofInt (-1) = dn m := by
  unfold dn
  rw [show Int32.ofInt (-1) = -1 from by decide, Int32.sub_eq_add_neg]
theorem dn_toInt {m : Nat} (h : m < 2 ^ 30) : (dn m).toInt = (m : Int) - 1 := by
  cases m with
  | zero => rw [dn_0]; decide
  | succ m => rw [dn_s, nI_toInt (by omega)]; omega

set_option maxHeartbeats 1000000 in
theorem lp_R_next (l : Launch) {k r : Nat} (hS : Sh0[k]? = some (.inl (3, [r + 3, 0]))) (hA : Sh0[r]? = some (.inr 8)) (h : mH) (n : Nat) (hn : n ≤ 8) (hc : h k 1 = nI n) (c : Int32) (y : Option mV) (RT : Option Int32 → mH → Prop) : ∀ (m : Nat) (f : Nat → Int32), m ≤ n → RT (some (bI (rN c m f).1)) (hr h r (rN c m f).2) → mE l Sh0 none iX3_next RT 11 [some (.inr k), y, some (.inl c), some (.inl (dn m))] [] (hr h r f)
  | 0, f, hm, hR => by
    rw [dn_0]
    refine e_iload_n (i := 3) dX3_next_11 rfl rfl ?_
    refine b_if_lt (X := (-1)) (tgt := 49) (by decide) dX3_next_12 (by decide) ?_ ?_
    · intro c_12_t
      refine e_iconst (v := 0) dX3_next_49 (by decide) ?_
      refine e_iret dX3_next_50 (mret_z (by first | decide | (simp only []; split <;> decide))) ?_
      exact hR
    · intro c_12_f
      exfalso; omega
  | m + 1, f, hm, hR => by
    have hkr := sh_ne hS hA
    have hc2 : hr h r f k 1 = nI n := by rw [hr_ne _ _ hkr]; exact hc
    have hv := rVal_in (r := r) hc2 (show m < n by omega) hn
    rw [hr_at] at hv
    rw [dn_s]
    refine e_iload_n (i := 3) dX3_next_11 rfl rfl ?_
    refine b_if_lt (X := ((m : Nat) : Int)) (tgt := 49) (nI_toInt (by omega)) dX3_next_12 (by decide) ?_ ?_
    · intro c_12_t
      exfalso; omega
    · intro c_12_f
      refine e_aload_n (i := 0) dX3_next_15 rfl rfl ?_
      refine e_iload_n (i := 3) dX3_next_16 rfl rfl ?_
      refine e_invVi (As := [.inl (nI m)]) (v := f m) (h2 := (hr h r f)) dX3_next_17 lk_X3_23 yv_X3_value rfl rfl rfl (Nat.le_of_ble_eq_true rfl) hS ci_X3 (Nat.le_of_ble_eq_true rfl) ⟨Nat.le_of_ble_eq_true rfl, Nat.le_of_ble_eq_true rfl⟩ (hv ▸ k_R_value l hS hA (hr h r f) (nI m)) ?_
      refine e_iload_n (i := 2) dX3_next_20 rfl rfl ?_
      refine b_icmp_ge (X := (f m).toInt) (Y := c.toInt) (tgt := 36) rfl rfl dX3_next_21 (by decide) ?_ ?_
      · intro c_21_t
        refine e_aload_n (i := 0) dX3_next_36 rfl rfl ?_
        refine e_getR (r := r) dX3_next_37 fl_X3_9 hS rfl ?_
        refine e_iload_n (i := 3) dX3_next_40 rfl rfl ?_
        refine e_iconst (v := 0) dX3_next_41 (by decide) ?_
        refine e_iast dX3_next_42 hA (vin_ofX (X := ((m : Nat) : Int)) (nI_toInt (by omega)) (by omega) (by omega)) ?_
        rw [nI_clamp (by omega)]
        refine e_iinc (v := dn m) (ls2 := [some (.inr k), y, some (.inl c), some (.inl (dn m))]) dX3_next_43 rfl (dn_dec _) (Nat.le_of_ble_eq_true rfl) rfl ?_
        refine e_goto (tgt := 11) dX3_next_46 (by decide) ?_
        have e : rN c (m + 1) f = rN c m (upd f m 0) := if_neg (by omega)
        rw [e] at hR
        rw [hr_hs]
        exact lp_R_next l hS hA h n hn hc c y RT m (upd f m 0) (by omega) hR
      · intro c_21_f
        refine e_aload_n (i := 0) dX3_next_24 rfl rfl ?_
        refine e_getR (r := r) dX3_next_25 fl_X3_9 hS rfl ?_
        refine e_iload_n (i := 3) dX3_next_28 rfl rfl ?_
        refine e_dup2 dX3_next_29 ?_
        refine e_iald (x := f m) dX3_next_30 hA (vin_ofX (X := ((m : Nat) : Int)) (nI_toInt (by omega)) (by omega) (by omega)) (by rw [nI_clamp (by omega)]; exact (by rw [hr_at])) ?_
        refine e_iconst (v := 1) dX3_next_31 (by decide) ?_
        refine e_iadd dX3_next_32 ?_
        refine e_iast dX3_next_33 hA (vin_ofX (X := ((m : Nat) : Int)) (nI_toInt (by omega)) (by omega) (by omega)) ?_
        rw [nI_clamp (by omega)]
        refine e_iconst (v := 1) dX3_next_34 (by decide) ?_
        refine e_iret dX3_next_35 (mret_z (by first | decide | (simp only []; split <;> decide))) ?_
        have e : rN c (m + 1) f = (true, upd f m (f m + 1)) := if_pos (by omega)
        rw [e] at hR
        rw [hr_hs]
        exact hR
set_option maxHeartbeats 1000000 in
theorem k_R_next (l : Launch) {k r : Nat} (hS : Sh0[k]? = some (.inl (3, [r + 3, 0]))) (hA : Sh0[r]? = some (.inr 8)) (h : mH) (n u : Nat) (hn : n ≤ 8) (hu : u ≤ n) (hc : h k 1 = nI n) (c : Int32) : mD l Sh0 iX3_next [.inr k, .inl (nI u), .inl c] h (some (bI (rN c u (h r)).1)) (hr h r (rN c u (h r)).2) := by
  intro RT hR
  show mE l Sh0 none iX3_next RT 0 [some (.inr k), some (.inl (nI u)), some (.inl c), none] [] h
  refine e_iload_n (i := 1) dX3_next_0 rfl rfl ?_
  refine e_aload_n (i := 0) dX3_next_1 rfl rfl ?_
  refine e_getI (x := nI n) dX3_next_2 fl_X3_15 hS rfl hc ?_
  refine e_min dX3_next_5 lk_X3_27 mm_min.1 mm_min.2.1 mm_min.2.2 ⟨Nat.le_of_ble_eq_true rfl, Nat.le_of_ble_eq_true rfl⟩ ?_
  rw [show (if nI n < nI u then nI n else nI u : Int32) = nI u from (by split <;> first | rfl | (rename_i q; rw [nI_ltI (by omega) (by omega)] at q; exfalso; omega))]
  refine e_iconst (v := 1) dX3_next_8 (by decide) ?_
  refine z_isub (z := dn u) rfl dX3_next_9 ?_
  refine e_istore_n (i := 3) (ls2 := [some (.inr k), some (.inl (nI u)), some (.inl c), some (.inl (dn u))]) dX3_next_10 rfl (Nat.le_of_ble_eq_true rfl) rfl ?_
  have q0 := lp_R_next l hS hA h n hn hc c (some (.inl (nI u))) RT u (h r) hu hR
  rw [hr_self] at q0
  exact q0
end
section
theorem i32_add1 {x : Int32} (h : x.toInt < 2147483647) : (x + 1).toInt = x.toInt + 1 := by
  have h1 := i32_lo x
  rw [Int32.toInt_add, show (1 : Int32).toInt = 1 from by decide]
  exact Int.bmod_eq_of_le (by omega) (by omega)
set_option maxHeartbeats 1000000 in
theorem k_B_hand (l : Launch) (h : mH) (x : Int32) : mD l Sh0 iX0_hand [.inr 2, .inl x] h (some (cHand h x)) h := by
  intro RT hR
  show mE l Sh0 none iX0_hand RT 0 [some (.inr 2), some (.inl x), none] [] h
  refine e_iload_n (i := 1) dX0_hand_0 rfl rfl ?_
  refine b_if_lt (X := x.toInt) (tgt := 26) rfl dX0_hand_1 (by decide) ?_ ?_
  · intro c_1_t
    refine e_iconst (v := 0) dX0_hand_26 (by decide) ?_
    refine e_istore_n (i := 2) (ls2 := [some (.inr 2), some (.inl x), some (.inl 0)]) dX0_hand_27 rfl (Nat.le_of_ble_eq_true rfl) rfl ?_
    refine e_iload_n (i := 2) dX0_hand_28 rfl rfl ?_
    refine b_if_eq (X := 0) (tgt := 46) (by decide) dX0_hand_29 (by decide) ?_ ?_
    · intro e_29_t c_29_t
      refine e_iconst (v := (-1)) dX0_hand_46 (by decide) ?_
      refine e_iret dX0_hand_47 (mret_i _) ?_
      unfold cHand at hR; first | exact hR | ((repeat' (split at hR)) <;> first | exact hR | (exfalso; omega))
    · intro e_29_f c_29_f
      exfalso; omega
  · intro c_1_f
    refine e_iload_n (i := 1) dX0_hand_4 rfl rfl ?_
    refine e_sipush (v := 799) dX0_hand_5 (by decide) ?_
    refine b_icmp_ge (X := x.toInt) (Y := 799) (tgt := 26) rfl (by decide) dX0_hand_8 (by decide) ?_ ?_
    · intro c_8_t
      refine e_iconst (v := 0) dX0_hand_26 (by decide) ?_
      refine e_istore_n (i := 2) (ls2 := [some (.inr 2), some (.inl x), some (.inl 0)]) dX0_hand_27 rfl (Nat.le_of_ble_eq_true rfl) rfl ?_
      refine e_iload_n (i := 2) dX0_hand_28 rfl rfl ?_
      refine b_if_eq (X := 0) (tgt := 46) (by decide) dX0_hand_29 (by decide) ?_ ?_
      · intro e_29_t c_29_t
        refine e_iconst (v := (-1)) dX0_hand_46 (by decide) ?_
        refine e_iret dX0_hand_47 (mret_i _) ?_
        unfold cHand at hR; first | exact hR | ((repeat' (split at hR)) <;> first | exact hR | (exfalso; omega))
      · intro e_29_f c_29_f
        exfalso; omega
    · intro c_8_f
      refine e_aload_n (i := 0) dX0_hand_11 rfl rfl ?_
      refine e_getR (r := 13) dX0_hand_12 fl_X0_9 sh_2 fj_2_0 ?_
      refine e_iload_n (i := 1) dX0_hand_15 rfl rfl ?_
      refine e_iald (x := h 13 ((x).toInt.toNat)) dX0_hand_16 sh_13 (vin_ofX (X := x.toInt) rfl (by omega) (by omega)) rfl ?_
      refine e_bipush (v := 64) dX0_hand_17 (by decide) ?_
      refine b_icmp_ne (X := (h 13 ((x).toInt.toNat)).toInt) (Y := 64) (tgt := 26) rfl (by decide) dX0_hand_19 (by decide) ?_ ?_
      · intro e_19_t c_19_t
        refine e_iconst (v := 0) dX0_hand_26 (by decide) ?_
        refine e_istore_n (i := 2) (ls2 := [some (.inr 2), some (.inl x), some (.inl 0)]) dX0_hand_27 rfl (Nat.le_of_ble_eq_true rfl) rfl ?_
        refine e_iload_n (i := 2) dX0_hand_28 rfl rfl ?_
        refine b_if_eq (X := 0) (tgt := 46) (by decide) dX0_hand_29 (by decide) ?_ ?_
        · intro e_29_t c_29_t
          refine e_iconst (v := (-1)) dX0_hand_46 (by decide) ?_
          refine e_iret dX0_hand_47 (mret_i _) ?_
          unfold cHand at hR; first | exact hR | ((repeat' (split at hR)) <;> first | exact hR | (exfalso; omega))
        · intro e_29_f c_29_f
          exfalso; omega
      · intro e_19_f c_19_f
        refine e_iconst (v := 1) dX0_hand_22 (by decide) ?_
        refine e_goto (tgt := 27) dX0_hand_23 (by decide) ?_
        refine e_istore_n (i := 2) (ls2 := [some (.inr 2), some (.inl x), some (.inl 1)]) dX0_hand_27 rfl (Nat.le_of_ble_eq_true rfl) rfl ?_
        refine e_iload_n (i := 2) dX0_hand_28 rfl rfl ?_
        refine b_if_eq (X := 1) (tgt := 46) (by decide) dX0_hand_29 (by decide) ?_ ?_
        · intro e_29_t c_29_t
          exfalso; omega
        · intro e_29_f c_29_f
          refine e_aload_n (i := 0) dX0_hand_32 rfl rfl ?_
          refine e_getR (r := 13) dX0_hand_33 fl_X0_9 sh_2 fj_2_0 ?_
          refine e_iload_n (i := 1) dX0_hand_36 rfl rfl ?_
          refine e_iconst (v := 1) dX0_hand_37 (by decide) ?_
          refine e_iadd dX0_hand_38 ?_
          refine e_iald (x := h 13 ((x + 1).toInt.toNat)) dX0_hand_39 sh_13 (vin_ofX (X := (x.toInt + 1)) (i32_add1 (by omega)) (by omega) (by omega)) rfl ?_
          refine e_bipush (v := 48) dX0_hand_40 (by decide) ?_
          refine e_isub dX0_hand_42 ?_
          refine e_goto (tgt := 47) dX0_hand_43 (by decide) ?_
          refine e_iret dX0_hand_47 (mret_i _) ?_
          unfold cHand at hR; first | exact hR | ((repeat' (split at hR)) <;> first | exact hR | (exfalso; omega))
set_option maxHeartbeats 1000000 in
theorem k_T_stands (l : Launch) (h : mH) (i m : Nat) (hm : h 7 2 = nI m) (hi : i < m) (hM : m ≤ 8200) : mD l Sh0 iX5_stands [.inr 7, .inl (nI i)] h (some 1) h := by
  intro RT hR
  show mE l Sh0 none iX5_stands RT 0 [some (.inr 7), some (.inl (nI i))] [] h
  refine e_iload_n (i := 1) dX5_stands_0 rfl rfl ?_
  refine b_if_lt (X := ((i : Nat) : Int)) (tgt := 23) (nI_toInt (by omega)) dX5_stands_1 (by decide) ?_ ?_
  · intro c_1_t
    exfalso; omega
  · intro c_1_f
    refine e_iload_n (i := 1) dX5_stands_4 rfl rfl ?_
    refine e_aload_n (i := 0) dX5_stands_5 rfl rfl ?_
    refine e_getI (x := nI m) dX5_stands_6 fl_X5_18 sh_7 fj_7_2 hm ?_
    refine b_icmp_ge (X := ((i : Nat) : Int)) (Y := ((m : Nat) : Int)) (tgt := 23) (nI_toInt (by omega)) (nI_toInt (by omega)) dX5_stands_9 (by decide) ?_ ?_
    · intro c_9_t
      exfalso; omega
    · intro c_9_f
      refine e_iload_n (i := 1) dX5_stands_12 rfl rfl ?_
      refine e_sipush (v := 8200) dX5_stands_13 (by decide) ?_
      refine b_icmp_ge (X := ((i : Nat) : Int)) (Y := 8200) (tgt := 23) (nI_toInt (by omega)) (by decide) dX5_stands_16 (by decide) ?_ ?_
      · intro c_16_t
        exfalso; omega
      · intro c_16_f
        refine e_iconst (v := 1) dX5_stands_19 (by decide) ?_
        refine e_goto (tgt := 24) dX5_stands_20 (by decide) ?_
        refine e_iret dX5_stands_24 (mret_z (by first | decide | (simp only []; split <;> decide))) ?_
        exact hR
set_option maxHeartbeats 1000000 in
theorem k_T_place (l : Launch) (h : mH) (i m : Nat) (hm : h 7 2 = nI m) (hi : i < m) (hM : m ≤ 8200) : mD l Sh0 iX5_place [.inr 7, .inl (nI i)] h (some (h 20 i &&& 1023)) h := by
  intro RT hR
  show mE l Sh0 none iX5_place RT 0 [some (.inr 7), some (.inl (nI i))] [] h
  refine e_aload_n (i := 0) dX5_place_0 rfl rfl ?_
  refine e_iload_n (i := 1) dX5_place_1 rfl rfl ?_
  refine e_invVi (As := [.inl (nI i)]) (v := 1) (h2 := h) dX5_place_2 lk_X5_25 yv_X5_stands rfl rfl rfl (Nat.le_of_ble_eq_true rfl) sh_7 ci_X5 (Nat.le_of_ble_eq_true rfl) ⟨Nat.le_of_ble_eq_true rfl, Nat.le_of_ble_eq_true rfl⟩ (k_T_stands l h i m hm hi hM) ?_
  refine b_if_eq (X := 1) (tgt := 21) (by decide) dX5_place_5 (by decide) ?_ ?_
  · intro e_5_t c_5_t
    exfalso; omega
  · intro e_5_f c_5_f
    refine e_aload_n (i := 0) dX5_place_8 rfl rfl ?_
    refine e_getR (r := 20) dX5_place_9 fl_X5_11 sh_7 fj_7_0 ?_
    refine e_iload_n (i := 1) dX5_place_12 rfl rfl ?_
    refine e_iald (x := h 20 i) dX5_place_13 sh_20 (vin_ofX (X := ((i : Nat) : Int)) (nI_toInt (by omega)) (by omega) (by omega)) (by rw [nI_clamp (by omega)]) ?_
    refine e_sipush (v := 1023) dX5_place_14 (by decide) ?_
    refine e_iand dX5_place_17 ?_
    refine e_goto (tgt := 22) dX5_place_18 (by decide) ?_
    refine e_iret dX5_place_22 (mret_i _) ?_
    exact hR
set_option maxHeartbeats 1000000 in
theorem k_T_call (l : Launch) (h : mH) (i m : Nat) (hm : h 7 2 = nI m) (hi : i < m) (hM : m ≤ 8200) : mD l Sh0 iX5_call [.inr 7, .inl (nI i)] h (some (h 20 i >>> (14 &&& 31))) h := by
  intro RT hR
  show mE l Sh0 none iX5_call RT 0 [some (.inr 7), some (.inl (nI i))] [] h
  refine e_aload_n (i := 0) dX5_call_0 rfl rfl ?_
  refine e_iload_n (i := 1) dX5_call_1 rfl rfl ?_
  refine e_invVi (As := [.inl (nI i)]) (v := 1) (h2 := h) dX5_call_2 lk_X5_25 yv_X5_stands rfl rfl rfl (Nat.le_of_ble_eq_true rfl) sh_7 ci_X5 (Nat.le_of_ble_eq_true rfl) ⟨Nat.le_of_ble_eq_true rfl, Nat.le_of_ble_eq_true rfl⟩ (k_T_stands l h i m hm hi hM) ?_
  refine b_if_eq (X := 1) (tgt := 20) (by decide) dX5_call_5 (by decide) ?_ ?_
  · intro e_5_t c_5_t
    exfalso; omega
  · intro e_5_f c_5_f
    refine e_aload_n (i := 0) dX5_call_8 rfl rfl ?_
    refine e_getR (r := 20) dX5_call_9 fl_X5_11 sh_7 fj_7_0 ?_
    refine e_iload_n (i := 1) dX5_call_12 rfl rfl ?_
    refine e_iald (x := h 20 i) dX5_call_13 sh_20 (vin_ofX (X := ((i : Nat) : Int)) (nI_toInt (by omega)) (by omega) (by omega)) (by rw [nI_clamp (by omega)]) ?_
    refine e_bipush (v := 14) dX5_call_14 (by decide) ?_
    refine e_ishr dX5_call_16 ?_
    refine e_goto (tgt := 21) dX5_call_17 (by decide) ?_
    refine e_iret dX5_call_21 (mret_i _) ?_
    exact hR
set_option maxHeartbeats 1000000 in
theorem k_T_below (l : Launch) (h : mH) (i m : Nat) (hm : h 7 2 = nI m) (hi : i < m) (hM : m ≤ 8200) : mD l Sh0 iX5_below [.inr 7, .inl (nI i)] h (some (h 21 i)) h := by
  intro RT hR
  show mE l Sh0 none iX5_below RT 0 [some (.inr 7), some (.inl (nI i))] [] h
  refine e_aload_n (i := 0) dX5_below_0 rfl rfl ?_
  refine e_iload_n (i := 1) dX5_below_1 rfl rfl ?_
  refine e_invVi (As := [.inl (nI i)]) (v := 1) (h2 := h) dX5_below_2 lk_X5_25 yv_X5_stands rfl rfl rfl (Nat.le_of_ble_eq_true rfl) sh_7 ci_X5 (Nat.le_of_ble_eq_true rfl) ⟨Nat.le_of_ble_eq_true rfl, Nat.le_of_ble_eq_true rfl⟩ (k_T_stands l h i m hm hi hM) ?_
  refine b_if_eq (X := 1) (tgt := 17) (by decide) dX5_below_5 (by decide) ?_ ?_
  · intro e_5_t c_5_t
    exfalso; omega
  · intro e_5_f c_5_f
    refine e_aload_n (i := 0) dX5_below_8 rfl rfl ?_
    refine e_getR (r := 21) dX5_below_9 fl_X5_15 sh_7 fj_7_1 ?_
    refine e_iload_n (i := 1) dX5_below_12 rfl rfl ?_
    refine e_iald (x := h 21 i) dX5_below_13 sh_21 (vin_ofX (X := ((i : Nat) : Int)) (nI_toInt (by omega)) (by omega) (by omega)) (by rw [nI_clamp (by omega)]) ?_
    refine e_goto (tgt := 18) dX5_below_14 (by decide) ?_
    refine e_iret dX5_below_18 (mret_i _) ?_
    exact hR
set_option maxHeartbeats 1000000 in
theorem k_T_held (l : Launch) (h : mH) (i m : Nat) (hm : h 7 2 = nI m) (hi : i < m) (hM : m ≤ 8200) : mD l Sh0 iX5_held [.inr 7, .inl (nI i)] h (some (((h 20 i >>> (10 &&& 31)) &&& 15) - 1)) h := by
  intro RT hR
  show mE l Sh0 none iX5_held RT 0 [some (.inr 7), some (.inl (nI i))] [] h
  refine e_aload_n (i := 0) dX5_held_0 rfl rfl ?_
  refine e_iload_n (i := 1) dX5_held_1 rfl rfl ?_
  refine e_invVi (As := [.inl (nI i)]) (v := 1) (h2 := h) dX5_held_2 lk_X5_25 yv_X5_stands rfl rfl rfl (Nat.le_of_ble_eq_true rfl) sh_7 ci_X5 (Nat.le_of_ble_eq_true rfl) ⟨Nat.le_of_ble_eq_true rfl, Nat.le_of_ble_eq_true rfl⟩ (k_T_stands l h i m hm hi hM) ?_
  refine b_if_eq (X := 1) (tgt := 25) (by decide) dX5_held_5 (by decide) ?_ ?_
  · intro e_5_t c_5_t
    exfalso; omega
  · intro e_5_f c_5_f
    refine e_aload_n (i := 0) dX5_held_8 rfl rfl ?_
    refine e_getR (r := 20) dX5_held_9 fl_X5_11 sh_7 fj_7_0 ?_
    refine e_iload_n (i := 1) dX5_held_12 rfl rfl ?_
    refine e_iald (x := h 20 i) dX5_held_13 sh_20 (vin_ofX (X := ((i : Nat) : Int)) (nI_toInt (by omega)) (by omega) (by omega)) (by rw [nI_clamp (by omega)]) ?_
    refine e_bipush (v := 10) dX5_held_14 (by decide) ?_
    refine e_ishr dX5_held_16 ?_
    refine e_bipush (v := 15) dX5_held_17 (by decide) ?_
    refine e_iand dX5_held_19 ?_
    refine e_iconst (v := 1) dX5_held_20 (by decide) ?_
    refine e_isub dX5_held_21 ?_
    refine e_goto (tgt := 26) dX5_held_22 (by decide) ?_
    refine e_iret dX5_held_26 (mret_i _) ?_
    exact hR
set_option maxHeartbeats 1000000 in
theorem k_T_hold (l : Launch) (h : mH) (i m : Nat) (hm : h 7 2 = nI m) (hi : i < m) (hM : m ≤ 8200) (x : Int32) : mD l Sh0 iX5_hold [.inr 7, .inl (nI i), .inl x] h (none) (hs h 20 i (h 20 i ||| ((x + 1) <<< (10 &&& 31)))) := by
  intro RT hR
  show mE l Sh0 none iX5_hold RT 0 [some (.inr 7), some (.inl (nI i)), some (.inl x)] [] h
  refine e_aload_n (i := 0) dX5_hold_0 rfl rfl ?_
  refine e_iload_n (i := 1) dX5_hold_1 rfl rfl ?_
  refine e_invVi (As := [.inl (nI i)]) (v := 1) (h2 := h) dX5_hold_2 lk_X5_25 yv_X5_stands rfl rfl rfl (Nat.le_of_ble_eq_true rfl) sh_7 ci_X5 (Nat.le_of_ble_eq_true rfl) ⟨Nat.le_of_ble_eq_true rfl, Nat.le_of_ble_eq_true rfl⟩ (k_T_stands l h i m hm hi hM) ?_
  refine b_if_eq (X := 1) (tgt := 23) (by decide) dX5_hold_5 (by decide) ?_ ?_
  · intro e_5_t c_5_t
    exfalso; omega
  · intro e_5_f c_5_f
    refine e_aload_n (i := 0) dX5_hold_8 rfl rfl ?_
    refine e_getR (r := 20) dX5_hold_9 fl_X5_11 sh_7 fj_7_0 ?_
    refine e_iload_n (i := 1) dX5_hold_12 rfl rfl ?_
    refine e_dup2 dX5_hold_13 ?_
    refine e_iald (x := h 20 i) dX5_hold_14 sh_20 (vin_ofX (X := ((i : Nat) : Int)) (nI_toInt (by omega)) (by omega) (by omega)) (by rw [nI_clamp (by omega)]) ?_
    refine e_iload_n (i := 2) dX5_hold_15 rfl rfl ?_
    refine e_iconst (v := 1) dX5_hold_16 (by decide) ?_
    refine e_iadd dX5_hold_17 ?_
    refine e_bipush (v := 10) dX5_hold_18 (by decide) ?_
    refine e_ishl dX5_hold_20 ?_
    refine e_ior dX5_hold_21 ?_
    refine e_iast dX5_hold_22 sh_20 (vin_ofX (X := ((i : Nat) : Int)) (nI_toInt (by omega)) (by omega) (by omega)) ?_
    rw [nI_clamp (by omega)]
    refine e_ret dX5_hold_23 rfl ?_
    exact hR
def mkH (h : mH) (m : Nat) (a b : Int32) : mH := hs (hs (hs h 20 m a) 21 m b) 7 2 (nI (m + 1))
set_option maxHeartbeats 1000000 in
theorem k_T_make (l : Launch) (h : mH) (m : Nat) (hm : h 7 2 = nI m) (hM : m < 8200) (x y : Int32) : mD l Sh0 iX5_make [.inr 7, .inl x, .inl y] h (some 1) (mkH h m x y) := by
  intro RT hR
  show mE l Sh0 none iX5_make RT 0 [some (.inr 7), some (.inl x), some (.inl y)] [] h
  refine e_aload_n (i := 0) dX5_make_0 rfl rfl ?_
  refine e_getI (x := nI m) dX5_make_1 fl_X5_18 sh_7 fj_7_2 hm ?_
  refine b_if_lt (X := ((m : Nat) : Int)) (tgt := 17) (nI_toInt (by omega)) dX5_make_4 (by decide) ?_ ?_
  · intro c_4_t
    exfalso; omega
  · intro c_4_f
    refine e_aload_n (i := 0) dX5_make_7 rfl rfl ?_
    refine e_getI (x := nI m) dX5_make_8 fl_X5_18 sh_7 fj_7_2 hm ?_
    refine e_sipush (v := 8200) dX5_make_11 (by decide) ?_
    refine b_icmp_lt (X := ((m : Nat) : Int)) (Y := 8200) (tgt := 19) (nI_toInt (by omega)) (by decide) dX5_make_14 (by decide) ?_ ?_
    · intro c_14_t
      refine e_aload_n (i := 0) dX5_make_19 rfl rfl ?_
      refine e_getR (r := 20) dX5_make_20 fl_X5_11 sh_7 fj_7_0 ?_
      refine e_aload_n (i := 0) dX5_make_23 rfl rfl ?_
      refine e_getI (x := nI m) dX5_make_24 fl_X5_18 sh_7 fj_7_2 hm ?_
      refine e_iload_n (i := 1) dX5_make_27 rfl rfl ?_
      refine e_iast dX5_make_28 sh_20 (vin_ofX (X := ((m : Nat) : Int)) (nI_toInt (by omega)) (by omega) (by omega)) ?_
      rw [nI_clamp (by omega)]
      refine e_aload_n (i := 0) dX5_make_29 rfl rfl ?_
      refine e_getR (r := 21) dX5_make_30 fl_X5_15 sh_7 fj_7_1 ?_
      refine e_aload_n (i := 0) dX5_make_33 rfl rfl ?_
      refine e_getI (x := nI m) dX5_make_34 fl_X5_18 sh_7 fj_7_2 hm ?_
      refine e_iload_n (i := 2) dX5_make_37 rfl rfl ?_
      refine e_iast dX5_make_38 sh_21 (vin_ofX (X := ((m : Nat) : Int)) (nI_toInt (by omega)) (by omega) (by omega)) ?_
      rw [nI_clamp (by omega)]
      refine e_aload_n (i := 0) dX5_make_39 rfl rfl ?_
      refine e_dup dX5_make_40 ?_
      refine e_getI (x := nI m) dX5_make_41 fl_X5_18 sh_7 fj_7_2 hm ?_
      refine e_iconst (v := 1) dX5_make_44 (by decide) ?_
      refine z_iadd (z := nI (m + 1)) (nI_addc _ 1) dX5_make_45 ?_
      refine e_putI dX5_make_46 fl_X5_18 fp_X5_2 sh_7 fj_7_2 ?_
      refine e_iconst (v := 1) dX5_make_49 (by decide) ?_
      refine e_iret dX5_make_50 (mret_z (by first | decide | (simp only []; split <;> decide))) ?_
      exact hR
    · intro c_14_f
      exfalso; omega
set_option maxHeartbeats 1000000 in
theorem k_T_push (l : Launch) (h : mH) (m : Nat) (hm : h 7 2 = nI m) (hM : m < 8200) (x y : Int32) : mD l Sh0 iX5_push [.inr 7, .inl x, .inl y] h (some 1) (mkH (hs h 7 3 (nI m)) m (x ||| (y <<< (14 &&& 31))) (h 7 3)) := by
  intro RT hR
  show mE l Sh0 none iX5_push RT 0 [some (.inr 7), some (.inl x), some (.inl y), none] [] h
  refine e_aload_n (i := 0) dX5_push_0 rfl rfl ?_
  refine e_getI (x := h 7 3) dX5_push_1 fl_X5_22 sh_7 fj_7_3 rfl ?_
  refine e_istore_n (i := 3) (ls2 := [some (.inr 7), some (.inl x), some (.inl y), some (.inl (h 7 3))]) dX5_push_4 rfl (Nat.le_of_ble_eq_true rfl) rfl ?_
  refine e_aload_n (i := 0) dX5_push_5 rfl rfl ?_
  refine e_aload_n (i := 0) dX5_push_6 rfl rfl ?_
  refine e_getI (x := nI m) dX5_push_7 fl_X5_18 sh_7 fj_7_2 hm ?_
  refine e_putI dX5_push_10 fl_X5_22 fp_X5_3 sh_7 fj_7_3 ?_
  refine e_aload_n (i := 0) dX5_push_13 rfl rfl ?_
  refine e_iload_n (i := 1) dX5_push_14 rfl rfl ?_
  refine e_iload_n (i := 2) dX5_push_15 rfl rfl ?_
  refine e_bipush (v := 14) dX5_push_16 (by decide) ?_
  refine e_ishl dX5_push_18 ?_
  refine e_ior dX5_push_19 ?_
  refine e_iload_n (i := 3) dX5_push_20 rfl rfl ?_
  refine e_invVi (As := [.inl (x ||| (y <<< (14 &&& 31))), .inl (h 7 3)]) (v := 1) (h2 := (mkH (hs h 7 3 (nI m)) m (x ||| (y <<< (14 &&& 31))) (h 7 3))) dX5_push_21 lk_X5_29 yv_X5_make rfl rfl rfl (Nat.le_of_ble_eq_true rfl) sh_7 ci_X5 (Nat.le_of_ble_eq_true rfl) ⟨Nat.le_of_ble_eq_true rfl, Nat.le_of_ble_eq_true rfl⟩ (k_T_make l (hs h 7 3 (nI m)) m hm hM (x ||| (y <<< (14 &&& 31))) (h 7 3)) ?_
  refine e_iret dX5_push_24 (mret_z (by first | decide | (simp only []; split <;> decide))) ?_
  exact hR
set_option maxHeartbeats 1000000 in
theorem k_T_clear (l : Launch) (h : mH) : mD l Sh0 iX5_clear [.inr 7] h (none) (hs (hs h 7 2 0) 7 3 (-1)) := by
  intro RT hR
  show mE l Sh0 none iX5_clear RT 0 [some (.inr 7)] [] h
  refine e_aload_n (i := 0) dX5_clear_0 rfl rfl ?_
  refine e_iconst (v := 0) dX5_clear_1 (by decide) ?_
  refine e_putI dX5_clear_2 fl_X5_18 fp_X5_2 sh_7 fj_7_2 ?_
  refine e_aload_n (i := 0) dX5_clear_5 rfl rfl ?_
  refine e_iconst (v := (-1)) dX5_clear_6 (by decide) ?_
  refine e_putI dX5_clear_7 fl_X5_22 fp_X5_3 sh_7 fj_7_3 ?_
  refine e_ret dX5_clear_10 rfl ?_
  exact hR
set_option maxHeartbeats 1000000 in
theorem k_C_stands (l : Launch) (h : mH) (i m : Nat) (hm : h 8 3 = nI m) (hi : i < m) (hM : m ≤ 201) : mD l Sh0 iX1_stands [.inr 8, .inl (nI i)] h (some 1) h := by
  intro RT hR
  show mE l Sh0 none iX1_stands RT 0 [some (.inr 8), some (.inl (nI i))] [] h
  refine e_iload_n (i := 1) dX1_stands_0 rfl rfl ?_
  refine b_if_lt (X := ((i : Nat) : Int)) (tgt := 23) (nI_toInt (by omega)) dX1_stands_1 (by decide) ?_ ?_
  · intro c_1_t
    exfalso; omega
  · intro c_1_f
    refine e_iload_n (i := 1) dX1_stands_4 rfl rfl ?_
    refine e_aload_n (i := 0) dX1_stands_5 rfl rfl ?_
    refine e_getI (x := nI m) dX1_stands_6 fl_X1_21 sh_8 fj_8_3 hm ?_
    refine b_icmp_ge (X := ((i : Nat) : Int)) (Y := ((m : Nat) : Int)) (tgt := 23) (nI_toInt (by omega)) (nI_toInt (by omega)) dX1_stands_9 (by decide) ?_ ?_
    · intro c_9_t
      exfalso; omega
    · intro c_9_f
      refine e_iload_n (i := 1) dX1_stands_12 rfl rfl ?_
      refine e_sipush (v := 201) dX1_stands_13 (by decide) ?_
      refine b_icmp_ge (X := ((i : Nat) : Int)) (Y := 201) (tgt := 23) (nI_toInt (by omega)) (by decide) dX1_stands_16 (by decide) ?_ ?_
      · intro c_16_t
        exfalso; omega
      · intro c_16_f
        refine e_iconst (v := 1) dX1_stands_19 (by decide) ?_
        refine e_goto (tgt := 24) dX1_stands_20 (by decide) ?_
        refine e_iret dX1_stands_24 (mret_z (by first | decide | (simp only []; split <;> decide))) ?_
        exact hR
set_option maxHeartbeats 1000000 in
theorem k_C_argument (l : Launch) (h : mH) (i m : Nat) (hm : h 8 3 = nI m) (hi : i < m) (hM : m ≤ 201) : mD l Sh0 iX1_argument [.inr 8, .inl (nI i)] h (some (h 22 i)) h := by
  intro RT hR
  show mE l Sh0 none iX1_argument RT 0 [some (.inr 8), some (.inl (nI i))] [] h
  refine e_aload_n (i := 0) dX1_argument_0 rfl rfl ?_
  refine e_iload_n (i := 1) dX1_argument_1 rfl rfl ?_
  refine e_invVi (As := [.inl (nI i)]) (v := 1) (h2 := h) dX1_argument_2 lk_X1_25 yv_X1_stands rfl rfl rfl (Nat.le_of_ble_eq_true rfl) sh_8 ci_X1 (Nat.le_of_ble_eq_true rfl) ⟨Nat.le_of_ble_eq_true rfl, Nat.le_of_ble_eq_true rfl⟩ (k_C_stands l h i m hm hi hM) ?_
  refine b_if_eq (X := 1) (tgt := 17) (by decide) dX1_argument_5 (by decide) ?_ ?_
  · intro e_5_t c_5_t
    exfalso; omega
  · intro e_5_f c_5_f
    refine e_aload_n (i := 0) dX1_argument_8 rfl rfl ?_
    refine e_getR (r := 22) dX1_argument_9 fl_X1_11 sh_8 fj_8_0 ?_
    refine e_iload_n (i := 1) dX1_argument_12 rfl rfl ?_
    refine e_iald (x := h 22 i) dX1_argument_13 sh_22 (vin_ofX (X := ((i : Nat) : Int)) (nI_toInt (by omega)) (by omega) (by omega)) (by rw [nI_clamp (by omega)]) ?_
    refine e_goto (tgt := 18) dX1_argument_14 (by decide) ?_
    refine e_iret dX1_argument_18 (mret_i _) ?_
    exact hR
set_option maxHeartbeats 1000000 in
theorem k_C_keptTop (l : Launch) (h : mH) (i m : Nat) (hm : h 8 3 = nI m) (hi : i < m) (hM : m ≤ 201) : mD l Sh0 iX1_keptTop [.inr 8, .inl (nI i)] h (some (h 23 i)) h := by
  intro RT hR
  show mE l Sh0 none iX1_keptTop RT 0 [some (.inr 8), some (.inl (nI i))] [] h
  refine e_aload_n (i := 0) dX1_keptTop_0 rfl rfl ?_
  refine e_iload_n (i := 1) dX1_keptTop_1 rfl rfl ?_
  refine e_invVi (As := [.inl (nI i)]) (v := 1) (h2 := h) dX1_keptTop_2 lk_X1_25 yv_X1_stands rfl rfl rfl (Nat.le_of_ble_eq_true rfl) sh_8 ci_X1 (Nat.le_of_ble_eq_true rfl) ⟨Nat.le_of_ble_eq_true rfl, Nat.le_of_ble_eq_true rfl⟩ (k_C_stands l h i m hm hi hM) ?_
  refine b_if_eq (X := 1) (tgt := 17) (by decide) dX1_keptTop_5 (by decide) ?_ ?_
  · intro e_5_t c_5_t
    exfalso; omega
  · intro e_5_f c_5_f
    refine e_aload_n (i := 0) dX1_keptTop_8 rfl rfl ?_
    refine e_getR (r := 23) dX1_keptTop_9 fl_X1_15 sh_8 fj_8_1 ?_
    refine e_iload_n (i := 1) dX1_keptTop_12 rfl rfl ?_
    refine e_iald (x := h 23 i) dX1_keptTop_13 sh_23 (vin_ofX (X := ((i : Nat) : Int)) (nI_toInt (by omega)) (by omega) (by omega)) (by rw [nI_clamp (by omega)]) ?_
    refine e_goto (tgt := 18) dX1_keptTop_14 (by decide) ?_
    refine e_iret dX1_keptTop_18 (mret_i _) ?_
    exact hR
set_option maxHeartbeats 1000000 in
theorem k_C_keptHand (l : Launch) (h : mH) (i m : Nat) (hm : h 8 3 = nI m) (hi : i < m) (hM : m ≤ 201) : mD l Sh0 iX1_keptHand [.inr 8, .inl (nI i)] h (some (h 24 i)) h := by
  intro RT hR
  show mE l Sh0 none iX1_keptHand RT 0 [some (.inr 8), some (.inl (nI i))] [] h
  refine e_aload_n (i := 0) dX1_keptHand_0 rfl rfl ?_
  refine e_iload_n (i := 1) dX1_keptHand_1 rfl rfl ?_
  refine e_invVi (As := [.inl (nI i)]) (v := 1) (h2 := h) dX1_keptHand_2 lk_X1_25 yv_X1_stands rfl rfl rfl (Nat.le_of_ble_eq_true rfl) sh_8 ci_X1 (Nat.le_of_ble_eq_true rfl) ⟨Nat.le_of_ble_eq_true rfl, Nat.le_of_ble_eq_true rfl⟩ (k_C_stands l h i m hm hi hM) ?_
  refine b_if_eq (X := 1) (tgt := 17) (by decide) dX1_keptHand_5 (by decide) ?_ ?_
  · intro e_5_t c_5_t
    exfalso; omega
  · intro e_5_f c_5_f
    refine e_aload_n (i := 0) dX1_keptHand_8 rfl rfl ?_
    refine e_getR (r := 24) dX1_keptHand_9 fl_X1_18 sh_8 fj_8_2 ?_
    refine e_iload_n (i := 1) dX1_keptHand_12 rfl rfl ?_
    refine e_iald (x := h 24 i) dX1_keptHand_13 sh_24 (vin_ofX (X := ((i : Nat) : Int)) (nI_toInt (by omega)) (by omega) (by omega)) (by rw [nI_clamp (by omega)]) ?_
    refine e_goto (tgt := 18) dX1_keptHand_14 (by decide) ?_
    refine e_iret dX1_keptHand_18 (mret_i _) ?_
    exact hR
def enH (h : mH) (m : Nat) (a b c : Int32) : mH := hs (hs (hs (hs h 22 m a) 23 m b) 24 m c) 8 3 (nI (m + 1))
set_option maxHeartbeats 1000000 in
theorem k_C_enter (l : Launch) (h : mH) (m : Nat) (hm : h 8 3 = nI m) (hM : m < 201) (x y z : Int32) : mD l Sh0 iX1_enter [.inr 8, .inl x, .inl y, .inl z] h (some (nI m)) (enH h m x y z) := by
  intro RT hR
  show mE l Sh0 none iX1_enter RT 0 [some (.inr 8), some (.inl x), some (.inl y), some (.inl z)] [] h
  refine e_aload_n (i := 0) dX1_enter_0 rfl rfl ?_
  refine e_getI (x := nI m) dX1_enter_1 fl_X1_21 sh_8 fj_8_3 hm ?_
  refine b_if_lt (X := ((m : Nat) : Int)) (tgt := 17) (nI_toInt (by omega)) dX1_enter_4 (by decide) ?_ ?_
  · intro c_4_t
    exfalso; omega
  · intro c_4_f
    refine e_aload_n (i := 0) dX1_enter_7 rfl rfl ?_
    refine e_getI (x := nI m) dX1_enter_8 fl_X1_21 sh_8 fj_8_3 hm ?_
    refine e_sipush (v := 201) dX1_enter_11 (by decide) ?_
    refine b_icmp_lt (X := ((m : Nat) : Int)) (Y := 201) (tgt := 19) (nI_toInt (by omega)) (by decide) dX1_enter_14 (by decide) ?_ ?_
    · intro c_14_t
      refine e_aload_n (i := 0) dX1_enter_19 rfl rfl ?_
      refine e_getR (r := 22) dX1_enter_20 fl_X1_11 sh_8 fj_8_0 ?_
      refine e_aload_n (i := 0) dX1_enter_23 rfl rfl ?_
      refine e_getI (x := nI m) dX1_enter_24 fl_X1_21 sh_8 fj_8_3 hm ?_
      refine e_iload_n (i := 1) dX1_enter_27 rfl rfl ?_
      refine e_iast dX1_enter_28 sh_22 (vin_ofX (X := ((m : Nat) : Int)) (nI_toInt (by omega)) (by omega) (by omega)) ?_
      rw [nI_clamp (by omega)]
      refine e_aload_n (i := 0) dX1_enter_29 rfl rfl ?_
      refine e_getR (r := 23) dX1_enter_30 fl_X1_15 sh_8 fj_8_1 ?_
      refine e_aload_n (i := 0) dX1_enter_33 rfl rfl ?_
      refine e_getI (x := nI m) dX1_enter_34 fl_X1_21 sh_8 fj_8_3 hm ?_
      refine e_iload_n (i := 2) dX1_enter_37 rfl rfl ?_
      refine e_iast dX1_enter_38 sh_23 (vin_ofX (X := ((m : Nat) : Int)) (nI_toInt (by omega)) (by omega) (by omega)) ?_
      rw [nI_clamp (by omega)]
      refine e_aload_n (i := 0) dX1_enter_39 rfl rfl ?_
      refine e_getR (r := 24) dX1_enter_40 fl_X1_18 sh_8 fj_8_2 ?_
      refine e_aload_n (i := 0) dX1_enter_43 rfl rfl ?_
      refine e_getI (x := nI m) dX1_enter_44 fl_X1_21 sh_8 fj_8_3 hm ?_
      refine e_iload_n (i := 3) dX1_enter_47 rfl rfl ?_
      refine e_iast dX1_enter_48 sh_24 (vin_ofX (X := ((m : Nat) : Int)) (nI_toInt (by omega)) (by omega) (by omega)) ?_
      rw [nI_clamp (by omega)]
      refine e_aload_n (i := 0) dX1_enter_49 rfl rfl ?_
      refine e_dup dX1_enter_50 ?_
      refine e_getI (x := nI m) dX1_enter_51 fl_X1_21 sh_8 fj_8_3 hm ?_
      refine e_iconst (v := 1) dX1_enter_54 (by decide) ?_
      refine z_iadd (z := nI (m + 1)) (nI_addc _ 1) dX1_enter_55 ?_
      refine e_putI dX1_enter_56 fl_X1_21 fp_X1_3 sh_8 fj_8_3 ?_
      refine e_aload_n (i := 0) dX1_enter_59 rfl rfl ?_
      refine e_getI (x := nI (m + 1)) dX1_enter_60 fl_X1_21 sh_8 fj_8_3 rfl ?_
      refine e_iconst (v := 1) dX1_enter_63 (by decide) ?_
      refine z_isub (z := nI m) (nI_pred m) dX1_enter_64 ?_
      refine e_iret dX1_enter_65 (mret_i _) ?_
      exact hR
    · intro c_14_f
      exfalso; omega
set_option maxHeartbeats 1000000 in
theorem k_X_give (l : Launch) (h : mH) (x : Int32) : mD l Sh0 iX4_give [.inr 6, .inl x] h (none) (hs (hs h 6 8 x) 6 5 0) := by
  intro RT hR
  show mE l Sh0 none iX4_give RT 0 [some (.inr 6), some (.inl x)] [] h
  refine e_aload_n (i := 0) dX4_give_0 rfl rfl ?_
  refine e_iload_n (i := 1) dX4_give_1 rfl rfl ?_
  refine e_putI dX4_give_2 fl_X4_89 fp_X4_8 sh_6 fj_6_8 ?_
  refine e_aload_n (i := 0) dX4_give_5 rfl rfl ?_
  refine e_iconst (v := 0) dX4_give_6 (by decide) ?_
  refine e_putZ dX4_give_7 fl_X4_70 fp_X4_5 sh_6 fj_6_5 (by decide) ?_
  refine e_ret dX4_give_10 rfl ?_
  exact hR
def entH (h : mH) (m : Nat) (p a b c : Int32) : mH := hs (hs (hs (enH h m a b c) 6 7 (nI m)) 6 6 (p * 40)) 6 5 1
set_option maxHeartbeats 1000000 in
theorem k_X_enter (l : Launch) (h : mH) (m : Nat) (hm : h 8 3 = nI m) (hM : m < 201) (p x y z : Int32) : mD l Sh0 iX4_enter [.inr 6, .inl p, .inl x, .inl y, .inl z] h (none) (entH h m p x y z) := by
  intro RT hR
  show mE l Sh0 none iX4_enter RT 0 [some (.inr 6), some (.inl p), some (.inl x), some (.inl y), some (.inl z)] [] h
  refine e_aload_n (i := 0) dX4_enter_0 rfl rfl ?_
  refine e_aload_n (i := 0) dX4_enter_1 rfl rfl ?_
  refine e_getR (r := 8) dX4_enter_2 fl_X4_21 sh_6 fj_6_2 ?_
  refine e_iload_n (i := 2) dX4_enter_5 rfl rfl ?_
  refine e_iload_n (i := 3) dX4_enter_6 rfl rfl ?_
  refine e_iload dX4_enter_7 rfl ?_
  refine e_invVi (As := [.inl x, .inl y, .inl z]) (v := nI m) (h2 := (enH h m x y z)) dX4_enter_9 lk_X4_80 yv_X1_enter rfl rfl rfl (Nat.le_of_ble_eq_true rfl) sh_8 ci_X1 (Nat.le_of_ble_eq_true rfl) ⟨Nat.le_of_ble_eq_true rfl, Nat.le_of_ble_eq_true rfl⟩ (k_C_enter l h m hm hM x y z) ?_
  refine e_putI dX4_enter_12 fl_X4_83 fp_X4_7 sh_6 fj_6_7 ?_
  refine e_aload_n (i := 0) dX4_enter_15 rfl rfl ?_
  refine e_iload_n (i := 1) dX4_enter_16 rfl rfl ?_
  refine e_bipush (v := 40) dX4_enter_17 (by decide) ?_
  refine e_imul dX4_enter_19 ?_
  refine e_putI dX4_enter_20 fl_X4_86 fp_X4_6 sh_6 fj_6_6 ?_
  refine e_aload_n (i := 0) dX4_enter_23 rfl rfl ?_
  refine e_iconst (v := 1) dX4_enter_24 (by decide) ?_
  refine e_putZ dX4_enter_25 fl_X4_70 fp_X4_5 sh_6 fj_6_5 (by decide) ?_
  refine e_ret dX4_enter_28 rfl ?_
  exact hR
def cMin (a b : Int32) : Int32 := if b < a then b else a
def cAct (s a b : Int32) : Int32 := if s.toInt = 43 then (a + b) &&& 7 else if s.toInt = 45 then (a - b) &&& 7 else if s.toInt = 42 then (a * b) &&& 7 else cMin a b
set_option maxHeartbeats 1000000 in
theorem k_X_act (l : Launch) (h : mH) (s x y : Int32) : mD l Sh0 iX4_act [.inl s, .inl x, .inl y] h (some (cAct s x y)) h := by
  intro RT hR
  show mE l Sh0 none iX4_act RT 0 [some (.inl s), some (.inl x), some (.inl y)] [] h
  refine e_iload_n (i := 0) dX4_act_0 rfl rfl ?_
  by_cases sw_1 : s.toInt < 42 ∨ 45 < s.toInt
  · refine e_tableOut (tgt := 53) dX4_act_1 sw_1 (by decide) ?_
    refine e_iload_n (i := 1) dX4_act_53 rfl rfl ?_
    refine e_iload_n (i := 2) dX4_act_54 rfl rfl ?_
    refine e_min dX4_act_55 lk_X4_156 mm_min.1 mm_min.2.1 mm_min.2.2 ⟨Nat.le_of_ble_eq_true rfl, Nat.le_of_ble_eq_true rfl⟩ ?_
    refine e_iret dX4_act_58 (mret_i _) ?_
    unfold cAct at hR; first | exact hR | ((repeat' (split at hR)) <;> first | exact hR | (exfalso; omega))
  · have sw2_1 : s.toInt = 42 ∨ s.toInt = 43 ∨ s.toInt = 44 ∨ s.toInt = 45 := by omega
    rcases sw2_1 with sv_1 | sv_1 | sv_1 | sv_1
    · refine e_tableIn (off := 45) (tgt := 46) dX4_act_1 (by omega) (by omega) (by rw [sv_1]; rfl) (by decide) ?_
      refine e_iload_n (i := 1) dX4_act_46 rfl rfl ?_
      refine e_iload_n (i := 2) dX4_act_47 rfl rfl ?_
      refine e_imul dX4_act_48 ?_
      refine e_bipush (v := 7) dX4_act_49 (by decide) ?_
      refine e_iand dX4_act_51 ?_
      refine e_iret dX4_act_52 (mret_i _) ?_
      unfold cAct at hR; first | exact hR | ((repeat' (split at hR)) <;> first | exact hR | (exfalso; omega))
    · refine e_tableIn (off := 31) (tgt := 32) dX4_act_1 (by omega) (by omega) (by rw [sv_1]; rfl) (by decide) ?_
      refine e_iload_n (i := 1) dX4_act_32 rfl rfl ?_
      refine e_iload_n (i := 2) dX4_act_33 rfl rfl ?_
      refine e_iadd dX4_act_34 ?_
      refine e_bipush (v := 7) dX4_act_35 (by decide) ?_
      refine e_iand dX4_act_37 ?_
      refine e_iret dX4_act_38 (mret_i _) ?_
      unfold cAct at hR; first | exact hR | ((repeat' (split at hR)) <;> first | exact hR | (exfalso; omega))
    · refine e_tableIn (off := 52) (tgt := 53) dX4_act_1 (by omega) (by omega) (by rw [sv_1]; rfl) (by decide) ?_
      refine e_iload_n (i := 1) dX4_act_53 rfl rfl ?_
      refine e_iload_n (i := 2) dX4_act_54 rfl rfl ?_
      refine e_min dX4_act_55 lk_X4_156 mm_min.1 mm_min.2.1 mm_min.2.2 ⟨Nat.le_of_ble_eq_true rfl, Nat.le_of_ble_eq_true rfl⟩ ?_
      refine e_iret dX4_act_58 (mret_i _) ?_
      unfold cAct at hR; first | exact hR | ((repeat' (split at hR)) <;> first | exact hR | (exfalso; omega))
    · refine e_tableIn (off := 38) (tgt := 39) dX4_act_1 (by omega) (by omega) (by rw [sv_1]; rfl) (by decide) ?_
      refine e_iload_n (i := 1) dX4_act_39 rfl rfl ?_
      refine e_iload_n (i := 2) dX4_act_40 rfl rfl ?_
      refine e_isub dX4_act_41 ?_
      refine e_bipush (v := 7) dX4_act_42 (by decide) ?_
      refine e_iand dX4_act_44 ?_
      refine e_iret dX4_act_45 (mret_i _) ?_
      unfold cAct at hR; first | exact hR | ((repeat' (split at hR)) <;> first | exact hR | (exfalso; omega))
def cTell (h : mH) (w : Int) : Int32 := if w = 0 then h 6 9 else if w = 1 then h 6 10 else if w = 2 then h 6 11 else if w = 3 then h 6 12 else if w = 4 then h 6 13 else if w = 5 then h 6 14 else h 6 15
set_option maxHeartbeats 1000000 in
theorem k_X_tell (l : Launch) (h : mH) (w : Int32) : mD l Sh0 iX4_tell [.inr 6, .inl w] h (some (cTell h w.toInt)) h := by
  intro RT hR
  show mE l Sh0 none iX4_tell RT 0 [some (.inr 6), some (.inl w)] [] h
  refine e_iload_n (i := 1) dX4_tell_0 rfl rfl ?_
  by_cases sw_1 : w.toInt < 0 ∨ 5 < w.toInt
  · refine e_tableOut (tgt := 70) dX4_tell_1 sw_1 (by decide) ?_
    refine e_aload_n (i := 0) dX4_tell_70 rfl rfl ?_
    refine e_getI (x := h 6 15) dX4_tell_71 fl_X4_62 sh_6 fj_6_15 rfl ?_
    refine e_iret dX4_tell_74 (mret_i _) ?_
    unfold cTell at hR; first | exact hR | ((repeat' (split at hR)) <;> first | exact hR | (exfalso; omega))
  · have sw2_1 : w.toInt = 0 ∨ w.toInt = 1 ∨ w.toInt = 2 ∨ w.toInt = 3 ∨ w.toInt = 4 ∨ w.toInt = 5 := by omega
    rcases sw2_1 with sv_1 | sv_1 | sv_1 | sv_1 | sv_1 | sv_1
    · refine e_tableIn (off := 39) (tgt := 40) dX4_tell_1 (by omega) (by omega) (by rw [sv_1]; rfl) (by decide) ?_
      refine e_aload_n (i := 0) dX4_tell_40 rfl rfl ?_
      refine e_getI (x := h 6 9) dX4_tell_41 fl_X4_44 sh_6 fj_6_9 rfl ?_
      refine e_iret dX4_tell_44 (mret_i _) ?_
      unfold cTell at hR; first | exact hR | ((repeat' (split at hR)) <;> first | exact hR | (exfalso; omega))
    · refine e_tableIn (off := 44) (tgt := 45) dX4_tell_1 (by omega) (by omega) (by rw [sv_1]; rfl) (by decide) ?_
      refine e_aload_n (i := 0) dX4_tell_45 rfl rfl ?_
      refine e_getI (x := h 6 10) dX4_tell_46 fl_X4_47 sh_6 fj_6_10 rfl ?_
      refine e_iret dX4_tell_49 (mret_i _) ?_
      unfold cTell at hR; first | exact hR | ((repeat' (split at hR)) <;> first | exact hR | (exfalso; omega))
    · refine e_tableIn (off := 49) (tgt := 50) dX4_tell_1 (by omega) (by omega) (by rw [sv_1]; rfl) (by decide) ?_
      refine e_aload_n (i := 0) dX4_tell_50 rfl rfl ?_
      refine e_getI (x := h 6 11) dX4_tell_51 fl_X4_50 sh_6 fj_6_11 rfl ?_
      refine e_iret dX4_tell_54 (mret_i _) ?_
      unfold cTell at hR; first | exact hR | ((repeat' (split at hR)) <;> first | exact hR | (exfalso; omega))
    · refine e_tableIn (off := 54) (tgt := 55) dX4_tell_1 (by omega) (by omega) (by rw [sv_1]; rfl) (by decide) ?_
      refine e_aload_n (i := 0) dX4_tell_55 rfl rfl ?_
      refine e_getI (x := h 6 12) dX4_tell_56 fl_X4_53 sh_6 fj_6_12 rfl ?_
      refine e_iret dX4_tell_59 (mret_i _) ?_
      unfold cTell at hR; first | exact hR | ((repeat' (split at hR)) <;> first | exact hR | (exfalso; omega))
    · refine e_tableIn (off := 59) (tgt := 60) dX4_tell_1 (by omega) (by omega) (by rw [sv_1]; rfl) (by decide) ?_
      refine e_aload_n (i := 0) dX4_tell_60 rfl rfl ?_
      refine e_getI (x := h 6 13) dX4_tell_61 fl_X4_56 sh_6 fj_6_13 rfl ?_
      refine e_iret dX4_tell_64 (mret_i _) ?_
      unfold cTell at hR; first | exact hR | ((repeat' (split at hR)) <;> first | exact hR | (exfalso; omega))
    · refine e_tableIn (off := 64) (tgt := 65) dX4_tell_1 (by omega) (by omega) (by rw [sv_1]; rfl) (by decide) ?_
      refine e_aload_n (i := 0) dX4_tell_65 rfl rfl ?_
      refine e_getI (x := h 6 14) dX4_tell_66 fl_X4_59 sh_6 fj_6_14 rfl ?_
      refine e_iret dX4_tell_69 (mret_i _) ?_
      unfold cTell at hR; first | exact hR | ((repeat' (split at hR)) <;> first | exact hR | (exfalso; omega))
def cWho (h : mH) (i : Int32) : Int32 := if 0 ≤ i.toInt ∧ i.toInt < (h 6 15).toInt ∧ i.toInt < 200 then h 19 i.toInt.toNat else -6
set_option maxHeartbeats 1000000 in
theorem k_X_answerer (l : Launch) (h : mH) (i : Int32) : mD l Sh0 iX4_answerer [.inr 6, .inl i] h (some (cWho h i)) h := by
  intro RT hR
  show mE l Sh0 none iX4_answerer RT 0 [some (.inr 6), some (.inl i)] [] h
  refine e_iload_n (i := 1) dX4_answerer_0 rfl rfl ?_
  refine b_if_lt (X := i.toInt) (tgt := 28) rfl dX4_answerer_1 (by decide) ?_ ?_
  · intro c_1_t
    refine e_bipush (v := (-6)) dX4_answerer_28 (by decide) ?_
    refine e_iret dX4_answerer_30 (mret_i _) ?_
    unfold cWho at hR; first | exact hR | ((repeat' (split at hR)) <;> first | exact hR | (exfalso; omega))
  · intro c_1_f
    refine e_iload_n (i := 1) dX4_answerer_4 rfl rfl ?_
    refine e_aload_n (i := 0) dX4_answerer_5 rfl rfl ?_
    refine e_getI (x := h 6 15) dX4_answerer_6 fl_X4_62 sh_6 fj_6_15 rfl ?_
    refine b_icmp_ge (X := i.toInt) (Y := (h 6 15).toInt) (tgt := 28) rfl rfl dX4_answerer_9 (by decide) ?_ ?_
    · intro c_9_t
      refine e_bipush (v := (-6)) dX4_answerer_28 (by decide) ?_
      refine e_iret dX4_answerer_30 (mret_i _) ?_
      unfold cWho at hR; first | exact hR | ((repeat' (split at hR)) <;> first | exact hR | (exfalso; omega))
    · intro c_9_f
      refine e_iload_n (i := 1) dX4_answerer_12 rfl rfl ?_
      refine e_sipush (v := 200) dX4_answerer_13 (by decide) ?_
      refine b_icmp_ge (X := i.toInt) (Y := 200) (tgt := 28) rfl (by decide) dX4_answerer_16 (by decide) ?_ ?_
      · intro c_16_t
        refine e_bipush (v := (-6)) dX4_answerer_28 (by decide) ?_
        refine e_iret dX4_answerer_30 (mret_i _) ?_
        unfold cWho at hR; first | exact hR | ((repeat' (split at hR)) <;> first | exact hR | (exfalso; omega))
      · intro c_16_f
        refine e_aload_n (i := 0) dX4_answerer_19 rfl rfl ?_
        refine e_getR (r := 19) dX4_answerer_20 fl_X4_25 sh_6 fj_6_3 ?_
        refine e_iload_n (i := 1) dX4_answerer_23 rfl rfl ?_
        refine e_iald (x := h 19 ((i).toInt.toNat)) dX4_answerer_24 sh_19 (vin_ofX (X := i.toInt) rfl (by omega) (by omega)) rfl ?_
        refine e_goto (tgt := 30) dX4_answerer_25 (by decide) ?_
        refine e_iret dX4_answerer_30 (mret_i _) ?_
        unfold cWho at hR; first | exact hR | ((repeat' (split at hR)) <;> first | exact hR | (exfalso; omega))
def cDoing (h : mH) : Int32 := if (h 6 9).toInt = 8 then (h 6 12 + 1) * 100 + h 6 13 else h 6 9
set_option maxHeartbeats 1000000 in
theorem k_X_doing (l : Launch) (h : mH) : mD l Sh0 iX4_doing [.inr 6] h (some (cDoing h)) h := by
  intro RT hR
  show mE l Sh0 none iX4_doing RT 0 [some (.inr 6)] [] h
  refine e_aload_n (i := 0) dX4_doing_0 rfl rfl ?_
  refine e_getI (x := h 6 9) dX4_doing_1 fl_X4_44 sh_6 fj_6_9 rfl ?_
  refine e_bipush (v := 8) dX4_doing_4 (by decide) ?_
  refine b_icmp_ne (X := (h 6 9).toInt) (Y := 8) (tgt := 26) rfl (by decide) dX4_doing_6 (by decide) ?_ ?_
  · intro e_6_t c_6_t
    refine e_aload_n (i := 0) dX4_doing_26 rfl rfl ?_
    refine e_getI (x := h 6 9) dX4_doing_27 fl_X4_44 sh_6 fj_6_9 rfl ?_
    refine e_iret dX4_doing_30 (mret_i _) ?_
    unfold cDoing at hR; first | exact hR | ((repeat' (split at hR)) <;> first | exact hR | (exfalso; omega))
  · intro e_6_f c_6_f
    refine e_aload_n (i := 0) dX4_doing_9 rfl rfl ?_
    refine e_getI (x := h 6 12) dX4_doing_10 fl_X4_53 sh_6 fj_6_12 rfl ?_
    refine e_iconst (v := 1) dX4_doing_13 (by decide) ?_
    refine e_iadd dX4_doing_14 ?_
    refine e_bipush (v := 100) dX4_doing_15 (by decide) ?_
    refine e_imul dX4_doing_17 ?_
    refine e_aload_n (i := 0) dX4_doing_18 rfl rfl ?_
    refine e_getI (x := h 6 13) dX4_doing_19 fl_X4_56 sh_6 fj_6_13 rfl ?_
    refine e_iadd dX4_doing_22 ?_
    refine e_goto (tgt := 30) dX4_doing_23 (by decide) ?_
    refine e_iret dX4_doing_30 (mret_i _) ?_
    unfold cDoing at hR; first | exact hR | ((repeat' (split at hR)) <;> first | exact hR | (exfalso; omega))
def lay (u : Int32) : mH → Nat → List Nat → mH
  | h, _, [] => h
  | h, m, [i] => mkH h m (h 20 i) u
  | h, m, i :: j :: nd => lay u (mkH h m (h 20 i) (nI (m + 1))) (m + 1) (j :: nd)
/-- the nodes are linked, the last one is kh -/
def lnk (h : mH) (kh : Nat) : List Nat → Prop
  | [] => False
  | [i] => i = kh
  | i :: j :: nd => i ≠ kh ∧ h 21 i = nI j ∧ lnk h kh (j :: nd)
theorem mkH_20 (h : mH) (m : Nat) (a b : Int32) {i : Nat} (hi : i < m) : mkH h m a b 20 i = h 20 i := by
  unfold mkH
  rw [hs_ne _ _ (by omega), hs_ne _ _ (by omega), hs_ne _ _ (by omega)]
theorem mkH_21 (h : mH) (m : Nat) (a b : Int32) {i : Nat} (hi : i < m) : mkH h m a b 21 i = h 21 i := by
  unfold mkH
  rw [hs_ne _ _ (by omega), hs_ne _ _ (by omega), hs_ne _ _ (by omega)]
theorem lnk_mk {h : mH} {m : Nat} {a b : Int32} {kh : Nat} : ∀ {nd : List Nat}, (∀ i ∈ nd, i < m) → lnk h kh nd → lnk (mkH h m a b) kh nd
  | [], _, q => q
  | [i], _, q => q
  | i :: j :: nd, hn, q => ⟨q.1, by rw [mkH_21 _ _ _ _ (hn i List.mem_cons_self)]; exact q.2.1, lnk_mk (fun z hz => hn z (List.mem_cons_of_mem _ hz)) q.2.2⟩
set_option maxHeartbeats 1000000 in
theorem lp_T_layDown (l : Launch) (u y : Int32) (kh : Nat) (hkh : kh < 2 ^ 30) (RT : Option Int32 → mH → Prop) (z : Option mV) : ∀ (nd : List Nat) (h : mH) (m t : Nat), h 7 2 = nI m → (∀ i ∈ nd, i < m) → m + nd.length ≤ 8200 → t + nd.length ≤ 8200 → lnk h kh nd → RT (some 1) (lay u h m nd) → mE l Sh0 none iX5_layDown RT 19 [some (.inr 7), some (.inl y), some (.inl (nI kh)), some (.inl u), some (.inl (nI (nd.headD 0))), some (.inl (nI t)), z] [] h
  | [], h, m, t, hm, hn, hl, ht, hk, hR => absurd hk (fun q => q)
  | [i], h, m, t, hm, hn, hl, ht, hk, hR => by
    have hk : i = kh := hk
    have hi : i < m := hn i List.mem_cons_self
    have hl : m + 1 ≤ 8200 := hl
    have ht : t + 1 ≤ 8200 := ht
    show mE l Sh0 none iX5_layDown RT 19 [some (.inr 7), some (.inl y), some (.inl (nI kh)), some (.inl u), some (.inl (nI i)), some (.inl (nI t)), z] [] h
    refine e_iload dX5_layDown_19 rfl ?_
    refine e_sipush (v := 8200) dX5_layDown_21 (by decide) ?_
    refine b_icmp_ge (X := ((t : Nat) : Int)) (Y := 8200) (tgt := 102) (nI_toInt (by omega)) (by decide) dX5_layDown_24 (by decide) ?_ ?_
    · intro c_24_t
      exfalso; omega
    · intro c_24_f
      refine e_aload_n (i := 0) dX5_layDown_27 rfl rfl ?_
      refine e_iload dX5_layDown_28 rfl ?_
      refine e_invVi (As := [.inl (nI i)]) (v := 1) (h2 := h) dX5_layDown_30 lk_X5_25 yv_X5_stands rfl rfl rfl (Nat.le_of_ble_eq_true rfl) sh_7 ci_X5 (Nat.le_of_ble_eq_true rfl) ⟨Nat.le_of_ble_eq_true rfl, Nat.le_of_ble_eq_true rfl⟩ (k_T_stands l h i m hm hi (by omega)) ?_
      refine b_if_eq (X := 1) (tgt := 102) (by decide) dX5_layDown_33 (by decide) ?_ ?_
      · intro e_33_t c_33_t
        exfalso; omega
      · intro e_33_f c_33_f
        refine e_iload dX5_layDown_36 rfl ?_
        refine e_iload_n (i := 2) dX5_layDown_38 rfl rfl ?_
        refine b_icmp_ne (X := ((i : Nat) : Int)) (Y := ((kh : Nat) : Int)) (tgt := 46) (nI_toInt (by omega)) (nI_toInt (by omega)) dX5_layDown_39 (by decide) ?_ ?_
        · intro e_39_t c_39_t
          exfalso; omega
        · intro e_39_f c_39_f
          refine e_iconst (v := 1) dX5_layDown_42 (by decide) ?_
          refine e_goto (tgt := 47) dX5_layDown_43 (by decide) ?_
          refine e_istore (ls2 := [some (.inr 7), some (.inl y), some (.inl (nI kh)), some (.inl u), some (.inl (nI i)), some (.inl (nI t)), some (.inl 1)]) dX5_layDown_47 (Nat.le_of_ble_eq_true rfl) rfl ?_
          refine e_aload_n (i := 0) dX5_layDown_49 rfl rfl ?_
          refine e_aload_n (i := 0) dX5_layDown_50 rfl rfl ?_
          refine e_getR (r := 20) dX5_layDown_51 fl_X5_11 sh_7 fj_7_0 ?_
          refine e_iload dX5_layDown_54 rfl ?_
          refine e_iald (x := h 20 i) dX5_layDown_56 sh_20 (vin_ofX (X := ((i : Nat) : Int)) (nI_toInt (by omega)) (by omega) (by omega)) (by rw [nI_clamp (by omega)]) ?_
          refine e_iload dX5_layDown_57 rfl ?_
          refine b_if_eq (X := 1) (tgt := 66) (by decide) dX5_layDown_59 (by decide) ?_ ?_
          · intro e_59_t c_59_t
            exfalso; omega
          · intro e_59_f c_59_f
            refine e_iload_n (i := 3) dX5_layDown_62 rfl rfl ?_
            refine e_goto (tgt := 72) dX5_layDown_63 (by decide) ?_
            refine e_invVi (As := [.inl (h 20 i), .inl u]) (v := 1) (h2 := (mkH h m (h 20 i) u)) dX5_layDown_72 lk_X5_29 yv_X5_make rfl rfl rfl (Nat.le_of_ble_eq_true rfl) sh_7 ci_X5 (Nat.le_of_ble_eq_true rfl) ⟨Nat.le_of_ble_eq_true rfl, Nat.le_of_ble_eq_true rfl⟩ (k_T_make l h m hm (by omega) (h 20 i) u) ?_
            refine b_if_ne (X := 1) (tgt := 80) (by decide) dX5_layDown_75 (by decide) ?_ ?_
            · intro e_75_t c_75_t
              refine e_iload dX5_layDown_80 rfl ?_
              refine b_if_eq (X := 1) (tgt := 87) (by decide) dX5_layDown_82 (by decide) ?_ ?_
              · intro e_82_t c_82_t
                exfalso; omega
              · intro e_82_f c_82_f
                refine e_iconst (v := 1) dX5_layDown_85 (by decide) ?_
                refine e_iret dX5_layDown_86 (mret_z (by first | decide | (simp only []; split <;> decide))) ?_
                exact hR
            · intro e_75_f c_75_f
              exfalso; omega
  | i :: j :: nd, h, m, t, hm, hn, hl, ht, hk, hR => by
    obtain ⟨hk1, hk2, hk3⟩ := hk
    have hi : i < m := hn i List.mem_cons_self
    have hl : m + (nd.length + 1 + 1) ≤ 8200 := hl
    have ht : t + (nd.length + 1 + 1) ≤ 8200 := ht
    have hmk : mkH h m (h 20 i) (nI (m + 1)) 21 i = nI j := by rw [mkH_21 _ _ _ _ hi]; exact hk2
    show mE l Sh0 none iX5_layDown RT 19 [some (.inr 7), some (.inl y), some (.inl (nI kh)), some (.inl u), some (.inl (nI i)), some (.inl (nI t)), z] [] h
    refine e_iload dX5_layDown_19 rfl ?_
    refine e_sipush (v := 8200) dX5_layDown_21 (by decide) ?_
    refine b_icmp_ge (X := ((t : Nat) : Int)) (Y := 8200) (tgt := 102) (nI_toInt (by omega)) (by decide) dX5_layDown_24 (by decide) ?_ ?_
    · intro c_24_t
      exfalso; omega
    · intro c_24_f
      refine e_aload_n (i := 0) dX5_layDown_27 rfl rfl ?_
      refine e_iload dX5_layDown_28 rfl ?_
      refine e_invVi (As := [.inl (nI i)]) (v := 1) (h2 := h) dX5_layDown_30 lk_X5_25 yv_X5_stands rfl rfl rfl (Nat.le_of_ble_eq_true rfl) sh_7 ci_X5 (Nat.le_of_ble_eq_true rfl) ⟨Nat.le_of_ble_eq_true rfl, Nat.le_of_ble_eq_true rfl⟩ (k_T_stands l h i m hm hi (by omega)) ?_
      refine b_if_eq (X := 1) (tgt := 102) (by decide) dX5_layDown_33 (by decide) ?_ ?_
      · intro e_33_t c_33_t
        exfalso; omega
      · intro e_33_f c_33_f
        refine e_iload dX5_layDown_36 rfl ?_
        refine e_iload_n (i := 2) dX5_layDown_38 rfl rfl ?_
        refine b_icmp_ne (X := ((i : Nat) : Int)) (Y := ((kh : Nat) : Int)) (tgt := 46) (nI_toInt (by omega)) (nI_toInt (by omega)) dX5_layDown_39 (by decide) ?_ ?_
        · intro e_39_t c_39_t
          refine e_iconst (v := 0) dX5_layDown_46 (by decide) ?_
          refine e_istore (ls2 := [some (.inr 7), some (.inl y), some (.inl (nI kh)), some (.inl u), some (.inl (nI i)), some (.inl (nI t)), some (.inl 0)]) dX5_layDown_47 (Nat.le_of_ble_eq_true rfl) rfl ?_
          refine e_aload_n (i := 0) dX5_layDown_49 rfl rfl ?_
          refine e_aload_n (i := 0) dX5_layDown_50 rfl rfl ?_
          refine e_getR (r := 20) dX5_layDown_51 fl_X5_11 sh_7 fj_7_0 ?_
          refine e_iload dX5_layDown_54 rfl ?_
          refine e_iald (x := h 20 i) dX5_layDown_56 sh_20 (vin_ofX (X := ((i : Nat) : Int)) (nI_toInt (by omega)) (by omega) (by omega)) (by rw [nI_clamp (by omega)]) ?_
          refine e_iload dX5_layDown_57 rfl ?_
          refine b_if_eq (X := 0) (tgt := 66) (by decide) dX5_layDown_59 (by decide) ?_ ?_
          · intro e_59_t c_59_t
            refine e_aload_n (i := 0) dX5_layDown_66 rfl rfl ?_
            refine e_getI (x := nI m) dX5_layDown_67 fl_X5_18 sh_7 fj_7_2 hm ?_
            refine e_iconst (v := 1) dX5_layDown_70 (by decide) ?_
            refine z_iadd (z := nI (m + 1)) (nI_addc _ 1) dX5_layDown_71 ?_
            refine e_invVi (As := [.inl (h 20 i), .inl (nI (m + 1))]) (v := 1) (h2 := (mkH h m (h 20 i) (nI (m + 1)))) dX5_layDown_72 lk_X5_29 yv_X5_make rfl rfl rfl (Nat.le_of_ble_eq_true rfl) sh_7 ci_X5 (Nat.le_of_ble_eq_true rfl) ⟨Nat.le_of_ble_eq_true rfl, Nat.le_of_ble_eq_true rfl⟩ (k_T_make l h m hm (by omega) (h 20 i) (nI (m + 1))) ?_
            refine b_if_ne (X := 1) (tgt := 80) (by decide) dX5_layDown_75 (by decide) ?_ ?_
            · intro e_75_t c_75_t
              refine e_iload dX5_layDown_80 rfl ?_
              refine b_if_eq (X := 0) (tgt := 87) (by decide) dX5_layDown_82 (by decide) ?_ ?_
              · intro e_82_t c_82_t
                refine e_aload_n (i := 0) dX5_layDown_87 rfl rfl ?_
                refine e_getR (r := 21) dX5_layDown_88 fl_X5_15 sh_7 fj_7_1 ?_
                refine e_iload dX5_layDown_91 rfl ?_
                refine e_iald (x := nI j) dX5_layDown_93 sh_21 (vin_ofX (X := ((i : Nat) : Int)) (nI_toInt (by omega)) (by omega) (by omega)) (by rw [nI_clamp (by omega)]; exact hmk) ?_
                refine e_istore (ls2 := [some (.inr 7), some (.inl y), some (.inl (nI kh)), some (.inl u), some (.inl (nI j)), some (.inl (nI t)), some (.inl 0)]) dX5_layDown_94 (Nat.le_of_ble_eq_true rfl) rfl ?_
                refine e_iinc (v := nI (t + 1)) (ls2 := [some (.inr 7), some (.inl y), some (.inl (nI kh)), some (.inl u), some (.inl (nI j)), some (.inl (nI (t + 1))), some (.inl 0)]) dX5_layDown_96 rfl (nI_inc1 _) (Nat.le_of_ble_eq_true rfl) rfl ?_
                refine e_goto (tgt := 19) dX5_layDown_99 (by decide) ?_
                exact lp_T_layDown l u y kh hkh RT (some (.inl 0)) (j :: nd) (mkH h m (h 20 i) (nI (m + 1))) (m + 1) (t + 1) rfl (fun q hq => Nat.lt_succ_of_lt (hn q (List.mem_cons_of_mem _ hq))) (by simp only [List.length_cons]; omega) (by simp only [List.length_cons]; omega) (lnk_mk (fun q hq => hn q (List.mem_cons_of_mem _ hq)) hk3) hR
              · intro e_82_f c_82_f
                exfalso; omega
            · intro e_75_f c_75_f
              exfalso; omega
          · intro e_59_f c_59_f
            exfalso; omega
        · intro e_39_f c_39_f
          exfalso; omega
theorem lnk_st {h : mH} {t : Int32} {kh : Nat} : ∀ {nd : List Nat}, lnk h kh nd → lnk (hs h 7 3 t) kh nd
  | [], q => q
  | [i], q => q
  | i :: j :: nd, q => ⟨q.1, q.2.1, lnk_st q.2.2⟩
set_option maxHeartbeats 1000000 in
theorem k_T_layDown (l : Launch) (h : mH) (m : Nat) (hm : h 7 2 = nI m) (kh : Nat) (hkh : kh < 2 ^ 30) (nd : List Nat) (hn : ∀ i ∈ nd, i < m) (hl : m + nd.length ≤ 8200) (hk : lnk h kh nd) : mD l Sh0 iX5_layDown [.inr 7, .inl (nI (nd.headD 0)), .inl (nI kh)] h (some 1) (lay (h 7 3) (hs h 7 3 (nI m)) m nd) := by
  intro RT hR
  show mE l Sh0 none iX5_layDown RT 0 [some (.inr 7), some (.inl (nI (nd.headD 0))), some (.inl (nI kh)), none, none, none, none] [] h
  refine e_aload_n (i := 0) dX5_layDown_0 rfl rfl ?_
  refine e_getI (x := h 7 3) dX5_layDown_1 fl_X5_22 sh_7 fj_7_3 rfl ?_
  refine e_istore_n (i := 3) (ls2 := [some (.inr 7), some (.inl (nI (nd.headD 0))), some (.inl (nI kh)), some (.inl (h 7 3)), none, none, none]) dX5_layDown_4 rfl (Nat.le_of_ble_eq_true rfl) rfl ?_
  refine e_iload_n (i := 1) dX5_layDown_5 rfl rfl ?_
  refine e_istore (ls2 := [some (.inr 7), some (.inl (nI (nd.headD 0))), some (.inl (nI kh)), some (.inl (h 7 3)), some (.inl (nI (nd.headD 0))), none, none]) dX5_layDown_6 (Nat.le_of_ble_eq_true rfl) rfl ?_
  refine e_aload_n (i := 0) dX5_layDown_8 rfl rfl ?_
  refine e_aload_n (i := 0) dX5_layDown_9 rfl rfl ?_
  refine e_getI (x := nI m) dX5_layDown_10 fl_X5_18 sh_7 fj_7_2 hm ?_
  refine e_putI dX5_layDown_13 fl_X5_22 fp_X5_3 sh_7 fj_7_3 ?_
  refine e_iconst (v := 0) dX5_layDown_16 (by decide) ?_
  refine e_istore (ls2 := [some (.inr 7), some (.inl (nI (nd.headD 0))), some (.inl (nI kh)), some (.inl (h 7 3)), some (.inl (nI (nd.headD 0))), some (.inl 0), none]) dX5_layDown_17 (Nat.le_of_ble_eq_true rfl) rfl ?_
  exact lp_T_layDown l (h 7 3) (nI (nd.headD 0)) kh hkh RT none nd (hs h 7 3 (nI m)) m 0 hm hn hl (by omega) (lnk_st hk) hR
end
section
/-! The run, as a machine over lists. -/
abbrev aF : Type := Nat × Nat × Nat × Nat
abbrev aS : Type := Bool × Nat × Nat × Nat × List aF × List (List aF) × Nat × Nat × Nat × List Nat
abbrev aE : Type := Int × Int × Int × Nat × Nat × Nat × List Nat
def aHd (sg : Nat → Int32) (pl : Nat) : Nat := ((sg (pl + 1)).toInt - 48).toNat
def aFs (sg : Nat → Int32) (pl : Nat) : Nat := if (sg pl).toInt = 64 then pl + 2 else pl + 1
def aNr (sg : Nat → Int32) (sz : Nat → Nat) (d : Nat) : List aF → Option (List aF × aF × List aF)
  | [] => none
  | F :: P => if (sg F.1).toInt = 64 ∧ 0 < sz (4 + 4 * aHd sg F.1 + d) then some ([], F, P) else (aNr sg sz d P).map (fun z => (F :: z.1, z.2.1, z.2.2))
theorem aNr_some {sg : Nat → Int32} {sz : Nat → Nat} {d : Nat} : ∀ {P A : List aF} {G : aF} {C : List aF}, aNr sg sz d P = some (A, G, C) → P = A ++ G :: C ∧ (sg G.1).toInt = 64 ∧ 0 < sz (4 + 4 * aHd sg G.1 + d) ∧ ∀ F ∈ A, ¬ ((sg F.1).toInt = 64 ∧ 0 < sz (4 + 4 * aHd sg F.1 + d))
  | [], A, G, C, h => by cases h
  | F :: P, A, G, C, h => by
    unfold aNr at h
    split at h
    · rename_i q
      cases h
      exact ⟨rfl, q.1, q.2, fun F h => by cases h⟩
    · rename_i q
      cases hz : aNr sg sz d P with
      | none => rw [hz] at h; cases h
      | some z =>
        obtain ⟨A', G', C'⟩ := z
        rw [hz] at h
        cases h
        obtain ⟨h1, h2, h3, h4⟩ := aNr_some hz
        refine ⟨by rw [h1]; rfl, h2, h3, fun F' hF => ?_⟩
        rcases List.mem_cons.mp hF with rfl | hF
        · exact q
        · exact h4 F' hF
theorem aNr_none {sg : Nat → Int32} {sz : Nat → Nat} {d : Nat} : ∀ {P : List aF}, aNr sg sz d P = none → ∀ F ∈ P, ¬ ((sg F.1).toInt = 64 ∧ 0 < sz (4 + 4 * aHd sg F.1 + d))
  | [], _, F, hF => by cases hF
  | F0 :: P, h, F, hF => by
    unfold aNr at h
    split at h
    · cases h
    · rename_i q
      rcases List.mem_cons.mp hF with rfl | hF
      · exact q
      · cases hz : aNr sg sz d P with
        | none => exact aNr_none hz F hF
        | some z => rw [hz] at h; cases h
def aAct (s : Int) (a b : Nat) : Nat := if s = 43 then (a + b) % 8 else if s = 45 then (a + 8 - b) % 8 else if s = 42 then (a * b) % 8 else if b < a then b else a
def aBeg (sg : Nat → Int32) (pl x k : Nat) (P : List aF) (K : List (List aF)) (n g u : Nat) (q : List Nat) : aS ⊕ aE :=
  if 200 ≤ n then .inr (9, -6, -6, n, g, u, q)
  else if (sg pl).toInt = 120 then .inl (false, 0, x, 0, P, K, n + 1, g, u, q)
  else if aOf (sg pl).toInt = 0 then .inl (false, 0, ((sg pl).toInt - 48).toNat, 0, P, K, n + 1, g, u, q)
  else .inl (true, aFs sg pl, x, k, (pl, x, k, 0) :: P, K, n + 1, g, u, q)
def aAsk (sg : Nat → Int32) (sz : Nat → Nat) (r : List Nat) (d v : Nat) (P : List aF) (K : List (List aF)) (n g u : Nat) (q : List Nat) : aS ⊕ aE :=
  match aNr sg sz d P with
  | some (A, G, C) => .inl (true, 40 * (4 + 4 * aHd sg G.1 + d), v, K.length + 1, C, K ++ [A ++ [G]], n, g, u, q ++ [100 * d + 10 * v + aHd sg G.1])
  | none => if u < r.length then .inl (false, 0, r.getD u 0, 0, P, K, n, g, u + 1, q ++ [100 * d + 10 * v + 9]) else .inr (8, d, v, n, g, u, q ++ [100 * d + 10 * v + 9])
def aTop (sg : Nat → Int32) (ln sz : Nat → Nat) (r : List Nat) (v pl x k w : Nat) (P : List aF) (K : List (List aF)) (n g u : Nat) (q : List Nat) : aS ⊕ aE :=
  if aOf (sg pl).toInt = 2 ∧ w = 0 then .inl (true, pl + 1 + ln (pl + 1), x, k, (pl, x, k, v + 1) :: P, K, n, g, u, q)
  else if (sg pl).toInt = 63 then .inl (true, if v = 0 then pl + 1 + ln (pl + 1) else pl + 1 + ln (pl + 1) + ln (pl + 1 + ln (pl + 1)), x, k, P, K, n, g, u, q)
  else if (sg pl).toInt = 64 then (if 0 < sz (4 + 4 * aHd sg pl + 3) then .inl (true, 40 * (4 + 4 * aHd sg pl + 3), v, 0, P, K, n, g, u, q) else .inl (false, 0, v, 0, P, K, n, g, u, q))
  else if (sg pl).toInt = 107 then (if 40 ≤ g then .inr (9, -6, -6, n, g, u, q) else .inl (false, 0, v, 0, K.getD (k - 1) [] ++ P, K, n, g + 1, u, q))
  else if (sg pl).toInt = 112 ∨ (sg pl).toInt = 113 ∨ (sg pl).toInt = 114 then aAsk sg sz r ((sg pl).toInt - 112).toNat v P K n g u q
  else .inl (false, 0, aAct (sg pl).toInt (w - 1) v, 0, P, K, n, g, u, q)
def aStep (sg : Nat → Int32) (ln sz : Nat → Nat) (r : List Nat) : aS → aS ⊕ aE
  | (true, pl, x, k, P, K, n, g, u, q) => aBeg sg pl x k P K n g u q
  | (false, _, v, _, [], _, n, g, u, q) => .inr (v, -6, -6, n, g, u, q)
  | (false, _, v, _, (pl, x, k, w) :: P, K, n, g, u, q) => aTop sg ln sz r v pl x k w P K n g u q
/-- a text begins at this place -/
def aV (sg : Nat → Int32) (sz : Nat → Nat) (pl : Nat) : Prop := pl < 800 ∧ pl % 40 < sz (pl / 40) ∧ ¬ (0 < pl % 40 ∧ (sg (pl - 1)).toInt = 64)
/-- what is written has no fault -/
def aWB (sg : Nat → Int32) (ln sz : Nat → Nat) : Prop := (∀ p, p < 20 → sz p ≤ 40) ∧ ∀ pl, aV sg sz pl →
  0 ≤ aOf (sg pl).toInt ∧ pl % 40 + ln pl ≤ sz (pl / 40) ∧ (aOf (sg pl).toInt = 0 → ln pl = 1) ∧
  (1 ≤ aOf (sg pl).toInt → aV sg sz (aFs sg pl) ∧ aFs sg pl / 40 = pl / 40) ∧
  (aOf (sg pl).toInt = 1 → pl + ln pl = aFs sg pl + ln (aFs sg pl)) ∧
  (2 ≤ aOf (sg pl).toInt → aV sg sz (pl + 1 + ln (pl + 1)) ∧ (pl + 1 + ln (pl + 1)) / 40 = pl / 40) ∧
  (aOf (sg pl).toInt = 2 → pl + ln pl = pl + 1 + ln (pl + 1) + ln (pl + 1 + ln (pl + 1))) ∧
  (aOf (sg pl).toInt = 3 → (aV sg sz (pl + 1 + ln (pl + 1) + ln (pl + 1 + ln (pl + 1))) ∧ (pl + 1 + ln (pl + 1) + ln (pl + 1 + ln (pl + 1))) / 40 = pl / 40) ∧ pl + ln pl = pl + 1 + ln (pl + 1) + ln (pl + 1 + ln (pl + 1)) + ln (pl + 1 + ln (pl + 1) + ln (pl + 1 + ln (pl + 1)))) ∧
  ((sg pl).toInt = 64 → 48 ≤ (sg (pl + 1)).toInt ∧ (sg (pl + 1)).toInt < 52 ∧ pl + 1 < 800) ∧
  ((sg pl).toInt = 107 → 4 ≤ pl / 40 ∧ pl / 40 % 4 ≠ 3)
/-- a place of a deed's clause -/
def aDc (pl : Nat) : Prop := 4 ≤ pl / 40 ∧ pl / 40 % 4 ≠ 3
def aFok (sg : Nat → Int32) (sz : Nat → Nat) (nK : Nat) (F : aF) : Prop := aV sg sz F.1 ∧ 1 ≤ aOf (sg F.1).toInt ∧ F.2.1 < 8 ∧ F.2.2.1 ≤ nK ∧ (aDc F.1 → 1 ≤ F.2.2.1) ∧ F.2.2.2 ≤ 8 ∧ (aOf (sg F.1).toInt ≠ 2 → F.2.2.2 = 0)
def gk (gs : List Nat) (k : Nat) : Nat := if k = 0 then 0 else gs.getD (k - 1) 0
def aPt (gs : List Nat) (m : Nat) : List aF → Prop
  | [] => True
  | F :: P => P.length + 1 + gk gs F.2.2.1 ≤ m ∧ aPt gs m P
/-- what holds of the machine's states -/
def aJ (sg : Nat → Int32) (sz : Nat → Nat) (r : List Nat) : aS → Prop
  | (b, pl, x, k, P, K, n, g, u, q) => x < 8 ∧ (b = true → aV sg sz pl ∧ k ≤ K.length ∧ (aDc pl → 1 ≤ k)) ∧ (∀ F ∈ P, aFok sg sz K.length F) ∧ (∀ L ∈ K, L ≠ [] ∧ ∀ F ∈ L, aFok sg sz K.length F) ∧
    n ≤ 200 ∧ g ≤ 40 ∧ u ≤ r.length ∧ q.length ≤ K.length + u ∧ K.length + (if b then 0 else 1) ≤ n + 1 ∧
    ∃ gs : List Nat, gs.length = K.length ∧ aPt gs n P ∧ (b = true → P.length + gk gs k ≤ n) ∧ ∀ (j : Nat) (L : List aF), K[j]? = some L → aPt gs (gs.getD j 0) L ∧ gs.getD j 0 ≤ n
theorem aPt_mono {gs : List Nat} {m m' : Nat} (h : m ≤ m') : ∀ {P : List aF}, aPt gs m P → aPt gs m' P
  | [], _ => trivial
  | F :: P, q => ⟨Nat.le_trans q.1 h, aPt_mono h q.2⟩
theorem aPt_len {gs : List Nat} {m : Nat} : ∀ {P : List aF}, aPt gs m P → P.length ≤ m
  | [], _ => Nat.zero_le _
  | F :: P, q => by have := q.1; simp only [List.length_cons]; omega
theorem aPt_right {gs : List Nat} {m : Nat} : ∀ {A C : List aF}, aPt gs m (A ++ C) → aPt gs m C
  | [], C, q => q
  | F :: A, C, q => aPt_right (A := A) q.2
theorem gk_app {gs : List Nat} {z k : Nat} (hk : k ≤ gs.length) : gk (gs ++ [z]) k = gk gs k := by
  unfold gk
  split
  · rfl
  · rw [List.getD_eq_getElem?_getD, List.getD_eq_getElem?_getD, List.getElem?_append_left (by omega)]
theorem aPt_app {gs : List Nat} {z m : Nat} : ∀ {P : List aF}, (∀ F ∈ P, F.2.2.1 ≤ gs.length) → aPt gs m P → aPt (gs ++ [z]) m P
  | [], _, _ => trivial
  | F :: P, hF, q => ⟨by rw [gk_app (hF F List.mem_cons_self)]; exact q.1, aPt_app (fun G hG => hF G (List.mem_cons_of_mem _ hG)) q.2⟩
/-- what is cut off stands that much lower -/
theorem aPt_cut {gs : List Nat} {m : Nat} : ∀ {A C : List aF}, aPt gs m (A ++ C) → aPt gs (m - C.length) A
  | [], _, _ => trivial
  | F :: A, C, q => ⟨by have h1 : (A ++ C).length + 1 + gk gs F.2.2.1 ≤ m := q.1; rw [List.length_append] at h1; omega, aPt_cut (A := A) q.2⟩
/-- what is laid down stands that much higher -/
theorem aPt_lay {gs : List Nat} {m a : Nat} {C : List aF} (hm : a + C.length ≤ m) (hC : aPt gs m C) : ∀ {A : List aF}, aPt gs a A → aPt gs m (A ++ C)
  | [], _ => hC
  | F :: A, q => ⟨by have h1 := q.1; show (A ++ C).length + 1 + gk gs F.2.2.1 ≤ m; rw [List.length_append]; omega, aPt_lay hm hC q.2⟩
theorem aFok_mono {sg : Nat → Int32} {sz : Nat → Nat} {a b : Nat} (h : a ≤ b) {F : aF} (q : aFok sg sz a F) : aFok sg sz b F := ⟨q.1, q.2.1, q.2.2.1, Nat.le_trans q.2.2.2.1 h, q.2.2.2.2⟩
def aMu : aS → Nat
  | (b, _, _, _, P, _, n, g, _, _) => (600 - 3 * n) + (8000 - 200 * g) + P.length + (if b then 0 else 1)
theorem aV_page {sg : Nat → Int32} {sz : Nat → Nat} {p : Nat} (hp : p < 20) (hz : 0 < sz p) : aV sg sz (40 * p) := by
  refine ⟨by omega, ?_, fun q => by have := q.1; omega⟩
  rw [Nat.mul_mod_right, Nat.mul_div_cancel_left p (by decide)]
  exact hz
theorem aDc_page {p : Nat} : aDc (40 * p) ↔ (4 ≤ p ∧ p % 4 ≠ 3) := by
  unfold aDc
  rw [Nat.mul_div_cancel_left p (by decide)]
theorem aDc_same {a b : Nat} (h : a / 40 = b / 40) : aDc a ↔ aDc b := by unfold aDc; rw [h]
theorem aAct_lt {s : Int} {a b : Nat} (ha : a < 8) (hb : b < 8) : aAct s a b < 8 := by
  unfold aAct
  repeat' split
  all_goals omega
theorem aOf_cases (x : Int) : aOf x = 0 ∨ aOf x = 1 ∨ aOf x = 2 ∨ aOf x = 3 ∨ aOf x = -1 := by
  unfold aOf
  repeat' split
  all_goals omega
theorem aOf_0 {x : Int} (h : aOf x = 0) (hx : x ≠ 120) : 48 ≤ x ∧ x ≤ 55 := by
  unfold aOf at h
  repeat' split at h
  all_goals omega
theorem aOf_1 {x : Int} (h : aOf x = 1) : x = 112 ∨ x = 113 ∨ x = 114 ∨ x = 107 ∨ x = 64 := by
  unfold aOf at h
  repeat' split at h
  all_goals omega
theorem aOf_2 {x : Int} (h : aOf x = 2) : x = 43 ∨ x = 45 ∨ x = 42 ∨ x = 109 := by
  unfold aOf at h
  repeat' split at h
  all_goals omega
theorem aOf_3 {x : Int} (h : aOf x = 3) : x = 63 := by
  unfold aOf at h
  repeat' split at h
  all_goals omega
theorem aOf_is3 : aOf 63 = 3 := by decide
theorem aOf_64 : aOf 64 = 1 := by decide
theorem aOf_107 : aOf 107 = 1 := by decide
/-- a turn keeps what holds, and comes nearer to the end -/
theorem aJ_beg {sg : Nat → Int32} {ln sz : Nat → Nat} {r : List Nat} (hB : aWB sg ln sz) {pl x k : Nat} {P : List aF} {K : List (List aF)} {n g u : Nat} {q : List Nat} (h : aJ sg sz r (true, pl, x, k, P, K, n, g, u, q)) {s' : aS} (hs : aBeg sg pl x k P K n g u q = .inl s') : aJ sg sz r s' ∧ aMu s' < aMu (true, pl, x, k, P, K, n, g, u, q) := by
  obtain ⟨hx, hb, hP, hK, hn, hg, hu, hq, hc, gs, g1, g2, g3, g4⟩ := h
  obtain ⟨hV, hk, hd⟩ := hb rfl
  have g3 := g3 rfl
  have g4' : ∀ (j : Nat) (L : List aF), K[j]? = some L → aPt gs (gs.getD j 0) L ∧ gs.getD j 0 ≤ n + 1 := fun j L hj => ⟨(g4 j L hj).1, Nat.le_succ_of_le (g4 j L hj).2⟩
  have hc' : K.length + 0 ≤ n + 1 := hc
  unfold aBeg at hs
  split at hs
  · cases hs
  · rename_i hn2
    split at hs
    · cases hs
      refine ⟨⟨hx, fun q => (by cases q), hP, hK, by omega, hg, hu, hq, by simp only [Bool.false_eq_true, if_false]; omega, gs, g1, aPt_mono (by omega) g2, fun q => (by cases q), g4'⟩, ?_⟩
      simp only [aMu, Bool.false_eq_true, if_false, if_true]
      omega
    · rename_i h120
      split at hs
      · rename_i h0
        cases hs
        have h9 := aOf_0 h0 h120
        refine ⟨⟨by omega, fun q => (by cases q), hP, hK, by omega, hg, hu, hq, by simp only [Bool.false_eq_true, if_false]; omega, gs, g1, aPt_mono (by omega) g2, fun q => (by cases q), g4'⟩, ?_⟩
        simp only [aMu, Bool.false_eq_true, if_false, if_true]
        omega
      · rename_i h0
        cases hs
        have h9 := hB.2 pl hV
        have h1 : 1 ≤ aOf (sg pl).toInt := by have := h9.1; omega
        have h2 := h9.2.2.2.1 h1
        have hd2 : aDc (aFs sg pl) → 1 ≤ k := fun z => hd ((aDc_same h2.2).mp z)
        refine ⟨⟨hx, fun _ => ⟨h2.1, hk, hd2⟩, ?_, hK, by omega, hg, hu, hq, by simp only [if_true]; omega, gs, g1, ⟨by show P.length + 1 + gk gs k ≤ n + 1; omega, aPt_mono (by omega) g2⟩, fun _ => by show P.length + 1 + gk gs k ≤ n + 1; omega, g4'⟩, ?_⟩
        · intro F hF
          rcases List.mem_cons.mp hF with rfl | hF
          · exact ⟨hV, h1, hx, hk, hd, Nat.zero_le _, fun _ => rfl⟩
          · exact hP F hF
        · simp only [aMu, List.length_cons, if_true]
          omega
theorem aJ_ask {sg : Nat → Int32} {ln sz : Nat → Nat} {r : List Nat} (hB : aWB sg ln sz) (hr : ∀ z ∈ r, z < 8) {d v pl0 x0 k0 w0 : Nat} (hd : d < 3) {P : List aF} {K : List (List aF)} {n g u : Nat} {q : List Nat} (h : aJ sg sz r (false, 0, v, 0, (pl0, x0, k0, w0) :: P, K, n, g, u, q)) {s' : aS} (hs : aAsk sg sz r d v P K n g u q = .inl s') : aJ sg sz r s' ∧ aMu s' < aMu (false, 0, v, 0, (pl0, x0, k0, w0) :: P, K, n, g, u, q) := by
  obtain ⟨hx, hb, hP, hK, hn, hg, hu, hq, hc, gs, g1, g2, g3, g4⟩ := h
  have hc : K.length + 1 ≤ n + 1 := hc
  have hP2 : ∀ F ∈ P, aFok sg sz K.length F := fun F hF => hP F (List.mem_cons_of_mem _ hF)
  have g2' : aPt gs n P := g2.2
  unfold aAsk at hs
  cases hN : aNr sg sz d P with
  | none =>
    rw [hN] at hs
    simp only at hs
    split at hs
    · rename_i hu2
      cases hs
      have hv : r.getD u 0 < 8 := by
        rw [List.getD_eq_getElem?_getD, List.getElem?_eq_getElem hu2]
        exact hr _ (List.getElem_mem hu2)
      refine ⟨⟨hv, fun q => (by cases q), hP2, hK, hn, hg, by omega, by rw [List.length_append]; simp only [List.length_cons, List.length_nil]; omega, by simp only [Bool.false_eq_true, if_false]; omega, gs, g1, g2', fun q => (by cases q), g4⟩, ?_⟩
      simp only [aMu, List.length_cons, Bool.false_eq_true, if_false]
      omega
    · cases hs
  | some z =>
    obtain ⟨A, G, C⟩ := z
    rw [hN] at hs
    cases hs
    obtain ⟨e1, e2, e3, e4⟩ := aNr_some hN
    subst e1
    have hG := hP2 G (List.mem_append_right _ List.mem_cons_self)
    have h9 := (hB.2 G.1 hG.1).2.2.2.2.2.2.2.2.1 e2
    have hh : aHd sg G.1 < 4 := by unfold aHd; omega
    have eAC : A ++ G :: C = (A ++ [G]) ++ C := by simp
    have gC : aPt gs n C := by rw [eAC] at g2'; exact aPt_right g2'
    have gA1 : aPt gs (n - C.length) (A ++ [G]) := by rw [eAC] at g2'; exact aPt_cut g2'
    have hCl := aPt_len gC
    have hKk : ∀ F, aFok sg sz K.length F → F.2.2.1 ≤ gs.length := fun F q => by rw [g1]; exact q.2.2.2.1
    have hKl : (K ++ [A ++ [G]]).length = K.length + 1 := by simp
    refine ⟨⟨hx, fun _ => ⟨aV_page (by omega) e3, by rw [hKl]; exact Nat.le_refl _, fun _ => Nat.le_add_left 1 _⟩, ?_, ?_, hn, hg, hu, by rw [hKl, List.length_append]; simp only [List.length_cons, List.length_nil]; omega, by rw [hKl]; simp only [if_true]; omega, gs ++ [n - C.length], by rw [hKl, List.length_append, g1]; rfl, ?_, ?_, ?_⟩, ?_⟩
    · intro F hF
      exact aFok_mono (by rw [hKl]; omega) (hP2 F (List.mem_append_right _ (List.mem_cons_of_mem _ hF)))
    · intro L hL
      rcases List.mem_append.mp hL with hL | hL
      · exact ⟨(hK L hL).1, fun F hF => aFok_mono (by rw [hKl]; omega) ((hK L hL).2 F hF)⟩
      · rw [List.mem_singleton] at hL
        subst hL
        refine ⟨by simp, fun F hF => aFok_mono (by rw [hKl]; omega) (hP2 F ?_)⟩
        rw [eAC]
        exact List.mem_append_left _ hF
    · exact aPt_app (fun F hF => hKk F (hP2 F (List.mem_append_right _ (List.mem_cons_of_mem _ hF)))) gC
    · intro _
      have : gk (gs ++ [n - C.length]) (K.length + 1) = n - C.length := by
        unfold gk
        rw [if_neg (by omega), List.getD_eq_getElem?_getD, List.getElem?_append_right (by omega)]
        simp [g1]
      rw [this]
      omega
    · intro j L hj
      by_cases hjl : j < K.length
      · rw [List.getElem?_append_left hjl] at hj
        obtain ⟨q1, q2⟩ := g4 j L hj
        have : (gs ++ [n - C.length]).getD j 0 = gs.getD j 0 := by rw [List.getD_eq_getElem?_getD, List.getD_eq_getElem?_getD, List.getElem?_append_left (by omega)]
        rw [this]
        exact ⟨aPt_app (fun F hF => hKk F ((hK L (List.mem_of_getElem? hj)).2 F hF)) q1, q2⟩
      · rw [List.getElem?_append_right (by omega)] at hj
        have hj0 : j = K.length := by
          have := (List.getElem?_eq_some_iff.mp hj).1
          simp only [List.length_cons, List.length_nil] at this
          omega
        subst hj0
        rw [Nat.sub_self] at hj
        cases hj
        have : (gs ++ [n - C.length]).getD K.length 0 = n - C.length := by
          rw [List.getD_eq_getElem?_getD, List.getElem?_append_right (by omega)]
          simp [g1]
        rw [this]
        refine ⟨aPt_app (fun F hF => hKk F (hP2 F ?_)) gA1, by omega⟩
        rw [eAC]
        exact List.mem_append_left _ hF
    · simp only [aMu, List.length_cons, List.length_append, Bool.false_eq_true, if_false, if_true]
      omega
theorem aJ_top {sg : Nat → Int32} {ln sz : Nat → Nat} {r : List Nat} (hB : aWB sg ln sz) (hr : ∀ z ∈ r, z < 8) {v pl x k w : Nat} {P : List aF} {K : List (List aF)} {n g u : Nat} {q : List Nat} (h : aJ sg sz r (false, 0, v, 0, (pl, x, k, w) :: P, K, n, g, u, q)) {s' : aS} (hs : aTop sg ln sz r v pl x k w P K n g u q = .inl s') : aJ sg sz r s' ∧ aMu s' < aMu (false, 0, v, 0, (pl, x, k, w) :: P, K, n, g, u, q) := by
  have h0 := h
  obtain ⟨hx, hb, hP, hK, hn, hg, hu, hq, hc, gs, g1, g2, g3, g4⟩ := h
  have hc : K.length + 1 ≤ n + 1 := hc
  have hP2 : ∀ F ∈ P, aFok sg sz K.length F := fun F hF => hP F (List.mem_cons_of_mem _ hF)
  obtain ⟨f1, f2, f3, f4, f5, f6, f7⟩ := hP (pl, x, k, w) List.mem_cons_self
  dsimp only at f1 f2 f3 f4 f5 f6 f7
  have g2' : aPt gs n P := g2.2
  have g2t : P.length + 1 + gk gs k ≤ n := g2.1
  have h9 := hB.2 pl f1
  unfold aTop at hs
  split at hs
  · rename_i c1
    cases hs
    have h2 := h9.2.2.2.2.2.1 (by omega)
    refine ⟨⟨f3, fun _ => ⟨h2.1, f4, fun z => f5 ((aDc_same h2.2).mp z)⟩, ?_, hK, hn, hg, hu, hq, by simp only [if_true]; omega, gs, g1, ⟨g2t, g2'⟩, fun _ => by show P.length + 1 + gk gs k ≤ n; exact g2t, g4⟩, ?_⟩
    · intro F hF
      rcases List.mem_cons.mp hF with rfl | hF
      · exact ⟨f1, f2, f3, f4, f5, by show v + 1 ≤ 8; omega, fun z => absurd c1.1 z⟩
      · exact hP2 F hF
    · simp only [aMu, List.length_cons, Bool.false_eq_true, if_false, if_true]
      omega
  · rename_i c1
    split at hs
    · rename_i c2
      cases hs
      have h3 : aOf (sg pl).toInt = 3 := by rw [c2]; exact aOf_is3
      have q2 := h9.2.2.2.2.2.1 (by omega)
      have q3 := (h9.2.2.2.2.2.2.2.1 h3).1
      refine ⟨⟨f3, fun _ => ?_, hP2, hK, hn, hg, hu, hq, by simp only [if_true]; omega, gs, g1, g2', fun _ => by show P.length + gk gs k ≤ n; omega, g4⟩, ?_⟩
      · split
        · exact ⟨q2.1, f4, fun z => f5 ((aDc_same q2.2).mp z)⟩
        · exact ⟨q3.1, f4, fun z => f5 ((aDc_same q3.2).mp z)⟩
      · simp only [aMu, List.length_cons, Bool.false_eq_true, if_false, if_true]
        omega
    · rename_i c2
      split at hs
      · rename_i c3
        have hh := h9.2.2.2.2.2.2.2.2.1 c3
        have hh4 : aHd sg pl < 4 := by unfold aHd; omega
        split at hs
        · rename_i c4
          cases hs
          refine ⟨⟨hx, fun _ => ⟨aV_page (by omega) c4, Nat.zero_le _, fun z => absurd (aDc_page.mp z).2 (by omega)⟩, hP2, hK, hn, hg, hu, hq, by simp only [if_true]; omega, gs, g1, g2', fun _ => by show P.length + gk gs 0 ≤ n; have : gk gs 0 = 0 := rfl; omega, g4⟩, ?_⟩
          simp only [aMu, List.length_cons, Bool.false_eq_true, if_false, if_true]
          omega
        · cases hs
          refine ⟨⟨hx, fun q => (by cases q), hP2, hK, hn, hg, hu, hq, by simp only [Bool.false_eq_true, if_false]; omega, gs, g1, g2', fun q => (by cases q), g4⟩, ?_⟩
          simp only [aMu, List.length_cons, Bool.false_eq_true, if_false]
          omega
      · rename_i c3
        split at hs
        · rename_i c4
          split at hs
          · cases hs
          · rename_i c5
            cases hs
            have hk1 : 1 ≤ k := f5 (h9.2.2.2.2.2.2.2.2.2 c4)
            have hkl : k - 1 < K.length := by omega
            have e1 : K.getD (k - 1) [] = K[k - 1] := by rw [List.getD_eq_getElem?_getD, List.getElem?_eq_getElem hkl]; rfl
            have e2 : K[k - 1]? = some (K.getD (k - 1) []) := by rw [e1, List.getElem?_eq_getElem hkl]
            have e3 : K.getD (k - 1) [] ∈ K := List.mem_of_getElem? e2
            obtain ⟨q1, q2⟩ := g4 _ _ e2
            have e4 : gk gs k = gs.getD (k - 1) 0 := by unfold gk; rw [if_neg (by omega)]
            have q3 := aPt_len q1
            refine ⟨⟨hx, fun q => (by cases q), ?_, hK, hn, by omega, hu, hq, by simp only [Bool.false_eq_true, if_false]; omega, gs, g1, aPt_lay (by omega) g2' q1, fun q => (by cases q), g4⟩, ?_⟩
            · intro F hF
              rcases List.mem_append.mp hF with hF | hF
              · exact (hK _ e3).2 F hF
              · exact hP2 F hF
            · simp only [aMu, List.length_cons, List.length_append, Bool.false_eq_true, if_false]
              omega
        · rename_i c4
          split at hs
          · rename_i c5
            exact aJ_ask hB hr (by omega) h0 hs
          · rename_i c5
            cases hs
            refine ⟨⟨aAct_lt (by omega) hx, fun q => (by cases q), hP2, hK, hn, hg, hu, hq, by simp only [Bool.false_eq_true, if_false]; omega, gs, g1, g2', fun q => (by cases q), g4⟩, ?_⟩
            simp only [aMu, List.length_cons, Bool.false_eq_true, if_false]
            omega
end
section
/-! The class's run: its cells, read as the machine's state. -/
theorem fa_and (a b : Nat) : nI a &&& nI b = nI (a &&& b) := by
  apply Int32.toBitVec_inj.1
  show BitVec.ofNat 32 a &&& BitVec.ofNat 32 b = BitVec.ofNat 32 (a &&& b)
  apply BitVec.eq_of_getLsbD_eq
  intro i hi
  simp [hi]
theorem fa_or (a b : Nat) : nI a ||| nI b = nI (a ||| b) := by
  apply Int32.toBitVec_inj.1
  show BitVec.ofNat 32 a ||| BitVec.ofNat 32 b = BitVec.ofNat 32 (a ||| b)
  apply BitVec.eq_of_getLsbD_eq
  intro i hi
  simp [hi]
theorem mark_place {pl w c : Nat} (hp : pl < 800) (hw : w < 16) (hc : c < 65536) : nI (pl + 1024 * w + 16384 * c) &&& 1023 = nI pl := by
  rw [pk_andN (by omega) 10 (by decide)]
  congr 1
  omega
theorem mark_call {pl w c : Nat} (hp : pl < 800) (hw : w < 16) (hc : c < 65536) : nI (pl + 1024 * w + 16384 * c) >>> (14 &&& 31) = nI c := by
  rw [pk_shrN (by omega) _ 14 (by decide)]
  congr 1
  omega
theorem mark_held {pl w c : Nat} (hp : pl < 800) (hw : w < 16) (hc : c < 65536) : ((nI (pl + 1024 * w + 16384 * c) >>> (10 &&& 31)) &&& 15) - 1 = dn w := by
  rw [pk_shrN (by omega) _ 10 (by decide), pk_andN (by omega) 4 (by decide)]
  unfold dn
  congr 2
  omega
theorem mark_push {pl c : Nat} (hp : pl < 800) (hc : c < 65536) : nI pl ||| (nI c <<< (14 &&& 31)) = nI (pl + 1024 * 0 + 16384 * c) := by
  rw [pk_shlN _ 14 (by decide) (by omega), fa_or]
  congr 1
  have h := Nat.two_pow_add_eq_or_of_lt (i := 14) (b := pl) (by omega) c
  rw [Nat.or_comm, Nat.mul_comm c, ← h]
  omega
theorem mark_hold {pl c v : Nat} (hp : pl < 800) (hc : c < 65536) (hv : v < 8) : nI (pl + 1024 * 0 + 16384 * c) ||| ((nI v + 1) <<< (10 &&& 31)) = nI (pl + 1024 * (v + 1) + 16384 * c) := by
  rw [nI_1, pk_shlN _ 10 (by decide) (by omega), fa_or]
  congr 1
  have e1 : pl + 1024 * 0 + 16384 * c = 16384 * c + pl := by omega
  have e2 : (v + 1) * 2 ^ 10 = 1024 * (v + 1) := by rw [show (2 : Nat) ^ 10 = 1024 from by decide]; omega
  have e3 : pl + 1024 * (v + 1) + 16384 * c = 16384 * c + (1024 * (v + 1) + pl) := by omega
  have h1 : 16384 * c + pl = 16384 * c ||| pl := Nat.two_pow_add_eq_or_of_lt (i := 14) (b := pl) (by omega) c
  have h2 : 1024 * (v + 1) + pl = 1024 * (v + 1) ||| pl := Nat.two_pow_add_eq_or_of_lt (i := 10) (b := pl) (by omega) (v + 1)
  have h3 : 16384 * c + (1024 * (v + 1) + pl) = 16384 * c ||| (1024 * (v + 1) + pl) := Nat.two_pow_add_eq_or_of_lt (i := 14) (b := 1024 * (v + 1) + pl) (by omega) c
  rw [e1, e2, e3, h1, h3, Nat.or_assoc, Nat.or_comm pl, ← h2]
/-! contracts with a named answer -/
theorem k_B_signX (l : Launch) (h : mH) (p : Nat) (hp : p < 800) {s : Int32} (e : h 13 p = s) : mD l Sh0 iX0_sign [.inr 2, .inl (nI p)] h (some s) h := by
  have q := k_B_sign l h (nI p)
  rw [gA_in hp (by omega), e] at q
  exact q
theorem k_B_afterX (l : Launch) (h : mH) (p : Nat) (hp : p < 800) {s : Int32} (e : h 14 p = s) : mD l Sh0 iX0_after [.inr 2, .inl (nI p)] h (some s) h := by
  have q := k_B_after l h (nI p)
  rw [gA_in hp (by omega), e] at q
  exact q
theorem k_B_sizeX (l : Launch) (h : mH) (p : Nat) (hp : p < 20) {s : Int32} (e : h 15 p = s) : mD l Sh0 iX0_size [.inr 2, .inl (nI p)] h (some s) h := by
  have q := k_B_size l h (nI p)
  rw [gA_in hp (by omega), e] at q
  exact q
theorem k_B_firstX (l : Launch) (h : mH) (sg : Nat → Int32) (p : Nat) (hp : p < 800) (e : h 13 p = sg p) : mD l Sh0 iX0_first [.inr 2, .inl (nI p)] h (some (nI (aFs sg p))) h := by
  have q := k_B_first l h (nI p)
  unfold cFirst at q
  rw [gA_in hp (by omega), e] at q
  unfold aFs
  by_cases z : (sg p).toInt = 64
  · rw [if_pos z, nI_addc] at q
    rw [if_pos z]
    exact q
  · rw [if_neg z, nI_addc] at q
    rw [if_neg z]
    exact q
theorem k_B_handX (l : Launch) (h : mH) (sg : Nat → Int32) (p : Nat) (hp : p + 1 < 800) (e : h 13 p = sg p) (e2 : h 13 (p + 1) = sg (p + 1)) (h64 : (sg p).toInt = 64) (hd : 48 ≤ (sg (p + 1)).toInt) : mD l Sh0 iX0_hand [.inr 2, .inl (nI p)] h (some (nI (aHd sg p))) h := by
  have q := k_B_hand l h (nI p)
  unfold cHand at q
  have e3 : (nI p).toInt = (p : Int) := nI_toInt (by omega)
  have e4 : h 13 (nI p).toInt.toNat = sg p := by rw [e3]; exact e
  have e5 : h 13 (nI p + 1).toInt.toNat = sg (p + 1) := by rw [nI_1, nI_toInt (by omega)]; exact e2
  rw [if_pos ⟨by omega, by omega, by rw [e4]; exact h64⟩, e5] at q
  have e6 : sg (p + 1) - 48 = nI (aHd sg p) := by
    have e7 : sg (p + 1) = nI (sg (p + 1)).toInt.toNat := nI_ofInt (by omega)
    have hhi := i32_hi (sg (p + 1))
    unfold aHd
    rw [e7, nI_subc 48 (by omega), nI_toInt (by omega)]
    congr 1
    omega
  rw [e6] at q
  exact q
theorem k_B_handN (l : Launch) (h : mH) (sg : Nat → Int32) (p : Nat) (hp : p < 800) (e : h 13 p = sg p) (h64 : (sg p).toInt ≠ 64) : mD l Sh0 iX0_hand [.inr 2, .inl (nI p)] h (some (-1)) h := by
  have q := k_B_hand l h (nI p)
  unfold cHand at q
  have e3 : (nI p).toInt = (p : Int) := nI_toInt (by omega)
  have e4 : h 13 (nI p).toInt.toNat = sg p := by rw [e3]; exact e
  rw [if_neg (fun z => h64 (by rw [← e4]; exact z.2.2))] at q
  exact q
theorem k_T_placeX (l : Launch) (h : mH) (i m : Nat) (hm : h 7 2 = nI m) (hi : i < m) (hM : m ≤ 8200) {pl w c : Nat} (e : h 20 i = nI (pl + 1024 * w + 16384 * c)) (hp : pl < 800) (hw : w < 16) (hc : c < 65536) : mD l Sh0 iX5_place [.inr 7, .inl (nI i)] h (some (nI pl)) h := by
  have q := k_T_place l h i m hm hi hM
  rw [e, mark_place hp hw hc] at q
  exact q
theorem k_T_callX (l : Launch) (h : mH) (i m : Nat) (hm : h 7 2 = nI m) (hi : i < m) (hM : m ≤ 8200) {pl w c : Nat} (e : h 20 i = nI (pl + 1024 * w + 16384 * c)) (hp : pl < 800) (hw : w < 16) (hc : c < 65536) : mD l Sh0 iX5_call [.inr 7, .inl (nI i)] h (some (nI c)) h := by
  have q := k_T_call l h i m hm hi hM
  rw [e, mark_call hp hw hc] at q
  exact q
theorem k_T_heldX (l : Launch) (h : mH) (i m : Nat) (hm : h 7 2 = nI m) (hi : i < m) (hM : m ≤ 8200) {pl w c : Nat} (e : h 20 i = nI (pl + 1024 * w + 16384 * c)) (hp : pl < 800) (hw : w < 16) (hc : c < 65536) : mD l Sh0 iX5_held [.inr 7, .inl (nI i)] h (some (dn w)) h := by
  have q := k_T_held l h i m hm hi hM
  rw [e, mark_held hp hw hc] at q
  exact q
theorem k_T_belowX (l : Launch) (h : mH) (i m : Nat) (hm : h 7 2 = nI m) (hi : i < m) (hM : m ≤ 8200) {s : Int32} (e : h 21 i = s) : mD l Sh0 iX5_below [.inr 7, .inl (nI i)] h (some s) h := by
  have q := k_T_below l h i m hm hi hM
  rw [e] at q
  exact q
theorem k_T_holdX (l : Launch) (h : mH) (i m : Nat) (hm : h 7 2 = nI m) (hi : i < m) (hM : m ≤ 8200) {pl c v : Nat} (e : h 20 i = nI (pl + 1024 * 0 + 16384 * c)) (hp : pl < 800) (hc : c < 65536) (hv : v < 8) : mD l Sh0 iX5_hold [.inr 7, .inl (nI i), .inl (nI v)] h none (hs h 20 i (nI (pl + 1024 * (v + 1) + 16384 * c))) := by
  have q := k_T_hold l h i m hm hi hM (nI v)
  rw [e, mark_hold hp hc hv] at q
  exact q
theorem k_T_pushX (l : Launch) (h : mH) (m : Nat) (hm : h 7 2 = nI m) (hM : m < 8200) {pl c : Nat} (hp : pl < 800) (hc : c < 65536) : mD l Sh0 iX5_push [.inr 7, .inl (nI pl), .inl (nI c)] h (some 1) (mkH (hs h 7 3 (nI m)) m (nI (pl + 1024 * 0 + 16384 * c)) (h 7 3)) := by
  have q := k_T_push l h m hm hM (nI pl) (nI c)
  rw [mark_push hp hc] at q
  exact q
theorem k_C_argumentX (l : Launch) (h : mH) (i m : Nat) (hm : h 8 3 = nI m) (hi : i < m) (hM : m ≤ 201) {s : Int32} (e : h 22 i = s) : mD l Sh0 iX1_argument [.inr 8, .inl (nI i)] h (some s) h := by
  have q := k_C_argument l h i m hm hi hM
  rw [e] at q
  exact q
theorem k_C_keptTopX (l : Launch) (h : mH) (i m : Nat) (hm : h 8 3 = nI m) (hi : i < m) (hM : m ≤ 201) {s : Int32} (e : h 23 i = s) : mD l Sh0 iX1_keptTop [.inr 8, .inl (nI i)] h (some s) h := by
  have q := k_C_keptTop l h i m hm hi hM
  rw [e] at q
  exact q
theorem k_C_keptHandX (l : Launch) (h : mH) (i m : Nat) (hm : h 8 3 = nI m) (hi : i < m) (hM : m ≤ 201) {s : Int32} (e : h 24 i = s) : mD l Sh0 iX1_keptHand [.inr 8, .inl (nI i)] h (some s) h := by
  have q := k_C_keptHand l h i m hm hi hM
  rw [e] at q
  exact q
theorem k_pageOfX (l : Launch) (h : mH) (a b : Nat) : mD l Sh0 iX7_pageOf [.inl (nI a), .inl (nI b)] h (some (nI (4 + 4 * a + b))) h := by
  have q := k_pageOf l h (nI a) (nI b)
  unfold cPage at q
  rw [nI_mulc, nI_addcl, nI_add, Nat.mul_comm a] at q
  exact q
/-! chains -/
def cK (h : mH) (KS : List (List Nat)) (c k : Nat) : Prop := k = 0 ∨ ∃ (nd : List Nat) (a b : Nat), KS[k - 1]? = some nd ∧ nd.head? = some a ∧ nd.getLast? = some b ∧ h 23 c = nI a ∧ h 24 c = nI b
def cFr (h : mH) (KS : List (List Nat)) (cm i : Nat) (F : aF) : Prop := ∃ c, c < cm ∧ h 20 i = nI (F.1 + 1024 * F.2.2.2 + 16384 * c) ∧ h 22 c = nI F.2.1 ∧ cK h KS c F.2.2.1
def chn (h : mH) (KS : List (List Nat)) (cm : Nat) : List Nat → List aF → Int32 → Int32 → Prop
  | [], [], t, e => t = e
  | i :: nd, F :: P, t, e => t = nI i ∧ cFr h KS cm i F ∧ chn h KS cm nd P (h 21 i) e
  | _, _, _, _ => False
theorem cK_ext {h h' : mH} {KS Z : List (List Nat)} {c k : Nat} (h3 : h' 23 c = h 23 c) (h4 : h' 24 c = h 24 c) (q : cK h KS c k) : cK h' (KS ++ Z) c k := by
  rcases q with q | ⟨nd, a, b, q1, q2, q3, q4, q5⟩
  · exact Or.inl q
  · refine Or.inr ⟨nd, a, b, ?_, q2, q3, by rw [h3]; exact q4, by rw [h4]; exact q5⟩
    rw [List.getElem?_append_left (List.getElem?_eq_some_iff.mp q1).1]
    exact q1
theorem cFr_ext {h h' : mH} {KS Z : List (List Nat)} {cm cm' i : Nat} (hcm : cm ≤ cm') (hc : ∀ c, c < cm → h' 22 c = h 22 c ∧ h' 23 c = h 23 c ∧ h' 24 c = h 24 c) (hi : h' 20 i = h 20 i) {F : aF} (q : cFr h KS cm i F) : cFr h' (KS ++ Z) cm' i F := by
  obtain ⟨c, q1, q2, q3, q4⟩ := q
  obtain ⟨c1, c2, c3⟩ := hc c q1
  exact ⟨c, Nat.lt_of_lt_of_le q1 hcm, by rw [hi]; exact q2, by rw [c1]; exact q3, cK_ext c2 c3 q4⟩
theorem chn_ext {h h' : mH} {KS Z : List (List Nat)} {cm cm' : Nat} (hcm : cm ≤ cm') (hc : ∀ c, c < cm → h' 22 c = h 22 c ∧ h' 23 c = h 23 c ∧ h' 24 c = h 24 c) : ∀ {nd : List Nat} {P : List aF} {t e : Int32}, (∀ i ∈ nd, h' 20 i = h 20 i ∧ h' 21 i = h 21 i) → chn h KS cm nd P t e → chn h' (KS ++ Z) cm' nd P t e
  | [], [], _, _, _, q => q
  | [], _ :: _, _, _, _, q => q.elim
  | _ :: _, [], _, _, _, q => q.elim
  | i :: nd, F :: P, t, e, hn, q => ⟨q.1, cFr_ext hcm hc (hn i List.mem_cons_self).1 q.2.1, by rw [(hn i List.mem_cons_self).2]; exact chn_ext hcm hc (fun j hj => hn j (List.mem_cons_of_mem _ hj)) q.2.2⟩
/-- only cells that a chain doesn't read have changed -/
theorem chn_same {h h' : mH} {KS : List (List Nat)} {cm : Nat} (h0 : h' 20 = h 20) (h1 : h' 21 = h 21) (h2 : h' 22 = h 22) (h3 : h' 23 = h 23) (h4 : h' 24 = h 24) {nd : List Nat} {P : List aF} {t e : Int32} (q : chn h KS cm nd P t e) : chn h' KS cm nd P t e := by
  have := chn_ext (h := h) (h' := h') (KS := KS) (Z := []) (Nat.le_refl cm) (fun c _ => ⟨by rw [h2], by rw [h3], by rw [h4]⟩) (fun i _ => ⟨by rw [h0], by rw [h1]⟩) q
  rwa [List.append_nil] at this
theorem chn_len {h : mH} {KS : List (List Nat)} {cm : Nat} : ∀ {nd : List Nat} {P : List aF} {t e : Int32}, chn h KS cm nd P t e → nd.length = P.length
  | [], [], _, _, _ => rfl
  | [], _ :: _, _, _, q => q.elim
  | _ :: _, [], _, _, q => q.elim
  | i :: nd, F :: P, t, e, q => by simp only [List.length_cons, chn_len q.2.2]
theorem chn_split {h : mH} {KS : List (List Nat)} {cm : Nat} : ∀ {A : List aF} {nd : List Nat} {G : aF} {C : List aF} {t e : Int32}, chn h KS cm nd (A ++ G :: C) t e → ∃ (nA : List Nat) (i : Nat) (nC : List Nat), nd = nA ++ i :: nC ∧ chn h KS cm nA A t (nI i) ∧ cFr h KS cm i G ∧ chn h KS cm nC C (h 21 i) e
  | [], [], _, _, _, _, q => q.elim
  | [], i :: nd, G, C, t, e, q => ⟨[], i, nd, rfl, q.1, q.2.1, q.2.2⟩
  | F :: A, [], _, _, _, _, q => q.elim
  | F :: A, i :: nd, G, C, t, e, q => by
    obtain ⟨nA, j, nC, e1, q1, q2, q3⟩ := chn_split (A := A) q.2.2
    exact ⟨i :: nA, j, nC, by rw [e1]; rfl, ⟨q.1, q.2.1, q1⟩, q2, q3⟩
theorem chn_join {h : mH} {KS : List (List Nat)} {cm : Nat} : ∀ {A : List aF} {nA nC : List Nat} {C : List aF} {t m e : Int32}, chn h KS cm nA A t m → chn h KS cm nC C m e → chn h KS cm (nA ++ nC) (A ++ C) t e
  | [], [], nC, C, t, m, e, q, q2 => by cases (show t = m from q); exact q2
  | [], _ :: _, _, _, _, _, _, q, _ => q.elim
  | _ :: _, [], _, _, _, _, _, q, _ => q.elim
  | F :: A, i :: nA, nC, C, t, m, e, q, q2 => ⟨q.1, q.2.1, chn_join q.2.2 q2⟩
/-- what the run leaves as it was -/
def KP (h h' : mH) : Prop := ∀ a, ¬ (6 ≤ a ∧ a ≤ 8 ∨ 19 ≤ a ∧ a ≤ 24) → h' a = h a
theorem KP.refl (h : mH) : KP h h := fun _ _ => rfl
theorem KP.trans {a b c : mH} (h1 : KP a b) (h2 : KP b c) : KP a c := fun k hk => (h2 k hk).trans (h1 k hk)
theorem KP.hs {h h' : mH} (q : KP h h') {k j : Nat} {v : Int32} (hk : 6 ≤ k ∧ k ≤ 8 ∨ 19 ≤ k ∧ k ≤ 24) : KP h (hs h' k j v) := fun a ha => by
  rw [hs_rown _ _ _ (fun z => ha (by rw [z]; exact hk))]
  exact q a ha
def RG (h : mH) (n g u : Nat) (q : List Nat) : Prop := h 6 10 = nI n ∧ h 6 11 = nI u ∧ h 6 14 = nI g ∧ h 6 15 = nI q.length ∧ ∀ i, i < q.length → i < 200 → h 19 i = nI (q.getD i 0)
/-- the class's cells hold the machine's state -/
def RC (rc : Nat) (h : mH) : aS → Prop
  | (b, pl, x, k, P, K, n, g, u, q) => ∃ (made cm : Nat) (nd : List Nat) (KS : List (List Nat)), h 6 4 = nI rc ∧ h 6 5 = (if b then 1 else 0) ∧ (b = true → h 6 6 = nI pl ∧ ∃ c, h 6 7 = nI c ∧ c < cm ∧ h 22 c = nI x ∧ cK h KS c k) ∧ (b = false → h 6 8 = nI x) ∧ h 6 9 = -1 ∧ h 6 12 = -6 ∧ h 6 13 = -6 ∧ RG h n g u q ∧ h 7 2 = nI made ∧ h 8 3 = nI cm ∧ chn h KS cm nd P (h 7 3) (-1) ∧ KS.length = K.length ∧ (∀ (j : Nat) (nj : List Nat) (L : List aF), KS[j]? = some nj → K[j]? = some L → ∃ t e, chn h KS cm nj L t e) ∧ (nd ++ KS.flatten).Nodup ∧ (∀ i ∈ nd ++ KS.flatten, i < made) ∧ made ≤ n + 200 * g ∧ cm + (if b then 0 else 1) ≤ n + 1
def RE (h : mH) : aE → Prop
  | (e, d, v, n, g, u, q) => (h 6 9).toInt = e ∧ (h 6 12).toInt = d ∧ (h 6 13).toInt = v ∧ RG h n g u q
def RO (rc : Nat) (h : mH) : aS ⊕ aE → Prop
  | .inl s => RC rc h s
  | .inr e => RE h e
def CB (sg : Nat → Int32) (ln sz : Nat → Nat) (h : mH) : Prop := (∀ pl, pl < 800 → h 13 pl = sg pl) ∧ (∀ p, p < 20 → h 15 p = nI (sz p)) ∧ ∀ pl, aV sg sz pl → h 14 pl = nI (pl + ln pl)
def CR (rc rr : Nat) (r : List Nat) (h : mH) : Prop := h rc 1 = nI r.length ∧ r.length ≤ 8 ∧ ∀ i, i < r.length → h rr i = nI (r.getD i 0)
end
section
/-! The class's turns. -/
theorem KP.mk {h h' : mH} (q : KP h h') {m : Nat} {a b : Int32} : KP h (mkH h' m a b) := ((q.hs (by omega)).hs (by omega)).hs (by omega)
theorem KP.en {h h' : mH} (q : KP h h') {m : Nat} {a b c : Int32} : KP h (enH h' m a b c) := (((q.hs (by omega)).hs (by omega)).hs (by omega)).hs (by omega)
theorem KP.ent {h h' : mH} (q : KP h h') {m : Nat} {p a b c : Int32} : KP h (entH h' m p a b c) := ((q.en.hs (by omega)).hs (by omega)).hs (by omega)
theorem sub48 {x : Int32} (h : 48 ≤ x.toInt) : x - 48 = nI (x.toInt - 48).toNat := by
  have e7 : x = nI x.toInt.toNat := nI_ofInt (by omega)
  have hhi := i32_hi x
  rw [e7, nI_subc 48 (by omega), nI_toInt (by omega)]
  congr 1
  omega
theorem toI_m6 {x : Int32} (h : x = -6) : x.toInt = -6 := by rw [h]; decide
theorem mkH_20s (h : mH) (m : Nat) (a b : Int32) : mkH h m a b 20 m = a := by
  unfold mkH
  rw [hs_ne _ _ (by omega), hs_ne _ _ (by omega), hs_at]
theorem mkH_21s (h : mH) (m : Nat) (a b : Int32) : mkH h m a b 21 m = b := by
  unfold mkH
  rw [hs_ne _ _ (by omega), hs_at]
theorem mkH_o (h : mH) (m : Nat) (a b : Int32) {k : Nat} (h1 : k ≠ 7) (h2 : k ≠ 20) (h3 : k ≠ 21) : mkH h m a b k = h k := by
  unfold mkH
  rw [hs_rown _ _ _ h1, hs_rown _ _ _ h3, hs_rown _ _ _ h2]
set_option maxHeartbeats 2000000 in
theorem t_begin (l : Launch) {sg : Nat → Int32} {ln sz : Nat → Nat} {r : List Nat} {rc : Nat} (hB : aWB sg ln sz) (h : mH) (hC : CB sg ln sz h) {pl x k : Nat} {P : List aF} {K : List (List aF)} {n g u : Nat} {q : List Nat} (hJ : aJ sg sz r (true, pl, x, k, P, K, n, g, u, q)) (hRC : RC rc h (true, pl, x, k, P, K, n, g, u, q)) : mG l Sh0 iX4_begin [.inr 6] h (fun v h' => v = none ∧ KP h h' ∧ RO rc h' (aBeg sg pl x k P K n g u q)) := by
  obtain ⟨made, cm, nd, KS, h4, h5, hb, hb2, h9, h12, h13, ⟨h10, h11, h14, h15, h19⟩, hm, hcm, hch, hKS, hseg, hnd, hlt, hmd, hcc⟩ := hRC
  obtain ⟨jx, jb, jP, jK, jn, jg, ju, jq, jc, gs, g1, g2, g3, g4⟩ := hJ
  obtain ⟨hpl, c, hcl, hc, hax, hck⟩ := hb rfl
  obtain ⟨jV, jk, jd⟩ := jb rfl
  have hp8 : pl < 800 := jV.1
  have hsg : h 13 pl = sg pl := hC.1 pl hp8
  have hcc : cm + 0 ≤ n + 1 := hcc
  have hdot := (hB.2 pl jV).1
  intro RT hR
  show mE l Sh0 none iX4_begin RT 0 [some (.inr 6), none] [] h
  refine e_aload_n (i := 0) dX4_begin_0 rfl rfl ?_
  refine e_getI (x := nI n) dX4_begin_1 fl_X4_47 sh_6 fj_6_10 h10 ?_
  refine e_sipush (v := 200) dX4_begin_4 (by decide) ?_
  refine b_icmp_lt (X := ((n : Nat) : Int)) (Y := 200) (tgt := 17) (nI_toInt (by omega)) (by decide) dX4_begin_7 (by decide) ?_ ?_
  · intro c_7_t
    refine e_aload_n (i := 0) dX4_begin_17 rfl rfl ?_
    refine e_dup dX4_begin_18 ?_
    refine e_getI (x := nI n) dX4_begin_19 fl_X4_47 sh_6 fj_6_10 h10 ?_
    refine e_iconst (v := 1) dX4_begin_22 (by decide) ?_
    refine z_iadd (z := nI (n + 1)) (nI_addc _ 1) dX4_begin_23 ?_
    refine e_putI dX4_begin_24 fl_X4_47 fp_X4_10 sh_6 fj_6_10 ?_
    refine e_aload_n (i := 0) dX4_begin_27 rfl rfl ?_
    refine e_getR (r := 2) dX4_begin_28 fl_X4_29 sh_6 fj_6_0 ?_
    refine e_aload_n (i := 0) dX4_begin_31 rfl rfl ?_
    refine e_getI (x := nI pl) dX4_begin_32 fl_X4_86 sh_6 fj_6_6 hpl ?_
    refine e_invVi (As := [.inl (nI pl)]) (v := sg pl) (h2 := (hs h 6 10 (nI (n + 1)))) dX4_begin_35 lk_X4_92 yv_X0_sign rfl rfl rfl (Nat.le_of_ble_eq_true rfl) sh_2 ci_X0 (Nat.le_of_ble_eq_true rfl) ⟨Nat.le_of_ble_eq_true rfl, Nat.le_of_ble_eq_true rfl⟩ (k_B_signX l (hs h 6 10 (nI (n + 1))) pl hp8 hsg) ?_
    refine e_istore_n (i := 1) (ls2 := [some (.inr 6), some (.inl (sg pl))]) dX4_begin_38 rfl (Nat.le_of_ble_eq_true rfl) rfl ?_
    refine e_iload_n (i := 1) dX4_begin_39 rfl rfl ?_
    refine e_bipush (v := 120) dX4_begin_40 (by decide) ?_
    refine b_icmp_ne (X := (sg pl).toInt) (Y := 120) (tgt := 63) rfl (by decide) dX4_begin_42 (by decide) ?_ ?_
    · intro e_42_t c_42_t
      refine e_iload_n (i := 1) dX4_begin_63 rfl rfl ?_
      refine e_invSi (As := [.inl (sg pl)]) (v := aI (sg pl).toInt) (h2 := (hs h 6 10 (nI (n + 1)))) dX4_begin_64 lk_X4_105 ys_X7_textsOf rfl rfl rfl (Nat.le_of_ble_eq_true rfl) (Nat.le_of_ble_eq_true rfl) ⟨Nat.le_of_ble_eq_true rfl, Nat.le_of_ble_eq_true rfl⟩ (k_textsOf l (hs h 6 10 (nI (n + 1))) (sg pl)) ?_
      refine b_if_ne (X := aOf (sg pl).toInt) (tgt := 81) (aI_toInt _) dX4_begin_67 (by decide) ?_ ?_
      · intro e_67_t c_67_t
        refine e_aload_n (i := 0) dX4_begin_81 rfl rfl ?_
        refine e_getR (r := 7) dX4_begin_82 fl_X4_12 sh_6 fj_6_1 ?_
        refine e_aload_n (i := 0) dX4_begin_85 rfl rfl ?_
        refine e_getI (x := nI pl) dX4_begin_86 fl_X4_86 sh_6 fj_6_6 hpl ?_
        refine e_aload_n (i := 0) dX4_begin_89 rfl rfl ?_
        refine e_getI (x := nI c) dX4_begin_90 fl_X4_83 sh_6 fj_6_7 hcl ?_
        refine e_invVi (As := [.inl (nI pl), .inl (nI c)]) (v := 1) (h2 := (mkH (hs (hs h 6 10 (nI (n + 1))) 7 3 (nI made)) made (nI (pl + 1024 * 0 + 16384 * c)) (h 7 3))) dX4_begin_93 lk_X4_108 yv_X5_push rfl rfl rfl (Nat.le_of_ble_eq_true rfl) sh_7 ci_X5 (Nat.le_of_ble_eq_true rfl) ⟨Nat.le_of_ble_eq_true rfl, Nat.le_of_ble_eq_true rfl⟩ (k_T_pushX l (hs h 6 10 (nI (n + 1))) made hm (by omega) hp8 (by omega)) ?_
        refine b_if_eq (X := 1) (tgt := 117) (by decide) dX4_begin_96 (by decide) ?_ ?_
        · intro e_96_t c_96_t
          exfalso; omega
        · intro e_96_f c_96_f
          refine e_aload_n (i := 0) dX4_begin_99 rfl rfl ?_
          refine e_aload_n (i := 0) dX4_begin_100 rfl rfl ?_
          refine e_getR (r := 2) dX4_begin_101 fl_X4_29 sh_6 fj_6_0 ?_
          refine e_aload_n (i := 0) dX4_begin_104 rfl rfl ?_
          refine e_getI (x := nI pl) dX4_begin_105 fl_X4_86 sh_6 fj_6_6 hpl ?_
          refine e_invVi (As := [.inl (nI pl)]) (v := nI (aFs sg pl)) (h2 := (mkH (hs (hs h 6 10 (nI (n + 1))) 7 3 (nI made)) made (nI (pl + 1024 * 0 + 16384 * c)) (h 7 3))) dX4_begin_108 lk_X4_112 yv_X0_first rfl rfl rfl (Nat.le_of_ble_eq_true rfl) sh_2 ci_X0 (Nat.le_of_ble_eq_true rfl) ⟨Nat.le_of_ble_eq_true rfl, Nat.le_of_ble_eq_true rfl⟩ (k_B_firstX l (mkH (hs (hs h 6 10 (nI (n + 1))) 7 3 (nI made)) made (nI (pl + 1024 * 0 + 16384 * c)) (h 7 3)) sg pl hp8 hsg) ?_
          refine e_putI dX4_begin_111 fl_X4_86 fp_X4_6 sh_6 fj_6_6 ?_
          refine e_goto (tgt := 123) dX4_begin_114 (by decide) ?_
          refine e_ret dX4_begin_123 rfl ?_
          have e : aBeg sg pl x k P K n g u q = .inl (true, aFs sg pl, x, k, (pl, x, k, 0) :: P, K, n + 1, g, u, q) := by unfold aBeg; rw [if_neg (by omega), if_neg (by omega), if_neg (by omega)]
          rw [e] at hR
          have hx20 : ∀ i, i < made → mkH (hs (hs h 6 10 (nI (n + 1))) 7 3 (nI made)) made (nI (pl + 1024 * 0 + 16384 * c)) (h 7 3) 20 i = h 20 i := fun i hi => mkH_20 _ _ _ _ hi
          have hx21 : ∀ i, i < made → mkH (hs (hs h 6 10 (nI (n + 1))) 7 3 (nI made)) made (nI (pl + 1024 * 0 + 16384 * c)) (h 7 3) 21 i = h 21 i := fun i hi => mkH_21 _ _ _ _ hi
          have hext : ∀ {nd : List Nat} {P : List aF} {t e : Int32}, (∀ i ∈ nd, i < made) → chn h KS cm nd P t e → chn ((hs (mkH (hs (hs h 6 10 (nI (n + 1))) 7 3 (nI made)) made (nI (pl + 1024 * 0 + 16384 * c)) (h 7 3)) 6 6 (nI (aFs sg pl)))) KS cm nd P t e := by
            intro nd P t e hz hq
            have z := chn_ext (h := h) (h' := (hs (mkH (hs (hs h 6 10 (nI (n + 1))) 7 3 (nI made)) made (nI (pl + 1024 * 0 + 16384 * c)) (h 7 3)) 6 6 (nI (aFs sg pl)))) (Z := []) (Nat.le_refl cm) (fun c _ => ⟨rfl, rfl, rfl⟩) (fun i hi => ⟨hx20 i (hz i hi), hx21 i (hz i hi)⟩) hq
            rwa [List.append_nil] at z
          have hck2 : cK ((hs (mkH (hs (hs h 6 10 (nI (n + 1))) 7 3 (nI made)) made (nI (pl + 1024 * 0 + 16384 * c)) (h 7 3)) 6 6 (nI (aFs sg pl)))) KS c k := by
            have z := cK_ext (h := h) (h' := (hs (mkH (hs (hs h 6 10 (nI (n + 1))) 7 3 (nI made)) made (nI (pl + 1024 * 0 + 16384 * c)) (h 7 3)) 6 6 (nI (aFs sg pl)))) (Z := []) rfl rfl hck
            rwa [List.append_nil] at z
          refine hR _ _ ⟨rfl, (((KP.refl h).hs (by omega)).hs (by omega)).mk.hs (by omega), made + 1, cm, made :: nd, KS, h4, h5, fun _ => ⟨rfl, c, hcl, hc, hax, hck2⟩, fun z => (by cases z), h9, h12, h13, ⟨rfl, h11, h14, h15, h19⟩, rfl, hcm, ⟨rfl, ⟨c, hc, mkH_20s (hs (hs h 6 10 (nI (n + 1))) 7 3 (nI made)) made (nI (pl + 1024 * 0 + 16384 * c)) (h 7 3), hax, hck2⟩, ?_⟩, hKS, fun j nj L z1 z2 => ?_, ?_, ?_, by omega, by show cm + 0 ≤ n + 1 + 1; omega⟩
          · have z : (hs (mkH (hs (hs h 6 10 (nI (n + 1))) 7 3 (nI made)) made (nI (pl + 1024 * 0 + 16384 * c)) (h 7 3)) 6 6 (nI (aFs sg pl))) 21 made = h 7 3 := mkH_21s (hs (hs h 6 10 (nI (n + 1))) 7 3 (nI made)) made (nI (pl + 1024 * 0 + 16384 * c)) (h 7 3)
            rw [z]
            exact hext (fun i hi => hlt i (List.mem_append_left _ hi)) hch
          · obtain ⟨t, e, z⟩ := hseg j nj L z1 z2
            exact ⟨t, e, hext (fun i hi => hlt i (List.mem_append_right _ (List.mem_flatten.mpr ⟨nj, List.mem_of_getElem? z1, hi⟩))) z⟩
          · rw [List.cons_append, List.nodup_cons]
            exact ⟨fun z => Nat.lt_irrefl _ (hlt _ z), hnd⟩
          · intro i hi
            rw [List.cons_append] at hi
            rcases List.mem_cons.mp hi with rfl | hi
            · exact Nat.lt_succ_self _
            · exact Nat.lt_succ_of_lt (hlt i hi)
      · intro e_67_f c_67_f
        refine e_aload_n (i := 0) dX4_begin_70 rfl rfl ?_
        refine e_iload_n (i := 1) dX4_begin_71 rfl rfl ?_
        refine e_bipush (v := 48) dX4_begin_72 (by decide) ?_
        refine z_isub (z := nI (((sg pl).toInt - 48).toNat)) (sub48 (by have q9 := aOf_0 (x := (sg pl).toInt) (by omega) (by omega); omega)) dX4_begin_74 ?_
        refine e_invVv (As := [.inl (nI (((sg pl).toInt - 48).toNat))]) (h2 := (hs (hs (hs h 6 10 (nI (n + 1))) 6 8 (nI (((sg pl).toInt - 48).toNat))) 6 5 0)) (ty := .int) (v := 0) dX4_begin_75 lk_X4_101 yv_X4_give rfl rfl rfl (Nat.le_of_ble_eq_true rfl) sh_6 ci_X4 (Nat.le_of_ble_eq_true rfl) ⟨Nat.le_of_ble_eq_true rfl, Nat.le_of_ble_eq_true rfl⟩ (k_X_give l (hs h 6 10 (nI (n + 1))) (nI (((sg pl).toInt - 48).toNat))) ?_
        refine e_goto (tgt := 123) dX4_begin_78 (by decide) ?_
        refine e_ret dX4_begin_123 rfl ?_
        have e : aBeg sg pl x k P K n g u q = .inl (false, 0, ((sg pl).toInt - 48).toNat, 0, P, K, n + 1, g, u, q) := by unfold aBeg; rw [if_neg (by omega), if_neg (by omega), if_pos (by omega)]
        rw [e] at hR
        exact hR _ _ ⟨rfl, (((KP.refl h).hs (by omega)).hs (by omega)).hs (by omega), made, cm, nd, KS, h4, rfl, fun z => (by cases z), fun _ => rfl, h9, h12, h13, ⟨rfl, h11, h14, h15, h19⟩, hm, hcm, chn_same (h := h) (h' := (hs (hs (hs h 6 10 (nI (n + 1))) 6 8 (nI (((sg pl).toInt - 48).toNat))) 6 5 0)) rfl rfl rfl rfl rfl hch, hKS, fun j nj L z1 z2 => (hseg j nj L z1 z2).imp (fun _ z => z.imp (fun _ z => chn_same (h := h) (h' := (hs (hs (hs h 6 10 (nI (n + 1))) 6 8 (nI (((sg pl).toInt - 48).toNat))) 6 5 0)) rfl rfl rfl rfl rfl z)), hnd, hlt, by omega, by show cm + 1 ≤ n + 1 + 1; omega⟩
    · intro e_42_f c_42_f
      refine e_aload_n (i := 0) dX4_begin_45 rfl rfl ?_
      refine e_aload_n (i := 0) dX4_begin_46 rfl rfl ?_
      refine e_getR (r := 8) dX4_begin_47 fl_X4_21 sh_6 fj_6_2 ?_
      refine e_aload_n (i := 0) dX4_begin_50 rfl rfl ?_
      refine e_getI (x := nI c) dX4_begin_51 fl_X4_83 sh_6 fj_6_7 hcl ?_
      refine e_invVi (As := [.inl (nI c)]) (v := nI x) (h2 := (hs h 6 10 (nI (n + 1)))) dX4_begin_54 lk_X4_98 yv_X1_argument rfl rfl rfl (Nat.le_of_ble_eq_true rfl) sh_8 ci_X1 (Nat.le_of_ble_eq_true rfl) ⟨Nat.le_of_ble_eq_true rfl, Nat.le_of_ble_eq_true rfl⟩ (k_C_argumentX l (hs h 6 10 (nI (n + 1))) c cm hcm hc (by omega) hax) ?_
      refine e_invVv (As := [.inl (nI x)]) (h2 := (hs (hs (hs h 6 10 (nI (n + 1))) 6 8 (nI x)) 6 5 0)) (ty := .int) (v := 0) dX4_begin_57 lk_X4_101 yv_X4_give rfl rfl rfl (Nat.le_of_ble_eq_true rfl) sh_6 ci_X4 (Nat.le_of_ble_eq_true rfl) ⟨Nat.le_of_ble_eq_true rfl, Nat.le_of_ble_eq_true rfl⟩ (k_X_give l (hs h 6 10 (nI (n + 1))) (nI x)) ?_
      refine e_goto (tgt := 123) dX4_begin_60 (by decide) ?_
      refine e_ret dX4_begin_123 rfl ?_
      have e : aBeg sg pl x k P K n g u q = .inl (false, 0, x, 0, P, K, n + 1, g, u, q) := by unfold aBeg; rw [if_neg (by omega), if_pos (by omega)]
      rw [e] at hR
      exact hR _ _ ⟨rfl, (((KP.refl h).hs (by omega)).hs (by omega)).hs (by omega), made, cm, nd, KS, h4, rfl, fun z => (by cases z), fun _ => rfl, h9, h12, h13, ⟨rfl, h11, h14, h15, h19⟩, hm, hcm, chn_same (h := h) (h' := (hs (hs (hs h 6 10 (nI (n + 1))) 6 8 (nI x)) 6 5 0)) rfl rfl rfl rfl rfl hch, hKS, fun j nj L z1 z2 => (hseg j nj L z1 z2).imp (fun _ z => z.imp (fun _ z => chn_same (h := h) (h' := (hs (hs (hs h 6 10 (nI (n + 1))) 6 8 (nI x)) 6 5 0)) rfl rfl rfl rfl rfl z)), hnd, hlt, by omega, by show cm + 1 ≤ n + 1 + 1; omega⟩
  · intro c_7_f
    refine e_aload_n (i := 0) dX4_begin_10 rfl rfl ?_
    refine e_bipush (v := 9) dX4_begin_11 (by decide) ?_
    refine e_putI dX4_begin_13 fl_X4_44 fp_X4_9 sh_6 fj_6_9 ?_
    refine e_ret dX4_begin_16 rfl ?_
    have e : aBeg sg pl x k P K n g u q = .inr (9, -6, -6, n, g, u, q) := if_pos (by omega)
    rw [e] at hR
    exact hR _ _ ⟨rfl, (KP.refl h).hs (by omega), (by show (9 : Int32).toInt = 9; decide), toI_m6 h12, toI_m6 h13, h10, h11, h14, h15, h19⟩
end
section
set_option maxHeartbeats 1000000 in
theorem k_X_choose0 (l : Launch) (h : mH) (sg : Nat → Int32) (pl v q2 q3 : Nat) (hp : pl + 1 < 800) (hq2 : q2 < 800) (h66 : h 6 6 = nI pl) (h68 : h 6 8 = nI v) (hv8 : v < 8) (e1 : h 13 pl = sg pl) (h63 : (sg pl).toInt = 63) (e2 : h 14 (pl + 1) = nI q2) (e3 : h 14 q2 = nI q3) (hv : v = 0) : mD l Sh0 iX4_choose [.inr 6] h (none) (hs (hs h 6 6 (nI q2)) 6 5 1) := by
  have eF : aFs sg pl = pl + 1 := by unfold aFs; rw [if_neg (by omega)]
  have kF := k_B_firstX l h sg pl (by omega) e1
  rw [eF] at kF
  intro RT hR
  show mE l Sh0 none iX4_choose RT 0 [some (.inr 6), none] [] h
  refine e_aload_n (i := 0) dX4_choose_0 rfl rfl ?_
  refine e_getR (r := 2) dX4_choose_1 fl_X4_29 sh_6 fj_6_0 ?_
  refine e_aload_n (i := 0) dX4_choose_4 rfl rfl ?_
  refine e_getR (r := 2) dX4_choose_5 fl_X4_29 sh_6 fj_6_0 ?_
  refine e_aload_n (i := 0) dX4_choose_8 rfl rfl ?_
  refine e_getI (x := nI pl) dX4_choose_9 fl_X4_86 sh_6 fj_6_6 h66 ?_
  refine e_invVi (As := [.inl (nI pl)]) (v := nI (pl + 1)) (h2 := h) dX4_choose_12 lk_X4_112 yv_X0_first rfl rfl rfl (Nat.le_of_ble_eq_true rfl) sh_2 ci_X0 (Nat.le_of_ble_eq_true rfl) ⟨Nat.le_of_ble_eq_true rfl, Nat.le_of_ble_eq_true rfl⟩ kF ?_
  refine e_invVi (As := [.inl (nI (pl + 1))]) (v := nI q2) (h2 := h) dX4_choose_15 lk_X4_129 yv_X0_after rfl rfl rfl (Nat.le_of_ble_eq_true rfl) sh_2 ci_X0 (Nat.le_of_ble_eq_true rfl) ⟨Nat.le_of_ble_eq_true rfl, Nat.le_of_ble_eq_true rfl⟩ (k_B_afterX l h (pl + 1) hp e2) ?_
  refine e_istore_n (i := 1) (ls2 := [some (.inr 6), some (.inl (nI q2))]) dX4_choose_18 rfl (Nat.le_of_ble_eq_true rfl) rfl ?_
  refine e_aload_n (i := 0) dX4_choose_19 rfl rfl ?_
  refine e_aload_n (i := 0) dX4_choose_20 rfl rfl ?_
  refine e_getI (x := nI v) dX4_choose_21 fl_X4_89 sh_6 fj_6_8 h68 ?_
  refine b_if_ne (X := ((v : Nat) : Int)) (tgt := 31) (nI_toInt (by omega)) dX4_choose_24 (by decide) ?_ ?_
  · intro e_24_t c_24_t
    exfalso; omega
  · intro e_24_f c_24_f
    refine e_iload_n (i := 1) dX4_choose_27 rfl rfl ?_
    refine e_goto (tgt := 39) dX4_choose_28 (by decide) ?_
    refine e_putI dX4_choose_39 fl_X4_86 fp_X4_6 sh_6 fj_6_6 ?_
    refine e_aload_n (i := 0) dX4_choose_42 rfl rfl ?_
    refine e_iconst (v := 1) dX4_choose_43 (by decide) ?_
    refine e_putZ dX4_choose_44 fl_X4_70 fp_X4_5 sh_6 fj_6_5 (by decide) ?_
    refine e_ret dX4_choose_47 rfl ?_
    exact hR
set_option maxHeartbeats 1000000 in
theorem k_X_choose1 (l : Launch) (h : mH) (sg : Nat → Int32) (pl v q2 q3 : Nat) (hp : pl + 1 < 800) (hq2 : q2 < 800) (h66 : h 6 6 = nI pl) (h68 : h 6 8 = nI v) (hv8 : v < 8) (e1 : h 13 pl = sg pl) (h63 : (sg pl).toInt = 63) (e2 : h 14 (pl + 1) = nI q2) (e3 : h 14 q2 = nI q3) (hv : v ≠ 0) : mD l Sh0 iX4_choose [.inr 6] h (none) (hs (hs h 6 6 (nI q3)) 6 5 1) := by
  have eF : aFs sg pl = pl + 1 := by unfold aFs; rw [if_neg (by omega)]
  have kF := k_B_firstX l h sg pl (by omega) e1
  rw [eF] at kF
  intro RT hR
  show mE l Sh0 none iX4_choose RT 0 [some (.inr 6), none] [] h
  refine e_aload_n (i := 0) dX4_choose_0 rfl rfl ?_
  refine e_getR (r := 2) dX4_choose_1 fl_X4_29 sh_6 fj_6_0 ?_
  refine e_aload_n (i := 0) dX4_choose_4 rfl rfl ?_
  refine e_getR (r := 2) dX4_choose_5 fl_X4_29 sh_6 fj_6_0 ?_
  refine e_aload_n (i := 0) dX4_choose_8 rfl rfl ?_
  refine e_getI (x := nI pl) dX4_choose_9 fl_X4_86 sh_6 fj_6_6 h66 ?_
  refine e_invVi (As := [.inl (nI pl)]) (v := nI (pl + 1)) (h2 := h) dX4_choose_12 lk_X4_112 yv_X0_first rfl rfl rfl (Nat.le_of_ble_eq_true rfl) sh_2 ci_X0 (Nat.le_of_ble_eq_true rfl) ⟨Nat.le_of_ble_eq_true rfl, Nat.le_of_ble_eq_true rfl⟩ kF ?_
  refine e_invVi (As := [.inl (nI (pl + 1))]) (v := nI q2) (h2 := h) dX4_choose_15 lk_X4_129 yv_X0_after rfl rfl rfl (Nat.le_of_ble_eq_true rfl) sh_2 ci_X0 (Nat.le_of_ble_eq_true rfl) ⟨Nat.le_of_ble_eq_true rfl, Nat.le_of_ble_eq_true rfl⟩ (k_B_afterX l h (pl + 1) hp e2) ?_
  refine e_istore_n (i := 1) (ls2 := [some (.inr 6), some (.inl (nI q2))]) dX4_choose_18 rfl (Nat.le_of_ble_eq_true rfl) rfl ?_
  refine e_aload_n (i := 0) dX4_choose_19 rfl rfl ?_
  refine e_aload_n (i := 0) dX4_choose_20 rfl rfl ?_
  refine e_getI (x := nI v) dX4_choose_21 fl_X4_89 sh_6 fj_6_8 h68 ?_
  refine b_if_ne (X := ((v : Nat) : Int)) (tgt := 31) (nI_toInt (by omega)) dX4_choose_24 (by decide) ?_ ?_
  · intro e_24_t c_24_t
    refine e_aload_n (i := 0) dX4_choose_31 rfl rfl ?_
    refine e_getR (r := 2) dX4_choose_32 fl_X4_29 sh_6 fj_6_0 ?_
    refine e_iload_n (i := 1) dX4_choose_35 rfl rfl ?_
    refine e_invVi (As := [.inl (nI q2)]) (v := nI q3) (h2 := h) dX4_choose_36 lk_X4_129 yv_X0_after rfl rfl rfl (Nat.le_of_ble_eq_true rfl) sh_2 ci_X0 (Nat.le_of_ble_eq_true rfl) ⟨Nat.le_of_ble_eq_true rfl, Nat.le_of_ble_eq_true rfl⟩ (k_B_afterX l h q2 hq2 e3) ?_
    refine e_putI dX4_choose_39 fl_X4_86 fp_X4_6 sh_6 fj_6_6 ?_
    refine e_aload_n (i := 0) dX4_choose_42 rfl rfl ?_
    refine e_iconst (v := 1) dX4_choose_43 (by decide) ?_
    refine e_putZ dX4_choose_44 fl_X4_70 fp_X4_5 sh_6 fj_6_5 (by decide) ?_
    refine e_ret dX4_choose_47 rfl ?_
    exact hR
  · intro e_24_f c_24_f
    exfalso; omega
set_option maxHeartbeats 1000000 in
theorem k_X_back1 (l : Launch) (h : mH) (hd v z cm : Nat) (hh : hd < 4) (h68 : h 6 8 = nI v) (hz : h 15 (4 + 4 * hd + 3) = nI z) (hz2 : z ≤ 40) (hcm : h 8 3 = nI cm) (hc : cm < 201) (hz3 : 0 < z) : mD l Sh0 iX4_comeBack [.inr 6, .inl (nI hd)] h (none) (entH h cm (nI (4 + 4 * hd + 3)) (nI v) (-1) (-1)) := by
  intro RT hR
  show mE l Sh0 none iX4_comeBack RT 0 [some (.inr 6), some (.inl (nI hd)), none] [] h
  refine e_iload_n (i := 1) dX4_comeBack_0 rfl rfl ?_
  refine e_iconst (v := 3) dX4_comeBack_1 (by decide) ?_
  refine e_invSi (As := [.inl (nI hd), .inl 3]) (v := nI (4 + 4 * hd + 3)) (h2 := h) dX4_comeBack_2 lk_X4_162 ys_X7_pageOf rfl rfl rfl (Nat.le_of_ble_eq_true rfl) (Nat.le_of_ble_eq_true rfl) ⟨Nat.le_of_ble_eq_true rfl, Nat.le_of_ble_eq_true rfl⟩ (k_pageOfX l h hd 3) ?_
  refine e_istore_n (i := 2) (ls2 := [some (.inr 6), some (.inl (nI hd)), some (.inl (nI (4 + 4 * hd + 3)))]) dX4_comeBack_5 rfl (Nat.le_of_ble_eq_true rfl) rfl ?_
  refine e_aload_n (i := 0) dX4_comeBack_6 rfl rfl ?_
  refine e_getR (r := 2) dX4_comeBack_7 fl_X4_29 sh_6 fj_6_0 ?_
  refine e_iload_n (i := 2) dX4_comeBack_10 rfl rfl ?_
  refine e_invVi (As := [.inl (nI (4 + 4 * hd + 3))]) (v := nI z) (h2 := h) dX4_comeBack_11 lk_X4_165 yv_X0_size rfl rfl rfl (Nat.le_of_ble_eq_true rfl) sh_2 ci_X0 (Nat.le_of_ble_eq_true rfl) ⟨Nat.le_of_ble_eq_true rfl, Nat.le_of_ble_eq_true rfl⟩ (k_B_sizeX l h (4 + 4 * hd + 3) (by omega) hz) ?_
  refine b_if_le (X := ((z : Nat) : Int)) (tgt := 28) (nI_toInt (by omega)) dX4_comeBack_14 (by decide) ?_ ?_
  · intro c_14_t
    exfalso; omega
  · intro c_14_f
    refine e_aload_n (i := 0) dX4_comeBack_17 rfl rfl ?_
    refine e_iload_n (i := 2) dX4_comeBack_18 rfl rfl ?_
    refine e_aload_n (i := 0) dX4_comeBack_19 rfl rfl ?_
    refine e_getI (x := nI v) dX4_comeBack_20 fl_X4_89 sh_6 fj_6_8 h68 ?_
    refine e_iconst (v := (-1)) dX4_comeBack_23 (by decide) ?_
    refine e_iconst (v := (-1)) dX4_comeBack_24 (by decide) ?_
    refine e_invVv (As := [.inl (nI (4 + 4 * hd + 3)), .inl (nI v), .inl (-1), .inl (-1)]) (h2 := (entH h cm (nI (4 + 4 * hd + 3)) (nI v) (-1) (-1))) (ty := .int) (v := 0) dX4_comeBack_25 lk_X4_65 yv_X4_enter rfl rfl rfl (Nat.le_of_ble_eq_true rfl) sh_6 ci_X4 (Nat.le_of_ble_eq_true rfl) ⟨Nat.le_of_ble_eq_true rfl, Nat.le_of_ble_eq_true rfl⟩ (k_X_enter l h cm hcm (by omega) (nI (4 + 4 * hd + 3)) (nI v) (-1) (-1)) ?_
    refine e_ret dX4_comeBack_28 rfl ?_
    exact hR
set_option maxHeartbeats 1000000 in
theorem k_X_back0 (l : Launch) (h : mH) (hd v z cm : Nat) (hh : hd < 4) (h68 : h 6 8 = nI v) (hz : h 15 (4 + 4 * hd + 3) = nI z) (hz2 : z ≤ 40) (hz3 : z = 0) : mD l Sh0 iX4_comeBack [.inr 6, .inl (nI hd)] h (none) h := by
  intro RT hR
  show mE l Sh0 none iX4_comeBack RT 0 [some (.inr 6), some (.inl (nI hd)), none] [] h
  refine e_iload_n (i := 1) dX4_comeBack_0 rfl rfl ?_
  refine e_iconst (v := 3) dX4_comeBack_1 (by decide) ?_
  refine e_invSi (As := [.inl (nI hd), .inl 3]) (v := nI (4 + 4 * hd + 3)) (h2 := h) dX4_comeBack_2 lk_X4_162 ys_X7_pageOf rfl rfl rfl (Nat.le_of_ble_eq_true rfl) (Nat.le_of_ble_eq_true rfl) ⟨Nat.le_of_ble_eq_true rfl, Nat.le_of_ble_eq_true rfl⟩ (k_pageOfX l h hd 3) ?_
  refine e_istore_n (i := 2) (ls2 := [some (.inr 6), some (.inl (nI hd)), some (.inl (nI (4 + 4 * hd + 3)))]) dX4_comeBack_5 rfl (Nat.le_of_ble_eq_true rfl) rfl ?_
  refine e_aload_n (i := 0) dX4_comeBack_6 rfl rfl ?_
  refine e_getR (r := 2) dX4_comeBack_7 fl_X4_29 sh_6 fj_6_0 ?_
  refine e_iload_n (i := 2) dX4_comeBack_10 rfl rfl ?_
  refine e_invVi (As := [.inl (nI (4 + 4 * hd + 3))]) (v := nI z) (h2 := h) dX4_comeBack_11 lk_X4_165 yv_X0_size rfl rfl rfl (Nat.le_of_ble_eq_true rfl) sh_2 ci_X0 (Nat.le_of_ble_eq_true rfl) ⟨Nat.le_of_ble_eq_true rfl, Nat.le_of_ble_eq_true rfl⟩ (k_B_sizeX l h (4 + 4 * hd + 3) (by omega) hz) ?_
  refine b_if_le (X := ((z : Nat) : Int)) (tgt := 28) (nI_toInt (by omega)) dX4_comeBack_14 (by decide) ?_ ?_
  · intro c_14_t
    refine e_ret dX4_comeBack_28 rfl ?_
    exact hR
  · intro c_14_f
    exfalso; omega
theorem lnk_same {h h' : mH} (e : h' 21 = h 21) {kh : Nat} : ∀ {nd : List Nat}, lnk h kh nd → lnk h' kh nd
  | [], q => q
  | [i], q => q
  | i :: j :: nd, q => ⟨q.1, by rw [e]; exact q.2.1, lnk_same e q.2.2⟩
set_option maxHeartbeats 1000000 in
theorem k_X_go9 (l : Launch) (h : mH) (g : Nat) (h14 : h 6 14 = nI g) (hg : g = 40) : mD l Sh0 iX4_goOn [.inr 6] h (none) (hs h 6 9 9) := by
  intro RT hR
  show mE l Sh0 none iX4_goOn RT 0 [some (.inr 6)] [] h
  refine e_aload_n (i := 0) dX4_goOn_0 rfl rfl ?_
  refine e_getI (x := nI g) dX4_goOn_1 fl_X4_59 sh_6 fj_6_14 h14 ?_
  refine e_bipush (v := 40) dX4_goOn_4 (by decide) ?_
  refine b_icmp_lt (X := ((g : Nat) : Int)) (Y := 40) (tgt := 16) (nI_toInt (by omega)) (by decide) dX4_goOn_6 (by decide) ?_ ?_
  · intro c_6_t
    exfalso; omega
  · intro c_6_f
    refine e_aload_n (i := 0) dX4_goOn_9 rfl rfl ?_
    refine e_bipush (v := 9) dX4_goOn_10 (by decide) ?_
    refine e_putI dX4_goOn_12 fl_X4_44 fp_X4_9 sh_6 fj_6_9 ?_
    refine e_ret dX4_goOn_15 rfl ?_
    exact hR
set_option maxHeartbeats 1000000 in
theorem k_X_go (l : Launch) (h : mH) (g : Nat) (h14 : h 6 14 = nI g) (hg : g < 40) (c cm m kh : Nat) (nd : List Nat) (h67 : h 6 7 = nI c) (hcm : h 8 3 = nI cm) (hc : c < cm) (hc2 : cm ≤ 201) (hm : h 7 2 = nI m) (hkh : kh < 2 ^ 30) (e1 : h 23 c = nI (nd.headD 0)) (e2 : h 24 c = nI kh) (hn : ∀ i ∈ nd, i < m) (hl : m + nd.length ≤ 8200) (hk : lnk h kh nd) : mD l Sh0 iX4_goOn [.inr 6] h (none) (lay (h 7 3) (hs (hs h 6 14 (nI (g + 1))) 7 3 (nI m)) m nd) := by
  intro RT hR
  show mE l Sh0 none iX4_goOn RT 0 [some (.inr 6)] [] h
  refine e_aload_n (i := 0) dX4_goOn_0 rfl rfl ?_
  refine e_getI (x := nI g) dX4_goOn_1 fl_X4_59 sh_6 fj_6_14 h14 ?_
  refine e_bipush (v := 40) dX4_goOn_4 (by decide) ?_
  refine b_icmp_lt (X := ((g : Nat) : Int)) (Y := 40) (tgt := 16) (nI_toInt (by omega)) (by decide) dX4_goOn_6 (by decide) ?_ ?_
  · intro c_6_t
    refine e_aload_n (i := 0) dX4_goOn_16 rfl rfl ?_
    refine e_dup dX4_goOn_17 ?_
    refine e_getI (x := nI g) dX4_goOn_18 fl_X4_59 sh_6 fj_6_14 h14 ?_
    refine e_iconst (v := 1) dX4_goOn_21 (by decide) ?_
    refine z_iadd (z := nI (g + 1)) (nI_addc _ 1) dX4_goOn_22 ?_
    refine e_putI dX4_goOn_23 fl_X4_59 fp_X4_14 sh_6 fj_6_14 ?_
    refine e_aload_n (i := 0) dX4_goOn_26 rfl rfl ?_
    refine e_getR (r := 7) dX4_goOn_27 fl_X4_12 sh_6 fj_6_1 ?_
    refine e_aload_n (i := 0) dX4_goOn_30 rfl rfl ?_
    refine e_getR (r := 8) dX4_goOn_31 fl_X4_21 sh_6 fj_6_2 ?_
    refine e_aload_n (i := 0) dX4_goOn_34 rfl rfl ?_
    refine e_getI (x := nI c) dX4_goOn_35 fl_X4_83 sh_6 fj_6_7 h67 ?_
    refine e_invVi (As := [.inl (nI c)]) (v := nI (nd.headD 0)) (h2 := (hs h 6 14 (nI (g + 1)))) dX4_goOn_38 lk_X4_168 yv_X1_keptTop rfl rfl rfl (Nat.le_of_ble_eq_true rfl) sh_8 ci_X1 (Nat.le_of_ble_eq_true rfl) ⟨Nat.le_of_ble_eq_true rfl, Nat.le_of_ble_eq_true rfl⟩ (k_C_keptTopX l (hs h 6 14 (nI (g + 1))) c cm hcm hc hc2 e1) ?_
    refine e_aload_n (i := 0) dX4_goOn_41 rfl rfl ?_
    refine e_getR (r := 8) dX4_goOn_42 fl_X4_21 sh_6 fj_6_2 ?_
    refine e_aload_n (i := 0) dX4_goOn_45 rfl rfl ?_
    refine e_getI (x := nI c) dX4_goOn_46 fl_X4_83 sh_6 fj_6_7 h67 ?_
    refine e_invVi (As := [.inl (nI c)]) (v := nI kh) (h2 := (hs h 6 14 (nI (g + 1)))) dX4_goOn_49 lk_X4_171 yv_X1_keptHand rfl rfl rfl (Nat.le_of_ble_eq_true rfl) sh_8 ci_X1 (Nat.le_of_ble_eq_true rfl) ⟨Nat.le_of_ble_eq_true rfl, Nat.le_of_ble_eq_true rfl⟩ (k_C_keptHandX l (hs h 6 14 (nI (g + 1))) c cm hcm hc hc2 e2) ?_
    refine e_invVi (As := [.inl (nI (nd.headD 0)), .inl (nI kh)]) (v := 1) (h2 := (lay (h 7 3) (hs (hs h 6 14 (nI (g + 1))) 7 3 (nI m)) m nd)) dX4_goOn_52 lk_X4_174 yv_X5_layDown rfl rfl rfl (Nat.le_of_ble_eq_true rfl) sh_7 ci_X5 (Nat.le_of_ble_eq_true rfl) ⟨Nat.le_of_ble_eq_true rfl, Nat.le_of_ble_eq_true rfl⟩ (k_T_layDown l (hs h 6 14 (nI (g + 1))) m hm kh hkh nd hn hl (lnk_same (h := h) (h' := (hs h 6 14 (nI (g + 1)))) rfl hk)) ?_
    refine b_if_ne (X := 1) (tgt := 64) (by decide) dX4_goOn_55 (by decide) ?_ ?_
    · intro e_55_t c_55_t
      refine e_ret dX4_goOn_64 rfl ?_
      exact hR
    · intro e_55_f c_55_f
      exfalso; omega
  · intro c_6_f
    exfalso; omega
def nrN (sg : Nat → Int32) (sz : Nat → Nat) (d : Nat) : List Nat → List aF → Int32
  | i :: nd, F :: P => if (sg F.1).toInt = 64 ∧ 0 < sz (4 + 4 * aHd sg F.1 + d) then nI i else nrN sg sz d nd P
  | _, _ => -1
theorem nrN_none {sg : Nat → Int32} {sz : Nat → Nat} {d : Nat} : ∀ {nd : List Nat} {P : List aF}, (∀ F ∈ P, ¬ ((sg F.1).toInt = 64 ∧ 0 < sz (4 + 4 * aHd sg F.1 + d))) → nrN sg sz d nd P = -1
  | [], [], _ => rfl
  | [], _ :: _, _ => rfl
  | _ :: _, [], _ => rfl
  | i :: nd, F :: P, q => by
    unfold nrN
    rw [if_neg (q F List.mem_cons_self)]
    exact nrN_none (fun G hG => q G (List.mem_cons_of_mem _ hG))
theorem nrN_some {sg : Nat → Int32} {sz : Nat → Nat} {d i : Nat} {G : aF} {nC : List Nat} {C : List aF} (hG : (sg G.1).toInt = 64 ∧ 0 < sz (4 + 4 * aHd sg G.1 + d)) : ∀ {nA : List Nat} {A : List aF}, nA.length = A.length → (∀ F ∈ A, ¬ ((sg F.1).toInt = 64 ∧ 0 < sz (4 + 4 * aHd sg F.1 + d))) → nrN sg sz d (nA ++ i :: nC) (A ++ G :: C) = nI i
  | [], [], _, _ => by
    show nrN sg sz d (i :: nC) (G :: C) = nI i
    unfold nrN
    rw [if_pos hG]
  | [], _ :: _, e, _ => by cases e
  | _ :: _, [], e, _ => by cases e
  | j :: nA, F :: A, e, q => by
    show nrN sg sz d (j :: (nA ++ i :: nC)) (F :: (A ++ G :: C)) = nI i
    unfold nrN
    rw [if_neg (q F List.mem_cons_self)]
    exact nrN_some hG (by simpa using e) (fun G hG => q G (List.mem_cons_of_mem _ hG))
set_option maxHeartbeats 2000000 in
theorem lp_nearest (l : Launch) {sg : Nat → Int32} {ln sz : Nat → Nat} (hB : aWB sg ln sz) (h : mH) (hC : CB sg ln sz h) {KS : List (List Nat)} {cm made nK d : Nat} (hd : d < 3) (hm : h 7 2 = nI made) (hM : made ≤ 8200) (hcm : cm ≤ 201) (RT : Option Int32 → mH → Prop) : ∀ (nd : List Nat) (P : List aF) (t : Int32) (z : Nat) (y : Option mV), chn h KS cm nd P t (-1) → (∀ i ∈ nd, i < made) → (∀ F ∈ P, aFok sg sz nK F) → z + P.length ≤ 8000 → RT (some (nrN sg sz d nd P)) h → mE l Sh0 none iX4_nearest RT 10 [some (.inr 6), some (.inl (nI d)), some (.inl t), some (.inl (nI z)), y] [] h
  | [], [], t, z, y, hch, hn, hF, hz, hR => by
    have e : t = -1 := hch
    subst e
    have hz : z + 0 ≤ 8000 := hz
    show mE l Sh0 none iX4_nearest RT 10 [some (.inr 6), some (.inl (nI d)), some (.inl (-1)), some (.inl (nI z)), y] [] h
    refine e_iload_n (i := 3) dX4_nearest_10 rfl rfl ?_
    refine e_sipush (v := 8200) dX4_nearest_11 (by decide) ?_
    refine b_icmp_ge (X := ((z : Nat) : Int)) (Y := 8200) (tgt := 78) (nI_toInt (by omega)) (by decide) dX4_nearest_14 (by decide) ?_ ?_
    · intro c_14_t
      exfalso; omega
    · intro c_14_f
      refine e_iload_n (i := 2) dX4_nearest_17 rfl rfl ?_
      refine e_iconst (v := (-1)) dX4_nearest_18 (by decide) ?_
      refine b_icmp_eq (X := (-1)) (Y := (-1)) (tgt := 78) (by decide) (by decide) dX4_nearest_19 (by decide) ?_ ?_
      · intro e_19_t c_19_t
        refine e_iconst (v := (-1)) dX4_nearest_78 (by decide) ?_
        refine e_iret dX4_nearest_79 (mret_i _) ?_
        exact hR
      · intro e_19_f c_19_f
        exfalso; omega
  | [], _ :: _, _, _, _, hch, _, _, _, _ => hch.elim
  | _ :: _, [], _, _, _, hch, _, _, _, _ => hch.elim
  | i :: nd, F :: P, t, z, y, hch, hn, hF, hz, hR => by
    obtain ⟨rfl, ⟨c, hc, hmk, har, hck⟩, hch2⟩ := hch
    obtain ⟨f1, f2, f3, f4, f5, f6, f7⟩ := hF F List.mem_cons_self
    have hi : i < made := hn i List.mem_cons_self
    have hz : z + (P.length + 1) ≤ 8000 := hz
    have hp8 : F.1 < 800 := f1.1
    have hsg : h 13 F.1 = sg F.1 := hC.1 _ hp8
    have kP := k_T_placeX l h i made hm hi hM hmk hp8 (by omega) (by omega)
    have hrest : ¬ ((sg F.1).toInt = 64 ∧ 0 < sz (4 + 4 * aHd sg F.1 + d)) → mE l Sh0 none iX4_nearest RT 10 [some (.inr 6), some (.inl (nI d)), some (.inl (h 21 i)), some (.inl (nI (z + 1))), y] [] h → True := fun _ _ => trivial
    by_cases h64 : (sg F.1).toInt = 64
    · have h9 := (hB.2 F.1 f1).2.2.2.2.2.2.2.2.1 h64
      have hh : aHd sg F.1 < 4 := by unfold aHd; omega
      have kH := k_B_handX l h sg F.1 h9.2.2 hsg (hC.1 _ h9.2.2) h64 h9.1
      have hsz : h 15 (4 + 4 * aHd sg F.1 + d) = nI (sz (4 + 4 * aHd sg F.1 + d)) := hC.2.1 _ (by omega)
      have hsz2 := hB.1 (4 + 4 * aHd sg F.1 + d) (by omega)
      refine e_iload_n (i := 3) dX4_nearest_10 rfl rfl ?_
      refine e_sipush (v := 8200) dX4_nearest_11 (by decide) ?_
      refine b_icmp_ge (X := ((z : Nat) : Int)) (Y := 8200) (tgt := 78) (nI_toInt (by omega)) (by decide) dX4_nearest_14 (by decide) ?_ ?_
      · intro c_14_t
        exfalso; omega
      · intro c_14_f
        refine e_iload_n (i := 2) dX4_nearest_17 rfl rfl ?_
        refine e_iconst (v := (-1)) dX4_nearest_18 (by decide) ?_
        refine b_icmp_eq (X := ((i : Nat) : Int)) (Y := (-1)) (tgt := 78) (nI_toInt (by omega)) (by decide) dX4_nearest_19 (by decide) ?_ ?_
        · intro e_19_t c_19_t
          exfalso; omega
        · intro e_19_f c_19_f
          refine e_aload_n (i := 0) dX4_nearest_22 rfl rfl ?_
          refine e_getR (r := 2) dX4_nearest_23 fl_X4_29 sh_6 fj_6_0 ?_
          refine e_aload_n (i := 0) dX4_nearest_26 rfl rfl ?_
          refine e_getR (r := 7) dX4_nearest_27 fl_X4_12 sh_6 fj_6_1 ?_
          refine e_iload_n (i := 2) dX4_nearest_30 rfl rfl ?_
          refine e_invVi (As := [.inl (nI i)]) (v := nI F.1) (h2 := h) dX4_nearest_31 lk_X4_118 yv_X5_place rfl rfl rfl (Nat.le_of_ble_eq_true rfl) sh_7 ci_X5 (Nat.le_of_ble_eq_true rfl) ⟨Nat.le_of_ble_eq_true rfl, Nat.le_of_ble_eq_true rfl⟩ kP ?_
          refine e_invVi (As := [.inl (nI F.1)]) (v := nI (aHd sg F.1)) (h2 := h) dX4_nearest_34 lk_X4_138 yv_X0_hand rfl rfl rfl (Nat.le_of_ble_eq_true rfl) sh_2 ci_X0 (Nat.le_of_ble_eq_true rfl) ⟨Nat.le_of_ble_eq_true rfl, Nat.le_of_ble_eq_true rfl⟩ kH ?_
          refine e_istore (ls2 := [some (.inr 6), some (.inl (nI d)), some (.inl (nI i)), some (.inl (nI z)), some (.inl (nI (aHd sg F.1)))]) dX4_nearest_37 (Nat.le_of_ble_eq_true rfl) rfl ?_
          refine e_iload dX4_nearest_39 rfl ?_
          refine e_iconst (v := (-1)) dX4_nearest_41 (by decide) ?_
          refine b_icmp_eq (X := ((aHd sg F.1 : Nat) : Int)) (Y := (-1)) (tgt := 63) (nI_toInt (by omega)) (by decide) dX4_nearest_42 (by decide) ?_ ?_
          · intro e_42_t c_42_t
            exfalso; omega
          · intro e_42_f c_42_f
            refine e_aload_n (i := 0) dX4_nearest_45 rfl rfl ?_
            refine e_getR (r := 2) dX4_nearest_46 fl_X4_29 sh_6 fj_6_0 ?_
            refine e_iload dX4_nearest_49 rfl ?_
            refine e_iload_n (i := 1) dX4_nearest_51 rfl rfl ?_
            refine e_invSi (As := [.inl (nI (aHd sg F.1)), .inl (nI d)]) (v := nI (4 + 4 * aHd sg F.1 + d)) (h2 := h) dX4_nearest_52 lk_X4_162 ys_X7_pageOf rfl rfl rfl (Nat.le_of_ble_eq_true rfl) (Nat.le_of_ble_eq_true rfl) ⟨Nat.le_of_ble_eq_true rfl, Nat.le_of_ble_eq_true rfl⟩ (k_pageOfX l h (aHd sg F.1) d) ?_
            refine e_invVi (As := [.inl (nI (4 + 4 * aHd sg F.1 + d))]) (v := nI (sz (4 + 4 * aHd sg F.1 + d))) (h2 := h) dX4_nearest_55 lk_X4_165 yv_X0_size rfl rfl rfl (Nat.le_of_ble_eq_true rfl) sh_2 ci_X0 (Nat.le_of_ble_eq_true rfl) ⟨Nat.le_of_ble_eq_true rfl, Nat.le_of_ble_eq_true rfl⟩ (k_B_sizeX l h (4 + 4 * aHd sg F.1 + d) (by omega) hsz) ?_
            refine b_if_le (X := ((sz (4 + 4 * aHd sg F.1 + d) : Nat) : Int)) (tgt := 63) (nI_toInt (by omega)) dX4_nearest_58 (by decide) ?_ ?_
            · intro c_58_t
              refine e_aload_n (i := 0) dX4_nearest_63 rfl rfl ?_
              refine e_getR (r := 7) dX4_nearest_64 fl_X4_12 sh_6 fj_6_1 ?_
              refine e_iload_n (i := 2) dX4_nearest_67 rfl rfl ?_
              refine e_invVi (As := [.inl (nI i)]) (v := h 21 i) (h2 := h) dX4_nearest_68 lk_X4_132 yv_X5_below rfl rfl rfl (Nat.le_of_ble_eq_true rfl) sh_7 ci_X5 (Nat.le_of_ble_eq_true rfl) ⟨Nat.le_of_ble_eq_true rfl, Nat.le_of_ble_eq_true rfl⟩ (k_T_belowX l h i made hm hi hM rfl) ?_
              refine e_istore_n (i := 2) (ls2 := [some (.inr 6), some (.inl (nI d)), some (.inl (h 21 i)), some (.inl (nI z)), some (.inl (nI (aHd sg F.1)))]) dX4_nearest_71 rfl (Nat.le_of_ble_eq_true rfl) rfl ?_
              refine e_iinc (v := nI (z + 1)) (ls2 := [some (.inr 6), some (.inl (nI d)), some (.inl (h 21 i)), some (.inl (nI (z + 1))), some (.inl (nI (aHd sg F.1)))]) dX4_nearest_72 rfl (nI_inc1 _) (Nat.le_of_ble_eq_true rfl) rfl ?_
              refine e_goto (tgt := 10) dX4_nearest_75 (by decide) ?_
              have e : nrN sg sz d (i :: nd) (F :: P) = nrN sg sz d nd P := if_neg (by omega)
              rw [e] at hR
              exact lp_nearest l hB h hC hd hm hM hcm RT nd P (h 21 i) (z + 1) (some (.inl (nI (aHd sg F.1)))) hch2 (fun j hj => hn j (List.mem_cons_of_mem _ hj)) (fun G hG => hF G (List.mem_cons_of_mem _ hG)) (by omega) hR
            · intro c_58_f
              refine e_iload_n (i := 2) dX4_nearest_61 rfl rfl ?_
              refine e_iret dX4_nearest_62 (mret_i _) ?_
              have e : nrN sg sz d (i :: nd) (F :: P) = nI i := if_pos ⟨h64, by omega⟩
              rw [e] at hR
              exact hR
    · have kH := k_B_handN l h sg F.1 hp8 hsg h64
      refine e_iload_n (i := 3) dX4_nearest_10 rfl rfl ?_
      refine e_sipush (v := 8200) dX4_nearest_11 (by decide) ?_
      refine b_icmp_ge (X := ((z : Nat) : Int)) (Y := 8200) (tgt := 78) (nI_toInt (by omega)) (by decide) dX4_nearest_14 (by decide) ?_ ?_
      · intro c_14_t
        exfalso; omega
      · intro c_14_f
        refine e_iload_n (i := 2) dX4_nearest_17 rfl rfl ?_
        refine e_iconst (v := (-1)) dX4_nearest_18 (by decide) ?_
        refine b_icmp_eq (X := ((i : Nat) : Int)) (Y := (-1)) (tgt := 78) (nI_toInt (by omega)) (by decide) dX4_nearest_19 (by decide) ?_ ?_
        · intro e_19_t c_19_t
          exfalso; omega
        · intro e_19_f c_19_f
          refine e_aload_n (i := 0) dX4_nearest_22 rfl rfl ?_
          refine e_getR (r := 2) dX4_nearest_23 fl_X4_29 sh_6 fj_6_0 ?_
          refine e_aload_n (i := 0) dX4_nearest_26 rfl rfl ?_
          refine e_getR (r := 7) dX4_nearest_27 fl_X4_12 sh_6 fj_6_1 ?_
          refine e_iload_n (i := 2) dX4_nearest_30 rfl rfl ?_
          refine e_invVi (As := [.inl (nI i)]) (v := nI F.1) (h2 := h) dX4_nearest_31 lk_X4_118 yv_X5_place rfl rfl rfl (Nat.le_of_ble_eq_true rfl) sh_7 ci_X5 (Nat.le_of_ble_eq_true rfl) ⟨Nat.le_of_ble_eq_true rfl, Nat.le_of_ble_eq_true rfl⟩ kP ?_
          refine e_invVi (As := [.inl (nI F.1)]) (v := (-1)) (h2 := h) dX4_nearest_34 lk_X4_138 yv_X0_hand rfl rfl rfl (Nat.le_of_ble_eq_true rfl) sh_2 ci_X0 (Nat.le_of_ble_eq_true rfl) ⟨Nat.le_of_ble_eq_true rfl, Nat.le_of_ble_eq_true rfl⟩ kH ?_
          refine e_istore (ls2 := [some (.inr 6), some (.inl (nI d)), some (.inl (nI i)), some (.inl (nI z)), some (.inl (-1))]) dX4_nearest_37 (Nat.le_of_ble_eq_true rfl) rfl ?_
          refine e_iload dX4_nearest_39 rfl ?_
          refine e_iconst (v := (-1)) dX4_nearest_41 (by decide) ?_
          refine b_icmp_eq (X := (-1)) (Y := (-1)) (tgt := 63) (by decide) (by decide) dX4_nearest_42 (by decide) ?_ ?_
          · intro e_42_t c_42_t
            refine e_aload_n (i := 0) dX4_nearest_63 rfl rfl ?_
            refine e_getR (r := 7) dX4_nearest_64 fl_X4_12 sh_6 fj_6_1 ?_
            refine e_iload_n (i := 2) dX4_nearest_67 rfl rfl ?_
            refine e_invVi (As := [.inl (nI i)]) (v := h 21 i) (h2 := h) dX4_nearest_68 lk_X4_132 yv_X5_below rfl rfl rfl (Nat.le_of_ble_eq_true rfl) sh_7 ci_X5 (Nat.le_of_ble_eq_true rfl) ⟨Nat.le_of_ble_eq_true rfl, Nat.le_of_ble_eq_true rfl⟩ (k_T_belowX l h i made hm hi hM rfl) ?_
            refine e_istore_n (i := 2) (ls2 := [some (.inr 6), some (.inl (nI d)), some (.inl (h 21 i)), some (.inl (nI z)), some (.inl (-1))]) dX4_nearest_71 rfl (Nat.le_of_ble_eq_true rfl) rfl ?_
            refine e_iinc (v := nI (z + 1)) (ls2 := [some (.inr 6), some (.inl (nI d)), some (.inl (h 21 i)), some (.inl (nI (z + 1))), some (.inl (-1))]) dX4_nearest_72 rfl (nI_inc1 _) (Nat.le_of_ble_eq_true rfl) rfl ?_
            refine e_goto (tgt := 10) dX4_nearest_75 (by decide) ?_
            have e : nrN sg sz d (i :: nd) (F :: P) = nrN sg sz d nd P := if_neg (by omega)
            rw [e] at hR
            exact lp_nearest l hB h hC hd hm hM hcm RT nd P (h 21 i) (z + 1) (some (.inl (-1))) hch2 (fun j hj => hn j (List.mem_cons_of_mem _ hj)) (fun G hG => hF G (List.mem_cons_of_mem _ hG)) (by omega) hR
          · intro e_42_f c_42_f
            exfalso; omega
set_option maxHeartbeats 2000000 in
theorem k_X_nearest (l : Launch) {sg : Nat → Int32} {ln sz : Nat → Nat} (hB : aWB sg ln sz) (h : mH) (hC : CB sg ln sz h) {KS : List (List Nat)} {cm made nK d : Nat} (hd : d < 3) (hm : h 7 2 = nI made) (hM : made ≤ 8200) (hcm : cm ≤ 201) (nd : List Nat) (P : List aF) (hch : chn h KS cm nd P (h 7 3) (-1)) (hn : ∀ i ∈ nd, i < made) (hF : ∀ F ∈ P, aFok sg sz nK F) (hz : P.length ≤ 8000) : mD l Sh0 iX4_nearest [.inr 6, .inl (nI d)] h (some (nrN sg sz d nd P)) h := by
  intro RT hR
  show mE l Sh0 none iX4_nearest RT 0 [some (.inr 6), some (.inl (nI d)), none, none, none] [] h
  refine e_aload_n (i := 0) dX4_nearest_0 rfl rfl ?_
  refine e_getR (r := 7) dX4_nearest_1 fl_X4_12 sh_6 fj_6_1 ?_
  refine e_getI (x := h 7 3) dX4_nearest_4 fl_X4_115 sh_7 fj_7_3 rfl ?_
  refine e_istore_n (i := 2) (ls2 := [some (.inr 6), some (.inl (nI d)), some (.inl (h 7 3)), none, none]) dX4_nearest_7 rfl (Nat.le_of_ble_eq_true rfl) rfl ?_
  refine e_iconst (v := 0) dX4_nearest_8 (by decide) ?_
  refine e_istore_n (i := 3) (ls2 := [some (.inr 6), some (.inl (nI d)), some (.inl (h 7 3)), some (.inl 0), none]) dX4_nearest_9 rfl (Nat.le_of_ble_eq_true rfl) rfl ?_
  exact lp_nearest l hB h hC hd hm hM hcm RT nd P (h 7 3) 0 none hch hn hF (by omega) hR
def anH (h : mH) (ql : Nat) (a : Int32) : mH := if ql < 200 then hs h 19 ql a else h
theorem anH_1 (h : mH) {ql : Nat} (a : Int32) (q : ql < 200) : anH h ql a = hs h 19 ql a := if_pos q
theorem anH_0 (h : mH) {ql : Nat} (a : Int32) (q : ¬ ql < 200) : anH h ql a = h := if_neg q
set_option maxHeartbeats 1000000 in
theorem k_X_ask1s (l : Launch) (h : mH) (d v ql : Nat) (hd : d < 3) (hv : v < 8) (hq : ql < 100000) (h68 : h 6 8 = nI v) (h15 : h 6 15 = nI ql) (hql : ql < 200) (sg : Nat → Int32) (i made cm pl w c hd2 : Nat) (hm : h 7 2 = nI made) (hi : i < made) (hM : made ≤ 8200) (hmk : h 20 i = nI (pl + 1024 * w + 16384 * c)) (hp8 : pl + 1 < 800) (hw : w < 16) (hc : c < 65536) (kH : ∀ h2 : mH, h2 13 = h 13 → mD l Sh0 iX0_hand [.inr 2, .inl (nI pl)] h2 (some (nI hd2)) h2) (hcm : h 8 3 = nI cm) (hc2 : cm < 201) : mD l Sh0 iX4_ask [.inr 6, .inl (nI d), .inl (nI i)] h (none) (entH (hs (hs (anH h ql (nI (100 * d + 10 * v + hd2))) 6 15 (nI (ql + 1))) 7 3 (h 21 i)) cm (nI (4 + 4 * hd2 + d)) (nI v) (h 7 3) (nI i)) := by
  intro RT hR
  show mE l Sh0 none iX4_ask RT 0 [some (.inr 6), some (.inl (nI d)), some (.inl (nI i)), none, none] [] h
  refine e_iload_n (i := 2) dX4_ask_0 rfl rfl ?_
  refine e_iconst (v := (-1)) dX4_ask_1 (by decide) ?_
  refine b_icmp_ne (X := ((i : Nat) : Int)) (Y := (-1)) (tgt := 10) (nI_toInt (by omega)) (by decide) dX4_ask_2 (by decide) ?_ ?_
  · intro e_2_t c_2_t
    refine e_aload_n (i := 0) dX4_ask_10 rfl rfl ?_
    refine e_getR (r := 2) dX4_ask_11 fl_X4_29 sh_6 fj_6_0 ?_
    refine e_aload_n (i := 0) dX4_ask_14 rfl rfl ?_
    refine e_getR (r := 7) dX4_ask_15 fl_X4_12 sh_6 fj_6_1 ?_
    refine e_iload_n (i := 2) dX4_ask_18 rfl rfl ?_
    refine e_invVi (As := [.inl (nI i)]) (v := nI pl) (h2 := h) dX4_ask_19 lk_X4_118 yv_X5_place rfl rfl rfl (Nat.le_of_ble_eq_true rfl) sh_7 ci_X5 (Nat.le_of_ble_eq_true rfl) ⟨Nat.le_of_ble_eq_true rfl, Nat.le_of_ble_eq_true rfl⟩ (k_T_placeX l h i made hm hi hM hmk (by omega) hw hc) ?_
    refine e_invVi (As := [.inl (nI pl)]) (v := nI hd2) (h2 := h) dX4_ask_22 lk_X4_138 yv_X0_hand rfl rfl rfl (Nat.le_of_ble_eq_true rfl) sh_2 ci_X0 (Nat.le_of_ble_eq_true rfl) ⟨Nat.le_of_ble_eq_true rfl, Nat.le_of_ble_eq_true rfl⟩ (kH h rfl) ?_
    refine e_istore_n (i := 3) (ls2 := [some (.inr 6), some (.inl (nI d)), some (.inl (nI i)), some (.inl (nI hd2)), none]) dX4_ask_25 rfl (Nat.le_of_ble_eq_true rfl) rfl ?_
    refine e_aload_n (i := 0) dX4_ask_26 rfl rfl ?_
    refine e_getI (x := nI ql) dX4_ask_27 fl_X4_62 sh_6 fj_6_15 h15 ?_
    refine b_if_lt (X := ((ql : Nat) : Int)) (tgt := 66) (nI_toInt (by omega)) dX4_ask_30 (by decide) ?_ ?_
    · intro c_30_t
      exfalso; omega
    · intro c_30_f
      refine e_aload_n (i := 0) dX4_ask_33 rfl rfl ?_
      refine e_getI (x := nI ql) dX4_ask_34 fl_X4_62 sh_6 fj_6_15 h15 ?_
      refine e_sipush (v := 200) dX4_ask_37 (by decide) ?_
      refine b_icmp_ge (X := ((ql : Nat) : Int)) (Y := 200) (tgt := 66) (nI_toInt (by omega)) (by decide) dX4_ask_40 (by decide) ?_ ?_
      · intro c_40_t
        exfalso; omega
      · intro c_40_f
        refine e_aload_n (i := 0) dX4_ask_43 rfl rfl ?_
        refine e_getR (r := 19) dX4_ask_44 fl_X4_25 sh_6 fj_6_3 ?_
        refine e_aload_n (i := 0) dX4_ask_47 rfl rfl ?_
        refine e_getI (x := nI ql) dX4_ask_48 fl_X4_62 sh_6 fj_6_15 h15 ?_
        refine e_iload_n (i := 1) dX4_ask_51 rfl rfl ?_
        refine e_bipush (v := 100) dX4_ask_52 (by decide) ?_
        refine z_imul (z := nI (100 * d)) (by rw [nI_mulc, Nat.mul_comm]) dX4_ask_54 ?_
        refine e_aload_n (i := 0) dX4_ask_55 rfl rfl ?_
        refine e_getI (x := nI v) dX4_ask_56 fl_X4_89 sh_6 fj_6_8 h68 ?_
        refine e_bipush (v := 10) dX4_ask_59 (by decide) ?_
        refine z_imul (z := nI (10 * v)) (by rw [nI_mulc, Nat.mul_comm]) dX4_ask_61 ?_
        refine z_iadd (z := nI (100 * d + 10 * v)) (nI_add _ _) dX4_ask_62 ?_
        refine e_iload_n (i := 3) dX4_ask_63 rfl rfl ?_
        refine z_iadd (z := nI (100 * d + 10 * v + hd2)) (nI_add _ _) dX4_ask_64 ?_
        refine e_iast dX4_ask_65 sh_19 (vin_ofX (X := ((ql : Nat) : Int)) (nI_toInt (by omega)) (by omega) (by omega)) ?_
        rw [nI_clamp (by omega)]
        refine e_aload_n (i := 0) dX4_ask_66 rfl rfl ?_
        refine e_dup dX4_ask_67 ?_
        refine e_getI (x := nI ql) dX4_ask_68 fl_X4_62 sh_6 fj_6_15 h15 ?_
        refine e_iconst (v := 1) dX4_ask_71 (by decide) ?_
        refine z_iadd (z := nI (ql + 1)) (nI_addc _ 1) dX4_ask_72 ?_
        refine e_putI dX4_ask_73 fl_X4_62 fp_X4_15 sh_6 fj_6_15 ?_
        refine e_iload_n (i := 2) dX4_ask_76 rfl rfl ?_
        refine e_iconst (v := (-1)) dX4_ask_77 (by decide) ?_
        refine b_icmp_eq (X := ((i : Nat) : Int)) (Y := (-1)) (tgt := 124) (nI_toInt (by omega)) (by decide) dX4_ask_78 (by decide) ?_ ?_
        · intro e_78_t c_78_t
          exfalso; omega
        · intro e_78_f c_78_f
          refine e_aload_n (i := 0) dX4_ask_81 rfl rfl ?_
          refine e_getR (r := 7) dX4_ask_82 fl_X4_12 sh_6 fj_6_1 ?_
          refine e_getI (x := h 7 3) dX4_ask_85 fl_X4_115 sh_7 fj_7_3 rfl ?_
          refine e_istore (ls2 := [some (.inr 6), some (.inl (nI d)), some (.inl (nI i)), some (.inl (nI hd2)), some (.inl (h 7 3))]) dX4_ask_88 (Nat.le_of_ble_eq_true rfl) rfl ?_
          refine e_aload_n (i := 0) dX4_ask_90 rfl rfl ?_
          refine e_getR (r := 7) dX4_ask_91 fl_X4_12 sh_6 fj_6_1 ?_
          refine e_aload_n (i := 0) dX4_ask_94 rfl rfl ?_
          refine e_getR (r := 7) dX4_ask_95 fl_X4_12 sh_6 fj_6_1 ?_
          refine e_iload_n (i := 2) dX4_ask_98 rfl rfl ?_
          refine e_invVi (As := [.inl (nI i)]) (v := h 21 i) (h2 := (hs (hs h 19 ql (nI (100 * d + 10 * v + hd2))) 6 15 (nI (ql + 1)))) dX4_ask_99 lk_X4_132 yv_X5_below rfl rfl rfl (Nat.le_of_ble_eq_true rfl) sh_7 ci_X5 (Nat.le_of_ble_eq_true rfl) ⟨Nat.le_of_ble_eq_true rfl, Nat.le_of_ble_eq_true rfl⟩ (k_T_belowX l (hs (hs h 19 ql (nI (100 * d + 10 * v + hd2))) 6 15 (nI (ql + 1))) i made hm hi hM rfl) ?_
          refine e_putI dX4_ask_102 fl_X4_115 fp_X5_3 sh_7 fj_7_3 ?_
          refine e_aload_n (i := 0) dX4_ask_105 rfl rfl ?_
          refine e_iload_n (i := 3) dX4_ask_106 rfl rfl ?_
          refine e_iload_n (i := 1) dX4_ask_107 rfl rfl ?_
          refine e_invSi (As := [.inl (nI hd2), .inl (nI d)]) (v := nI (4 + 4 * hd2 + d)) (h2 := (hs (hs (hs h 19 ql (nI (100 * d + 10 * v + hd2))) 6 15 (nI (ql + 1))) 7 3 (h 21 i))) dX4_ask_108 lk_X4_162 ys_X7_pageOf rfl rfl rfl (Nat.le_of_ble_eq_true rfl) (Nat.le_of_ble_eq_true rfl) ⟨Nat.le_of_ble_eq_true rfl, Nat.le_of_ble_eq_true rfl⟩ (k_pageOfX l (hs (hs (hs h 19 ql (nI (100 * d + 10 * v + hd2))) 6 15 (nI (ql + 1))) 7 3 (h 21 i)) hd2 d) ?_
          refine e_aload_n (i := 0) dX4_ask_111 rfl rfl ?_
          refine e_getI (x := nI v) dX4_ask_112 fl_X4_89 sh_6 fj_6_8 h68 ?_
          refine e_iload dX4_ask_115 rfl ?_
          refine e_iload_n (i := 2) dX4_ask_117 rfl rfl ?_
          refine e_invVv (As := [.inl (nI (4 + 4 * hd2 + d)), .inl (nI v), .inl (h 7 3), .inl (nI i)]) (h2 := (entH (hs (hs (hs h 19 ql (nI (100 * d + 10 * v + hd2))) 6 15 (nI (ql + 1))) 7 3 (h 21 i)) cm (nI (4 + 4 * hd2 + d)) (nI v) (h 7 3) (nI i))) (ty := .int) (v := 0) dX4_ask_118 lk_X4_65 yv_X4_enter rfl rfl rfl (Nat.le_of_ble_eq_true rfl) sh_6 ci_X4 (Nat.le_of_ble_eq_true rfl) ⟨Nat.le_of_ble_eq_true rfl, Nat.le_of_ble_eq_true rfl⟩ (k_X_enter l (hs (hs (hs h 19 ql (nI (100 * d + 10 * v + hd2))) 6 15 (nI (ql + 1))) 7 3 (h 21 i)) cm hcm hc2 (nI (4 + 4 * hd2 + d)) (nI v) (h 7 3) (nI i)) ?_
          refine e_goto (tgt := 185) dX4_ask_121 (by decide) ?_
          refine e_ret dX4_ask_185 rfl ?_
          rw [anH_1 _ _ hql] at hR
          exact hR
  · intro e_2_f c_2_f
    exfalso; omega
set_option maxHeartbeats 1000000 in
theorem k_X_ask0rs (l : Launch) (h : mH) (d v ql : Nat) (hd : d < 3) (hv : v < 8) (hq : ql < 100000) (h68 : h 6 8 = nI v) (h15 : h 6 15 = nI ql) (hql : ql < 200) (rc rr u rl : Nat) (hS : Sh0[rc]? = some (.inl (3, [rr + 3, 0]))) (hA : Sh0[rr]? = some (.inr 8)) (hrc : rc = 3 ∨ rc = 4 ∨ rc = 5) (hrr : 16 ≤ rr ∧ rr ≤ 18) (h64 : h 6 4 = nI rc) (h11 : h 6 11 = nI u) (hrl : h rc 1 = nI rl) (hrl8 : rl ≤ 8) (hu8 : u ≤ rl) (w : Nat) (hw : h rr u = nI w) (hu : u < rl) : mD l Sh0 iX4_ask [.inr 6, .inl (nI d), .inl (-1)] h (none) (hs (hs (hs (hs (anH h ql (nI (100 * d + 10 * v + 9))) 6 15 (nI (ql + 1))) 6 8 (nI w)) 6 5 0) 6 11 (nI (u + 1))) := by
  have hrl2 : ∀ (a b : Nat) (x y : Int32), hs (hs h 19 a x) 6 b y rc 1 = nI rl := fun a b x y => by rw [hs_ne _ _ (by omega), hs_ne _ _ (by omega)]; exact hrl
  have hrl3 : ∀ (b : Nat) (y : Int32), hs h 6 b y rc 1 = nI rl := fun b y => by rw [hs_ne _ _ (by omega)]; exact hrl
  intro RT hR
  show mE l Sh0 none iX4_ask RT 0 [some (.inr 6), some (.inl (nI d)), some (.inl (-1)), none, none] [] h
  refine e_iload_n (i := 2) dX4_ask_0 rfl rfl ?_
  refine e_iconst (v := (-1)) dX4_ask_1 (by decide) ?_
  refine b_icmp_ne (X := (-1)) (Y := (-1)) (tgt := 10) (by decide) (by decide) dX4_ask_2 (by decide) ?_ ?_
  · intro e_2_t c_2_t
    exfalso; omega
  · intro e_2_f c_2_f
    refine e_bipush (v := 9) dX4_ask_5 (by decide) ?_
    refine e_goto (tgt := 25) dX4_ask_7 (by decide) ?_
    refine e_istore_n (i := 3) (ls2 := [some (.inr 6), some (.inl (nI d)), some (.inl (-1)), some (.inl 9), none]) dX4_ask_25 rfl (Nat.le_of_ble_eq_true rfl) rfl ?_
    refine e_aload_n (i := 0) dX4_ask_26 rfl rfl ?_
    refine e_getI (x := nI ql) dX4_ask_27 fl_X4_62 sh_6 fj_6_15 h15 ?_
    refine b_if_lt (X := ((ql : Nat) : Int)) (tgt := 66) (nI_toInt (by omega)) dX4_ask_30 (by decide) ?_ ?_
    · intro c_30_t
      exfalso; omega
    · intro c_30_f
      refine e_aload_n (i := 0) dX4_ask_33 rfl rfl ?_
      refine e_getI (x := nI ql) dX4_ask_34 fl_X4_62 sh_6 fj_6_15 h15 ?_
      refine e_sipush (v := 200) dX4_ask_37 (by decide) ?_
      refine b_icmp_ge (X := ((ql : Nat) : Int)) (Y := 200) (tgt := 66) (nI_toInt (by omega)) (by decide) dX4_ask_40 (by decide) ?_ ?_
      · intro c_40_t
        exfalso; omega
      · intro c_40_f
        refine e_aload_n (i := 0) dX4_ask_43 rfl rfl ?_
        refine e_getR (r := 19) dX4_ask_44 fl_X4_25 sh_6 fj_6_3 ?_
        refine e_aload_n (i := 0) dX4_ask_47 rfl rfl ?_
        refine e_getI (x := nI ql) dX4_ask_48 fl_X4_62 sh_6 fj_6_15 h15 ?_
        refine e_iload_n (i := 1) dX4_ask_51 rfl rfl ?_
        refine e_bipush (v := 100) dX4_ask_52 (by decide) ?_
        refine z_imul (z := nI (100 * d)) (by rw [nI_mulc, Nat.mul_comm]) dX4_ask_54 ?_
        refine e_aload_n (i := 0) dX4_ask_55 rfl rfl ?_
        refine e_getI (x := nI v) dX4_ask_56 fl_X4_89 sh_6 fj_6_8 h68 ?_
        refine e_bipush (v := 10) dX4_ask_59 (by decide) ?_
        refine z_imul (z := nI (10 * v)) (by rw [nI_mulc, Nat.mul_comm]) dX4_ask_61 ?_
        refine z_iadd (z := nI (100 * d + 10 * v)) (nI_add _ _) dX4_ask_62 ?_
        refine e_iload_n (i := 3) dX4_ask_63 rfl rfl ?_
        refine z_iadd (z := nI (100 * d + 10 * v + 9)) (nI_addc _ 9) dX4_ask_64 ?_
        refine e_iast dX4_ask_65 sh_19 (vin_ofX (X := ((ql : Nat) : Int)) (nI_toInt (by omega)) (by omega) (by omega)) ?_
        rw [nI_clamp (by omega)]
        refine e_aload_n (i := 0) dX4_ask_66 rfl rfl ?_
        refine e_dup dX4_ask_67 ?_
        refine e_getI (x := nI ql) dX4_ask_68 fl_X4_62 sh_6 fj_6_15 h15 ?_
        refine e_iconst (v := 1) dX4_ask_71 (by decide) ?_
        refine z_iadd (z := nI (ql + 1)) (nI_addc _ 1) dX4_ask_72 ?_
        refine e_putI dX4_ask_73 fl_X4_62 fp_X4_15 sh_6 fj_6_15 ?_
        refine e_iload_n (i := 2) dX4_ask_76 rfl rfl ?_
        refine e_iconst (v := (-1)) dX4_ask_77 (by decide) ?_
        refine b_icmp_eq (X := (-1)) (Y := (-1)) (tgt := 124) (by decide) (by decide) dX4_ask_78 (by decide) ?_ ?_
        · intro e_78_t c_78_t
          refine e_aload_n (i := 0) dX4_ask_124 rfl rfl ?_
          refine e_getI (x := nI u) dX4_ask_125 fl_X4_50 sh_6 fj_6_11 h11 ?_
          refine e_aload_n (i := 0) dX4_ask_128 rfl rfl ?_
          refine e_getD (r := rc) dX4_ask_129 fl_X4_33 sh_6 fj_6_4 ((congrArg Int32.toNatClampNeg (show _ = nI rc from h64)).trans (nI_clamp (by omega))) ?_
          refine e_getI (x := nI rl) dX4_ask_132 fl_X4_177 hS rfl (by first | exact hrl2 _ _ _ _ | exact hrl3 _ _) ?_
          refine b_icmp_ge (X := ((u : Nat) : Int)) (Y := ((rl : Nat) : Int)) (tgt := 166) (nI_toInt (by omega)) (nI_toInt (by omega)) dX4_ask_135 (by decide) ?_ ?_
          · intro c_135_t
            exfalso; omega
          · intro c_135_f
            refine e_aload_n (i := 0) dX4_ask_138 rfl rfl ?_
            refine e_aload_n (i := 0) dX4_ask_139 rfl rfl ?_
            refine e_getD (r := rc) dX4_ask_140 fl_X4_33 sh_6 fj_6_4 ((congrArg Int32.toNatClampNeg (show _ = nI rc from h64)).trans (nI_clamp (by omega))) ?_
            refine e_aload_n (i := 0) dX4_ask_143 rfl rfl ?_
            refine e_getI (x := nI u) dX4_ask_144 fl_X4_50 sh_6 fj_6_11 h11 ?_
            refine e_invVi (As := [.inl (nI u)]) (v := nI w) (h2 := (hs (hs h 19 ql (nI (100 * d + 10 * v + 9))) 6 15 (nI (ql + 1)))) dX4_ask_147 lk_X4_182 yv_X3_value rfl rfl rfl (Nat.le_of_ble_eq_true rfl) hS ci_X3 (Nat.le_of_ble_eq_true rfl) ⟨Nat.le_of_ble_eq_true rfl, Nat.le_of_ble_eq_true rfl⟩ (by have q9 := k_R_value l hS hA (hs (hs h 19 ql (nI (100 * d + 10 * v + 9))) 6 15 (nI (ql + 1))) (nI u); rw [rVal_in (n := rl) (by first | exact hrl2 _ _ _ _ | exact hrl3 _ _) (by omega) hrl8] at q9; rw [show (hs (hs h 19 ql (nI (100 * d + 10 * v + 9))) 6 15 (nI (ql + 1))) rr u = nI w from by first | (rw [hs_ne _ _ (by omega), hs_ne _ _ (by omega)]; exact hw) | (rw [hs_ne _ _ (by omega)]; exact hw)] at q9; exact q9) ?_
            refine e_invVv (As := [.inl (nI w)]) (h2 := (hs (hs (hs (hs h 19 ql (nI (100 * d + 10 * v + 9))) 6 15 (nI (ql + 1))) 6 8 (nI w)) 6 5 0)) (ty := .int) (v := 0) dX4_ask_150 lk_X4_101 yv_X4_give rfl rfl rfl (Nat.le_of_ble_eq_true rfl) sh_6 ci_X4 (Nat.le_of_ble_eq_true rfl) ⟨Nat.le_of_ble_eq_true rfl, Nat.le_of_ble_eq_true rfl⟩ (k_X_give l (hs (hs h 19 ql (nI (100 * d + 10 * v + 9))) 6 15 (nI (ql + 1))) (nI w)) ?_
            refine e_aload_n (i := 0) dX4_ask_153 rfl rfl ?_
            refine e_dup dX4_ask_154 ?_
            refine e_getI (x := nI u) dX4_ask_155 fl_X4_50 sh_6 fj_6_11 h11 ?_
            refine e_iconst (v := 1) dX4_ask_158 (by decide) ?_
            refine z_iadd (z := nI (u + 1)) (nI_addc _ 1) dX4_ask_159 ?_
            refine e_putI dX4_ask_160 fl_X4_50 fp_X4_11 sh_6 fj_6_11 ?_
            refine e_goto (tgt := 185) dX4_ask_163 (by decide) ?_
            refine e_ret dX4_ask_185 rfl ?_
            rw [anH_1 _ _ hql] at hR
            exact hR
        · intro e_78_f c_78_f
          exfalso; omega
set_option maxHeartbeats 1000000 in
theorem k_X_ask0es (l : Launch) (h : mH) (d v ql : Nat) (hd : d < 3) (hv : v < 8) (hq : ql < 100000) (h68 : h 6 8 = nI v) (h15 : h 6 15 = nI ql) (hql : ql < 200) (rc rr u rl : Nat) (hS : Sh0[rc]? = some (.inl (3, [rr + 3, 0]))) (hA : Sh0[rr]? = some (.inr 8)) (hrc : rc = 3 ∨ rc = 4 ∨ rc = 5) (hrr : 16 ≤ rr ∧ rr ≤ 18) (h64 : h 6 4 = nI rc) (h11 : h 6 11 = nI u) (hrl : h rc 1 = nI rl) (hrl8 : rl ≤ 8) (hu8 : u ≤ rl) (hu : u = rl) : mD l Sh0 iX4_ask [.inr 6, .inl (nI d), .inl (-1)] h (none) (hs (hs (hs (hs (anH h ql (nI (100 * d + 10 * v + 9))) 6 15 (nI (ql + 1))) 6 9 8) 6 12 (nI d)) 6 13 (nI v)) := by
  have hrl2 : ∀ (a b : Nat) (x y : Int32), hs (hs h 19 a x) 6 b y rc 1 = nI rl := fun a b x y => by rw [hs_ne _ _ (by omega), hs_ne _ _ (by omega)]; exact hrl
  have hrl3 : ∀ (b : Nat) (y : Int32), hs h 6 b y rc 1 = nI rl := fun b y => by rw [hs_ne _ _ (by omega)]; exact hrl
  intro RT hR
  show mE l Sh0 none iX4_ask RT 0 [some (.inr 6), some (.inl (nI d)), some (.inl (-1)), none, none] [] h
  refine e_iload_n (i := 2) dX4_ask_0 rfl rfl ?_
  refine e_iconst (v := (-1)) dX4_ask_1 (by decide) ?_
  refine b_icmp_ne (X := (-1)) (Y := (-1)) (tgt := 10) (by decide) (by decide) dX4_ask_2 (by decide) ?_ ?_
  · intro e_2_t c_2_t
    exfalso; omega
  · intro e_2_f c_2_f
    refine e_bipush (v := 9) dX4_ask_5 (by decide) ?_
    refine e_goto (tgt := 25) dX4_ask_7 (by decide) ?_
    refine e_istore_n (i := 3) (ls2 := [some (.inr 6), some (.inl (nI d)), some (.inl (-1)), some (.inl 9), none]) dX4_ask_25 rfl (Nat.le_of_ble_eq_true rfl) rfl ?_
    refine e_aload_n (i := 0) dX4_ask_26 rfl rfl ?_
    refine e_getI (x := nI ql) dX4_ask_27 fl_X4_62 sh_6 fj_6_15 h15 ?_
    refine b_if_lt (X := ((ql : Nat) : Int)) (tgt := 66) (nI_toInt (by omega)) dX4_ask_30 (by decide) ?_ ?_
    · intro c_30_t
      exfalso; omega
    · intro c_30_f
      refine e_aload_n (i := 0) dX4_ask_33 rfl rfl ?_
      refine e_getI (x := nI ql) dX4_ask_34 fl_X4_62 sh_6 fj_6_15 h15 ?_
      refine e_sipush (v := 200) dX4_ask_37 (by decide) ?_
      refine b_icmp_ge (X := ((ql : Nat) : Int)) (Y := 200) (tgt := 66) (nI_toInt (by omega)) (by decide) dX4_ask_40 (by decide) ?_ ?_
      · intro c_40_t
        exfalso; omega
      · intro c_40_f
        refine e_aload_n (i := 0) dX4_ask_43 rfl rfl ?_
        refine e_getR (r := 19) dX4_ask_44 fl_X4_25 sh_6 fj_6_3 ?_
        refine e_aload_n (i := 0) dX4_ask_47 rfl rfl ?_
        refine e_getI (x := nI ql) dX4_ask_48 fl_X4_62 sh_6 fj_6_15 h15 ?_
        refine e_iload_n (i := 1) dX4_ask_51 rfl rfl ?_
        refine e_bipush (v := 100) dX4_ask_52 (by decide) ?_
        refine z_imul (z := nI (100 * d)) (by rw [nI_mulc, Nat.mul_comm]) dX4_ask_54 ?_
        refine e_aload_n (i := 0) dX4_ask_55 rfl rfl ?_
        refine e_getI (x := nI v) dX4_ask_56 fl_X4_89 sh_6 fj_6_8 h68 ?_
        refine e_bipush (v := 10) dX4_ask_59 (by decide) ?_
        refine z_imul (z := nI (10 * v)) (by rw [nI_mulc, Nat.mul_comm]) dX4_ask_61 ?_
        refine z_iadd (z := nI (100 * d + 10 * v)) (nI_add _ _) dX4_ask_62 ?_
        refine e_iload_n (i := 3) dX4_ask_63 rfl rfl ?_
        refine z_iadd (z := nI (100 * d + 10 * v + 9)) (nI_addc _ 9) dX4_ask_64 ?_
        refine e_iast dX4_ask_65 sh_19 (vin_ofX (X := ((ql : Nat) : Int)) (nI_toInt (by omega)) (by omega) (by omega)) ?_
        rw [nI_clamp (by omega)]
        refine e_aload_n (i := 0) dX4_ask_66 rfl rfl ?_
        refine e_dup dX4_ask_67 ?_
        refine e_getI (x := nI ql) dX4_ask_68 fl_X4_62 sh_6 fj_6_15 h15 ?_
        refine e_iconst (v := 1) dX4_ask_71 (by decide) ?_
        refine z_iadd (z := nI (ql + 1)) (nI_addc _ 1) dX4_ask_72 ?_
        refine e_putI dX4_ask_73 fl_X4_62 fp_X4_15 sh_6 fj_6_15 ?_
        refine e_iload_n (i := 2) dX4_ask_76 rfl rfl ?_
        refine e_iconst (v := (-1)) dX4_ask_77 (by decide) ?_
        refine b_icmp_eq (X := (-1)) (Y := (-1)) (tgt := 124) (by decide) (by decide) dX4_ask_78 (by decide) ?_ ?_
        · intro e_78_t c_78_t
          refine e_aload_n (i := 0) dX4_ask_124 rfl rfl ?_
          refine e_getI (x := nI u) dX4_ask_125 fl_X4_50 sh_6 fj_6_11 h11 ?_
          refine e_aload_n (i := 0) dX4_ask_128 rfl rfl ?_
          refine e_getD (r := rc) dX4_ask_129 fl_X4_33 sh_6 fj_6_4 ((congrArg Int32.toNatClampNeg (show _ = nI rc from h64)).trans (nI_clamp (by omega))) ?_
          refine e_getI (x := nI rl) dX4_ask_132 fl_X4_177 hS rfl (by first | exact hrl2 _ _ _ _ | exact hrl3 _ _) ?_
          refine b_icmp_ge (X := ((u : Nat) : Int)) (Y := ((rl : Nat) : Int)) (tgt := 166) (nI_toInt (by omega)) (nI_toInt (by omega)) dX4_ask_135 (by decide) ?_ ?_
          · intro c_135_t
            refine e_aload_n (i := 0) dX4_ask_166 rfl rfl ?_
            refine e_bipush (v := 8) dX4_ask_167 (by decide) ?_
            refine e_putI dX4_ask_169 fl_X4_44 fp_X4_9 sh_6 fj_6_9 ?_
            refine e_aload_n (i := 0) dX4_ask_172 rfl rfl ?_
            refine e_iload_n (i := 1) dX4_ask_173 rfl rfl ?_
            refine e_putI dX4_ask_174 fl_X4_53 fp_X4_12 sh_6 fj_6_12 ?_
            refine e_aload_n (i := 0) dX4_ask_177 rfl rfl ?_
            refine e_aload_n (i := 0) dX4_ask_178 rfl rfl ?_
            refine e_getI (x := nI v) dX4_ask_179 fl_X4_89 sh_6 fj_6_8 h68 ?_
            refine e_putI dX4_ask_182 fl_X4_56 fp_X4_13 sh_6 fj_6_13 ?_
            refine e_ret dX4_ask_185 rfl ?_
            rw [anH_1 _ _ hql] at hR
            exact hR
          · intro c_135_f
            exfalso; omega
        · intro e_78_f c_78_f
          exfalso; omega
set_option maxHeartbeats 1000000 in
theorem k_X_ask1b (l : Launch) (h : mH) (d v ql : Nat) (hd : d < 3) (hv : v < 8) (hq : ql < 100000) (h68 : h 6 8 = nI v) (h15 : h 6 15 = nI ql) (hql : ¬ ql < 200) (sg : Nat → Int32) (i made cm pl w c hd2 : Nat) (hm : h 7 2 = nI made) (hi : i < made) (hM : made ≤ 8200) (hmk : h 20 i = nI (pl + 1024 * w + 16384 * c)) (hp8 : pl + 1 < 800) (hw : w < 16) (hc : c < 65536) (kH : ∀ h2 : mH, h2 13 = h 13 → mD l Sh0 iX0_hand [.inr 2, .inl (nI pl)] h2 (some (nI hd2)) h2) (hcm : h 8 3 = nI cm) (hc2 : cm < 201) : mD l Sh0 iX4_ask [.inr 6, .inl (nI d), .inl (nI i)] h (none) (entH (hs (hs (anH h ql (nI (100 * d + 10 * v + hd2))) 6 15 (nI (ql + 1))) 7 3 (h 21 i)) cm (nI (4 + 4 * hd2 + d)) (nI v) (h 7 3) (nI i)) := by
  intro RT hR
  show mE l Sh0 none iX4_ask RT 0 [some (.inr 6), some (.inl (nI d)), some (.inl (nI i)), none, none] [] h
  refine e_iload_n (i := 2) dX4_ask_0 rfl rfl ?_
  refine e_iconst (v := (-1)) dX4_ask_1 (by decide) ?_
  refine b_icmp_ne (X := ((i : Nat) : Int)) (Y := (-1)) (tgt := 10) (nI_toInt (by omega)) (by decide) dX4_ask_2 (by decide) ?_ ?_
  · intro e_2_t c_2_t
    refine e_aload_n (i := 0) dX4_ask_10 rfl rfl ?_
    refine e_getR (r := 2) dX4_ask_11 fl_X4_29 sh_6 fj_6_0 ?_
    refine e_aload_n (i := 0) dX4_ask_14 rfl rfl ?_
    refine e_getR (r := 7) dX4_ask_15 fl_X4_12 sh_6 fj_6_1 ?_
    refine e_iload_n (i := 2) dX4_ask_18 rfl rfl ?_
    refine e_invVi (As := [.inl (nI i)]) (v := nI pl) (h2 := h) dX4_ask_19 lk_X4_118 yv_X5_place rfl rfl rfl (Nat.le_of_ble_eq_true rfl) sh_7 ci_X5 (Nat.le_of_ble_eq_true rfl) ⟨Nat.le_of_ble_eq_true rfl, Nat.le_of_ble_eq_true rfl⟩ (k_T_placeX l h i made hm hi hM hmk (by omega) hw hc) ?_
    refine e_invVi (As := [.inl (nI pl)]) (v := nI hd2) (h2 := h) dX4_ask_22 lk_X4_138 yv_X0_hand rfl rfl rfl (Nat.le_of_ble_eq_true rfl) sh_2 ci_X0 (Nat.le_of_ble_eq_true rfl) ⟨Nat.le_of_ble_eq_true rfl, Nat.le_of_ble_eq_true rfl⟩ (kH h rfl) ?_
    refine e_istore_n (i := 3) (ls2 := [some (.inr 6), some (.inl (nI d)), some (.inl (nI i)), some (.inl (nI hd2)), none]) dX4_ask_25 rfl (Nat.le_of_ble_eq_true rfl) rfl ?_
    refine e_aload_n (i := 0) dX4_ask_26 rfl rfl ?_
    refine e_getI (x := nI ql) dX4_ask_27 fl_X4_62 sh_6 fj_6_15 h15 ?_
    refine b_if_lt (X := ((ql : Nat) : Int)) (tgt := 66) (nI_toInt (by omega)) dX4_ask_30 (by decide) ?_ ?_
    · intro c_30_t
      exfalso; omega
    · intro c_30_f
      refine e_aload_n (i := 0) dX4_ask_33 rfl rfl ?_
      refine e_getI (x := nI ql) dX4_ask_34 fl_X4_62 sh_6 fj_6_15 h15 ?_
      refine e_sipush (v := 200) dX4_ask_37 (by decide) ?_
      refine b_icmp_ge (X := ((ql : Nat) : Int)) (Y := 200) (tgt := 66) (nI_toInt (by omega)) (by decide) dX4_ask_40 (by decide) ?_ ?_
      · intro c_40_t
        refine e_aload_n (i := 0) dX4_ask_66 rfl rfl ?_
        refine e_dup dX4_ask_67 ?_
        refine e_getI (x := nI ql) dX4_ask_68 fl_X4_62 sh_6 fj_6_15 h15 ?_
        refine e_iconst (v := 1) dX4_ask_71 (by decide) ?_
        refine z_iadd (z := nI (ql + 1)) (nI_addc _ 1) dX4_ask_72 ?_
        refine e_putI dX4_ask_73 fl_X4_62 fp_X4_15 sh_6 fj_6_15 ?_
        refine e_iload_n (i := 2) dX4_ask_76 rfl rfl ?_
        refine e_iconst (v := (-1)) dX4_ask_77 (by decide) ?_
        refine b_icmp_eq (X := ((i : Nat) : Int)) (Y := (-1)) (tgt := 124) (nI_toInt (by omega)) (by decide) dX4_ask_78 (by decide) ?_ ?_
        · intro e_78_t c_78_t
          exfalso; omega
        · intro e_78_f c_78_f
          refine e_aload_n (i := 0) dX4_ask_81 rfl rfl ?_
          refine e_getR (r := 7) dX4_ask_82 fl_X4_12 sh_6 fj_6_1 ?_
          refine e_getI (x := h 7 3) dX4_ask_85 fl_X4_115 sh_7 fj_7_3 rfl ?_
          refine e_istore (ls2 := [some (.inr 6), some (.inl (nI d)), some (.inl (nI i)), some (.inl (nI hd2)), some (.inl (h 7 3))]) dX4_ask_88 (Nat.le_of_ble_eq_true rfl) rfl ?_
          refine e_aload_n (i := 0) dX4_ask_90 rfl rfl ?_
          refine e_getR (r := 7) dX4_ask_91 fl_X4_12 sh_6 fj_6_1 ?_
          refine e_aload_n (i := 0) dX4_ask_94 rfl rfl ?_
          refine e_getR (r := 7) dX4_ask_95 fl_X4_12 sh_6 fj_6_1 ?_
          refine e_iload_n (i := 2) dX4_ask_98 rfl rfl ?_
          refine e_invVi (As := [.inl (nI i)]) (v := h 21 i) (h2 := (hs h 6 15 (nI (ql + 1)))) dX4_ask_99 lk_X4_132 yv_X5_below rfl rfl rfl (Nat.le_of_ble_eq_true rfl) sh_7 ci_X5 (Nat.le_of_ble_eq_true rfl) ⟨Nat.le_of_ble_eq_true rfl, Nat.le_of_ble_eq_true rfl⟩ (k_T_belowX l (hs h 6 15 (nI (ql + 1))) i made hm hi hM rfl) ?_
          refine e_putI dX4_ask_102 fl_X4_115 fp_X5_3 sh_7 fj_7_3 ?_
          refine e_aload_n (i := 0) dX4_ask_105 rfl rfl ?_
          refine e_iload_n (i := 3) dX4_ask_106 rfl rfl ?_
          refine e_iload_n (i := 1) dX4_ask_107 rfl rfl ?_
          refine e_invSi (As := [.inl (nI hd2), .inl (nI d)]) (v := nI (4 + 4 * hd2 + d)) (h2 := (hs (hs h 6 15 (nI (ql + 1))) 7 3 (h 21 i))) dX4_ask_108 lk_X4_162 ys_X7_pageOf rfl rfl rfl (Nat.le_of_ble_eq_true rfl) (Nat.le_of_ble_eq_true rfl) ⟨Nat.le_of_ble_eq_true rfl, Nat.le_of_ble_eq_true rfl⟩ (k_pageOfX l (hs (hs h 6 15 (nI (ql + 1))) 7 3 (h 21 i)) hd2 d) ?_
          refine e_aload_n (i := 0) dX4_ask_111 rfl rfl ?_
          refine e_getI (x := nI v) dX4_ask_112 fl_X4_89 sh_6 fj_6_8 h68 ?_
          refine e_iload dX4_ask_115 rfl ?_
          refine e_iload_n (i := 2) dX4_ask_117 rfl rfl ?_
          refine e_invVv (As := [.inl (nI (4 + 4 * hd2 + d)), .inl (nI v), .inl (h 7 3), .inl (nI i)]) (h2 := (entH (hs (hs h 6 15 (nI (ql + 1))) 7 3 (h 21 i)) cm (nI (4 + 4 * hd2 + d)) (nI v) (h 7 3) (nI i))) (ty := .int) (v := 0) dX4_ask_118 lk_X4_65 yv_X4_enter rfl rfl rfl (Nat.le_of_ble_eq_true rfl) sh_6 ci_X4 (Nat.le_of_ble_eq_true rfl) ⟨Nat.le_of_ble_eq_true rfl, Nat.le_of_ble_eq_true rfl⟩ (k_X_enter l (hs (hs h 6 15 (nI (ql + 1))) 7 3 (h 21 i)) cm hcm hc2 (nI (4 + 4 * hd2 + d)) (nI v) (h 7 3) (nI i)) ?_
          refine e_goto (tgt := 185) dX4_ask_121 (by decide) ?_
          refine e_ret dX4_ask_185 rfl ?_
          rw [anH_0 _ _ hql] at hR
          exact hR
      · intro c_40_f
        exfalso; omega
  · intro e_2_f c_2_f
    exfalso; omega
set_option maxHeartbeats 1000000 in
theorem k_X_ask0rb (l : Launch) (h : mH) (d v ql : Nat) (hd : d < 3) (hv : v < 8) (hq : ql < 100000) (h68 : h 6 8 = nI v) (h15 : h 6 15 = nI ql) (hql : ¬ ql < 200) (rc rr u rl : Nat) (hS : Sh0[rc]? = some (.inl (3, [rr + 3, 0]))) (hA : Sh0[rr]? = some (.inr 8)) (hrc : rc = 3 ∨ rc = 4 ∨ rc = 5) (hrr : 16 ≤ rr ∧ rr ≤ 18) (h64 : h 6 4 = nI rc) (h11 : h 6 11 = nI u) (hrl : h rc 1 = nI rl) (hrl8 : rl ≤ 8) (hu8 : u ≤ rl) (w : Nat) (hw : h rr u = nI w) (hu : u < rl) : mD l Sh0 iX4_ask [.inr 6, .inl (nI d), .inl (-1)] h (none) (hs (hs (hs (hs (anH h ql (nI (100 * d + 10 * v + 9))) 6 15 (nI (ql + 1))) 6 8 (nI w)) 6 5 0) 6 11 (nI (u + 1))) := by
  have hrl2 : ∀ (a b : Nat) (x y : Int32), hs (hs h 19 a x) 6 b y rc 1 = nI rl := fun a b x y => by rw [hs_ne _ _ (by omega), hs_ne _ _ (by omega)]; exact hrl
  have hrl3 : ∀ (b : Nat) (y : Int32), hs h 6 b y rc 1 = nI rl := fun b y => by rw [hs_ne _ _ (by omega)]; exact hrl
  intro RT hR
  show mE l Sh0 none iX4_ask RT 0 [some (.inr 6), some (.inl (nI d)), some (.inl (-1)), none, none] [] h
  refine e_iload_n (i := 2) dX4_ask_0 rfl rfl ?_
  refine e_iconst (v := (-1)) dX4_ask_1 (by decide) ?_
  refine b_icmp_ne (X := (-1)) (Y := (-1)) (tgt := 10) (by decide) (by decide) dX4_ask_2 (by decide) ?_ ?_
  · intro e_2_t c_2_t
    exfalso; omega
  · intro e_2_f c_2_f
    refine e_bipush (v := 9) dX4_ask_5 (by decide) ?_
    refine e_goto (tgt := 25) dX4_ask_7 (by decide) ?_
    refine e_istore_n (i := 3) (ls2 := [some (.inr 6), some (.inl (nI d)), some (.inl (-1)), some (.inl 9), none]) dX4_ask_25 rfl (Nat.le_of_ble_eq_true rfl) rfl ?_
    refine e_aload_n (i := 0) dX4_ask_26 rfl rfl ?_
    refine e_getI (x := nI ql) dX4_ask_27 fl_X4_62 sh_6 fj_6_15 h15 ?_
    refine b_if_lt (X := ((ql : Nat) : Int)) (tgt := 66) (nI_toInt (by omega)) dX4_ask_30 (by decide) ?_ ?_
    · intro c_30_t
      exfalso; omega
    · intro c_30_f
      refine e_aload_n (i := 0) dX4_ask_33 rfl rfl ?_
      refine e_getI (x := nI ql) dX4_ask_34 fl_X4_62 sh_6 fj_6_15 h15 ?_
      refine e_sipush (v := 200) dX4_ask_37 (by decide) ?_
      refine b_icmp_ge (X := ((ql : Nat) : Int)) (Y := 200) (tgt := 66) (nI_toInt (by omega)) (by decide) dX4_ask_40 (by decide) ?_ ?_
      · intro c_40_t
        refine e_aload_n (i := 0) dX4_ask_66 rfl rfl ?_
        refine e_dup dX4_ask_67 ?_
        refine e_getI (x := nI ql) dX4_ask_68 fl_X4_62 sh_6 fj_6_15 h15 ?_
        refine e_iconst (v := 1) dX4_ask_71 (by decide) ?_
        refine z_iadd (z := nI (ql + 1)) (nI_addc _ 1) dX4_ask_72 ?_
        refine e_putI dX4_ask_73 fl_X4_62 fp_X4_15 sh_6 fj_6_15 ?_
        refine e_iload_n (i := 2) dX4_ask_76 rfl rfl ?_
        refine e_iconst (v := (-1)) dX4_ask_77 (by decide) ?_
        refine b_icmp_eq (X := (-1)) (Y := (-1)) (tgt := 124) (by decide) (by decide) dX4_ask_78 (by decide) ?_ ?_
        · intro e_78_t c_78_t
          refine e_aload_n (i := 0) dX4_ask_124 rfl rfl ?_
          refine e_getI (x := nI u) dX4_ask_125 fl_X4_50 sh_6 fj_6_11 h11 ?_
          refine e_aload_n (i := 0) dX4_ask_128 rfl rfl ?_
          refine e_getD (r := rc) dX4_ask_129 fl_X4_33 sh_6 fj_6_4 ((congrArg Int32.toNatClampNeg (show _ = nI rc from h64)).trans (nI_clamp (by omega))) ?_
          refine e_getI (x := nI rl) dX4_ask_132 fl_X4_177 hS rfl (by first | exact hrl2 _ _ _ _ | exact hrl3 _ _) ?_
          refine b_icmp_ge (X := ((u : Nat) : Int)) (Y := ((rl : Nat) : Int)) (tgt := 166) (nI_toInt (by omega)) (nI_toInt (by omega)) dX4_ask_135 (by decide) ?_ ?_
          · intro c_135_t
            exfalso; omega
          · intro c_135_f
            refine e_aload_n (i := 0) dX4_ask_138 rfl rfl ?_
            refine e_aload_n (i := 0) dX4_ask_139 rfl rfl ?_
            refine e_getD (r := rc) dX4_ask_140 fl_X4_33 sh_6 fj_6_4 ((congrArg Int32.toNatClampNeg (show _ = nI rc from h64)).trans (nI_clamp (by omega))) ?_
            refine e_aload_n (i := 0) dX4_ask_143 rfl rfl ?_
            refine e_getI (x := nI u) dX4_ask_144 fl_X4_50 sh_6 fj_6_11 h11 ?_
            refine e_invVi (As := [.inl (nI u)]) (v := nI w) (h2 := (hs h 6 15 (nI (ql + 1)))) dX4_ask_147 lk_X4_182 yv_X3_value rfl rfl rfl (Nat.le_of_ble_eq_true rfl) hS ci_X3 (Nat.le_of_ble_eq_true rfl) ⟨Nat.le_of_ble_eq_true rfl, Nat.le_of_ble_eq_true rfl⟩ (by have q9 := k_R_value l hS hA (hs h 6 15 (nI (ql + 1))) (nI u); rw [rVal_in (n := rl) (by first | exact hrl2 _ _ _ _ | exact hrl3 _ _) (by omega) hrl8] at q9; rw [show (hs h 6 15 (nI (ql + 1))) rr u = nI w from by first | (rw [hs_ne _ _ (by omega), hs_ne _ _ (by omega)]; exact hw) | (rw [hs_ne _ _ (by omega)]; exact hw)] at q9; exact q9) ?_
            refine e_invVv (As := [.inl (nI w)]) (h2 := (hs (hs (hs h 6 15 (nI (ql + 1))) 6 8 (nI w)) 6 5 0)) (ty := .int) (v := 0) dX4_ask_150 lk_X4_101 yv_X4_give rfl rfl rfl (Nat.le_of_ble_eq_true rfl) sh_6 ci_X4 (Nat.le_of_ble_eq_true rfl) ⟨Nat.le_of_ble_eq_true rfl, Nat.le_of_ble_eq_true rfl⟩ (k_X_give l (hs h 6 15 (nI (ql + 1))) (nI w)) ?_
            refine e_aload_n (i := 0) dX4_ask_153 rfl rfl ?_
            refine e_dup dX4_ask_154 ?_
            refine e_getI (x := nI u) dX4_ask_155 fl_X4_50 sh_6 fj_6_11 h11 ?_
            refine e_iconst (v := 1) dX4_ask_158 (by decide) ?_
            refine z_iadd (z := nI (u + 1)) (nI_addc _ 1) dX4_ask_159 ?_
            refine e_putI dX4_ask_160 fl_X4_50 fp_X4_11 sh_6 fj_6_11 ?_
            refine e_goto (tgt := 185) dX4_ask_163 (by decide) ?_
            refine e_ret dX4_ask_185 rfl ?_
            rw [anH_0 _ _ hql] at hR
            exact hR
        · intro e_78_f c_78_f
          exfalso; omega
      · intro c_40_f
        exfalso; omega
set_option maxHeartbeats 1000000 in
theorem k_X_ask0eb (l : Launch) (h : mH) (d v ql : Nat) (hd : d < 3) (hv : v < 8) (hq : ql < 100000) (h68 : h 6 8 = nI v) (h15 : h 6 15 = nI ql) (hql : ¬ ql < 200) (rc rr u rl : Nat) (hS : Sh0[rc]? = some (.inl (3, [rr + 3, 0]))) (hA : Sh0[rr]? = some (.inr 8)) (hrc : rc = 3 ∨ rc = 4 ∨ rc = 5) (hrr : 16 ≤ rr ∧ rr ≤ 18) (h64 : h 6 4 = nI rc) (h11 : h 6 11 = nI u) (hrl : h rc 1 = nI rl) (hrl8 : rl ≤ 8) (hu8 : u ≤ rl) (hu : u = rl) : mD l Sh0 iX4_ask [.inr 6, .inl (nI d), .inl (-1)] h (none) (hs (hs (hs (hs (anH h ql (nI (100 * d + 10 * v + 9))) 6 15 (nI (ql + 1))) 6 9 8) 6 12 (nI d)) 6 13 (nI v)) := by
  have hrl2 : ∀ (a b : Nat) (x y : Int32), hs (hs h 19 a x) 6 b y rc 1 = nI rl := fun a b x y => by rw [hs_ne _ _ (by omega), hs_ne _ _ (by omega)]; exact hrl
  have hrl3 : ∀ (b : Nat) (y : Int32), hs h 6 b y rc 1 = nI rl := fun b y => by rw [hs_ne _ _ (by omega)]; exact hrl
  intro RT hR
  show mE l Sh0 none iX4_ask RT 0 [some (.inr 6), some (.inl (nI d)), some (.inl (-1)), none, none] [] h
  refine e_iload_n (i := 2) dX4_ask_0 rfl rfl ?_
  refine e_iconst (v := (-1)) dX4_ask_1 (by decide) ?_
  refine b_icmp_ne (X := (-1)) (Y := (-1)) (tgt := 10) (by decide) (by decide) dX4_ask_2 (by decide) ?_ ?_
  · intro e_2_t c_2_t
    exfalso; omega
  · intro e_2_f c_2_f
    refine e_bipush (v := 9) dX4_ask_5 (by decide) ?_
    refine e_goto (tgt := 25) dX4_ask_7 (by decide) ?_
    refine e_istore_n (i := 3) (ls2 := [some (.inr 6), some (.inl (nI d)), some (.inl (-1)), some (.inl 9), none]) dX4_ask_25 rfl (Nat.le_of_ble_eq_true rfl) rfl ?_
    refine e_aload_n (i := 0) dX4_ask_26 rfl rfl ?_
    refine e_getI (x := nI ql) dX4_ask_27 fl_X4_62 sh_6 fj_6_15 h15 ?_
    refine b_if_lt (X := ((ql : Nat) : Int)) (tgt := 66) (nI_toInt (by omega)) dX4_ask_30 (by decide) ?_ ?_
    · intro c_30_t
      exfalso; omega
    · intro c_30_f
      refine e_aload_n (i := 0) dX4_ask_33 rfl rfl ?_
      refine e_getI (x := nI ql) dX4_ask_34 fl_X4_62 sh_6 fj_6_15 h15 ?_
      refine e_sipush (v := 200) dX4_ask_37 (by decide) ?_
      refine b_icmp_ge (X := ((ql : Nat) : Int)) (Y := 200) (tgt := 66) (nI_toInt (by omega)) (by decide) dX4_ask_40 (by decide) ?_ ?_
      · intro c_40_t
        refine e_aload_n (i := 0) dX4_ask_66 rfl rfl ?_
        refine e_dup dX4_ask_67 ?_
        refine e_getI (x := nI ql) dX4_ask_68 fl_X4_62 sh_6 fj_6_15 h15 ?_
        refine e_iconst (v := 1) dX4_ask_71 (by decide) ?_
        refine z_iadd (z := nI (ql + 1)) (nI_addc _ 1) dX4_ask_72 ?_
        refine e_putI dX4_ask_73 fl_X4_62 fp_X4_15 sh_6 fj_6_15 ?_
        refine e_iload_n (i := 2) dX4_ask_76 rfl rfl ?_
        refine e_iconst (v := (-1)) dX4_ask_77 (by decide) ?_
        refine b_icmp_eq (X := (-1)) (Y := (-1)) (tgt := 124) (by decide) (by decide) dX4_ask_78 (by decide) ?_ ?_
        · intro e_78_t c_78_t
          refine e_aload_n (i := 0) dX4_ask_124 rfl rfl ?_
          refine e_getI (x := nI u) dX4_ask_125 fl_X4_50 sh_6 fj_6_11 h11 ?_
          refine e_aload_n (i := 0) dX4_ask_128 rfl rfl ?_
          refine e_getD (r := rc) dX4_ask_129 fl_X4_33 sh_6 fj_6_4 ((congrArg Int32.toNatClampNeg (show _ = nI rc from h64)).trans (nI_clamp (by omega))) ?_
          refine e_getI (x := nI rl) dX4_ask_132 fl_X4_177 hS rfl (by first | exact hrl2 _ _ _ _ | exact hrl3 _ _) ?_
          refine b_icmp_ge (X := ((u : Nat) : Int)) (Y := ((rl : Nat) : Int)) (tgt := 166) (nI_toInt (by omega)) (nI_toInt (by omega)) dX4_ask_135 (by decide) ?_ ?_
          · intro c_135_t
            refine e_aload_n (i := 0) dX4_ask_166 rfl rfl ?_
            refine e_bipush (v := 8) dX4_ask_167 (by decide) ?_
            refine e_putI dX4_ask_169 fl_X4_44 fp_X4_9 sh_6 fj_6_9 ?_
            refine e_aload_n (i := 0) dX4_ask_172 rfl rfl ?_
            refine e_iload_n (i := 1) dX4_ask_173 rfl rfl ?_
            refine e_putI dX4_ask_174 fl_X4_53 fp_X4_12 sh_6 fj_6_12 ?_
            refine e_aload_n (i := 0) dX4_ask_177 rfl rfl ?_
            refine e_aload_n (i := 0) dX4_ask_178 rfl rfl ?_
            refine e_getI (x := nI v) dX4_ask_179 fl_X4_89 sh_6 fj_6_8 h68 ?_
            refine e_putI dX4_ask_182 fl_X4_56 fp_X4_13 sh_6 fj_6_13 ?_
            refine e_ret dX4_ask_185 rfl ?_
            rw [anH_0 _ _ hql] at hR
            exact hR
          · intro c_135_f
            exfalso; omega
        · intro e_78_f c_78_f
          exfalso; omega
      · intro c_40_f
        exfalso; omega
end
section
/-! The class's turns: a frame is taken up. -/
theorem lay_o {u : Int32} {k : Nat} (h1 : k ≠ 7) (h2 : k ≠ 20) (h3 : k ≠ 21) : ∀ (nd : List Nat) (h : mH) (m : Nat), lay u h m nd k = h k
  | [], _, _ => rfl
  | [i], h, m => mkH_o h m _ _ h1 h2 h3
  | i :: j :: nd, h, m => (lay_o h1 h2 h3 (j :: nd) _ _).trans (mkH_o h m _ _ h1 h2 h3)
theorem lay_lt {u : Int32} {a : Nat} : ∀ (nd : List Nat) (h : mH) (m : Nat), a < m → lay u h m nd 20 a = h 20 a ∧ lay u h m nd 21 a = h 21 a
  | [], _, _, _ => ⟨rfl, rfl⟩
  | [i], h, m, ha => ⟨mkH_20 h m _ _ ha, mkH_21 h m _ _ ha⟩
  | i :: j :: nd, h, m, ha => by
    have q := lay_lt (u := u) (a := a) (j :: nd) (mkH h m (h 20 i) (nI (m + 1))) (m + 1) (by omega)
    exact ⟨q.1.trans (mkH_20 h m _ _ ha), q.2.trans (mkH_21 h m _ _ ha)⟩
theorem lay_73 {u : Int32} : ∀ (nd : List Nat) (h : mH) (m : Nat), lay u h m nd 7 3 = h 7 3
  | [], _, _ => rfl
  | [i], h, m => rfl
  | i :: j :: nd, h, m => (lay_73 (j :: nd) _ _).trans rfl
theorem lay_72 {u : Int32} : ∀ (nd : List Nat) (h : mH) (m : Nat), h 7 2 = nI m → lay u h m nd 7 2 = nI (m + nd.length)
  | [], _, _, e => e
  | [i], h, m, e => rfl
  | i :: j :: nd, h, m, e => by
    have q := lay_72 (u := u) (j :: nd) (mkH h m (h 20 i) (nI (m + 1))) (m + 1) rfl
    show lay u (mkH h m (h 20 i) (nI (m + 1))) (m + 1) (j :: nd) 7 2 = nI (m + (nd.length + 1 + 1))
    rw [q]
    congr 1
    simp only [List.length_cons]
    omega
theorem lay_chn {u : Int32} {KS : List (List Nat)} {cm : Nat} : ∀ (nd : List Nat) (L : List aF) (h : mH) (m : Nat) (t e : Int32), nd ≠ [] → (∀ i ∈ nd, i < m) → chn h KS cm nd L t e → chn (lay u h m nd) KS cm (List.range' m nd.length) L (nI m) u
  | [], _, _, _, _, _, hn, _, _ => absurd rfl hn
  | [i], [], _, _, _, _, _, _, q => q.elim
  | [i], [F], h, m, t, e, _, hl, q => by
    obtain ⟨q1, q2, q3⟩ := q
    have z := cFr_ext (h := h) (h' := mkH h m (h 20 i) u) (Z := []) (cm := cm) (Nat.le_refl cm) (fun c _ => ⟨rfl, rfl, rfl⟩) (mkH_20 h m _ _ (hl i List.mem_cons_self)) q2
    rw [List.append_nil] at z
    obtain ⟨c, z1, z2, z3, z4⟩ := z
    refine ⟨rfl, ⟨c, z1, ?_, z3, z4⟩, ?_⟩
    · show mkH h m (h 20 i) u 20 m = _
      rw [mkH_20s, ← z2, mkH_20 h m _ _ (hl i List.mem_cons_self)]
    · show mkH h m (h 20 i) u 21 m = u
      rw [mkH_21s]
  | [i], F :: G :: L, _, _, _, _, _, _, q => q.2.2.elim
  | i :: j :: nd, [], _, _, _, _, _, _, q => q.elim
  | i :: j :: nd, F :: L, h, m, t, e, _, hl, q => by
    obtain ⟨q1, q2, q3⟩ := q
    have hi := hl i List.mem_cons_self
    have hl2 : ∀ z ∈ j :: nd, z < m := fun z hz => hl z (List.mem_cons_of_mem _ hz)
    have q4 := chn_ext (h := h) (h' := mkH h m (h 20 i) (nI (m + 1))) (Z := []) (Nat.le_refl cm) (fun c _ => ⟨rfl, rfl, rfl⟩) (fun z hz => ⟨mkH_20 h m _ _ (hl2 z hz), mkH_21 h m _ _ (hl2 z hz)⟩) q3
    rw [List.append_nil] at q4
    have ih := lay_chn (u := u) (j :: nd) L (mkH h m (h 20 i) (nI (m + 1))) (m + 1) _ _ (by simp) (fun z hz => Nat.lt_succ_of_lt (hl2 z hz)) q4
    obtain ⟨b1, b2⟩ := lay_lt (u := u) (a := m) (j :: nd) (mkH h m (h 20 i) (nI (m + 1))) (m + 1) (Nat.lt_succ_self m)
    rw [mkH_20s] at b1
    rw [mkH_21s] at b2
    obtain ⟨c, z1, z2, z3, z4⟩ := q2
    have o22 : lay u (mkH h m (h 20 i) (nI (m + 1))) (m + 1) (j :: nd) 22 = h 22 := lay_o (by decide) (by decide) (by decide) (i :: j :: nd) h m
    have o23 : lay u (mkH h m (h 20 i) (nI (m + 1))) (m + 1) (j :: nd) 23 = h 23 := lay_o (by decide) (by decide) (by decide) (i :: j :: nd) h m
    have o24 : lay u (mkH h m (h 20 i) (nI (m + 1))) (m + 1) (j :: nd) 24 = h 24 := lay_o (by decide) (by decide) (by decide) (i :: j :: nd) h m
    have z5 := cK_ext (h := h) (h' := lay u (mkH h m (h 20 i) (nI (m + 1))) (m + 1) (j :: nd)) (Z := []) (by rw [o23]) (by rw [o24]) z4
    rw [List.append_nil] at z5
    refine ⟨rfl, ⟨c, z1, b1.trans z2, by rw [show lay u h m (i :: j :: nd) 22 = h 22 from o22]; exact z3, z5⟩, ?_⟩
    show chn (lay u (mkH h m (h 20 i) (nI (m + 1))) (m + 1) (j :: nd)) KS cm (List.range' (m + 1) (j :: nd).length) L (lay u (mkH h m (h 20 i) (nI (m + 1))) (m + 1) (j :: nd) 21 m) u
    rw [b2]
    exact ih
theorem KP.lay {h h' : mH} (q : KP h h') {u : Int32} : ∀ {nd : List Nat} {m : Nat}, KP h (lay u h' m nd) := fun {nd m} a ha => by
  rw [lay_o (by omega) (by omega) (by omega)]
  exact q a ha
theorem nI_inj {a b : Nat} (ha : a < 2 ^ 31) (hb : b < 2 ^ 31) (h : nI a = nI b) : a = b := (nI_eq ha hb).mp h
theorem lnk_of {h : mH} {KS : List (List Nat)} {cm b : Nat} : ∀ {nd : List Nat} {L : List aF} {t e : Int32}, chn h KS cm nd L t e → nd.getLast? = some b → nd.Nodup → lnk h b nd
  | [], _, _, _, _, hb, _ => by cases hb
  | [i], _, _, _, _, hb, _ => by simpa [lnk] using hb
  | i :: j :: nd, [], _, _, q, _, _ => q.elim
  | i :: j :: nd, [F], _, _, q, _, _ => q.2.2.elim
  | i :: j :: nd, F :: G :: L, t, e, q, hb, hnd => by
    have hb2 : (j :: nd).getLast? = some b := by rw [← hb]; rfl
    have hmem : b ∈ j :: nd := List.mem_of_getLast? hb2
    rw [List.nodup_cons] at hnd
    exact ⟨fun z => hnd.1 (by rw [z]; exact hmem), q.2.2.1, lnk_of q.2.2 hb2 hnd.2⟩
theorem k_B_firstY (l : Launch) (h : mH) (sg : Nat → Int32) (p : Nat) (hp : p < 800) (e : h 13 p = sg p) (hne : (sg p).toInt ≠ 64) : mD l Sh0 iX0_first [.inr 2, .inl (nI p)] h (some (nI (p + 1))) h := by
  have q := k_B_firstX l h sg p hp e
  rw [show aFs sg p = p + 1 from if_neg hne] at q
  exact q
set_option maxHeartbeats 4000000 in
theorem t_take_hold (l : Launch) {sg : Nat → Int32} {ln sz : Nat → Nat} {r : List Nat} {rc rr : Nat} (hB : aWB sg ln sz) (h : mH) (hC : CB sg ln sz h) {v pl x k w : Nat} {P : List aF} {K : List (List aF)} {n g u : Nat} {q : List Nat} (hJ : aJ sg sz r (false, 0, v, 0, (pl, x, k, w) :: P, K, n, g, u, q)) (hRC : RC rc h (false, 0, v, 0, (pl, x, k, w) :: P, K, n, g, u, q)) (h2 : aOf (sg pl).toInt = 2) (hw0 : w = 0) : mG l Sh0 iX4_takeUp [.inr 6] h (fun v' h' => v' = none ∧ KP h h' ∧ RO rc h' (aTop sg ln sz r v pl x k w P K n g u q)) := by
  obtain ⟨made, cm, nd, KS, h4, h5, hb, hb2, h9, h12, h13, ⟨h10, h11, h14, h15, h19⟩, hm, hcm, hch, hKS, hseg, hnd, hlt, hmd, hcc⟩ := hRC
  obtain ⟨jx, jb, jP, jK, jn, jg, ju, jq, jc, gs, g1, g2, g3, g4⟩ := hJ
  obtain ⟨i, nd, rfl⟩ : ∃ (i : Nat) (nd' : List Nat), nd = i :: nd' := by
    cases nd with
    | nil => exact hch.elim
    | cons i nd => exact ⟨i, nd, rfl⟩
  obtain ⟨h73, ⟨c, hc, hmk, har, hck⟩, hch2⟩ := hch
  dsimp only at hmk har hck
  have h68 : h 6 8 = nI v := hb2 rfl
  have hi : i < made := hlt i List.mem_cons_self
  have hM : made ≤ 8200 := by omega
  have hcc : cm + 1 ≤ n + 1 := hcc
  have hcc2 : cm ≤ 200 := by omega
  obtain ⟨f1, f2, f3, f4, f5, f6, f7⟩ := jP (pl, x, k, w) List.mem_cons_self
  dsimp only at f1 f2 f3 f4 f5 f6 f7
  have hp8 : pl < 800 := f1.1
  have hsg : h 13 pl = sg pl := hC.1 pl hp8
  have hB9 := hB.2 pl f1
  have hnd1 : i ∉ nd ++ KS.flatten := (List.nodup_cons.mp (by simpa using hnd)).1
  have hnd2 : (nd ++ KS.flatten).Nodup := (List.nodup_cons.mp (by simpa using hnd)).2
  have hlt2 : ∀ j ∈ nd ++ KS.flatten, j < made := fun j hj => hlt j (by rw [List.cons_append]; exact List.mem_cons_of_mem _ hj)
  have hne64 : (sg pl).toInt ≠ 64 := by rcases aOf_2 h2 with z | z | z | z <;> omega
  have v1 := hB9.2.2.2.1 (by omega)
  rw [show aFs sg pl = pl + 1 from if_neg hne64] at v1
  have h14a : h 14 (pl + 1) = nI (pl + 1 + ln (pl + 1)) := hC.2.2 _ v1.1
  have hp9 : pl + 1 < 800 := v1.1.1
  subst hw0
  intro RT hR
  show mE l Sh0 none iX4_takeUp RT 0 [some (.inr 6), none, none] [] h
  refine e_aload_n (i := 0) dX4_takeUp_0 rfl rfl ?_
  refine e_getR (r := 7) dX4_takeUp_1 fl_X4_12 sh_6 fj_6_1 ?_
  refine e_getI (x := nI i) dX4_takeUp_4 fl_X4_115 sh_7 fj_7_3 h73 ?_
  refine e_istore_n (i := 1) (ls2 := [some (.inr 6), some (.inl (nI i)), none]) dX4_takeUp_7 rfl (Nat.le_of_ble_eq_true rfl) rfl ?_
  refine e_iload_n (i := 1) dX4_takeUp_8 rfl rfl ?_
  refine e_iconst (v := (-1)) dX4_takeUp_9 (by decide) ?_
  refine b_icmp_ne (X := ((i : Nat) : Int)) (Y := (-1)) (tgt := 22) (nI_toInt (by omega)) (by decide) dX4_takeUp_10 (by decide) ?_ ?_
  · intro e_10_t c_10_t
    refine e_aload_n (i := 0) dX4_takeUp_22 rfl rfl ?_
    refine e_aload_n (i := 0) dX4_takeUp_23 rfl rfl ?_
    refine e_getR (r := 7) dX4_takeUp_24 fl_X4_12 sh_6 fj_6_1 ?_
    refine e_iload_n (i := 1) dX4_takeUp_27 rfl rfl ?_
    refine e_invVi (As := [.inl (nI i)]) (v := nI pl) (h2 := h) dX4_takeUp_28 lk_X4_118 yv_X5_place rfl rfl rfl (Nat.le_of_ble_eq_true rfl) sh_7 ci_X5 (Nat.le_of_ble_eq_true rfl) ⟨Nat.le_of_ble_eq_true rfl, Nat.le_of_ble_eq_true rfl⟩ (k_T_placeX l h i made hm hi hM hmk hp8 (by omega) (by omega)) ?_
    refine e_putI dX4_takeUp_31 fl_X4_86 fp_X4_6 sh_6 fj_6_6 ?_
    refine e_aload_n (i := 0) dX4_takeUp_34 rfl rfl ?_
    refine e_aload_n (i := 0) dX4_takeUp_35 rfl rfl ?_
    refine e_getR (r := 7) dX4_takeUp_36 fl_X4_12 sh_6 fj_6_1 ?_
    refine e_iload_n (i := 1) dX4_takeUp_39 rfl rfl ?_
    refine e_invVi (As := [.inl (nI i)]) (v := nI c) (h2 := (hs h 6 6 (nI pl))) dX4_takeUp_40 lk_X4_120 yv_X5_call rfl rfl rfl (Nat.le_of_ble_eq_true rfl) sh_7 ci_X5 (Nat.le_of_ble_eq_true rfl) ⟨Nat.le_of_ble_eq_true rfl, Nat.le_of_ble_eq_true rfl⟩ (k_T_callX l (hs h 6 6 (nI pl)) i made hm hi hM hmk hp8 (by omega) (by omega)) ?_
    refine e_putI dX4_takeUp_43 fl_X4_83 fp_X4_7 sh_6 fj_6_7 ?_
    refine e_aload_n (i := 0) dX4_takeUp_46 rfl rfl ?_
    refine e_getR (r := 2) dX4_takeUp_47 fl_X4_29 sh_6 fj_6_0 ?_
    refine e_aload_n (i := 0) dX4_takeUp_50 rfl rfl ?_
    refine e_getI (x := nI pl) dX4_takeUp_51 fl_X4_86 sh_6 fj_6_6 rfl ?_
    refine e_invVi (As := [.inl (nI pl)]) (v := sg pl) (h2 := (hs (hs h 6 6 (nI pl)) 6 7 (nI c))) dX4_takeUp_54 lk_X4_92 yv_X0_sign rfl rfl rfl (Nat.le_of_ble_eq_true rfl) sh_2 ci_X0 (Nat.le_of_ble_eq_true rfl) ⟨Nat.le_of_ble_eq_true rfl, Nat.le_of_ble_eq_true rfl⟩ (k_B_signX l (hs (hs h 6 6 (nI pl)) 6 7 (nI c)) pl hp8 hsg) ?_
    refine e_istore_n (i := 2) (ls2 := [some (.inr 6), some (.inl (nI i)), some (.inl (sg pl))]) dX4_takeUp_57 rfl (Nat.le_of_ble_eq_true rfl) rfl ?_
    refine e_iload_n (i := 2) dX4_takeUp_58 rfl rfl ?_
    refine e_invSi (As := [.inl (sg pl)]) (v := aI (sg pl).toInt) (h2 := (hs (hs h 6 6 (nI pl)) 6 7 (nI c))) dX4_takeUp_59 lk_X4_105 ys_X7_textsOf rfl rfl rfl (Nat.le_of_ble_eq_true rfl) (Nat.le_of_ble_eq_true rfl) ⟨Nat.le_of_ble_eq_true rfl, Nat.le_of_ble_eq_true rfl⟩ (k_textsOf l (hs (hs h 6 6 (nI pl)) 6 7 (nI c)) (sg pl)) ?_
    refine e_iconst (v := 2) dX4_takeUp_62 (by decide) ?_
    refine b_icmp_ne (X := aOf (sg pl).toInt) (Y := 2) (tgt := 118) (aI_toInt _) (by decide) dX4_takeUp_63 (by decide) ?_ ?_
    · intro e_63_t c_63_t
      exfalso; omega
    · intro e_63_f c_63_f
      refine e_aload_n (i := 0) dX4_takeUp_66 rfl rfl ?_
      refine e_getR (r := 7) dX4_takeUp_67 fl_X4_12 sh_6 fj_6_1 ?_
      refine e_iload_n (i := 1) dX4_takeUp_70 rfl rfl ?_
      refine e_invVi (As := [.inl (nI i)]) (v := dn 0) (h2 := (hs (hs h 6 6 (nI pl)) 6 7 (nI c))) dX4_takeUp_71 lk_X4_122 yv_X5_held rfl rfl rfl (Nat.le_of_ble_eq_true rfl) sh_7 ci_X5 (Nat.le_of_ble_eq_true rfl) ⟨Nat.le_of_ble_eq_true rfl, Nat.le_of_ble_eq_true rfl⟩ (k_T_heldX l (hs (hs h 6 6 (nI pl)) 6 7 (nI c)) i made hm hi hM hmk hp8 (by omega) (by omega)) ?_
      refine e_iconst (v := (-1)) dX4_takeUp_74 (by decide) ?_
      refine b_icmp_ne (X := (-1)) (Y := (-1)) (tgt := 118) (by decide) (by decide) dX4_takeUp_75 (by decide) ?_ ?_
      · intro e_75_t c_75_t
        exfalso; omega
      · intro e_75_f c_75_f
        refine e_aload_n (i := 0) dX4_takeUp_78 rfl rfl ?_
        refine e_getR (r := 7) dX4_takeUp_79 fl_X4_12 sh_6 fj_6_1 ?_
        refine e_iload_n (i := 1) dX4_takeUp_82 rfl rfl ?_
        refine e_aload_n (i := 0) dX4_takeUp_83 rfl rfl ?_
        refine e_getI (x := nI v) dX4_takeUp_84 fl_X4_89 sh_6 fj_6_8 h68 ?_
        refine e_invVv (As := [.inl (nI i), .inl (nI v)]) (h2 := (hs (hs (hs h 6 6 (nI pl)) 6 7 (nI c)) 20 i (nI (pl + 1024 * (v + 1) + 16384 * c)))) (ty := .int) (v := 0) dX4_takeUp_87 lk_X4_125 yv_X5_hold rfl rfl rfl (Nat.le_of_ble_eq_true rfl) sh_7 ci_X5 (Nat.le_of_ble_eq_true rfl) ⟨Nat.le_of_ble_eq_true rfl, Nat.le_of_ble_eq_true rfl⟩ (k_T_holdX l (hs (hs h 6 6 (nI pl)) 6 7 (nI c)) i made hm hi hM hmk hp8 (by omega) jx) ?_
        refine e_aload_n (i := 0) dX4_takeUp_90 rfl rfl ?_
        refine e_aload_n (i := 0) dX4_takeUp_91 rfl rfl ?_
        refine e_getR (r := 2) dX4_takeUp_92 fl_X4_29 sh_6 fj_6_0 ?_
        refine e_aload_n (i := 0) dX4_takeUp_95 rfl rfl ?_
        refine e_getR (r := 2) dX4_takeUp_96 fl_X4_29 sh_6 fj_6_0 ?_
        refine e_aload_n (i := 0) dX4_takeUp_99 rfl rfl ?_
        refine e_getI (x := nI pl) dX4_takeUp_100 fl_X4_86 sh_6 fj_6_6 rfl ?_
        refine e_invVi (As := [.inl (nI pl)]) (v := nI (pl + 1)) (h2 := (hs (hs (hs h 6 6 (nI pl)) 6 7 (nI c)) 20 i (nI (pl + 1024 * (v + 1) + 16384 * c)))) dX4_takeUp_103 lk_X4_112 yv_X0_first rfl rfl rfl (Nat.le_of_ble_eq_true rfl) sh_2 ci_X0 (Nat.le_of_ble_eq_true rfl) ⟨Nat.le_of_ble_eq_true rfl, Nat.le_of_ble_eq_true rfl⟩ (k_B_firstY l (hs (hs (hs h 6 6 (nI pl)) 6 7 (nI c)) 20 i (nI (pl + 1024 * (v + 1) + 16384 * c))) sg pl hp8 hsg hne64) ?_
        refine e_invVi (As := [.inl (nI (pl + 1))]) (v := nI (pl + 1 + ln (pl + 1))) (h2 := (hs (hs (hs h 6 6 (nI pl)) 6 7 (nI c)) 20 i (nI (pl + 1024 * (v + 1) + 16384 * c)))) dX4_takeUp_106 lk_X4_129 yv_X0_after rfl rfl rfl (Nat.le_of_ble_eq_true rfl) sh_2 ci_X0 (Nat.le_of_ble_eq_true rfl) ⟨Nat.le_of_ble_eq_true rfl, Nat.le_of_ble_eq_true rfl⟩ (k_B_afterX l (hs (hs (hs h 6 6 (nI pl)) 6 7 (nI c)) 20 i (nI (pl + 1024 * (v + 1) + 16384 * c))) (pl + 1) hp9 h14a) ?_
        refine e_putI dX4_takeUp_109 fl_X4_86 fp_X4_6 sh_6 fj_6_6 ?_
        refine e_aload_n (i := 0) dX4_takeUp_112 rfl rfl ?_
        refine e_iconst (v := 1) dX4_takeUp_113 (by decide) ?_
        refine e_putZ dX4_takeUp_114 fl_X4_70 fp_X4_5 sh_6 fj_6_5 (by decide) ?_
        refine e_ret dX4_takeUp_117 rfl ?_
        have e : aTop sg ln sz r v pl x k 0 P K n g u q = .inl (true, pl + 1 + ln (pl + 1), x, k, (pl, x, k, v + 1) :: P, K, n, g, u, q) := if_pos ⟨h2, rfl⟩
        rw [e] at hR
        have hext : ∀ {nd : List Nat} {P : List aF} {t e : Int32}, i ∉ nd → chn h KS cm nd P t e → chn (hs (hs (hs (hs (hs h 6 6 (nI pl)) 6 7 (nI c)) 20 i (nI (pl + 1024 * (v + 1) + 16384 * c))) 6 6 (nI (pl + 1 + ln (pl + 1)))) 6 5 1) KS cm nd P t e := by
          intro nd P t e hz hq
          have z := chn_ext (h := h) (h' := (hs (hs (hs (hs (hs h 6 6 (nI pl)) 6 7 (nI c)) 20 i (nI (pl + 1024 * (v + 1) + 16384 * c))) 6 6 (nI (pl + 1 + ln (pl + 1)))) 6 5 1)) (Z := []) (Nat.le_refl cm) (fun c _ => ⟨rfl, rfl, rfl⟩) (fun j hj => ⟨(show (hs (hs (hs (hs (hs h 6 6 (nI pl)) 6 7 (nI c)) 20 i (nI (pl + 1024 * (v + 1) + 16384 * c))) 6 6 (nI (pl + 1 + ln (pl + 1)))) 6 5 1) 20 j = hs h 20 i (nI (pl + 1024 * (v + 1) + 16384 * c)) 20 j from rfl).trans (hs_ne _ _ (fun z => hz (by rw [← z.2]; exact hj))), rfl⟩) hq
          rwa [List.append_nil] at z
        have hck2 : cK (hs (hs (hs (hs (hs h 6 6 (nI pl)) 6 7 (nI c)) 20 i (nI (pl + 1024 * (v + 1) + 16384 * c))) 6 6 (nI (pl + 1 + ln (pl + 1)))) 6 5 1) KS c k := by
          have z := cK_ext (h := h) (h' := (hs (hs (hs (hs (hs h 6 6 (nI pl)) 6 7 (nI c)) 20 i (nI (pl + 1024 * (v + 1) + 16384 * c))) 6 6 (nI (pl + 1 + ln (pl + 1)))) 6 5 1)) (Z := []) rfl rfl hck
          rwa [List.append_nil] at z
        refine hR _ _ ⟨rfl, (((((KP.refl h).hs (by omega)).hs (by omega)).hs (by omega)).hs (by omega)).hs (by omega), made, cm, i :: nd, KS, h4, rfl, fun _ => ⟨rfl, c, rfl, hc, har, hck2⟩, fun z => (by cases z), h9, h12, h13, ⟨h10, h11, h14, h15, h19⟩, hm, hcm, ⟨h73, ⟨c, hc, ?_, har, hck2⟩, hext (fun z => hnd1 (List.mem_append_left _ z)) hch2⟩, hKS, fun j nj L z1 z2 => ?_, hnd, hlt, hmd, by show cm + 0 ≤ n + 1; omega⟩
        · exact (show (hs (hs (hs (hs (hs h 6 6 (nI pl)) 6 7 (nI c)) 20 i (nI (pl + 1024 * (v + 1) + 16384 * c))) 6 6 (nI (pl + 1 + ln (pl + 1)))) 6 5 1) 20 i = hs h 20 i (nI (pl + 1024 * (v + 1) + 16384 * c)) 20 i from rfl).trans (hs_at _ _ _ _)
        · obtain ⟨t, e, z⟩ := hseg j nj L z1 z2
          exact ⟨t, e, hext (fun z => hnd1 (List.mem_append_right _ (List.mem_flatten.mpr ⟨nj, List.mem_of_getElem? z1, z⟩))) z⟩
  · intro e_10_f c_10_f
    exfalso; omega
set_option maxHeartbeats 4000000 in
theorem t_take_choose0 (l : Launch) {sg : Nat → Int32} {ln sz : Nat → Nat} {r : List Nat} {rc rr : Nat} (hB : aWB sg ln sz) (h : mH) (hC : CB sg ln sz h) {v pl x k w : Nat} {P : List aF} {K : List (List aF)} {n g u : Nat} {q : List Nat} (hJ : aJ sg sz r (false, 0, v, 0, (pl, x, k, w) :: P, K, n, g, u, q)) (hRC : RC rc h (false, 0, v, 0, (pl, x, k, w) :: P, K, n, g, u, q)) (h63 : (sg pl).toInt = 63) (hv : v = 0) : mG l Sh0 iX4_takeUp [.inr 6] h (fun v' h' => v' = none ∧ KP h h' ∧ RO rc h' (aTop sg ln sz r v pl x k w P K n g u q)) := by
  obtain ⟨made, cm, nd, KS, h4, h5, hb, hb2, h9, h12, h13, ⟨h10, h11, h14, h15, h19⟩, hm, hcm, hch, hKS, hseg, hnd, hlt, hmd, hcc⟩ := hRC
  obtain ⟨jx, jb, jP, jK, jn, jg, ju, jq, jc, gs, g1, g2, g3, g4⟩ := hJ
  obtain ⟨i, nd, rfl⟩ : ∃ (i : Nat) (nd' : List Nat), nd = i :: nd' := by
    cases nd with
    | nil => exact hch.elim
    | cons i nd => exact ⟨i, nd, rfl⟩
  obtain ⟨h73, ⟨c, hc, hmk, har, hck⟩, hch2⟩ := hch
  dsimp only at hmk har hck
  have h68 : h 6 8 = nI v := hb2 rfl
  have hi : i < made := hlt i List.mem_cons_self
  have hM : made ≤ 8200 := by omega
  have hcc : cm + 1 ≤ n + 1 := hcc
  have hcc2 : cm ≤ 200 := by omega
  obtain ⟨f1, f2, f3, f4, f5, f6, f7⟩ := jP (pl, x, k, w) List.mem_cons_self
  dsimp only at f1 f2 f3 f4 f5 f6 f7
  have hp8 : pl < 800 := f1.1
  have hsg : h 13 pl = sg pl := hC.1 pl hp8
  have hB9 := hB.2 pl f1
  have hnd1 : i ∉ nd ++ KS.flatten := (List.nodup_cons.mp (by simpa using hnd)).1
  have hnd2 : (nd ++ KS.flatten).Nodup := (List.nodup_cons.mp (by simpa using hnd)).2
  have hlt2 : ∀ j ∈ nd ++ KS.flatten, j < made := fun j hj => hlt j (by rw [List.cons_append]; exact List.mem_cons_of_mem _ hj)
  have h3 : aOf (sg pl).toInt = 3 := by rw [h63]; exact aOf_is3
  have hne64 : (sg pl).toInt ≠ 64 := by omega
  have v1 := hB9.2.2.2.1 (by omega)
  rw [show aFs sg pl = pl + 1 from if_neg hne64] at v1
  have v2 := hB9.2.2.2.2.2.1 (by omega)
  have h14a : h 14 (pl + 1) = nI (pl + 1 + ln (pl + 1)) := hC.2.2 _ v1.1
  have h14b : h 14 (pl + 1 + ln (pl + 1)) = nI (pl + 1 + ln (pl + 1) + ln (pl + 1 + ln (pl + 1))) := hC.2.2 _ v2.1
  intro RT hR
  show mE l Sh0 none iX4_takeUp RT 0 [some (.inr 6), none, none] [] h
  refine e_aload_n (i := 0) dX4_takeUp_0 rfl rfl ?_
  refine e_getR (r := 7) dX4_takeUp_1 fl_X4_12 sh_6 fj_6_1 ?_
  refine e_getI (x := nI i) dX4_takeUp_4 fl_X4_115 sh_7 fj_7_3 h73 ?_
  refine e_istore_n (i := 1) (ls2 := [some (.inr 6), some (.inl (nI i)), none]) dX4_takeUp_7 rfl (Nat.le_of_ble_eq_true rfl) rfl ?_
  refine e_iload_n (i := 1) dX4_takeUp_8 rfl rfl ?_
  refine e_iconst (v := (-1)) dX4_takeUp_9 (by decide) ?_
  refine b_icmp_ne (X := ((i : Nat) : Int)) (Y := (-1)) (tgt := 22) (nI_toInt (by omega)) (by decide) dX4_takeUp_10 (by decide) ?_ ?_
  · intro e_10_t c_10_t
    refine e_aload_n (i := 0) dX4_takeUp_22 rfl rfl ?_
    refine e_aload_n (i := 0) dX4_takeUp_23 rfl rfl ?_
    refine e_getR (r := 7) dX4_takeUp_24 fl_X4_12 sh_6 fj_6_1 ?_
    refine e_iload_n (i := 1) dX4_takeUp_27 rfl rfl ?_
    refine e_invVi (As := [.inl (nI i)]) (v := nI pl) (h2 := h) dX4_takeUp_28 lk_X4_118 yv_X5_place rfl rfl rfl (Nat.le_of_ble_eq_true rfl) sh_7 ci_X5 (Nat.le_of_ble_eq_true rfl) ⟨Nat.le_of_ble_eq_true rfl, Nat.le_of_ble_eq_true rfl⟩ (k_T_placeX l h i made hm hi hM hmk hp8 (by omega) (by omega)) ?_
    refine e_putI dX4_takeUp_31 fl_X4_86 fp_X4_6 sh_6 fj_6_6 ?_
    refine e_aload_n (i := 0) dX4_takeUp_34 rfl rfl ?_
    refine e_aload_n (i := 0) dX4_takeUp_35 rfl rfl ?_
    refine e_getR (r := 7) dX4_takeUp_36 fl_X4_12 sh_6 fj_6_1 ?_
    refine e_iload_n (i := 1) dX4_takeUp_39 rfl rfl ?_
    refine e_invVi (As := [.inl (nI i)]) (v := nI c) (h2 := (hs h 6 6 (nI pl))) dX4_takeUp_40 lk_X4_120 yv_X5_call rfl rfl rfl (Nat.le_of_ble_eq_true rfl) sh_7 ci_X5 (Nat.le_of_ble_eq_true rfl) ⟨Nat.le_of_ble_eq_true rfl, Nat.le_of_ble_eq_true rfl⟩ (k_T_callX l (hs h 6 6 (nI pl)) i made hm hi hM hmk hp8 (by omega) (by omega)) ?_
    refine e_putI dX4_takeUp_43 fl_X4_83 fp_X4_7 sh_6 fj_6_7 ?_
    refine e_aload_n (i := 0) dX4_takeUp_46 rfl rfl ?_
    refine e_getR (r := 2) dX4_takeUp_47 fl_X4_29 sh_6 fj_6_0 ?_
    refine e_aload_n (i := 0) dX4_takeUp_50 rfl rfl ?_
    refine e_getI (x := nI pl) dX4_takeUp_51 fl_X4_86 sh_6 fj_6_6 rfl ?_
    refine e_invVi (As := [.inl (nI pl)]) (v := sg pl) (h2 := (hs (hs h 6 6 (nI pl)) 6 7 (nI c))) dX4_takeUp_54 lk_X4_92 yv_X0_sign rfl rfl rfl (Nat.le_of_ble_eq_true rfl) sh_2 ci_X0 (Nat.le_of_ble_eq_true rfl) ⟨Nat.le_of_ble_eq_true rfl, Nat.le_of_ble_eq_true rfl⟩ (k_B_signX l (hs (hs h 6 6 (nI pl)) 6 7 (nI c)) pl hp8 hsg) ?_
    refine e_istore_n (i := 2) (ls2 := [some (.inr 6), some (.inl (nI i)), some (.inl (sg pl))]) dX4_takeUp_57 rfl (Nat.le_of_ble_eq_true rfl) rfl ?_
    refine e_iload_n (i := 2) dX4_takeUp_58 rfl rfl ?_
    refine e_invSi (As := [.inl (sg pl)]) (v := aI (sg pl).toInt) (h2 := (hs (hs h 6 6 (nI pl)) 6 7 (nI c))) dX4_takeUp_59 lk_X4_105 ys_X7_textsOf rfl rfl rfl (Nat.le_of_ble_eq_true rfl) (Nat.le_of_ble_eq_true rfl) ⟨Nat.le_of_ble_eq_true rfl, Nat.le_of_ble_eq_true rfl⟩ (k_textsOf l (hs (hs h 6 6 (nI pl)) 6 7 (nI c)) (sg pl)) ?_
    refine e_iconst (v := 2) dX4_takeUp_62 (by decide) ?_
    refine b_icmp_ne (X := aOf (sg pl).toInt) (Y := 2) (tgt := 118) (aI_toInt _) (by decide) dX4_takeUp_63 (by decide) ?_ ?_
    · intro e_63_t c_63_t
      refine e_aload_n (i := 0) dX4_takeUp_118 rfl rfl ?_
      refine e_getR (r := 7) dX4_takeUp_119 fl_X4_12 sh_6 fj_6_1 ?_
      refine e_aload_n (i := 0) dX4_takeUp_122 rfl rfl ?_
      refine e_getR (r := 7) dX4_takeUp_123 fl_X4_12 sh_6 fj_6_1 ?_
      refine e_iload_n (i := 1) dX4_takeUp_126 rfl rfl ?_
      refine e_invVi (As := [.inl (nI i)]) (v := h 21 i) (h2 := (hs (hs h 6 6 (nI pl)) 6 7 (nI c))) dX4_takeUp_127 lk_X4_132 yv_X5_below rfl rfl rfl (Nat.le_of_ble_eq_true rfl) sh_7 ci_X5 (Nat.le_of_ble_eq_true rfl) ⟨Nat.le_of_ble_eq_true rfl, Nat.le_of_ble_eq_true rfl⟩ (k_T_belowX l (hs (hs h 6 6 (nI pl)) 6 7 (nI c)) i made hm hi hM rfl) ?_
      refine e_putI dX4_takeUp_130 fl_X4_115 fp_X5_3 sh_7 fj_7_3 ?_
      refine e_iload_n (i := 2) dX4_takeUp_133 rfl rfl ?_
      by_cases sk_134_63 : sg pl = 63
      · have skt_134_63 : (sg pl).toInt = 63 := by rw [sk_134_63]; decide
        refine e_lookup (off := 58) (tgt := 192) dX4_takeUp_134 (by decide) (by rw [sk_134_63]; decide) (by decide) ?_
        refine e_aload_n (i := 0) dX4_takeUp_192 rfl rfl ?_
        refine e_invVv (As := []) (h2 := (hs (hs (hs (hs (hs h 6 6 (nI pl)) 6 7 (nI c)) 7 3 (h 21 i)) 6 6 (nI (pl + 1 + ln (pl + 1)))) 6 5 1)) (ty := .int) (v := 0) dX4_takeUp_193 lk_X4_135 yv_X4_choose rfl rfl rfl (Nat.le_of_ble_eq_true rfl) sh_6 ci_X4 (Nat.le_of_ble_eq_true rfl) ⟨Nat.le_of_ble_eq_true rfl, Nat.le_of_ble_eq_true rfl⟩ (k_X_choose0 l (hs (hs (hs h 6 6 (nI pl)) 6 7 (nI c)) 7 3 (h 21 i)) sg pl v _ _ v1.1.1 v2.1.1 rfl h68 jx hsg h63 h14a h14b hv) ?_
        refine e_goto (tgt := 263) dX4_takeUp_196 (by decide) ?_
        refine e_ret dX4_takeUp_263 rfl ?_
        have e : aTop sg ln sz r v pl x k w P K n g u q = .inl (true, pl + 1 + ln (pl + 1), x, k, P, K, n, g, u, q) := by unfold aTop; rw [if_neg (by omega), if_pos h63, if_pos hv]
        rw [e] at hR
        have hck2 : cK (hs (hs (hs (hs (hs h 6 6 (nI pl)) 6 7 (nI c)) 7 3 (h 21 i)) 6 6 (nI (pl + 1 + ln (pl + 1)))) 6 5 1) KS c k := by
          have z := cK_ext (h := h) (h' := (hs (hs (hs (hs (hs h 6 6 (nI pl)) 6 7 (nI c)) 7 3 (h 21 i)) 6 6 (nI (pl + 1 + ln (pl + 1)))) 6 5 1)) (Z := []) rfl rfl hck
          rwa [List.append_nil] at z
        exact hR _ _ ⟨rfl, (((((KP.refl h).hs (by omega)).hs (by omega)).hs (by omega)).hs (by omega)).hs (by omega), made, cm, nd, KS, h4, rfl, fun _ => ⟨rfl, c, rfl, hc, har, hck2⟩, fun z => (by cases z), h9, h12, h13, ⟨h10, h11, h14, h15, h19⟩, hm, hcm, chn_same (h := h) (h' := (hs (hs (hs (hs (hs h 6 6 (nI pl)) 6 7 (nI c)) 7 3 (h 21 i)) 6 6 (nI (pl + 1 + ln (pl + 1)))) 6 5 1)) rfl rfl rfl rfl rfl hch2, hKS, fun j nj L z1 z2 => (hseg j nj L z1 z2).imp (fun _ z => z.imp (fun _ z => chn_same (h := h) (h' := (hs (hs (hs (hs (hs h 6 6 (nI pl)) 6 7 (nI c)) 7 3 (h 21 i)) 6 6 (nI (pl + 1 + ln (pl + 1)))) 6 5 1)) rfl rfl rfl rfl rfl z)), hnd2, hlt2, hmd, by show cm + 0 ≤ n + 1; omega⟩
      have skf_134_63 : ¬ (sg pl).toInt = 63 := fun z => sk_134_63 (Int32.toInt_inj.mp (by rw [z]; decide))
      by_cases sk_134_64 : sg pl = 64
      · have skt_134_64 : (sg pl).toInt = 64 := by rw [sk_134_64]; decide
        exfalso; omega
      have skf_134_64 : ¬ (sg pl).toInt = 64 := fun z => sk_134_64 (Int32.toInt_inj.mp (by rw [z]; decide))
      by_cases sk_134_107 : sg pl = 107
      · have skt_134_107 : (sg pl).toInt = 107 := by rw [sk_134_107]; decide
        exfalso; omega
      have skf_134_107 : ¬ (sg pl).toInt = 107 := fun z => sk_134_107 (Int32.toInt_inj.mp (by rw [z]; decide))
      by_cases sk_134_112 : sg pl = 112
      · have skt_134_112 : (sg pl).toInt = 112 := by rw [sk_134_112]; decide
        exfalso; omega
      have skf_134_112 : ¬ (sg pl).toInt = 112 := fun z => sk_134_112 (Int32.toInt_inj.mp (by rw [z]; decide))
      by_cases sk_134_113 : sg pl = 113
      · have skt_134_113 : (sg pl).toInt = 113 := by rw [sk_134_113]; decide
        exfalso; omega
      have skf_134_113 : ¬ (sg pl).toInt = 113 := fun z => sk_134_113 (Int32.toInt_inj.mp (by rw [z]; decide))
      by_cases sk_134_114 : sg pl = 114
      · have skt_134_114 : (sg pl).toInt = 114 := by rw [sk_134_114]; decide
        exfalso; omega
      have skf_134_114 : ¬ (sg pl).toInt = 114 := fun z => sk_134_114 (Int32.toInt_inj.mp (by rw [z]; decide))
      exfalso; omega
    · intro e_63_f c_63_f
      exfalso; omega
  · intro e_10_f c_10_f
    exfalso; omega
set_option maxHeartbeats 4000000 in
theorem t_take_choose1 (l : Launch) {sg : Nat → Int32} {ln sz : Nat → Nat} {r : List Nat} {rc rr : Nat} (hB : aWB sg ln sz) (h : mH) (hC : CB sg ln sz h) {v pl x k w : Nat} {P : List aF} {K : List (List aF)} {n g u : Nat} {q : List Nat} (hJ : aJ sg sz r (false, 0, v, 0, (pl, x, k, w) :: P, K, n, g, u, q)) (hRC : RC rc h (false, 0, v, 0, (pl, x, k, w) :: P, K, n, g, u, q)) (h63 : (sg pl).toInt = 63) (hv : v ≠ 0) : mG l Sh0 iX4_takeUp [.inr 6] h (fun v' h' => v' = none ∧ KP h h' ∧ RO rc h' (aTop sg ln sz r v pl x k w P K n g u q)) := by
  obtain ⟨made, cm, nd, KS, h4, h5, hb, hb2, h9, h12, h13, ⟨h10, h11, h14, h15, h19⟩, hm, hcm, hch, hKS, hseg, hnd, hlt, hmd, hcc⟩ := hRC
  obtain ⟨jx, jb, jP, jK, jn, jg, ju, jq, jc, gs, g1, g2, g3, g4⟩ := hJ
  obtain ⟨i, nd, rfl⟩ : ∃ (i : Nat) (nd' : List Nat), nd = i :: nd' := by
    cases nd with
    | nil => exact hch.elim
    | cons i nd => exact ⟨i, nd, rfl⟩
  obtain ⟨h73, ⟨c, hc, hmk, har, hck⟩, hch2⟩ := hch
  dsimp only at hmk har hck
  have h68 : h 6 8 = nI v := hb2 rfl
  have hi : i < made := hlt i List.mem_cons_self
  have hM : made ≤ 8200 := by omega
  have hcc : cm + 1 ≤ n + 1 := hcc
  have hcc2 : cm ≤ 200 := by omega
  obtain ⟨f1, f2, f3, f4, f5, f6, f7⟩ := jP (pl, x, k, w) List.mem_cons_self
  dsimp only at f1 f2 f3 f4 f5 f6 f7
  have hp8 : pl < 800 := f1.1
  have hsg : h 13 pl = sg pl := hC.1 pl hp8
  have hB9 := hB.2 pl f1
  have hnd1 : i ∉ nd ++ KS.flatten := (List.nodup_cons.mp (by simpa using hnd)).1
  have hnd2 : (nd ++ KS.flatten).Nodup := (List.nodup_cons.mp (by simpa using hnd)).2
  have hlt2 : ∀ j ∈ nd ++ KS.flatten, j < made := fun j hj => hlt j (by rw [List.cons_append]; exact List.mem_cons_of_mem _ hj)
  have h3 : aOf (sg pl).toInt = 3 := by rw [h63]; exact aOf_is3
  have hne64 : (sg pl).toInt ≠ 64 := by omega
  have v1 := hB9.2.2.2.1 (by omega)
  rw [show aFs sg pl = pl + 1 from if_neg hne64] at v1
  have v2 := hB9.2.2.2.2.2.1 (by omega)
  have h14a : h 14 (pl + 1) = nI (pl + 1 + ln (pl + 1)) := hC.2.2 _ v1.1
  have h14b : h 14 (pl + 1 + ln (pl + 1)) = nI (pl + 1 + ln (pl + 1) + ln (pl + 1 + ln (pl + 1))) := hC.2.2 _ v2.1
  intro RT hR
  show mE l Sh0 none iX4_takeUp RT 0 [some (.inr 6), none, none] [] h
  refine e_aload_n (i := 0) dX4_takeUp_0 rfl rfl ?_
  refine e_getR (r := 7) dX4_takeUp_1 fl_X4_12 sh_6 fj_6_1 ?_
  refine e_getI (x := nI i) dX4_takeUp_4 fl_X4_115 sh_7 fj_7_3 h73 ?_
  refine e_istore_n (i := 1) (ls2 := [some (.inr 6), some (.inl (nI i)), none]) dX4_takeUp_7 rfl (Nat.le_of_ble_eq_true rfl) rfl ?_
  refine e_iload_n (i := 1) dX4_takeUp_8 rfl rfl ?_
  refine e_iconst (v := (-1)) dX4_takeUp_9 (by decide) ?_
  refine b_icmp_ne (X := ((i : Nat) : Int)) (Y := (-1)) (tgt := 22) (nI_toInt (by omega)) (by decide) dX4_takeUp_10 (by decide) ?_ ?_
  · intro e_10_t c_10_t
    refine e_aload_n (i := 0) dX4_takeUp_22 rfl rfl ?_
    refine e_aload_n (i := 0) dX4_takeUp_23 rfl rfl ?_
    refine e_getR (r := 7) dX4_takeUp_24 fl_X4_12 sh_6 fj_6_1 ?_
    refine e_iload_n (i := 1) dX4_takeUp_27 rfl rfl ?_
    refine e_invVi (As := [.inl (nI i)]) (v := nI pl) (h2 := h) dX4_takeUp_28 lk_X4_118 yv_X5_place rfl rfl rfl (Nat.le_of_ble_eq_true rfl) sh_7 ci_X5 (Nat.le_of_ble_eq_true rfl) ⟨Nat.le_of_ble_eq_true rfl, Nat.le_of_ble_eq_true rfl⟩ (k_T_placeX l h i made hm hi hM hmk hp8 (by omega) (by omega)) ?_
    refine e_putI dX4_takeUp_31 fl_X4_86 fp_X4_6 sh_6 fj_6_6 ?_
    refine e_aload_n (i := 0) dX4_takeUp_34 rfl rfl ?_
    refine e_aload_n (i := 0) dX4_takeUp_35 rfl rfl ?_
    refine e_getR (r := 7) dX4_takeUp_36 fl_X4_12 sh_6 fj_6_1 ?_
    refine e_iload_n (i := 1) dX4_takeUp_39 rfl rfl ?_
    refine e_invVi (As := [.inl (nI i)]) (v := nI c) (h2 := (hs h 6 6 (nI pl))) dX4_takeUp_40 lk_X4_120 yv_X5_call rfl rfl rfl (Nat.le_of_ble_eq_true rfl) sh_7 ci_X5 (Nat.le_of_ble_eq_true rfl) ⟨Nat.le_of_ble_eq_true rfl, Nat.le_of_ble_eq_true rfl⟩ (k_T_callX l (hs h 6 6 (nI pl)) i made hm hi hM hmk hp8 (by omega) (by omega)) ?_
    refine e_putI dX4_takeUp_43 fl_X4_83 fp_X4_7 sh_6 fj_6_7 ?_
    refine e_aload_n (i := 0) dX4_takeUp_46 rfl rfl ?_
    refine e_getR (r := 2) dX4_takeUp_47 fl_X4_29 sh_6 fj_6_0 ?_
    refine e_aload_n (i := 0) dX4_takeUp_50 rfl rfl ?_
    refine e_getI (x := nI pl) dX4_takeUp_51 fl_X4_86 sh_6 fj_6_6 rfl ?_
    refine e_invVi (As := [.inl (nI pl)]) (v := sg pl) (h2 := (hs (hs h 6 6 (nI pl)) 6 7 (nI c))) dX4_takeUp_54 lk_X4_92 yv_X0_sign rfl rfl rfl (Nat.le_of_ble_eq_true rfl) sh_2 ci_X0 (Nat.le_of_ble_eq_true rfl) ⟨Nat.le_of_ble_eq_true rfl, Nat.le_of_ble_eq_true rfl⟩ (k_B_signX l (hs (hs h 6 6 (nI pl)) 6 7 (nI c)) pl hp8 hsg) ?_
    refine e_istore_n (i := 2) (ls2 := [some (.inr 6), some (.inl (nI i)), some (.inl (sg pl))]) dX4_takeUp_57 rfl (Nat.le_of_ble_eq_true rfl) rfl ?_
    refine e_iload_n (i := 2) dX4_takeUp_58 rfl rfl ?_
    refine e_invSi (As := [.inl (sg pl)]) (v := aI (sg pl).toInt) (h2 := (hs (hs h 6 6 (nI pl)) 6 7 (nI c))) dX4_takeUp_59 lk_X4_105 ys_X7_textsOf rfl rfl rfl (Nat.le_of_ble_eq_true rfl) (Nat.le_of_ble_eq_true rfl) ⟨Nat.le_of_ble_eq_true rfl, Nat.le_of_ble_eq_true rfl⟩ (k_textsOf l (hs (hs h 6 6 (nI pl)) 6 7 (nI c)) (sg pl)) ?_
    refine e_iconst (v := 2) dX4_takeUp_62 (by decide) ?_
    refine b_icmp_ne (X := aOf (sg pl).toInt) (Y := 2) (tgt := 118) (aI_toInt _) (by decide) dX4_takeUp_63 (by decide) ?_ ?_
    · intro e_63_t c_63_t
      refine e_aload_n (i := 0) dX4_takeUp_118 rfl rfl ?_
      refine e_getR (r := 7) dX4_takeUp_119 fl_X4_12 sh_6 fj_6_1 ?_
      refine e_aload_n (i := 0) dX4_takeUp_122 rfl rfl ?_
      refine e_getR (r := 7) dX4_takeUp_123 fl_X4_12 sh_6 fj_6_1 ?_
      refine e_iload_n (i := 1) dX4_takeUp_126 rfl rfl ?_
      refine e_invVi (As := [.inl (nI i)]) (v := h 21 i) (h2 := (hs (hs h 6 6 (nI pl)) 6 7 (nI c))) dX4_takeUp_127 lk_X4_132 yv_X5_below rfl rfl rfl (Nat.le_of_ble_eq_true rfl) sh_7 ci_X5 (Nat.le_of_ble_eq_true rfl) ⟨Nat.le_of_ble_eq_true rfl, Nat.le_of_ble_eq_true rfl⟩ (k_T_belowX l (hs (hs h 6 6 (nI pl)) 6 7 (nI c)) i made hm hi hM rfl) ?_
      refine e_putI dX4_takeUp_130 fl_X4_115 fp_X5_3 sh_7 fj_7_3 ?_
      refine e_iload_n (i := 2) dX4_takeUp_133 rfl rfl ?_
      by_cases sk_134_63 : sg pl = 63
      · have skt_134_63 : (sg pl).toInt = 63 := by rw [sk_134_63]; decide
        refine e_lookup (off := 58) (tgt := 192) dX4_takeUp_134 (by decide) (by rw [sk_134_63]; decide) (by decide) ?_
        refine e_aload_n (i := 0) dX4_takeUp_192 rfl rfl ?_
        refine e_invVv (As := []) (h2 := (hs (hs (hs (hs (hs h 6 6 (nI pl)) 6 7 (nI c)) 7 3 (h 21 i)) 6 6 (nI (pl + 1 + ln (pl + 1) + ln (pl + 1 + ln (pl + 1))))) 6 5 1)) (ty := .int) (v := 0) dX4_takeUp_193 lk_X4_135 yv_X4_choose rfl rfl rfl (Nat.le_of_ble_eq_true rfl) sh_6 ci_X4 (Nat.le_of_ble_eq_true rfl) ⟨Nat.le_of_ble_eq_true rfl, Nat.le_of_ble_eq_true rfl⟩ (k_X_choose1 l (hs (hs (hs h 6 6 (nI pl)) 6 7 (nI c)) 7 3 (h 21 i)) sg pl v _ _ v1.1.1 v2.1.1 rfl h68 jx hsg h63 h14a h14b hv) ?_
        refine e_goto (tgt := 263) dX4_takeUp_196 (by decide) ?_
        refine e_ret dX4_takeUp_263 rfl ?_
        have e : aTop sg ln sz r v pl x k w P K n g u q = .inl (true, pl + 1 + ln (pl + 1) + ln (pl + 1 + ln (pl + 1)), x, k, P, K, n, g, u, q) := by unfold aTop; rw [if_neg (by omega), if_pos h63, if_neg hv]
        rw [e] at hR
        have hck2 : cK (hs (hs (hs (hs (hs h 6 6 (nI pl)) 6 7 (nI c)) 7 3 (h 21 i)) 6 6 (nI (pl + 1 + ln (pl + 1) + ln (pl + 1 + ln (pl + 1))))) 6 5 1) KS c k := by
          have z := cK_ext (h := h) (h' := (hs (hs (hs (hs (hs h 6 6 (nI pl)) 6 7 (nI c)) 7 3 (h 21 i)) 6 6 (nI (pl + 1 + ln (pl + 1) + ln (pl + 1 + ln (pl + 1))))) 6 5 1)) (Z := []) rfl rfl hck
          rwa [List.append_nil] at z
        exact hR _ _ ⟨rfl, (((((KP.refl h).hs (by omega)).hs (by omega)).hs (by omega)).hs (by omega)).hs (by omega), made, cm, nd, KS, h4, rfl, fun _ => ⟨rfl, c, rfl, hc, har, hck2⟩, fun z => (by cases z), h9, h12, h13, ⟨h10, h11, h14, h15, h19⟩, hm, hcm, chn_same (h := h) (h' := (hs (hs (hs (hs (hs h 6 6 (nI pl)) 6 7 (nI c)) 7 3 (h 21 i)) 6 6 (nI (pl + 1 + ln (pl + 1) + ln (pl + 1 + ln (pl + 1))))) 6 5 1)) rfl rfl rfl rfl rfl hch2, hKS, fun j nj L z1 z2 => (hseg j nj L z1 z2).imp (fun _ z => z.imp (fun _ z => chn_same (h := h) (h' := (hs (hs (hs (hs (hs h 6 6 (nI pl)) 6 7 (nI c)) 7 3 (h 21 i)) 6 6 (nI (pl + 1 + ln (pl + 1) + ln (pl + 1 + ln (pl + 1))))) 6 5 1)) rfl rfl rfl rfl rfl z)), hnd2, hlt2, hmd, by show cm + 0 ≤ n + 1; omega⟩
      have skf_134_63 : ¬ (sg pl).toInt = 63 := fun z => sk_134_63 (Int32.toInt_inj.mp (by rw [z]; decide))
      by_cases sk_134_64 : sg pl = 64
      · have skt_134_64 : (sg pl).toInt = 64 := by rw [sk_134_64]; decide
        exfalso; omega
      have skf_134_64 : ¬ (sg pl).toInt = 64 := fun z => sk_134_64 (Int32.toInt_inj.mp (by rw [z]; decide))
      by_cases sk_134_107 : sg pl = 107
      · have skt_134_107 : (sg pl).toInt = 107 := by rw [sk_134_107]; decide
        exfalso; omega
      have skf_134_107 : ¬ (sg pl).toInt = 107 := fun z => sk_134_107 (Int32.toInt_inj.mp (by rw [z]; decide))
      by_cases sk_134_112 : sg pl = 112
      · have skt_134_112 : (sg pl).toInt = 112 := by rw [sk_134_112]; decide
        exfalso; omega
      have skf_134_112 : ¬ (sg pl).toInt = 112 := fun z => sk_134_112 (Int32.toInt_inj.mp (by rw [z]; decide))
      by_cases sk_134_113 : sg pl = 113
      · have skt_134_113 : (sg pl).toInt = 113 := by rw [sk_134_113]; decide
        exfalso; omega
      have skf_134_113 : ¬ (sg pl).toInt = 113 := fun z => sk_134_113 (Int32.toInt_inj.mp (by rw [z]; decide))
      by_cases sk_134_114 : sg pl = 114
      · have skt_134_114 : (sg pl).toInt = 114 := by rw [sk_134_114]; decide
        exfalso; omega
      have skf_134_114 : ¬ (sg pl).toInt = 114 := fun z => sk_134_114 (Int32.toInt_inj.mp (by rw [z]; decide))
      exfalso; omega
    · intro e_63_f c_63_f
      exfalso; omega
  · intro e_10_f c_10_f
    exfalso; omega
theorem act_eq {s : Int32} {a b : Nat} (h2 : s.toInt = 43 ∨ s.toInt = 45 ∨ s.toInt = 42 ∨ s.toInt = 109) (ha : a < 8) (hb : b < 8) : cAct s (nI a) (nI b) = nI (aAct s.toInt a b) := by
  have key : ∀ a : Fin 8, ∀ b : Fin 8, (nI a.val + nI b.val) &&& 7 = nI ((a.val + b.val) % 8) ∧ (nI a.val - nI b.val) &&& 7 = nI ((a.val + 8 - b.val) % 8) ∧ (nI a.val * nI b.val) &&& 7 = nI ((a.val * b.val) % 8) ∧ cMin (nI a.val) (nI b.val) = nI (if b.val < a.val then b.val else a.val) := by decide +kernel
  obtain ⟨k1, k2, k3, k4⟩ := key ⟨a, ha⟩ ⟨b, hb⟩
  unfold cAct aAct
  rcases h2 with q | q | q | q
  · rw [if_pos q, if_pos q]; exact k1
  · rw [if_neg (by omega), if_pos q, if_neg (by omega), if_pos q]; exact k2
  · rw [if_neg (by omega), if_neg (by omega), if_pos q, if_neg (by omega), if_neg (by omega), if_pos q]; exact k3
  · rw [if_neg (by omega), if_neg (by omega), if_neg (by omega), if_neg (by omega), if_neg (by omega), if_neg (by omega)]; exact k4
set_option maxHeartbeats 4000000 in
theorem t_take_act (l : Launch) {sg : Nat → Int32} {ln sz : Nat → Nat} {r : List Nat} {rc rr : Nat} (hB : aWB sg ln sz) (h : mH) (hC : CB sg ln sz h) {v pl x k w : Nat} {P : List aF} {K : List (List aF)} {n g u : Nat} {q : List Nat} (hJ : aJ sg sz r (false, 0, v, 0, (pl, x, k, w) :: P, K, n, g, u, q)) (hRC : RC rc h (false, 0, v, 0, (pl, x, k, w) :: P, K, n, g, u, q)) (h2 : aOf (sg pl).toInt = 2) (hw0 : w ≠ 0) : mG l Sh0 iX4_takeUp [.inr 6] h (fun v' h' => v' = none ∧ KP h h' ∧ RO rc h' (aTop sg ln sz r v pl x k w P K n g u q)) := by
  obtain ⟨made, cm, nd, KS, h4, h5, hb, hb2, h9, h12, h13, ⟨h10, h11, h14, h15, h19⟩, hm, hcm, hch, hKS, hseg, hnd, hlt, hmd, hcc⟩ := hRC
  obtain ⟨jx, jb, jP, jK, jn, jg, ju, jq, jc, gs, g1, g2, g3, g4⟩ := hJ
  obtain ⟨i, nd, rfl⟩ : ∃ (i : Nat) (nd' : List Nat), nd = i :: nd' := by
    cases nd with
    | nil => exact hch.elim
    | cons i nd => exact ⟨i, nd, rfl⟩
  obtain ⟨h73, ⟨c, hc, hmk, har, hck⟩, hch2⟩ := hch
  dsimp only at hmk har hck
  have h68 : h 6 8 = nI v := hb2 rfl
  have hi : i < made := hlt i List.mem_cons_self
  have hM : made ≤ 8200 := by omega
  have hcc : cm + 1 ≤ n + 1 := hcc
  have hcc2 : cm ≤ 200 := by omega
  obtain ⟨f1, f2, f3, f4, f5, f6, f7⟩ := jP (pl, x, k, w) List.mem_cons_self
  dsimp only at f1 f2 f3 f4 f5 f6 f7
  have hp8 : pl < 800 := f1.1
  have hsg : h 13 pl = sg pl := hC.1 pl hp8
  have hB9 := hB.2 pl f1
  have hnd1 : i ∉ nd ++ KS.flatten := (List.nodup_cons.mp (by simpa using hnd)).1
  have hnd2 : (nd ++ KS.flatten).Nodup := (List.nodup_cons.mp (by simpa using hnd)).2
  have hlt2 : ∀ j ∈ nd ++ KS.flatten, j < made := fun j hj => hlt j (by rw [List.cons_append]; exact List.mem_cons_of_mem _ hj)
  have h2c := aOf_2 h2
  obtain ⟨w, rfl⟩ : ∃ w', w = w' + 1 := ⟨w - 1, by omega⟩
  have hact := act_eq (s := sg pl) (a := w) (b := v) h2c (by omega) jx
  intro RT hR
  show mE l Sh0 none iX4_takeUp RT 0 [some (.inr 6), none, none] [] h
  refine e_aload_n (i := 0) dX4_takeUp_0 rfl rfl ?_
  refine e_getR (r := 7) dX4_takeUp_1 fl_X4_12 sh_6 fj_6_1 ?_
  refine e_getI (x := nI i) dX4_takeUp_4 fl_X4_115 sh_7 fj_7_3 h73 ?_
  refine e_istore_n (i := 1) (ls2 := [some (.inr 6), some (.inl (nI i)), none]) dX4_takeUp_7 rfl (Nat.le_of_ble_eq_true rfl) rfl ?_
  refine e_iload_n (i := 1) dX4_takeUp_8 rfl rfl ?_
  refine e_iconst (v := (-1)) dX4_takeUp_9 (by decide) ?_
  refine b_icmp_ne (X := ((i : Nat) : Int)) (Y := (-1)) (tgt := 22) (nI_toInt (by omega)) (by decide) dX4_takeUp_10 (by decide) ?_ ?_
  · intro e_10_t c_10_t
    refine e_aload_n (i := 0) dX4_takeUp_22 rfl rfl ?_
    refine e_aload_n (i := 0) dX4_takeUp_23 rfl rfl ?_
    refine e_getR (r := 7) dX4_takeUp_24 fl_X4_12 sh_6 fj_6_1 ?_
    refine e_iload_n (i := 1) dX4_takeUp_27 rfl rfl ?_
    refine e_invVi (As := [.inl (nI i)]) (v := nI pl) (h2 := h) dX4_takeUp_28 lk_X4_118 yv_X5_place rfl rfl rfl (Nat.le_of_ble_eq_true rfl) sh_7 ci_X5 (Nat.le_of_ble_eq_true rfl) ⟨Nat.le_of_ble_eq_true rfl, Nat.le_of_ble_eq_true rfl⟩ (k_T_placeX l h i made hm hi hM hmk hp8 (by omega) (by omega)) ?_
    refine e_putI dX4_takeUp_31 fl_X4_86 fp_X4_6 sh_6 fj_6_6 ?_
    refine e_aload_n (i := 0) dX4_takeUp_34 rfl rfl ?_
    refine e_aload_n (i := 0) dX4_takeUp_35 rfl rfl ?_
    refine e_getR (r := 7) dX4_takeUp_36 fl_X4_12 sh_6 fj_6_1 ?_
    refine e_iload_n (i := 1) dX4_takeUp_39 rfl rfl ?_
    refine e_invVi (As := [.inl (nI i)]) (v := nI c) (h2 := (hs h 6 6 (nI pl))) dX4_takeUp_40 lk_X4_120 yv_X5_call rfl rfl rfl (Nat.le_of_ble_eq_true rfl) sh_7 ci_X5 (Nat.le_of_ble_eq_true rfl) ⟨Nat.le_of_ble_eq_true rfl, Nat.le_of_ble_eq_true rfl⟩ (k_T_callX l (hs h 6 6 (nI pl)) i made hm hi hM hmk hp8 (by omega) (by omega)) ?_
    refine e_putI dX4_takeUp_43 fl_X4_83 fp_X4_7 sh_6 fj_6_7 ?_
    refine e_aload_n (i := 0) dX4_takeUp_46 rfl rfl ?_
    refine e_getR (r := 2) dX4_takeUp_47 fl_X4_29 sh_6 fj_6_0 ?_
    refine e_aload_n (i := 0) dX4_takeUp_50 rfl rfl ?_
    refine e_getI (x := nI pl) dX4_takeUp_51 fl_X4_86 sh_6 fj_6_6 rfl ?_
    refine e_invVi (As := [.inl (nI pl)]) (v := sg pl) (h2 := (hs (hs h 6 6 (nI pl)) 6 7 (nI c))) dX4_takeUp_54 lk_X4_92 yv_X0_sign rfl rfl rfl (Nat.le_of_ble_eq_true rfl) sh_2 ci_X0 (Nat.le_of_ble_eq_true rfl) ⟨Nat.le_of_ble_eq_true rfl, Nat.le_of_ble_eq_true rfl⟩ (k_B_signX l (hs (hs h 6 6 (nI pl)) 6 7 (nI c)) pl hp8 hsg) ?_
    refine e_istore_n (i := 2) (ls2 := [some (.inr 6), some (.inl (nI i)), some (.inl (sg pl))]) dX4_takeUp_57 rfl (Nat.le_of_ble_eq_true rfl) rfl ?_
    refine e_iload_n (i := 2) dX4_takeUp_58 rfl rfl ?_
    refine e_invSi (As := [.inl (sg pl)]) (v := aI (sg pl).toInt) (h2 := (hs (hs h 6 6 (nI pl)) 6 7 (nI c))) dX4_takeUp_59 lk_X4_105 ys_X7_textsOf rfl rfl rfl (Nat.le_of_ble_eq_true rfl) (Nat.le_of_ble_eq_true rfl) ⟨Nat.le_of_ble_eq_true rfl, Nat.le_of_ble_eq_true rfl⟩ (k_textsOf l (hs (hs h 6 6 (nI pl)) 6 7 (nI c)) (sg pl)) ?_
    refine e_iconst (v := 2) dX4_takeUp_62 (by decide) ?_
    refine b_icmp_ne (X := aOf (sg pl).toInt) (Y := 2) (tgt := 118) (aI_toInt _) (by decide) dX4_takeUp_63 (by decide) ?_ ?_
    · intro e_63_t c_63_t
      exfalso; omega
    · intro e_63_f c_63_f
      refine e_aload_n (i := 0) dX4_takeUp_66 rfl rfl ?_
      refine e_getR (r := 7) dX4_takeUp_67 fl_X4_12 sh_6 fj_6_1 ?_
      refine e_iload_n (i := 1) dX4_takeUp_70 rfl rfl ?_
      refine e_invVi (As := [.inl (nI i)]) (v := nI w) (h2 := (hs (hs h 6 6 (nI pl)) 6 7 (nI c))) dX4_takeUp_71 lk_X4_122 yv_X5_held rfl rfl rfl (Nat.le_of_ble_eq_true rfl) sh_7 ci_X5 (Nat.le_of_ble_eq_true rfl) ⟨Nat.le_of_ble_eq_true rfl, Nat.le_of_ble_eq_true rfl⟩ ((dn_s w) ▸ k_T_heldX l (hs (hs h 6 6 (nI pl)) 6 7 (nI c)) i made hm hi hM hmk hp8 (by omega) (by omega)) ?_
      refine e_iconst (v := (-1)) dX4_takeUp_74 (by decide) ?_
      refine b_icmp_ne (X := ((w : Nat) : Int)) (Y := (-1)) (tgt := 118) (nI_toInt (by omega)) (by decide) dX4_takeUp_75 (by decide) ?_ ?_
      · intro e_75_t c_75_t
        refine e_aload_n (i := 0) dX4_takeUp_118 rfl rfl ?_
        refine e_getR (r := 7) dX4_takeUp_119 fl_X4_12 sh_6 fj_6_1 ?_
        refine e_aload_n (i := 0) dX4_takeUp_122 rfl rfl ?_
        refine e_getR (r := 7) dX4_takeUp_123 fl_X4_12 sh_6 fj_6_1 ?_
        refine e_iload_n (i := 1) dX4_takeUp_126 rfl rfl ?_
        refine e_invVi (As := [.inl (nI i)]) (v := h 21 i) (h2 := (hs (hs h 6 6 (nI pl)) 6 7 (nI c))) dX4_takeUp_127 lk_X4_132 yv_X5_below rfl rfl rfl (Nat.le_of_ble_eq_true rfl) sh_7 ci_X5 (Nat.le_of_ble_eq_true rfl) ⟨Nat.le_of_ble_eq_true rfl, Nat.le_of_ble_eq_true rfl⟩ (k_T_belowX l (hs (hs h 6 6 (nI pl)) 6 7 (nI c)) i made hm hi hM rfl) ?_
        refine e_putI dX4_takeUp_130 fl_X4_115 fp_X5_3 sh_7 fj_7_3 ?_
        refine e_iload_n (i := 2) dX4_takeUp_133 rfl rfl ?_
        by_cases sk_134_63 : sg pl = 63
        · have skt_134_63 : (sg pl).toInt = 63 := by rw [sk_134_63]; decide
          exfalso; omega
        have skf_134_63 : ¬ (sg pl).toInt = 63 := fun z => sk_134_63 (Int32.toInt_inj.mp (by rw [z]; decide))
        by_cases sk_134_64 : sg pl = 64
        · have skt_134_64 : (sg pl).toInt = 64 := by rw [sk_134_64]; decide
          exfalso; omega
        have skf_134_64 : ¬ (sg pl).toInt = 64 := fun z => sk_134_64 (Int32.toInt_inj.mp (by rw [z]; decide))
        by_cases sk_134_107 : sg pl = 107
        · have skt_134_107 : (sg pl).toInt = 107 := by rw [sk_134_107]; decide
          exfalso; omega
        have skf_134_107 : ¬ (sg pl).toInt = 107 := fun z => sk_134_107 (Int32.toInt_inj.mp (by rw [z]; decide))
        by_cases sk_134_112 : sg pl = 112
        · have skt_134_112 : (sg pl).toInt = 112 := by rw [sk_134_112]; decide
          exfalso; omega
        have skf_134_112 : ¬ (sg pl).toInt = 112 := fun z => sk_134_112 (Int32.toInt_inj.mp (by rw [z]; decide))
        by_cases sk_134_113 : sg pl = 113
        · have skt_134_113 : (sg pl).toInt = 113 := by rw [sk_134_113]; decide
          exfalso; omega
        have skf_134_113 : ¬ (sg pl).toInt = 113 := fun z => sk_134_113 (Int32.toInt_inj.mp (by rw [z]; decide))
        by_cases sk_134_114 : sg pl = 114
        · have skt_134_114 : (sg pl).toInt = 114 := by rw [sk_134_114]; decide
          exfalso; omega
        have skf_134_114 : ¬ (sg pl).toInt = 114 := fun z => sk_134_114 (Int32.toInt_inj.mp (by rw [z]; decide))
        refine e_lookup (off := 109) (tgt := 243) dX4_takeUp_134 (by decide) (by rw [lv_osw sk_134_63 (by decide), lv_osw sk_134_64 (by decide), lv_osw sk_134_107 (by decide), lv_osw sk_134_112 (by decide), lv_osw sk_134_113 (by decide), lv_osw sk_134_114 (by decide)]; rfl) (by decide) ?_
        refine e_aload_n (i := 0) dX4_takeUp_243 rfl rfl ?_
        refine e_iload_n (i := 2) dX4_takeUp_244 rfl rfl ?_
        refine e_aload_n (i := 0) dX4_takeUp_245 rfl rfl ?_
        refine e_getR (r := 7) dX4_takeUp_246 fl_X4_12 sh_6 fj_6_1 ?_
        refine e_iload_n (i := 1) dX4_takeUp_249 rfl rfl ?_
        refine e_invVi (As := [.inl (nI i)]) (v := nI w) (h2 := (hs (hs (hs h 6 6 (nI pl)) 6 7 (nI c)) 7 3 (h 21 i))) dX4_takeUp_250 lk_X4_122 yv_X5_held rfl rfl rfl (Nat.le_of_ble_eq_true rfl) sh_7 ci_X5 (Nat.le_of_ble_eq_true rfl) ⟨Nat.le_of_ble_eq_true rfl, Nat.le_of_ble_eq_true rfl⟩ ((dn_s w) ▸ k_T_heldX l (hs (hs (hs h 6 6 (nI pl)) 6 7 (nI c)) 7 3 (h 21 i)) i made hm hi hM hmk hp8 (by omega) (by omega)) ?_
        refine e_aload_n (i := 0) dX4_takeUp_253 rfl rfl ?_
        refine e_getI (x := nI v) dX4_takeUp_254 fl_X4_89 sh_6 fj_6_8 h68 ?_
        refine e_invSi (As := [.inl (sg pl), .inl (nI w), .inl (nI v)]) (v := nI (aAct (sg pl).toInt w v)) (h2 := (hs (hs (hs h 6 6 (nI pl)) 6 7 (nI c)) 7 3 (h 21 i))) dX4_takeUp_257 lk_X4_153 ys_X4_act rfl rfl rfl (Nat.le_of_ble_eq_true rfl) (Nat.le_of_ble_eq_true rfl) ⟨Nat.le_of_ble_eq_true rfl, Nat.le_of_ble_eq_true rfl⟩ (hact ▸ k_X_act l (hs (hs (hs h 6 6 (nI pl)) 6 7 (nI c)) 7 3 (h 21 i)) (sg pl) (nI w) (nI v)) ?_
        refine e_invVv (As := [.inl (nI (aAct (sg pl).toInt w v))]) (h2 := (hs (hs (hs (hs (hs h 6 6 (nI pl)) 6 7 (nI c)) 7 3 (h 21 i)) 6 8 (nI (aAct (sg pl).toInt w v))) 6 5 0)) (ty := .int) (v := 0) dX4_takeUp_260 lk_X4_101 yv_X4_give rfl rfl rfl (Nat.le_of_ble_eq_true rfl) sh_6 ci_X4 (Nat.le_of_ble_eq_true rfl) ⟨Nat.le_of_ble_eq_true rfl, Nat.le_of_ble_eq_true rfl⟩ (k_X_give l (hs (hs (hs h 6 6 (nI pl)) 6 7 (nI c)) 7 3 (h 21 i)) (nI (aAct (sg pl).toInt w v))) ?_
        refine e_ret dX4_takeUp_263 rfl ?_
        have e : aTop sg ln sz r v pl x k (w + 1) P K n g u q = .inl (false, 0, aAct (sg pl).toInt w v, 0, P, K, n, g, u, q) := by unfold aTop; rw [if_neg (by omega), if_neg (by omega), if_neg (by omega), if_neg (by omega), if_neg (by omega)]; rfl
        rw [e] at hR
        exact hR _ _ ⟨rfl, (((((KP.refl h).hs (by omega)).hs (by omega)).hs (by omega)).hs (by omega)).hs (by omega), made, cm, nd, KS, h4, rfl, fun z => (by cases z), fun _ => rfl, h9, h12, h13, ⟨h10, h11, h14, h15, h19⟩, hm, hcm, chn_same (h := h) (h' := (hs (hs (hs (hs (hs h 6 6 (nI pl)) 6 7 (nI c)) 7 3 (h 21 i)) 6 8 (nI (aAct (sg pl).toInt w v))) 6 5 0)) rfl rfl rfl rfl rfl hch2, hKS, fun j nj L z1 z2 => (hseg j nj L z1 z2).imp (fun _ z => z.imp (fun _ z => chn_same (h := h) (h' := (hs (hs (hs (hs (hs h 6 6 (nI pl)) 6 7 (nI c)) 7 3 (h 21 i)) 6 8 (nI (aAct (sg pl).toInt w v))) 6 5 0)) rfl rfl rfl rfl rfl z)), hnd2, hlt2, hmd, hcc⟩
      · intro e_75_f c_75_f
        exfalso; omega
  · intro e_10_f c_10_f
    exfalso; omega
end
section
/-! The class's turns: back, going on, asking. -/
theorem ent_lt (h : mH) {m j : Nat} (p a b c : Int32) (hj : j < m) : entH h m p a b c 22 j = h 22 j ∧ entH h m p a b c 23 j = h 23 j ∧ entH h m p a b c 24 j = h 24 j := by
  refine ⟨?_, ?_, ?_⟩
  · show hs h 22 m a 22 j = _
    exact hs_ne _ _ (by omega)
  · show hs (hs h 22 m a) 23 m b 23 j = _
    exact hs_ne _ _ (by omega)
  · show hs (hs (hs h 22 m a) 23 m b) 24 m c 24 j = _
    exact hs_ne _ _ (by omega)
theorem ent_at (h : mH) (m : Nat) (p a b c : Int32) : entH h m p a b c 22 m = a ∧ entH h m p a b c 23 m = b ∧ entH h m p a b c 24 m = c := by
  refine ⟨?_, ?_, ?_⟩
  · show hs h 22 m a 22 m = _
    exact hs_at _ _ _ _
  · show hs (hs h 22 m a) 23 m b 23 m = _
    exact hs_at _ _ _ _
  · show hs (hs (hs h 22 m a) 23 m b) 24 m c 24 m = _
    exact hs_at _ _ _ _
theorem nodup_mem : ∀ {KS : List (List Nat)} {nk : List Nat}, KS.flatten.Nodup → nk ∈ KS → nk.Nodup
  | [], _, _, h => by cases h
  | a :: KS, nk, hn, h => by
    rw [List.flatten_cons, List.nodup_append] at hn
    rcases List.mem_cons.mp h with rfl | h
    · exact hn.1
    · exact nodup_mem hn.2.1 h
theorem nI_page (a : Nat) : nI a * 40 = nI (40 * a) := by rw [nI_mulc, Nat.mul_comm]
set_option maxHeartbeats 4000000 in
theorem t_take_back1 (l : Launch) {sg : Nat → Int32} {ln sz : Nat → Nat} {r : List Nat} {rc rr : Nat} (hB : aWB sg ln sz) (h : mH) (hC : CB sg ln sz h) {v pl x k w : Nat} {P : List aF} {K : List (List aF)} {n g u : Nat} {q : List Nat} (hJ : aJ sg sz r (false, 0, v, 0, (pl, x, k, w) :: P, K, n, g, u, q)) (hRC : RC rc h (false, 0, v, 0, (pl, x, k, w) :: P, K, n, g, u, q)) (h64 : (sg pl).toInt = 64) (hz : 0 < sz (4 + 4 * aHd sg pl + 3)) : mG l Sh0 iX4_takeUp [.inr 6] h (fun v' h' => v' = none ∧ KP h h' ∧ RO rc h' (aTop sg ln sz r v pl x k w P K n g u q)) := by
  obtain ⟨made, cm, nd, KS, h4, h5, hb, hb2, h9, h12, h13, ⟨h10, h11, h14, h15, h19⟩, hm, hcm, hch, hKS, hseg, hnd, hlt, hmd, hcc⟩ := hRC
  obtain ⟨jx, jb, jP, jK, jn, jg, ju, jq, jc, gs, g1, g2, g3, g4⟩ := hJ
  obtain ⟨i, nd, rfl⟩ : ∃ (i : Nat) (nd' : List Nat), nd = i :: nd' := by
    cases nd with
    | nil => exact hch.elim
    | cons i nd => exact ⟨i, nd, rfl⟩
  obtain ⟨h73, ⟨c, hc, hmk, har, hck⟩, hch2⟩ := hch
  dsimp only at hmk har hck
  have h68 : h 6 8 = nI v := hb2 rfl
  have hi : i < made := hlt i List.mem_cons_self
  have hM : made ≤ 8200 := by omega
  have hcc : cm + 1 ≤ n + 1 := hcc
  have hcc2 : cm ≤ 200 := by omega
  obtain ⟨f1, f2, f3, f4, f5, f6, f7⟩ := jP (pl, x, k, w) List.mem_cons_self
  dsimp only at f1 f2 f3 f4 f5 f6 f7
  have hp8 : pl < 800 := f1.1
  have hsg : h 13 pl = sg pl := hC.1 pl hp8
  have hB9 := hB.2 pl f1
  have hnd1 : i ∉ nd ++ KS.flatten := (List.nodup_cons.mp (by simpa using hnd)).1
  have hnd2 : (nd ++ KS.flatten).Nodup := (List.nodup_cons.mp (by simpa using hnd)).2
  have hlt2 : ∀ j ∈ nd ++ KS.flatten, j < made := fun j hj => hlt j (by rw [List.cons_append]; exact List.mem_cons_of_mem _ hj)
  have h9b := hB9.2.2.2.2.2.2.2.2.1 h64
  have hh : aHd sg pl < 4 := by unfold aHd; omega
  have hsz : h 15 (4 + 4 * aHd sg pl + 3) = nI (sz (4 + 4 * aHd sg pl + 3)) := hC.2.1 _ (by omega)
  have hsz2 := hB.1 (4 + 4 * aHd sg pl + 3) (by omega)
  have h1 : aOf (sg pl).toInt = 1 := by rw [h64]; exact aOf_64
  intro RT hR
  show mE l Sh0 none iX4_takeUp RT 0 [some (.inr 6), none, none] [] h
  refine e_aload_n (i := 0) dX4_takeUp_0 rfl rfl ?_
  refine e_getR (r := 7) dX4_takeUp_1 fl_X4_12 sh_6 fj_6_1 ?_
  refine e_getI (x := nI i) dX4_takeUp_4 fl_X4_115 sh_7 fj_7_3 h73 ?_
  refine e_istore_n (i := 1) (ls2 := [some (.inr 6), some (.inl (nI i)), none]) dX4_takeUp_7 rfl (Nat.le_of_ble_eq_true rfl) rfl ?_
  refine e_iload_n (i := 1) dX4_takeUp_8 rfl rfl ?_
  refine e_iconst (v := (-1)) dX4_takeUp_9 (by decide) ?_
  refine b_icmp_ne (X := ((i : Nat) : Int)) (Y := (-1)) (tgt := 22) (nI_toInt (by omega)) (by decide) dX4_takeUp_10 (by decide) ?_ ?_
  · intro e_10_t c_10_t
    refine e_aload_n (i := 0) dX4_takeUp_22 rfl rfl ?_
    refine e_aload_n (i := 0) dX4_takeUp_23 rfl rfl ?_
    refine e_getR (r := 7) dX4_takeUp_24 fl_X4_12 sh_6 fj_6_1 ?_
    refine e_iload_n (i := 1) dX4_takeUp_27 rfl rfl ?_
    refine e_invVi (As := [.inl (nI i)]) (v := nI pl) (h2 := h) dX4_takeUp_28 lk_X4_118 yv_X5_place rfl rfl rfl (Nat.le_of_ble_eq_true rfl) sh_7 ci_X5 (Nat.le_of_ble_eq_true rfl) ⟨Nat.le_of_ble_eq_true rfl, Nat.le_of_ble_eq_true rfl⟩ (k_T_placeX l h i made hm hi hM hmk hp8 (by omega) (by omega)) ?_
    refine e_putI dX4_takeUp_31 fl_X4_86 fp_X4_6 sh_6 fj_6_6 ?_
    refine e_aload_n (i := 0) dX4_takeUp_34 rfl rfl ?_
    refine e_aload_n (i := 0) dX4_takeUp_35 rfl rfl ?_
    refine e_getR (r := 7) dX4_takeUp_36 fl_X4_12 sh_6 fj_6_1 ?_
    refine e_iload_n (i := 1) dX4_takeUp_39 rfl rfl ?_
    refine e_invVi (As := [.inl (nI i)]) (v := nI c) (h2 := (hs h 6 6 (nI pl))) dX4_takeUp_40 lk_X4_120 yv_X5_call rfl rfl rfl (Nat.le_of_ble_eq_true rfl) sh_7 ci_X5 (Nat.le_of_ble_eq_true rfl) ⟨Nat.le_of_ble_eq_true rfl, Nat.le_of_ble_eq_true rfl⟩ (k_T_callX l (hs h 6 6 (nI pl)) i made hm hi hM hmk hp8 (by omega) (by omega)) ?_
    refine e_putI dX4_takeUp_43 fl_X4_83 fp_X4_7 sh_6 fj_6_7 ?_
    refine e_aload_n (i := 0) dX4_takeUp_46 rfl rfl ?_
    refine e_getR (r := 2) dX4_takeUp_47 fl_X4_29 sh_6 fj_6_0 ?_
    refine e_aload_n (i := 0) dX4_takeUp_50 rfl rfl ?_
    refine e_getI (x := nI pl) dX4_takeUp_51 fl_X4_86 sh_6 fj_6_6 rfl ?_
    refine e_invVi (As := [.inl (nI pl)]) (v := sg pl) (h2 := (hs (hs h 6 6 (nI pl)) 6 7 (nI c))) dX4_takeUp_54 lk_X4_92 yv_X0_sign rfl rfl rfl (Nat.le_of_ble_eq_true rfl) sh_2 ci_X0 (Nat.le_of_ble_eq_true rfl) ⟨Nat.le_of_ble_eq_true rfl, Nat.le_of_ble_eq_true rfl⟩ (k_B_signX l (hs (hs h 6 6 (nI pl)) 6 7 (nI c)) pl hp8 hsg) ?_
    refine e_istore_n (i := 2) (ls2 := [some (.inr 6), some (.inl (nI i)), some (.inl (sg pl))]) dX4_takeUp_57 rfl (Nat.le_of_ble_eq_true rfl) rfl ?_
    refine e_iload_n (i := 2) dX4_takeUp_58 rfl rfl ?_
    refine e_invSi (As := [.inl (sg pl)]) (v := aI (sg pl).toInt) (h2 := (hs (hs h 6 6 (nI pl)) 6 7 (nI c))) dX4_takeUp_59 lk_X4_105 ys_X7_textsOf rfl rfl rfl (Nat.le_of_ble_eq_true rfl) (Nat.le_of_ble_eq_true rfl) ⟨Nat.le_of_ble_eq_true rfl, Nat.le_of_ble_eq_true rfl⟩ (k_textsOf l (hs (hs h 6 6 (nI pl)) 6 7 (nI c)) (sg pl)) ?_
    refine e_iconst (v := 2) dX4_takeUp_62 (by decide) ?_
    refine b_icmp_ne (X := aOf (sg pl).toInt) (Y := 2) (tgt := 118) (aI_toInt _) (by decide) dX4_takeUp_63 (by decide) ?_ ?_
    · intro e_63_t c_63_t
      refine e_aload_n (i := 0) dX4_takeUp_118 rfl rfl ?_
      refine e_getR (r := 7) dX4_takeUp_119 fl_X4_12 sh_6 fj_6_1 ?_
      refine e_aload_n (i := 0) dX4_takeUp_122 rfl rfl ?_
      refine e_getR (r := 7) dX4_takeUp_123 fl_X4_12 sh_6 fj_6_1 ?_
      refine e_iload_n (i := 1) dX4_takeUp_126 rfl rfl ?_
      refine e_invVi (As := [.inl (nI i)]) (v := h 21 i) (h2 := (hs (hs h 6 6 (nI pl)) 6 7 (nI c))) dX4_takeUp_127 lk_X4_132 yv_X5_below rfl rfl rfl (Nat.le_of_ble_eq_true rfl) sh_7 ci_X5 (Nat.le_of_ble_eq_true rfl) ⟨Nat.le_of_ble_eq_true rfl, Nat.le_of_ble_eq_true rfl⟩ (k_T_belowX l (hs (hs h 6 6 (nI pl)) 6 7 (nI c)) i made hm hi hM rfl) ?_
      refine e_putI dX4_takeUp_130 fl_X4_115 fp_X5_3 sh_7 fj_7_3 ?_
      refine e_iload_n (i := 2) dX4_takeUp_133 rfl rfl ?_
      by_cases sk_134_63 : sg pl = 63
      · have skt_134_63 : (sg pl).toInt = 63 := by rw [sk_134_63]; decide
        exfalso; omega
      have skf_134_63 : ¬ (sg pl).toInt = 63 := fun z => sk_134_63 (Int32.toInt_inj.mp (by rw [z]; decide))
      by_cases sk_134_64 : sg pl = 64
      · have skt_134_64 : (sg pl).toInt = 64 := by rw [sk_134_64]; decide
        refine e_lookup (off := 65) (tgt := 199) dX4_takeUp_134 (by decide) (by rw [sk_134_64]; decide) (by decide) ?_
        refine e_aload_n (i := 0) dX4_takeUp_199 rfl rfl ?_
        refine e_aload_n (i := 0) dX4_takeUp_200 rfl rfl ?_
        refine e_getR (r := 2) dX4_takeUp_201 fl_X4_29 sh_6 fj_6_0 ?_
        refine e_aload_n (i := 0) dX4_takeUp_204 rfl rfl ?_
        refine e_getI (x := nI pl) dX4_takeUp_205 fl_X4_86 sh_6 fj_6_6 rfl ?_
        refine e_invVi (As := [.inl (nI pl)]) (v := nI (aHd sg pl)) (h2 := (hs (hs (hs h 6 6 (nI pl)) 6 7 (nI c)) 7 3 (h 21 i))) dX4_takeUp_208 lk_X4_138 yv_X0_hand rfl rfl rfl (Nat.le_of_ble_eq_true rfl) sh_2 ci_X0 (Nat.le_of_ble_eq_true rfl) ⟨Nat.le_of_ble_eq_true rfl, Nat.le_of_ble_eq_true rfl⟩ (k_B_handX l (hs (hs (hs h 6 6 (nI pl)) 6 7 (nI c)) 7 3 (h 21 i)) sg pl h9b.2.2 hsg (hC.1 _ h9b.2.2) h64 h9b.1) ?_
        refine e_invVv (As := [.inl (nI (aHd sg pl))]) (h2 := (entH (hs (hs (hs h 6 6 (nI pl)) 6 7 (nI c)) 7 3 (h 21 i)) cm (nI (4 + 4 * aHd sg pl + 3)) (nI v) (-1) (-1))) (ty := .int) (v := 0) dX4_takeUp_211 lk_X4_141 yv_X4_comeBack rfl rfl rfl (Nat.le_of_ble_eq_true rfl) sh_6 ci_X4 (Nat.le_of_ble_eq_true rfl) ⟨Nat.le_of_ble_eq_true rfl, Nat.le_of_ble_eq_true rfl⟩ (k_X_back1 l (hs (hs (hs h 6 6 (nI pl)) 6 7 (nI c)) 7 3 (h 21 i)) (aHd sg pl) v _ cm hh h68 hsz hsz2 hcm (by omega) hz) ?_
        refine e_goto (tgt := 263) dX4_takeUp_214 (by decide) ?_
        refine e_ret dX4_takeUp_263 rfl ?_
        have e : aTop sg ln sz r v pl x k w P K n g u q = .inl (true, 40 * (4 + 4 * aHd sg pl + 3), v, 0, P, K, n, g, u, q) := by unfold aTop; rw [if_neg (by omega), if_neg (by omega), if_pos h64, if_pos hz]
        rw [e] at hR
        have hext : ∀ {nd : List Nat} {P : List aF} {t e : Int32}, chn h KS cm nd P t e → chn (entH (hs (hs (hs h 6 6 (nI pl)) 6 7 (nI c)) 7 3 (h 21 i)) cm (nI (4 + 4 * aHd sg pl + 3)) (nI v) (-1) (-1)) KS (cm + 1) nd P t e := by
          intro nd P t e hq
          have z := chn_ext (h := h) (h' := (entH (hs (hs (hs h 6 6 (nI pl)) 6 7 (nI c)) 7 3 (h 21 i)) cm (nI (4 + 4 * aHd sg pl + 3)) (nI v) (-1) (-1))) (Z := []) (Nat.le_succ cm) (fun c hc => ent_lt (hs (hs (hs h 6 6 (nI pl)) 6 7 (nI c)) 7 3 (h 21 i)) _ _ _ _ hc) (fun j hj => ⟨rfl, rfl⟩) hq
          rwa [List.append_nil] at z
        exact hR _ _ ⟨rfl, ((((KP.refl h).hs (by omega)).hs (by omega)).hs (by omega)).ent, made, cm + 1, nd, KS, h4, rfl, fun _ => ⟨nI_page _, cm, rfl, Nat.lt_succ_self _, (ent_at (hs (hs (hs h 6 6 (nI pl)) 6 7 (nI c)) 7 3 (h 21 i)) cm _ _ _ _).1, Or.inl rfl⟩, fun z => (by cases z), h9, h12, h13, ⟨h10, h11, h14, h15, h19⟩, hm, rfl, hext hch2, hKS, fun j nj L z1 z2 => (hseg j nj L z1 z2).imp (fun _ z => z.imp (fun _ z => hext z)), hnd2, hlt2, hmd, by show cm + 1 + 0 ≤ n + 1; omega⟩
      have skf_134_64 : ¬ (sg pl).toInt = 64 := fun z => sk_134_64 (Int32.toInt_inj.mp (by rw [z]; decide))
      by_cases sk_134_107 : sg pl = 107
      · have skt_134_107 : (sg pl).toInt = 107 := by rw [sk_134_107]; decide
        exfalso; omega
      have skf_134_107 : ¬ (sg pl).toInt = 107 := fun z => sk_134_107 (Int32.toInt_inj.mp (by rw [z]; decide))
      by_cases sk_134_112 : sg pl = 112
      · have skt_134_112 : (sg pl).toInt = 112 := by rw [sk_134_112]; decide
        exfalso; omega
      have skf_134_112 : ¬ (sg pl).toInt = 112 := fun z => sk_134_112 (Int32.toInt_inj.mp (by rw [z]; decide))
      by_cases sk_134_113 : sg pl = 113
      · have skt_134_113 : (sg pl).toInt = 113 := by rw [sk_134_113]; decide
        exfalso; omega
      have skf_134_113 : ¬ (sg pl).toInt = 113 := fun z => sk_134_113 (Int32.toInt_inj.mp (by rw [z]; decide))
      by_cases sk_134_114 : sg pl = 114
      · have skt_134_114 : (sg pl).toInt = 114 := by rw [sk_134_114]; decide
        exfalso; omega
      have skf_134_114 : ¬ (sg pl).toInt = 114 := fun z => sk_134_114 (Int32.toInt_inj.mp (by rw [z]; decide))
      exfalso; omega
    · intro e_63_f c_63_f
      exfalso; omega
  · intro e_10_f c_10_f
    exfalso; omega
set_option maxHeartbeats 4000000 in
theorem t_take_back0 (l : Launch) {sg : Nat → Int32} {ln sz : Nat → Nat} {r : List Nat} {rc rr : Nat} (hB : aWB sg ln sz) (h : mH) (hC : CB sg ln sz h) {v pl x k w : Nat} {P : List aF} {K : List (List aF)} {n g u : Nat} {q : List Nat} (hJ : aJ sg sz r (false, 0, v, 0, (pl, x, k, w) :: P, K, n, g, u, q)) (hRC : RC rc h (false, 0, v, 0, (pl, x, k, w) :: P, K, n, g, u, q)) (h64 : (sg pl).toInt = 64) (hz : sz (4 + 4 * aHd sg pl + 3) = 0) : mG l Sh0 iX4_takeUp [.inr 6] h (fun v' h' => v' = none ∧ KP h h' ∧ RO rc h' (aTop sg ln sz r v pl x k w P K n g u q)) := by
  obtain ⟨made, cm, nd, KS, h4, h5, hb, hb2, h9, h12, h13, ⟨h10, h11, h14, h15, h19⟩, hm, hcm, hch, hKS, hseg, hnd, hlt, hmd, hcc⟩ := hRC
  obtain ⟨jx, jb, jP, jK, jn, jg, ju, jq, jc, gs, g1, g2, g3, g4⟩ := hJ
  obtain ⟨i, nd, rfl⟩ : ∃ (i : Nat) (nd' : List Nat), nd = i :: nd' := by
    cases nd with
    | nil => exact hch.elim
    | cons i nd => exact ⟨i, nd, rfl⟩
  obtain ⟨h73, ⟨c, hc, hmk, har, hck⟩, hch2⟩ := hch
  dsimp only at hmk har hck
  have h68 : h 6 8 = nI v := hb2 rfl
  have hi : i < made := hlt i List.mem_cons_self
  have hM : made ≤ 8200 := by omega
  have hcc : cm + 1 ≤ n + 1 := hcc
  have hcc2 : cm ≤ 200 := by omega
  obtain ⟨f1, f2, f3, f4, f5, f6, f7⟩ := jP (pl, x, k, w) List.mem_cons_self
  dsimp only at f1 f2 f3 f4 f5 f6 f7
  have hp8 : pl < 800 := f1.1
  have hsg : h 13 pl = sg pl := hC.1 pl hp8
  have hB9 := hB.2 pl f1
  have hnd1 : i ∉ nd ++ KS.flatten := (List.nodup_cons.mp (by simpa using hnd)).1
  have hnd2 : (nd ++ KS.flatten).Nodup := (List.nodup_cons.mp (by simpa using hnd)).2
  have hlt2 : ∀ j ∈ nd ++ KS.flatten, j < made := fun j hj => hlt j (by rw [List.cons_append]; exact List.mem_cons_of_mem _ hj)
  have h9b := hB9.2.2.2.2.2.2.2.2.1 h64
  have hh : aHd sg pl < 4 := by unfold aHd; omega
  have hsz : h 15 (4 + 4 * aHd sg pl + 3) = nI (sz (4 + 4 * aHd sg pl + 3)) := hC.2.1 _ (by omega)
  have hsz2 := hB.1 (4 + 4 * aHd sg pl + 3) (by omega)
  have h1 : aOf (sg pl).toInt = 1 := by rw [h64]; exact aOf_64
  intro RT hR
  show mE l Sh0 none iX4_takeUp RT 0 [some (.inr 6), none, none] [] h
  refine e_aload_n (i := 0) dX4_takeUp_0 rfl rfl ?_
  refine e_getR (r := 7) dX4_takeUp_1 fl_X4_12 sh_6 fj_6_1 ?_
  refine e_getI (x := nI i) dX4_takeUp_4 fl_X4_115 sh_7 fj_7_3 h73 ?_
  refine e_istore_n (i := 1) (ls2 := [some (.inr 6), some (.inl (nI i)), none]) dX4_takeUp_7 rfl (Nat.le_of_ble_eq_true rfl) rfl ?_
  refine e_iload_n (i := 1) dX4_takeUp_8 rfl rfl ?_
  refine e_iconst (v := (-1)) dX4_takeUp_9 (by decide) ?_
  refine b_icmp_ne (X := ((i : Nat) : Int)) (Y := (-1)) (tgt := 22) (nI_toInt (by omega)) (by decide) dX4_takeUp_10 (by decide) ?_ ?_
  · intro e_10_t c_10_t
    refine e_aload_n (i := 0) dX4_takeUp_22 rfl rfl ?_
    refine e_aload_n (i := 0) dX4_takeUp_23 rfl rfl ?_
    refine e_getR (r := 7) dX4_takeUp_24 fl_X4_12 sh_6 fj_6_1 ?_
    refine e_iload_n (i := 1) dX4_takeUp_27 rfl rfl ?_
    refine e_invVi (As := [.inl (nI i)]) (v := nI pl) (h2 := h) dX4_takeUp_28 lk_X4_118 yv_X5_place rfl rfl rfl (Nat.le_of_ble_eq_true rfl) sh_7 ci_X5 (Nat.le_of_ble_eq_true rfl) ⟨Nat.le_of_ble_eq_true rfl, Nat.le_of_ble_eq_true rfl⟩ (k_T_placeX l h i made hm hi hM hmk hp8 (by omega) (by omega)) ?_
    refine e_putI dX4_takeUp_31 fl_X4_86 fp_X4_6 sh_6 fj_6_6 ?_
    refine e_aload_n (i := 0) dX4_takeUp_34 rfl rfl ?_
    refine e_aload_n (i := 0) dX4_takeUp_35 rfl rfl ?_
    refine e_getR (r := 7) dX4_takeUp_36 fl_X4_12 sh_6 fj_6_1 ?_
    refine e_iload_n (i := 1) dX4_takeUp_39 rfl rfl ?_
    refine e_invVi (As := [.inl (nI i)]) (v := nI c) (h2 := (hs h 6 6 (nI pl))) dX4_takeUp_40 lk_X4_120 yv_X5_call rfl rfl rfl (Nat.le_of_ble_eq_true rfl) sh_7 ci_X5 (Nat.le_of_ble_eq_true rfl) ⟨Nat.le_of_ble_eq_true rfl, Nat.le_of_ble_eq_true rfl⟩ (k_T_callX l (hs h 6 6 (nI pl)) i made hm hi hM hmk hp8 (by omega) (by omega)) ?_
    refine e_putI dX4_takeUp_43 fl_X4_83 fp_X4_7 sh_6 fj_6_7 ?_
    refine e_aload_n (i := 0) dX4_takeUp_46 rfl rfl ?_
    refine e_getR (r := 2) dX4_takeUp_47 fl_X4_29 sh_6 fj_6_0 ?_
    refine e_aload_n (i := 0) dX4_takeUp_50 rfl rfl ?_
    refine e_getI (x := nI pl) dX4_takeUp_51 fl_X4_86 sh_6 fj_6_6 rfl ?_
    refine e_invVi (As := [.inl (nI pl)]) (v := sg pl) (h2 := (hs (hs h 6 6 (nI pl)) 6 7 (nI c))) dX4_takeUp_54 lk_X4_92 yv_X0_sign rfl rfl rfl (Nat.le_of_ble_eq_true rfl) sh_2 ci_X0 (Nat.le_of_ble_eq_true rfl) ⟨Nat.le_of_ble_eq_true rfl, Nat.le_of_ble_eq_true rfl⟩ (k_B_signX l (hs (hs h 6 6 (nI pl)) 6 7 (nI c)) pl hp8 hsg) ?_
    refine e_istore_n (i := 2) (ls2 := [some (.inr 6), some (.inl (nI i)), some (.inl (sg pl))]) dX4_takeUp_57 rfl (Nat.le_of_ble_eq_true rfl) rfl ?_
    refine e_iload_n (i := 2) dX4_takeUp_58 rfl rfl ?_
    refine e_invSi (As := [.inl (sg pl)]) (v := aI (sg pl).toInt) (h2 := (hs (hs h 6 6 (nI pl)) 6 7 (nI c))) dX4_takeUp_59 lk_X4_105 ys_X7_textsOf rfl rfl rfl (Nat.le_of_ble_eq_true rfl) (Nat.le_of_ble_eq_true rfl) ⟨Nat.le_of_ble_eq_true rfl, Nat.le_of_ble_eq_true rfl⟩ (k_textsOf l (hs (hs h 6 6 (nI pl)) 6 7 (nI c)) (sg pl)) ?_
    refine e_iconst (v := 2) dX4_takeUp_62 (by decide) ?_
    refine b_icmp_ne (X := aOf (sg pl).toInt) (Y := 2) (tgt := 118) (aI_toInt _) (by decide) dX4_takeUp_63 (by decide) ?_ ?_
    · intro e_63_t c_63_t
      refine e_aload_n (i := 0) dX4_takeUp_118 rfl rfl ?_
      refine e_getR (r := 7) dX4_takeUp_119 fl_X4_12 sh_6 fj_6_1 ?_
      refine e_aload_n (i := 0) dX4_takeUp_122 rfl rfl ?_
      refine e_getR (r := 7) dX4_takeUp_123 fl_X4_12 sh_6 fj_6_1 ?_
      refine e_iload_n (i := 1) dX4_takeUp_126 rfl rfl ?_
      refine e_invVi (As := [.inl (nI i)]) (v := h 21 i) (h2 := (hs (hs h 6 6 (nI pl)) 6 7 (nI c))) dX4_takeUp_127 lk_X4_132 yv_X5_below rfl rfl rfl (Nat.le_of_ble_eq_true rfl) sh_7 ci_X5 (Nat.le_of_ble_eq_true rfl) ⟨Nat.le_of_ble_eq_true rfl, Nat.le_of_ble_eq_true rfl⟩ (k_T_belowX l (hs (hs h 6 6 (nI pl)) 6 7 (nI c)) i made hm hi hM rfl) ?_
      refine e_putI dX4_takeUp_130 fl_X4_115 fp_X5_3 sh_7 fj_7_3 ?_
      refine e_iload_n (i := 2) dX4_takeUp_133 rfl rfl ?_
      by_cases sk_134_63 : sg pl = 63
      · have skt_134_63 : (sg pl).toInt = 63 := by rw [sk_134_63]; decide
        exfalso; omega
      have skf_134_63 : ¬ (sg pl).toInt = 63 := fun z => sk_134_63 (Int32.toInt_inj.mp (by rw [z]; decide))
      by_cases sk_134_64 : sg pl = 64
      · have skt_134_64 : (sg pl).toInt = 64 := by rw [sk_134_64]; decide
        refine e_lookup (off := 65) (tgt := 199) dX4_takeUp_134 (by decide) (by rw [sk_134_64]; decide) (by decide) ?_
        refine e_aload_n (i := 0) dX4_takeUp_199 rfl rfl ?_
        refine e_aload_n (i := 0) dX4_takeUp_200 rfl rfl ?_
        refine e_getR (r := 2) dX4_takeUp_201 fl_X4_29 sh_6 fj_6_0 ?_
        refine e_aload_n (i := 0) dX4_takeUp_204 rfl rfl ?_
        refine e_getI (x := nI pl) dX4_takeUp_205 fl_X4_86 sh_6 fj_6_6 rfl ?_
        refine e_invVi (As := [.inl (nI pl)]) (v := nI (aHd sg pl)) (h2 := (hs (hs (hs h 6 6 (nI pl)) 6 7 (nI c)) 7 3 (h 21 i))) dX4_takeUp_208 lk_X4_138 yv_X0_hand rfl rfl rfl (Nat.le_of_ble_eq_true rfl) sh_2 ci_X0 (Nat.le_of_ble_eq_true rfl) ⟨Nat.le_of_ble_eq_true rfl, Nat.le_of_ble_eq_true rfl⟩ (k_B_handX l (hs (hs (hs h 6 6 (nI pl)) 6 7 (nI c)) 7 3 (h 21 i)) sg pl h9b.2.2 hsg (hC.1 _ h9b.2.2) h64 h9b.1) ?_
        refine e_invVv (As := [.inl (nI (aHd sg pl))]) (h2 := (hs (hs (hs h 6 6 (nI pl)) 6 7 (nI c)) 7 3 (h 21 i))) (ty := .int) (v := 0) dX4_takeUp_211 lk_X4_141 yv_X4_comeBack rfl rfl rfl (Nat.le_of_ble_eq_true rfl) sh_6 ci_X4 (Nat.le_of_ble_eq_true rfl) ⟨Nat.le_of_ble_eq_true rfl, Nat.le_of_ble_eq_true rfl⟩ (k_X_back0 l (hs (hs (hs h 6 6 (nI pl)) 6 7 (nI c)) 7 3 (h 21 i)) (aHd sg pl) v _ cm hh h68 hsz hsz2 hz) ?_
        refine e_goto (tgt := 263) dX4_takeUp_214 (by decide) ?_
        refine e_ret dX4_takeUp_263 rfl ?_
        have e : aTop sg ln sz r v pl x k w P K n g u q = .inl (false, 0, v, 0, P, K, n, g, u, q) := by unfold aTop; rw [if_neg (by omega), if_neg (by omega), if_pos h64, if_neg (by omega)]
        rw [e] at hR
        exact hR _ _ ⟨rfl, (((KP.refl h).hs (by omega)).hs (by omega)).hs (by omega), made, cm, nd, KS, h4, h5, fun z => (by cases z), fun _ => h68, h9, h12, h13, ⟨h10, h11, h14, h15, h19⟩, hm, hcm, chn_same (h := h) (h' := (hs (hs (hs h 6 6 (nI pl)) 6 7 (nI c)) 7 3 (h 21 i))) rfl rfl rfl rfl rfl hch2, hKS, fun j nj L z1 z2 => (hseg j nj L z1 z2).imp (fun _ z => z.imp (fun _ z => chn_same (h := h) (h' := (hs (hs (hs h 6 6 (nI pl)) 6 7 (nI c)) 7 3 (h 21 i))) rfl rfl rfl rfl rfl z)), hnd2, hlt2, hmd, hcc⟩
      have skf_134_64 : ¬ (sg pl).toInt = 64 := fun z => sk_134_64 (Int32.toInt_inj.mp (by rw [z]; decide))
      by_cases sk_134_107 : sg pl = 107
      · have skt_134_107 : (sg pl).toInt = 107 := by rw [sk_134_107]; decide
        exfalso; omega
      have skf_134_107 : ¬ (sg pl).toInt = 107 := fun z => sk_134_107 (Int32.toInt_inj.mp (by rw [z]; decide))
      by_cases sk_134_112 : sg pl = 112
      · have skt_134_112 : (sg pl).toInt = 112 := by rw [sk_134_112]; decide
        exfalso; omega
      have skf_134_112 : ¬ (sg pl).toInt = 112 := fun z => sk_134_112 (Int32.toInt_inj.mp (by rw [z]; decide))
      by_cases sk_134_113 : sg pl = 113
      · have skt_134_113 : (sg pl).toInt = 113 := by rw [sk_134_113]; decide
        exfalso; omega
      have skf_134_113 : ¬ (sg pl).toInt = 113 := fun z => sk_134_113 (Int32.toInt_inj.mp (by rw [z]; decide))
      by_cases sk_134_114 : sg pl = 114
      · have skt_134_114 : (sg pl).toInt = 114 := by rw [sk_134_114]; decide
        exfalso; omega
      have skf_134_114 : ¬ (sg pl).toInt = 114 := fun z => sk_134_114 (Int32.toInt_inj.mp (by rw [z]; decide))
      exfalso; omega
    · intro e_63_f c_63_f
      exfalso; omega
  · intro e_10_f c_10_f
    exfalso; omega
set_option maxHeartbeats 4000000 in
theorem t_take_go9 (l : Launch) {sg : Nat → Int32} {ln sz : Nat → Nat} {r : List Nat} {rc rr : Nat} (hB : aWB sg ln sz) (h : mH) (hC : CB sg ln sz h) {v pl x k w : Nat} {P : List aF} {K : List (List aF)} {n g u : Nat} {q : List Nat} (hJ : aJ sg sz r (false, 0, v, 0, (pl, x, k, w) :: P, K, n, g, u, q)) (hRC : RC rc h (false, 0, v, 0, (pl, x, k, w) :: P, K, n, g, u, q)) (h107 : (sg pl).toInt = 107) (hg : g = 40) : mG l Sh0 iX4_takeUp [.inr 6] h (fun v' h' => v' = none ∧ KP h h' ∧ RO rc h' (aTop sg ln sz r v pl x k w P K n g u q)) := by
  obtain ⟨made, cm, nd, KS, h4, h5, hb, hb2, h9, h12, h13, ⟨h10, h11, h14, h15, h19⟩, hm, hcm, hch, hKS, hseg, hnd, hlt, hmd, hcc⟩ := hRC
  obtain ⟨jx, jb, jP, jK, jn, jg, ju, jq, jc, gs, g1, g2, g3, g4⟩ := hJ
  obtain ⟨i, nd, rfl⟩ : ∃ (i : Nat) (nd' : List Nat), nd = i :: nd' := by
    cases nd with
    | nil => exact hch.elim
    | cons i nd => exact ⟨i, nd, rfl⟩
  obtain ⟨h73, ⟨c, hc, hmk, har, hck⟩, hch2⟩ := hch
  dsimp only at hmk har hck
  have h68 : h 6 8 = nI v := hb2 rfl
  have hi : i < made := hlt i List.mem_cons_self
  have hM : made ≤ 8200 := by omega
  have hcc : cm + 1 ≤ n + 1 := hcc
  have hcc2 : cm ≤ 200 := by omega
  obtain ⟨f1, f2, f3, f4, f5, f6, f7⟩ := jP (pl, x, k, w) List.mem_cons_self
  dsimp only at f1 f2 f3 f4 f5 f6 f7
  have hp8 : pl < 800 := f1.1
  have hsg : h 13 pl = sg pl := hC.1 pl hp8
  have hB9 := hB.2 pl f1
  have hnd1 : i ∉ nd ++ KS.flatten := (List.nodup_cons.mp (by simpa using hnd)).1
  have hnd2 : (nd ++ KS.flatten).Nodup := (List.nodup_cons.mp (by simpa using hnd)).2
  have hlt2 : ∀ j ∈ nd ++ KS.flatten, j < made := fun j hj => hlt j (by rw [List.cons_append]; exact List.mem_cons_of_mem _ hj)
  have h1 : aOf (sg pl).toInt = 1 := by rw [h107]; exact aOf_107
  intro RT hR
  show mE l Sh0 none iX4_takeUp RT 0 [some (.inr 6), none, none] [] h
  refine e_aload_n (i := 0) dX4_takeUp_0 rfl rfl ?_
  refine e_getR (r := 7) dX4_takeUp_1 fl_X4_12 sh_6 fj_6_1 ?_
  refine e_getI (x := nI i) dX4_takeUp_4 fl_X4_115 sh_7 fj_7_3 h73 ?_
  refine e_istore_n (i := 1) (ls2 := [some (.inr 6), some (.inl (nI i)), none]) dX4_takeUp_7 rfl (Nat.le_of_ble_eq_true rfl) rfl ?_
  refine e_iload_n (i := 1) dX4_takeUp_8 rfl rfl ?_
  refine e_iconst (v := (-1)) dX4_takeUp_9 (by decide) ?_
  refine b_icmp_ne (X := ((i : Nat) : Int)) (Y := (-1)) (tgt := 22) (nI_toInt (by omega)) (by decide) dX4_takeUp_10 (by decide) ?_ ?_
  · intro e_10_t c_10_t
    refine e_aload_n (i := 0) dX4_takeUp_22 rfl rfl ?_
    refine e_aload_n (i := 0) dX4_takeUp_23 rfl rfl ?_
    refine e_getR (r := 7) dX4_takeUp_24 fl_X4_12 sh_6 fj_6_1 ?_
    refine e_iload_n (i := 1) dX4_takeUp_27 rfl rfl ?_
    refine e_invVi (As := [.inl (nI i)]) (v := nI pl) (h2 := h) dX4_takeUp_28 lk_X4_118 yv_X5_place rfl rfl rfl (Nat.le_of_ble_eq_true rfl) sh_7 ci_X5 (Nat.le_of_ble_eq_true rfl) ⟨Nat.le_of_ble_eq_true rfl, Nat.le_of_ble_eq_true rfl⟩ (k_T_placeX l h i made hm hi hM hmk hp8 (by omega) (by omega)) ?_
    refine e_putI dX4_takeUp_31 fl_X4_86 fp_X4_6 sh_6 fj_6_6 ?_
    refine e_aload_n (i := 0) dX4_takeUp_34 rfl rfl ?_
    refine e_aload_n (i := 0) dX4_takeUp_35 rfl rfl ?_
    refine e_getR (r := 7) dX4_takeUp_36 fl_X4_12 sh_6 fj_6_1 ?_
    refine e_iload_n (i := 1) dX4_takeUp_39 rfl rfl ?_
    refine e_invVi (As := [.inl (nI i)]) (v := nI c) (h2 := (hs h 6 6 (nI pl))) dX4_takeUp_40 lk_X4_120 yv_X5_call rfl rfl rfl (Nat.le_of_ble_eq_true rfl) sh_7 ci_X5 (Nat.le_of_ble_eq_true rfl) ⟨Nat.le_of_ble_eq_true rfl, Nat.le_of_ble_eq_true rfl⟩ (k_T_callX l (hs h 6 6 (nI pl)) i made hm hi hM hmk hp8 (by omega) (by omega)) ?_
    refine e_putI dX4_takeUp_43 fl_X4_83 fp_X4_7 sh_6 fj_6_7 ?_
    refine e_aload_n (i := 0) dX4_takeUp_46 rfl rfl ?_
    refine e_getR (r := 2) dX4_takeUp_47 fl_X4_29 sh_6 fj_6_0 ?_
    refine e_aload_n (i := 0) dX4_takeUp_50 rfl rfl ?_
    refine e_getI (x := nI pl) dX4_takeUp_51 fl_X4_86 sh_6 fj_6_6 rfl ?_
    refine e_invVi (As := [.inl (nI pl)]) (v := sg pl) (h2 := (hs (hs h 6 6 (nI pl)) 6 7 (nI c))) dX4_takeUp_54 lk_X4_92 yv_X0_sign rfl rfl rfl (Nat.le_of_ble_eq_true rfl) sh_2 ci_X0 (Nat.le_of_ble_eq_true rfl) ⟨Nat.le_of_ble_eq_true rfl, Nat.le_of_ble_eq_true rfl⟩ (k_B_signX l (hs (hs h 6 6 (nI pl)) 6 7 (nI c)) pl hp8 hsg) ?_
    refine e_istore_n (i := 2) (ls2 := [some (.inr 6), some (.inl (nI i)), some (.inl (sg pl))]) dX4_takeUp_57 rfl (Nat.le_of_ble_eq_true rfl) rfl ?_
    refine e_iload_n (i := 2) dX4_takeUp_58 rfl rfl ?_
    refine e_invSi (As := [.inl (sg pl)]) (v := aI (sg pl).toInt) (h2 := (hs (hs h 6 6 (nI pl)) 6 7 (nI c))) dX4_takeUp_59 lk_X4_105 ys_X7_textsOf rfl rfl rfl (Nat.le_of_ble_eq_true rfl) (Nat.le_of_ble_eq_true rfl) ⟨Nat.le_of_ble_eq_true rfl, Nat.le_of_ble_eq_true rfl⟩ (k_textsOf l (hs (hs h 6 6 (nI pl)) 6 7 (nI c)) (sg pl)) ?_
    refine e_iconst (v := 2) dX4_takeUp_62 (by decide) ?_
    refine b_icmp_ne (X := aOf (sg pl).toInt) (Y := 2) (tgt := 118) (aI_toInt _) (by decide) dX4_takeUp_63 (by decide) ?_ ?_
    · intro e_63_t c_63_t
      refine e_aload_n (i := 0) dX4_takeUp_118 rfl rfl ?_
      refine e_getR (r := 7) dX4_takeUp_119 fl_X4_12 sh_6 fj_6_1 ?_
      refine e_aload_n (i := 0) dX4_takeUp_122 rfl rfl ?_
      refine e_getR (r := 7) dX4_takeUp_123 fl_X4_12 sh_6 fj_6_1 ?_
      refine e_iload_n (i := 1) dX4_takeUp_126 rfl rfl ?_
      refine e_invVi (As := [.inl (nI i)]) (v := h 21 i) (h2 := (hs (hs h 6 6 (nI pl)) 6 7 (nI c))) dX4_takeUp_127 lk_X4_132 yv_X5_below rfl rfl rfl (Nat.le_of_ble_eq_true rfl) sh_7 ci_X5 (Nat.le_of_ble_eq_true rfl) ⟨Nat.le_of_ble_eq_true rfl, Nat.le_of_ble_eq_true rfl⟩ (k_T_belowX l (hs (hs h 6 6 (nI pl)) 6 7 (nI c)) i made hm hi hM rfl) ?_
      refine e_putI dX4_takeUp_130 fl_X4_115 fp_X5_3 sh_7 fj_7_3 ?_
      refine e_iload_n (i := 2) dX4_takeUp_133 rfl rfl ?_
      by_cases sk_134_63 : sg pl = 63
      · have skt_134_63 : (sg pl).toInt = 63 := by rw [sk_134_63]; decide
        exfalso; omega
      have skf_134_63 : ¬ (sg pl).toInt = 63 := fun z => sk_134_63 (Int32.toInt_inj.mp (by rw [z]; decide))
      by_cases sk_134_64 : sg pl = 64
      · have skt_134_64 : (sg pl).toInt = 64 := by rw [sk_134_64]; decide
        exfalso; omega
      have skf_134_64 : ¬ (sg pl).toInt = 64 := fun z => sk_134_64 (Int32.toInt_inj.mp (by rw [z]; decide))
      by_cases sk_134_107 : sg pl = 107
      · have skt_134_107 : (sg pl).toInt = 107 := by rw [sk_134_107]; decide
        refine e_lookup (off := 83) (tgt := 217) dX4_takeUp_134 (by decide) (by rw [sk_134_107]; decide) (by decide) ?_
        refine e_aload_n (i := 0) dX4_takeUp_217 rfl rfl ?_
        refine e_invVv (As := []) (h2 := (hs (hs (hs (hs h 6 6 (nI pl)) 6 7 (nI c)) 7 3 (h 21 i)) 6 9 9)) (ty := .int) (v := 0) dX4_takeUp_218 lk_X4_144 yv_X4_goOn rfl rfl rfl (Nat.le_of_ble_eq_true rfl) sh_6 ci_X4 (Nat.le_of_ble_eq_true rfl) ⟨Nat.le_of_ble_eq_true rfl, Nat.le_of_ble_eq_true rfl⟩ (k_X_go9 l (hs (hs (hs h 6 6 (nI pl)) 6 7 (nI c)) 7 3 (h 21 i)) g h14 hg) ?_
        refine e_goto (tgt := 263) dX4_takeUp_221 (by decide) ?_
        refine e_ret dX4_takeUp_263 rfl ?_
        have e : aTop sg ln sz r v pl x k w P K n g u q = .inr (9, -6, -6, n, g, u, q) := by unfold aTop; rw [if_neg (by omega), if_neg (by omega), if_neg (by omega), if_pos h107, if_pos (by omega)]
        rw [e] at hR
        exact hR _ _ ⟨rfl, ((((KP.refl h).hs (by omega)).hs (by omega)).hs (by omega)).hs (by omega), (by show (9 : Int32).toInt = 9; decide), toI_m6 h12, toI_m6 h13, h10, h11, h14, h15, h19⟩
      have skf_134_107 : ¬ (sg pl).toInt = 107 := fun z => sk_134_107 (Int32.toInt_inj.mp (by rw [z]; decide))
      by_cases sk_134_112 : sg pl = 112
      · have skt_134_112 : (sg pl).toInt = 112 := by rw [sk_134_112]; decide
        exfalso; omega
      have skf_134_112 : ¬ (sg pl).toInt = 112 := fun z => sk_134_112 (Int32.toInt_inj.mp (by rw [z]; decide))
      by_cases sk_134_113 : sg pl = 113
      · have skt_134_113 : (sg pl).toInt = 113 := by rw [sk_134_113]; decide
        exfalso; omega
      have skf_134_113 : ¬ (sg pl).toInt = 113 := fun z => sk_134_113 (Int32.toInt_inj.mp (by rw [z]; decide))
      by_cases sk_134_114 : sg pl = 114
      · have skt_134_114 : (sg pl).toInt = 114 := by rw [sk_134_114]; decide
        exfalso; omega
      have skf_134_114 : ¬ (sg pl).toInt = 114 := fun z => sk_134_114 (Int32.toInt_inj.mp (by rw [z]; decide))
      exfalso; omega
    · intro e_63_f c_63_f
      exfalso; omega
  · intro e_10_f c_10_f
    exfalso; omega
set_option maxHeartbeats 4000000 in
theorem t_take_go (l : Launch) {sg : Nat → Int32} {ln sz : Nat → Nat} {r : List Nat} {rc rr : Nat} (hB : aWB sg ln sz) (h : mH) (hC : CB sg ln sz h) {v pl x k w : Nat} {P : List aF} {K : List (List aF)} {n g u : Nat} {q : List Nat} (hJ : aJ sg sz r (false, 0, v, 0, (pl, x, k, w) :: P, K, n, g, u, q)) (hRC : RC rc h (false, 0, v, 0, (pl, x, k, w) :: P, K, n, g, u, q)) (h107 : (sg pl).toInt = 107) (hg : g < 40) : mG l Sh0 iX4_takeUp [.inr 6] h (fun v' h' => v' = none ∧ KP h h' ∧ RO rc h' (aTop sg ln sz r v pl x k w P K n g u q)) := by
  obtain ⟨made, cm, nd, KS, h4, h5, hb, hb2, h9, h12, h13, ⟨h10, h11, h14, h15, h19⟩, hm, hcm, hch, hKS, hseg, hnd, hlt, hmd, hcc⟩ := hRC
  obtain ⟨jx, jb, jP, jK, jn, jg, ju, jq, jc, gs, g1, g2, g3, g4⟩ := hJ
  obtain ⟨i, nd, rfl⟩ : ∃ (i : Nat) (nd' : List Nat), nd = i :: nd' := by
    cases nd with
    | nil => exact hch.elim
    | cons i nd => exact ⟨i, nd, rfl⟩
  obtain ⟨h73, ⟨c, hc, hmk, har, hck⟩, hch2⟩ := hch
  dsimp only at hmk har hck
  have h68 : h 6 8 = nI v := hb2 rfl
  have hi : i < made := hlt i List.mem_cons_self
  have hM : made ≤ 8200 := by omega
  have hcc : cm + 1 ≤ n + 1 := hcc
  have hcc2 : cm ≤ 200 := by omega
  obtain ⟨f1, f2, f3, f4, f5, f6, f7⟩ := jP (pl, x, k, w) List.mem_cons_self
  dsimp only at f1 f2 f3 f4 f5 f6 f7
  have hp8 : pl < 800 := f1.1
  have hsg : h 13 pl = sg pl := hC.1 pl hp8
  have hB9 := hB.2 pl f1
  have hnd1 : i ∉ nd ++ KS.flatten := (List.nodup_cons.mp (by simpa using hnd)).1
  have hnd2 : (nd ++ KS.flatten).Nodup := (List.nodup_cons.mp (by simpa using hnd)).2
  have hlt2 : ∀ j ∈ nd ++ KS.flatten, j < made := fun j hj => hlt j (by rw [List.cons_append]; exact List.mem_cons_of_mem _ hj)
  have h1 : aOf (sg pl).toInt = 1 := by rw [h107]; exact aOf_107
  have hk1 : 1 ≤ k := f5 (hB9.2.2.2.2.2.2.2.2.2 h107)
  obtain ⟨nk, a, b, k1, k2, k3, k4, k5⟩ : ∃ (nk : List Nat) (a b : Nat), KS[k - 1]? = some nk ∧ nk.head? = some a ∧ nk.getLast? = some b ∧ h 23 c = nI a ∧ h 24 c = nI b := by
    rcases hck with z | z
    · omega
    · exact z
  have hkl : k - 1 < K.length := by omega
  have e2 : K[k - 1]? = some (K.getD (k - 1) []) := by rw [List.getD_eq_getElem?_getD, List.getElem?_eq_getElem hkl]; rfl
  obtain ⟨tk, ek, hchk⟩ := hseg (k - 1) nk _ k1 e2
  have hnkm : ∀ j ∈ nk, j ∈ KS.flatten := fun j hj => List.mem_flatten.mpr ⟨nk, List.mem_of_getElem? k1, hj⟩
  have hnkl : ∀ j ∈ nk, j < made := fun j hj => hlt2 j (List.mem_append_right _ (hnkm j hj))
  have hnkn : nk.Nodup := by
    have z := (List.nodup_append.mp hnd2).2.1
    exact nodup_mem z (List.mem_of_getElem? k1)
  have hblt : b < made := hnkl b (List.mem_of_getLast? k3)
  have hlk : lnk h b nk := lnk_of hchk k3 hnkn
  obtain ⟨p1, p2⟩ := g4 _ _ e2
  have hlen : nk.length ≤ 200 := by rw [chn_len hchk]; have := aPt_len p1; omega
  have hne : nk ≠ [] := by intro z; rw [z] at k2; cases k2
  have hhd : nk.headD 0 = a := by cases nk with | nil => cases k2 | cons y ys => simpa using k2
  have k4' : h 23 c = nI (nk.headD 0) := by rw [hhd]; exact k4
  intro RT hR
  show mE l Sh0 none iX4_takeUp RT 0 [some (.inr 6), none, none] [] h
  refine e_aload_n (i := 0) dX4_takeUp_0 rfl rfl ?_
  refine e_getR (r := 7) dX4_takeUp_1 fl_X4_12 sh_6 fj_6_1 ?_
  refine e_getI (x := nI i) dX4_takeUp_4 fl_X4_115 sh_7 fj_7_3 h73 ?_
  refine e_istore_n (i := 1) (ls2 := [some (.inr 6), some (.inl (nI i)), none]) dX4_takeUp_7 rfl (Nat.le_of_ble_eq_true rfl) rfl ?_
  refine e_iload_n (i := 1) dX4_takeUp_8 rfl rfl ?_
  refine e_iconst (v := (-1)) dX4_takeUp_9 (by decide) ?_
  refine b_icmp_ne (X := ((i : Nat) : Int)) (Y := (-1)) (tgt := 22) (nI_toInt (by omega)) (by decide) dX4_takeUp_10 (by decide) ?_ ?_
  · intro e_10_t c_10_t
    refine e_aload_n (i := 0) dX4_takeUp_22 rfl rfl ?_
    refine e_aload_n (i := 0) dX4_takeUp_23 rfl rfl ?_
    refine e_getR (r := 7) dX4_takeUp_24 fl_X4_12 sh_6 fj_6_1 ?_
    refine e_iload_n (i := 1) dX4_takeUp_27 rfl rfl ?_
    refine e_invVi (As := [.inl (nI i)]) (v := nI pl) (h2 := h) dX4_takeUp_28 lk_X4_118 yv_X5_place rfl rfl rfl (Nat.le_of_ble_eq_true rfl) sh_7 ci_X5 (Nat.le_of_ble_eq_true rfl) ⟨Nat.le_of_ble_eq_true rfl, Nat.le_of_ble_eq_true rfl⟩ (k_T_placeX l h i made hm hi hM hmk hp8 (by omega) (by omega)) ?_
    refine e_putI dX4_takeUp_31 fl_X4_86 fp_X4_6 sh_6 fj_6_6 ?_
    refine e_aload_n (i := 0) dX4_takeUp_34 rfl rfl ?_
    refine e_aload_n (i := 0) dX4_takeUp_35 rfl rfl ?_
    refine e_getR (r := 7) dX4_takeUp_36 fl_X4_12 sh_6 fj_6_1 ?_
    refine e_iload_n (i := 1) dX4_takeUp_39 rfl rfl ?_
    refine e_invVi (As := [.inl (nI i)]) (v := nI c) (h2 := (hs h 6 6 (nI pl))) dX4_takeUp_40 lk_X4_120 yv_X5_call rfl rfl rfl (Nat.le_of_ble_eq_true rfl) sh_7 ci_X5 (Nat.le_of_ble_eq_true rfl) ⟨Nat.le_of_ble_eq_true rfl, Nat.le_of_ble_eq_true rfl⟩ (k_T_callX l (hs h 6 6 (nI pl)) i made hm hi hM hmk hp8 (by omega) (by omega)) ?_
    refine e_putI dX4_takeUp_43 fl_X4_83 fp_X4_7 sh_6 fj_6_7 ?_
    refine e_aload_n (i := 0) dX4_takeUp_46 rfl rfl ?_
    refine e_getR (r := 2) dX4_takeUp_47 fl_X4_29 sh_6 fj_6_0 ?_
    refine e_aload_n (i := 0) dX4_takeUp_50 rfl rfl ?_
    refine e_getI (x := nI pl) dX4_takeUp_51 fl_X4_86 sh_6 fj_6_6 rfl ?_
    refine e_invVi (As := [.inl (nI pl)]) (v := sg pl) (h2 := (hs (hs h 6 6 (nI pl)) 6 7 (nI c))) dX4_takeUp_54 lk_X4_92 yv_X0_sign rfl rfl rfl (Nat.le_of_ble_eq_true rfl) sh_2 ci_X0 (Nat.le_of_ble_eq_true rfl) ⟨Nat.le_of_ble_eq_true rfl, Nat.le_of_ble_eq_true rfl⟩ (k_B_signX l (hs (hs h 6 6 (nI pl)) 6 7 (nI c)) pl hp8 hsg) ?_
    refine e_istore_n (i := 2) (ls2 := [some (.inr 6), some (.inl (nI i)), some (.inl (sg pl))]) dX4_takeUp_57 rfl (Nat.le_of_ble_eq_true rfl) rfl ?_
    refine e_iload_n (i := 2) dX4_takeUp_58 rfl rfl ?_
    refine e_invSi (As := [.inl (sg pl)]) (v := aI (sg pl).toInt) (h2 := (hs (hs h 6 6 (nI pl)) 6 7 (nI c))) dX4_takeUp_59 lk_X4_105 ys_X7_textsOf rfl rfl rfl (Nat.le_of_ble_eq_true rfl) (Nat.le_of_ble_eq_true rfl) ⟨Nat.le_of_ble_eq_true rfl, Nat.le_of_ble_eq_true rfl⟩ (k_textsOf l (hs (hs h 6 6 (nI pl)) 6 7 (nI c)) (sg pl)) ?_
    refine e_iconst (v := 2) dX4_takeUp_62 (by decide) ?_
    refine b_icmp_ne (X := aOf (sg pl).toInt) (Y := 2) (tgt := 118) (aI_toInt _) (by decide) dX4_takeUp_63 (by decide) ?_ ?_
    · intro e_63_t c_63_t
      refine e_aload_n (i := 0) dX4_takeUp_118 rfl rfl ?_
      refine e_getR (r := 7) dX4_takeUp_119 fl_X4_12 sh_6 fj_6_1 ?_
      refine e_aload_n (i := 0) dX4_takeUp_122 rfl rfl ?_
      refine e_getR (r := 7) dX4_takeUp_123 fl_X4_12 sh_6 fj_6_1 ?_
      refine e_iload_n (i := 1) dX4_takeUp_126 rfl rfl ?_
      refine e_invVi (As := [.inl (nI i)]) (v := h 21 i) (h2 := (hs (hs h 6 6 (nI pl)) 6 7 (nI c))) dX4_takeUp_127 lk_X4_132 yv_X5_below rfl rfl rfl (Nat.le_of_ble_eq_true rfl) sh_7 ci_X5 (Nat.le_of_ble_eq_true rfl) ⟨Nat.le_of_ble_eq_true rfl, Nat.le_of_ble_eq_true rfl⟩ (k_T_belowX l (hs (hs h 6 6 (nI pl)) 6 7 (nI c)) i made hm hi hM rfl) ?_
      refine e_putI dX4_takeUp_130 fl_X4_115 fp_X5_3 sh_7 fj_7_3 ?_
      refine e_iload_n (i := 2) dX4_takeUp_133 rfl rfl ?_
      by_cases sk_134_63 : sg pl = 63
      · have skt_134_63 : (sg pl).toInt = 63 := by rw [sk_134_63]; decide
        exfalso; omega
      have skf_134_63 : ¬ (sg pl).toInt = 63 := fun z => sk_134_63 (Int32.toInt_inj.mp (by rw [z]; decide))
      by_cases sk_134_64 : sg pl = 64
      · have skt_134_64 : (sg pl).toInt = 64 := by rw [sk_134_64]; decide
        exfalso; omega
      have skf_134_64 : ¬ (sg pl).toInt = 64 := fun z => sk_134_64 (Int32.toInt_inj.mp (by rw [z]; decide))
      by_cases sk_134_107 : sg pl = 107
      · have skt_134_107 : (sg pl).toInt = 107 := by rw [sk_134_107]; decide
        refine e_lookup (off := 83) (tgt := 217) dX4_takeUp_134 (by decide) (by rw [sk_134_107]; decide) (by decide) ?_
        refine e_aload_n (i := 0) dX4_takeUp_217 rfl rfl ?_
        refine e_invVv (As := []) (h2 := (lay (h 21 i) (hs (hs (hs (hs (hs h 6 6 (nI pl)) 6 7 (nI c)) 7 3 (h 21 i)) 6 14 (nI (g + 1))) 7 3 (nI made)) made nk)) (ty := .int) (v := 0) dX4_takeUp_218 lk_X4_144 yv_X4_goOn rfl rfl rfl (Nat.le_of_ble_eq_true rfl) sh_6 ci_X4 (Nat.le_of_ble_eq_true rfl) ⟨Nat.le_of_ble_eq_true rfl, Nat.le_of_ble_eq_true rfl⟩ (k_X_go l (hs (hs (hs h 6 6 (nI pl)) 6 7 (nI c)) 7 3 (h 21 i)) g h14 hg c cm made b nk rfl hcm hc (by omega) hm (by omega) k4' k5 hnkl (by omega) (lnk_same (h := h) (h' := (hs (hs (hs h 6 6 (nI pl)) 6 7 (nI c)) 7 3 (h 21 i))) rfl hlk)) ?_
        refine e_goto (tgt := 263) dX4_takeUp_221 (by decide) ?_
        refine e_ret dX4_takeUp_263 rfl ?_
        have e : aTop sg ln sz r v pl x k w P K n g u q = .inl (false, 0, v, 0, K.getD (k - 1) [] ++ P, K, n, g + 1, u, q) := by unfold aTop; rw [if_neg (by omega), if_neg (by omega), if_neg (by omega), if_pos h107, if_neg (by omega)]
        rw [e] at hR
        have o6 : (lay (h 21 i) (hs (hs (hs (hs (hs h 6 6 (nI pl)) 6 7 (nI c)) 7 3 (h 21 i)) 6 14 (nI (g + 1))) 7 3 (nI made)) made nk) 6 = (hs (hs (hs (hs (hs h 6 6 (nI pl)) 6 7 (nI c)) 7 3 (h 21 i)) 6 14 (nI (g + 1))) 7 3 (nI made)) 6 := lay_o (by decide) (by decide) (by decide) nk _ _
        have o8 : (lay (h 21 i) (hs (hs (hs (hs (hs h 6 6 (nI pl)) 6 7 (nI c)) 7 3 (h 21 i)) 6 14 (nI (g + 1))) 7 3 (nI made)) made nk) 8 = (hs (hs (hs (hs (hs h 6 6 (nI pl)) 6 7 (nI c)) 7 3 (h 21 i)) 6 14 (nI (g + 1))) 7 3 (nI made)) 8 := lay_o (by decide) (by decide) (by decide) nk _ _
        have o19 : (lay (h 21 i) (hs (hs (hs (hs (hs h 6 6 (nI pl)) 6 7 (nI c)) 7 3 (h 21 i)) 6 14 (nI (g + 1))) 7 3 (nI made)) made nk) 19 = (hs (hs (hs (hs (hs h 6 6 (nI pl)) 6 7 (nI c)) 7 3 (h 21 i)) 6 14 (nI (g + 1))) 7 3 (nI made)) 19 := lay_o (by decide) (by decide) (by decide) nk _ _
        have o22 : (lay (h 21 i) (hs (hs (hs (hs (hs h 6 6 (nI pl)) 6 7 (nI c)) 7 3 (h 21 i)) 6 14 (nI (g + 1))) 7 3 (nI made)) made nk) 22 = h 22 := lay_o (by decide) (by decide) (by decide) nk _ _
        have o23 : (lay (h 21 i) (hs (hs (hs (hs (hs h 6 6 (nI pl)) 6 7 (nI c)) 7 3 (h 21 i)) 6 14 (nI (g + 1))) 7 3 (nI made)) made nk) 23 = h 23 := lay_o (by decide) (by decide) (by decide) nk _ _
        have o24 : (lay (h 21 i) (hs (hs (hs (hs (hs h 6 6 (nI pl)) 6 7 (nI c)) 7 3 (h 21 i)) 6 14 (nI (g + 1))) 7 3 (nI made)) made nk) 24 = h 24 := lay_o (by decide) (by decide) (by decide) nk _ _
        have hext : ∀ {nd : List Nat} {P : List aF} {t e : Int32}, (∀ j ∈ nd, j < made) → chn h KS cm nd P t e → chn (lay (h 21 i) (hs (hs (hs (hs (hs h 6 6 (nI pl)) 6 7 (nI c)) 7 3 (h 21 i)) 6 14 (nI (g + 1))) 7 3 (nI made)) made nk) KS cm nd P t e := by
          intro nd P t e hz hq
          have z := chn_ext (h := h) (h' := (lay (h 21 i) (hs (hs (hs (hs (hs h 6 6 (nI pl)) 6 7 (nI c)) 7 3 (h 21 i)) 6 14 (nI (g + 1))) 7 3 (nI made)) made nk)) (Z := []) (Nat.le_refl cm) (fun c _ => ⟨by rw [o22], by rw [o23], by rw [o24]⟩) (fun j hj => lay_lt (u := h 21 i) nk (hs (hs (hs (hs (hs h 6 6 (nI pl)) 6 7 (nI c)) 7 3 (h 21 i)) 6 14 (nI (g + 1))) 7 3 (nI made)) made (hz j hj)) hq
          rwa [List.append_nil] at z
        have hcl := lay_chn (u := h 21 i) (KS := KS) (cm := cm) nk _ (hs (hs (hs (hs (hs h 6 6 (nI pl)) 6 7 (nI c)) 7 3 (h 21 i)) 6 14 (nI (g + 1))) 7 3 (nI made)) made _ _ hne hnkl (chn_same (h := h) (h' := (hs (hs (hs (hs (hs h 6 6 (nI pl)) 6 7 (nI c)) 7 3 (h 21 i)) 6 14 (nI (g + 1))) 7 3 (nI made))) rfl rfl rfl rfl rfl hchk)
        have hjn := chn_join hcl (hext (fun j hj => hlt2 j (List.mem_append_left _ hj)) hch2)
        refine hR _ _ ⟨rfl, (((((KP.refl h).hs (by omega)).hs (by omega)).hs (by omega)).hs (by omega)).hs (by omega) |>.lay, made + nk.length, cm, List.range' made nk.length ++ nd, KS, by rw [o6]; exact h4, by rw [o6]; exact h5, fun z => (by cases z), fun _ => by rw [o6]; exact h68, by rw [o6]; exact h9, by rw [o6]; exact h12, by rw [o6]; exact h13, ⟨by rw [o6]; exact h10, by rw [o6]; exact h11, by rw [o6]; rfl, by rw [o6]; exact h15, fun j z1 z2 => by rw [o19]; exact h19 j z1 z2⟩, lay_72 nk _ made hm, by rw [o8]; exact hcm, ?_, hKS, fun j nj L z1 z2 => ?_, ?_, ?_, by omega, hcc⟩
        · have z : (lay (h 21 i) (hs (hs (hs (hs (hs h 6 6 (nI pl)) 6 7 (nI c)) 7 3 (h 21 i)) 6 14 (nI (g + 1))) 7 3 (nI made)) made nk) 7 3 = nI made := lay_73 nk _ _
          rw [z]
          exact hjn
        · obtain ⟨t, e, z⟩ := hseg j nj L z1 z2
          exact ⟨t, e, hext (fun i hi => hlt2 i (List.mem_append_right _ (List.mem_flatten.mpr ⟨nj, List.mem_of_getElem? z1, hi⟩))) z⟩
        · rw [List.append_assoc, List.nodup_append]
          refine ⟨List.nodup_range', hnd2, fun a ha b hb z => ?_⟩
          have z1 := (List.mem_range'_1.mp ha).1
          have z2 := hlt2 b hb
          omega
        · intro j hj
          rw [List.append_assoc] at hj
          rcases List.mem_append.mp hj with hj | hj
          · exact (List.mem_range'_1.mp hj).2
          · have := hlt2 j hj
            omega
      have skf_134_107 : ¬ (sg pl).toInt = 107 := fun z => sk_134_107 (Int32.toInt_inj.mp (by rw [z]; decide))
      by_cases sk_134_112 : sg pl = 112
      · have skt_134_112 : (sg pl).toInt = 112 := by rw [sk_134_112]; decide
        exfalso; omega
      have skf_134_112 : ¬ (sg pl).toInt = 112 := fun z => sk_134_112 (Int32.toInt_inj.mp (by rw [z]; decide))
      by_cases sk_134_113 : sg pl = 113
      · have skt_134_113 : (sg pl).toInt = 113 := by rw [sk_134_113]; decide
        exfalso; omega
      have skf_134_113 : ¬ (sg pl).toInt = 113 := fun z => sk_134_113 (Int32.toInt_inj.mp (by rw [z]; decide))
      by_cases sk_134_114 : sg pl = 114
      · have skt_134_114 : (sg pl).toInt = 114 := by rw [sk_134_114]; decide
        exfalso; omega
      have skf_134_114 : ¬ (sg pl).toInt = 114 := fun z => sk_134_114 (Int32.toInt_inj.mp (by rw [z]; decide))
      exfalso; omega
    · intro e_63_f c_63_f
      exfalso; omega
  · intro e_10_f c_10_f
    exfalso; omega
end
section
/-! The class's turns: asking. -/
theorem sub112 {x : Int32} {d : Nat} (h : x.toInt = 112 + (d : Int)) : x - 112 = nI d := by
  have e7 : x = nI (112 + d) := toInt_nI (by omega)
  rw [e7, nI_subc 112 (by omega)]
  congr 1
  omega
theorem anH_o (h : mH) (ql : Nat) (a : Int32) {k : Nat} (hk : k ≠ 19) : anH h ql a k = h k := by
  unfold anH
  split
  · exact hs_rown _ _ _ hk
  · rfl
theorem KP.an {h h' : mH} (q : KP h h') {m : Nat} {a : Int32} : KP h (anH h' m a) := fun k hk => by
  rw [anH_o _ _ _ (by omega)]
  exact q k hk
theorem anH_19 {h : mH} {q : List Nat} {z : Nat} (h19 : ∀ i, i < q.length → i < 200 → h 19 i = nI (q.getD i 0)) : ∀ i, i < (q ++ [z]).length → i < 200 → anH h q.length (nI z) 19 i = nI ((q ++ [z]).getD i 0) := by
  intro i hi h2
  rw [List.length_append] at hi
  simp only [List.length_cons, List.length_nil] at hi
  unfold anH
  by_cases hq : i < q.length
  · have e : (q ++ [z]).getD i 0 = q.getD i 0 := by rw [List.getD_eq_getElem?_getD, List.getD_eq_getElem?_getD, List.getElem?_append_left hq]
    rw [e]
    split
    · rw [hs_ne _ _ (by omega)]; exact h19 i hq h2
    · exact h19 i hq h2
  · have e0 : i = q.length := by omega
    subst e0
    have e : (q ++ [z]).getD q.length 0 = z := by rw [List.getD_eq_getElem?_getD, List.getElem?_append_right (Nat.le_refl _), Nat.sub_self]; rfl
    rw [e, if_pos h2, hs_at]
theorem k_X_ask1 (l : Launch) (h : mH) (d v ql : Nat) (hd : d < 3) (hv : v < 8) (hq : ql < 100000) (h68 : h 6 8 = nI v) (h15 : h 6 15 = nI ql) (sg : Nat → Int32) (i made cm pl w c hd2 : Nat) (hm : h 7 2 = nI made) (hi : i < made) (hM : made ≤ 8200) (hmk : h 20 i = nI (pl + 1024 * w + 16384 * c)) (hp8 : pl + 1 < 800) (hw : w < 16) (hc : c < 65536) (kH : ∀ h2 : mH, h2 13 = h 13 → mD l Sh0 iX0_hand [.inr 2, .inl (nI pl)] h2 (some (nI hd2)) h2) (hcm : h 8 3 = nI cm) (hc2 : cm < 201) : mD l Sh0 iX4_ask [.inr 6, .inl (nI d), .inl (nI i)] h none (entH (hs (hs (anH h ql (nI (100 * d + 10 * v + hd2))) 6 15 (nI (ql + 1))) 7 3 (h 21 i)) cm (nI (4 + 4 * hd2 + d)) (nI v) (h 7 3) (nI i)) := by
  by_cases hql : ql < 200
  · exact k_X_ask1s l h d v ql hd hv hq h68 h15 hql sg i made cm pl w c hd2 hm hi hM hmk hp8 hw hc kH hcm hc2
  · exact k_X_ask1b l h d v ql hd hv hq h68 h15 hql sg i made cm pl w c hd2 hm hi hM hmk hp8 hw hc kH hcm hc2
theorem k_X_ask0r (l : Launch) (h : mH) (d v ql : Nat) (hd : d < 3) (hv : v < 8) (hq : ql < 100000) (h68 : h 6 8 = nI v) (h15 : h 6 15 = nI ql) (rc rr u rl : Nat) (hS : Sh0[rc]? = some (.inl (3, [rr + 3, 0]))) (hA : Sh0[rr]? = some (.inr 8)) (hrc : rc = 3 ∨ rc = 4 ∨ rc = 5) (hrr : 16 ≤ rr ∧ rr ≤ 18) (h64 : h 6 4 = nI rc) (h11 : h 6 11 = nI u) (hrl : h rc 1 = nI rl) (hrl8 : rl ≤ 8) (hu8 : u ≤ rl) (w : Nat) (hw : h rr u = nI w) (hu : u < rl) : mD l Sh0 iX4_ask [.inr 6, .inl (nI d), .inl (-1)] h none (hs (hs (hs (hs (anH h ql (nI (100 * d + 10 * v + 9))) 6 15 (nI (ql + 1))) 6 8 (nI w)) 6 5 0) 6 11 (nI (u + 1))) := by
  by_cases hql : ql < 200
  · exact k_X_ask0rs l h d v ql hd hv hq h68 h15 hql rc rr u rl hS hA hrc hrr h64 h11 hrl hrl8 hu8 w hw hu
  · exact k_X_ask0rb l h d v ql hd hv hq h68 h15 hql rc rr u rl hS hA hrc hrr h64 h11 hrl hrl8 hu8 w hw hu
theorem k_X_ask0e (l : Launch) (h : mH) (d v ql : Nat) (hd : d < 3) (hv : v < 8) (hq : ql < 100000) (h68 : h 6 8 = nI v) (h15 : h 6 15 = nI ql) (rc rr u rl : Nat) (hS : Sh0[rc]? = some (.inl (3, [rr + 3, 0]))) (hA : Sh0[rr]? = some (.inr 8)) (hrc : rc = 3 ∨ rc = 4 ∨ rc = 5) (hrr : 16 ≤ rr ∧ rr ≤ 18) (h64 : h 6 4 = nI rc) (h11 : h 6 11 = nI u) (hrl : h rc 1 = nI rl) (hrl8 : rl ≤ 8) (hu8 : u ≤ rl) (hu : u = rl) : mD l Sh0 iX4_ask [.inr 6, .inl (nI d), .inl (-1)] h none (hs (hs (hs (hs (anH h ql (nI (100 * d + 10 * v + 9))) 6 15 (nI (ql + 1))) 6 9 8) 6 12 (nI d)) 6 13 (nI v)) := by
  by_cases hql : ql < 200
  · exact k_X_ask0es l h d v ql hd hv hq h68 h15 hql rc rr u rl hS hA hrc hrr h64 h11 hrl hrl8 hu8 hu
  · exact k_X_ask0eb l h d v ql hd hv hq h68 h15 hql rc rr u rl hS hA hrc hrr h64 h11 hrl hrl8 hu8 hu
set_option maxHeartbeats 4000000 in
theorem t_take_ask1 (l : Launch) {sg : Nat → Int32} {ln sz : Nat → Nat} {r : List Nat} {rc rr : Nat} (hB : aWB sg ln sz) (h : mH) (hC : CB sg ln sz h) {v pl x k w : Nat} {P : List aF} {K : List (List aF)} {n g u : Nat} {q : List Nat} (hJ : aJ sg sz r (false, 0, v, 0, (pl, x, k, w) :: P, K, n, g, u, q)) (hRC : RC rc h (false, 0, v, 0, (pl, x, k, w) :: P, K, n, g, u, q)) {d : Nat} (hd : d < 3) (hsd : (sg pl).toInt = 112 + (d : Int)) {A : List aF} {G : aF} {CC : List aF} (hN : aNr sg sz d P = some (A, G, CC)) (hr8 : r.length ≤ 8) : mG l Sh0 iX4_takeUp [.inr 6] h (fun v' h' => v' = none ∧ KP h h' ∧ RO rc h' (aTop sg ln sz r v pl x k w P K n g u q)) := by
  obtain ⟨made, cm, nd, KS, h4, h5, hb, hb2, h9, h12, h13, ⟨h10, h11, h14, h15, h19⟩, hm, hcm, hch, hKS, hseg, hnd, hlt, hmd, hcc⟩ := hRC
  obtain ⟨jx, jb, jP, jK, jn, jg, ju, jq, jc, gs, g1, g2, g3, g4⟩ := hJ
  obtain ⟨i, nd, rfl⟩ : ∃ (i : Nat) (nd' : List Nat), nd = i :: nd' := by
    cases nd with
    | nil => exact hch.elim
    | cons i nd => exact ⟨i, nd, rfl⟩
  obtain ⟨h73, ⟨c, hc, hmk, har, hck⟩, hch2⟩ := hch
  dsimp only at hmk har hck
  have h68 : h 6 8 = nI v := hb2 rfl
  have hi : i < made := hlt i List.mem_cons_self
  have hM : made ≤ 8200 := by omega
  have hcc : cm + 1 ≤ n + 1 := hcc
  have hcc2 : cm ≤ 200 := by omega
  obtain ⟨f1, f2, f3, f4, f5, f6, f7⟩ := jP (pl, x, k, w) List.mem_cons_self
  dsimp only at f1 f2 f3 f4 f5 f6 f7
  have hp8 : pl < 800 := f1.1
  have hsg : h 13 pl = sg pl := hC.1 pl hp8
  have hB9 := hB.2 pl f1
  have hnd1 : i ∉ nd ++ KS.flatten := (List.nodup_cons.mp (by simpa using hnd)).1
  have hnd2 : (nd ++ KS.flatten).Nodup := (List.nodup_cons.mp (by simpa using hnd)).2
  have hlt2 : ∀ j ∈ nd ++ KS.flatten, j < made := fun j hj => hlt j (by rw [List.cons_append]; exact List.mem_cons_of_mem _ hj)
  have h1 : aOf (sg pl).toInt = 1 := by rcases (show d = 0 ∨ d = 1 ∨ d = 2 by omega) with z | z | z <;> subst z <;> rw [hsd] <;> decide
  have hs3 : (sg pl).toInt = 112 ∨ (sg pl).toInt = 113 ∨ (sg pl).toInt = 114 := by omega
  have hdd : ((sg pl).toInt - 112).toNat = d := by omega
  have hP2 : ∀ F ∈ P, aFok sg sz K.length F := fun F hF => jP F (List.mem_cons_of_mem _ hF)
  have hPl : P.length ≤ 200 := by have := aPt_len g2.2; omega
  have hql : q.length < 100000 := by
    have z1 : K.length + 1 ≤ n + 1 := jc
    have z2 : r.length ≤ 8 := hr8
    omega
  have hnl : ∀ j ∈ nd, j < made := fun j hj => hlt2 j (List.mem_append_left _ hj)
  have eT : aTop sg ln sz r v pl x k w P K n g u q = aAsk sg sz r d v P K n g u q := by
    unfold aTop
    rw [if_neg (by omega), if_neg (by omega), if_neg (by omega), if_neg (by omega), if_pos hs3, hdd]
  have eA : aAsk sg sz r d v P K n g u q = .inl (true, 40 * (4 + 4 * aHd sg G.1 + d), v, K.length + 1, CC, K ++ [A ++ [G]], n, g, u, q ++ [100 * d + 10 * v + aHd sg G.1]) := by
    unfold aAsk
    rw [hN]
  obtain ⟨e1, e2, e3, e4⟩ := aNr_some hN
  have hch0 := hch2
  rw [e1] at hch2
  obtain ⟨nA, j, nC, en, c1, ⟨cG, hcG, hmkG, harG, hckG⟩, c3⟩ := chn_split hch2
  have hlA := chn_len c1
  have hnr : nrN sg sz d nd P = nI j := by rw [en, e1]; exact nrN_some ⟨e2, e3⟩ hlA e4
  have hGm : G ∈ P := by rw [e1]; exact List.mem_append_right _ List.mem_cons_self
  obtain ⟨w1, w2, w3, w4, w5, w6, w7⟩ := hP2 G hGm
  have h9G := (hB.2 G.1 w1).2.2.2.2.2.2.2.2.1 e2
  have hj : j < made := hnl j (by rw [en]; exact List.mem_append_right _ List.mem_cons_self)
  have kH : ∀ h2 : mH, h2 13 = h 13 → mD l Sh0 iX0_hand [.inr 2, .inl (nI G.1)] h2 (some (nI (aHd sg G.1))) h2 := fun h2 e => k_B_handX l h2 sg G.1 h9G.2.2 (by rw [e]; exact hC.1 _ w1.1) (by rw [e]; exact hC.1 _ h9G.2.2) e2 h9G.1
  intro RT hR
  show mE l Sh0 none iX4_takeUp RT 0 [some (.inr 6), none, none] [] h
  refine e_aload_n (i := 0) dX4_takeUp_0 rfl rfl ?_
  refine e_getR (r := 7) dX4_takeUp_1 fl_X4_12 sh_6 fj_6_1 ?_
  refine e_getI (x := nI i) dX4_takeUp_4 fl_X4_115 sh_7 fj_7_3 h73 ?_
  refine e_istore_n (i := 1) (ls2 := [some (.inr 6), some (.inl (nI i)), none]) dX4_takeUp_7 rfl (Nat.le_of_ble_eq_true rfl) rfl ?_
  refine e_iload_n (i := 1) dX4_takeUp_8 rfl rfl ?_
  refine e_iconst (v := (-1)) dX4_takeUp_9 (by decide) ?_
  refine b_icmp_ne (X := ((i : Nat) : Int)) (Y := (-1)) (tgt := 22) (nI_toInt (by omega)) (by decide) dX4_takeUp_10 (by decide) ?_ ?_
  · intro e_10_t c_10_t
    refine e_aload_n (i := 0) dX4_takeUp_22 rfl rfl ?_
    refine e_aload_n (i := 0) dX4_takeUp_23 rfl rfl ?_
    refine e_getR (r := 7) dX4_takeUp_24 fl_X4_12 sh_6 fj_6_1 ?_
    refine e_iload_n (i := 1) dX4_takeUp_27 rfl rfl ?_
    refine e_invVi (As := [.inl (nI i)]) (v := nI pl) (h2 := h) dX4_takeUp_28 lk_X4_118 yv_X5_place rfl rfl rfl (Nat.le_of_ble_eq_true rfl) sh_7 ci_X5 (Nat.le_of_ble_eq_true rfl) ⟨Nat.le_of_ble_eq_true rfl, Nat.le_of_ble_eq_true rfl⟩ (k_T_placeX l h i made hm hi hM hmk hp8 (by omega) (by omega)) ?_
    refine e_putI dX4_takeUp_31 fl_X4_86 fp_X4_6 sh_6 fj_6_6 ?_
    refine e_aload_n (i := 0) dX4_takeUp_34 rfl rfl ?_
    refine e_aload_n (i := 0) dX4_takeUp_35 rfl rfl ?_
    refine e_getR (r := 7) dX4_takeUp_36 fl_X4_12 sh_6 fj_6_1 ?_
    refine e_iload_n (i := 1) dX4_takeUp_39 rfl rfl ?_
    refine e_invVi (As := [.inl (nI i)]) (v := nI c) (h2 := (hs h 6 6 (nI pl))) dX4_takeUp_40 lk_X4_120 yv_X5_call rfl rfl rfl (Nat.le_of_ble_eq_true rfl) sh_7 ci_X5 (Nat.le_of_ble_eq_true rfl) ⟨Nat.le_of_ble_eq_true rfl, Nat.le_of_ble_eq_true rfl⟩ (k_T_callX l (hs h 6 6 (nI pl)) i made hm hi hM hmk hp8 (by omega) (by omega)) ?_
    refine e_putI dX4_takeUp_43 fl_X4_83 fp_X4_7 sh_6 fj_6_7 ?_
    refine e_aload_n (i := 0) dX4_takeUp_46 rfl rfl ?_
    refine e_getR (r := 2) dX4_takeUp_47 fl_X4_29 sh_6 fj_6_0 ?_
    refine e_aload_n (i := 0) dX4_takeUp_50 rfl rfl ?_
    refine e_getI (x := nI pl) dX4_takeUp_51 fl_X4_86 sh_6 fj_6_6 rfl ?_
    refine e_invVi (As := [.inl (nI pl)]) (v := sg pl) (h2 := (hs (hs h 6 6 (nI pl)) 6 7 (nI c))) dX4_takeUp_54 lk_X4_92 yv_X0_sign rfl rfl rfl (Nat.le_of_ble_eq_true rfl) sh_2 ci_X0 (Nat.le_of_ble_eq_true rfl) ⟨Nat.le_of_ble_eq_true rfl, Nat.le_of_ble_eq_true rfl⟩ (k_B_signX l (hs (hs h 6 6 (nI pl)) 6 7 (nI c)) pl hp8 hsg) ?_
    refine e_istore_n (i := 2) (ls2 := [some (.inr 6), some (.inl (nI i)), some (.inl (sg pl))]) dX4_takeUp_57 rfl (Nat.le_of_ble_eq_true rfl) rfl ?_
    refine e_iload_n (i := 2) dX4_takeUp_58 rfl rfl ?_
    refine e_invSi (As := [.inl (sg pl)]) (v := aI (sg pl).toInt) (h2 := (hs (hs h 6 6 (nI pl)) 6 7 (nI c))) dX4_takeUp_59 lk_X4_105 ys_X7_textsOf rfl rfl rfl (Nat.le_of_ble_eq_true rfl) (Nat.le_of_ble_eq_true rfl) ⟨Nat.le_of_ble_eq_true rfl, Nat.le_of_ble_eq_true rfl⟩ (k_textsOf l (hs (hs h 6 6 (nI pl)) 6 7 (nI c)) (sg pl)) ?_
    refine e_iconst (v := 2) dX4_takeUp_62 (by decide) ?_
    refine b_icmp_ne (X := aOf (sg pl).toInt) (Y := 2) (tgt := 118) (aI_toInt _) (by decide) dX4_takeUp_63 (by decide) ?_ ?_
    · intro e_63_t c_63_t
      refine e_aload_n (i := 0) dX4_takeUp_118 rfl rfl ?_
      refine e_getR (r := 7) dX4_takeUp_119 fl_X4_12 sh_6 fj_6_1 ?_
      refine e_aload_n (i := 0) dX4_takeUp_122 rfl rfl ?_
      refine e_getR (r := 7) dX4_takeUp_123 fl_X4_12 sh_6 fj_6_1 ?_
      refine e_iload_n (i := 1) dX4_takeUp_126 rfl rfl ?_
      refine e_invVi (As := [.inl (nI i)]) (v := h 21 i) (h2 := (hs (hs h 6 6 (nI pl)) 6 7 (nI c))) dX4_takeUp_127 lk_X4_132 yv_X5_below rfl rfl rfl (Nat.le_of_ble_eq_true rfl) sh_7 ci_X5 (Nat.le_of_ble_eq_true rfl) ⟨Nat.le_of_ble_eq_true rfl, Nat.le_of_ble_eq_true rfl⟩ (k_T_belowX l (hs (hs h 6 6 (nI pl)) 6 7 (nI c)) i made hm hi hM rfl) ?_
      refine e_putI dX4_takeUp_130 fl_X4_115 fp_X5_3 sh_7 fj_7_3 ?_
      refine e_iload_n (i := 2) dX4_takeUp_133 rfl rfl ?_
      refine e_lookup (off := 90) (tgt := 224) dX4_takeUp_134 (by decide) (by rcases hs3 with z | z | z <;> rw [z] <;> decide) (by decide) ?_
      refine e_aload_n (i := 0) dX4_takeUp_224 rfl rfl ?_
      refine e_iload_n (i := 2) dX4_takeUp_225 rfl rfl ?_
      refine e_bipush (v := 112) dX4_takeUp_226 (by decide) ?_
      refine z_isub (z := nI d) (sub112 hsd) dX4_takeUp_228 ?_
      refine e_aload_n (i := 0) dX4_takeUp_229 rfl rfl ?_
      refine e_iload_n (i := 2) dX4_takeUp_230 rfl rfl ?_
      refine e_bipush (v := 112) dX4_takeUp_231 (by decide) ?_
      refine z_isub (z := nI d) (sub112 hsd) dX4_takeUp_233 ?_
      refine e_invVi (As := [.inl (nI d)]) (v := nI j) (h2 := (hs (hs (hs h 6 6 (nI pl)) 6 7 (nI c)) 7 3 (h 21 i))) dX4_takeUp_234 lk_X4_147 yv_X4_nearest rfl rfl rfl (Nat.le_of_ble_eq_true rfl) sh_6 ci_X4 (Nat.le_of_ble_eq_true rfl) ⟨Nat.le_of_ble_eq_true rfl, Nat.le_of_ble_eq_true rfl⟩ (hnr ▸ k_X_nearest (KS := KS) (cm := cm) (made := made) (nK := K.length) l hB (hs (hs (hs h 6 6 (nI pl)) 6 7 (nI c)) 7 3 (h 21 i)) hC hd hm hM (by omega) nd P (chn_same (h := h) (h' := (hs (hs (hs h 6 6 (nI pl)) 6 7 (nI c)) 7 3 (h 21 i))) rfl rfl rfl rfl rfl hch0) hnl hP2 (by omega)) ?_
      refine e_invVv (As := [.inl (nI d), .inl (nI j)]) (h2 := (entH (hs (hs (anH (hs (hs (hs h 6 6 (nI pl)) 6 7 (nI c)) 7 3 (h 21 i)) q.length (nI (100 * d + 10 * v + aHd sg G.1))) 6 15 (nI (q.length + 1))) 7 3 (h 21 j)) cm (nI (4 + 4 * aHd sg G.1 + d)) (nI v) (h 21 i) (nI j))) (ty := .int) (v := 0) dX4_takeUp_237 lk_X4_150 yv_X4_ask rfl rfl rfl (Nat.le_of_ble_eq_true rfl) sh_6 ci_X4 (Nat.le_of_ble_eq_true rfl) ⟨Nat.le_of_ble_eq_true rfl, Nat.le_of_ble_eq_true rfl⟩ (k_X_ask1 l (hs (hs (hs h 6 6 (nI pl)) 6 7 (nI c)) 7 3 (h 21 i)) d v q.length hd jx hql h68 h15 sg j made cm G.1 G.2.2.2 cG (aHd sg G.1) hm hj hM hmkG h9G.2.2 (by omega) (by omega) kH hcm (by omega)) ?_
      refine e_goto (tgt := 263) dX4_takeUp_240 (by decide) ?_
      refine e_ret dX4_takeUp_263 rfl ?_
      rw [eT, eA] at hR
      obtain ⟨ha, eha, hao, ha19, hak⟩ : ∃ ha : mH, anH (hs (hs (hs h 6 6 (nI pl)) 6 7 (nI c)) 7 3 (h 21 i)) q.length (nI (100 * d + 10 * v + aHd sg G.1)) = ha ∧ (∀ k, k ≠ 19 → ha k = (hs (hs (hs h 6 6 (nI pl)) 6 7 (nI c)) 7 3 (h 21 i)) k) ∧ (∀ z, z < (q ++ [100 * d + 10 * v + aHd sg G.1]).length → z < 200 → ha 19 z = nI ((q ++ [100 * d + 10 * v + aHd sg G.1]).getD z 0)) ∧ KP h ha := ⟨_, rfl, fun k hk => anH_o _ _ _ hk, anH_19 h19, (((KP.refl h).hs (by omega)).hs (by omega)).hs (by omega) |>.an⟩
      rw [eha]
      have o20 : (entH (hs (hs ha 6 15 (nI (q.length + 1))) 7 3 (h 21 j)) cm (nI (4 + 4 * aHd sg G.1 + d)) (nI v) (h 21 i) (nI j)) 20 = h 20 := (show (entH (hs (hs ha 6 15 (nI (q.length + 1))) 7 3 (h 21 j)) cm (nI (4 + 4 * aHd sg G.1 + d)) (nI v) (h 21 i) (nI j)) 20 = ha 20 from rfl).trans (hao 20 (by decide))
      have o21 : (entH (hs (hs ha 6 15 (nI (q.length + 1))) 7 3 (h 21 j)) cm (nI (4 + 4 * aHd sg G.1 + d)) (nI v) (h 21 i) (nI j)) 21 = h 21 := (show (entH (hs (hs ha 6 15 (nI (q.length + 1))) 7 3 (h 21 j)) cm (nI (4 + 4 * aHd sg G.1 + d)) (nI v) (h 21 i) (nI j)) 21 = ha 21 from rfl).trans (hao 21 (by decide))
      have i22 : (hs (hs ha 6 15 (nI (q.length + 1))) 7 3 (h 21 j)) 22 = h 22 := (show (hs (hs ha 6 15 (nI (q.length + 1))) 7 3 (h 21 j)) 22 = ha 22 from rfl).trans (hao 22 (by decide))
      have i23 : (hs (hs ha 6 15 (nI (q.length + 1))) 7 3 (h 21 j)) 23 = h 23 := (show (hs (hs ha 6 15 (nI (q.length + 1))) 7 3 (h 21 j)) 23 = ha 23 from rfl).trans (hao 23 (by decide))
      have i24 : (hs (hs ha 6 15 (nI (q.length + 1))) 7 3 (h 21 j)) 24 = h 24 := (show (hs (hs ha 6 15 (nI (q.length + 1))) 7 3 (h 21 j)) 24 = ha 24 from rfl).trans (hao 24 (by decide))
      have i6 : ∀ z, ha 6 z = (hs (hs (hs h 6 6 (nI pl)) 6 7 (nI c)) 7 3 (h 21 i)) 6 z := fun z => by rw [hao 6 (by decide)]
      have i7 : ha 7 2 = h 7 2 := by rw [hao 7 (by decide)]; rfl
      have hcl : ∀ c, c < cm → (entH (hs (hs ha 6 15 (nI (q.length + 1))) 7 3 (h 21 j)) cm (nI (4 + 4 * aHd sg G.1 + d)) (nI v) (h 21 i) (nI j)) 22 c = h 22 c ∧ (entH (hs (hs ha 6 15 (nI (q.length + 1))) 7 3 (h 21 j)) cm (nI (4 + 4 * aHd sg G.1 + d)) (nI v) (h 21 i) (nI j)) 23 c = h 23 c ∧ (entH (hs (hs ha 6 15 (nI (q.length + 1))) 7 3 (h 21 j)) cm (nI (4 + 4 * aHd sg G.1 + d)) (nI v) (h 21 i) (nI j)) 24 c = h 24 c := fun c hc => by
        obtain ⟨z1, z2, z3⟩ := ent_lt (hs (hs ha 6 15 (nI (q.length + 1))) 7 3 (h 21 j)) (nI (4 + 4 * aHd sg G.1 + d)) (nI v) (h 21 i) (nI j) hc
        exact ⟨z1.trans (by rw [i22]), z2.trans (by rw [i23]), z3.trans (by rw [i24])⟩
      have hext : ∀ {nd : List Nat} {P : List aF} {t e : Int32}, chn h KS cm nd P t e → chn (entH (hs (hs ha 6 15 (nI (q.length + 1))) 7 3 (h 21 j)) cm (nI (4 + 4 * aHd sg G.1 + d)) (nI v) (h 21 i) (nI j)) (KS ++ [nA ++ [j]]) (cm + 1) nd P t e := by
        intro nd P t e hq
        exact chn_ext (h := h) (h' := (entH (hs (hs ha 6 15 (nI (q.length + 1))) 7 3 (h 21 j)) cm (nI (4 + 4 * aHd sg G.1 + d)) (nI v) (h 21 i) (nI j))) (Z := [nA ++ [j]]) (Nat.le_succ cm) hcl (fun z hz => ⟨by rw [o20], by rw [o21]⟩) hq
      obtain ⟨at1, at2, at3⟩ := ent_at (hs (hs ha 6 15 (nI (q.length + 1))) 7 3 (h 21 j)) cm (nI (4 + 4 * aHd sg G.1 + d)) (nI v) (h 21 i) (nI j)
      have hcG2 : chn h KS cm (nA ++ [j]) (A ++ [G]) (h 21 i) (h 21 j) := chn_join c1 ⟨rfl, ⟨cG, hcG, hmkG, harG, hckG⟩, rfl⟩
      obtain ⟨ah, ha1, ha2⟩ : ∃ a, (nA ++ [j]).head? = some a ∧ h 21 i = nI a := by
        cases nA with
        | nil => cases A with
          | nil => exact ⟨j, rfl, c1⟩
          | cons F A => exact c1.elim
        | cons y ys => cases A with
          | nil => exact c1.elim
          | cons F A => exact ⟨y, rfl, c1.1⟩
      have hKl : (KS ++ [nA ++ [j]]).length = (K ++ [A ++ [G]]).length := by rw [List.length_append, List.length_append, hKS]; rfl
      have hperm : (nC ++ (KS ++ [nA ++ [j]]).flatten).Perm (nd ++ KS.flatten) := by
        rw [List.flatten_append, show [nA ++ [j]].flatten = nA ++ [j] from by simp, en]
        refine (List.perm_append_comm).trans ?_
        rw [List.append_assoc]
        refine (List.perm_append_comm).trans ?_
        rw [show (nA ++ [j]) ++ nC ++ KS.flatten = nA ++ j :: nC ++ KS.flatten from by simp]
      refine hR _ _ ⟨rfl, ((hak.hs (by omega)).hs (by omega)).ent, made, cm + 1, nC, KS ++ [nA ++ [j]], (i6 4).trans h4, rfl, fun _ => ⟨nI_page _, cm, rfl, Nat.lt_succ_self _, at1, Or.inr ⟨nA ++ [j], ah, j, ?_, ha1, by simp, at2.trans ha2, at3⟩⟩, fun z => (by cases z), (i6 9).trans h9, (i6 12).trans h12, (i6 13).trans h13, ⟨(i6 10).trans h10, (i6 11).trans h11, (i6 14).trans h14, by rw [List.length_append]; rfl, ha19⟩, i7.trans hm, rfl, hext c3, hKl, fun z nj L z1 z2 => ?_, hperm.nodup_iff.mpr hnd2, fun z hz => hlt2 z (hperm.mem_iff.mp hz), hmd, by show cm + 1 + 0 ≤ n + 1; omega⟩
      · rw [Nat.add_sub_cancel, ← hKS, List.getElem?_append_right (Nat.le_refl _), Nat.sub_self]
        rfl
      · by_cases hz : z < KS.length
        · rw [List.getElem?_append_left hz] at z1
          rw [List.getElem?_append_left (by omega)] at z2
          obtain ⟨t, e, z3⟩ := hseg z nj L z1 z2
          exact ⟨t, e, hext z3⟩
        · rw [List.getElem?_append_right (by omega)] at z1
          rw [List.getElem?_append_right (by omega)] at z2
          have hz0 : z = KS.length := by
            have := (List.getElem?_eq_some_iff.mp z1).1
            simp only [List.length_cons, List.length_nil] at this
            omega
          subst hz0
          rw [Nat.sub_self] at z1
          rw [hKS, Nat.sub_self] at z2
          cases z1
          cases z2
          exact ⟨_, _, hext hcG2⟩
    · intro e_63_f c_63_f
      exfalso; omega
  · intro e_10_f c_10_f
    exfalso; omega
set_option maxHeartbeats 4000000 in
theorem t_take_ask0r (l : Launch) {sg : Nat → Int32} {ln sz : Nat → Nat} {r : List Nat} {rc rr : Nat} (hB : aWB sg ln sz) (h : mH) (hC : CB sg ln sz h) {v pl x k w : Nat} {P : List aF} {K : List (List aF)} {n g u : Nat} {q : List Nat} (hJ : aJ sg sz r (false, 0, v, 0, (pl, x, k, w) :: P, K, n, g, u, q)) (hRC : RC rc h (false, 0, v, 0, (pl, x, k, w) :: P, K, n, g, u, q)) {d : Nat} (hd : d < 3) (hsd : (sg pl).toInt = 112 + (d : Int)) (hN : aNr sg sz d P = none) (hCR : CR rc rr r h) (hS : Sh0[rc]? = some (.inl (3, [rr + 3, 0]))) (hA : Sh0[rr]? = some (.inr 8)) (hrc : rc = 3 ∨ rc = 4 ∨ rc = 5) (hrr : 16 ≤ rr ∧ rr ≤ 18) (hu : u < r.length) : mG l Sh0 iX4_takeUp [.inr 6] h (fun v' h' => v' = none ∧ KP h h' ∧ RO rc h' (aTop sg ln sz r v pl x k w P K n g u q)) := by
  obtain ⟨made, cm, nd, KS, h4, h5, hb, hb2, h9, h12, h13, ⟨h10, h11, h14, h15, h19⟩, hm, hcm, hch, hKS, hseg, hnd, hlt, hmd, hcc⟩ := hRC
  obtain ⟨jx, jb, jP, jK, jn, jg, ju, jq, jc, gs, g1, g2, g3, g4⟩ := hJ
  obtain ⟨i, nd, rfl⟩ : ∃ (i : Nat) (nd' : List Nat), nd = i :: nd' := by
    cases nd with
    | nil => exact hch.elim
    | cons i nd => exact ⟨i, nd, rfl⟩
  obtain ⟨h73, ⟨c, hc, hmk, har, hck⟩, hch2⟩ := hch
  dsimp only at hmk har hck
  have h68 : h 6 8 = nI v := hb2 rfl
  have hi : i < made := hlt i List.mem_cons_self
  have hM : made ≤ 8200 := by omega
  have hcc : cm + 1 ≤ n + 1 := hcc
  have hcc2 : cm ≤ 200 := by omega
  obtain ⟨f1, f2, f3, f4, f5, f6, f7⟩ := jP (pl, x, k, w) List.mem_cons_self
  dsimp only at f1 f2 f3 f4 f5 f6 f7
  have hp8 : pl < 800 := f1.1
  have hsg : h 13 pl = sg pl := hC.1 pl hp8
  have hB9 := hB.2 pl f1
  have hnd1 : i ∉ nd ++ KS.flatten := (List.nodup_cons.mp (by simpa using hnd)).1
  have hnd2 : (nd ++ KS.flatten).Nodup := (List.nodup_cons.mp (by simpa using hnd)).2
  have hlt2 : ∀ j ∈ nd ++ KS.flatten, j < made := fun j hj => hlt j (by rw [List.cons_append]; exact List.mem_cons_of_mem _ hj)
  have h1 : aOf (sg pl).toInt = 1 := by rcases (show d = 0 ∨ d = 1 ∨ d = 2 by omega) with z | z | z <;> subst z <;> rw [hsd] <;> decide
  have hs3 : (sg pl).toInt = 112 ∨ (sg pl).toInt = 113 ∨ (sg pl).toInt = 114 := by omega
  have hdd : ((sg pl).toInt - 112).toNat = d := by omega
  have hP2 : ∀ F ∈ P, aFok sg sz K.length F := fun F hF => jP F (List.mem_cons_of_mem _ hF)
  have hPl : P.length ≤ 200 := by have := aPt_len g2.2; omega
  have hql : q.length < 100000 := by
    have z1 : K.length + 1 ≤ n + 1 := jc
    have z2 : r.length ≤ 8 := hCR.2.1
    omega
  have hnl : ∀ j ∈ nd, j < made := fun j hj => hlt2 j (List.mem_append_left _ hj)
  have eT : aTop sg ln sz r v pl x k w P K n g u q = aAsk sg sz r d v P K n g u q := by
    unfold aTop
    rw [if_neg (by omega), if_neg (by omega), if_neg (by omega), if_neg (by omega), if_pos hs3, hdd]
  have eA : aAsk sg sz r d v P K n g u q = .inl (false, 0, r.getD u 0, 0, P, K, n, g, u + 1, q ++ [100 * d + 10 * v + 9]) := by
    unfold aAsk
    rw [hN]
    exact if_pos hu
  have hnr : nrN sg sz d nd P = -1 := nrN_none (aNr_none hN)
  obtain ⟨r1, r2, r3⟩ := hCR
  have hrP : (hs (hs (hs h 6 6 (nI pl)) 6 7 (nI c)) 7 3 (h 21 i)) rc 1 = nI r.length := by rw [hs_ne _ _ (by omega), hs_ne _ _ (by omega), hs_ne _ _ (by omega)]; exact r1
  have hrV : (hs (hs (hs h 6 6 (nI pl)) 6 7 (nI c)) 7 3 (h 21 i)) rr u = h rr u := by rw [hs_ne _ _ (by omega), hs_ne _ _ (by omega), hs_ne _ _ (by omega)]
  intro RT hR
  show mE l Sh0 none iX4_takeUp RT 0 [some (.inr 6), none, none] [] h
  refine e_aload_n (i := 0) dX4_takeUp_0 rfl rfl ?_
  refine e_getR (r := 7) dX4_takeUp_1 fl_X4_12 sh_6 fj_6_1 ?_
  refine e_getI (x := nI i) dX4_takeUp_4 fl_X4_115 sh_7 fj_7_3 h73 ?_
  refine e_istore_n (i := 1) (ls2 := [some (.inr 6), some (.inl (nI i)), none]) dX4_takeUp_7 rfl (Nat.le_of_ble_eq_true rfl) rfl ?_
  refine e_iload_n (i := 1) dX4_takeUp_8 rfl rfl ?_
  refine e_iconst (v := (-1)) dX4_takeUp_9 (by decide) ?_
  refine b_icmp_ne (X := ((i : Nat) : Int)) (Y := (-1)) (tgt := 22) (nI_toInt (by omega)) (by decide) dX4_takeUp_10 (by decide) ?_ ?_
  · intro e_10_t c_10_t
    refine e_aload_n (i := 0) dX4_takeUp_22 rfl rfl ?_
    refine e_aload_n (i := 0) dX4_takeUp_23 rfl rfl ?_
    refine e_getR (r := 7) dX4_takeUp_24 fl_X4_12 sh_6 fj_6_1 ?_
    refine e_iload_n (i := 1) dX4_takeUp_27 rfl rfl ?_
    refine e_invVi (As := [.inl (nI i)]) (v := nI pl) (h2 := h) dX4_takeUp_28 lk_X4_118 yv_X5_place rfl rfl rfl (Nat.le_of_ble_eq_true rfl) sh_7 ci_X5 (Nat.le_of_ble_eq_true rfl) ⟨Nat.le_of_ble_eq_true rfl, Nat.le_of_ble_eq_true rfl⟩ (k_T_placeX l h i made hm hi hM hmk hp8 (by omega) (by omega)) ?_
    refine e_putI dX4_takeUp_31 fl_X4_86 fp_X4_6 sh_6 fj_6_6 ?_
    refine e_aload_n (i := 0) dX4_takeUp_34 rfl rfl ?_
    refine e_aload_n (i := 0) dX4_takeUp_35 rfl rfl ?_
    refine e_getR (r := 7) dX4_takeUp_36 fl_X4_12 sh_6 fj_6_1 ?_
    refine e_iload_n (i := 1) dX4_takeUp_39 rfl rfl ?_
    refine e_invVi (As := [.inl (nI i)]) (v := nI c) (h2 := (hs h 6 6 (nI pl))) dX4_takeUp_40 lk_X4_120 yv_X5_call rfl rfl rfl (Nat.le_of_ble_eq_true rfl) sh_7 ci_X5 (Nat.le_of_ble_eq_true rfl) ⟨Nat.le_of_ble_eq_true rfl, Nat.le_of_ble_eq_true rfl⟩ (k_T_callX l (hs h 6 6 (nI pl)) i made hm hi hM hmk hp8 (by omega) (by omega)) ?_
    refine e_putI dX4_takeUp_43 fl_X4_83 fp_X4_7 sh_6 fj_6_7 ?_
    refine e_aload_n (i := 0) dX4_takeUp_46 rfl rfl ?_
    refine e_getR (r := 2) dX4_takeUp_47 fl_X4_29 sh_6 fj_6_0 ?_
    refine e_aload_n (i := 0) dX4_takeUp_50 rfl rfl ?_
    refine e_getI (x := nI pl) dX4_takeUp_51 fl_X4_86 sh_6 fj_6_6 rfl ?_
    refine e_invVi (As := [.inl (nI pl)]) (v := sg pl) (h2 := (hs (hs h 6 6 (nI pl)) 6 7 (nI c))) dX4_takeUp_54 lk_X4_92 yv_X0_sign rfl rfl rfl (Nat.le_of_ble_eq_true rfl) sh_2 ci_X0 (Nat.le_of_ble_eq_true rfl) ⟨Nat.le_of_ble_eq_true rfl, Nat.le_of_ble_eq_true rfl⟩ (k_B_signX l (hs (hs h 6 6 (nI pl)) 6 7 (nI c)) pl hp8 hsg) ?_
    refine e_istore_n (i := 2) (ls2 := [some (.inr 6), some (.inl (nI i)), some (.inl (sg pl))]) dX4_takeUp_57 rfl (Nat.le_of_ble_eq_true rfl) rfl ?_
    refine e_iload_n (i := 2) dX4_takeUp_58 rfl rfl ?_
    refine e_invSi (As := [.inl (sg pl)]) (v := aI (sg pl).toInt) (h2 := (hs (hs h 6 6 (nI pl)) 6 7 (nI c))) dX4_takeUp_59 lk_X4_105 ys_X7_textsOf rfl rfl rfl (Nat.le_of_ble_eq_true rfl) (Nat.le_of_ble_eq_true rfl) ⟨Nat.le_of_ble_eq_true rfl, Nat.le_of_ble_eq_true rfl⟩ (k_textsOf l (hs (hs h 6 6 (nI pl)) 6 7 (nI c)) (sg pl)) ?_
    refine e_iconst (v := 2) dX4_takeUp_62 (by decide) ?_
    refine b_icmp_ne (X := aOf (sg pl).toInt) (Y := 2) (tgt := 118) (aI_toInt _) (by decide) dX4_takeUp_63 (by decide) ?_ ?_
    · intro e_63_t c_63_t
      refine e_aload_n (i := 0) dX4_takeUp_118 rfl rfl ?_
      refine e_getR (r := 7) dX4_takeUp_119 fl_X4_12 sh_6 fj_6_1 ?_
      refine e_aload_n (i := 0) dX4_takeUp_122 rfl rfl ?_
      refine e_getR (r := 7) dX4_takeUp_123 fl_X4_12 sh_6 fj_6_1 ?_
      refine e_iload_n (i := 1) dX4_takeUp_126 rfl rfl ?_
      refine e_invVi (As := [.inl (nI i)]) (v := h 21 i) (h2 := (hs (hs h 6 6 (nI pl)) 6 7 (nI c))) dX4_takeUp_127 lk_X4_132 yv_X5_below rfl rfl rfl (Nat.le_of_ble_eq_true rfl) sh_7 ci_X5 (Nat.le_of_ble_eq_true rfl) ⟨Nat.le_of_ble_eq_true rfl, Nat.le_of_ble_eq_true rfl⟩ (k_T_belowX l (hs (hs h 6 6 (nI pl)) 6 7 (nI c)) i made hm hi hM rfl) ?_
      refine e_putI dX4_takeUp_130 fl_X4_115 fp_X5_3 sh_7 fj_7_3 ?_
      refine e_iload_n (i := 2) dX4_takeUp_133 rfl rfl ?_
      refine e_lookup (off := 90) (tgt := 224) dX4_takeUp_134 (by decide) (by rcases hs3 with z | z | z <;> rw [z] <;> decide) (by decide) ?_
      refine e_aload_n (i := 0) dX4_takeUp_224 rfl rfl ?_
      refine e_iload_n (i := 2) dX4_takeUp_225 rfl rfl ?_
      refine e_bipush (v := 112) dX4_takeUp_226 (by decide) ?_
      refine z_isub (z := nI d) (sub112 hsd) dX4_takeUp_228 ?_
      refine e_aload_n (i := 0) dX4_takeUp_229 rfl rfl ?_
      refine e_iload_n (i := 2) dX4_takeUp_230 rfl rfl ?_
      refine e_bipush (v := 112) dX4_takeUp_231 (by decide) ?_
      refine z_isub (z := nI d) (sub112 hsd) dX4_takeUp_233 ?_
      refine e_invVi (As := [.inl (nI d)]) (v := (-1)) (h2 := (hs (hs (hs h 6 6 (nI pl)) 6 7 (nI c)) 7 3 (h 21 i))) dX4_takeUp_234 lk_X4_147 yv_X4_nearest rfl rfl rfl (Nat.le_of_ble_eq_true rfl) sh_6 ci_X4 (Nat.le_of_ble_eq_true rfl) ⟨Nat.le_of_ble_eq_true rfl, Nat.le_of_ble_eq_true rfl⟩ (hnr ▸ k_X_nearest (KS := KS) (cm := cm) (made := made) (nK := K.length) l hB (hs (hs (hs h 6 6 (nI pl)) 6 7 (nI c)) 7 3 (h 21 i)) hC hd hm hM (by omega) nd P (chn_same (h := h) (h' := (hs (hs (hs h 6 6 (nI pl)) 6 7 (nI c)) 7 3 (h 21 i))) rfl rfl rfl rfl rfl hch2) hnl hP2 (by omega)) ?_
      refine e_invVv (As := [.inl (nI d), .inl (-1)]) (h2 := (hs (hs (hs (hs (anH (hs (hs (hs h 6 6 (nI pl)) 6 7 (nI c)) 7 3 (h 21 i)) q.length (nI (100 * d + 10 * v + 9))) 6 15 (nI (q.length + 1))) 6 8 (nI (r.getD u 0))) 6 5 0) 6 11 (nI (u + 1)))) (ty := .int) (v := 0) dX4_takeUp_237 lk_X4_150 yv_X4_ask rfl rfl rfl (Nat.le_of_ble_eq_true rfl) sh_6 ci_X4 (Nat.le_of_ble_eq_true rfl) ⟨Nat.le_of_ble_eq_true rfl, Nat.le_of_ble_eq_true rfl⟩ (k_X_ask0r l (hs (hs (hs h 6 6 (nI pl)) 6 7 (nI c)) 7 3 (h 21 i)) d v q.length hd jx hql h68 h15 rc rr u r.length hS hA hrc hrr h4 h11 hrP r2 ju (r.getD u 0) (hrV.trans (r3 u hu)) hu) ?_
      refine e_goto (tgt := 263) dX4_takeUp_240 (by decide) ?_
      refine e_ret dX4_takeUp_263 rfl ?_
      rw [eT, eA] at hR
      obtain ⟨ha, eha, hao, ha19, hak⟩ : ∃ ha : mH, (anH (hs (hs (hs h 6 6 (nI pl)) 6 7 (nI c)) 7 3 (h 21 i)) q.length (nI (100 * d + 10 * v + 9))) = ha ∧ (∀ k, k ≠ 19 → ha k = (hs (hs (hs h 6 6 (nI pl)) 6 7 (nI c)) 7 3 (h 21 i)) k) ∧ (∀ z, z < (q ++ [100 * d + 10 * v + 9]).length → z < 200 → ha 19 z = nI ((q ++ [100 * d + 10 * v + 9]).getD z 0)) ∧ KP h ha := ⟨_, rfl, fun k hk => anH_o _ _ _ hk, anH_19 h19, (((KP.refl h).hs (by omega)).hs (by omega)).hs (by omega) |>.an⟩
      rw [eha]
      have i6 : ∀ z, ha 6 z = (hs (hs (hs h 6 6 (nI pl)) 6 7 (nI c)) 7 3 (h 21 i)) 6 z := fun z => by rw [hao 6 (by decide)]
      have i7 : ∀ z, ha 7 z = (hs (hs (hs h 6 6 (nI pl)) 6 7 (nI c)) 7 3 (h 21 i)) 7 z := fun z => by rw [hao 7 (by decide)]
      have i8 : ha 8 3 = (hs (hs (hs h 6 6 (nI pl)) 6 7 (nI c)) 7 3 (h 21 i)) 8 3 := by rw [hao 8 (by decide)]
      have hext : ∀ {nd : List Nat} {P : List aF} {t e : Int32}, chn h KS cm nd P t e → chn (hs (hs (hs (hs ha 6 15 (nI (q.length + 1))) 6 8 (nI (r.getD u 0))) 6 5 0) 6 11 (nI (u + 1))) KS cm nd P t e := fun hq => chn_same (h := h) (h' := (hs (hs (hs (hs ha 6 15 (nI (q.length + 1))) 6 8 (nI (r.getD u 0))) 6 5 0) 6 11 (nI (u + 1)))) ((show (hs (hs (hs (hs ha 6 15 (nI (q.length + 1))) 6 8 (nI (r.getD u 0))) 6 5 0) 6 11 (nI (u + 1))) 20 = ha 20 from rfl).trans (hao 20 (by decide))) ((show (hs (hs (hs (hs ha 6 15 (nI (q.length + 1))) 6 8 (nI (r.getD u 0))) 6 5 0) 6 11 (nI (u + 1))) 21 = ha 21 from rfl).trans (hao 21 (by decide))) ((show (hs (hs (hs (hs ha 6 15 (nI (q.length + 1))) 6 8 (nI (r.getD u 0))) 6 5 0) 6 11 (nI (u + 1))) 22 = ha 22 from rfl).trans (hao 22 (by decide))) ((show (hs (hs (hs (hs ha 6 15 (nI (q.length + 1))) 6 8 (nI (r.getD u 0))) 6 5 0) 6 11 (nI (u + 1))) 23 = ha 23 from rfl).trans (hao 23 (by decide))) ((show (hs (hs (hs (hs ha 6 15 (nI (q.length + 1))) 6 8 (nI (r.getD u 0))) 6 5 0) 6 11 (nI (u + 1))) 24 = ha 24 from rfl).trans (hao 24 (by decide))) hq
      refine hR _ _ ⟨rfl, ((((hak.hs (by omega)).hs (by omega)).hs (by omega)).hs (by omega)), made, cm, nd, KS, (i6 4).trans h4, rfl, fun z => (by cases z), fun _ => rfl, (i6 9).trans h9, (i6 12).trans h12, (i6 13).trans h13, ⟨(i6 10).trans h10, rfl, (i6 14).trans h14, by rw [List.length_append]; rfl, ha19⟩, (i7 2).trans hm, i8.trans hcm, ?_, hKS, fun j nj L z1 z2 => (hseg j nj L z1 z2).imp (fun _ z => z.imp (fun _ z => hext z)), hnd2, hlt2, hmd, hcc⟩
      rw [show (hs (hs (hs (hs ha 6 15 (nI (q.length + 1))) 6 8 (nI (r.getD u 0))) 6 5 0) 6 11 (nI (u + 1))) 7 3 = h 21 i from (i7 3)]
      exact hext hch2
    · intro e_63_f c_63_f
      exfalso; omega
  · intro e_10_f c_10_f
    exfalso; omega
set_option maxHeartbeats 4000000 in
theorem t_take_ask0e (l : Launch) {sg : Nat → Int32} {ln sz : Nat → Nat} {r : List Nat} {rc rr : Nat} (hB : aWB sg ln sz) (h : mH) (hC : CB sg ln sz h) {v pl x k w : Nat} {P : List aF} {K : List (List aF)} {n g u : Nat} {q : List Nat} (hJ : aJ sg sz r (false, 0, v, 0, (pl, x, k, w) :: P, K, n, g, u, q)) (hRC : RC rc h (false, 0, v, 0, (pl, x, k, w) :: P, K, n, g, u, q)) {d : Nat} (hd : d < 3) (hsd : (sg pl).toInt = 112 + (d : Int)) (hN : aNr sg sz d P = none) (hCR : CR rc rr r h) (hS : Sh0[rc]? = some (.inl (3, [rr + 3, 0]))) (hA : Sh0[rr]? = some (.inr 8)) (hrc : rc = 3 ∨ rc = 4 ∨ rc = 5) (hrr : 16 ≤ rr ∧ rr ≤ 18) (hu : ¬ u < r.length) : mG l Sh0 iX4_takeUp [.inr 6] h (fun v' h' => v' = none ∧ KP h h' ∧ RO rc h' (aTop sg ln sz r v pl x k w P K n g u q)) := by
  obtain ⟨made, cm, nd, KS, h4, h5, hb, hb2, h9, h12, h13, ⟨h10, h11, h14, h15, h19⟩, hm, hcm, hch, hKS, hseg, hnd, hlt, hmd, hcc⟩ := hRC
  obtain ⟨jx, jb, jP, jK, jn, jg, ju, jq, jc, gs, g1, g2, g3, g4⟩ := hJ
  obtain ⟨i, nd, rfl⟩ : ∃ (i : Nat) (nd' : List Nat), nd = i :: nd' := by
    cases nd with
    | nil => exact hch.elim
    | cons i nd => exact ⟨i, nd, rfl⟩
  obtain ⟨h73, ⟨c, hc, hmk, har, hck⟩, hch2⟩ := hch
  dsimp only at hmk har hck
  have h68 : h 6 8 = nI v := hb2 rfl
  have hi : i < made := hlt i List.mem_cons_self
  have hM : made ≤ 8200 := by omega
  have hcc : cm + 1 ≤ n + 1 := hcc
  have hcc2 : cm ≤ 200 := by omega
  obtain ⟨f1, f2, f3, f4, f5, f6, f7⟩ := jP (pl, x, k, w) List.mem_cons_self
  dsimp only at f1 f2 f3 f4 f5 f6 f7
  have hp8 : pl < 800 := f1.1
  have hsg : h 13 pl = sg pl := hC.1 pl hp8
  have hB9 := hB.2 pl f1
  have hnd1 : i ∉ nd ++ KS.flatten := (List.nodup_cons.mp (by simpa using hnd)).1
  have hnd2 : (nd ++ KS.flatten).Nodup := (List.nodup_cons.mp (by simpa using hnd)).2
  have hlt2 : ∀ j ∈ nd ++ KS.flatten, j < made := fun j hj => hlt j (by rw [List.cons_append]; exact List.mem_cons_of_mem _ hj)
  have h1 : aOf (sg pl).toInt = 1 := by rcases (show d = 0 ∨ d = 1 ∨ d = 2 by omega) with z | z | z <;> subst z <;> rw [hsd] <;> decide
  have hs3 : (sg pl).toInt = 112 ∨ (sg pl).toInt = 113 ∨ (sg pl).toInt = 114 := by omega
  have hdd : ((sg pl).toInt - 112).toNat = d := by omega
  have hP2 : ∀ F ∈ P, aFok sg sz K.length F := fun F hF => jP F (List.mem_cons_of_mem _ hF)
  have hPl : P.length ≤ 200 := by have := aPt_len g2.2; omega
  have hql : q.length < 100000 := by
    have z1 : K.length + 1 ≤ n + 1 := jc
    have z2 : r.length ≤ 8 := hCR.2.1
    omega
  have hnl : ∀ j ∈ nd, j < made := fun j hj => hlt2 j (List.mem_append_left _ hj)
  have eT : aTop sg ln sz r v pl x k w P K n g u q = aAsk sg sz r d v P K n g u q := by
    unfold aTop
    rw [if_neg (by omega), if_neg (by omega), if_neg (by omega), if_neg (by omega), if_pos hs3, hdd]
  have eA : aAsk sg sz r d v P K n g u q = .inr (8, (d : Int), (v : Int), n, g, u, q ++ [100 * d + 10 * v + 9]) := by
    unfold aAsk
    rw [hN]
    exact if_neg hu
  have hnr : nrN sg sz d nd P = -1 := nrN_none (aNr_none hN)
  obtain ⟨r1, r2, r3⟩ := hCR
  have hrP : (hs (hs (hs h 6 6 (nI pl)) 6 7 (nI c)) 7 3 (h 21 i)) rc 1 = nI r.length := by rw [hs_ne _ _ (by omega), hs_ne _ _ (by omega), hs_ne _ _ (by omega)]; exact r1
  have hrV : (hs (hs (hs h 6 6 (nI pl)) 6 7 (nI c)) 7 3 (h 21 i)) rr u = h rr u := by rw [hs_ne _ _ (by omega), hs_ne _ _ (by omega), hs_ne _ _ (by omega)]
  intro RT hR
  show mE l Sh0 none iX4_takeUp RT 0 [some (.inr 6), none, none] [] h
  refine e_aload_n (i := 0) dX4_takeUp_0 rfl rfl ?_
  refine e_getR (r := 7) dX4_takeUp_1 fl_X4_12 sh_6 fj_6_1 ?_
  refine e_getI (x := nI i) dX4_takeUp_4 fl_X4_115 sh_7 fj_7_3 h73 ?_
  refine e_istore_n (i := 1) (ls2 := [some (.inr 6), some (.inl (nI i)), none]) dX4_takeUp_7 rfl (Nat.le_of_ble_eq_true rfl) rfl ?_
  refine e_iload_n (i := 1) dX4_takeUp_8 rfl rfl ?_
  refine e_iconst (v := (-1)) dX4_takeUp_9 (by decide) ?_
  refine b_icmp_ne (X := ((i : Nat) : Int)) (Y := (-1)) (tgt := 22) (nI_toInt (by omega)) (by decide) dX4_takeUp_10 (by decide) ?_ ?_
  · intro e_10_t c_10_t
    refine e_aload_n (i := 0) dX4_takeUp_22 rfl rfl ?_
    refine e_aload_n (i := 0) dX4_takeUp_23 rfl rfl ?_
    refine e_getR (r := 7) dX4_takeUp_24 fl_X4_12 sh_6 fj_6_1 ?_
    refine e_iload_n (i := 1) dX4_takeUp_27 rfl rfl ?_
    refine e_invVi (As := [.inl (nI i)]) (v := nI pl) (h2 := h) dX4_takeUp_28 lk_X4_118 yv_X5_place rfl rfl rfl (Nat.le_of_ble_eq_true rfl) sh_7 ci_X5 (Nat.le_of_ble_eq_true rfl) ⟨Nat.le_of_ble_eq_true rfl, Nat.le_of_ble_eq_true rfl⟩ (k_T_placeX l h i made hm hi hM hmk hp8 (by omega) (by omega)) ?_
    refine e_putI dX4_takeUp_31 fl_X4_86 fp_X4_6 sh_6 fj_6_6 ?_
    refine e_aload_n (i := 0) dX4_takeUp_34 rfl rfl ?_
    refine e_aload_n (i := 0) dX4_takeUp_35 rfl rfl ?_
    refine e_getR (r := 7) dX4_takeUp_36 fl_X4_12 sh_6 fj_6_1 ?_
    refine e_iload_n (i := 1) dX4_takeUp_39 rfl rfl ?_
    refine e_invVi (As := [.inl (nI i)]) (v := nI c) (h2 := (hs h 6 6 (nI pl))) dX4_takeUp_40 lk_X4_120 yv_X5_call rfl rfl rfl (Nat.le_of_ble_eq_true rfl) sh_7 ci_X5 (Nat.le_of_ble_eq_true rfl) ⟨Nat.le_of_ble_eq_true rfl, Nat.le_of_ble_eq_true rfl⟩ (k_T_callX l (hs h 6 6 (nI pl)) i made hm hi hM hmk hp8 (by omega) (by omega)) ?_
    refine e_putI dX4_takeUp_43 fl_X4_83 fp_X4_7 sh_6 fj_6_7 ?_
    refine e_aload_n (i := 0) dX4_takeUp_46 rfl rfl ?_
    refine e_getR (r := 2) dX4_takeUp_47 fl_X4_29 sh_6 fj_6_0 ?_
    refine e_aload_n (i := 0) dX4_takeUp_50 rfl rfl ?_
    refine e_getI (x := nI pl) dX4_takeUp_51 fl_X4_86 sh_6 fj_6_6 rfl ?_
    refine e_invVi (As := [.inl (nI pl)]) (v := sg pl) (h2 := (hs (hs h 6 6 (nI pl)) 6 7 (nI c))) dX4_takeUp_54 lk_X4_92 yv_X0_sign rfl rfl rfl (Nat.le_of_ble_eq_true rfl) sh_2 ci_X0 (Nat.le_of_ble_eq_true rfl) ⟨Nat.le_of_ble_eq_true rfl, Nat.le_of_ble_eq_true rfl⟩ (k_B_signX l (hs (hs h 6 6 (nI pl)) 6 7 (nI c)) pl hp8 hsg) ?_
    refine e_istore_n (i := 2) (ls2 := [some (.inr 6), some (.inl (nI i)), some (.inl (sg pl))]) dX4_takeUp_57 rfl (Nat.le_of_ble_eq_true rfl) rfl ?_
    refine e_iload_n (i := 2) dX4_takeUp_58 rfl rfl ?_
    refine e_invSi (As := [.inl (sg pl)]) (v := aI (sg pl).toInt) (h2 := (hs (hs h 6 6 (nI pl)) 6 7 (nI c))) dX4_takeUp_59 lk_X4_105 ys_X7_textsOf rfl rfl rfl (Nat.le_of_ble_eq_true rfl) (Nat.le_of_ble_eq_true rfl) ⟨Nat.le_of_ble_eq_true rfl, Nat.le_of_ble_eq_true rfl⟩ (k_textsOf l (hs (hs h 6 6 (nI pl)) 6 7 (nI c)) (sg pl)) ?_
    refine e_iconst (v := 2) dX4_takeUp_62 (by decide) ?_
    refine b_icmp_ne (X := aOf (sg pl).toInt) (Y := 2) (tgt := 118) (aI_toInt _) (by decide) dX4_takeUp_63 (by decide) ?_ ?_
    · intro e_63_t c_63_t
      refine e_aload_n (i := 0) dX4_takeUp_118 rfl rfl ?_
      refine e_getR (r := 7) dX4_takeUp_119 fl_X4_12 sh_6 fj_6_1 ?_
      refine e_aload_n (i := 0) dX4_takeUp_122 rfl rfl ?_
      refine e_getR (r := 7) dX4_takeUp_123 fl_X4_12 sh_6 fj_6_1 ?_
      refine e_iload_n (i := 1) dX4_takeUp_126 rfl rfl ?_
      refine e_invVi (As := [.inl (nI i)]) (v := h 21 i) (h2 := (hs (hs h 6 6 (nI pl)) 6 7 (nI c))) dX4_takeUp_127 lk_X4_132 yv_X5_below rfl rfl rfl (Nat.le_of_ble_eq_true rfl) sh_7 ci_X5 (Nat.le_of_ble_eq_true rfl) ⟨Nat.le_of_ble_eq_true rfl, Nat.le_of_ble_eq_true rfl⟩ (k_T_belowX l (hs (hs h 6 6 (nI pl)) 6 7 (nI c)) i made hm hi hM rfl) ?_
      refine e_putI dX4_takeUp_130 fl_X4_115 fp_X5_3 sh_7 fj_7_3 ?_
      refine e_iload_n (i := 2) dX4_takeUp_133 rfl rfl ?_
      refine e_lookup (off := 90) (tgt := 224) dX4_takeUp_134 (by decide) (by rcases hs3 with z | z | z <;> rw [z] <;> decide) (by decide) ?_
      refine e_aload_n (i := 0) dX4_takeUp_224 rfl rfl ?_
      refine e_iload_n (i := 2) dX4_takeUp_225 rfl rfl ?_
      refine e_bipush (v := 112) dX4_takeUp_226 (by decide) ?_
      refine z_isub (z := nI d) (sub112 hsd) dX4_takeUp_228 ?_
      refine e_aload_n (i := 0) dX4_takeUp_229 rfl rfl ?_
      refine e_iload_n (i := 2) dX4_takeUp_230 rfl rfl ?_
      refine e_bipush (v := 112) dX4_takeUp_231 (by decide) ?_
      refine z_isub (z := nI d) (sub112 hsd) dX4_takeUp_233 ?_
      refine e_invVi (As := [.inl (nI d)]) (v := (-1)) (h2 := (hs (hs (hs h 6 6 (nI pl)) 6 7 (nI c)) 7 3 (h 21 i))) dX4_takeUp_234 lk_X4_147 yv_X4_nearest rfl rfl rfl (Nat.le_of_ble_eq_true rfl) sh_6 ci_X4 (Nat.le_of_ble_eq_true rfl) ⟨Nat.le_of_ble_eq_true rfl, Nat.le_of_ble_eq_true rfl⟩ (hnr ▸ k_X_nearest (KS := KS) (cm := cm) (made := made) (nK := K.length) l hB (hs (hs (hs h 6 6 (nI pl)) 6 7 (nI c)) 7 3 (h 21 i)) hC hd hm hM (by omega) nd P (chn_same (h := h) (h' := (hs (hs (hs h 6 6 (nI pl)) 6 7 (nI c)) 7 3 (h 21 i))) rfl rfl rfl rfl rfl hch2) hnl hP2 (by omega)) ?_
      refine e_invVv (As := [.inl (nI d), .inl (-1)]) (h2 := (hs (hs (hs (hs (anH (hs (hs (hs h 6 6 (nI pl)) 6 7 (nI c)) 7 3 (h 21 i)) q.length (nI (100 * d + 10 * v + 9))) 6 15 (nI (q.length + 1))) 6 9 8) 6 12 (nI d)) 6 13 (nI v))) (ty := .int) (v := 0) dX4_takeUp_237 lk_X4_150 yv_X4_ask rfl rfl rfl (Nat.le_of_ble_eq_true rfl) sh_6 ci_X4 (Nat.le_of_ble_eq_true rfl) ⟨Nat.le_of_ble_eq_true rfl, Nat.le_of_ble_eq_true rfl⟩ (k_X_ask0e l (hs (hs (hs h 6 6 (nI pl)) 6 7 (nI c)) 7 3 (h 21 i)) d v q.length hd jx hql h68 h15 rc rr u r.length hS hA hrc hrr h4 h11 hrP r2 ju (by omega)) ?_
      refine e_goto (tgt := 263) dX4_takeUp_240 (by decide) ?_
      refine e_ret dX4_takeUp_263 rfl ?_
      rw [eT, eA] at hR
      obtain ⟨ha, eha, hao, ha19, hak⟩ : ∃ ha : mH, (anH (hs (hs (hs h 6 6 (nI pl)) 6 7 (nI c)) 7 3 (h 21 i)) q.length (nI (100 * d + 10 * v + 9))) = ha ∧ (∀ k, k ≠ 19 → ha k = (hs (hs (hs h 6 6 (nI pl)) 6 7 (nI c)) 7 3 (h 21 i)) k) ∧ (∀ z, z < (q ++ [100 * d + 10 * v + 9]).length → z < 200 → ha 19 z = nI ((q ++ [100 * d + 10 * v + 9]).getD z 0)) ∧ KP h ha := ⟨_, rfl, fun k hk => anH_o _ _ _ hk, anH_19 h19, (((KP.refl h).hs (by omega)).hs (by omega)).hs (by omega) |>.an⟩
      rw [eha]
      have i6 : ∀ z, ha 6 z = (hs (hs (hs h 6 6 (nI pl)) 6 7 (nI c)) 7 3 (h 21 i)) 6 z := fun z => by rw [hao 6 (by decide)]
      have i7 : ∀ z, ha 7 z = (hs (hs (hs h 6 6 (nI pl)) 6 7 (nI c)) 7 3 (h 21 i)) 7 z := fun z => by rw [hao 7 (by decide)]
      have i8 : ha 8 3 = (hs (hs (hs h 6 6 (nI pl)) 6 7 (nI c)) 7 3 (h 21 i)) 8 3 := by rw [hao 8 (by decide)]
      exact hR _ _ ⟨rfl, ((((hak.hs (by omega)).hs (by omega)).hs (by omega)).hs (by omega)), (by show (8 : Int32).toInt = 8; decide), (by show (nI d).toInt = (d : Int); exact nI_toInt (by omega)), (by show (nI v).toInt = (v : Int); exact nI_toInt (by omega)), (i6 10).trans h10, (i6 11).trans h11, (i6 14).trans h14, by rw [List.length_append]; rfl, ha19⟩
    · intro e_63_f c_63_f
      exfalso; omega
  · intro e_10_f c_10_f
    exfalso; omega
end
