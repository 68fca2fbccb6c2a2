-- ===== PART A: goes FIRST, ahead of the names: the tables' words, and 'selects' of the private methods out of them =====
/-- a private method of a class that the tables say can be made, by its rows of tables_1 -/
def lw_okq (q : MethodName × Nat) : Prop := (q.1.cls ≠ "java/lang/invoke/MethodHandle" ∧ q.1.cls ≠ "java/lang/invoke/VarHandle") ∧ Cond.instantiable q.1.cls q.2 ∈ tables_1 ∧ Cond.privateMethod q.1 ∈ tables_1 ∧ Cond.instanceMethod q.1 ∈ tables_1
theorem lw_p0 : lw_okq (⟨"PostShares", "startAnew", "()V"⟩, 9) := ⟨⟨by decide +kernel, by decide +kernel⟩, List.mem_of_getElem? (i := 12) (by decide +kernel), List.mem_of_getElem? (i := 176) (by decide +kernel), List.mem_of_getElem? (i := 177) (by decide +kernel)⟩
theorem lw_p1 : lw_okq (⟨"PostShares$Board", "dealTurns", "()V"⟩, 19) := ⟨⟨by decide +kernel, by decide +kernel⟩, List.mem_of_getElem? (i := 56) (by decide +kernel), List.mem_of_getElem? (i := 186) (by decide +kernel), List.mem_of_getElem? (i := 187) (by decide +kernel)⟩
theorem lw_p2 : lw_okq (⟨"PostShares$Board", "comesAhead", "(II)Z"⟩, 19) := ⟨⟨by decide +kernel, by decide +kernel⟩, List.mem_of_getElem? (i := 56) (by decide +kernel), List.mem_of_getElem? (i := 194) (by decide +kernel), List.mem_of_getElem? (i := 195) (by decide +kernel)⟩
theorem lw_p3 : lw_okq (⟨"PostShares$Board", "divisor", "(I)I"⟩, 19) := ⟨⟨by decide +kernel, by decide +kernel⟩, List.mem_of_getElem? (i := 56) (by decide +kernel), List.mem_of_getElem? (i := 198) (by decide +kernel), List.mem_of_getElem? (i := 199) (by decide +kernel)⟩
theorem lw_p4 : lw_okq (⟨"PostShares$Board", "lookBehindTurns", "()V"⟩, 19) := ⟨⟨by decide +kernel, by decide +kernel⟩, List.mem_of_getElem? (i := 56) (by decide +kernel), List.mem_of_getElem? (i := 202) (by decide +kernel), List.mem_of_getElem? (i := 203) (by decide +kernel)⟩
theorem lw_p5 : lw_okq (⟨"PostShares$Board", "rankAsked", "()V"⟩, 19) := ⟨⟨by decide +kernel, by decide +kernel⟩, List.mem_of_getElem? (i := 56) (by decide +kernel), List.mem_of_getElem? (i := 206) (by decide +kernel), List.mem_of_getElem? (i := 207) (by decide +kernel)⟩
theorem lw_p6 : lw_okq (⟨"PostShares", "bad", "()I"⟩, 9) := ⟨⟨by decide +kernel, by decide +kernel⟩, List.mem_of_getElem? (i := 12) (by decide +kernel), List.mem_of_getElem? (i := 242) (by decide +kernel), List.mem_of_getElem? (i := 243) (by decide +kernel)⟩
theorem lw_p7 : lw_okq (⟨"PostShares", "full", "()I"⟩, 9) := ⟨⟨by decide +kernel, by decide +kernel⟩, List.mem_of_getElem? (i := 12) (by decide +kernel), List.mem_of_getElem? (i := 246) (by decide +kernel), List.mem_of_getElem? (i := 247) (by decide +kernel)⟩
theorem lw_p8 : lw_okq (⟨"PostShares$Text", "readItem", "(LPostShares$Board;)Z"⟩, 7) := ⟨⟨by decide +kernel, by decide +kernel⟩, List.mem_of_getElem? (i := 20) (by decide +kernel), List.mem_of_getElem? (i := 274) (by decide +kernel), List.mem_of_getElem? (i := 275) (by decide +kernel)⟩
theorem lw_p9 : lw_okq (⟨"PostShares$Text", "expect", "(II)V"⟩, 7) := ⟨⟨by decide +kernel, by decide +kernel⟩, List.mem_of_getElem? (i := 20) (by decide +kernel), List.mem_of_getElem? (i := 278) (by decide +kernel), List.mem_of_getElem? (i := 279) (by decide +kernel)⟩
theorem lw_p10 : lw_okq (⟨"PostShares$Text", "seen", "()I"⟩, 7) := ⟨⟨by decide +kernel, by decide +kernel⟩, List.mem_of_getElem? (i := 20) (by decide +kernel), List.mem_of_getElem? (i := 282) (by decide +kernel), List.mem_of_getElem? (i := 283) (by decide +kernel)⟩
theorem lw_p11 : lw_okq (⟨"PostShares$Text", "readLot", "(LPostShares$Board;)Z"⟩, 7) := ⟨⟨by decide +kernel, by decide +kernel⟩, List.mem_of_getElem? (i := 20) (by decide +kernel), List.mem_of_getElem? (i := 286) (by decide +kernel), List.mem_of_getElem? (i := 287) (by decide +kernel)⟩
theorem lw_p12 : lw_okq (⟨"PostShares$Text", "readEnd", "()Z"⟩, 7) := ⟨⟨by decide +kernel, by decide +kernel⟩, List.mem_of_getElem? (i := 20) (by decide +kernel), List.mem_of_getElem? (i := 301) (by decide +kernel), List.mem_of_getElem? (i := 302) (by decide +kernel)⟩
theorem lw_p13 : lw_okq (⟨"PostShares$Text", "pass", "(I)Z"⟩, 7) := ⟨⟨by decide +kernel, by decide +kernel⟩, List.mem_of_getElem? (i := 20) (by decide +kernel), List.mem_of_getElem? (i := 305) (by decide +kernel), List.mem_of_getElem? (i := 306) (by decide +kernel)⟩
theorem lw_p14 : lw_okq (⟨"PostShares$Text", "readRule", "(LPostShares$Board;)Z"⟩, 7) := ⟨⟨by decide +kernel, by decide +kernel⟩, List.mem_of_getElem? (i := 20) (by decide +kernel), List.mem_of_getElem? (i := 309) (by decide +kernel), List.mem_of_getElem? (i := 310) (by decide +kernel)⟩
theorem lw_p15 : lw_okq (⟨"PostShares$Text", "readNumber", "(II)I"⟩, 7) := ⟨⟨by decide +kernel, by decide +kernel⟩, List.mem_of_getElem? (i := 20) (by decide +kernel), List.mem_of_getElem? (i := 313) (by decide +kernel), List.mem_of_getElem? (i := 314) (by decide +kernel)⟩
def lw_privs_1 : List (MethodName × Nat) := [(⟨"PostShares", "startAnew", "()V"⟩, 9), (⟨"PostShares$Board", "dealTurns", "()V"⟩, 19), (⟨"PostShares$Board", "comesAhead", "(II)Z"⟩, 19), (⟨"PostShares$Board", "divisor", "(I)I"⟩, 19), (⟨"PostShares$Board", "lookBehindTurns", "()V"⟩, 19), (⟨"PostShares$Board", "rankAsked", "()V"⟩, 19), (⟨"PostShares", "bad", "()I"⟩, 9), (⟨"PostShares", "full", "()I"⟩, 9), (⟨"PostShares$Text", "readItem", "(LPostShares$Board;)Z"⟩, 7), (⟨"PostShares$Text", "expect", "(II)V"⟩, 7), (⟨"PostShares$Text", "seen", "()I"⟩, 7), (⟨"PostShares$Text", "readLot", "(LPostShares$Board;)Z"⟩, 7), (⟨"PostShares$Text", "readEnd", "()Z"⟩, 7), (⟨"PostShares$Text", "pass", "(I)Z"⟩, 7), (⟨"PostShares$Text", "readRule", "(LPostShares$Board;)Z"⟩, 7), (⟨"PostShares$Text", "readNumber", "(II)I"⟩, 7)]
theorem lw_r1 : ∀ q ∈ lw_privs_1, lw_okq q := List.forall_mem_cons.mpr ⟨lw_p0, List.forall_mem_cons.mpr ⟨lw_p1, List.forall_mem_cons.mpr ⟨lw_p2, List.forall_mem_cons.mpr ⟨lw_p3, List.forall_mem_cons.mpr ⟨lw_p4, List.forall_mem_cons.mpr ⟨lw_p5, List.forall_mem_cons.mpr ⟨lw_p6, List.forall_mem_cons.mpr ⟨lw_p7, List.forall_mem_cons.mpr ⟨lw_p8, List.forall_mem_cons.mpr ⟨lw_p9, List.forall_mem_cons.mpr ⟨lw_p10, List.forall_mem_cons.mpr ⟨lw_p11, List.forall_mem_cons.mpr ⟨lw_p12, List.forall_mem_cons.mpr ⟨lw_p13, List.forall_mem_cons.mpr ⟨lw_p14, List.forall_mem_cons.mpr ⟨lw_p15, fun _ h => absurd h List.not_mem_nil⟩⟩⟩⟩⟩⟩⟩⟩⟩⟩⟩⟩⟩⟩⟩⟩
theorem lw_p16 : lw_okq (⟨"PostShares$Text", "readParty", "(LPostShares$Board;)Z"⟩, 7) := ⟨⟨by decide +kernel, by decide +kernel⟩, List.mem_of_getElem? (i := 20) (by decide +kernel), List.mem_of_getElem? (i := 317) (by decide +kernel), List.mem_of_getElem? (i := 318) (by decide +kernel)⟩
theorem lw_p17 : lw_okq (⟨"PostShares$Text", "readWorth", "(LPostShares$Board;I)Z"⟩, 7) := ⟨⟨by decide +kernel, by decide +kernel⟩, List.mem_of_getElem? (i := 20) (by decide +kernel), List.mem_of_getElem? (i := 321) (by decide +kernel), List.mem_of_getElem? (i := 322) (by decide +kernel)⟩
theorem lw_p18 : lw_okq (⟨"PostShares$Text", "noteReasons", "()V"⟩, 7) := ⟨⟨by decide +kernel, by decide +kernel⟩, List.mem_of_getElem? (i := 20) (by decide +kernel), List.mem_of_getElem? (i := 333) (by decide +kernel), List.mem_of_getElem? (i := 334) (by decide +kernel)⟩
theorem lw_p19 : lw_okq (⟨"PostShares", "no", "()I"⟩, 9) := ⟨⟨by decide +kernel, by decide +kernel⟩, List.mem_of_getElem? (i := 12) (by decide +kernel), List.mem_of_getElem? (i := 407) (by decide +kernel), List.mem_of_getElem? (i := 408) (by decide +kernel)⟩
theorem lw_p20 : lw_okq (⟨"PostShares$Board", "dropLot", "(I)V"⟩, 19) := ⟨⟨by decide +kernel, by decide +kernel⟩, List.mem_of_getElem? (i := 56) (by decide +kernel), List.mem_of_getElem? (i := 430) (by decide +kernel), List.mem_of_getElem? (i := 431) (by decide +kernel)⟩
theorem lw_p21 : lw_okq (⟨"PostShares$Board", "dropParty", "(I)V"⟩, 19) := ⟨⟨by decide +kernel, by decide +kernel⟩, List.mem_of_getElem? (i := 56) (by decide +kernel), List.mem_of_getElem? (i := 446) (by decide +kernel), List.mem_of_getElem? (i := 447) (by decide +kernel)⟩
theorem lw_p22 : lw_okq (⟨"PostShares$Foresight", "outcome", "(LPostShares$Board;IIII)J"⟩, 2) := ⟨⟨by decide +kernel, by decide +kernel⟩, List.mem_of_getElem? (i := 162) (by decide +kernel), List.mem_of_getElem? (i := 489) (by decide +kernel), List.mem_of_getElem? (i := 490) (by decide +kernel)⟩
theorem lw_p23 : lw_okq (⟨"PostShares$Foresight", "caseOf", "(III)I"⟩, 2) := ⟨⟨by decide +kernel, by decide +kernel⟩, List.mem_of_getElem? (i := 162) (by decide +kernel), List.mem_of_getElem? (i := 500) (by decide +kernel), List.mem_of_getElem? (i := 501) (by decide +kernel)⟩
theorem lw_p24 : lw_okq (⟨"PostShares$Foresight", "ifTaken", "(LPostShares$Board;IIIII)J"⟩, 2) := ⟨⟨by decide +kernel, by decide +kernel⟩, List.mem_of_getElem? (i := 162) (by decide +kernel), List.mem_of_getElem? (i := 506) (by decide +kernel), List.mem_of_getElem? (i := 507) (by decide +kernel)⟩
theorem lw_p25 : lw_okq (⟨"PostShares$Board", "dearest", "(II)I"⟩, 19) := ⟨⟨by decide +kernel, by decide +kernel⟩, List.mem_of_getElem? (i := 56) (by decide +kernel), List.mem_of_getElem? (i := 564) (by decide +kernel), List.mem_of_getElem? (i := 565) (by decide +kernel)⟩
theorem lw_p26 : lw_okq (⟨"PostShares", "digestedParty", "(JI)J"⟩, 9) := ⟨⟨by decide +kernel, by decide +kernel⟩, List.mem_of_getElem? (i := 12) (by decide +kernel), List.mem_of_getElem? (i := 596) (by decide +kernel), List.mem_of_getElem? (i := 597) (by decide +kernel)⟩
theorem lw_p27 : lw_okq (⟨"PostSharesModel", "refuses", "(I)I"⟩, 20) := ⟨⟨by decide +kernel, by decide +kernel⟩, List.mem_of_getElem? (i := 604) (by decide +kernel), List.mem_of_getElem? (i := 679) (by decide +kernel), List.mem_of_getElem? (i := 680) (by decide +kernel)⟩
theorem lw_p28 : lw_okq (⟨"PostSharesModel", "copy", "(II)V"⟩, 20) := ⟨⟨by decide +kernel, by decide +kernel⟩, List.mem_of_getElem? (i := 604) (by decide +kernel), List.mem_of_getElem? (i := 691) (by decide +kernel), List.mem_of_getElem? (i := 692) (by decide +kernel)⟩
theorem lw_p29 : lw_okq (⟨"PostSharesModel", "readsAll", "()Z"⟩, 20) := ⟨⟨by decide +kernel, by decide +kernel⟩, List.mem_of_getElem? (i := 604) (by decide +kernel), List.mem_of_getElem? (i := 695) (by decide +kernel), List.mem_of_getElem? (i := 696) (by decide +kernel)⟩
theorem lw_p30 : lw_okq (⟨"PostSharesModel", "readsItem", "()Z"⟩, 20) := ⟨⟨by decide +kernel, by decide +kernel⟩, List.mem_of_getElem? (i := 604) (by decide +kernel), List.mem_of_getElem? (i := 699) (by decide +kernel), List.mem_of_getElem? (i := 700) (by decide +kernel)⟩
theorem lw_p31 : lw_okq (⟨"PostSharesModel", "reading", "(II)V"⟩, 20) := ⟨⟨by decide +kernel, by decide +kernel⟩, List.mem_of_getElem? (i := 604) (by decide +kernel), List.mem_of_getElem? (i := 703) (by decide +kernel), List.mem_of_getElem? (i := 704) (by decide +kernel)⟩
def lw_privs_2 : List (MethodName × Nat) := [(⟨"PostShares$Text", "readParty", "(LPostShares$Board;)Z"⟩, 7), (⟨"PostShares$Text", "readWorth", "(LPostShares$Board;I)Z"⟩, 7), (⟨"PostShares$Text", "noteReasons", "()V"⟩, 7), (⟨"PostShares", "no", "()I"⟩, 9), (⟨"PostShares$Board", "dropLot", "(I)V"⟩, 19), (⟨"PostShares$Board", "dropParty", "(I)V"⟩, 19), (⟨"PostShares$Foresight", "outcome", "(LPostShares$Board;IIII)J"⟩, 2), (⟨"PostShares$Foresight", "caseOf", "(III)I"⟩, 2), (⟨"PostShares$Foresight", "ifTaken", "(LPostShares$Board;IIIII)J"⟩, 2), (⟨"PostShares$Board", "dearest", "(II)I"⟩, 19), (⟨"PostShares", "digestedParty", "(JI)J"⟩, 9), (⟨"PostSharesModel", "refuses", "(I)I"⟩, 20), (⟨"PostSharesModel", "copy", "(II)V"⟩, 20), (⟨"PostSharesModel", "readsAll", "()Z"⟩, 20), (⟨"PostSharesModel", "readsItem", "()Z"⟩, 20), (⟨"PostSharesModel", "reading", "(II)V"⟩, 20)]
theorem lw_r2 : ∀ q ∈ lw_privs_2, lw_okq q := List.forall_mem_cons.mpr ⟨lw_p16, List.forall_mem_cons.mpr ⟨lw_p17, List.forall_mem_cons.mpr ⟨lw_p18, List.forall_mem_cons.mpr ⟨lw_p19, List.forall_mem_cons.mpr ⟨lw_p20, List.forall_mem_cons.mpr ⟨lw_p21, List.forall_mem_cons.mpr ⟨lw_p22, List.forall_mem_cons.mpr ⟨lw_p23, List.forall_mem_cons.mpr ⟨lw_p24, List.forall_mem_cons.mpr ⟨lw_p25, List.forall_mem_cons.mpr ⟨lw_p26, List.forall_mem_cons.mpr ⟨lw_p27, List.forall_mem_cons.mpr ⟨lw_p28, List.forall_mem_cons.mpr ⟨lw_p29, List.forall_mem_cons.mpr ⟨lw_p30, List.forall_mem_cons.mpr ⟨lw_p31, fun _ h => absurd h List.not_mem_nil⟩⟩⟩⟩⟩⟩⟩⟩⟩⟩⟩⟩⟩⟩⟩⟩
theorem lw_p32 : lw_okq (⟨"PostSharesModel", "byteHere", "()I"⟩, 20) := ⟨⟨by decide +kernel, by decide +kernel⟩, List.mem_of_getElem? (i := 604) (by decide +kernel), List.mem_of_getElem? (i := 707) (by decide +kernel), List.mem_of_getElem? (i := 708) (by decide +kernel)⟩
theorem lw_p33 : lw_okq (⟨"PostSharesModel", "readsRule", "()Z"⟩, 20) := ⟨⟨by decide +kernel, by decide +kernel⟩, List.mem_of_getElem? (i := 604) (by decide +kernel), List.mem_of_getElem? (i := 711) (by decide +kernel), List.mem_of_getElem? (i := 712) (by decide +kernel)⟩
theorem lw_p34 : lw_okq (⟨"PostSharesModel", "must", "(I)Z"⟩, 20) := ⟨⟨by decide +kernel, by decide +kernel⟩, List.mem_of_getElem? (i := 604) (by decide +kernel), List.mem_of_getElem? (i := 717) (by decide +kernel), List.mem_of_getElem? (i := 718) (by decide +kernel)⟩
theorem lw_p35 : lw_okq (⟨"PostSharesModel", "isAt", "(I)Z"⟩, 20) := ⟨⟨by decide +kernel, by decide +kernel⟩, List.mem_of_getElem? (i := 604) (by decide +kernel), List.mem_of_getElem? (i := 721) (by decide +kernel), List.mem_of_getElem? (i := 722) (by decide +kernel)⟩
theorem lw_p36 : lw_okq (⟨"PostSharesModel", "readsLot", "()Z"⟩, 20) := ⟨⟨by decide +kernel, by decide +kernel⟩, List.mem_of_getElem? (i := 604) (by decide +kernel), List.mem_of_getElem? (i := 725) (by decide +kernel), List.mem_of_getElem? (i := 726) (by decide +kernel)⟩
theorem lw_p37 : lw_okq (⟨"PostSharesModel", "readsParty", "()Z"⟩, 20) := ⟨⟨by decide +kernel, by decide +kernel⟩, List.mem_of_getElem? (i := 604) (by decide +kernel), List.mem_of_getElem? (i := 734) (by decide +kernel), List.mem_of_getElem? (i := 735) (by decide +kernel)⟩
theorem lw_p38 : lw_okq (⟨"PostSharesModel", "readsNumber", "(II)Z"⟩, 20) := ⟨⟨by decide +kernel, by decide +kernel⟩, List.mem_of_getElem? (i := 604) (by decide +kernel), List.mem_of_getElem? (i := 738) (by decide +kernel), List.mem_of_getElem? (i := 739) (by decide +kernel)⟩
theorem lw_p39 : lw_okq (⟨"PostSharesModel", "isFigure", "()Z"⟩, 20) := ⟨⟨by decide +kernel, by decide +kernel⟩, List.mem_of_getElem? (i := 604) (by decide +kernel), List.mem_of_getElem? (i := 743) (by decide +kernel), List.mem_of_getElem? (i := 744) (by decide +kernel)⟩
theorem lw_p40 : lw_okq (⟨"PostSharesModel", "begins", "()V"⟩, 20) := ⟨⟨by decide +kernel, by decide +kernel⟩, List.mem_of_getElem? (i := 604) (by decide +kernel), List.mem_of_getElem? (i := 747) (by decide +kernel), List.mem_of_getElem? (i := 748) (by decide +kernel)⟩
theorem lw_p41 : lw_okq (⟨"PostSharesModel", "keepsNew", "()V"⟩, 20) := ⟨⟨by decide +kernel, by decide +kernel⟩, List.mem_of_getElem? (i := 604) (by decide +kernel), List.mem_of_getElem? (i := 751) (by decide +kernel), List.mem_of_getElem? (i := 752) (by decide +kernel)⟩
theorem lw_p42 : lw_okq (⟨"PostSharesModel", "minds", "()V"⟩, 20) := ⟨⟨by decide +kernel, by decide +kernel⟩, List.mem_of_getElem? (i := 604) (by decide +kernel), List.mem_of_getElem? (i := 755) (by decide +kernel), List.mem_of_getElem? (i := 756) (by decide +kernel)⟩
theorem lw_p43 : lw_okq (⟨"PostSharesModel", "turnNow", "(I)I"⟩, 20) := ⟨⟨by decide +kernel, by decide +kernel⟩, List.mem_of_getElem? (i := 604) (by decide +kernel), List.mem_of_getElem? (i := 768) (by decide +kernel), List.mem_of_getElem? (i := 769) (by decide +kernel)⟩
theorem lw_p44 : lw_okq (⟨"PostSharesModel", "laysTurns", "()V"⟩, 20) := ⟨⟨by decide +kernel, by decide +kernel⟩, List.mem_of_getElem? (i := 604) (by decide +kernel), List.mem_of_getElem? (i := 772) (by decide +kernel), List.mem_of_getElem? (i := 773) (by decide +kernel)⟩
theorem lw_p45 : lw_okq (⟨"PostSharesModel", "isAheadOf", "(II)Z"⟩, 20) := ⟨⟨by decide +kernel, by decide +kernel⟩, List.mem_of_getElem? (i := 604) (by decide +kernel), List.mem_of_getElem? (i := 776) (by decide +kernel), List.mem_of_getElem? (i := 777) (by decide +kernel)⟩
theorem lw_p46 : lw_okq (⟨"PostSharesModel", "above", "(I)I"⟩, 20) := ⟨⟨by decide +kernel, by decide +kernel⟩, List.mem_of_getElem? (i := 604) (by decide +kernel), List.mem_of_getElem? (i := 780) (by decide +kernel), List.mem_of_getElem? (i := 781) (by decide +kernel)⟩
theorem lw_p47 : lw_okq (⟨"PostSharesModel", "below", "(I)I"⟩, 20) := ⟨⟨by decide +kernel, by decide +kernel⟩, List.mem_of_getElem? (i := 604) (by decide +kernel), List.mem_of_getElem? (i := 784) (by decide +kernel), List.mem_of_getElem? (i := 785) (by decide +kernel)⟩
def lw_privs_3 : List (MethodName × Nat) := [(⟨"PostSharesModel", "byteHere", "()I"⟩, 20), (⟨"PostSharesModel", "readsRule", "()Z"⟩, 20), (⟨"PostSharesModel", "must", "(I)Z"⟩, 20), (⟨"PostSharesModel", "isAt", "(I)Z"⟩, 20), (⟨"PostSharesModel", "readsLot", "()Z"⟩, 20), (⟨"PostSharesModel", "readsParty", "()Z"⟩, 20), (⟨"PostSharesModel", "readsNumber", "(II)Z"⟩, 20), (⟨"PostSharesModel", "isFigure", "()Z"⟩, 20), (⟨"PostSharesModel", "begins", "()V"⟩, 20), (⟨"PostSharesModel", "keepsNew", "()V"⟩, 20), (⟨"PostSharesModel", "minds", "()V"⟩, 20), (⟨"PostSharesModel", "turnNow", "(I)I"⟩, 20), (⟨"PostSharesModel", "laysTurns", "()V"⟩, 20), (⟨"PostSharesModel", "isAheadOf", "(II)Z"⟩, 20), (⟨"PostSharesModel", "above", "(I)I"⟩, 20), (⟨"PostSharesModel", "below", "(I)I"⟩, 20)]
theorem lw_r3 : ∀ q ∈ lw_privs_3, lw_okq q := List.forall_mem_cons.mpr ⟨lw_p32, List.forall_mem_cons.mpr ⟨lw_p33, List.forall_mem_cons.mpr ⟨lw_p34, List.forall_mem_cons.mpr ⟨lw_p35, List.forall_mem_cons.mpr ⟨lw_p36, List.forall_mem_cons.mpr ⟨lw_p37, List.forall_mem_cons.mpr ⟨lw_p38, List.forall_mem_cons.mpr ⟨lw_p39, List.forall_mem_cons.mpr ⟨lw_p40, List.forall_mem_cons.mpr ⟨lw_p41, List.forall_mem_cons.mpr ⟨lw_p42, List.forall_mem_cons.mpr ⟨lw_p43, List.forall_mem_cons.mpr ⟨lw_p44, List.forall_mem_cons.mpr ⟨lw_p45, List.forall_mem_cons.mpr ⟨lw_p46, List.forall_mem_cons.mpr ⟨lw_p47, fun _ h => absurd h List.not_mem_nil⟩⟩⟩⟩⟩⟩⟩⟩⟩⟩⟩⟩⟩⟩⟩⟩
theorem lw_p48 : lw_okq (⟨"PostSharesModel", "isLot", "(I)Z"⟩, 20) := ⟨⟨by decide +kernel, by decide +kernel⟩, List.mem_of_getElem? (i := 604) (by decide +kernel), List.mem_of_getElem? (i := 792) (by decide +kernel), List.mem_of_getElem? (i := 793) (by decide +kernel)⟩
theorem lw_p49 : lw_okq (⟨"PostSharesModel", "lotIs", "(II)I"⟩, 20) := ⟨⟨by decide +kernel, by decide +kernel⟩, List.mem_of_getElem? (i := 604) (by decide +kernel), List.mem_of_getElem? (i := 796) (by decide +kernel), List.mem_of_getElem? (i := 797) (by decide +kernel)⟩
theorem lw_p50 : lw_okq (⟨"PostSharesModel", "isParty", "(I)Z"⟩, 20) := ⟨⟨by decide +kernel, by decide +kernel⟩, List.mem_of_getElem? (i := 604) (by decide +kernel), List.mem_of_getElem? (i := 804) (by decide +kernel), List.mem_of_getElem? (i := 805) (by decide +kernel)⟩
theorem lw_p51 : lw_okq (⟨"PostSharesModel", "partyIs", "(II)I"⟩, 20) := ⟨⟨by decide +kernel, by decide +kernel⟩, List.mem_of_getElem? (i := 604) (by decide +kernel), List.mem_of_getElem? (i := 809) (by decide +kernel), List.mem_of_getElem? (i := 810) (by decide +kernel)⟩
theorem lw_p52 : lw_okq (⟨"PostSharesModel", "sumOf", "(I)I"⟩, 20) := ⟨⟨by decide +kernel, by decide +kernel⟩, List.mem_of_getElem? (i := 604) (by decide +kernel), List.mem_of_getElem? (i := 813) (by decide +kernel), List.mem_of_getElem? (i := 814) (by decide +kernel)⟩
theorem lw_p53 : lw_okq (⟨"PostSharesModel", "worthOf", "(II)I"⟩, 20) := ⟨⟨by decide +kernel, by decide +kernel⟩, List.mem_of_getElem? (i := 604) (by decide +kernel), List.mem_of_getElem? (i := 817) (by decide +kernel), List.mem_of_getElem? (i := 818) (by decide +kernel)⟩
theorem lw_p54 : lw_okq (⟨"PostSharesModel", "turnsOf", "(II)I"⟩, 20) := ⟨⟨by decide +kernel, by decide +kernel⟩, List.mem_of_getElem? (i := 604) (by decide +kernel), List.mem_of_getElem? (i := 821) (by decide +kernel), List.mem_of_getElem? (i := 822) (by decide +kernel)⟩
theorem lw_p55 : lw_okq (⟨"PostSharesModel", "worths", "(I)I"⟩, 20) := ⟨⟨by decide +kernel, by decide +kernel⟩, List.mem_of_getElem? (i := 604) (by decide +kernel), List.mem_of_getElem? (i := 825) (by decide +kernel), List.mem_of_getElem? (i := 826) (by decide +kernel)⟩
theorem lw_p56 : lw_okq (⟨"PostSharesModel", "canTake", "(I)Z"⟩, 20) := ⟨⟨by decide +kernel, by decide +kernel⟩, List.mem_of_getElem? (i := 604) (by decide +kernel), List.mem_of_getElem? (i := 863) (by decide +kernel), List.mem_of_getElem? (i := 864) (by decide +kernel)⟩
theorem lw_p57 : lw_okq (⟨"PostSharesModel", "left", "()I"⟩, 20) := ⟨⟨by decide +kernel, by decide +kernel⟩, List.mem_of_getElem? (i := 604) (by decide +kernel), List.mem_of_getElem? (i := 867) (by decide +kernel), List.mem_of_getElem? (i := 868) (by decide +kernel)⟩
theorem lw_p58 : lw_okq (⟨"PostSharesModel", "canVeto", "(I)Z"⟩, 20) := ⟨⟨by decide +kernel, by decide +kernel⟩, List.mem_of_getElem? (i := 604) (by decide +kernel), List.mem_of_getElem? (i := 875) (by decide +kernel), List.mem_of_getElem? (i := 876) (by decide +kernel)⟩
theorem lw_p59 : lw_okq (⟨"PostSharesModel", "foreseenBy", "(II)I"⟩, 20) := ⟨⟨by decide +kernel, by decide +kernel⟩, List.mem_of_getElem? (i := 604) (by decide +kernel), List.mem_of_getElem? (i := 883) (by decide +kernel), List.mem_of_getElem? (i := 884) (by decide +kernel)⟩
theorem lw_p60 : lw_okq (⟨"PostSharesModel", "isTurnLeft", "()Z"⟩, 20) := ⟨⟨by decide +kernel, by decide +kernel⟩, List.mem_of_getElem? (i := 604) (by decide +kernel), List.mem_of_getElem? (i := 887) (by decide +kernel), List.mem_of_getElem? (i := 888) (by decide +kernel)⟩
theorem lw_p61 : lw_okq (⟨"PostSharesModel", "laysEnds", "(I)V"⟩, 20) := ⟨⟨by decide +kernel, by decide +kernel⟩, List.mem_of_getElem? (i := 604) (by decide +kernel), List.mem_of_getElem? (i := 891) (by decide +kernel), List.mem_of_getElem? (i := 892) (by decide +kernel)⟩
theorem lw_p62 : lw_okq (⟨"PostSharesModel", "laysWithin", "(I)V"⟩, 20) := ⟨⟨by decide +kernel, by decide +kernel⟩, List.mem_of_getElem? (i := 604) (by decide +kernel), List.mem_of_getElem? (i := 895) (by decide +kernel), List.mem_of_getElem? (i := 896) (by decide +kernel)⟩
theorem lw_p63 : lw_okq (⟨"PostSharesModel", "laysAsked", "(I)V"⟩, 20) := ⟨⟨by decide +kernel, by decide +kernel⟩, List.mem_of_getElem? (i := 604) (by decide +kernel), List.mem_of_getElem? (i := 902) (by decide +kernel), List.mem_of_getElem? (i := 903) (by decide +kernel)⟩
def lw_privs_4 : List (MethodName × Nat) := [(⟨"PostSharesModel", "isLot", "(I)Z"⟩, 20), (⟨"PostSharesModel", "lotIs", "(II)I"⟩, 20), (⟨"PostSharesModel", "isParty", "(I)Z"⟩, 20), (⟨"PostSharesModel", "partyIs", "(II)I"⟩, 20), (⟨"PostSharesModel", "sumOf", "(I)I"⟩, 20), (⟨"PostSharesModel", "worthOf", "(II)I"⟩, 20), (⟨"PostSharesModel", "turnsOf", "(II)I"⟩, 20), (⟨"PostSharesModel", "worths", "(I)I"⟩, 20), (⟨"PostSharesModel", "canTake", "(I)Z"⟩, 20), (⟨"PostSharesModel", "left", "()I"⟩, 20), (⟨"PostSharesModel", "canVeto", "(I)Z"⟩, 20), (⟨"PostSharesModel", "foreseenBy", "(II)I"⟩, 20), (⟨"PostSharesModel", "isTurnLeft", "()Z"⟩, 20), (⟨"PostSharesModel", "laysEnds", "(I)V"⟩, 20), (⟨"PostSharesModel", "laysWithin", "(I)V"⟩, 20), (⟨"PostSharesModel", "laysAsked", "(I)V"⟩, 20)]
theorem lw_r4 : ∀ q ∈ lw_privs_4, lw_okq q := List.forall_mem_cons.mpr ⟨lw_p48, List.forall_mem_cons.mpr ⟨lw_p49, List.forall_mem_cons.mpr ⟨lw_p50, List.forall_mem_cons.mpr ⟨lw_p51, List.forall_mem_cons.mpr ⟨lw_p52, List.forall_mem_cons.mpr ⟨lw_p53, List.forall_mem_cons.mpr ⟨lw_p54, List.forall_mem_cons.mpr ⟨lw_p55, List.forall_mem_cons.mpr ⟨lw_p56, List.forall_mem_cons.mpr ⟨lw_p57, List.forall_mem_cons.mpr ⟨lw_p58, List.forall_mem_cons.mpr ⟨lw_p59, List.forall_mem_cons.mpr ⟨lw_p60, List.forall_mem_cons.mpr ⟨lw_p61, List.forall_mem_cons.mpr ⟨lw_p62, List.forall_mem_cons.mpr ⟨lw_p63, fun _ h => absurd h List.not_mem_nil⟩⟩⟩⟩⟩⟩⟩⟩⟩⟩⟩⟩⟩⟩⟩⟩
theorem lw_p64 : lw_okq (⟨"PostSharesModel", "chosen", "(IIII)I"⟩, 20) := ⟨⟨by decide +kernel, by decide +kernel⟩, List.mem_of_getElem? (i := 604) (by decide +kernel), List.mem_of_getElem? (i := 906) (by decide +kernel), List.mem_of_getElem? (i := 907) (by decide +kernel)⟩
theorem lw_p65 : lw_okq (⟨"PostSharesModel", "tries", "(IIIII)V"⟩, 20) := ⟨⟨by decide +kernel, by decide +kernel⟩, List.mem_of_getElem? (i := 604) (by decide +kernel), List.mem_of_getElem? (i := 910) (by decide +kernel), List.mem_of_getElem? (i := 911) (by decide +kernel)⟩
theorem lw_p66 : lw_okq (⟨"PostSharesModel", "triesNow", "(I)V"⟩, 20) := ⟨⟨by decide +kernel, by decide +kernel⟩, List.mem_of_getElem? (i := 604) (by decide +kernel), List.mem_of_getElem? (i := 925) (by decide +kernel), List.mem_of_getElem? (i := 926) (by decide +kernel)⟩
theorem lw_p67 : lw_okq (⟨"PostSharesModel", "sincereOf", "(I)I"⟩, 20) := ⟨⟨by decide +kernel, by decide +kernel⟩, List.mem_of_getElem? (i := 604) (by decide +kernel), List.mem_of_getElem? (i := 941) (by decide +kernel), List.mem_of_getElem? (i := 942) (by decide +kernel)⟩
theorem lw_p68 : lw_okq (⟨"PostSharesModel", "tells", "(I)I"⟩, 20) := ⟨⟨by decide +kernel, by decide +kernel⟩, List.mem_of_getElem? (i := 604) (by decide +kernel), List.mem_of_getElem? (i := 959) (by decide +kernel), List.mem_of_getElem? (i := 960) (by decide +kernel)⟩
def lw_privs_5 : List (MethodName × Nat) := [(⟨"PostSharesModel", "chosen", "(IIII)I"⟩, 20), (⟨"PostSharesModel", "tries", "(IIIII)V"⟩, 20), (⟨"PostSharesModel", "triesNow", "(I)V"⟩, 20), (⟨"PostSharesModel", "sincereOf", "(I)I"⟩, 20), (⟨"PostSharesModel", "tells", "(I)I"⟩, 20)]
theorem lw_r5 : ∀ q ∈ lw_privs_5, lw_okq q := List.forall_mem_cons.mpr ⟨lw_p64, List.forall_mem_cons.mpr ⟨lw_p65, List.forall_mem_cons.mpr ⟨lw_p66, List.forall_mem_cons.mpr ⟨lw_p67, List.forall_mem_cons.mpr ⟨lw_p68, fun _ h => absurd h List.not_mem_nil⟩⟩⟩⟩⟩
def lw_privs : List (MethodName × Nat) := lw_privs_1 ++ (lw_privs_2 ++ (lw_privs_3 ++ (lw_privs_4 ++ (lw_privs_5))))
def lw_tbl : List Cond := k2_sels lw_privs ++ tables_1
theorem lw_privs_ok : ∀ q ∈ lw_privs, lw_okq q := by
  show ∀ q ∈ lw_privs_1 ++ (lw_privs_2 ++ (lw_privs_3 ++ (lw_privs_4 ++ (lw_privs_5)))), lw_okq q
  exact List.forall_mem_append.mpr ⟨lw_r1, List.forall_mem_append.mpr ⟨lw_r2, List.forall_mem_append.mpr ⟨lw_r3, List.forall_mem_append.mpr ⟨lw_r4, lw_r5⟩⟩⟩⟩
def RX0 : String := "PostShares$Board"
def TX0 : u_T := fun k => match k with
  | 0 => ("PostShares$Board", "lots", "I", false)
  | 1 => ("PostShares$Board", "posts", "[I", true)
  | 2 => ("PostShares$Board", "parties", "I", false)
  | 3 => ("PostShares$Board", "strength", "[I", true)
  | 4 => ("PostShares$Board", "values", "[I", true)
  | 5 => ("PostShares$Board", "vetoesTold", "I", false)
  | 6 => ("PostShares$Board", "divisors", "I", false)
  | 7 => ("PostShares$Board", "version", "I", false)
  | 8 => ("PostShares$Board", "owner", "[I", true)
  | 9 => ("PostShares$Board", "ownersBehind", "[I", true)
  | 10 => ("PostShares$Board", "share", "[I", true)
  | 11 => ("PostShares$Board", "asked", "[I", true)
  | 12 => ("PostShares$Board", "had", "I", false)
  | 13 => ("PostShares$Board", "holder", "[I", true)
  | 14 => ("PostShares$Board", "takenAt", "[I", true)
  | 15 => ("PostShares$Board", "vetoesLeft", "I", false)
  | 16 => ("PostShares$Board", "barred", "I", false)
  | 17 => ("PostShares$Board", "last", "I", false)
  | _ => ("PostShares$Board", "barredBefore", "I", false)
def tyX0 : Nat → FieldType := fun k => match k with
  | 0 => .int
  | 1 => .array .int
  | 2 => .int
  | 3 => .array .int
  | 4 => .array .int
  | 5 => .int
  | 6 => .int
  | 7 => .int
  | 8 => .array .int
  | 9 => .array .int
  | 10 => .array .int
  | 11 => .array .int
  | 12 => .int
  | 13 => .array .int
  | 14 => .array .int
  | 15 => .int
  | 16 => .int
  | 17 => .int
  | _ => .int
theorem nmX0 : ∀ a, a < 19 → ∀ b, b < 19 → a ≠ b → (TX0 a).2.1 ≠ (TX0 b).2.1 := by decide +kernel
theorem tyX0_ok : ∀ k, k < 19 → parseFieldDescriptor (TX0 k).2.2.1 = some (tyX0 k) := by decide +kernel
abbrev cX0_init : ByteArray := prog_2_method_1_code
def yX0_init : MethodName := ⟨RX0, "<init>", "()V"⟩
abbrev cX0_hasLot : ByteArray := prog_2_method_2_code
def yX0_hasLot : MethodName := ⟨RX0, "hasLot", "(I)Z"⟩
abbrev cX0_hasParty : ByteArray := prog_2_method_3_code
def yX0_hasParty : MethodName := ⟨RX0, "hasParty", "(I)Z"⟩
abbrev cX0_value : ByteArray := prog_2_method_4_code
def yX0_value : MethodName := ⟨RX0, "value", "(II)I"⟩
abbrev cX0_setValue : ByteArray := prog_2_method_5_code
def yX0_setValue : MethodName := ⟨RX0, "setValue", "(III)V"⟩
abbrev cX0_turnsInAll : ByteArray := prog_2_method_6_code
def yX0_turnsInAll : MethodName := ⟨RX0, "turnsInAll", "()I"⟩
abbrev cX0_ownerAt : ByteArray := prog_2_method_7_code
def yX0_ownerAt : MethodName := ⟨RX0, "ownerAt", "(I)I"⟩
abbrev cX0_turnsHadBy : ByteArray := prog_2_method_8_code
def yX0_turnsHadBy : MethodName := ⟨RX0, "turnsHadBy", "(I)I"⟩
abbrev cX0_sumOf : ByteArray := prog_2_method_9_code
def yX0_sumOf : MethodName := ⟨RX0, "sumOf", "(I)I"⟩
abbrev cX0_allWorth : ByteArray := prog_2_method_10_code
def yX0_allWorth : MethodName := ⟨RX0, "allWorth", "(I)I"⟩
abbrev cX0_allPosts : ByteArray := prog_2_method_11_code
def yX0_allPosts : MethodName := ⟨RX0, "allPosts", "()I"⟩
abbrev cX0_freeLots : ByteArray := prog_2_method_12_code
def yX0_freeLots : MethodName := ⟨RX0, "freeLots", "()I"⟩
abbrev cX0_tellNothing : ByteArray := prog_2_method_13_code
def yX0_tellNothing : MethodName := ⟨RX0, "tellNothing", "()V"⟩
abbrev cX0_addLot : ByteArray := prog_2_method_14_code
def yX0_addLot : MethodName := ⟨RX0, "addLot", "(I)V"⟩
abbrev cX0_addParty : ByteArray := prog_2_method_15_code
def yX0_addParty : MethodName := ⟨RX0, "addParty", "(Z)V"⟩
abbrev cX0_bindLots : ByteArray := prog_2_method_16_code
def yX0_bindLots : MethodName := ⟨RX0, "bindLots", "(II)V"⟩
abbrev cX0_dropLot : ByteArray := prog_2_method_17_code
def yX0_dropLot : MethodName := ⟨RX0, "dropLot", "(I)V"⟩
abbrev cX0_joinParties : ByteArray := prog_2_method_18_code
def yX0_joinParties : MethodName := ⟨RX0, "joinParties", "(II)V"⟩
abbrev cX0_dropParty : ByteArray := prog_2_method_19_code
def yX0_dropParty : MethodName := ⟨RX0, "dropParty", "(I)V"⟩
abbrev cX0_start : ByteArray := prog_2_method_20_code
def yX0_start : MethodName := ⟨RX0, "start", "(I)V"⟩
abbrev cX0_dealTurns : ByteArray := prog_2_method_21_code
def yX0_dealTurns : MethodName := ⟨RX0, "dealTurns", "()V"⟩
abbrev cX0_lookBehindTurns : ByteArray := prog_2_method_22_code
def yX0_lookBehindTurns : MethodName := ⟨RX0, "lookBehindTurns", "()V"⟩
abbrev cX0_comesAhead : ByteArray := prog_2_method_23_code
def yX0_comesAhead : MethodName := ⟨RX0, "comesAhead", "(II)Z"⟩
abbrev cX0_divisor : ByteArray := prog_2_method_24_code
def yX0_divisor : MethodName := ⟨RX0, "divisor", "(I)I"⟩
abbrev cX0_rankAsked : ByteArray := prog_2_method_25_code
def yX0_rankAsked : MethodName := ⟨RX0, "rankAsked", "()V"⟩
abbrev cX0_canTake : ByteArray := prog_2_method_26_code
def yX0_canTake : MethodName := ⟨RX0, "canTake", "(I)Z"⟩
abbrev cX0_take : ByteArray := prog_2_method_27_code
def yX0_take : MethodName := ⟨RX0, "take", "(I)I"⟩
abbrev cX0_canVeto : ByteArray := prog_2_method_28_code
def yX0_canVeto : MethodName := ⟨RX0, "canVeto", "(I)Z"⟩
abbrev cX0_veto : ByteArray := prog_2_method_29_code
def yX0_veto : MethodName := ⟨RX0, "veto", "(I)I"⟩
abbrev cX0_sincereSum : ByteArray := prog_2_method_30_code
def yX0_sincereSum : MethodName := ⟨RX0, "sincereSum", "(I)I"⟩
abbrev cX0_dearest : ByteArray := prog_2_method_31_code
def yX0_dearest : MethodName := ⟨RX0, "dearest", "(II)I"⟩
abbrev cX0_copy : ByteArray := prog_2_method_32_code
def yX0_copy : MethodName := ⟨RX0, "copy", "(LPostShares$Board;)V"⟩
def RX1 : String := "PostShares$Foresight"
def TX1 : u_T := fun k => match k with
  | 0 => ("PostShares$Foresight", "ternary", "[I", true)
  | _ => ("PostShares$Foresight", "kept", "[J", true)
def tyX1 : Nat → FieldType := fun k => match k with
  | 0 => .array .int
  | _ => .array .long
theorem nmX1 : ∀ a, a < 2 → ∀ b, b < 2 → a ≠ b → (TX1 a).2.1 ≠ (TX1 b).2.1 := by decide +kernel
theorem tyX1_ok : ∀ k, k < 2 → parseFieldDescriptor (TX1 k).2.2.1 = some (tyX1 k) := by decide +kernel
abbrev cX1_init : ByteArray := prog_3_method_1_code
def yX1_init : MethodName := ⟨RX1, "<init>", "()V"⟩
abbrev cX1_sumInTheEnd : ByteArray := prog_3_method_2_code
def yX1_sumInTheEnd : MethodName := ⟨RX1, "sumInTheEnd", "(LPostShares$Board;II)I"⟩
abbrev cX1_lotTaken : ByteArray := prog_3_method_3_code
def yX1_lotTaken : MethodName := ⟨RX1, "lotTaken", "(LPostShares$Board;)I"⟩
abbrev cX1_vetoerIf : ByteArray := prog_3_method_4_code
def yX1_vetoerIf : MethodName := ⟨RX1, "vetoerIf", "(LPostShares$Board;I)I"⟩
abbrev cX1_sumInTheEndIf : ByteArray := prog_3_method_5_code
def yX1_sumInTheEndIf : MethodName := ⟨RX1, "sumInTheEndIf", "(LPostShares$Board;II)I"⟩
abbrev cX1_gainOf : ByteArray := prog_3_method_6_code
def yX1_gainOf : MethodName := ⟨RX1, "gainOf", "(JI)I"⟩
abbrev cX1_vetoerOf : ByteArray := prog_3_method_7_code
def yX1_vetoerOf : MethodName := ⟨RX1, "vetoerOf", "(J)I"⟩
abbrev cX1_lotOf : ByteArray := prog_3_method_8_code
def yX1_lotOf : MethodName := ⟨RX1, "lotOf", "(J)I"⟩
abbrev cX1_caseOf : ByteArray := prog_3_method_9_code
def yX1_caseOf : MethodName := ⟨RX1, "caseOf", "(III)I"⟩
abbrev cX1_outcome : ByteArray := prog_3_method_10_code
def yX1_outcome : MethodName := ⟨RX1, "outcome", "(LPostShares$Board;IIII)J"⟩
abbrev cX1_ifTaken : ByteArray := prog_3_method_11_code
def yX1_ifTaken : MethodName := ⟨RX1, "ifTaken", "(LPostShares$Board;IIIII)J"⟩
abbrev cX1_thing : ByteArray := prog_3_method_12_code
def yX1_thing : MethodName := ⟨RX1, "thing", "(LPostShares$Board;I)I"⟩
def RX2 : String := "PostShares$Past"
def TX2 : u_T := fun k => match k with
  | 0 => ("PostShares$Past", "ring", "[LPostShares$Board;", true)
  | 1 => ("PostShares$Past", "next", "I", false)
  | _ => ("PostShares$Past", "count", "I", false)
def tyX2 : Nat → FieldType := fun k => match k with
  | 0 => .array (.object "PostShares$Board")
  | 1 => .int
  | _ => .int
theorem nmX2 : ∀ a, a < 3 → ∀ b, b < 3 → a ≠ b → (TX2 a).2.1 ≠ (TX2 b).2.1 := by decide +kernel
theorem tyX2_ok : ∀ k, k < 3 → parseFieldDescriptor (TX2 k).2.2.1 = some (tyX2 k) := by decide +kernel
abbrev cX2_init : ByteArray := prog_4_method_1_code
def yX2_init : MethodName := ⟨RX2, "<init>", "()V"⟩
abbrev cX2_keep : ByteArray := prog_4_method_2_code
def yX2_keep : MethodName := ⟨RX2, "keep", "(LPostShares$Board;)V"⟩
abbrev cX2_restore : ByteArray := prog_4_method_3_code
def yX2_restore : MethodName := ⟨RX2, "restore", "(LPostShares$Board;)V"⟩
def RX3 : String := "PostShares$Text"
def TX3 : u_T := fun k => match k with
  | 0 => ("PostShares$Text", "bytes", "[I", true)
  | 1 => ("PostShares$Text", "length", "I", false)
  | 2 => ("PostShares$Text", "reasons", "[I", true)
  | 3 => ("PostShares$Text", "place", "I", false)
  | 4 => ("PostShares$Text", "items", "I", false)
  | 5 => ("PostShares$Text", "part", "I", false)
  | _ => ("PostShares$Text", "which", "I", false)
def tyX3 : Nat → FieldType := fun k => match k with
  | 0 => .array .int
  | 1 => .int
  | 2 => .array .int
  | 3 => .int
  | 4 => .int
  | 5 => .int
  | _ => .int
theorem nmX3 : ∀ a, a < 7 → ∀ b, b < 7 → a ≠ b → (TX3 a).2.1 ≠ (TX3 b).2.1 := by decide +kernel
theorem tyX3_ok : ∀ k, k < 7 → parseFieldDescriptor (TX3 k).2.2.1 = some (tyX3 k) := by decide +kernel
abbrev cX3_init : ByteArray := prog_5_method_1_code
def yX3_init : MethodName := ⟨RX3, "<init>", "()V"⟩
abbrev cX3_add : ByteArray := prog_5_method_2_code
def yX3_add : MethodName := ⟨RX3, "add", "(I)I"⟩
abbrev cX3_wipe : ByteArray := prog_5_method_3_code
def yX3_wipe : MethodName := ⟨RX3, "wipe", "()I"⟩
abbrev cX3_tells : ByteArray := prog_5_method_4_code
def yX3_tells : MethodName := ⟨RX3, "tells", "(LPostShares$Board;)Z"⟩
abbrev cX3_noteReasons : ByteArray := prog_5_method_5_code
def yX3_noteReasons : MethodName := ⟨RX3, "noteReasons", "()V"⟩
abbrev cX3_seen : ByteArray := prog_5_method_6_code
def yX3_seen : MethodName := ⟨RX3, "seen", "()I"⟩
abbrev cX3_expect : ByteArray := prog_5_method_7_code
def yX3_expect : MethodName := ⟨RX3, "expect", "(II)V"⟩
abbrev cX3_pass : ByteArray := prog_5_method_8_code
def yX3_pass : MethodName := ⟨RX3, "pass", "(I)Z"⟩
abbrev cX3_readItem : ByteArray := prog_5_method_9_code
def yX3_readItem : MethodName := ⟨RX3, "readItem", "(LPostShares$Board;)Z"⟩
abbrev cX3_readLot : ByteArray := prog_5_method_10_code
def yX3_readLot : MethodName := ⟨RX3, "readLot", "(LPostShares$Board;)Z"⟩
abbrev cX3_readRule : ByteArray := prog_5_method_11_code
def yX3_readRule : MethodName := ⟨RX3, "readRule", "(LPostShares$Board;)Z"⟩
abbrev cX3_readParty : ByteArray := prog_5_method_12_code
def yX3_readParty : MethodName := ⟨RX3, "readParty", "(LPostShares$Board;)Z"⟩
abbrev cX3_readWorth : ByteArray := prog_5_method_13_code
def yX3_readWorth : MethodName := ⟨RX3, "readWorth", "(LPostShares$Board;I)Z"⟩
abbrev cX3_readEnd : ByteArray := prog_5_method_14_code
def yX3_readEnd : MethodName := ⟨RX3, "readEnd", "()Z"⟩
abbrev cX3_readNumber : ByteArray := prog_5_method_15_code
def yX3_readNumber : MethodName := ⟨RX3, "readNumber", "(II)I"⟩
def RX4 : String := "PostShares"
def TX4 : u_T := fun k => match k with
  | 0 => ("PostShares", "text", "LPostShares$Text;", true)
  | 1 => ("PostShares", "now", "LPostShares$Board;", true)
  | 2 => ("PostShares", "draft", "LPostShares$Board;", true)
  | 3 => ("PostShares", "past", "LPostShares$Past;", true)
  | 4 => ("PostShares", "foresight", "LPostShares$Foresight;", true)
  | 5 => ("PostShares", "versions", "I", false)
  | 6 => ("PostShares", "bads", "I", false)
  | 7 => ("PostShares", "nos", "I", false)
  | _ => ("PostShares", "fulls", "I", false)
def tyX4 : Nat → FieldType := fun k => match k with
  | 0 => .object "PostShares$Text"
  | 1 => .object "PostShares$Board"
  | 2 => .object "PostShares$Board"
  | 3 => .object "PostShares$Past"
  | 4 => .object "PostShares$Foresight"
  | 5 => .int
  | 6 => .int
  | 7 => .int
  | _ => .int
theorem nmX4 : ∀ a, a < 9 → ∀ b, b < 9 → a ≠ b → (TX4 a).2.1 ≠ (TX4 b).2.1 := by decide +kernel
theorem tyX4_ok : ∀ k, k < 9 → parseFieldDescriptor (TX4 k).2.2.1 = some (tyX4 k) := by decide +kernel
abbrev cX4_init : ByteArray := prog_1_method_1_code
def yX4_init : MethodName := ⟨RX4, "<init>", "()V"⟩
abbrev cX4_type : ByteArray := prog_1_method_2_code
def yX4_type : MethodName := ⟨RX4, "type", "(I)I"⟩
abbrev cX4_clear : ByteArray := prog_1_method_3_code
def yX4_clear : MethodName := ⟨RX4, "clear", "()I"⟩
abbrev cX4_reads : ByteArray := prog_1_method_4_code
def yX4_reads : MethodName := ⟨RX4, "reads", "()I"⟩
abbrev cX4_reason : ByteArray := prog_1_method_5_code
def yX4_reason : MethodName := ⟨RX4, "reason", "(I)I"⟩
abbrev cX4_lot : ByteArray := prog_1_method_6_code
def yX4_lot : MethodName := ⟨RX4, "lot", "(II)I"⟩
abbrev cX4_party : ByteArray := prog_1_method_7_code
def yX4_party : MethodName := ⟨RX4, "party", "(II)I"⟩
abbrev cX4_worth : ByteArray := prog_1_method_8_code
def yX4_worth : MethodName := ⟨RX4, "worth", "(II)I"⟩
abbrev cX4_turn : ByteArray := prog_1_method_9_code
def yX4_turn : MethodName := ⟨RX4, "turn", "(I)I"⟩
abbrev cX4_rates : ByteArray := prog_1_method_10_code
def yX4_rates : MethodName := ⟨RX4, "rates", "(III)I"⟩
abbrev cX4_strength : ByteArray := prog_1_method_11_code
def yX4_strength : MethodName := ⟨RX4, "strength", "(II)I"⟩
abbrev cX4_rule : ByteArray := prog_1_method_12_code
def yX4_rule : MethodName := ⟨RX4, "rule", "(I)I"⟩
abbrev cX4_binds : ByteArray := prog_1_method_13_code
def yX4_binds : MethodName := ⟨RX4, "binds", "(II)I"⟩
abbrev cX4_joins : ByteArray := prog_1_method_14_code
def yX4_joins : MethodName := ⟨RX4, "joins", "(II)I"⟩
abbrev cX4_takes : ByteArray := prog_1_method_15_code
def yX4_takes : MethodName := ⟨RX4, "takes", "(I)I"⟩
abbrev cX4_vetoes : ByteArray := prog_1_method_16_code
def yX4_vetoes : MethodName := ⟨RX4, "vetoes", "(I)I"⟩
abbrev cX4_foreseen : ByteArray := prog_1_method_17_code
def yX4_foreseen : MethodName := ⟨RX4, "foreseen", "(I)I"⟩
abbrev cX4_best : ByteArray := prog_1_method_18_code
def yX4_best : MethodName := ⟨RX4, "best", "()I"⟩
abbrev cX4_against : ByteArray := prog_1_method_19_code
def yX4_against : MethodName := ⟨RX4, "against", "(I)I"⟩
abbrev cX4_taking : ByteArray := prog_1_method_20_code
def yX4_taking : MethodName := ⟨RX4, "taking", "(II)I"⟩
abbrev cX4_course : ByteArray := prog_1_method_21_code
def yX4_course : MethodName := ⟨RX4, "course", "(I)I"⟩
abbrev cX4_sincere : ByteArray := prog_1_method_22_code
def yX4_sincere : MethodName := ⟨RX4, "sincere", "(I)I"⟩
abbrev cX4_without : ByteArray := prog_1_method_23_code
def yX4_without : MethodName := ⟨RX4, "without", "(II)I"⟩
abbrev cX4_back : ByteArray := prog_1_method_24_code
def yX4_back : MethodName := ⟨RX4, "back", "()I"⟩
abbrev cX4_told : ByteArray := prog_1_method_25_code
def yX4_told : MethodName := ⟨RX4, "told", "(I)I"⟩
abbrev cX4_digest : ByteArray := prog_1_method_26_code
def yX4_digest : MethodName := ⟨RX4, "digest", "()J"⟩
abbrev cX4_digestedParty : ByteArray := prog_1_method_27_code
def yX4_digestedParty : MethodName := ⟨RX4, "digestedParty", "(JI)J"⟩
abbrev cX4_digested : ByteArray := prog_1_method_28_code
def yX4_digested : MethodName := ⟨RX4, "digested", "(JI)J"⟩
abbrev cX4_startAnew : ByteArray := prog_1_method_29_code
def yX4_startAnew : MethodName := ⟨RX4, "startAnew", "()V"⟩
abbrev cX4_bad : ByteArray := prog_1_method_30_code
def yX4_bad : MethodName := ⟨RX4, "bad", "()I"⟩
abbrev cX4_no : ByteArray := prog_1_method_31_code
def yX4_no : MethodName := ⟨RX4, "no", "()I"⟩
abbrev cX4_full : ByteArray := prog_1_method_32_code
def yX4_full : MethodName := ⟨RX4, "full", "()I"⟩
abbrev cX4_bit : ByteArray := prog_1_method_33_code
def yX4_bit : MethodName := ⟨RX4, "bit", "(II)I"⟩
def RX5 : String := "PostSharesModel"
def TX5 : u_T := fun k => match k with
  | 0 => ("PostSharesModel", "w", "[I", true)
  | 1 => ("PostSharesModel", "states", "I", false)
  | 2 => ("PostSharesModel", "refused", "[I", true)
  | 3 => ("PostSharesModel", "text", "[I", true)
  | 4 => ("PostSharesModel", "letters", "I", false)
  | 5 => ("PostSharesModel", "reasons", "[I", true)
  | 6 => ("PostSharesModel", "here", "I", false)
  | 7 => ("PostSharesModel", "items", "I", false)
  | 8 => ("PostSharesModel", "part", "I", false)
  | 9 => ("PostSharesModel", "which", "I", false)
  | 10 => ("PostSharesModel", "taken", "I", false)
  | 11 => ("PostSharesModel", "number", "I", false)
  | 12 => ("PostSharesModel", "turnOf", "[I", true)
  | 13 => ("PostSharesModel", "had", "[I", true)
  | 14 => ("PostSharesModel", "ends", "[I", true)
  | 15 => ("PostSharesModel", "within", "[I", true)
  | 16 => ("PostSharesModel", "asked", "[I", true)
  | 17 => ("PostSharesModel", "askedMany", "I", false)
  | 18 => ("PostSharesModel", "then", "[I", true)
  | _ => ("PostSharesModel", "vetoer", "I", false)
def tyX5 : Nat → FieldType := fun k => match k with
  | 0 => .array .int
  | 1 => .int
  | 2 => .array .int
  | 3 => .array .int
  | 4 => .int
  | 5 => .array .int
  | 6 => .int
  | 7 => .int
  | 8 => .int
  | 9 => .int
  | 10 => .int
  | 11 => .int
  | 12 => .array .int
  | 13 => .array .int
  | 14 => .array .int
  | 15 => .array .int
  | 16 => .array .int
  | 17 => .int
  | 18 => .array .int
  | _ => .int
theorem nmX5 : ∀ a, a < 20 → ∀ b, b < 20 → a ≠ b → (TX5 a).2.1 ≠ (TX5 b).2.1 := by decide +kernel
theorem tyX5_ok : ∀ k, k < 20 → parseFieldDescriptor (TX5 k).2.2.1 = some (tyX5 k) := by decide +kernel
abbrev cX5_init : ByteArray := prog_7_method_1_code
def yX5_init : MethodName := ⟨RX5, "<init>", "()V"⟩
abbrev cX5_in : ByteArray := prog_7_method_3_code
def yX5_in : MethodName := ⟨RX5, "in", "(JJJ)Z"⟩
abbrev cX5_has : ByteArray := prog_7_method_4_code
def yX5_has : MethodName := ⟨RX5, "has", "(II)Z"⟩
abbrev cX5_ones : ByteArray := prog_7_method_5_code
def yX5_ones : MethodName := ⟨RX5, "ones", "(I)I"⟩
abbrev cX5_refuses : ByteArray := prog_7_method_6_code
def yX5_refuses : MethodName := ⟨RX5, "refuses", "(I)I"⟩
abbrev cX5_copy : ByteArray := prog_7_method_7_code
def yX5_copy : MethodName := ⟨RX5, "copy", "(II)V"⟩
abbrev cX5_minds : ByteArray := prog_7_method_8_code
def yX5_minds : MethodName := ⟨RX5, "minds", "()V"⟩
abbrev cX5_isLot : ByteArray := prog_7_method_9_code
def yX5_isLot : MethodName := ⟨RX5, "isLot", "(I)Z"⟩
abbrev cX5_isParty : ByteArray := prog_7_method_10_code
def yX5_isParty : MethodName := ⟨RX5, "isParty", "(I)Z"⟩
abbrev cX5_worthOf : ByteArray := prog_7_method_11_code
def yX5_worthOf : MethodName := ⟨RX5, "worthOf", "(II)I"⟩
abbrev cX5_type : ByteArray := prog_7_method_12_code
def yX5_type : MethodName := ⟨RX5, "type", "(I)I"⟩
abbrev cX5_clear : ByteArray := prog_7_method_13_code
def yX5_clear : MethodName := ⟨RX5, "clear", "()I"⟩
abbrev cX5_byteHere : ByteArray := prog_7_method_14_code
def yX5_byteHere : MethodName := ⟨RX5, "byteHere", "()I"⟩
abbrev cX5_isAt : ByteArray := prog_7_method_15_code
def yX5_isAt : MethodName := ⟨RX5, "isAt", "(I)Z"⟩
abbrev cX5_isFigure : ByteArray := prog_7_method_16_code
def yX5_isFigure : MethodName := ⟨RX5, "isFigure", "()Z"⟩
abbrev cX5_reading : ByteArray := prog_7_method_17_code
def yX5_reading : MethodName := ⟨RX5, "reading", "(II)V"⟩
abbrev cX5_must : ByteArray := prog_7_method_18_code
def yX5_must : MethodName := ⟨RX5, "must", "(I)Z"⟩
abbrev cX5_readsLot : ByteArray := prog_7_method_19_code
def yX5_readsLot : MethodName := ⟨RX5, "readsLot", "()Z"⟩
abbrev cX5_readsNumber : ByteArray := prog_7_method_20_code
def yX5_readsNumber : MethodName := ⟨RX5, "readsNumber", "(II)Z"⟩
abbrev cX5_readsParty : ByteArray := prog_7_method_21_code
def yX5_readsParty : MethodName := ⟨RX5, "readsParty", "()Z"⟩
abbrev cX5_readsRule : ByteArray := prog_7_method_22_code
def yX5_readsRule : MethodName := ⟨RX5, "readsRule", "()Z"⟩
abbrev cX5_readsItem : ByteArray := prog_7_method_23_code
def yX5_readsItem : MethodName := ⟨RX5, "readsItem", "()Z"⟩
abbrev cX5_readsAll : ByteArray := prog_7_method_24_code
def yX5_readsAll : MethodName := ⟨RX5, "readsAll", "()Z"⟩
abbrev cX5_begins : ByteArray := prog_7_method_25_code
def yX5_begins : MethodName := ⟨RX5, "begins", "()V"⟩
abbrev cX5_reads : ByteArray := prog_7_method_26_code
def yX5_reads : MethodName := ⟨RX5, "reads", "()I"⟩
abbrev cX5_keepsNew : ByteArray := prog_7_method_27_code
def yX5_keepsNew : MethodName := ⟨RX5, "keepsNew", "()V"⟩
abbrev cX5_reason : ByteArray := prog_7_method_28_code
def yX5_reason : MethodName := ⟨RX5, "reason", "(I)I"⟩
abbrev cX5_above : ByteArray := prog_7_method_29_code
def yX5_above : MethodName := ⟨RX5, "above", "(I)I"⟩
abbrev cX5_below : ByteArray := prog_7_method_30_code
def yX5_below : MethodName := ⟨RX5, "below", "(I)I"⟩
abbrev cX5_isAheadOf : ByteArray := prog_7_method_31_code
def yX5_isAheadOf : MethodName := ⟨RX5, "isAheadOf", "(II)Z"⟩
abbrev cX5_laysTurns : ByteArray := prog_7_method_32_code
def yX5_laysTurns : MethodName := ⟨RX5, "laysTurns", "()V"⟩
abbrev cX5_turnNow : ByteArray := prog_7_method_33_code
def yX5_turnNow : MethodName := ⟨RX5, "turnNow", "(I)I"⟩
abbrev cX5_turn : ByteArray := prog_7_method_34_code
def yX5_turn : MethodName := ⟨RX5, "turn", "(I)I"⟩
abbrev cX5_turnsOf : ByteArray := prog_7_method_35_code
def yX5_turnsOf : MethodName := ⟨RX5, "turnsOf", "(II)I"⟩
abbrev cX5_sumOf : ByteArray := prog_7_method_36_code
def yX5_sumOf : MethodName := ⟨RX5, "sumOf", "(I)I"⟩
abbrev cX5_worths : ByteArray := prog_7_method_37_code
def yX5_worths : MethodName := ⟨RX5, "worths", "(I)I"⟩
abbrev cX5_lotIs : ByteArray := prog_7_method_38_code
def yX5_lotIs : MethodName := ⟨RX5, "lotIs", "(II)I"⟩
abbrev cX5_lot : ByteArray := prog_7_method_39_code
def yX5_lot : MethodName := ⟨RX5, "lot", "(II)I"⟩
abbrev cX5_partyIs : ByteArray := prog_7_method_40_code
def yX5_partyIs : MethodName := ⟨RX5, "partyIs", "(II)I"⟩
abbrev cX5_party : ByteArray := prog_7_method_41_code
def yX5_party : MethodName := ⟨RX5, "party", "(II)I"⟩
abbrev cX5_worth : ByteArray := prog_7_method_42_code
def yX5_worth : MethodName := ⟨RX5, "worth", "(II)I"⟩
abbrev cX5_rates : ByteArray := prog_7_method_43_code
def yX5_rates : MethodName := ⟨RX5, "rates", "(III)I"⟩
abbrev cX5_strength : ByteArray := prog_7_method_44_code
def yX5_strength : MethodName := ⟨RX5, "strength", "(II)I"⟩
abbrev cX5_rule : ByteArray := prog_7_method_45_code
def yX5_rule : MethodName := ⟨RX5, "rule", "(I)I"⟩
abbrev cX5_lesser : ByteArray := prog_7_method_46_code
def yX5_lesser : MethodName := ⟨RX5, "lesser", "(II)I"⟩
abbrev cX5_binds : ByteArray := prog_7_method_47_code
def yX5_binds : MethodName := ⟨RX5, "binds", "(II)I"⟩
abbrev cX5_joins : ByteArray := prog_7_method_48_code
def yX5_joins : MethodName := ⟨RX5, "joins", "(II)I"⟩
abbrev cX5_left : ByteArray := prog_7_method_49_code
def yX5_left : MethodName := ⟨RX5, "left", "()I"⟩
abbrev cX5_canTake : ByteArray := prog_7_method_50_code
def yX5_canTake : MethodName := ⟨RX5, "canTake", "(I)Z"⟩
abbrev cX5_takes : ByteArray := prog_7_method_51_code
def yX5_takes : MethodName := ⟨RX5, "takes", "(I)I"⟩
abbrev cX5_canVeto : ByteArray := prog_7_method_52_code
def yX5_canVeto : MethodName := ⟨RX5, "canVeto", "(I)Z"⟩
abbrev cX5_vetoes : ByteArray := prog_7_method_53_code
def yX5_vetoes : MethodName := ⟨RX5, "vetoes", "(I)I"⟩
abbrev cX5_at : ByteArray := prog_7_method_54_code
def yX5_at : MethodName := ⟨RX5, "at", "(II)I"⟩
abbrev cX5_laysAsked : ByteArray := prog_7_method_55_code
def yX5_laysAsked : MethodName := ⟨RX5, "laysAsked", "(I)V"⟩
abbrev cX5_tries : ByteArray := prog_7_method_56_code
def yX5_tries : MethodName := ⟨RX5, "tries", "(IIIII)V"⟩
abbrev cX5_chosen : ByteArray := prog_7_method_57_code
def yX5_chosen : MethodName := ⟨RX5, "chosen", "(IIII)I"⟩
abbrev cX5_laysWithin : ByteArray := prog_7_method_58_code
def yX5_laysWithin : MethodName := ⟨RX5, "laysWithin", "(I)V"⟩
abbrev cX5_laysEnds : ByteArray := prog_7_method_59_code
def yX5_laysEnds : MethodName := ⟨RX5, "laysEnds", "(I)V"⟩
abbrev cX5_isTurnLeft : ByteArray := prog_7_method_60_code
def yX5_isTurnLeft : MethodName := ⟨RX5, "isTurnLeft", "()Z"⟩
abbrev cX5_foreseenBy : ByteArray := prog_7_method_61_code
def yX5_foreseenBy : MethodName := ⟨RX5, "foreseenBy", "(II)I"⟩
abbrev cX5_foreseen : ByteArray := prog_7_method_62_code
def yX5_foreseen : MethodName := ⟨RX5, "foreseen", "(I)I"⟩
abbrev cX5_best : ByteArray := prog_7_method_63_code
def yX5_best : MethodName := ⟨RX5, "best", "()I"⟩
abbrev cX5_triesNow : ByteArray := prog_7_method_64_code
def yX5_triesNow : MethodName := ⟨RX5, "triesNow", "(I)V"⟩
abbrev cX5_against : ByteArray := prog_7_method_65_code
def yX5_against : MethodName := ⟨RX5, "against", "(I)I"⟩
abbrev cX5_taking : ByteArray := prog_7_method_66_code
def yX5_taking : MethodName := ⟨RX5, "taking", "(II)I"⟩
abbrev cX5_course : ByteArray := prog_7_method_67_code
def yX5_course : MethodName := ⟨RX5, "course", "(I)I"⟩
abbrev cX5_sincere : ByteArray := prog_7_method_68_code
def yX5_sincere : MethodName := ⟨RX5, "sincere", "(I)I"⟩
abbrev cX5_sincereOf : ByteArray := prog_7_method_69_code
def yX5_sincereOf : MethodName := ⟨RX5, "sincereOf", "(I)I"⟩
abbrev cX5_without : ByteArray := prog_7_method_70_code
def yX5_without : MethodName := ⟨RX5, "without", "(II)I"⟩
abbrev cX5_back : ByteArray := prog_7_method_71_code
def yX5_back : MethodName := ⟨RX5, "back", "()I"⟩
abbrev cX5_tells : ByteArray := prog_7_method_72_code
def yX5_tells : MethodName := ⟨RX5, "tells", "(I)I"⟩
abbrev cX5_told : ByteArray := prog_7_method_73_code
def yX5_told : MethodName := ⟨RX5, "told", "(I)I"⟩
abbrev cX5_digest : ByteArray := prog_7_method_74_code
def yX5_digest : MethodName := ⟨RX5, "digest", "()J"⟩
def RJ6 : String := "java/lang/Integer"
def TJ6 : u_T := fun k => match k with
  | _ => ("", "", "", false)
def tyJ6 : Nat → FieldType := fun k => match k with
  | _ => .int
theorem nmJ6 : ∀ a, a < 0 → ∀ b, b < 0 → a ≠ b → (TJ6 a).2.1 ≠ (TJ6 b).2.1 := by decide +kernel
theorem tyJ6_ok : ∀ k, k < 0 → parseFieldDescriptor (TJ6 k).2.2.1 = some (tyJ6 k) := by decide +kernel
abbrev cJ6_bitCount_0f7a4 : ByteArray := prog_8_method_49_code
def yJ6_bitCount_0f7a4 : MethodName := ⟨RJ6, "bitCount", "(I)I"⟩
def RJ9 : String := "java/lang/Math"
def TJ9 : u_T := fun k => match k with
  | _ => ("", "", "", false)
def tyJ9 : Nat → FieldType := fun k => match k with
  | _ => .int
theorem nmJ9 : ∀ a, a < 0 → ∀ b, b < 0 → a ≠ b → (TJ9 a).2.1 ≠ (TJ9 b).2.1 := by decide +kernel
theorem tyJ9_ok : ∀ k, k < 0 → parseFieldDescriptor (TJ9 k).2.2.1 = some (tyJ9 k) := by decide +kernel
abbrev cJ9_max_7cf53 : ByteArray := prog_9_method_65_code
def yJ9_max_7cf53 : MethodName := ⟨RJ9, "max", "(II)I"⟩
abbrev cJ9_min_7cf53 : ByteArray := prog_9_method_69_code
def yJ9_min_7cf53 : MethodName := ⟨RJ9, "min", "(II)I"⟩
def RJ10 : String := "java/lang/System"
def TJ10 : u_T := fun k => match k with
  | _ => ("", "", "", false)
def tyJ10 : Nat → FieldType := fun k => match k with
  | _ => .int
theorem nmJ10 : ∀ a, a < 0 → ∀ b, b < 0 → a ≠ b → (TJ10 a).2.1 ≠ (TJ10 b).2.1 := by decide +kernel
theorem tyJ10_ok : ∀ k, k < 0 → parseFieldDescriptor (TJ10 k).2.2.1 = some (tyJ10 k) := by decide +kernel
def RJ7 : String := "java/util/Arrays"
def TJ7 : u_T := fun k => match k with
  | _ => ("", "", "", false)
def tyJ7 : Nat → FieldType := fun k => match k with
  | _ => .int
theorem nmJ7 : ∀ a, a < 0 → ∀ b, b < 0 → a ≠ b → (TJ7 a).2.1 ≠ (TJ7 b).2.1 := by decide +kernel
theorem tyJ7_ok : ∀ k, k < 0 → parseFieldDescriptor (TJ7 k).2.2.1 = some (tyJ7 k) := by decide +kernel
abbrev cJ7_fill_53178 : ByteArray := prog_11_method_103_code
def yJ7_fill_53178 : MethodName := ⟨RJ7, "fill", "([II)V"⟩
def RL : String := "PostSharesLaw"
abbrev cL_law : ByteArray := code
def yL_law : MethodName := ⟨RL, "law", "([I)Z"⟩
abbrev vwCl : List vw_C := [(RX0, TX0, 19), (RX1, TX1, 2), (RX2, TX2, 3), (RX3, TX3, 7), (RX4, TX4, 9), (RX5, TX5, 20)]
def M0 : MethodName × ByteArray × Nat × Option FieldType := (yX0_init, cX0_init, 1, none)
def M1 : MethodName × ByteArray × Nat × Option FieldType := (yX0_hasLot, cX0_hasLot, 2, (some .boolean))
def M2 : MethodName × ByteArray × Nat × Option FieldType := (yX0_hasParty, cX0_hasParty, 2, (some .boolean))
def M3 : MethodName × ByteArray × Nat × Option FieldType := (yX0_value, cX0_value, 4, (some .int))
def M4 : MethodName × ByteArray × Nat × Option FieldType := (yX0_setValue, cX0_setValue, 5, none)
def M5 : MethodName × ByteArray × Nat × Option FieldType := (yX0_turnsInAll, cX0_turnsInAll, 1, (some .int))
def M6 : MethodName × ByteArray × Nat × Option FieldType := (yX0_ownerAt, cX0_ownerAt, 2, (some .int))
def M7 : MethodName × ByteArray × Nat × Option FieldType := (yX0_turnsHadBy, cX0_turnsHadBy, 4, (some .int))
def M8 : MethodName × ByteArray × Nat × Option FieldType := (yX0_sumOf, cX0_sumOf, 4, (some .int))
def M9 : MethodName × ByteArray × Nat × Option FieldType := (yX0_allWorth, cX0_allWorth, 4, (some .int))
def M10 : MethodName × ByteArray × Nat × Option FieldType := (yX0_allPosts, cX0_allPosts, 3, (some .int))
def M11 : MethodName × ByteArray × Nat × Option FieldType := (yX0_freeLots, cX0_freeLots, 3, (some .int))
def M12 : MethodName × ByteArray × Nat × Option FieldType := (yX0_tellNothing, cX0_tellNothing, 1, none)
def M13 : MethodName × ByteArray × Nat × Option FieldType := (yX0_addLot, cX0_addLot, 2, none)
def M14 : MethodName × ByteArray × Nat × Option FieldType := (yX0_addParty, cX0_addParty, 2, none)
def M15 : MethodName × ByteArray × Nat × Option FieldType := (yX0_bindLots, cX0_bindLots, 4, none)
def M16 : MethodName × ByteArray × Nat × Option FieldType := (yX0_dropLot, cX0_dropLot, 4, none)
def M17 : MethodName × ByteArray × Nat × Option FieldType := (yX0_joinParties, cX0_joinParties, 4, none)
def M18 : MethodName × ByteArray × Nat × Option FieldType := (yX0_dropParty, cX0_dropParty, 4, none)
def M19 : MethodName × ByteArray × Nat × Option FieldType := (yX0_start, cX0_start, 2, none)
def M20 : MethodName × ByteArray × Nat × Option FieldType := (yX0_dealTurns, cX0_dealTurns, 4, none)
def M21 : MethodName × ByteArray × Nat × Option FieldType := (yX0_lookBehindTurns, cX0_lookBehindTurns, 3, none)
def M22 : MethodName × ByteArray × Nat × Option FieldType := (yX0_comesAhead, cX0_comesAhead, 5, (some .boolean))
def M23 : MethodName × ByteArray × Nat × Option FieldType := (yX0_divisor, cX0_divisor, 2, (some .int))
def M24 : MethodName × ByteArray × Nat × Option FieldType := (yX0_rankAsked, cX0_rankAsked, 4, none)
def M25 : MethodName × ByteArray × Nat × Option FieldType := (yX0_canTake, cX0_canTake, 2, (some .boolean))
def M26 : MethodName × ByteArray × Nat × Option FieldType := (yX0_take, cX0_take, 3, (some .int))
def M27 : MethodName × ByteArray × Nat × Option FieldType := (yX0_canVeto, cX0_canVeto, 2, (some .boolean))
def M28 : MethodName × ByteArray × Nat × Option FieldType := (yX0_veto, cX0_veto, 3, (some .int))
def M29 : MethodName × ByteArray × Nat × Option FieldType := (yX0_sincereSum, cX0_sincereSum, 8, (some .int))
def M30 : MethodName × ByteArray × Nat × Option FieldType := (yX0_dearest, cX0_dearest, 5, (some .int))
def M31 : MethodName × ByteArray × Nat × Option FieldType := (yX0_copy, cX0_copy, 2, none)
def M32 : MethodName × ByteArray × Nat × Option FieldType := (yX1_init, cX1_init, 2, none)
def M33 : MethodName × ByteArray × Nat × Option FieldType := (yX1_sumInTheEnd, cX1_sumInTheEnd, 4, (some .int))
def M34 : MethodName × ByteArray × Nat × Option FieldType := (yX1_lotTaken, cX1_lotTaken, 2, (some .int))
def M35 : MethodName × ByteArray × Nat × Option FieldType := (yX1_vetoerIf, cX1_vetoerIf, 3, (some .int))
def M36 : MethodName × ByteArray × Nat × Option FieldType := (yX1_sumInTheEndIf, cX1_sumInTheEndIf, 6, (some .int))
def M37 : MethodName × ByteArray × Nat × Option FieldType := (yX1_gainOf, cX1_gainOf, 3, (some .int))
def M38 : MethodName × ByteArray × Nat × Option FieldType := (yX1_vetoerOf, cX1_vetoerOf, 2, (some .int))
def M39 : MethodName × ByteArray × Nat × Option FieldType := (yX1_lotOf, cX1_lotOf, 2, (some .int))
def M40 : MethodName × ByteArray × Nat × Option FieldType := (yX1_caseOf, cX1_caseOf, 5, (some .int))
def M41 : MethodName × ByteArray × Nat × Option FieldType := (yX1_outcome, cX1_outcome, 15, (some .long))
def M42 : MethodName × ByteArray × Nat × Option FieldType := (yX1_ifTaken, cX1_ifTaken, 18, (some .long))
def M43 : MethodName × ByteArray × Nat × Option FieldType := (yX1_thing, cX1_thing, 11, (some .int))
def M44 : MethodName × ByteArray × Nat × Option FieldType := (yX2_init, cX2_init, 2, none)
def M45 : MethodName × ByteArray × Nat × Option FieldType := (yX2_keep, cX2_keep, 3, none)
def M46 : MethodName × ByteArray × Nat × Option FieldType := (yX2_restore, cX2_restore, 3, none)
def M47 : MethodName × ByteArray × Nat × Option FieldType := (yX3_init, cX3_init, 1, none)
def M48 : MethodName × ByteArray × Nat × Option FieldType := (yX3_add, cX3_add, 2, (some .int))
def M49 : MethodName × ByteArray × Nat × Option FieldType := (yX3_wipe, cX3_wipe, 2, (some .int))
def M50 : MethodName × ByteArray × Nat × Option FieldType := (yX3_tells, cX3_tells, 2, (some .boolean))
def M51 : MethodName × ByteArray × Nat × Option FieldType := (yX3_noteReasons, cX3_noteReasons, 1, none)
def M52 : MethodName × ByteArray × Nat × Option FieldType := (yX3_seen, cX3_seen, 1, (some .int))
def M53 : MethodName × ByteArray × Nat × Option FieldType := (yX3_expect, cX3_expect, 3, none)
def M54 : MethodName × ByteArray × Nat × Option FieldType := (yX3_pass, cX3_pass, 2, (some .boolean))
def M55 : MethodName × ByteArray × Nat × Option FieldType := (yX3_readItem, cX3_readItem, 2, (some .boolean))
def M56 : MethodName × ByteArray × Nat × Option FieldType := (yX3_readLot, cX3_readLot, 6, (some .boolean))
def M57 : MethodName × ByteArray × Nat × Option FieldType := (yX3_readRule, cX3_readRule, 3, (some .boolean))
def M58 : MethodName × ByteArray × Nat × Option FieldType := (yX3_readParty, cX3_readParty, 4, (some .boolean))
def M59 : MethodName × ByteArray × Nat × Option FieldType := (yX3_readWorth, cX3_readWorth, 4, (some .boolean))
def M60 : MethodName × ByteArray × Nat × Option FieldType := (yX3_readEnd, cX3_readEnd, 1, (some .boolean))
def M61 : MethodName × ByteArray × Nat × Option FieldType := (yX3_readNumber, cX3_readNumber, 7, (some .int))
def M62 : MethodName × ByteArray × Nat × Option FieldType := (yX4_init, cX4_init, 1, none)
def M63 : MethodName × ByteArray × Nat × Option FieldType := (yX4_type, cX4_type, 2, (some .int))
def M64 : MethodName × ByteArray × Nat × Option FieldType := (yX4_clear, cX4_clear, 1, (some .int))
def M65 : MethodName × ByteArray × Nat × Option FieldType := (yX4_reads, cX4_reads, 1, (some .int))
def M66 : MethodName × ByteArray × Nat × Option FieldType := (yX4_reason, cX4_reason, 2, (some .int))
def M67 : MethodName × ByteArray × Nat × Option FieldType := (yX4_lot, cX4_lot, 3, (some .int))
def M68 : MethodName × ByteArray × Nat × Option FieldType := (yX4_party, cX4_party, 3, (some .int))
def M69 : MethodName × ByteArray × Nat × Option FieldType := (yX4_worth, cX4_worth, 3, (some .int))
def M70 : MethodName × ByteArray × Nat × Option FieldType := (yX4_turn, cX4_turn, 2, (some .int))
def M71 : MethodName × ByteArray × Nat × Option FieldType := (yX4_rates, cX4_rates, 5, (some .int))
def M72 : MethodName × ByteArray × Nat × Option FieldType := (yX4_strength, cX4_strength, 4, (some .int))
def M73 : MethodName × ByteArray × Nat × Option FieldType := (yX4_rule, cX4_rule, 3, (some .int))
def M74 : MethodName × ByteArray × Nat × Option FieldType := (yX4_binds, cX4_binds, 3, (some .int))
def M75 : MethodName × ByteArray × Nat × Option FieldType := (yX4_joins, cX4_joins, 3, (some .int))
def M76 : MethodName × ByteArray × Nat × Option FieldType := (yX4_takes, cX4_takes, 2, (some .int))
def M77 : MethodName × ByteArray × Nat × Option FieldType := (yX4_vetoes, cX4_vetoes, 2, (some .int))
def M78 : MethodName × ByteArray × Nat × Option FieldType := (yX4_foreseen, cX4_foreseen, 2, (some .int))
def M79 : MethodName × ByteArray × Nat × Option FieldType := (yX4_best, cX4_best, 1, (some .int))
def M80 : MethodName × ByteArray × Nat × Option FieldType := (yX4_against, cX4_against, 2, (some .int))
def M81 : MethodName × ByteArray × Nat × Option FieldType := (yX4_taking, cX4_taking, 3, (some .int))
def M82 : MethodName × ByteArray × Nat × Option FieldType := (yX4_course, cX4_course, 2, (some .int))
def M83 : MethodName × ByteArray × Nat × Option FieldType := (yX4_sincere, cX4_sincere, 2, (some .int))
def M84 : MethodName × ByteArray × Nat × Option FieldType := (yX4_without, cX4_without, 3, (some .int))
def M85 : MethodName × ByteArray × Nat × Option FieldType := (yX4_back, cX4_back, 1, (some .int))
def M86 : MethodName × ByteArray × Nat × Option FieldType := (yX4_told, cX4_told, 2, (some .int))
def M87 : MethodName × ByteArray × Nat × Option FieldType := (yX4_digest, cX4_digest, 5, (some .long))
def M88 : MethodName × ByteArray × Nat × Option FieldType := (yX4_digestedParty, cX4_digestedParty, 7, (some .long))
def M89 : MethodName × ByteArray × Nat × Option FieldType := (yX4_digested, cX4_digested, 3, (some .long))
def M90 : MethodName × ByteArray × Nat × Option FieldType := (yX4_startAnew, cX4_startAnew, 1, none)
def M91 : MethodName × ByteArray × Nat × Option FieldType := (yX4_bad, cX4_bad, 1, (some .int))
def M92 : MethodName × ByteArray × Nat × Option FieldType := (yX4_no, cX4_no, 1, (some .int))
def M93 : MethodName × ByteArray × Nat × Option FieldType := (yX4_full, cX4_full, 1, (some .int))
def M94 : MethodName × ByteArray × Nat × Option FieldType := (yX4_bit, cX4_bit, 2, (some .int))
def M95 : MethodName × ByteArray × Nat × Option FieldType := (yX5_init, cX5_init, 1, none)
def M96 : MethodName × ByteArray × Nat × Option FieldType := (yX5_in, cX5_in, 6, (some .boolean))
def M97 : MethodName × ByteArray × Nat × Option FieldType := (yX5_has, cX5_has, 2, (some .boolean))
def M98 : MethodName × ByteArray × Nat × Option FieldType := (yX5_ones, cX5_ones, 3, (some .int))
def M99 : MethodName × ByteArray × Nat × Option FieldType := (yX5_refuses, cX5_refuses, 2, (some .int))
def M100 : MethodName × ByteArray × Nat × Option FieldType := (yX5_copy, cX5_copy, 4, none)
def M101 : MethodName × ByteArray × Nat × Option FieldType := (yX5_minds, cX5_minds, 2, none)
def M102 : MethodName × ByteArray × Nat × Option FieldType := (yX5_isLot, cX5_isLot, 2, (some .boolean))
def M103 : MethodName × ByteArray × Nat × Option FieldType := (yX5_isParty, cX5_isParty, 2, (some .boolean))
def M104 : MethodName × ByteArray × Nat × Option FieldType := (yX5_worthOf, cX5_worthOf, 3, (some .int))
def M105 : MethodName × ByteArray × Nat × Option FieldType := (yX5_type, cX5_type, 2, (some .int))
def M106 : MethodName × ByteArray × Nat × Option FieldType := (yX5_clear, cX5_clear, 2, (some .int))
def M107 : MethodName × ByteArray × Nat × Option FieldType := (yX5_byteHere, cX5_byteHere, 1, (some .int))
def M108 : MethodName × ByteArray × Nat × Option FieldType := (yX5_isAt, cX5_isAt, 2, (some .boolean))
def M109 : MethodName × ByteArray × Nat × Option FieldType := (yX5_isFigure, cX5_isFigure, 1, (some .boolean))
def M110 : MethodName × ByteArray × Nat × Option FieldType := (yX5_reading, cX5_reading, 3, none)
def M111 : MethodName × ByteArray × Nat × Option FieldType := (yX5_must, cX5_must, 3, (some .boolean))
def M112 : MethodName × ByteArray × Nat × Option FieldType := (yX5_readsLot, cX5_readsLot, 3, (some .boolean))
def M113 : MethodName × ByteArray × Nat × Option FieldType := (yX5_readsNumber, cX5_readsNumber, 4, (some .boolean))
def M114 : MethodName × ByteArray × Nat × Option FieldType := (yX5_readsParty, cX5_readsParty, 3, (some .boolean))
def M115 : MethodName × ByteArray × Nat × Option FieldType := (yX5_readsRule, cX5_readsRule, 1, (some .boolean))
def M116 : MethodName × ByteArray × Nat × Option FieldType := (yX5_readsItem, cX5_readsItem, 3, (some .boolean))
def M117 : MethodName × ByteArray × Nat × Option FieldType := (yX5_readsAll, cX5_readsAll, 2, (some .boolean))
def M118 : MethodName × ByteArray × Nat × Option FieldType := (yX5_begins, cX5_begins, 2, none)
def M119 : MethodName × ByteArray × Nat × Option FieldType := (yX5_reads, cX5_reads, 2, (some .int))
def M120 : MethodName × ByteArray × Nat × Option FieldType := (yX5_keepsNew, cX5_keepsNew, 3, none)
def M121 : MethodName × ByteArray × Nat × Option FieldType := (yX5_reason, cX5_reason, 2, (some .int))
def M122 : MethodName × ByteArray × Nat × Option FieldType := (yX5_above, cX5_above, 2, (some .int))
def M123 : MethodName × ByteArray × Nat × Option FieldType := (yX5_below, cX5_below, 2, (some .int))
def M124 : MethodName × ByteArray × Nat × Option FieldType := (yX5_isAheadOf, cX5_isAheadOf, 7, (some .boolean))
def M125 : MethodName × ByteArray × Nat × Option FieldType := (yX5_laysTurns, cX5_laysTurns, 4, none)
def M126 : MethodName × ByteArray × Nat × Option FieldType := (yX5_turnNow, cX5_turnNow, 2, (some .int))
def M127 : MethodName × ByteArray × Nat × Option FieldType := (yX5_turn, cX5_turn, 2, (some .int))
def M128 : MethodName × ByteArray × Nat × Option FieldType := (yX5_turnsOf, cX5_turnsOf, 5, (some .int))
def M129 : MethodName × ByteArray × Nat × Option FieldType := (yX5_sumOf, cX5_sumOf, 4, (some .int))
def M130 : MethodName × ByteArray × Nat × Option FieldType := (yX5_worths, cX5_worths, 4, (some .int))
def M131 : MethodName × ByteArray × Nat × Option FieldType := (yX5_lotIs, cX5_lotIs, 3, (some .int))
def M132 : MethodName × ByteArray × Nat × Option FieldType := (yX5_lot, cX5_lot, 3, (some .int))
def M133 : MethodName × ByteArray × Nat × Option FieldType := (yX5_partyIs, cX5_partyIs, 3, (some .int))
def M134 : MethodName × ByteArray × Nat × Option FieldType := (yX5_party, cX5_party, 3, (some .int))
def M135 : MethodName × ByteArray × Nat × Option FieldType := (yX5_worth, cX5_worth, 3, (some .int))
def M136 : MethodName × ByteArray × Nat × Option FieldType := (yX5_rates, cX5_rates, 5, (some .int))
def M137 : MethodName × ByteArray × Nat × Option FieldType := (yX5_strength, cX5_strength, 4, (some .int))
def M138 : MethodName × ByteArray × Nat × Option FieldType := (yX5_rule, cX5_rule, 3, (some .int))
def M139 : MethodName × ByteArray × Nat × Option FieldType := (yX5_lesser, cX5_lesser, 2, (some .int))
def M140 : MethodName × ByteArray × Nat × Option FieldType := (yX5_binds, cX5_binds, 5, (some .int))
def M141 : MethodName × ByteArray × Nat × Option FieldType := (yX5_joins, cX5_joins, 6, (some .int))
def M142 : MethodName × ByteArray × Nat × Option FieldType := (yX5_left, cX5_left, 3, (some .int))
def M143 : MethodName × ByteArray × Nat × Option FieldType := (yX5_canTake, cX5_canTake, 2, (some .boolean))
def M144 : MethodName × ByteArray × Nat × Option FieldType := (yX5_takes, cX5_takes, 3, (some .int))
def M145 : MethodName × ByteArray × Nat × Option FieldType := (yX5_canVeto, cX5_canVeto, 3, (some .boolean))
def M146 : MethodName × ByteArray × Nat × Option FieldType := (yX5_vetoes, cX5_vetoes, 3, (some .int))
def M147 : MethodName × ByteArray × Nat × Option FieldType := (yX5_at, cX5_at, 2, (some .int))
def M148 : MethodName × ByteArray × Nat × Option FieldType := (yX5_laysAsked, cX5_laysAsked, 4, none)
def M149 : MethodName × ByteArray × Nat × Option FieldType := (yX5_tries, cX5_tries, 12, none)
def M150 : MethodName × ByteArray × Nat × Option FieldType := (yX5_chosen, cX5_chosen, 9, (some .int))
def M151 : MethodName × ByteArray × Nat × Option FieldType := (yX5_laysWithin, cX5_laysWithin, 7, none)
def M152 : MethodName × ByteArray × Nat × Option FieldType := (yX5_laysEnds, cX5_laysEnds, 4, none)
def M153 : MethodName × ByteArray × Nat × Option FieldType := (yX5_isTurnLeft, cX5_isTurnLeft, 1, (some .boolean))
def M154 : MethodName × ByteArray × Nat × Option FieldType := (yX5_foreseenBy, cX5_foreseenBy, 4, (some .int))
def M155 : MethodName × ByteArray × Nat × Option FieldType := (yX5_foreseen, cX5_foreseen, 2, (some .int))
def M156 : MethodName × ByteArray × Nat × Option FieldType := (yX5_best, cX5_best, 1, (some .int))
def M157 : MethodName × ByteArray × Nat × Option FieldType := (yX5_triesNow, cX5_triesNow, 2, none)
def M158 : MethodName × ByteArray × Nat × Option FieldType := (yX5_against, cX5_against, 2, (some .int))
def M159 : MethodName × ByteArray × Nat × Option FieldType := (yX5_taking, cX5_taking, 3, (some .int))
def M160 : MethodName × ByteArray × Nat × Option FieldType := (yX5_course, cX5_course, 8, (some .int))
def M161 : MethodName × ByteArray × Nat × Option FieldType := (yX5_sincere, cX5_sincere, 2, (some .int))
def M162 : MethodName × ByteArray × Nat × Option FieldType := (yX5_sincereOf, cX5_sincereOf, 9, (some .int))
def M163 : MethodName × ByteArray × Nat × Option FieldType := (yX5_without, cX5_without, 3, (some .int))
def M164 : MethodName × ByteArray × Nat × Option FieldType := (yX5_back, cX5_back, 1, (some .int))
def M165 : MethodName × ByteArray × Nat × Option FieldType := (yX5_tells, cX5_tells, 2, (some .int))
def M166 : MethodName × ByteArray × Nat × Option FieldType := (yX5_told, cX5_told, 2, (some .int))
def M167 : MethodName × ByteArray × Nat × Option FieldType := (yX5_digest, cX5_digest, 5, (some .long))
def M168 : MethodName × ByteArray × Nat × Option FieldType := (yJ6_bitCount_0f7a4, cJ6_bitCount_0f7a4, 1, (some .int))
def M169 : MethodName × ByteArray × Nat × Option FieldType := (yJ7_fill_53178, cJ7_fill_53178, 4, none)
/-- every method: name, bytes, locals, answer; cells and slots that it makes -/
def MDl : List ((MethodName × ByteArray × Nat × Option FieldType) × Nat × Nat) := [(M0, 9, 66), (M1, 0, 0), (M2, 0, 0), (M3, 0, 0), (M4, 0, 0), (M5, 0, 0), (M6, 0, 0), (M7, 0, 0), (M8, 0, 0), (M9, 0, 0), (M10, 0, 0), (M11, 0, 0), (M12, 0, 0), (M13, 0, 0), (M14, 0, 0), (M15, 0, 0), (M16, 0, 0), (M17, 0, 0), (M18, 0, 0), (M19, 0, 0), (M20, 0, 0), (M21, 0, 0), (M22, 0, 0), (M23, 0, 0), (M24, 0, 0), (M25, 0, 0), (M26, 0, 0), (M27, 0, 0), (M28, 0, 0), (M29, 0, 0), (M30, 0, 0), (M31, 0, 0), (M32, 2, 11728), (M33, 0, 0), (M34, 0, 0), (M35, 0, 0), (M36, 0, 0), (M37, 0, 0), (M38, 0, 0), (M39, 0, 0), (M40, 0, 0), (M41, 0, 0), (M42, 0, 0), (M43, 0, 0), (M44, 61, 516), (M45, 0, 0), (M46, 0, 0), (M47, 2, 164), (M48, 0, 0), (M49, 0, 0), (M50, 0, 0), (M51, 0, 0), (M52, 0, 0), (M53, 0, 0), (M54, 0, 0), (M55, 0, 0), (M56, 0, 0), (M57, 0, 0), (M58, 0, 0), (M59, 0, 0), (M60, 0, 0), (M61, 0, 0), (M62, 88, 12590), (M63, 0, 0), (M64, 0, 0), (M65, 0, 0), (M66, 0, 0), (M67, 0, 0), (M68, 0, 0), (M69, 0, 0), (M70, 0, 0), (M71, 0, 0), (M72, 0, 0), (M73, 0, 0), (M74, 0, 0), (M75, 0, 0), (M76, 0, 0), (M77, 0, 0), (M78, 0, 0), (M79, 0, 0), (M80, 0, 0), (M81, 0, 0), (M82, 0, 0), (M83, 0, 0), (M84, 0, 0), (M85, 0, 0), (M86, 0, 0), (M87, 0, 0), (M88, 0, 0), (M89, 0, 0), (M90, 0, 0), (M91, 0, 0), (M92, 0, 0), (M93, 0, 0), (M94, 0, 0), (M95, 10, 8817), (M96, 0, 0), (M97, 0, 0), (M98, 0, 0), (M99, 0, 0), (M100, 0, 0), (M101, 0, 0), (M102, 0, 0), (M103, 0, 0), (M104, 0, 0), (M105, 0, 0), (M106, 0, 0), (M107, 0, 0), (M108, 0, 0), (M109, 0, 0), (M110, 0, 0), (M111, 0, 0), (M112, 0, 0), (M113, 0, 0), (M114, 0, 0), (M115, 0, 0), (M116, 0, 0), (M117, 0, 0), (M118, 0, 0), (M119, 0, 0), (M120, 0, 0), (M121, 0, 0), (M122, 0, 0), (M123, 0, 0), (M124, 0, 0), (M125, 0, 0), (M126, 0, 0), (M127, 0, 0), (M128, 0, 0), (M129, 0, 0), (M130, 0, 0), (M131, 0, 0), (M132, 0, 0), (M133, 0, 0), (M134, 0, 0), (M135, 0, 0), (M136, 0, 0), (M137, 0, 0), (M138, 0, 0), (M139, 0, 0), (M140, 0, 0), (M141, 0, 0), (M142, 0, 0), (M143, 0, 0), (M144, 0, 0), (M145, 0, 0), (M146, 0, 0), (M147, 0, 0), (M148, 0, 0), (M149, 0, 0), (M150, 0, 0), (M151, 0, 0), (M152, 0, 0), (M153, 0, 0), (M154, 0, 0), (M155, 0, 0), (M156, 0, 0), (M157, 0, 0), (M158, 0, 0), (M159, 0, 0), (M160, 0, 0), (M161, 0, 0), (M162, 0, 0), (M163, 0, 0), (M164, 0, 0), (M165, 0, 0), (M166, 0, 0), (M167, 0, 0), (M168, 0, 0), (M169, 0, 0)]
def MD (i : Nat) : (MethodName × ByteArray × Nat × Option FieldType) × Nat × Nat := MDl.getD i ((yX4_bit, cX4_bit, 0, none), 0, 0)
