section
-- ===== PART A: goes FIRST, ahead of the names: the tables' words, and 'selects' of the private methods out of them =====
/-- a private method of a class that the tables say can be made, by its rows of tables_1 -/
def lw_okq (q : MethodName × Nat) : Prop := (q.1.cls ≠ "java/lang/invoke/MethodHandle" ∧ q.1.cls ≠ "java/lang/invoke/VarHandle") ∧ Cond.instantiable q.1.cls q.2 ∈ tables_1 ∧ Cond.privateMethod q.1 ∈ tables_1 ∧ Cond.instanceMethod q.1 ∈ tables_1
theorem lw_p0 : lw_okq (⟨"PostShares", "startAnew", "()V"⟩, 9) := ⟨⟨by decide +kernel, by decide +kernel⟩, List.mem_of_getElem? (i := 12) (by decide +kernel), List.mem_of_getElem? (i := 176) (by decide +kernel), List.mem_of_getElem? (i := 177) (by decide +kernel)⟩
theorem lw_p1 : lw_okq (⟨"PostShares$Board", "dealTurns", "()V"⟩, 19) := ⟨⟨by decide +kernel, by decide +kernel⟩, List.mem_of_getElem? (i := 56) (by decide +kernel), List.mem_of_getElem? (i := 186) (by decide +kernel), List.mem_of_getElem? (i := 187) (by decide +kernel)⟩
theorem lw_p2 : lw_okq (⟨"PostShares$Board", "comesAhead", "(II)Z"⟩, 19) := ⟨⟨by decide +kernel, by decide +kernel⟩, List.mem_of_getElem? (i := 56) (by decide +kernel), List.mem_of_getElem? (i := 194) (by decide +kernel), List.mem_of_getElem? (i := 195) (by decide +kernel)⟩
theorem lw_p3 : lw_okq (⟨"PostShares$Board", "divisor", "(I)I"⟩, 19) := ⟨⟨by decide +kernel, by decide +kernel⟩, List.mem_of_getElem? (i := 56) (by decide +kernel), List.mem_of_getElem? (i := 198) (by decide +kernel), List.mem_of_getElem? (i := 199) (by decide +kernel)⟩
theorem lw_p4 : lw_okq (⟨"PostShares$Board", "lookBehindTurns", "()V"⟩, 19) := ⟨⟨by decide +kernel, by decide +kernel⟩, List.mem_of_getElem? (i := 56) (by decide +kernel), List.mem_of_getElem? (i := 202) (by decide +kernel), List.mem_of_getElem? (i := 203) (by decide +kernel)⟩
theorem lw_p5 : lw_okq (⟨"PostShares$Board", "rankAsked", "()V"⟩, 19) := ⟨⟨by decide +kernel, by decide +kernel⟩, List.mem_of_getElem? (i := 56) (by decide +kernel), List.mem_of_getElem? (i := 206) (by decide +kernel), List.mem_of_getElem? (i := 207) (by decide +kernel)⟩
theorem lw_p6 : lw_okq (⟨"PostShares", "bad", "()I"⟩, 9) := ⟨⟨by decide +kernel, by decide +kernel⟩, List.mem_of_getElem? (i := 12) (by decide +kernel), List.mem_of_getElem? (i := 242) (by decide +kernel), List.mem_of_getElem? (i := 243) (by decide +kernel)⟩
theorem lw_p7 : lw_okq (⟨"PostShares", "full", "()I"⟩, 9) := ⟨⟨by decide +kernel, by decide +kernel⟩, List.mem_of_getElem? (i := 12) (by decide +kernel), List.mem_of_getElem? (i := 246) (by decide +kernel), List.mem_of_getElem? (i := 247) (by decide +kernel)⟩
theorem lw_p8 : lw_okq (⟨"PostShares$Text", "readItem", "(LPostShares$Board;)Z"⟩, 7) := ⟨⟨by decide +kernel, by decide +kernel⟩, List.mem_of_getElem? (i := 20) (by decide +kernel), List.mem_of_getElem? (i := 274) (by decide +kernel), List.mem_of_getElem? (i := 275) (by decide +kernel)⟩
theorem lw_p9 : lw_okq (⟨"PostShares$Text", "expect", "(II)V"⟩, 7) := ⟨⟨by decide +kernel, by decide +kernel⟩, List.mem_of_getElem? (i := 20) (by decide +kernel), List.mem_of_getElem? (i := 278) (by decide +kernel), List.mem_of_getElem? (i := 279) (by decide +kernel)⟩
theorem lw_p10 : lw_okq (⟨"PostShares$Text", "seen", "()I"⟩, 7) := ⟨⟨by decide +kernel, by decide +kernel⟩, List.mem_of_getElem? (i := 20) (by decide +kernel), List.mem_of_getElem? (i := 282) (by decide +kernel), List.mem_of_getElem? (i := 283) (by decide +kernel)⟩
theorem lw_p11 : lw_okq (⟨"PostShares$Text", "readLot", "(LPostShares$Board;)Z"⟩, 7) := ⟨⟨by decide +kernel, by decide +kernel⟩, List.mem_of_getElem? (i := 20) (by decide +kernel), List.mem_of_getElem? (i := 286) (by decide +kernel), List.mem_of_getElem? (i := 287) (by decide +kernel)⟩
theorem lw_p12 : lw_okq (⟨"PostShares$Text", "readEnd", "()Z"⟩, 7) := ⟨⟨by decide +kernel, by decide +kernel⟩, List.mem_of_getElem? (i := 20) (by decide +kernel), List.mem_of_getElem? (i := 301) (by decide +kernel), List.mem_of_getElem? (i := 302) (by decide +kernel)⟩
theorem lw_p13 : lw_okq (⟨"PostShares$Text", "pass", "(I)Z"⟩, 7) := ⟨⟨by decide +kernel, by decide +kernel⟩, List.mem_of_getElem? (i := 20) (by decide +kernel), List.mem_of_getElem? (i := 305) (by decide +kernel), List.mem_of_getElem? (i := 306) (by decide +kernel)⟩
theorem lw_p14 : lw_okq (⟨"PostShares$Text", "readRule", "(LPostShares$Board;)Z"⟩, 7) := ⟨⟨by decide +kernel, by decide +kernel⟩, List.mem_of_getElem? (i := 20) (by decide +kernel), List.mem_of_getElem? (i := 309) (by decide +kernel), List.mem_of_getElem? (i := 310) (by decide +kernel)⟩
theorem lw_p15 : lw_okq (⟨"PostShares$Text", "readNumber", "(II)I"⟩, 7) := ⟨⟨by decide +kernel, by decide +kernel⟩, List.mem_of_getElem? (i := 20) (by decide +kernel), List.mem_of_getElem? (i := 313) (by decide +kernel), List.mem_of_getElem? (i := 314) (by decide +kernel)⟩
def lw_privs_1 : List (MethodName × Nat) := [(⟨"PostShares", "startAnew", "()V"⟩, 9), (⟨"PostShares$Board", "dealTurns", "()V"⟩, 19), (⟨"PostShares$Board", "comesAhead", "(II)Z"⟩, 19), (⟨"PostShares$Board", "divisor", "(I)I"⟩, 19), (⟨"PostShares$Board", "lookBehindTurns", "()V"⟩, 19), (⟨"PostShares$Board", "rankAsked", "()V"⟩, 19), (⟨"PostShares", "bad", "()I"⟩, 9), (⟨"PostShares", "full", "()I"⟩, 9), (⟨"PostShares$Text", "readItem", "(LPostShares$Board;)Z"⟩, 7), (⟨"PostShares$Text", "expect", "(II)V"⟩, 7), (⟨"PostShares$Text", "seen", "()I"⟩, 7), (⟨"PostShares$Text", "readLot", "(LPostShares$Board;)Z"⟩, 7), (⟨"PostShares$Text", "readEnd", "()Z"⟩, 7), (⟨"PostShares$Text", "pass", "(I)Z"⟩, 7), (⟨"PostShares$Text", "readRule", "(LPostShares$Board;)Z"⟩, 7), (⟨"PostShares$Text", "readNumber", "(II)I"⟩, 7)]
theorem lw_r1 : ∀ q ∈ lw_privs_1, lw_okq q := List.forall_mem_cons.mpr ⟨lw_p0, List.forall_mem_cons.mpr ⟨lw_p1, List.forall_mem_cons.mpr ⟨lw_p2, List.forall_mem_cons.mpr ⟨lw_p3, List.forall_mem_cons.mpr ⟨lw_p4, List.forall_mem_cons.mpr ⟨lw_p5, List.forall_mem_cons.mpr ⟨lw_p6, List.forall_mem_cons.mpr ⟨lw_p7, List.forall_mem_cons.mpr ⟨lw_p8, List.forall_mem_cons.mpr ⟨lw_p9, List.forall_mem_cons.mpr ⟨lw_p10, List.forall_mem_cons.mpr ⟨lw_p11, List.forall_mem_cons.mpr ⟨lw_p12, List.forall_mem_cons.mpr ⟨lw_p13, List.forall_mem_cons.mpr ⟨lw_p14, List.forall_mem_cons.mpr ⟨lw_p15, fun _ h => absurd h List.not_mem_nil⟩⟩⟩⟩⟩⟩⟩⟩⟩⟩⟩⟩⟩⟩⟩⟩
theorem lw_p16 : lw_okq (⟨"PostShares$Text", "readParty", "(LPostShares$Board;)Z"⟩, 7) := ⟨⟨by decide +kernel, by decide +kernel⟩, List.mem_of_getElem? (i := 20) (by decide +kernel), List.mem_of_getElem? (i := 317) (by decide +kernel), List.mem_of_getElem? (i := 318) (by decide +kernel)⟩
theorem lw_p17 : lw_okq (⟨"PostShares$Text", "readWorth", "(LPostShares$Board;I)Z"⟩, 7) := ⟨⟨by decide +kernel, by decide +kernel⟩, List.mem_of_getElem? (i := 20) (by decide +kernel), List.mem_of_getElem? (i := 321) (by decide +kernel), List.mem_of_getElem? (i := 322) (by decide +kernel)⟩
theorem lw_p18 : lw_okq (⟨"PostShares$Text", "noteReasons", "()V"⟩, 7) := ⟨⟨by decide +kernel, by decide +kernel⟩, List.mem_of_getElem? (i := 20) (by decide +kernel), List.mem_of_getElem? (i := 333) (by decide +kernel), List.mem_of_getElem? (i := 334) (by decide +kernel)⟩
theorem lw_p19 : lw_okq (⟨"PostShares", "no", "()I"⟩, 9) := ⟨⟨by decide +kernel, by decide +kernel⟩, List.mem_of_getElem? (i := 12) (by decide +kernel), List.mem_of_getElem? (i := 407) (by decide +kernel), List.mem_of_getElem? (i := 408) (by decide +kernel)⟩
theorem lw_p20 : lw_okq (⟨"PostShares$Board", "dropLot", "(I)V"⟩, 19) := ⟨⟨by decide +kernel, by decide +kernel⟩, List.mem_of_getElem? (i := 56) (by decide +kernel), List.mem_of_getElem? (i := 430) (by decide +kernel), List.mem_of_getElem? (i := 431) (by decide +kernel)⟩
theorem lw_p21 : lw_okq (⟨"PostShares$Board", "dropParty", "(I)V"⟩, 19) := ⟨⟨by decide +kernel, by decide +kernel⟩, List.mem_of_getElem? (i := 56) (by decide +kernel), List.mem_of_getElem? (i := 446) (by decide +kernel), List.mem_of_getElem? (i := 447) (by decide +kernel)⟩
theorem lw_p22 : lw_okq (⟨"PostShares$Foresight", "outcome", "(LPostShares$Board;IIII)J"⟩, 2) := ⟨⟨by decide +kernel, by decide +kernel⟩, List.mem_of_getElem? (i := 162) (by decide +kernel), List.mem_of_getElem? (i := 489) (by decide +kernel), List.mem_of_getElem? (i := 490) (by decide +kernel)⟩
theorem lw_p23 : lw_okq (⟨"PostShares$Foresight", "caseOf", "(III)I"⟩, 2) := ⟨⟨by decide +kernel, by decide +kernel⟩, List.mem_of_getElem? (i := 162) (by decide +kernel), List.mem_of_getElem? (i := 500) (by decide +kernel), List.mem_of_getElem? (i := 501) (by decide +kernel)⟩
theorem lw_p24 : lw_okq (⟨"PostShares$Foresight", "ifTaken", "(LPostShares$Board;IIIII)J"⟩, 2) := ⟨⟨by decide +kernel, by decide +kernel⟩, List.mem_of_getElem? (i := 162) (by decide +kernel), List.mem_of_getElem? (i := 506) (by decide +kernel), List.mem_of_getElem? (i := 507) (by decide +kernel)⟩
theorem lw_p25 : lw_okq (⟨"PostShares$Board", "dearest", "(II)I"⟩, 19) := ⟨⟨by decide +kernel, by decide +kernel⟩, List.mem_of_getElem? (i := 56) (by decide +kernel), List.mem_of_getElem? (i := 564) (by decide +kernel), List.mem_of_getElem? (i := 565) (by decide +kernel)⟩
theorem lw_p26 : lw_okq (⟨"PostShares", "digestedParty", "(JI)J"⟩, 9) := ⟨⟨by decide +kernel, by decide +kernel⟩, List.mem_of_getElem? (i := 12) (by decide +kernel), List.mem_of_getElem? (i := 596) (by decide +kernel), List.mem_of_getElem? (i := 597) (by decide +kernel)⟩
theorem lw_p27 : lw_okq (⟨"PostSharesModel", "refuses", "(I)I"⟩, 20) := ⟨⟨by decide +kernel, by decide +kernel⟩, List.mem_of_getElem? (i := 604) (by decide +kernel), List.mem_of_getElem? (i := 679) (by decide +kernel), List.mem_of_getElem? (i := 680) (by decide +kernel)⟩
theorem lw_p28 : lw_okq (⟨"PostSharesModel", "copy", "(II)V"⟩, 20) := ⟨⟨by decide +kernel, by decide +kernel⟩, List.mem_of_getElem? (i := 604) (by decide +kernel), List.mem_of_getElem? (i := 691) (by decide +kernel), List.mem_of_getElem? (i := 692) (by decide +kernel)⟩
theorem lw_p29 : lw_okq (⟨"PostSharesModel", "readsAll", "()Z"⟩, 20) := ⟨⟨by decide +kernel, by decide +kernel⟩, List.mem_of_getElem? (i := 604) (by decide +kernel), List.mem_of_getElem? (i := 695) (by decide +kernel), List.mem_of_getElem? (i := 696) (by decide +kernel)⟩
theorem lw_p30 : lw_okq (⟨"PostSharesModel", "readsItem", "()Z"⟩, 20) := ⟨⟨by decide +kernel, by decide +kernel⟩, List.mem_of_getElem? (i := 604) (by decide +kernel), List.mem_of_getElem? (i := 699) (by decide +kernel), List.mem_of_getElem? (i := 700) (by decide +kernel)⟩
theorem lw_p31 : lw_okq (⟨"PostSharesModel", "reading", "(II)V"⟩, 20) := ⟨⟨by decide +kernel, by decide +kernel⟩, List.mem_of_getElem? (i := 604) (by decide +kernel), List.mem_of_getElem? (i := 703) (by decide +kernel), List.mem_of_getElem? (i := 704) (by decide +kernel)⟩
def lw_privs_2 : List (MethodName × Nat) := [(⟨"PostShares$Text", "readParty", "(LPostShares$Board;)Z"⟩, 7), (⟨"PostShares$Text", "readWorth", "(LPostShares$Board;I)Z"⟩, 7), (⟨"PostShares$Text", "noteReasons", "()V"⟩, 7), (⟨"PostShares", "no", "()I"⟩, 9), (⟨"PostShares$Board", "dropLot", "(I)V"⟩, 19), (⟨"PostShares$Board", "dropParty", "(I)V"⟩, 19), (⟨"PostShares$Foresight", "outcome", "(LPostShares$Board;IIII)J"⟩, 2), (⟨"PostShares$Foresight", "caseOf", "(III)I"⟩, 2), (⟨"PostShares$Foresight", "ifTaken", "(LPostShares$Board;IIIII)J"⟩, 2), (⟨"PostShares$Board", "dearest", "(II)I"⟩, 19), (⟨"PostShares", "digestedParty", "(JI)J"⟩, 9), (⟨"PostSharesModel", "refuses", "(I)I"⟩, 20), (⟨"PostSharesModel", "copy", "(II)V"⟩, 20), (⟨"PostSharesModel", "readsAll", "()Z"⟩, 20), (⟨"PostSharesModel", "readsItem", "()Z"⟩, 20), (⟨"PostSharesModel", "reading", "(II)V"⟩, 20)]
theorem lw_r2 : ∀ q ∈ lw_privs_2, lw_okq q := List.forall_mem_cons.mpr ⟨lw_p16, List.forall_mem_cons.mpr ⟨lw_p17, List.forall_mem_cons.mpr ⟨lw_p18, List.forall_mem_cons.mpr ⟨lw_p19, List.forall_mem_cons.mpr ⟨lw_p20, List.forall_mem_cons.mpr ⟨lw_p21, List.forall_mem_cons.mpr ⟨lw_p22, List.forall_mem_cons.mpr ⟨lw_p23, List.forall_mem_cons.mpr ⟨lw_p24, List.forall_mem_cons.mpr ⟨lw_p25, List.forall_mem_cons.mpr ⟨lw_p26, List.forall_mem_cons.mpr ⟨lw_p27, List.forall_mem_cons.mpr ⟨lw_p28, List.forall_mem_cons.mpr ⟨lw_p29, List.forall_mem_cons.mpr ⟨lw_p30, List.forall_mem_cons.mpr ⟨lw_p31, fun _ h => absurd h List.not_mem_nil⟩⟩⟩⟩⟩⟩⟩⟩⟩⟩⟩⟩⟩⟩⟩⟩
theorem lw_p32 : lw_okq (⟨"PostSharesModel", "byteHere", "()I"⟩, 20) := ⟨⟨by decide +kernel, by decide +kernel⟩, List.mem_of_getElem? (i := 604) (by decide +kernel), List.mem_of_getElem? (i := 707) (by decide +kernel), List.mem_of_getElem? (i := 708) (by decide +kernel)⟩
theorem lw_p33 : lw_okq (⟨"PostSharesModel", "readsRule", "()Z"⟩, 20) := ⟨⟨by decide +kernel, by decide +kernel⟩, List.mem_of_getElem? (i := 604) (by decide +kernel), List.mem_of_getElem? (i := 711) (by decide +kernel), List.mem_of_getElem? (i := 712) (by decide +kernel)⟩
theorem lw_p34 : lw_okq (⟨"PostSharesModel", "must", "(I)Z"⟩, 20) := ⟨⟨by decide +kernel, by decide +kernel⟩, List.mem_of_getElem? (i := 604) (by decide +kernel), List.mem_of_getElem? (i := 717) (by decide +kernel), List.mem_of_getElem? (i := 718) (by decide +kernel)⟩
theorem lw_p35 : lw_okq (⟨"PostSharesModel", "isAt", "(I)Z"⟩, 20) := ⟨⟨by decide +kernel, by decide +kernel⟩, List.mem_of_getElem? (i := 604) (by decide +kernel), List.mem_of_getElem? (i := 721) (by decide +kernel), List.mem_of_getElem? (i := 722) (by decide +kernel)⟩
theorem lw_p36 : lw_okq (⟨"PostSharesModel", "readsLot", "()Z"⟩, 20) := ⟨⟨by decide +kernel, by decide +kernel⟩, List.mem_of_getElem? (i := 604) (by decide +kernel), List.mem_of_getElem? (i := 725) (by decide +kernel), List.mem_of_getElem? (i := 726) (by decide +kernel)⟩
theorem lw_p37 : lw_okq (⟨"PostSharesModel", "readsParty", "()Z"⟩, 20) := ⟨⟨by decide +kernel, by decide +kernel⟩, List.mem_of_getElem? (i := 604) (by decide +kernel), List.mem_of_getElem? (i := 734) (by decide +kernel), List.mem_of_getElem? (i := 735) (by decide +kernel)⟩
theorem lw_p38 : lw_okq (⟨"PostSharesModel", "readsNumber", "(II)Z"⟩, 20) := ⟨⟨by decide +kernel, by decide +kernel⟩, List.mem_of_getElem? (i := 604) (by decide +kernel), List.mem_of_getElem? (i := 738) (by decide +kernel), List.mem_of_getElem? (i := 739) (by decide +kernel)⟩
theorem lw_p39 : lw_okq (⟨"PostSharesModel", "isFigure", "()Z"⟩, 20) := ⟨⟨by decide +kernel, by decide +kernel⟩, List.mem_of_getElem? (i := 604) (by decide +kernel), List.mem_of_getElem? (i := 743) (by decide +kernel), List.mem_of_getElem? (i := 744) (by decide +kernel)⟩
theorem lw_p40 : lw_okq (⟨"PostSharesModel", "begins", "()V"⟩, 20) := ⟨⟨by decide +kernel, by decide +kernel⟩, List.mem_of_getElem? (i := 604) (by decide +kernel), List.mem_of_getElem? (i := 747) (by decide +kernel), List.mem_of_getElem? (i := 748) (by decide +kernel)⟩
theorem lw_p41 : lw_okq (⟨"PostSharesModel", "keepsNew", "()V"⟩, 20) := ⟨⟨by decide +kernel, by decide +kernel⟩, List.mem_of_getElem? (i := 604) (by decide +kernel), List.mem_of_getElem? (i := 751) (by decide +kernel), List.mem_of_getElem? (i := 752) (by decide +kernel)⟩
theorem lw_p42 : lw_okq (⟨"PostSharesModel", "minds", "()V"⟩, 20) := ⟨⟨by decide +kernel, by decide +kernel⟩, List.mem_of_getElem? (i := 604) (by decide +kernel), List.mem_of_getElem? (i := 755) (by decide +kernel), List.mem_of_getElem? (i := 756) (by decide +kernel)⟩
theorem lw_p43 : lw_okq (⟨"PostSharesModel", "turnNow", "(I)I"⟩, 20) := ⟨⟨by decide +kernel, by decide +kernel⟩, List.mem_of_getElem? (i := 604) (by decide +kernel), List.mem_of_getElem? (i := 768) (by decide +kernel), List.mem_of_getElem? (i := 769) (by decide +kernel)⟩
theorem lw_p44 : lw_okq (⟨"PostSharesModel", "laysTurns", "()V"⟩, 20) := ⟨⟨by decide +kernel, by decide +kernel⟩, List.mem_of_getElem? (i := 604) (by decide +kernel), List.mem_of_getElem? (i := 772) (by decide +kernel), List.mem_of_getElem? (i := 773) (by decide +kernel)⟩
theorem lw_p45 : lw_okq (⟨"PostSharesModel", "isAheadOf", "(II)Z"⟩, 20) := ⟨⟨by decide +kernel, by decide +kernel⟩, List.mem_of_getElem? (i := 604) (by decide +kernel), List.mem_of_getElem? (i := 776) (by decide +kernel), List.mem_of_getElem? (i := 777) (by decide +kernel)⟩
theorem lw_p46 : lw_okq (⟨"PostSharesModel", "above", "(I)I"⟩, 20) := ⟨⟨by decide +kernel, by decide +kernel⟩, List.mem_of_getElem? (i := 604) (by decide +kernel), List.mem_of_getElem? (i := 780) (by decide +kernel), List.mem_of_getElem? (i := 781) (by decide +kernel)⟩
theorem lw_p47 : lw_okq (⟨"PostSharesModel", "below", "(I)I"⟩, 20) := ⟨⟨by decide +kernel, by decide +kernel⟩, List.mem_of_getElem? (i := 604) (by decide +kernel), List.mem_of_getElem? (i := 784) (by decide +kernel), List.mem_of_getElem? (i := 785) (by decide +kernel)⟩
def lw_privs_3 : List (MethodName × Nat) := [(⟨"PostSharesModel", "byteHere", "()I"⟩, 20), (⟨"PostSharesModel", "readsRule", "()Z"⟩, 20), (⟨"PostSharesModel", "must", "(I)Z"⟩, 20), (⟨"PostSharesModel", "isAt", "(I)Z"⟩, 20), (⟨"PostSharesModel", "readsLot", "()Z"⟩, 20), (⟨"PostSharesModel", "readsParty", "()Z"⟩, 20), (⟨"PostSharesModel", "readsNumber", "(II)Z"⟩, 20), (⟨"PostSharesModel", "isFigure", "()Z"⟩, 20), (⟨"PostSharesModel", "begins", "()V"⟩, 20), (⟨"PostSharesModel", "keepsNew", "()V"⟩, 20), (⟨"PostSharesModel", "minds", "()V"⟩, 20), (⟨"PostSharesModel", "turnNow", "(I)I"⟩, 20), (⟨"PostSharesModel", "laysTurns", "()V"⟩, 20), (⟨"PostSharesModel", "isAheadOf", "(II)Z"⟩, 20), (⟨"PostSharesModel", "above", "(I)I"⟩, 20), (⟨"PostSharesModel", "below", "(I)I"⟩, 20)]
theorem lw_r3 : ∀ q ∈ lw_privs_3, lw_okq q := List.forall_mem_cons.mpr ⟨lw_p32, List.forall_mem_cons.mpr ⟨lw_p33, List.forall_mem_cons.mpr ⟨lw_p34, List.forall_mem_cons.mpr ⟨lw_p35, List.forall_mem_cons.mpr ⟨lw_p36, List.forall_mem_cons.mpr ⟨lw_p37, List.forall_mem_cons.mpr ⟨lw_p38, List.forall_mem_cons.mpr ⟨lw_p39, List.forall_mem_cons.mpr ⟨lw_p40, List.forall_mem_cons.mpr ⟨lw_p41, List.forall_mem_cons.mpr ⟨lw_p42, List.forall_mem_cons.mpr ⟨lw_p43, List.forall_mem_cons.mpr ⟨lw_p44, List.forall_mem_cons.mpr ⟨lw_p45, List.forall_mem_cons.mpr ⟨lw_p46, List.forall_mem_cons.mpr ⟨lw_p47, fun _ h => absurd h List.not_mem_nil⟩⟩⟩⟩⟩⟩⟩⟩⟩⟩⟩⟩⟩⟩⟩⟩
theorem lw_p48 : lw_okq (⟨"PostSharesModel", "isLot", "(I)Z"⟩, 20) := ⟨⟨by decide +kernel, by decide +kernel⟩, List.mem_of_getElem? (i := 604) (by decide +kernel), List.mem_of_getElem? (i := 792) (by decide +kernel), List.mem_of_getElem? (i := 793) (by decide +kernel)⟩
theorem lw_p49 : lw_okq (⟨"PostSharesModel", "lotIs", "(II)I"⟩, 20) := ⟨⟨by decide +kernel, by decide +kernel⟩, List.mem_of_getElem? (i := 604) (by decide +kernel), List.mem_of_getElem? (i := 796) (by decide +kernel), List.mem_of_getElem? (i := 797) (by decide +kernel)⟩
theorem lw_p50 : lw_okq (⟨"PostSharesModel", "isParty", "(I)Z"⟩, 20) := ⟨⟨by decide +kernel, by decide +kernel⟩, List.mem_of_getElem? (i := 604) (by decide +kernel), List.mem_of_getElem? (i := 804) (by decide +kernel), List.mem_of_getElem? (i := 805) (by decide +kernel)⟩
theorem lw_p51 : lw_okq (⟨"PostSharesModel", "partyIs", "(II)I"⟩, 20) := ⟨⟨by decide +kernel, by decide +kernel⟩, List.mem_of_getElem? (i := 604) (by decide +kernel), List.mem_of_getElem? (i := 809) (by decide +kernel), List.mem_of_getElem? (i := 810) (by decide +kernel)⟩
theorem lw_p52 : lw_okq (⟨"PostSharesModel", "sumOf", "(I)I"⟩, 20) := ⟨⟨by decide +kernel, by decide +kernel⟩, List.mem_of_getElem? (i := 604) (by decide +kernel), List.mem_of_getElem? (i := 813) (by decide +kernel), List.mem_of_getElem? (i := 814) (by decide +kernel)⟩
theorem lw_p53 : lw_okq (⟨"PostSharesModel", "worthOf", "(II)I"⟩, 20) := ⟨⟨by decide +kernel, by decide +kernel⟩, List.mem_of_getElem? (i := 604) (by decide +kernel), List.mem_of_getElem? (i := 817) (by decide +kernel), List.mem_of_getElem? (i := 818) (by decide +kernel)⟩
theorem lw_p54 : lw_okq (⟨"PostSharesModel", "turnsOf", "(II)I"⟩, 20) := ⟨⟨by decide +kernel, by decide +kernel⟩, List.mem_of_getElem? (i := 604) (by decide +kernel), List.mem_of_getElem? (i := 821) (by decide +kernel), List.mem_of_getElem? (i := 822) (by decide +kernel)⟩
theorem lw_p55 : lw_okq (⟨"PostSharesModel", "worths", "(I)I"⟩, 20) := ⟨⟨by decide +kernel, by decide +kernel⟩, List.mem_of_getElem? (i := 604) (by decide +kernel), List.mem_of_getElem? (i := 825) (by decide +kernel), List.mem_of_getElem? (i := 826) (by decide +kernel)⟩
theorem lw_p56 : lw_okq (⟨"PostSharesModel", "canTake", "(I)Z"⟩, 20) := ⟨⟨by decide +kernel, by decide +kernel⟩, List.mem_of_getElem? (i := 604) (by decide +kernel), List.mem_of_getElem? (i := 863) (by decide +kernel), List.mem_of_getElem? (i := 864) (by decide +kernel)⟩
theorem lw_p57 : lw_okq (⟨"PostSharesModel", "left", "()I"⟩, 20) := ⟨⟨by decide +kernel, by decide +kernel⟩, List.mem_of_getElem? (i := 604) (by decide +kernel), List.mem_of_getElem? (i := 867) (by decide +kernel), List.mem_of_getElem? (i := 868) (by decide +kernel)⟩
theorem lw_p58 : lw_okq (⟨"PostSharesModel", "canVeto", "(I)Z"⟩, 20) := ⟨⟨by decide +kernel, by decide +kernel⟩, List.mem_of_getElem? (i := 604) (by decide +kernel), List.mem_of_getElem? (i := 875) (by decide +kernel), List.mem_of_getElem? (i := 876) (by decide +kernel)⟩
theorem lw_p59 : lw_okq (⟨"PostSharesModel", "foreseenBy", "(II)I"⟩, 20) := ⟨⟨by decide +kernel, by decide +kernel⟩, List.mem_of_getElem? (i := 604) (by decide +kernel), List.mem_of_getElem? (i := 883) (by decide +kernel), List.mem_of_getElem? (i := 884) (by decide +kernel)⟩
theorem lw_p60 : lw_okq (⟨"PostSharesModel", "isTurnLeft", "()Z"⟩, 20) := ⟨⟨by decide +kernel, by decide +kernel⟩, List.mem_of_getElem? (i := 604) (by decide +kernel), List.mem_of_getElem? (i := 887) (by decide +kernel), List.mem_of_getElem? (i := 888) (by decide +kernel)⟩
theorem lw_p61 : lw_okq (⟨"PostSharesModel", "laysEnds", "(I)V"⟩, 20) := ⟨⟨by decide +kernel, by decide +kernel⟩, List.mem_of_getElem? (i := 604) (by decide +kernel), List.mem_of_getElem? (i := 891) (by decide +kernel), List.mem_of_getElem? (i := 892) (by decide +kernel)⟩
theorem lw_p62 : lw_okq (⟨"PostSharesModel", "laysWithin", "(I)V"⟩, 20) := ⟨⟨by decide +kernel, by decide +kernel⟩, List.mem_of_getElem? (i := 604) (by decide +kernel), List.mem_of_getElem? (i := 895) (by decide +kernel), List.mem_of_getElem? (i := 896) (by decide +kernel)⟩
theorem lw_p63 : lw_okq (⟨"PostSharesModel", "laysAsked", "(I)V"⟩, 20) := ⟨⟨by decide +kernel, by decide +kernel⟩, List.mem_of_getElem? (i := 604) (by decide +kernel), List.mem_of_getElem? (i := 902) (by decide +kernel), List.mem_of_getElem? (i := 903) (by decide +kernel)⟩
def lw_privs_4 : List (MethodName × Nat) := [(⟨"PostSharesModel", "isLot", "(I)Z"⟩, 20), (⟨"PostSharesModel", "lotIs", "(II)I"⟩, 20), (⟨"PostSharesModel", "isParty", "(I)Z"⟩, 20), (⟨"PostSharesModel", "partyIs", "(II)I"⟩, 20), (⟨"PostSharesModel", "sumOf", "(I)I"⟩, 20), (⟨"PostSharesModel", "worthOf", "(II)I"⟩, 20), (⟨"PostSharesModel", "turnsOf", "(II)I"⟩, 20), (⟨"PostSharesModel", "worths", "(I)I"⟩, 20), (⟨"PostSharesModel", "canTake", "(I)Z"⟩, 20), (⟨"PostSharesModel", "left", "()I"⟩, 20), (⟨"PostSharesModel", "canVeto", "(I)Z"⟩, 20), (⟨"PostSharesModel", "foreseenBy", "(II)I"⟩, 20), (⟨"PostSharesModel", "isTurnLeft", "()Z"⟩, 20), (⟨"PostSharesModel", "laysEnds", "(I)V"⟩, 20), (⟨"PostSharesModel", "laysWithin", "(I)V"⟩, 20), (⟨"PostSharesModel", "laysAsked", "(I)V"⟩, 20)]
theorem lw_r4 : ∀ q ∈ lw_privs_4, lw_okq q := List.forall_mem_cons.mpr ⟨lw_p48, List.forall_mem_cons.mpr ⟨lw_p49, List.forall_mem_cons.mpr ⟨lw_p50, List.forall_mem_cons.mpr ⟨lw_p51, List.forall_mem_cons.mpr ⟨lw_p52, List.forall_mem_cons.mpr ⟨lw_p53, List.forall_mem_cons.mpr ⟨lw_p54, List.forall_mem_cons.mpr ⟨lw_p55, List.forall_mem_cons.mpr ⟨lw_p56, List.forall_mem_cons.mpr ⟨lw_p57, List.forall_mem_cons.mpr ⟨lw_p58, List.forall_mem_cons.mpr ⟨lw_p59, List.forall_mem_cons.mpr ⟨lw_p60, List.forall_mem_cons.mpr ⟨lw_p61, List.forall_mem_cons.mpr ⟨lw_p62, List.forall_mem_cons.mpr ⟨lw_p63, fun _ h => absurd h List.not_mem_nil⟩⟩⟩⟩⟩⟩⟩⟩⟩⟩⟩⟩⟩⟩⟩⟩
theorem lw_p64 : lw_okq (⟨"PostSharesModel", "chosen", "(IIII)I"⟩, 20) := ⟨⟨by decide +kernel, by decide +kernel⟩, List.mem_of_getElem? (i := 604) (by decide +kernel), List.mem_of_getElem? (i := 906) (by decide +kernel), List.mem_of_getElem? (i := 907) (by decide +kernel)⟩
theorem lw_p65 : lw_okq (⟨"PostSharesModel", "tries", "(IIIII)V"⟩, 20) := ⟨⟨by decide +kernel, by decide +kernel⟩, List.mem_of_getElem? (i := 604) (by decide +kernel), List.mem_of_getElem? (i := 910) (by decide +kernel), List.mem_of_getElem? (i := 911) (by decide +kernel)⟩
theorem lw_p66 : lw_okq (⟨"PostSharesModel", "triesNow", "(I)V"⟩, 20) := ⟨⟨by decide +kernel, by decide +kernel⟩, List.mem_of_getElem? (i := 604) (by decide +kernel), List.mem_of_getElem? (i := 925) (by decide +kernel), List.mem_of_getElem? (i := 926) (by decide +kernel)⟩
theorem lw_p67 : lw_okq (⟨"PostSharesModel", "sincereOf", "(I)I"⟩, 20) := ⟨⟨by decide +kernel, by decide +kernel⟩, List.mem_of_getElem? (i := 604) (by decide +kernel), List.mem_of_getElem? (i := 941) (by decide +kernel), List.mem_of_getElem? (i := 942) (by decide +kernel)⟩
theorem lw_p68 : lw_okq (⟨"PostSharesModel", "tells", "(I)I"⟩, 20) := ⟨⟨by decide +kernel, by decide +kernel⟩, List.mem_of_getElem? (i := 604) (by decide +kernel), List.mem_of_getElem? (i := 959) (by decide +kernel), List.mem_of_getElem? (i := 960) (by decide +kernel)⟩
def lw_privs_5 : List (MethodName × Nat) := [(⟨"PostSharesModel", "chosen", "(IIII)I"⟩, 20), (⟨"PostSharesModel", "tries", "(IIIII)V"⟩, 20), (⟨"PostSharesModel", "triesNow", "(I)V"⟩, 20), (⟨"PostSharesModel", "sincereOf", "(I)I"⟩, 20), (⟨"PostSharesModel", "tells", "(I)I"⟩, 20)]
theorem lw_r5 : ∀ q ∈ lw_privs_5, lw_okq q := List.forall_mem_cons.mpr ⟨lw_p64, List.forall_mem_cons.mpr ⟨lw_p65, List.forall_mem_cons.mpr ⟨lw_p66, List.forall_mem_cons.mpr ⟨lw_p67, List.forall_mem_cons.mpr ⟨lw_p68, fun _ h => absurd h List.not_mem_nil⟩⟩⟩⟩⟩
def lw_privs : List (MethodName × Nat) := lw_privs_1 ++ (lw_privs_2 ++ (lw_privs_3 ++ (lw_privs_4 ++ (lw_privs_5))))
def lw_tbl : List Cond := k2_sels lw_privs ++ tables_1
theorem lw_privs_ok : ∀ q ∈ lw_privs, lw_okq q := by
  show ∀ q ∈ lw_privs_1 ++ (lw_privs_2 ++ (lw_privs_3 ++ (lw_privs_4 ++ (lw_privs_5)))), lw_okq q
  exact List.forall_mem_append.mpr ⟨lw_r1, List.forall_mem_append.mpr ⟨lw_r2, List.forall_mem_append.mpr ⟨lw_r3, List.forall_mem_append.mpr ⟨lw_r4, lw_r5⟩⟩⟩⟩
def RX0 : String := "PostShares$Board"
def TX0 : u_T := fun k => match k with
  | 0 => ("PostShares$Board", "lots", "I", false)
  | 1 => ("PostShares$Board", "posts", "[I", true)
  | 2 => ("PostShares$Board", "parties", "I", false)
  | 3 => ("PostShares$Board", "strength", "[I", true)
  | 4 => ("PostShares$Board", "values", "[I", true)
  | 5 => ("PostShares$Board", "vetoesTold", "I", false)
  | 6 => ("PostShares$Board", "divisors", "I", false)
  | 7 => ("PostShares$Board", "version", "I", false)
  | 8 => ("PostShares$Board", "owner", "[I", true)
  | 9 => ("PostShares$Board", "ownersBehind", "[I", true)
  | 10 => ("PostShares$Board", "share", "[I", true)
  | 11 => ("PostShares$Board", "asked", "[I", true)
  | 12 => ("PostShares$Board", "had", "I", false)
  | 13 => ("PostShares$Board", "holder", "[I", true)
  | 14 => ("PostShares$Board", "takenAt", "[I", true)
  | 15 => ("PostShares$Board", "vetoesLeft", "I", false)
  | 16 => ("PostShares$Board", "barred", "I", false)
  | 17 => ("PostShares$Board", "last", "I", false)
  | _ => ("PostShares$Board", "barredBefore", "I", false)
def tyX0 : Nat → FieldType := fun k => match k with
  | 0 => .int
  | 1 => .array .int
  | 2 => .int
  | 3 => .array .int
  | 4 => .array .int
  | 5 => .int
  | 6 => .int
  | 7 => .int
  | 8 => .array .int
  | 9 => .array .int
  | 10 => .array .int
  | 11 => .array .int
  | 12 => .int
  | 13 => .array .int
  | 14 => .array .int
  | 15 => .int
  | 16 => .int
  | 17 => .int
  | _ => .int
theorem nmX0 : ∀ a, a < 19 → ∀ b, b < 19 → a ≠ b → (TX0 a).2.1 ≠ (TX0 b).2.1 := by decide +kernel
theorem tyX0_ok : ∀ k, k < 19 → parseFieldDescriptor (TX0 k).2.2.1 = some (tyX0 k) := by decide +kernel
abbrev cX0_init : ByteArray := prog_2_method_1_code
def yX0_init : MethodName := ⟨RX0, "<init>", "()V"⟩
abbrev cX0_hasLot : ByteArray := prog_2_method_2_code
def yX0_hasLot : MethodName := ⟨RX0, "hasLot", "(I)Z"⟩
abbrev cX0_hasParty : ByteArray := prog_2_method_3_code
def yX0_hasParty : MethodName := ⟨RX0, "hasParty", "(I)Z"⟩
abbrev cX0_value : ByteArray := prog_2_method_4_code
def yX0_value : MethodName := ⟨RX0, "value", "(II)I"⟩
abbrev cX0_setValue : ByteArray := prog_2_method_5_code
def yX0_setValue : MethodName := ⟨RX0, "setValue", "(III)V"⟩
abbrev cX0_turnsInAll : ByteArray := prog_2_method_6_code
def yX0_turnsInAll : MethodName := ⟨RX0, "turnsInAll", "()I"⟩
abbrev cX0_ownerAt : ByteArray := prog_2_method_7_code
def yX0_ownerAt : MethodName := ⟨RX0, "ownerAt", "(I)I"⟩
abbrev cX0_turnsHadBy : ByteArray := prog_2_method_8_code
def yX0_turnsHadBy : MethodName := ⟨RX0, "turnsHadBy", "(I)I"⟩
abbrev cX0_sumOf : ByteArray := prog_2_method_9_code
def yX0_sumOf : MethodName := ⟨RX0, "sumOf", "(I)I"⟩
abbrev cX0_allWorth : ByteArray := prog_2_method_10_code
def yX0_allWorth : MethodName := ⟨RX0, "allWorth", "(I)I"⟩
abbrev cX0_allPosts : ByteArray := prog_2_method_11_code
def yX0_allPosts : MethodName := ⟨RX0, "allPosts", "()I"⟩
abbrev cX0_freeLots : ByteArray := prog_2_method_12_code
def yX0_freeLots : MethodName := ⟨RX0, "freeLots", "()I"⟩
abbrev cX0_tellNothing : ByteArray := prog_2_method_13_code
def yX0_tellNothing : MethodName := ⟨RX0, "tellNothing", "()V"⟩
abbrev cX0_addLot : ByteArray := prog_2_method_14_code
def yX0_addLot : MethodName := ⟨RX0, "addLot", "(I)V"⟩
abbrev cX0_addParty : ByteArray := prog_2_method_15_code
def yX0_addParty : MethodName := ⟨RX0, "addParty", "(Z)V"⟩
abbrev cX0_bindLots : ByteArray := prog_2_method_16_code
def yX0_bindLots : MethodName := ⟨RX0, "bindLots", "(II)V"⟩
abbrev cX0_dropLot : ByteArray := prog_2_method_17_code
def yX0_dropLot : MethodName := ⟨RX0, "dropLot", "(I)V"⟩
abbrev cX0_joinParties : ByteArray := prog_2_method_18_code
def yX0_joinParties : MethodName := ⟨RX0, "joinParties", "(II)V"⟩
abbrev cX0_dropParty : ByteArray := prog_2_method_19_code
def yX0_dropParty : MethodName := ⟨RX0, "dropParty", "(I)V"⟩
abbrev cX0_start : ByteArray := prog_2_method_20_code
def yX0_start : MethodName := ⟨RX0, "start", "(I)V"⟩
abbrev cX0_dealTurns : ByteArray := prog_2_method_21_code
def yX0_dealTurns : MethodName := ⟨RX0, "dealTurns", "()V"⟩
abbrev cX0_lookBehindTurns : ByteArray := prog_2_method_22_code
def yX0_lookBehindTurns : MethodName := ⟨RX0, "lookBehindTurns", "()V"⟩
abbrev cX0_comesAhead : ByteArray := prog_2_method_23_code
def yX0_comesAhead : MethodName := ⟨RX0, "comesAhead", "(II)Z"⟩
abbrev cX0_divisor : ByteArray := prog_2_method_24_code
def yX0_divisor : MethodName := ⟨RX0, "divisor", "(I)I"⟩
abbrev cX0_rankAsked : ByteArray := prog_2_method_25_code
def yX0_rankAsked : MethodName := ⟨RX0, "rankAsked", "()V"⟩
abbrev cX0_canTake : ByteArray := prog_2_method_26_code
def yX0_canTake : MethodName := ⟨RX0, "canTake", "(I)Z"⟩
abbrev cX0_take : ByteArray := prog_2_method_27_code
def yX0_take : MethodName := ⟨RX0, "take", "(I)I"⟩
abbrev cX0_canVeto : ByteArray := prog_2_method_28_code
def yX0_canVeto : MethodName := ⟨RX0, "canVeto", "(I)Z"⟩
abbrev cX0_veto : ByteArray := prog_2_method_29_code
def yX0_veto : MethodName := ⟨RX0, "veto", "(I)I"⟩
abbrev cX0_sincereSum : ByteArray := prog_2_method_30_code
def yX0_sincereSum : MethodName := ⟨RX0, "sincereSum", "(I)I"⟩
abbrev cX0_dearest : ByteArray := prog_2_method_31_code
def yX0_dearest : MethodName := ⟨RX0, "dearest", "(II)I"⟩
abbrev cX0_copy : ByteArray := prog_2_method_32_code
def yX0_copy : MethodName := ⟨RX0, "copy", "(LPostShares$Board;)V"⟩
def RX1 : String := "PostShares$Foresight"
def TX1 : u_T := fun k => match k with
  | 0 => ("PostShares$Foresight", "ternary", "[I", true)
  | _ => ("PostShares$Foresight", "kept", "[J", true)
def tyX1 : Nat → FieldType := fun k => match k with
  | 0 => .array .int
  | _ => .array .long
theorem nmX1 : ∀ a, a < 2 → ∀ b, b < 2 → a ≠ b → (TX1 a).2.1 ≠ (TX1 b).2.1 := by decide +kernel
theorem tyX1_ok : ∀ k, k < 2 → parseFieldDescriptor (TX1 k).2.2.1 = some (tyX1 k) := by decide +kernel
abbrev cX1_init : ByteArray := prog_3_method_1_code
def yX1_init : MethodName := ⟨RX1, "<init>", "()V"⟩
abbrev cX1_sumInTheEnd : ByteArray := prog_3_method_2_code
def yX1_sumInTheEnd : MethodName := ⟨RX1, "sumInTheEnd", "(LPostShares$Board;II)I"⟩
abbrev cX1_lotTaken : ByteArray := prog_3_method_3_code
def yX1_lotTaken : MethodName := ⟨RX1, "lotTaken", "(LPostShares$Board;)I"⟩
abbrev cX1_vetoerIf : ByteArray := prog_3_method_4_code
def yX1_vetoerIf : MethodName := ⟨RX1, "vetoerIf", "(LPostShares$Board;I)I"⟩
abbrev cX1_sumInTheEndIf : ByteArray := prog_3_method_5_code
def yX1_sumInTheEndIf : MethodName := ⟨RX1, "sumInTheEndIf", "(LPostShares$Board;II)I"⟩
abbrev cX1_gainOf : ByteArray := prog_3_method_6_code
def yX1_gainOf : MethodName := ⟨RX1, "gainOf", "(JI)I"⟩
abbrev cX1_vetoerOf : ByteArray := prog_3_method_7_code
def yX1_vetoerOf : MethodName := ⟨RX1, "vetoerOf", "(J)I"⟩
abbrev cX1_lotOf : ByteArray := prog_3_method_8_code
def yX1_lotOf : MethodName := ⟨RX1, "lotOf", "(J)I"⟩
abbrev cX1_caseOf : ByteArray := prog_3_method_9_code
def yX1_caseOf : MethodName := ⟨RX1, "caseOf", "(III)I"⟩
abbrev cX1_outcome : ByteArray := prog_3_method_10_code
def yX1_outcome : MethodName := ⟨RX1, "outcome", "(LPostShares$Board;IIII)J"⟩
abbrev cX1_ifTaken : ByteArray := prog_3_method_11_code
def yX1_ifTaken : MethodName := ⟨RX1, "ifTaken", "(LPostShares$Board;IIIII)J"⟩
abbrev cX1_thing : ByteArray := prog_3_method_12_code
def yX1_thing : MethodName := ⟨RX1, "thing", "(LPostShares$Board;I)I"⟩
def RX2 : String := "PostShares$Past"
def TX2 : u_T := fun k => match k with
  | 0 => ("PostShares$Past", "ring", "[LPostShares$Board;", true)
  | 1 => ("PostShares$Past", "next", "I", false)
  | _ => ("PostShares$Past", "count", "I", false)
def tyX2 : Nat → FieldType := fun k => match k with
  | 0 => .array (.object "PostShares$Board")
  | 1 => .int
  | _ => .int
theorem nmX2 : ∀ a, a < 3 → ∀ b, b < 3 → a ≠ b → (TX2 a).2.1 ≠ (TX2 b).2.1 := by decide +kernel
theorem tyX2_ok : ∀ k, k < 3 → parseFieldDescriptor (TX2 k).2.2.1 = some (tyX2 k) := by decide +kernel
abbrev cX2_init : ByteArray := prog_4_method_1_code
def yX2_init : MethodName := ⟨RX2, "<init>", "()V"⟩
abbrev cX2_keep : ByteArray := prog_4_method_2_code
def yX2_keep : MethodName := ⟨RX2, "keep", "(LPostShares$Board;)V"⟩
abbrev cX2_restore : ByteArray := prog_4_method_3_code
def yX2_restore : MethodName := ⟨RX2, "restore", "(LPostShares$Board;)V"⟩
def RX3 : String := "PostShares$Text"
def TX3 : u_T := fun k => match k with
  | 0 => ("PostShares$Text", "bytes", "[I", true)
  | 1 => ("PostShares$Text", "length", "I", false)
  | 2 => ("PostShares$Text", "reasons", "[I", true)
  | 3 => ("PostShares$Text", "place", "I", false)
  | 4 => ("PostShares$Text", "items", "I", false)
  | 5 => ("PostShares$Text", "part", "I", false)
  | _ => ("PostShares$Text", "which", "I", false)
def tyX3 : Nat → FieldType := fun k => match k with
  | 0 => .array .int
  | 1 => .int
  | 2 => .array .int
  | 3 => .int
  | 4 => .int
  | 5 => .int
  | _ => .int
theorem nmX3 : ∀ a, a < 7 → ∀ b, b < 7 → a ≠ b → (TX3 a).2.1 ≠ (TX3 b).2.1 := by decide +kernel
theorem tyX3_ok : ∀ k, k < 7 → parseFieldDescriptor (TX3 k).2.2.1 = some (tyX3 k) := by decide +kernel
abbrev cX3_init : ByteArray := prog_5_method_1_code
def yX3_init : MethodName := ⟨RX3, "<init>", "()V"⟩
abbrev cX3_add : ByteArray := prog_5_method_2_code
def yX3_add : MethodName := ⟨RX3, "add", "(I)I"⟩
abbrev cX3_wipe : ByteArray := prog_5_method_3_code
def yX3_wipe : MethodName := ⟨RX3, "wipe", "()I"⟩
abbrev cX3_tells : ByteArray := prog_5_method_4_code
def yX3_tells : MethodName := ⟨RX3, "tells", "(LPostShares$Board;)Z"⟩
abbrev cX3_noteReasons : ByteArray := prog_5_method_5_code
def yX3_noteReasons : MethodName := ⟨RX3, "noteReasons", "()V"⟩
abbrev cX3_seen : ByteArray := prog_5_method_6_code
def yX3_seen : MethodName := ⟨RX3, "seen", "()I"⟩
abbrev cX3_expect : ByteArray := prog_5_method_7_code
def yX3_expect : MethodName := ⟨RX3, "expect", "(II)V"⟩
abbrev cX3_pass : ByteArray := prog_5_method_8_code
def yX3_pass : MethodName := ⟨RX3, "pass", "(I)Z"⟩
abbrev cX3_readItem : ByteArray := prog_5_method_9_code
def yX3_readItem : MethodName := ⟨RX3, "readItem", "(LPostShares$Board;)Z"⟩
abbrev cX3_readLot : ByteArray := prog_5_method_10_code
def yX3_readLot : MethodName := ⟨RX3, "readLot", "(LPostShares$Board;)Z"⟩
abbrev cX3_readRule : ByteArray := prog_5_method_11_code
def yX3_readRule : MethodName := ⟨RX3, "readRule", "(LPostShares$Board;)Z"⟩
abbrev cX3_readParty : ByteArray := prog_5_method_12_code
def yX3_readParty : MethodName := ⟨RX3, "readParty", "(LPostShares$Board;)Z"⟩
abbrev cX3_readWorth : ByteArray := prog_5_method_13_code
def yX3_readWorth : MethodName := ⟨RX3, "readWorth", "(LPostShares$Board;I)Z"⟩
abbrev cX3_readEnd : ByteArray := prog_5_method_14_code
def yX3_readEnd : MethodName := ⟨RX3, "readEnd", "()Z"⟩
abbrev cX3_readNumber : ByteArray := prog_5_method_15_code
def yX3_readNumber : MethodName := ⟨RX3, "readNumber", "(II)I"⟩
def RX4 : String := "PostShares"
def TX4 : u_T := fun k => match k with
  | 0 => ("PostShares", "text", "LPostShares$Text;", true)
  | 1 => ("PostShares", "now", "LPostShares$Board;", true)
  | 2 => ("PostShares", "draft", "LPostShares$Board;", true)
  | 3 => ("PostShares", "past", "LPostShares$Past;", true)
  | 4 => ("PostShares", "foresight", "LPostShares$Foresight;", true)
  | 5 => ("PostShares", "versions", "I", false)
  | 6 => ("PostShares", "bads", "I", false)
  | 7 => ("PostShares", "nos", "I", false)
  | _ => ("PostShares", "fulls", "I", false)
def tyX4 : Nat → FieldType := fun k => match k with
  | 0 => .object "PostShares$Text"
  | 1 => .object "PostShares$Board"
  | 2 => .object "PostShares$Board"
  | 3 => .object "PostShares$Past"
  | 4 => .object "PostShares$Foresight"
  | 5 => .int
  | 6 => .int
  | 7 => .int
  | _ => .int
theorem nmX4 : ∀ a, a < 9 → ∀ b, b < 9 → a ≠ b → (TX4 a).2.1 ≠ (TX4 b).2.1 := by decide +kernel
theorem tyX4_ok : ∀ k, k < 9 → parseFieldDescriptor (TX4 k).2.2.1 = some (tyX4 k) := by decide +kernel
abbrev cX4_init : ByteArray := prog_1_method_1_code
def yX4_init : MethodName := ⟨RX4, "<init>", "()V"⟩
abbrev cX4_type : ByteArray := prog_1_method_2_code
def yX4_type : MethodName := ⟨RX4, "type", "(I)I"⟩
abbrev cX4_clear : ByteArray := prog_1_method_3_code
def yX4_clear : MethodName := ⟨RX4, "clear", "()I"⟩
abbrev cX4_reads : ByteArray := prog_1_method_4_code
def yX4_reads : MethodName := ⟨RX4, "reads", "()I"⟩
abbrev cX4_reason : ByteArray := prog_1_method_5_code
def yX4_reason : MethodName := ⟨RX4, "reason", "(I)I"⟩
abbrev cX4_lot : ByteArray := prog_1_method_6_code
def yX4_lot : MethodName := ⟨RX4, "lot", "(II)I"⟩
abbrev cX4_party : ByteArray := prog_1_method_7_code
def yX4_party : MethodName := ⟨RX4, "party", "(II)I"⟩
abbrev cX4_worth : ByteArray := prog_1_method_8_code
def yX4_worth : MethodName := ⟨RX4, "worth", "(II)I"⟩
abbrev cX4_turn : ByteArray := prog_1_method_9_code
def yX4_turn : MethodName := ⟨RX4, "turn", "(I)I"⟩
abbrev cX4_rates : ByteArray := prog_1_method_10_code
def yX4_rates : MethodName := ⟨RX4, "rates", "(III)I"⟩
abbrev cX4_strength : ByteArray := prog_1_method_11_code
def yX4_strength : MethodName := ⟨RX4, "strength", "(II)I"⟩
abbrev cX4_rule : ByteArray := prog_1_method_12_code
def yX4_rule : MethodName := ⟨RX4, "rule", "(I)I"⟩
abbrev cX4_binds : ByteArray := prog_1_method_13_code
def yX4_binds : MethodName := ⟨RX4, "binds", "(II)I"⟩
abbrev cX4_joins : ByteArray := prog_1_method_14_code
def yX4_joins : MethodName := ⟨RX4, "joins", "(II)I"⟩
abbrev cX4_takes : ByteArray := prog_1_method_15_code
def yX4_takes : MethodName := ⟨RX4, "takes", "(I)I"⟩
abbrev cX4_vetoes : ByteArray := prog_1_method_16_code
def yX4_vetoes : MethodName := ⟨RX4, "vetoes", "(I)I"⟩
abbrev cX4_foreseen : ByteArray := prog_1_method_17_code
def yX4_foreseen : MethodName := ⟨RX4, "foreseen", "(I)I"⟩
abbrev cX4_best : ByteArray := prog_1_method_18_code
def yX4_best : MethodName := ⟨RX4, "best", "()I"⟩
abbrev cX4_against : ByteArray := prog_1_method_19_code
def yX4_against : MethodName := ⟨RX4, "against", "(I)I"⟩
abbrev cX4_taking : ByteArray := prog_1_method_20_code
def yX4_taking : MethodName := ⟨RX4, "taking", "(II)I"⟩
abbrev cX4_course : ByteArray := prog_1_method_21_code
def yX4_course : MethodName := ⟨RX4, "course", "(I)I"⟩
abbrev cX4_sincere : ByteArray := prog_1_method_22_code
def yX4_sincere : MethodName := ⟨RX4, "sincere", "(I)I"⟩
abbrev cX4_without : ByteArray := prog_1_method_23_code
def yX4_without : MethodName := ⟨RX4, "without", "(II)I"⟩
abbrev cX4_back : ByteArray := prog_1_method_24_code
def yX4_back : MethodName := ⟨RX4, "back", "()I"⟩
abbrev cX4_told : ByteArray := prog_1_method_25_code
def yX4_told : MethodName := ⟨RX4, "told", "(I)I"⟩
abbrev cX4_digest : ByteArray := prog_1_method_26_code
def yX4_digest : MethodName := ⟨RX4, "digest", "()J"⟩
abbrev cX4_digestedParty : ByteArray := prog_1_method_27_code
def yX4_digestedParty : MethodName := ⟨RX4, "digestedParty", "(JI)J"⟩
abbrev cX4_digested : ByteArray := prog_1_method_28_code
def yX4_digested : MethodName := ⟨RX4, "digested", "(JI)J"⟩
abbrev cX4_startAnew : ByteArray := prog_1_method_29_code
def yX4_startAnew : MethodName := ⟨RX4, "startAnew", "()V"⟩
abbrev cX4_bad : ByteArray := prog_1_method_30_code
def yX4_bad : MethodName := ⟨RX4, "bad", "()I"⟩
abbrev cX4_no : ByteArray := prog_1_method_31_code
def yX4_no : MethodName := ⟨RX4, "no", "()I"⟩
abbrev cX4_full : ByteArray := prog_1_method_32_code
def yX4_full : MethodName := ⟨RX4, "full", "()I"⟩
abbrev cX4_bit : ByteArray := prog_1_method_33_code
def yX4_bit : MethodName := ⟨RX4, "bit", "(II)I"⟩
def RX5 : String := "PostSharesModel"
def TX5 : u_T := fun k => match k with
  | 0 => ("PostSharesModel", "w", "[I", true)
  | 1 => ("PostSharesModel", "states", "I", false)
  | 2 => ("PostSharesModel", "refused", "[I", true)
  | 3 => ("PostSharesModel", "text", "[I", true)
  | 4 => ("PostSharesModel", "letters", "I", false)
  | 5 => ("PostSharesModel", "reasons", "[I", true)
  | 6 => ("PostSharesModel", "here", "I", false)
  | 7 => ("PostSharesModel", "items", "I", false)
  | 8 => ("PostSharesModel", "part", "I", false)
  | 9 => ("PostSharesModel", "which", "I", false)
  | 10 => ("PostSharesModel", "taken", "I", false)
  | 11 => ("PostSharesModel", "number", "I", false)
  | 12 => ("PostSharesModel", "turnOf", "[I", true)
  | 13 => ("PostSharesModel", "had", "[I", true)
  | 14 => ("PostSharesModel", "ends", "[I", true)
  | 15 => ("PostSharesModel", "within", "[I", true)
  | 16 => ("PostSharesModel", "asked", "[I", true)
  | 17 => ("PostSharesModel", "askedMany", "I", false)
  | 18 => ("PostSharesModel", "then", "[I", true)
  | _ => ("PostSharesModel", "vetoer", "I", false)
def tyX5 : Nat → FieldType := fun k => match k with
  | 0 => .array .int
  | 1 => .int
  | 2 => .array .int
  | 3 => .array .int
  | 4 => .int
  | 5 => .array .int
  | 6 => .int
  | 7 => .int
  | 8 => .int
  | 9 => .int
  | 10 => .int
  | 11 => .int
  | 12 => .array .int
  | 13 => .array .int
  | 14 => .array .int
  | 15 => .array .int
  | 16 => .array .int
  | 17 => .int
  | 18 => .array .int
  | _ => .int
theorem nmX5 : ∀ a, a < 20 → ∀ b, b < 20 → a ≠ b → (TX5 a).2.1 ≠ (TX5 b).2.1 := by decide +kernel
theorem tyX5_ok : ∀ k, k < 20 → parseFieldDescriptor (TX5 k).2.2.1 = some (tyX5 k) := by decide +kernel
abbrev cX5_init : ByteArray := prog_7_method_1_code
def yX5_init : MethodName := ⟨RX5, "<init>", "()V"⟩
abbrev cX5_in : ByteArray := prog_7_method_3_code
def yX5_in : MethodName := ⟨RX5, "in", "(JJJ)Z"⟩
abbrev cX5_has : ByteArray := prog_7_method_4_code
def yX5_has : MethodName := ⟨RX5, "has", "(II)Z"⟩
abbrev cX5_ones : ByteArray := prog_7_method_5_code
def yX5_ones : MethodName := ⟨RX5, "ones", "(I)I"⟩
abbrev cX5_refuses : ByteArray := prog_7_method_6_code
def yX5_refuses : MethodName := ⟨RX5, "refuses", "(I)I"⟩
abbrev cX5_copy : ByteArray := prog_7_method_7_code
def yX5_copy : MethodName := ⟨RX5, "copy", "(II)V"⟩
abbrev cX5_minds : ByteArray := prog_7_method_8_code
def yX5_minds : MethodName := ⟨RX5, "minds", "()V"⟩
abbrev cX5_isLot : ByteArray := prog_7_method_9_code
def yX5_isLot : MethodName := ⟨RX5, "isLot", "(I)Z"⟩
abbrev cX5_isParty : ByteArray := prog_7_method_10_code
def yX5_isParty : MethodName := ⟨RX5, "isParty", "(I)Z"⟩
abbrev cX5_worthOf : ByteArray := prog_7_method_11_code
def yX5_worthOf : MethodName := ⟨RX5, "worthOf", "(II)I"⟩
abbrev cX5_type : ByteArray := prog_7_method_12_code
def yX5_type : MethodName := ⟨RX5, "type", "(I)I"⟩
abbrev cX5_clear : ByteArray := prog_7_method_13_code
def yX5_clear : MethodName := ⟨RX5, "clear", "()I"⟩
abbrev cX5_byteHere : ByteArray := prog_7_method_14_code
def yX5_byteHere : MethodName := ⟨RX5, "byteHere", "()I"⟩
abbrev cX5_isAt : ByteArray := prog_7_method_15_code
def yX5_isAt : MethodName := ⟨RX5, "isAt", "(I)Z"⟩
abbrev cX5_isFigure : ByteArray := prog_7_method_16_code
def yX5_isFigure : MethodName := ⟨RX5, "isFigure", "()Z"⟩
abbrev cX5_reading : ByteArray := prog_7_method_17_code
def yX5_reading : MethodName := ⟨RX5, "reading", "(II)V"⟩
abbrev cX5_must : ByteArray := prog_7_method_18_code
def yX5_must : MethodName := ⟨RX5, "must", "(I)Z"⟩
abbrev cX5_readsLot : ByteArray := prog_7_method_19_code
def yX5_readsLot : MethodName := ⟨RX5, "readsLot", "()Z"⟩
abbrev cX5_readsNumber : ByteArray := prog_7_method_20_code
def yX5_readsNumber : MethodName := ⟨RX5, "readsNumber", "(II)Z"⟩
abbrev cX5_readsParty : ByteArray := prog_7_method_21_code
def yX5_readsParty : MethodName := ⟨RX5, "readsParty", "()Z"⟩
abbrev cX5_readsRule : ByteArray := prog_7_method_22_code
def yX5_readsRule : MethodName := ⟨RX5, "readsRule", "()Z"⟩
abbrev cX5_readsItem : ByteArray := prog_7_method_23_code
def yX5_readsItem : MethodName := ⟨RX5, "readsItem", "()Z"⟩
abbrev cX5_readsAll : ByteArray := prog_7_method_24_code
def yX5_readsAll : MethodName := ⟨RX5, "readsAll", "()Z"⟩
abbrev cX5_begins : ByteArray := prog_7_method_25_code
def yX5_begins : MethodName := ⟨RX5, "begins", "()V"⟩
abbrev cX5_reads : ByteArray := prog_7_method_26_code
def yX5_reads : MethodName := ⟨RX5, "reads", "()I"⟩
abbrev cX5_keepsNew : ByteArray := prog_7_method_27_code
def yX5_keepsNew : MethodName := ⟨RX5, "keepsNew", "()V"⟩
abbrev cX5_reason : ByteArray := prog_7_method_28_code
def yX5_reason : MethodName := ⟨RX5, "reason", "(I)I"⟩
abbrev cX5_above : ByteArray := prog_7_method_29_code
def yX5_above : MethodName := ⟨RX5, "above", "(I)I"⟩
abbrev cX5_below : ByteArray := prog_7_method_30_code
def yX5_below : MethodName := ⟨RX5, "below", "(I)I"⟩
abbrev cX5_isAheadOf : ByteArray := prog_7_method_31_code
def yX5_isAheadOf : MethodName := ⟨RX5, "isAheadOf", "(II)Z"⟩
abbrev cX5_laysTurns : ByteArray := prog_7_method_32_code
def yX5_laysTurns : MethodName := ⟨RX5, "laysTurns", "()V"⟩
abbrev cX5_turnNow : ByteArray := prog_7_method_33_code
def yX5_turnNow : MethodName := ⟨RX5, "turnNow", "(I)I"⟩
abbrev cX5_turn : ByteArray := prog_7_method_34_code
def yX5_turn : MethodName := ⟨RX5, "turn", "(I)I"⟩
abbrev cX5_turnsOf : ByteArray := prog_7_method_35_code
def yX5_turnsOf : MethodName := ⟨RX5, "turnsOf", "(II)I"⟩
abbrev cX5_sumOf : ByteArray := prog_7_method_36_code
def yX5_sumOf : MethodName := ⟨RX5, "sumOf", "(I)I"⟩
abbrev cX5_worths : ByteArray := prog_7_method_37_code
def yX5_worths : MethodName := ⟨RX5, "worths", "(I)I"⟩
abbrev cX5_lotIs : ByteArray := prog_7_method_38_code
def yX5_lotIs : MethodName := ⟨RX5, "lotIs", "(II)I"⟩
abbrev cX5_lot : ByteArray := prog_7_method_39_code
def yX5_lot : MethodName := ⟨RX5, "lot", "(II)I"⟩
abbrev cX5_partyIs : ByteArray := prog_7_method_40_code
def yX5_partyIs : MethodName := ⟨RX5, "partyIs", "(II)I"⟩
abbrev cX5_party : ByteArray := prog_7_method_41_code
def yX5_party : MethodName := ⟨RX5, "party", "(II)I"⟩
abbrev cX5_worth : ByteArray := prog_7_method_42_code
def yX5_worth : MethodName := ⟨RX5, "worth", "(II)I"⟩
abbrev cX5_rates : ByteArray := prog_7_method_43_code
def yX5_rates : MethodName := ⟨RX5, "rates", "(III)I"⟩
abbrev cX5_strength : ByteArray := prog_7_method_44_code
def yX5_strength : MethodName := ⟨RX5, "strength", "(II)I"⟩
abbrev cX5_rule : ByteArray := prog_7_method_45_code
def yX5_rule : MethodName := ⟨RX5, "rule", "(I)I"⟩
abbrev cX5_lesser : ByteArray := prog_7_method_46_code
def yX5_lesser : MethodName := ⟨RX5, "lesser", "(II)I"⟩
abbrev cX5_binds : ByteArray := prog_7_method_47_code
def yX5_binds : MethodName := ⟨RX5, "binds", "(II)I"⟩
abbrev cX5_joins : ByteArray := prog_7_method_48_code
def yX5_joins : MethodName := ⟨RX5, "joins", "(II)I"⟩
abbrev cX5_left : ByteArray := prog_7_method_49_code
def yX5_left : MethodName := ⟨RX5, "left", "()I"⟩
abbrev cX5_canTake : ByteArray := prog_7_method_50_code
def yX5_canTake : MethodName := ⟨RX5, "canTake", "(I)Z"⟩
abbrev cX5_takes : ByteArray := prog_7_method_51_code
def yX5_takes : MethodName := ⟨RX5, "takes", "(I)I"⟩
abbrev cX5_canVeto : ByteArray := prog_7_method_52_code
def yX5_canVeto : MethodName := ⟨RX5, "canVeto", "(I)Z"⟩
abbrev cX5_vetoes : ByteArray := prog_7_method_53_code
def yX5_vetoes : MethodName := ⟨RX5, "vetoes", "(I)I"⟩
abbrev cX5_at : ByteArray := prog_7_method_54_code
def yX5_at : MethodName := ⟨RX5, "at", "(II)I"⟩
abbrev cX5_laysAsked : ByteArray := prog_7_method_55_code
def yX5_laysAsked : MethodName := ⟨RX5, "laysAsked", "(I)V"⟩
abbrev cX5_tries : ByteArray := prog_7_method_56_code
def yX5_tries : MethodName := ⟨RX5, "tries", "(IIIII)V"⟩
abbrev cX5_chosen : ByteArray := prog_7_method_57_code
def yX5_chosen : MethodName := ⟨RX5, "chosen", "(IIII)I"⟩
abbrev cX5_laysWithin : ByteArray := prog_7_method_58_code
def yX5_laysWithin : MethodName := ⟨RX5, "laysWithin", "(I)V"⟩
abbrev cX5_laysEnds : ByteArray := prog_7_method_59_code
def yX5_laysEnds : MethodName := ⟨RX5, "laysEnds", "(I)V"⟩
abbrev cX5_isTurnLeft : ByteArray := prog_7_method_60_code
def yX5_isTurnLeft : MethodName := ⟨RX5, "isTurnLeft", "()Z"⟩
abbrev cX5_foreseenBy : ByteArray := prog_7_method_61_code
def yX5_foreseenBy : MethodName := ⟨RX5, "foreseenBy", "(II)I"⟩
abbrev cX5_foreseen : ByteArray := prog_7_method_62_code
def yX5_foreseen : MethodName := ⟨RX5, "foreseen", "(I)I"⟩
abbrev cX5_best : ByteArray := prog_7_method_63_code
def yX5_best : MethodName := ⟨RX5, "best", "()I"⟩
abbrev cX5_triesNow : ByteArray := prog_7_method_64_code
def yX5_triesNow : MethodName := ⟨RX5, "triesNow", "(I)V"⟩
abbrev cX5_against : ByteArray := prog_7_method_65_code
def yX5_against : MethodName := ⟨RX5, "against", "(I)I"⟩
abbrev cX5_taking : ByteArray := prog_7_method_66_code
def yX5_taking : MethodName := ⟨RX5, "taking", "(II)I"⟩
abbrev cX5_course : ByteArray := prog_7_method_67_code
def yX5_course : MethodName := ⟨RX5, "course", "(I)I"⟩
abbrev cX5_sincere : ByteArray := prog_7_method_68_code
def yX5_sincere : MethodName := ⟨RX5, "sincere", "(I)I"⟩
abbrev cX5_sincereOf : ByteArray := prog_7_method_69_code
def yX5_sincereOf : MethodName := ⟨RX5, "sincereOf", "(I)I"⟩
abbrev cX5_without : ByteArray := prog_7_method_70_code
def yX5_without : MethodName := ⟨RX5, "without", "(II)I"⟩
abbrev cX5_back : ByteArray := prog_7_method_71_code
def yX5_back : MethodName := ⟨RX5, "back", "()I"⟩
abbrev cX5_tells : ByteArray := prog_7_method_72_code
def yX5_tells : MethodName := ⟨RX5, "tells", "(I)I"⟩
abbrev cX5_told : ByteArray := prog_7_method_73_code
def yX5_told : MethodName := ⟨RX5, "told", "(I)I"⟩
abbrev cX5_digest : ByteArray := prog_7_method_74_code
def yX5_digest : MethodName := ⟨RX5, "digest", "()J"⟩
def RJ6 : String := "java/lang/Integer"
def TJ6 : u_T := fun k => match k with
  | _ => ("", "", "", false)
def tyJ6 : Nat → FieldType := fun k => match k with
  | _ => .int
theorem nmJ6 : ∀ a, a < 0 → ∀ b, b < 0 → a ≠ b → (TJ6 a).2.1 ≠ (TJ6 b).2.1 := by decide +kernel
theorem tyJ6_ok : ∀ k, k < 0 → parseFieldDescriptor (TJ6 k).2.2.1 = some (tyJ6 k) := by decide +kernel
abbrev cJ6_bitCount_0f7a4 : ByteArray := prog_8_method_49_code
def yJ6_bitCount_0f7a4 : MethodName := ⟨RJ6, "bitCount", "(I)I"⟩
def RJ9 : String := "java/lang/Math"
def TJ9 : u_T := fun k => match k with
  | _ => ("", "", "", false)
def tyJ9 : Nat → FieldType := fun k => match k with
  | _ => .int
theorem nmJ9 : ∀ a, a < 0 → ∀ b, b < 0 → a ≠ b → (TJ9 a).2.1 ≠ (TJ9 b).2.1 := by decide +kernel
theorem tyJ9_ok : ∀ k, k < 0 → parseFieldDescriptor (TJ9 k).2.2.1 = some (tyJ9 k) := by decide +kernel
abbrev cJ9_max_7cf53 : ByteArray := prog_9_method_65_code
def yJ9_max_7cf53 : MethodName := ⟨RJ9, "max", "(II)I"⟩
abbrev cJ9_min_7cf53 : ByteArray := prog_9_method_69_code
def yJ9_min_7cf53 : MethodName := ⟨RJ9, "min", "(II)I"⟩
def RJ10 : String := "java/lang/System"
def TJ10 : u_T := fun k => match k with
  | _ => ("", "", "", false)
def tyJ10 : Nat → FieldType := fun k => match k with
  | _ => .int
theorem nmJ10 : ∀ a, a < 0 → ∀ b, b < 0 → a ≠ b → (TJ10 a).2.1 ≠ (TJ10 b).2.1 := by decide +kernel
theorem tyJ10_ok : ∀ k, k < 0 → parseFieldDescriptor (TJ10 k).2.2.1 = some (tyJ10 k) := by decide +kernel
def RJ7 : String := "java/util/Arrays"
def TJ7 : u_T := fun k => match k with
  | _ => ("", "", "", false)
def tyJ7 : Nat → FieldType := fun k => match k with
  | _ => .int
theorem nmJ7 : ∀ a, a < 0 → ∀ b, b < 0 → a ≠ b → (TJ7 a).2.1 ≠ (TJ7 b).2.1 := by decide +kernel
theorem tyJ7_ok : ∀ k, k < 0 → parseFieldDescriptor (TJ7 k).2.2.1 = some (tyJ7 k) := by decide +kernel
abbrev cJ7_fill_53178 : ByteArray := prog_11_method_103_code
def yJ7_fill_53178 : MethodName := ⟨RJ7, "fill", "([II)V"⟩
def RL : String := "PostSharesLaw"
abbrev cL_law : ByteArray := code
def yL_law : MethodName := ⟨RL, "law", "([I)Z"⟩
abbrev vwCl : List vw_C := [(RX0, TX0, 19), (RX1, TX1, 2), (RX2, TX2, 3), (RX3, TX3, 7), (RX4, TX4, 9), (RX5, TX5, 20)]
def M0 : MethodName × ByteArray × Nat × Option FieldType := (yX0_init, cX0_init, 1, none)
def M1 : MethodName × ByteArray × Nat × Option FieldType := (yX0_hasLot, cX0_hasLot, 2, (some .boolean))
def M2 : MethodName × ByteArray × Nat × Option FieldType := (yX0_hasParty, cX0_hasParty, 2, (some .boolean))
def M3 : MethodName × ByteArray × Nat × Option FieldType := (yX0_value, cX0_value, 4, (some .int))
def M4 : MethodName × ByteArray × Nat × Option FieldType := (yX0_setValue, cX0_setValue, 5, none)
def M5 : MethodName × ByteArray × Nat × Option FieldType := (yX0_turnsInAll, cX0_turnsInAll, 1, (some .int))
def M6 : MethodName × ByteArray × Nat × Option FieldType := (yX0_ownerAt, cX0_ownerAt, 2, (some .int))
def M7 : MethodName × ByteArray × Nat × Option FieldType := (yX0_turnsHadBy, cX0_turnsHadBy, 4, (some .int))
def M8 : MethodName × ByteArray × Nat × Option FieldType := (yX0_sumOf, cX0_sumOf, 4, (some .int))
def M9 : MethodName × ByteArray × Nat × Option FieldType := (yX0_allWorth, cX0_allWorth, 4, (some .int))
def M10 : MethodName × ByteArray × Nat × Option FieldType := (yX0_allPosts, cX0_allPosts, 3, (some .int))
def M11 : MethodName × ByteArray × Nat × Option FieldType := (yX0_freeLots, cX0_freeLots, 3, (some .int))
def M12 : MethodName × ByteArray × Nat × Option FieldType := (yX0_tellNothing, cX0_tellNothing, 1, none)
def M13 : MethodName × ByteArray × Nat × Option FieldType := (yX0_addLot, cX0_addLot, 2, none)
def M14 : MethodName × ByteArray × Nat × Option FieldType := (yX0_addParty, cX0_addParty, 2, none)
def M15 : MethodName × ByteArray × Nat × Option FieldType := (yX0_bindLots, cX0_bindLots, 4, none)
def M16 : MethodName × ByteArray × Nat × Option FieldType := (yX0_dropLot, cX0_dropLot, 4, none)
def M17 : MethodName × ByteArray × Nat × Option FieldType := (yX0_joinParties, cX0_joinParties, 4, none)
def M18 : MethodName × ByteArray × Nat × Option FieldType := (yX0_dropParty, cX0_dropParty, 4, none)
def M19 : MethodName × ByteArray × Nat × Option FieldType := (yX0_start, cX0_start, 2, none)
def M20 : MethodName × ByteArray × Nat × Option FieldType := (yX0_dealTurns, cX0_dealTurns, 4, none)
def M21 : MethodName × ByteArray × Nat × Option FieldType := (yX0_lookBehindTurns, cX0_lookBehindTurns, 3, none)
def M22 : MethodName × ByteArray × Nat × Option FieldType := (yX0_comesAhead, cX0_comesAhead, 5, (some .boolean))
def M23 : MethodName × ByteArray × Nat × Option FieldType := (yX0_divisor, cX0_divisor, 2, (some .int))
def M24 : MethodName × ByteArray × Nat × Option FieldType := (yX0_rankAsked, cX0_rankAsked, 4, none)
def M25 : MethodName × ByteArray × Nat × Option FieldType := (yX0_canTake, cX0_canTake, 2, (some .boolean))
def M26 : MethodName × ByteArray × Nat × Option FieldType := (yX0_take, cX0_take, 3, (some .int))
def M27 : MethodName × ByteArray × Nat × Option FieldType := (yX0_canVeto, cX0_canVeto, 2, (some .boolean))
def M28 : MethodName × ByteArray × Nat × Option FieldType := (yX0_veto, cX0_veto, 3, (some .int))
def M29 : MethodName × ByteArray × Nat × Option FieldType := (yX0_sincereSum, cX0_sincereSum, 8, (some .int))
def M30 : MethodName × ByteArray × Nat × Option FieldType := (yX0_dearest, cX0_dearest, 5, (some .int))
def M31 : MethodName × ByteArray × Nat × Option FieldType := (yX0_copy, cX0_copy, 2, none)
def M32 : MethodName × ByteArray × Nat × Option FieldType := (yX1_init, cX1_init, 2, none)
def M33 : MethodName × ByteArray × Nat × Option FieldType := (yX1_sumInTheEnd, cX1_sumInTheEnd, 4, (some .int))
def M34 : MethodName × ByteArray × Nat × Option FieldType := (yX1_lotTaken, cX1_lotTaken, 2, (some .int))
def M35 : MethodName × ByteArray × Nat × Option FieldType := (yX1_vetoerIf, cX1_vetoerIf, 3, (some .int))
def M36 : MethodName × ByteArray × Nat × Option FieldType := (yX1_sumInTheEndIf, cX1_sumInTheEndIf, 6, (some .int))
def M37 : MethodName × ByteArray × Nat × Option FieldType := (yX1_gainOf, cX1_gainOf, 3, (some .int))
def M38 : MethodName × ByteArray × Nat × Option FieldType := (yX1_vetoerOf, cX1_vetoerOf, 2, (some .int))
def M39 : MethodName × ByteArray × Nat × Option FieldType := (yX1_lotOf, cX1_lotOf, 2, (some .int))
def M40 : MethodName × ByteArray × Nat × Option FieldType := (yX1_caseOf, cX1_caseOf, 5, (some .int))
def M41 : MethodName × ByteArray × Nat × Option FieldType := (yX1_outcome, cX1_outcome, 15, (some .long))
def M42 : MethodName × ByteArray × Nat × Option FieldType := (yX1_ifTaken, cX1_ifTaken, 18, (some .long))
def M43 : MethodName × ByteArray × Nat × Option FieldType := (yX1_thing, cX1_thing, 11, (some .int))
def M44 : MethodName × ByteArray × Nat × Option FieldType := (yX2_init, cX2_init, 2, none)
def M45 : MethodName × ByteArray × Nat × Option FieldType := (yX2_keep, cX2_keep, 3, none)
def M46 : MethodName × ByteArray × Nat × Option FieldType := (yX2_restore, cX2_restore, 3, none)
def M47 : MethodName × ByteArray × Nat × Option FieldType := (yX3_init, cX3_init, 1, none)
def M48 : MethodName × ByteArray × Nat × Option FieldType := (yX3_add, cX3_add, 2, (some .int))
def M49 : MethodName × ByteArray × Nat × Option FieldType := (yX3_wipe, cX3_wipe, 2, (some .int))
def M50 : MethodName × ByteArray × Nat × Option FieldType := (yX3_tells, cX3_tells, 2, (some .boolean))
def M51 : MethodName × ByteArray × Nat × Option FieldType := (yX3_noteReasons, cX3_noteReasons, 1, none)
def M52 : MethodName × ByteArray × Nat × Option FieldType := (yX3_seen, cX3_seen, 1, (some .int))
def M53 : MethodName × ByteArray × Nat × Option FieldType := (yX3_expect, cX3_expect, 3, none)
def M54 : MethodName × ByteArray × Nat × Option FieldType := (yX3_pass, cX3_pass, 2, (some .boolean))
def M55 : MethodName × ByteArray × Nat × Option FieldType := (yX3_readItem, cX3_readItem, 2, (some .boolean))
def M56 : MethodName × ByteArray × Nat × Option FieldType := (yX3_readLot, cX3_readLot, 6, (some .boolean))
def M57 : MethodName × ByteArray × Nat × Option FieldType := (yX3_readRule, cX3_readRule, 3, (some .boolean))
def M58 : MethodName × ByteArray × Nat × Option FieldType := (yX3_readParty, cX3_readParty, 4, (some .boolean))
def M59 : MethodName × ByteArray × Nat × Option FieldType := (yX3_readWorth, cX3_readWorth, 4, (some .boolean))
def M60 : MethodName × ByteArray × Nat × Option FieldType := (yX3_readEnd, cX3_readEnd, 1, (some .boolean))
def M61 : MethodName × ByteArray × Nat × Option FieldType := (yX3_readNumber, cX3_readNumber, 7, (some .int))
def M62 : MethodName × ByteArray × Nat × Option FieldType := (yX4_init, cX4_init, 1, none)
def M63 : MethodName × ByteArray × Nat × Option FieldType := (yX4_type, cX4_type, 2, (some .int))
def M64 : MethodName × ByteArray × Nat × Option FieldType := (yX4_clear, cX4_clear, 1, (some .int))
def M65 : MethodName × ByteArray × Nat × Option FieldType := (yX4_reads, cX4_reads, 1, (some .int))
def M66 : MethodName × ByteArray × Nat × Option FieldType := (yX4_reason, cX4_reason, 2, (some .int))
def M67 : MethodName × ByteArray × Nat × Option FieldType := (yX4_lot, cX4_lot, 3, (some .int))
def M68 : MethodName × ByteArray × Nat × Option FieldType := (yX4_party, cX4_party, 3, (some .int))
def M69 : MethodName × ByteArray × Nat × Option FieldType := (yX4_worth, cX4_worth, 3, (some .int))
def M70 : MethodName × ByteArray × Nat × Option FieldType := (yX4_turn, cX4_turn, 2, (some .int))
def M71 : MethodName × ByteArray × Nat × Option FieldType := (yX4_rates, cX4_rates, 5, (some .int))
def M72 : MethodName × ByteArray × Nat × Option FieldType := (yX4_strength, cX4_strength, 4, (some .int))
def M73 : MethodName × ByteArray × Nat × Option FieldType := (yX4_rule, cX4_rule, 3, (some .int))
def M74 : MethodName × ByteArray × Nat × Option FieldType := (yX4_binds, cX4_binds, 3, (some .int))
def M75 : MethodName × ByteArray × Nat × Option FieldType := (yX4_joins, cX4_joins, 3, (some .int))
def M76 : MethodName × ByteArray × Nat × Option FieldType := (yX4_takes, cX4_takes, 2, (some .int))
def M77 : MethodName × ByteArray × Nat × Option FieldType := (yX4_vetoes, cX4_vetoes, 2, (some .int))
def M78 : MethodName × ByteArray × Nat × Option FieldType := (yX4_foreseen, cX4_foreseen, 2, (some .int))
def M79 : MethodName × ByteArray × Nat × Option FieldType := (yX4_best, cX4_best, 1, (some .int))
def M80 : MethodName × ByteArray × Nat × Option FieldType := (yX4_against, cX4_against, 2, (some .int))
def M81 : MethodName × ByteArray × Nat × Option FieldType := (yX4_taking, cX4_taking, 3, (some .int))
def M82 : MethodName × ByteArray × Nat × Option FieldType := (yX4_course, cX4_course, 2, (some .int))
def M83 : MethodName × ByteArray × Nat × Option FieldType := (yX4_sincere, cX4_sincere, 2, (some .int))
def M84 : MethodName × ByteArray × Nat × Option FieldType := (yX4_without, cX4_without, 3, (some .int))
def M85 : MethodName × ByteArray × Nat × Option FieldType := (yX4_back, cX4_back, 1, (some .int))
def M86 : MethodName × ByteArray × Nat × Option FieldType := (yX4_told, cX4_told, 2, (some .int))
def M87 : MethodName × ByteArray × Nat × Option FieldType := (yX4_digest, cX4_digest, 5, (some .long))
def M88 : MethodName × ByteArray × Nat × Option FieldType := (yX4_digestedParty, cX4_digestedParty, 7, (some .long))
def M89 : MethodName × ByteArray × Nat × Option FieldType := (yX4_digested, cX4_digested, 3, (some .long))
def M90 : MethodName × ByteArray × Nat × Option FieldType := (yX4_startAnew, cX4_startAnew, 1, none)
def M91 : MethodName × ByteArray × Nat × Option FieldType := (yX4_bad, cX4_bad, 1, (some .int))
def M92 : MethodName × ByteArray × Nat × Option FieldType := (yX4_no, cX4_no, 1, (some .int))
def M93 : MethodName × ByteArray × Nat × Option FieldType := (yX4_full, cX4_full, 1, (some .int))
def M94 : MethodName × ByteArray × Nat × Option FieldType := (yX4_bit, cX4_bit, 2, (some .int))
def M95 : MethodName × ByteArray × Nat × Option FieldType := (yX5_init, cX5_init, 1, none)
def M96 : MethodName × ByteArray × Nat × Option FieldType := (yX5_in, cX5_in, 6, (some .boolean))
def M97 : MethodName × ByteArray × Nat × Option FieldType := (yX5_has, cX5_has, 2, (some .boolean))
def M98 : MethodName × ByteArray × Nat × Option FieldType := (yX5_ones, cX5_ones, 3, (some .int))
def M99 : MethodName × ByteArray × Nat × Option FieldType := (yX5_refuses, cX5_refuses, 2, (some .int))
def M100 : MethodName × ByteArray × Nat × Option FieldType := (yX5_copy, cX5_copy, 4, none)
def M101 : MethodName × ByteArray × Nat × Option FieldType := (yX5_minds, cX5_minds, 2, none)
def M102 : MethodName × ByteArray × Nat × Option FieldType := (yX5_isLot, cX5_isLot, 2, (some .boolean))
def M103 : MethodName × ByteArray × Nat × Option FieldType := (yX5_isParty, cX5_isParty, 2, (some .boolean))
def M104 : MethodName × ByteArray × Nat × Option FieldType := (yX5_worthOf, cX5_worthOf, 3, (some .int))
def M105 : MethodName × ByteArray × Nat × Option FieldType := (yX5_type, cX5_type, 2, (some .int))
def M106 : MethodName × ByteArray × Nat × Option FieldType := (yX5_clear, cX5_clear, 2, (some .int))
def M107 : MethodName × ByteArray × Nat × Option FieldType := (yX5_byteHere, cX5_byteHere, 1, (some .int))
def M108 : MethodName × ByteArray × Nat × Option FieldType := (yX5_isAt, cX5_isAt, 2, (some .boolean))
def M109 : MethodName × ByteArray × Nat × Option FieldType := (yX5_isFigure, cX5_isFigure, 1, (some .boolean))
def M110 : MethodName × ByteArray × Nat × Option FieldType := (yX5_reading, cX5_reading, 3, none)
def M111 : MethodName × ByteArray × Nat × Option FieldType := (yX5_must, cX5_must, 3, (some .boolean))
def M112 : MethodName × ByteArray × Nat × Option FieldType := (yX5_readsLot, cX5_readsLot, 3, (some .boolean))
def M113 : MethodName × ByteArray × Nat × Option FieldType := (yX5_readsNumber, cX5_readsNumber, 4, (some .boolean))
def M114 : MethodName × ByteArray × Nat × Option FieldType := (yX5_readsParty, cX5_readsParty, 3, (some .boolean))
def M115 : MethodName × ByteArray × Nat × Option FieldType := (yX5_readsRule, cX5_readsRule, 1, (some .boolean))
def M116 : MethodName × ByteArray × Nat × Option FieldType := (yX5_readsItem, cX5_readsItem, 3, (some .boolean))
def M117 : MethodName × ByteArray × Nat × Option FieldType := (yX5_readsAll, cX5_readsAll, 2, (some .boolean))
def M118 : MethodName × ByteArray × Nat × Option FieldType := (yX5_begins, cX5_begins, 2, none)
def M119 : MethodName × ByteArray × Nat × Option FieldType := (yX5_reads, cX5_reads, 2, (some .int))
def M120 : MethodName × ByteArray × Nat × Option FieldType := (yX5_keepsNew, cX5_keepsNew, 3, none)
def M121 : MethodName × ByteArray × Nat × Option FieldType := (yX5_reason, cX5_reason, 2, (some .int))
def M122 : MethodName × ByteArray × Nat × Option FieldType := (yX5_above, cX5_above, 2, (some .int))
def M123 : MethodName × ByteArray × Nat × Option FieldType := (yX5_below, cX5_below, 2, (some .int))
def M124 : MethodName × ByteArray × Nat × Option FieldType := (yX5_isAheadOf, cX5_isAheadOf, 7, (some .boolean))
def M125 : MethodName × ByteArray × Nat × Option FieldType := (yX5_laysTurns, cX5_laysTurns, 4, none)
def M126 : MethodName × ByteArray × Nat × Option FieldType := (yX5_turnNow, cX5_turnNow, 2, (some .int))
def M127 : MethodName × ByteArray × Nat × Option FieldType := (yX5_turn, cX5_turn, 2, (some .int))
def M128 : MethodName × ByteArray × Nat × Option FieldType := (yX5_turnsOf, cX5_turnsOf, 5, (some .int))
def M129 : MethodName × ByteArray × Nat × Option FieldType := (yX5_sumOf, cX5_sumOf, 4, (some .int))
def M130 : MethodName × ByteArray × Nat × Option FieldType := (yX5_worths, cX5_worths, 4, (some .int))
def M131 : MethodName × ByteArray × Nat × Option FieldType := (yX5_lotIs, cX5_lotIs, 3, (some .int))
def M132 : MethodName × ByteArray × Nat × Option FieldType := (yX5_lot, cX5_lot, 3, (some .int))
def M133 : MethodName × ByteArray × Nat × Option FieldType := (yX5_partyIs, cX5_partyIs, 3, (some .int))
def M134 : MethodName × ByteArray × Nat × Option FieldType := (yX5_party, cX5_party, 3, (some .int))
def M135 : MethodName × ByteArray × Nat × Option FieldType := (yX5_worth, cX5_worth, 3, (some .int))
def M136 : MethodName × ByteArray × Nat × Option FieldType := (yX5_rates, cX5_rates, 5, (some .int))
def M137 : MethodName × ByteArray × Nat × Option FieldType := (yX5_strength, cX5_strength, 4, (some .int))
def M138 : MethodName × ByteArray × Nat × Option FieldType := (yX5_rule, cX5_rule, 3, (some .int))
def M139 : MethodName × ByteArray × Nat × Option FieldType := (yX5_lesser, cX5_lesser, 2, (some .int))
def M140 : MethodName × ByteArray × Nat × Option FieldType := (yX5_binds, cX5_binds, 5, (some .int))
def M141 : MethodName × ByteArray × Nat × Option FieldType := (yX5_joins, cX5_joins, 6, (some .int))
def M142 : MethodName × ByteArray × Nat × Option FieldType := (yX5_left, cX5_left, 3, (some .int))
def M143 : MethodName × ByteArray × Nat × Option FieldType := (yX5_canTake, cX5_canTake, 2, (some .boolean))
def M144 : MethodName × ByteArray × Nat × Option FieldType := (yX5_takes, cX5_takes, 3, (some .int))
def M145 : MethodName × ByteArray × Nat × Option FieldType := (yX5_canVeto, cX5_canVeto, 3, (some .boolean))
def M146 : MethodName × ByteArray × Nat × Option FieldType := (yX5_vetoes, cX5_vetoes, 3, (some .int))
def M147 : MethodName × ByteArray × Nat × Option FieldType := (yX5_at, cX5_at, 2, (some .int))
def M148 : MethodName × ByteArray × Nat × Option FieldType := (yX5_laysAsked, cX5_laysAsked, 4, none)
def M149 : MethodName × ByteArray × Nat × Option FieldType := (yX5_tries, cX5_tries, 12, none)
def M150 : MethodName × ByteArray × Nat × Option FieldType := (yX5_chosen, cX5_chosen, 9, (some .int))
def M151 : MethodName × ByteArray × Nat × Option FieldType := (yX5_laysWithin, cX5_laysWithin, 7, none)
def M152 : MethodName × ByteArray × Nat × Option FieldType := (yX5_laysEnds, cX5_laysEnds, 4, none)
def M153 : MethodName × ByteArray × Nat × Option FieldType := (yX5_isTurnLeft, cX5_isTurnLeft, 1, (some .boolean))
def M154 : MethodName × ByteArray × Nat × Option FieldType := (yX5_foreseenBy, cX5_foreseenBy, 4, (some .int))
def M155 : MethodName × ByteArray × Nat × Option FieldType := (yX5_foreseen, cX5_foreseen, 2, (some .int))
def M156 : MethodName × ByteArray × Nat × Option FieldType := (yX5_best, cX5_best, 1, (some .int))
def M157 : MethodName × ByteArray × Nat × Option FieldType := (yX5_triesNow, cX5_triesNow, 2, none)
def M158 : MethodName × ByteArray × Nat × Option FieldType := (yX5_against, cX5_against, 2, (some .int))
def M159 : MethodName × ByteArray × Nat × Option FieldType := (yX5_taking, cX5_taking, 3, (some .int))
def M160 : MethodName × ByteArray × Nat × Option FieldType := (yX5_course, cX5_course, 8, (some .int))
def M161 : MethodName × ByteArray × Nat × Option FieldType := (yX5_sincere, cX5_sincere, 2, (some .int))
def M162 : MethodName × ByteArray × Nat × Option FieldType := (yX5_sincereOf, cX5_sincereOf, 9, (some .int))
def M163 : MethodName × ByteArray × Nat × Option FieldType := (yX5_without, cX5_without, 3, (some .int))
def M164 : MethodName × ByteArray × Nat × Option FieldType := (yX5_back, cX5_back, 1, (some .int))
def M165 : MethodName × ByteArray × Nat × Option FieldType := (yX5_tells, cX5_tells, 2, (some .int))
def M166 : MethodName × ByteArray × Nat × Option FieldType := (yX5_told, cX5_told, 2, (some .int))
def M167 : MethodName × ByteArray × Nat × Option FieldType := (yX5_digest, cX5_digest, 5, (some .long))
def M168 : MethodName × ByteArray × Nat × Option FieldType := (yJ6_bitCount_0f7a4, cJ6_bitCount_0f7a4, 1, (some .int))
def M169 : MethodName × ByteArray × Nat × Option FieldType := (yJ7_fill_53178, cJ7_fill_53178, 4, none)
/-- every method: name, bytes, locals, answer; cells and slots that it makes -/
def MDl : List ((MethodName × ByteArray × Nat × Option FieldType) × Nat × Nat) := [(M0, 9, 66), (M1, 0, 0), (M2, 0, 0), (M3, 0, 0), (M4, 0, 0), (M5, 0, 0), (M6, 0, 0), (M7, 0, 0), (M8, 0, 0), (M9, 0, 0), (M10, 0, 0), (M11, 0, 0), (M12, 0, 0), (M13, 0, 0), (M14, 0, 0), (M15, 0, 0), (M16, 0, 0), (M17, 0, 0), (M18, 0, 0), (M19, 0, 0), (M20, 0, 0), (M21, 0, 0), (M22, 0, 0), (M23, 0, 0), (M24, 0, 0), (M25, 0, 0), (M26, 0, 0), (M27, 0, 0), (M28, 0, 0), (M29, 0, 0), (M30, 0, 0), (M31, 0, 0), (M32, 2, 11728), (M33, 0, 0), (M34, 0, 0), (M35, 0, 0), (M36, 0, 0), (M37, 0, 0), (M38, 0, 0), (M39, 0, 0), (M40, 0, 0), (M41, 0, 0), (M42, 0, 0), (M43, 0, 0), (M44, 61, 516), (M45, 0, 0), (M46, 0, 0), (M47, 2, 164), (M48, 0, 0), (M49, 0, 0), (M50, 0, 0), (M51, 0, 0), (M52, 0, 0), (M53, 0, 0), (M54, 0, 0), (M55, 0, 0), (M56, 0, 0), (M57, 0, 0), (M58, 0, 0), (M59, 0, 0), (M60, 0, 0), (M61, 0, 0), (M62, 88, 12590), (M63, 0, 0), (M64, 0, 0), (M65, 0, 0), (M66, 0, 0), (M67, 0, 0), (M68, 0, 0), (M69, 0, 0), (M70, 0, 0), (M71, 0, 0), (M72, 0, 0), (M73, 0, 0), (M74, 0, 0), (M75, 0, 0), (M76, 0, 0), (M77, 0, 0), (M78, 0, 0), (M79, 0, 0), (M80, 0, 0), (M81, 0, 0), (M82, 0, 0), (M83, 0, 0), (M84, 0, 0), (M85, 0, 0), (M86, 0, 0), (M87, 0, 0), (M88, 0, 0), (M89, 0, 0), (M90, 0, 0), (M91, 0, 0), (M92, 0, 0), (M93, 0, 0), (M94, 0, 0), (M95, 10, 8817), (M96, 0, 0), (M97, 0, 0), (M98, 0, 0), (M99, 0, 0), (M100, 0, 0), (M101, 0, 0), (M102, 0, 0), (M103, 0, 0), (M104, 0, 0), (M105, 0, 0), (M106, 0, 0), (M107, 0, 0), (M108, 0, 0), (M109, 0, 0), (M110, 0, 0), (M111, 0, 0), (M112, 0, 0), (M113, 0, 0), (M114, 0, 0), (M115, 0, 0), (M116, 0, 0), (M117, 0, 0), (M118, 0, 0), (M119, 0, 0), (M120, 0, 0), (M121, 0, 0), (M122, 0, 0), (M123, 0, 0), (M124, 0, 0), (M125, 0, 0), (M126, 0, 0), (M127, 0, 0), (M128, 0, 0), (M129, 0, 0), (M130, 0, 0), (M131, 0, 0), (M132, 0, 0), (M133, 0, 0), (M134, 0, 0), (M135, 0, 0), (M136, 0, 0), (M137, 0, 0), (M138, 0, 0), (M139, 0, 0), (M140, 0, 0), (M141, 0, 0), (M142, 0, 0), (M143, 0, 0), (M144, 0, 0), (M145, 0, 0), (M146, 0, 0), (M147, 0, 0), (M148, 0, 0), (M149, 0, 0), (M150, 0, 0), (M151, 0, 0), (M152, 0, 0), (M153, 0, 0), (M154, 0, 0), (M155, 0, 0), (M156, 0, 0), (M157, 0, 0), (M158, 0, 0), (M159, 0, 0), (M160, 0, 0), (M161, 0, 0), (M162, 0, 0), (M163, 0, 0), (M164, 0, 0), (M165, 0, 0), (M166, 0, 0), (M167, 0, 0), (M168, 0, 0), (M169, 0, 0)]
def MD (i : Nat) : (MethodName × ByteArray × Nat × Option FieldType) × Nat × Nat := MDl.getD i ((yX4_bit, cX4_bit, 0, none), 0, 0)
end
section
/-- the good words of the tables -/
def tg : List Cond := lw_tbl.filter goodWord
theorem tg_m {w : Cond} (k : Nat) (h : lw_tbl[k]? = some w) (hg : goodWord w = true) : w ∈ tg := List.mem_filter.mpr ⟨List.mem_of_getElem? h, hg⟩
theorem tg_good {L : List Cond} (h : ∀ w ∈ L, w ∈ tg) : GoodIn tg L := fun w hw => ⟨h w hw, good_of_word (List.mem_filter.mp (h w hw)).2⟩
end
section
theorem w_97 : Cond.fieldLink "PostShares$Text" 9 "PostShares$Text" "bytes" "[I" ∈ tg := tg_m 97 (by decide +kernel) (by decide +kernel)
theorem w_98 : Cond.fieldLink "PostShares$Text" 15 "PostShares$Text" "length" "I" ∈ tg := tg_m 98 (by decide +kernel) (by decide +kernel)
theorem w_99 : Cond.fieldLink "PostShares" 51 "PostShares$Text" "length" "I" ∈ tg := tg_m 99 (by decide +kernel) (by decide +kernel)
theorem w_100 : Cond.fieldLink "PostShares$Text" 19 "PostShares$Text" "reasons" "[I" ∈ tg := tg_m 100 (by decide +kernel) (by decide +kernel)
theorem w_101 : Cond.fieldLink "PostShares" 84 "PostShares$Text" "reasons" "[I" ∈ tg := tg_m 101 (by decide +kernel) (by decide +kernel)
theorem w_102 : Cond.fieldLink "PostShares$Text" 22 "PostShares$Text" "place" "I" ∈ tg := tg_m 102 (by decide +kernel) (by decide +kernel)
theorem w_103 : Cond.fieldLink "PostShares" 71 "PostShares$Text" "place" "I" ∈ tg := tg_m 103 (by decide +kernel) (by decide +kernel)
theorem w_104 : Cond.fieldLink "PostShares$Text" 25 "PostShares$Text" "items" "I" ∈ tg := tg_m 104 (by decide +kernel) (by decide +kernel)
theorem w_105 : Cond.fieldLink "PostShares" 81 "PostShares$Text" "items" "I" ∈ tg := tg_m 105 (by decide +kernel) (by decide +kernel)
theorem w_106 : Cond.fieldLink "PostShares$Text" 28 "PostShares$Text" "part" "I" ∈ tg := tg_m 106 (by decide +kernel) (by decide +kernel)
theorem w_107 : Cond.fieldLink "PostShares$Text" 31 "PostShares$Text" "which" "I" ∈ tg := tg_m 107 (by decide +kernel) (by decide +kernel)
theorem w_130 : Cond.fieldLink "PostShares$Board" 43 "PostShares$Board" "lots" "I" ∈ tg := tg_m 130 (by decide +kernel) (by decide +kernel)
theorem w_131 : Cond.fieldLink "PostShares$Text" 60 "PostShares$Board" "lots" "I" ∈ tg := tg_m 131 (by decide +kernel) (by decide +kernel)
theorem w_132 : Cond.fieldLink "PostShares$Foresight" 59 "PostShares$Board" "lots" "I" ∈ tg := tg_m 132 (by decide +kernel) (by decide +kernel)
theorem w_133 : Cond.fieldLink "PostShares" 149 "PostShares$Board" "lots" "I" ∈ tg := tg_m 133 (by decide +kernel) (by decide +kernel)
theorem w_134 : Cond.fieldLink "PostShares$Board" 9 "PostShares$Board" "posts" "[I" ∈ tg := tg_m 134 (by decide +kernel) (by decide +kernel)
theorem w_135 : Cond.fieldLink "PostShares" 92 "PostShares$Board" "posts" "[I" ∈ tg := tg_m 135 (by decide +kernel) (by decide +kernel)
theorem w_136 : Cond.fieldLink "PostShares$Board" 46 "PostShares$Board" "parties" "I" ∈ tg := tg_m 136 (by decide +kernel) (by decide +kernel)
theorem w_137 : Cond.fieldLink "PostShares$Text" 55 "PostShares$Board" "parties" "I" ∈ tg := tg_m 137 (by decide +kernel) (by decide +kernel)
theorem w_138 : Cond.fieldLink "PostShares$Foresight" 91 "PostShares$Board" "parties" "I" ∈ tg := tg_m 138 (by decide +kernel) (by decide +kernel)
theorem w_139 : Cond.fieldLink "PostShares" 155 "PostShares$Board" "parties" "I" ∈ tg := tg_m 139 (by decide +kernel) (by decide +kernel)
theorem w_140 : Cond.fieldLink "PostShares$Board" 15 "PostShares$Board" "strength" "[I" ∈ tg := tg_m 140 (by decide +kernel) (by decide +kernel)
theorem w_141 : Cond.fieldLink "PostShares" 111 "PostShares$Board" "strength" "[I" ∈ tg := tg_m 141 (by decide +kernel) (by decide +kernel)
theorem w_142 : Cond.fieldLink "PostShares$Text" 97 "PostShares$Board" "strength" "[I" ∈ tg := tg_m 142 (by decide +kernel) (by decide +kernel)
theorem w_143 : Cond.fieldLink "PostShares$Board" 18 "PostShares$Board" "values" "[I" ∈ tg := tg_m 143 (by decide +kernel) (by decide +kernel)
theorem w_144 : Cond.fieldLink "PostShares$Board" 60 "PostShares$Board" "vetoesTold" "I" ∈ tg := tg_m 144 (by decide +kernel) (by decide +kernel)
theorem w_145 : Cond.fieldLink "PostShares$Text" 90 "PostShares$Board" "divisors" "I" ∈ tg := tg_m 145 (by decide +kernel) (by decide +kernel)
theorem w_146 : Cond.fieldLink "PostShares" 142 "PostShares$Board" "divisors" "I" ∈ tg := tg_m 146 (by decide +kernel) (by decide +kernel)
theorem w_147 : Cond.fieldLink "PostShares$Board" 63 "PostShares$Board" "divisors" "I" ∈ tg := tg_m 147 (by decide +kernel) (by decide +kernel)
theorem w_148 : Cond.fieldLink "PostShares$Foresight" 77 "PostShares$Board" "version" "I" ∈ tg := tg_m 148 (by decide +kernel) (by decide +kernel)
theorem w_149 : Cond.fieldLink "PostShares$Board" 88 "PostShares$Board" "version" "I" ∈ tg := tg_m 149 (by decide +kernel) (by decide +kernel)
theorem w_150 : Cond.fieldLink "PostShares$Board" 21 "PostShares$Board" "owner" "[I" ∈ tg := tg_m 150 (by decide +kernel) (by decide +kernel)
theorem w_151 : Cond.fieldLink "PostShares$Board" 24 "PostShares$Board" "ownersBehind" "[I" ∈ tg := tg_m 151 (by decide +kernel) (by decide +kernel)
theorem w_152 : Cond.fieldLink "PostShares$Foresight" 70 "PostShares$Board" "ownersBehind" "[I" ∈ tg := tg_m 152 (by decide +kernel) (by decide +kernel)
theorem w_153 : Cond.fieldLink "PostShares$Board" 27 "PostShares$Board" "share" "[I" ∈ tg := tg_m 153 (by decide +kernel) (by decide +kernel)
theorem w_154 : Cond.fieldLink "PostShares" 120 "PostShares$Board" "share" "[I" ∈ tg := tg_m 154 (by decide +kernel) (by decide +kernel)
theorem w_155 : Cond.fieldLink "PostShares$Board" 30 "PostShares$Board" "asked" "[I" ∈ tg := tg_m 155 (by decide +kernel) (by decide +kernel)
theorem w_156 : Cond.fieldLink "PostShares$Foresight" 94 "PostShares$Board" "asked" "[I" ∈ tg := tg_m 156 (by decide +kernel) (by decide +kernel)
theorem w_157 : Cond.fieldLink "PostShares$Board" 49 "PostShares$Board" "had" "I" ∈ tg := tg_m 157 (by decide +kernel) (by decide +kernel)
theorem w_158 : Cond.fieldLink "PostShares" 206 "PostShares$Board" "had" "I" ∈ tg := tg_m 158 (by decide +kernel) (by decide +kernel)
theorem w_159 : Cond.fieldLink "PostShares$Board" 33 "PostShares$Board" "holder" "[I" ∈ tg := tg_m 159 (by decide +kernel) (by decide +kernel)
theorem w_160 : Cond.fieldLink "PostShares" 95 "PostShares$Board" "holder" "[I" ∈ tg := tg_m 160 (by decide +kernel) (by decide +kernel)
theorem w_161 : Cond.fieldLink "PostShares$Board" 36 "PostShares$Board" "takenAt" "[I" ∈ tg := tg_m 161 (by decide +kernel) (by decide +kernel)
theorem w_162 : Cond.fieldLink "PostShares" 98 "PostShares$Board" "takenAt" "[I" ∈ tg := tg_m 162 (by decide +kernel) (by decide +kernel)
theorem w_163 : Cond.fieldLink "PostShares$Foresight" 41 "PostShares$Board" "vetoesLeft" "I" ∈ tg := tg_m 163 (by decide +kernel) (by decide +kernel)
theorem w_164 : Cond.fieldLink "PostShares" 114 "PostShares$Board" "vetoesLeft" "I" ∈ tg := tg_m 164 (by decide +kernel) (by decide +kernel)
theorem w_165 : Cond.fieldLink "PostShares$Board" 97 "PostShares$Board" "vetoesLeft" "I" ∈ tg := tg_m 165 (by decide +kernel) (by decide +kernel)
theorem w_166 : Cond.fieldLink "PostShares$Foresight" 29 "PostShares$Board" "barred" "I" ∈ tg := tg_m 166 (by decide +kernel) (by decide +kernel)
theorem w_167 : Cond.fieldLink "PostShares" 101 "PostShares$Board" "barred" "I" ∈ tg := tg_m 167 (by decide +kernel) (by decide +kernel)
theorem w_168 : Cond.fieldLink "PostShares$Board" 100 "PostShares$Board" "barred" "I" ∈ tg := tg_m 168 (by decide +kernel) (by decide +kernel)
theorem w_169 : Cond.fieldLink "PostShares$Board" 39 "PostShares$Board" "last" "I" ∈ tg := tg_m 169 (by decide +kernel) (by decide +kernel)
theorem w_170 : Cond.fieldLink "PostShares$Board" 103 "PostShares$Board" "barredBefore" "I" ∈ tg := tg_m 170 (by decide +kernel) (by decide +kernel)
theorem w_219 : Cond.fieldLink "PostShares$Past" 11 "PostShares$Past" "ring" "[LPostShares$Board;" ∈ tg := tg_m 219 (by decide +kernel) (by decide +kernel)
theorem w_220 : Cond.fieldLink "PostShares$Past" 17 "PostShares$Past" "next" "I" ∈ tg := tg_m 220 (by decide +kernel) (by decide +kernel)
theorem w_221 : Cond.fieldLink "PostShares$Past" 21 "PostShares$Past" "count" "I" ∈ tg := tg_m 221 (by decide +kernel) (by decide +kernel)
theorem w_222 : Cond.fieldLink "PostShares" 191 "PostShares$Past" "count" "I" ∈ tg := tg_m 222 (by decide +kernel) (by decide +kernel)
theorem w_236 : Cond.fieldLink "PostShares$Foresight" 11 "PostShares$Foresight" "ternary" "[I" ∈ tg := tg_m 236 (by decide +kernel) (by decide +kernel)
theorem w_237 : Cond.fieldLink "PostShares$Foresight" 15 "PostShares$Foresight" "kept" "[J" ∈ tg := tg_m 237 (by decide +kernel) (by decide +kernel)
theorem w_278 : Cond.fieldLink "PostShares" 10 "PostShares" "text" "LPostShares$Text;" ∈ tg := tg_m 278 (by decide +kernel) (by decide +kernel)
theorem w_279 : Cond.fieldLink "PostShares" 19 "PostShares" "now" "LPostShares$Board;" ∈ tg := tg_m 279 (by decide +kernel) (by decide +kernel)
theorem w_280 : Cond.fieldLink "PostShares" 23 "PostShares" "draft" "LPostShares$Board;" ∈ tg := tg_m 280 (by decide +kernel) (by decide +kernel)
theorem w_281 : Cond.fieldLink "PostShares" 29 "PostShares" "past" "LPostShares$Past;" ∈ tg := tg_m 281 (by decide +kernel) (by decide +kernel)
theorem w_282 : Cond.fieldLink "PostShares" 36 "PostShares" "foresight" "LPostShares$Foresight;" ∈ tg := tg_m 282 (by decide +kernel) (by decide +kernel)
theorem w_283 : Cond.fieldLink "PostShares" 40 "PostShares" "versions" "I" ∈ tg := tg_m 283 (by decide +kernel) (by decide +kernel)
theorem w_284 : Cond.fieldLink "PostShares" 197 "PostShares" "bads" "I" ∈ tg := tg_m 284 (by decide +kernel) (by decide +kernel)
theorem w_285 : Cond.fieldLink "PostShares" 200 "PostShares" "nos" "I" ∈ tg := tg_m 285 (by decide +kernel) (by decide +kernel)
theorem w_286 : Cond.fieldLink "PostShares" 203 "PostShares" "fulls" "I" ∈ tg := tg_m 286 (by decide +kernel) (by decide +kernel)
theorem w_678 : Cond.fieldLink "PostSharesModel" 7 "PostSharesModel" "w" "[I" ∈ tg := tg_m 678 (by decide +kernel) (by decide +kernel)
theorem w_679 : Cond.fieldLink "PostSharesModel" 40 "PostSharesModel" "states" "I" ∈ tg := tg_m 679 (by decide +kernel) (by decide +kernel)
theorem w_680 : Cond.fieldLink "PostSharesModel" 13 "PostSharesModel" "refused" "[I" ∈ tg := tg_m 680 (by decide +kernel) (by decide +kernel)
theorem w_681 : Cond.fieldLink "PostSharesModel" 16 "PostSharesModel" "text" "[I" ∈ tg := tg_m 681 (by decide +kernel) (by decide +kernel)
theorem w_682 : Cond.fieldLink "PostSharesModel" 58 "PostSharesModel" "letters" "I" ∈ tg := tg_m 682 (by decide +kernel) (by decide +kernel)
theorem w_683 : Cond.fieldLink "PostSharesModel" 19 "PostSharesModel" "reasons" "[I" ∈ tg := tg_m 683 (by decide +kernel) (by decide +kernel)
theorem w_684 : Cond.fieldLink "PostSharesModel" 61 "PostSharesModel" "here" "I" ∈ tg := tg_m 684 (by decide +kernel) (by decide +kernel)
theorem w_685 : Cond.fieldLink "PostSharesModel" 120 "PostSharesModel" "items" "I" ∈ tg := tg_m 685 (by decide +kernel) (by decide +kernel)
theorem w_686 : Cond.fieldLink "PostSharesModel" 72 "PostSharesModel" "part" "I" ∈ tg := tg_m 686 (by decide +kernel) (by decide +kernel)
theorem w_687 : Cond.fieldLink "PostSharesModel" 75 "PostSharesModel" "which" "I" ∈ tg := tg_m 687 (by decide +kernel) (by decide +kernel)
theorem w_688 : Cond.fieldLink "PostSharesModel" 89 "PostSharesModel" "taken" "I" ∈ tg := tg_m 688 (by decide +kernel) (by decide +kernel)
theorem w_689 : Cond.fieldLink "PostSharesModel" 99 "PostSharesModel" "number" "I" ∈ tg := tg_m 689 (by decide +kernel) (by decide +kernel)
theorem w_690 : Cond.fieldLink "PostSharesModel" 22 "PostSharesModel" "turnOf" "[I" ∈ tg := tg_m 690 (by decide +kernel) (by decide +kernel)
theorem w_691 : Cond.fieldLink "PostSharesModel" 25 "PostSharesModel" "had" "[I" ∈ tg := tg_m 691 (by decide +kernel) (by decide +kernel)
theorem w_692 : Cond.fieldLink "PostSharesModel" 28 "PostSharesModel" "ends" "[I" ∈ tg := tg_m 692 (by decide +kernel) (by decide +kernel)
theorem w_693 : Cond.fieldLink "PostSharesModel" 31 "PostSharesModel" "within" "[I" ∈ tg := tg_m 693 (by decide +kernel) (by decide +kernel)
theorem w_694 : Cond.fieldLink "PostSharesModel" 34 "PostSharesModel" "asked" "[I" ∈ tg := tg_m 694 (by decide +kernel) (by decide +kernel)
theorem w_695 : Cond.fieldLink "PostSharesModel" 200 "PostSharesModel" "askedMany" "I" ∈ tg := tg_m 695 (by decide +kernel) (by decide +kernel)
theorem w_696 : Cond.fieldLink "PostSharesModel" 37 "PostSharesModel" "then" "[I" ∈ tg := tg_m 696 (by decide +kernel) (by decide +kernel)
theorem w_697 : Cond.fieldLink "PostSharesModel" 206 "PostSharesModel" "vetoer" "I" ∈ tg := tg_m 697 (by decide +kernel) (by decide +kernel)
theorem w_82 : Cond.methodLink "PostSharesLaw" 9 (⟨"PostShares", "<init>", "()V"⟩ : MethodName) ∈ tg := tg_m 82 (by decide +kernel) (by decide +kernel)
theorem w_85 : Cond.methodLink "PostShares" 1 (⟨"java/lang/Object", "<init>", "()V"⟩ : MethodName) ∈ tg := tg_m 85 (by decide +kernel) (by decide +kernel)
theorem w_90 : Cond.methodLink "PostShares" 9 (⟨"PostShares$Text", "<init>", "()V"⟩ : MethodName) ∈ tg := tg_m 90 (by decide +kernel) (by decide +kernel)
theorem w_93 : Cond.methodLink "PostShares$Text" 3 (⟨"java/lang/Object", "<init>", "()V"⟩ : MethodName) ∈ tg := tg_m 93 (by decide +kernel) (by decide +kernel)
theorem w_94 : Cond.methodLink "PostShares$Text" 34 (⟨"java/util/Arrays", "fill", "([II)V"⟩ : MethodName) ∈ tg := tg_m 94 (by decide +kernel) (by decide +kernel)
theorem w_129 : Cond.methodLink "PostShares$Board" 3 (⟨"java/lang/Object", "<init>", "()V"⟩ : MethodName) ∈ tg := tg_m 129 (by decide +kernel) (by decide +kernel)
theorem w_212 : Cond.methodLink "PostShares" 28 (⟨"PostShares$Past", "<init>", "()V"⟩ : MethodName) ∈ tg := tg_m 212 (by decide +kernel) (by decide +kernel)
theorem w_215 : Cond.methodLink "PostShares$Past" 3 (⟨"java/lang/Object", "<init>", "()V"⟩ : MethodName) ∈ tg := tg_m 215 (by decide +kernel) (by decide +kernel)
theorem w_232 : Cond.methodLink "PostShares" 35 (⟨"PostShares$Foresight", "<init>", "()V"⟩ : MethodName) ∈ tg := tg_m 232 (by decide +kernel) (by decide +kernel)
theorem w_235 : Cond.methodLink "PostShares$Foresight" 5 (⟨"java/lang/Object", "<init>", "()V"⟩ : MethodName) ∈ tg := tg_m 235 (by decide +kernel) (by decide +kernel)
theorem w_244 : Cond.methodLink "PostShares" 44 (⟨"PostShares", "startAnew", "()V"⟩ : MethodName) ∈ tg := tg_m 244 (by decide +kernel) (by decide +kernel)
theorem w_249 : Cond.methodLink "PostShares" 244 (⟨"PostShares$Board", "start", "(I)V"⟩ : MethodName) ∈ tg := tg_m 249 (by decide +kernel) (by decide +kernel)
theorem w_253 : Cond.methodLink "PostShares$Board" 91 (⟨"java/util/Arrays", "fill", "([II)V"⟩ : MethodName) ∈ tg := tg_m 253 (by decide +kernel) (by decide +kernel)
theorem w_254 : Cond.methodLink "PostShares$Board" 106 (⟨"PostShares$Board", "dealTurns", "()V"⟩ : MethodName) ∈ tg := tg_m 254 (by decide +kernel) (by decide +kernel)
theorem w_258 : Cond.methodLink "PostShares$Board" 115 (⟨"PostShares$Board", "turnsInAll", "()I"⟩ : MethodName) ∈ tg := tg_m 258 (by decide +kernel) (by decide +kernel)
theorem w_262 : Cond.methodLink "PostShares$Board" 119 (⟨"PostShares$Board", "comesAhead", "(II)Z"⟩ : MethodName) ∈ tg := tg_m 262 (by decide +kernel) (by decide +kernel)
theorem w_266 : Cond.methodLink "PostShares$Board" 123 (⟨"PostShares$Board", "divisor", "(I)I"⟩ : MethodName) ∈ tg := tg_m 266 (by decide +kernel) (by decide +kernel)
theorem w_270 : Cond.methodLink "PostShares$Board" 109 (⟨"PostShares$Board", "lookBehindTurns", "()V"⟩ : MethodName) ∈ tg := tg_m 270 (by decide +kernel) (by decide +kernel)
theorem w_274 : Cond.methodLink "PostShares$Board" 112 (⟨"PostShares$Board", "rankAsked", "()V"⟩ : MethodName) ∈ tg := tg_m 274 (by decide +kernel) (by decide +kernel)
theorem w_306 : Cond.methodLink "PostSharesLaw" 13 (⟨"PostShares", "type", "(I)I"⟩ : MethodName) ∈ tg := tg_m 306 (by decide +kernel) (by decide +kernel)
theorem w_310 : Cond.methodLink "PostShares" 47 (⟨"PostShares", "bad", "()I"⟩ : MethodName) ∈ tg := tg_m 310 (by decide +kernel) (by decide +kernel)
theorem w_314 : Cond.methodLink "PostShares" 54 (⟨"PostShares", "full", "()I"⟩ : MethodName) ∈ tg := tg_m 314 (by decide +kernel) (by decide +kernel)
theorem w_318 : Cond.methodLink "PostShares" 57 (⟨"PostShares$Text", "add", "(I)I"⟩ : MethodName) ∈ tg := tg_m 318 (by decide +kernel) (by decide +kernel)
theorem w_322 : Cond.methodLink "PostSharesLaw" 18 (⟨"PostShares", "clear", "()I"⟩ : MethodName) ∈ tg := tg_m 322 (by decide +kernel) (by decide +kernel)
theorem w_326 : Cond.methodLink "PostShares" 61 (⟨"PostShares$Text", "wipe", "()I"⟩ : MethodName) ∈ tg := tg_m 326 (by decide +kernel) (by decide +kernel)
theorem w_330 : Cond.methodLink "PostSharesLaw" 23 (⟨"PostShares", "reads", "()I"⟩ : MethodName) ∈ tg := tg_m 330 (by decide +kernel) (by decide +kernel)
theorem w_334 : Cond.methodLink "PostShares" 64 (⟨"PostShares$Board", "tellNothing", "()V"⟩ : MethodName) ∈ tg := tg_m 334 (by decide +kernel) (by decide +kernel)
theorem w_338 : Cond.methodLink "PostShares" 67 (⟨"PostShares$Text", "tells", "(LPostShares$Board;)Z"⟩ : MethodName) ∈ tg := tg_m 338 (by decide +kernel) (by decide +kernel)
theorem w_342 : Cond.methodLink "PostShares$Text" 40 (⟨"PostShares$Text", "readItem", "(LPostShares$Board;)Z"⟩ : MethodName) ∈ tg := tg_m 342 (by decide +kernel) (by decide +kernel)
theorem w_346 : Cond.methodLink "PostShares$Text" 51 (⟨"PostShares$Text", "expect", "(II)V"⟩ : MethodName) ∈ tg := tg_m 346 (by decide +kernel) (by decide +kernel)
theorem w_350 : Cond.methodLink "PostShares$Text" 47 (⟨"PostShares$Text", "seen", "()I"⟩ : MethodName) ∈ tg := tg_m 350 (by decide +kernel) (by decide +kernel)
theorem w_354 : Cond.methodLink "PostShares$Text" 63 (⟨"PostShares$Text", "readLot", "(LPostShares$Board;)Z"⟩ : MethodName) ∈ tg := tg_m 354 (by decide +kernel) (by decide +kernel)
theorem w_358 : Cond.methodLink "PostShares$Text" 72 (⟨"PostShares$Board", "allPosts", "()I"⟩ : MethodName) ∈ tg := tg_m 358 (by decide +kernel) (by decide +kernel)
theorem w_365 : Cond.methodLink "PostShares$Text" 79 (⟨"PostShares$Board", "addLot", "(I)V"⟩ : MethodName) ∈ tg := tg_m 365 (by decide +kernel) (by decide +kernel)
theorem w_369 : Cond.methodLink "PostShares$Text" 83 (⟨"PostShares$Text", "readEnd", "()Z"⟩ : MethodName) ∈ tg := tg_m 369 (by decide +kernel) (by decide +kernel)
theorem w_373 : Cond.methodLink "PostShares$Text" 93 (⟨"PostShares$Text", "pass", "(I)Z"⟩ : MethodName) ∈ tg := tg_m 373 (by decide +kernel) (by decide +kernel)
theorem w_377 : Cond.methodLink "PostShares$Text" 66 (⟨"PostShares$Text", "readRule", "(LPostShares$Board;)Z"⟩ : MethodName) ∈ tg := tg_m 377 (by decide +kernel) (by decide +kernel)
theorem w_381 : Cond.methodLink "PostShares$Text" 87 (⟨"PostShares$Text", "readNumber", "(II)I"⟩ : MethodName) ∈ tg := tg_m 381 (by decide +kernel) (by decide +kernel)
theorem w_385 : Cond.methodLink "PostShares$Text" 69 (⟨"PostShares$Text", "readParty", "(LPostShares$Board;)Z"⟩ : MethodName) ∈ tg := tg_m 385 (by decide +kernel) (by decide +kernel)
theorem w_389 : Cond.methodLink "PostShares$Text" 100 (⟨"PostShares$Text", "readWorth", "(LPostShares$Board;I)Z"⟩ : MethodName) ∈ tg := tg_m 389 (by decide +kernel) (by decide +kernel)
theorem w_393 : Cond.methodLink "PostShares$Text" 108 (⟨"PostShares$Board", "setValue", "(III)V"⟩ : MethodName) ∈ tg := tg_m 393 (by decide +kernel) (by decide +kernel)
theorem w_397 : Cond.methodLink "PostShares$Text" 104 (⟨"PostShares$Board", "addParty", "(Z)V"⟩ : MethodName) ∈ tg := tg_m 397 (by decide +kernel) (by decide +kernel)
theorem w_401 : Cond.methodLink "PostShares$Text" 44 (⟨"PostShares$Text", "noteReasons", "()V"⟩ : MethodName) ∈ tg := tg_m 401 (by decide +kernel) (by decide +kernel)
theorem w_405 : Cond.methodLink "PostShares" 74 (⟨"PostShares$Past", "keep", "(LPostShares$Board;)V"⟩ : MethodName) ∈ tg := tg_m 405 (by decide +kernel) (by decide +kernel)
theorem w_409 : Cond.methodLink "PostShares$Past" 25 (⟨"PostShares$Board", "copy", "(LPostShares$Board;)V"⟩ : MethodName) ∈ tg := tg_m 409 (by decide +kernel) (by decide +kernel)
theorem w_413 : Cond.methodLink "PostShares$Board" 139 (⟨"java/lang/System", "arraycopy", "(Ljava/lang/Object;ILjava/lang/Object;II)V"⟩ : MethodName) ∈ tg := tg_m 413 (by decide +kernel) (by decide +kernel)
theorem w_416 : Cond.methodLink "PostShares$Past" 29 (⟨"java/lang/Math", "min", "(II)I"⟩ : MethodName) ∈ tg := tg_m 416 (by decide +kernel) (by decide +kernel)
theorem w_419 : Cond.methodLink "PostShares" 78 (⟨"PostShares$Board", "copy", "(LPostShares$Board;)V"⟩ : MethodName) ∈ tg := tg_m 419 (by decide +kernel) (by decide +kernel)
theorem w_420 : Cond.methodLink "PostSharesLaw" 27 (⟨"PostShares", "reason", "(I)I"⟩ : MethodName) ∈ tg := tg_m 420 (by decide +kernel) (by decide +kernel)
theorem w_424 : Cond.methodLink "PostSharesLaw" 31 (⟨"PostShares", "lot", "(II)I"⟩ : MethodName) ∈ tg := tg_m 424 (by decide +kernel) (by decide +kernel)
theorem w_428 : Cond.methodLink "PostShares" 88 (⟨"PostShares$Board", "hasLot", "(I)Z"⟩ : MethodName) ∈ tg := tg_m 428 (by decide +kernel) (by decide +kernel)
theorem w_432 : Cond.methodLink "PostShares" 104 (⟨"PostShares", "bit", "(II)I"⟩ : MethodName) ∈ tg := tg_m 432 (by decide +kernel) (by decide +kernel)
theorem w_433 : Cond.methodLink "PostSharesLaw" 36 (⟨"PostShares", "party", "(II)I"⟩ : MethodName) ∈ tg := tg_m 433 (by decide +kernel) (by decide +kernel)
theorem w_437 : Cond.methodLink "PostShares" 108 (⟨"PostShares$Board", "hasParty", "(I)Z"⟩ : MethodName) ∈ tg := tg_m 437 (by decide +kernel) (by decide +kernel)
theorem w_441 : Cond.methodLink "PostShares" 117 (⟨"PostShares$Board", "sumOf", "(I)I"⟩ : MethodName) ∈ tg := tg_m 441 (by decide +kernel) (by decide +kernel)
theorem w_445 : Cond.methodLink "PostShares$Board" 56 (⟨"PostShares$Board", "value", "(II)I"⟩ : MethodName) ∈ tg := tg_m 445 (by decide +kernel) (by decide +kernel)
theorem w_449 : Cond.methodLink "PostShares" 123 (⟨"PostShares$Board", "turnsHadBy", "(I)I"⟩ : MethodName) ∈ tg := tg_m 449 (by decide +kernel) (by decide +kernel)
theorem w_453 : Cond.methodLink "PostShares$Board" 52 (⟨"PostShares$Board", "ownerAt", "(I)I"⟩ : MethodName) ∈ tg := tg_m 453 (by decide +kernel) (by decide +kernel)
theorem w_457 : Cond.methodLink "PostShares" 126 (⟨"PostShares$Board", "allWorth", "(I)I"⟩ : MethodName) ∈ tg := tg_m 457 (by decide +kernel) (by decide +kernel)
theorem w_461 : Cond.methodLink "PostSharesLaw" 40 (⟨"PostShares", "worth", "(II)I"⟩ : MethodName) ∈ tg := tg_m 461 (by decide +kernel) (by decide +kernel)
theorem w_465 : Cond.methodLink "PostShares" 129 (⟨"PostShares$Board", "value", "(II)I"⟩ : MethodName) ∈ tg := tg_m 465 (by decide +kernel) (by decide +kernel)
theorem w_466 : Cond.methodLink "PostSharesLaw" 44 (⟨"PostShares", "turn", "(I)I"⟩ : MethodName) ∈ tg := tg_m 466 (by decide +kernel) (by decide +kernel)
theorem w_470 : Cond.methodLink "PostShares" 132 (⟨"PostShares$Board", "ownerAt", "(I)I"⟩ : MethodName) ∈ tg := tg_m 470 (by decide +kernel) (by decide +kernel)
theorem w_471 : Cond.methodLink "PostSharesLaw" 48 (⟨"PostShares", "rates", "(III)I"⟩ : MethodName) ∈ tg := tg_m 471 (by decide +kernel) (by decide +kernel)
theorem w_475 : Cond.methodLink "PostShares" 135 (⟨"PostShares", "no", "()I"⟩ : MethodName) ∈ tg := tg_m 475 (by decide +kernel) (by decide +kernel)
theorem w_479 : Cond.methodLink "PostShares" 138 (⟨"PostShares$Board", "setValue", "(III)V"⟩ : MethodName) ∈ tg := tg_m 479 (by decide +kernel) (by decide +kernel)
theorem w_480 : Cond.methodLink "PostSharesLaw" 53 (⟨"PostShares", "strength", "(II)I"⟩ : MethodName) ∈ tg := tg_m 480 (by decide +kernel) (by decide +kernel)
theorem w_484 : Cond.methodLink "PostSharesLaw" 57 (⟨"PostShares", "rule", "(I)I"⟩ : MethodName) ∈ tg := tg_m 484 (by decide +kernel) (by decide +kernel)
theorem w_488 : Cond.methodLink "PostSharesLaw" 61 (⟨"PostShares", "binds", "(II)I"⟩ : MethodName) ∈ tg := tg_m 488 (by decide +kernel) (by decide +kernel)
theorem w_492 : Cond.methodLink "PostShares" 145 (⟨"PostShares$Board", "bindLots", "(II)V"⟩ : MethodName) ∈ tg := tg_m 492 (by decide +kernel) (by decide +kernel)
theorem w_496 : Cond.methodLink "PostShares$Board" 66 (⟨"java/lang/Math", "min", "(II)I"⟩ : MethodName) ∈ tg := tg_m 496 (by decide +kernel) (by decide +kernel)
theorem w_497 : Cond.methodLink "PostShares$Board" 71 (⟨"PostShares$Board", "setValue", "(III)V"⟩ : MethodName) ∈ tg := tg_m 497 (by decide +kernel) (by decide +kernel)
theorem w_498 : Cond.methodLink "PostShares$Board" 75 (⟨"PostShares$Board", "dropLot", "(I)V"⟩ : MethodName) ∈ tg := tg_m 498 (by decide +kernel) (by decide +kernel)
theorem w_502 : Cond.methodLink "PostSharesLaw" 65 (⟨"PostShares", "joins", "(II)I"⟩ : MethodName) ∈ tg := tg_m 502 (by decide +kernel) (by decide +kernel)
theorem w_506 : Cond.methodLink "PostShares" 152 (⟨"PostShares$Board", "joinParties", "(II)V"⟩ : MethodName) ∈ tg := tg_m 506 (by decide +kernel) (by decide +kernel)
theorem w_510 : Cond.methodLink "PostShares$Board" 79 (⟨"java/lang/Math", "max", "(II)I"⟩ : MethodName) ∈ tg := tg_m 510 (by decide +kernel) (by decide +kernel)
theorem w_514 : Cond.methodLink "PostShares$Board" 85 (⟨"PostShares$Board", "dropParty", "(I)V"⟩ : MethodName) ∈ tg := tg_m 514 (by decide +kernel) (by decide +kernel)
theorem w_518 : Cond.methodLink "PostSharesLaw" 69 (⟨"PostShares", "takes", "(I)I"⟩ : MethodName) ∈ tg := tg_m 518 (by decide +kernel) (by decide +kernel)
theorem w_522 : Cond.methodLink "PostShares" 158 (⟨"PostShares$Board", "canTake", "(I)Z"⟩ : MethodName) ∈ tg := tg_m 522 (by decide +kernel) (by decide +kernel)
theorem w_526 : Cond.methodLink "PostShares" 161 (⟨"PostShares$Board", "take", "(I)I"⟩ : MethodName) ∈ tg := tg_m 526 (by decide +kernel) (by decide +kernel)
theorem w_530 : Cond.methodLink "PostSharesLaw" 73 (⟨"PostShares", "vetoes", "(I)I"⟩ : MethodName) ∈ tg := tg_m 530 (by decide +kernel) (by decide +kernel)
theorem w_534 : Cond.methodLink "PostShares" 164 (⟨"PostShares$Board", "canVeto", "(I)Z"⟩ : MethodName) ∈ tg := tg_m 534 (by decide +kernel) (by decide +kernel)
theorem w_538 : Cond.methodLink "PostShares$Board" 126 (⟨"PostShares$Board", "hasLot", "(I)Z"⟩ : MethodName) ∈ tg := tg_m 538 (by decide +kernel) (by decide +kernel)
theorem w_539 : Cond.methodLink "PostShares$Board" 130 (⟨"PostShares$Board", "freeLots", "()I"⟩ : MethodName) ∈ tg := tg_m 539 (by decide +kernel) (by decide +kernel)
theorem w_543 : Cond.methodLink "PostShares" 167 (⟨"PostShares$Board", "veto", "(I)I"⟩ : MethodName) ∈ tg := tg_m 543 (by decide +kernel) (by decide +kernel)
theorem w_547 : Cond.methodLink "PostSharesLaw" 77 (⟨"PostShares", "foreseen", "(I)I"⟩ : MethodName) ∈ tg := tg_m 547 (by decide +kernel) (by decide +kernel)
theorem w_551 : Cond.methodLink "PostShares" 170 (⟨"PostShares$Foresight", "sumInTheEnd", "(LPostShares$Board;II)I"⟩ : MethodName) ∈ tg := tg_m 551 (by decide +kernel) (by decide +kernel)
theorem w_555 : Cond.methodLink "PostShares$Foresight" 19 (⟨"PostShares$Board", "sumOf", "(I)I"⟩ : MethodName) ∈ tg := tg_m 555 (by decide +kernel) (by decide +kernel)
theorem w_556 : Cond.methodLink "PostShares$Foresight" 25 (⟨"PostShares$Board", "freeLots", "()I"⟩ : MethodName) ∈ tg := tg_m 556 (by decide +kernel) (by decide +kernel)
theorem w_557 : Cond.methodLink "PostShares$Foresight" 33 (⟨"PostShares$Foresight", "outcome", "(LPostShares$Board;IIII)J"⟩ : MethodName) ∈ tg := tg_m 557 (by decide +kernel) (by decide +kernel)
theorem w_561 : Cond.methodLink "PostShares$Foresight" 62 (⟨"java/lang/Integer", "bitCount", "(I)I"⟩ : MethodName) ∈ tg := tg_m 561 (by decide +kernel) (by decide +kernel)
theorem w_567 : Cond.methodLink "PostShares$Foresight" 67 (⟨"PostShares$Board", "ownerAt", "(I)I"⟩ : MethodName) ∈ tg := tg_m 567 (by decide +kernel) (by decide +kernel)
theorem w_568 : Cond.methodLink "PostShares$Foresight" 73 (⟨"PostShares$Foresight", "caseOf", "(III)I"⟩ : MethodName) ∈ tg := tg_m 568 (by decide +kernel) (by decide +kernel)
theorem w_574 : Cond.methodLink "PostShares$Foresight" 48 (⟨"PostShares$Foresight", "ifTaken", "(LPostShares$Board;IIIII)J"⟩ : MethodName) ∈ tg := tg_m 574 (by decide +kernel) (by decide +kernel)
theorem w_579 : Cond.methodLink "PostShares$Foresight" 88 (⟨"PostShares$Board", "value", "(II)I"⟩ : MethodName) ∈ tg := tg_m 579 (by decide +kernel) (by decide +kernel)
theorem w_580 : Cond.methodLink "PostShares$Foresight" 37 (⟨"PostShares$Foresight", "gainOf", "(JI)I"⟩ : MethodName) ∈ tg := tg_m 580 (by decide +kernel) (by decide +kernel)
theorem w_584 : Cond.methodLink "PostSharesLaw" 81 (⟨"PostShares", "best", "()I"⟩ : MethodName) ∈ tg := tg_m 584 (by decide +kernel) (by decide +kernel)
theorem w_588 : Cond.methodLink "PostShares" 174 (⟨"PostShares$Foresight", "lotTaken", "(LPostShares$Board;)I"⟩ : MethodName) ∈ tg := tg_m 588 (by decide +kernel) (by decide +kernel)
theorem w_592 : Cond.methodLink "PostShares$Foresight" 44 (⟨"PostShares$Foresight", "lotOf", "(J)I"⟩ : MethodName) ∈ tg := tg_m 592 (by decide +kernel) (by decide +kernel)
theorem w_596 : Cond.methodLink "PostSharesLaw" 85 (⟨"PostShares", "against", "(I)I"⟩ : MethodName) ∈ tg := tg_m 596 (by decide +kernel) (by decide +kernel)
theorem w_600 : Cond.methodLink "PostShares" 178 (⟨"PostShares$Foresight", "vetoerIf", "(LPostShares$Board;I)I"⟩ : MethodName) ∈ tg := tg_m 600 (by decide +kernel) (by decide +kernel)
theorem w_604 : Cond.methodLink "PostShares$Foresight" 52 (⟨"PostShares$Foresight", "vetoerOf", "(J)I"⟩ : MethodName) ∈ tg := tg_m 604 (by decide +kernel) (by decide +kernel)
theorem w_607 : Cond.methodLink "PostSharesLaw" 89 (⟨"PostShares", "taking", "(II)I"⟩ : MethodName) ∈ tg := tg_m 607 (by decide +kernel) (by decide +kernel)
theorem w_611 : Cond.methodLink "PostShares" 182 (⟨"PostShares$Foresight", "sumInTheEndIf", "(LPostShares$Board;II)I"⟩ : MethodName) ∈ tg := tg_m 611 (by decide +kernel) (by decide +kernel)
theorem w_615 : Cond.methodLink "PostSharesLaw" 93 (⟨"PostShares", "course", "(I)I"⟩ : MethodName) ∈ tg := tg_m 615 (by decide +kernel) (by decide +kernel)
theorem w_619 : Cond.methodLink "PostShares" 185 (⟨"PostShares$Foresight", "thing", "(LPostShares$Board;I)I"⟩ : MethodName) ∈ tg := tg_m 619 (by decide +kernel) (by decide +kernel)
theorem w_623 : Cond.methodLink "PostSharesLaw" 97 (⟨"PostShares", "sincere", "(I)I"⟩ : MethodName) ∈ tg := tg_m 623 (by decide +kernel) (by decide +kernel)
theorem w_627 : Cond.methodLink "PostShares" 188 (⟨"PostShares$Board", "sincereSum", "(I)I"⟩ : MethodName) ∈ tg := tg_m 627 (by decide +kernel) (by decide +kernel)
theorem w_631 : Cond.methodLink "PostShares$Board" 133 (⟨"PostShares$Board", "sumOf", "(I)I"⟩ : MethodName) ∈ tg := tg_m 631 (by decide +kernel) (by decide +kernel)
theorem w_632 : Cond.methodLink "PostShares$Board" 136 (⟨"PostShares$Board", "dearest", "(II)I"⟩ : MethodName) ∈ tg := tg_m 632 (by decide +kernel) (by decide +kernel)
theorem w_636 : Cond.methodLink "PostSharesLaw" 101 (⟨"PostShares", "without", "(II)I"⟩ : MethodName) ∈ tg := tg_m 636 (by decide +kernel) (by decide +kernel)
theorem w_640 : Cond.methodLink "PostSharesLaw" 105 (⟨"PostShares", "back", "()I"⟩ : MethodName) ∈ tg := tg_m 640 (by decide +kernel) (by decide +kernel)
theorem w_644 : Cond.methodLink "PostShares" 194 (⟨"PostShares$Past", "restore", "(LPostShares$Board;)V"⟩ : MethodName) ∈ tg := tg_m 644 (by decide +kernel) (by decide +kernel)
theorem w_648 : Cond.methodLink "PostSharesLaw" 109 (⟨"PostShares", "told", "(I)I"⟩ : MethodName) ∈ tg := tg_m 648 (by decide +kernel) (by decide +kernel)
theorem w_652 : Cond.methodLink "PostShares" 209 (⟨"java/lang/Integer", "bitCount", "(I)I"⟩ : MethodName) ∈ tg := tg_m 652 (by decide +kernel) (by decide +kernel)
theorem w_653 : Cond.methodLink "PostSharesLaw" 113 (⟨"PostShares", "digest", "()J"⟩ : MethodName) ∈ tg := tg_m 653 (by decide +kernel) (by decide +kernel)
theorem w_658 : Cond.methodLink "PostShares" 216 (⟨"PostShares", "told", "(I)I"⟩ : MethodName) ∈ tg := tg_m 658 (by decide +kernel) (by decide +kernel)
theorem w_659 : Cond.methodLink "PostShares" 219 (⟨"PostShares", "digested", "(JI)J"⟩ : MethodName) ∈ tg := tg_m 659 (by decide +kernel) (by decide +kernel)
theorem w_663 : Cond.methodLink "PostShares" 223 (⟨"PostShares", "lot", "(II)I"⟩ : MethodName) ∈ tg := tg_m 663 (by decide +kernel) (by decide +kernel)
theorem w_664 : Cond.methodLink "PostShares" 226 (⟨"PostShares", "digestedParty", "(JI)J"⟩ : MethodName) ∈ tg := tg_m 664 (by decide +kernel) (by decide +kernel)
theorem w_668 : Cond.methodLink "PostShares" 229 (⟨"PostShares", "party", "(II)I"⟩ : MethodName) ∈ tg := tg_m 668 (by decide +kernel) (by decide +kernel)
theorem w_669 : Cond.methodLink "PostShares" 232 (⟨"PostShares", "worth", "(II)I"⟩ : MethodName) ∈ tg := tg_m 669 (by decide +kernel) (by decide +kernel)
theorem w_670 : Cond.methodLink "PostShares" 235 (⟨"PostShares", "foreseen", "(I)I"⟩ : MethodName) ∈ tg := tg_m 670 (by decide +kernel) (by decide +kernel)
theorem w_671 : Cond.methodLink "PostShares" 238 (⟨"PostShares", "sincere", "(I)I"⟩ : MethodName) ∈ tg := tg_m 671 (by decide +kernel) (by decide +kernel)
theorem w_674 : Cond.methodLink "PostSharesLaw" 12 (⟨"PostSharesModel", "<init>", "()V"⟩ : MethodName) ∈ tg := tg_m 674 (by decide +kernel) (by decide +kernel)
theorem w_677 : Cond.methodLink "PostSharesModel" 1 (⟨"java/lang/Object", "<init>", "()V"⟩ : MethodName) ∈ tg := tg_m 677 (by decide +kernel) (by decide +kernel)
theorem w_739 : Cond.methodLink "PostSharesLaw" 17 (⟨"PostSharesModel", "type", "(I)I"⟩ : MethodName) ∈ tg := tg_m 739 (by decide +kernel) (by decide +kernel)
theorem w_744 : Cond.methodLink "PostSharesModel" 48 (⟨"PostSharesModel", "in", "(JJJ)Z"⟩ : MethodName) ∈ tg := tg_m 744 (by decide +kernel) (by decide +kernel)
theorem w_747 : Cond.methodLink "PostSharesModel" 54 (⟨"PostSharesModel", "refuses", "(I)I"⟩ : MethodName) ∈ tg := tg_m 747 (by decide +kernel) (by decide +kernel)
theorem w_751 : Cond.methodLink "PostSharesLaw" 22 (⟨"PostSharesModel", "clear", "()I"⟩ : MethodName) ∈ tg := tg_m 751 (by decide +kernel) (by decide +kernel)
theorem w_755 : Cond.methodLink "PostSharesLaw" 26 (⟨"PostSharesModel", "reads", "()I"⟩ : MethodName) ∈ tg := tg_m 755 (by decide +kernel) (by decide +kernel)
theorem w_759 : Cond.methodLink "PostSharesModel" 44 (⟨"PostSharesModel", "copy", "(II)V"⟩ : MethodName) ∈ tg := tg_m 759 (by decide +kernel) (by decide +kernel)
theorem w_763 : Cond.methodLink "PostSharesModel" 129 (⟨"PostSharesModel", "readsAll", "()Z"⟩ : MethodName) ∈ tg := tg_m 763 (by decide +kernel) (by decide +kernel)
theorem w_767 : Cond.methodLink "PostSharesModel" 123 (⟨"PostSharesModel", "readsItem", "()Z"⟩ : MethodName) ∈ tg := tg_m 767 (by decide +kernel) (by decide +kernel)
theorem w_771 : Cond.methodLink "PostSharesModel" 82 (⟨"PostSharesModel", "reading", "(II)V"⟩ : MethodName) ∈ tg := tg_m 771 (by decide +kernel) (by decide +kernel)
theorem w_775 : Cond.methodLink "PostSharesModel" 64 (⟨"PostSharesModel", "byteHere", "()I"⟩ : MethodName) ∈ tg := tg_m 775 (by decide +kernel) (by decide +kernel)
theorem w_779 : Cond.methodLink "PostSharesModel" 111 (⟨"PostSharesModel", "readsRule", "()Z"⟩ : MethodName) ∈ tg := tg_m 779 (by decide +kernel) (by decide +kernel)
theorem w_785 : Cond.methodLink "PostSharesModel" 96 (⟨"PostSharesModel", "must", "(I)Z"⟩ : MethodName) ∈ tg := tg_m 785 (by decide +kernel) (by decide +kernel)
theorem w_789 : Cond.methodLink "PostSharesModel" 78 (⟨"PostSharesModel", "isAt", "(I)Z"⟩ : MethodName) ∈ tg := tg_m 789 (by decide +kernel) (by decide +kernel)
theorem w_793 : Cond.methodLink "PostSharesModel" 114 (⟨"PostSharesModel", "readsLot", "()Z"⟩ : MethodName) ∈ tg := tg_m 793 (by decide +kernel) (by decide +kernel)
theorem w_799 : Cond.methodLink "PostSharesModel" 92 (⟨"PostSharesModel", "has", "(II)Z"⟩ : MethodName) ∈ tg := tg_m 799 (by decide +kernel) (by decide +kernel)
theorem w_802 : Cond.methodLink "PostSharesModel" 117 (⟨"PostSharesModel", "readsParty", "()Z"⟩ : MethodName) ∈ tg := tg_m 802 (by decide +kernel) (by decide +kernel)
theorem w_806 : Cond.methodLink "PostSharesModel" 106 (⟨"PostSharesModel", "readsNumber", "(II)Z"⟩ : MethodName) ∈ tg := tg_m 806 (by decide +kernel) (by decide +kernel)
theorem w_811 : Cond.methodLink "PostSharesModel" 102 (⟨"PostSharesModel", "isFigure", "()Z"⟩ : MethodName) ∈ tg := tg_m 811 (by decide +kernel) (by decide +kernel)
theorem w_815 : Cond.methodLink "PostSharesModel" 126 (⟨"PostSharesModel", "begins", "()V"⟩ : MethodName) ∈ tg := tg_m 815 (by decide +kernel) (by decide +kernel)
theorem w_819 : Cond.methodLink "PostSharesModel" 132 (⟨"PostSharesModel", "keepsNew", "()V"⟩ : MethodName) ∈ tg := tg_m 819 (by decide +kernel) (by decide +kernel)
theorem w_823 : Cond.methodLink "PostSharesModel" 135 (⟨"PostSharesModel", "minds", "()V"⟩ : MethodName) ∈ tg := tg_m 823 (by decide +kernel) (by decide +kernel)
theorem w_827 : Cond.methodLink "PostSharesLaw" 30 (⟨"PostSharesModel", "reason", "(I)I"⟩ : MethodName) ∈ tg := tg_m 827 (by decide +kernel) (by decide +kernel)
theorem w_832 : Cond.methodLink "PostSharesLaw" 47 (⟨"PostSharesModel", "turn", "(I)I"⟩ : MethodName) ∈ tg := tg_m 832 (by decide +kernel) (by decide +kernel)
theorem w_836 : Cond.methodLink "PostSharesModel" 152 (⟨"PostSharesModel", "turnNow", "(I)I"⟩ : MethodName) ∈ tg := tg_m 836 (by decide +kernel) (by decide +kernel)
theorem w_840 : Cond.methodLink "PostSharesModel" 149 (⟨"PostSharesModel", "laysTurns", "()V"⟩ : MethodName) ∈ tg := tg_m 840 (by decide +kernel) (by decide +kernel)
theorem w_844 : Cond.methodLink "PostSharesModel" 146 (⟨"PostSharesModel", "isAheadOf", "(II)Z"⟩ : MethodName) ∈ tg := tg_m 844 (by decide +kernel) (by decide +kernel)
theorem w_848 : Cond.methodLink "PostSharesModel" 140 (⟨"PostSharesModel", "above", "(I)I"⟩ : MethodName) ∈ tg := tg_m 848 (by decide +kernel) (by decide +kernel)
theorem w_852 : Cond.methodLink "PostSharesModel" 143 (⟨"PostSharesModel", "below", "(I)I"⟩ : MethodName) ∈ tg := tg_m 852 (by decide +kernel) (by decide +kernel)
theorem w_856 : Cond.methodLink "PostSharesLaw" 35 (⟨"PostSharesModel", "lot", "(II)I"⟩ : MethodName) ∈ tg := tg_m 856 (by decide +kernel) (by decide +kernel)
theorem w_860 : Cond.methodLink "PostSharesModel" 159 (⟨"PostSharesModel", "isLot", "(I)Z"⟩ : MethodName) ∈ tg := tg_m 860 (by decide +kernel) (by decide +kernel)
theorem w_864 : Cond.methodLink "PostSharesModel" 162 (⟨"PostSharesModel", "lotIs", "(II)I"⟩ : MethodName) ∈ tg := tg_m 864 (by decide +kernel) (by decide +kernel)
theorem w_868 : Cond.methodLink "PostSharesLaw" 39 (⟨"PostSharesModel", "party", "(II)I"⟩ : MethodName) ∈ tg := tg_m 868 (by decide +kernel) (by decide +kernel)
theorem w_872 : Cond.methodLink "PostSharesModel" 174 (⟨"PostSharesModel", "isParty", "(I)Z"⟩ : MethodName) ∈ tg := tg_m 872 (by decide +kernel) (by decide +kernel)
theorem w_877 : Cond.methodLink "PostSharesModel" 179 (⟨"PostSharesModel", "partyIs", "(II)I"⟩ : MethodName) ∈ tg := tg_m 877 (by decide +kernel) (by decide +kernel)
theorem w_881 : Cond.methodLink "PostSharesModel" 165 (⟨"PostSharesModel", "sumOf", "(I)I"⟩ : MethodName) ∈ tg := tg_m 881 (by decide +kernel) (by decide +kernel)
theorem w_885 : Cond.methodLink "PostSharesModel" 155 (⟨"PostSharesModel", "worthOf", "(II)I"⟩ : MethodName) ∈ tg := tg_m 885 (by decide +kernel) (by decide +kernel)
theorem w_889 : Cond.methodLink "PostSharesModel" 168 (⟨"PostSharesModel", "turnsOf", "(II)I"⟩ : MethodName) ∈ tg := tg_m 889 (by decide +kernel) (by decide +kernel)
theorem w_893 : Cond.methodLink "PostSharesModel" 171 (⟨"PostSharesModel", "worths", "(I)I"⟩ : MethodName) ∈ tg := tg_m 893 (by decide +kernel) (by decide +kernel)
theorem w_897 : Cond.methodLink "PostSharesLaw" 43 (⟨"PostSharesModel", "worth", "(II)I"⟩ : MethodName) ∈ tg := tg_m 897 (by decide +kernel) (by decide +kernel)
theorem w_901 : Cond.methodLink "PostSharesLaw" 52 (⟨"PostSharesModel", "rates", "(III)I"⟩ : MethodName) ∈ tg := tg_m 901 (by decide +kernel) (by decide +kernel)
theorem w_906 : Cond.methodLink "PostSharesLaw" 56 (⟨"PostSharesModel", "strength", "(II)I"⟩ : MethodName) ∈ tg := tg_m 906 (by decide +kernel) (by decide +kernel)
theorem w_911 : Cond.methodLink "PostSharesLaw" 60 (⟨"PostSharesModel", "rule", "(I)I"⟩ : MethodName) ∈ tg := tg_m 911 (by decide +kernel) (by decide +kernel)
theorem w_916 : Cond.methodLink "PostSharesLaw" 64 (⟨"PostSharesModel", "binds", "(II)I"⟩ : MethodName) ∈ tg := tg_m 916 (by decide +kernel) (by decide +kernel)
theorem w_920 : Cond.methodLink "PostSharesModel" 188 (⟨"PostSharesModel", "lesser", "(II)I"⟩ : MethodName) ∈ tg := tg_m 920 (by decide +kernel) (by decide +kernel)
theorem w_923 : Cond.methodLink "PostSharesLaw" 68 (⟨"PostSharesModel", "joins", "(II)I"⟩ : MethodName) ∈ tg := tg_m 923 (by decide +kernel) (by decide +kernel)
theorem w_927 : Cond.methodLink "PostSharesLaw" 72 (⟨"PostSharesModel", "takes", "(I)I"⟩ : MethodName) ∈ tg := tg_m 927 (by decide +kernel) (by decide +kernel)
theorem w_931 : Cond.methodLink "PostSharesModel" 194 (⟨"PostSharesModel", "canTake", "(I)Z"⟩ : MethodName) ∈ tg := tg_m 931 (by decide +kernel) (by decide +kernel)
theorem w_935 : Cond.methodLink "PostSharesModel" 191 (⟨"PostSharesModel", "left", "()I"⟩ : MethodName) ∈ tg := tg_m 935 (by decide +kernel) (by decide +kernel)
theorem w_939 : Cond.methodLink "PostSharesLaw" 76 (⟨"PostSharesModel", "vetoes", "(I)I"⟩ : MethodName) ∈ tg := tg_m 939 (by decide +kernel) (by decide +kernel)
theorem w_943 : Cond.methodLink "PostSharesModel" 197 (⟨"PostSharesModel", "canVeto", "(I)Z"⟩ : MethodName) ∈ tg := tg_m 943 (by decide +kernel) (by decide +kernel)
theorem w_947 : Cond.methodLink "PostSharesLaw" 80 (⟨"PostSharesModel", "foreseen", "(I)I"⟩ : MethodName) ∈ tg := tg_m 947 (by decide +kernel) (by decide +kernel)
theorem w_951 : Cond.methodLink "PostSharesModel" 233 (⟨"PostSharesModel", "foreseenBy", "(II)I"⟩ : MethodName) ∈ tg := tg_m 951 (by decide +kernel) (by decide +kernel)
theorem w_955 : Cond.methodLink "PostSharesModel" 227 (⟨"PostSharesModel", "isTurnLeft", "()Z"⟩ : MethodName) ∈ tg := tg_m 955 (by decide +kernel) (by decide +kernel)
theorem w_959 : Cond.methodLink "PostSharesModel" 230 (⟨"PostSharesModel", "laysEnds", "(I)V"⟩ : MethodName) ∈ tg := tg_m 959 (by decide +kernel) (by decide +kernel)
theorem w_963 : Cond.methodLink "PostSharesModel" 224 (⟨"PostSharesModel", "laysWithin", "(I)V"⟩ : MethodName) ∈ tg := tg_m 963 (by decide +kernel) (by decide +kernel)
theorem w_967 : Cond.methodLink "PostSharesModel" 213 (⟨"PostSharesModel", "ones", "(I)I"⟩ : MethodName) ∈ tg := tg_m 967 (by decide +kernel) (by decide +kernel)
theorem w_970 : Cond.methodLink "PostSharesModel" 216 (⟨"PostSharesModel", "laysAsked", "(I)V"⟩ : MethodName) ∈ tg := tg_m 970 (by decide +kernel) (by decide +kernel)
theorem w_974 : Cond.methodLink "PostSharesModel" 220 (⟨"PostSharesModel", "chosen", "(IIII)I"⟩ : MethodName) ∈ tg := tg_m 974 (by decide +kernel) (by decide +kernel)
theorem w_978 : Cond.methodLink "PostSharesModel" 209 (⟨"PostSharesModel", "tries", "(IIIII)V"⟩ : MethodName) ∈ tg := tg_m 978 (by decide +kernel) (by decide +kernel)
theorem w_982 : Cond.methodLink "PostSharesModel" 203 (⟨"PostSharesModel", "at", "(II)I"⟩ : MethodName) ∈ tg := tg_m 982 (by decide +kernel) (by decide +kernel)
theorem w_985 : Cond.methodLink "PostSharesLaw" 84 (⟨"PostSharesModel", "best", "()I"⟩ : MethodName) ∈ tg := tg_m 985 (by decide +kernel) (by decide +kernel)
theorem w_989 : Cond.methodLink "PostSharesLaw" 88 (⟨"PostSharesModel", "against", "(I)I"⟩ : MethodName) ∈ tg := tg_m 989 (by decide +kernel) (by decide +kernel)
theorem w_993 : Cond.methodLink "PostSharesModel" 236 (⟨"PostSharesModel", "triesNow", "(I)V"⟩ : MethodName) ∈ tg := tg_m 993 (by decide +kernel) (by decide +kernel)
theorem w_997 : Cond.methodLink "PostSharesLaw" 92 (⟨"PostSharesModel", "taking", "(II)I"⟩ : MethodName) ∈ tg := tg_m 997 (by decide +kernel) (by decide +kernel)
theorem w_1001 : Cond.methodLink "PostSharesLaw" 96 (⟨"PostSharesModel", "course", "(I)I"⟩ : MethodName) ∈ tg := tg_m 1001 (by decide +kernel) (by decide +kernel)
theorem w_1005 : Cond.methodLink "PostSharesLaw" 100 (⟨"PostSharesModel", "sincere", "(I)I"⟩ : MethodName) ∈ tg := tg_m 1005 (by decide +kernel) (by decide +kernel)
theorem w_1009 : Cond.methodLink "PostSharesModel" 239 (⟨"PostSharesModel", "sincereOf", "(I)I"⟩ : MethodName) ∈ tg := tg_m 1009 (by decide +kernel) (by decide +kernel)
theorem w_1013 : Cond.methodLink "PostSharesLaw" 104 (⟨"PostSharesModel", "without", "(II)I"⟩ : MethodName) ∈ tg := tg_m 1013 (by decide +kernel) (by decide +kernel)
theorem w_1018 : Cond.methodLink "PostSharesLaw" 108 (⟨"PostSharesModel", "back", "()I"⟩ : MethodName) ∈ tg := tg_m 1018 (by decide +kernel) (by decide +kernel)
theorem w_1022 : Cond.methodLink "PostSharesLaw" 112 (⟨"PostSharesModel", "told", "(I)I"⟩ : MethodName) ∈ tg := tg_m 1022 (by decide +kernel) (by decide +kernel)
theorem w_1027 : Cond.methodLink "PostSharesModel" 246 (⟨"PostSharesModel", "tells", "(I)I"⟩ : MethodName) ∈ tg := tg_m 1027 (by decide +kernel) (by decide +kernel)
theorem w_1031 : Cond.methodLink "PostSharesLaw" 117 (⟨"PostSharesModel", "digest", "()J"⟩ : MethodName) ∈ tg := tg_m 1031 (by decide +kernel) (by decide +kernel)
theorem w_80 : Cond.classLink "PostSharesLaw" 7 "PostShares" ∈ tg := tg_m 80 (by decide +kernel) (by decide +kernel)
theorem w_88 : Cond.classLink "PostShares" 7 "PostShares$Text" ∈ tg := tg_m 88 (by decide +kernel) (by decide +kernel)
theorem w_124 : Cond.classLink "PostShares" 16 "PostShares$Board" ∈ tg := tg_m 124 (by decide +kernel) (by decide +kernel)
theorem w_210 : Cond.classLink "PostShares" 26 "PostShares$Past" ∈ tg := tg_m 210 (by decide +kernel) (by decide +kernel)
theorem w_216 : Cond.classLink "PostShares$Past" 9 "PostShares$Board" ∈ tg := tg_m 216 (by decide +kernel) (by decide +kernel)
theorem w_230 : Cond.classLink "PostShares" 33 "PostShares$Foresight" ∈ tg := tg_m 230 (by decide +kernel) (by decide +kernel)
theorem w_672 : Cond.classLink "PostSharesLaw" 10 "PostSharesModel" ∈ tg := tg_m 672 (by decide +kernel) (by decide +kernel)
theorem w_248 : Cond.constant "PostShares" 243 65535 ∈ tg := tg_m 248 (by decide +kernel) (by decide +kernel)
theorem w_564 : Cond.constant "java/lang/Integer" 265 1431655765 ∈ tg := tg_m 564 (by decide +kernel) (by decide +kernel)
theorem w_565 : Cond.constant "java/lang/Integer" 266 858993459 ∈ tg := tg_m 565 (by decide +kernel) (by decide +kernel)
theorem w_566 : Cond.constant "java/lang/Integer" 267 252645135 ∈ tg := tg_m 566 (by decide +kernel) (by decide +kernel)
theorem w_572 : Cond.constantLong "PostShares$Foresight" 80 70368744177663 ∈ tg := tg_m 572 (by decide +kernel) (by decide +kernel)
theorem w_578 : Cond.constantLong "PostShares$Foresight" 86 1099511627775 ∈ tg := tg_m 578 (by decide +kernel) (by decide +kernel)
theorem w_583 : Cond.constantLong "PostShares$Foresight" 55 1023 ∈ tg := tg_m 583 (by decide +kernel) (by decide +kernel)
theorem w_595 : Cond.constantLong "PostShares$Foresight" 57 7 ∈ tg := tg_m 595 (by decide +kernel) (by decide +kernel)
theorem w_657 : Cond.constantLong "PostShares" 214 2269 ∈ tg := tg_m 657 (by decide +kernel) (by decide +kernel)
theorem w_662 : Cond.constantLong "PostShares" 241 31 ∈ tg := tg_m 662 (by decide +kernel) (by decide +kernel)
theorem w_743 : Cond.constantLong "PostSharesModel" 52 127 ∈ tg := tg_m 743 (by decide +kernel) (by decide +kernel)
theorem w_783 : Cond.constantLong "PostSharesModel" 68 48 ∈ tg := tg_m 783 (by decide +kernel) (by decide +kernel)
theorem w_784 : Cond.constantLong "PostSharesModel" 109 52 ∈ tg := tg_m 784 (by decide +kernel) (by decide +kernel)
theorem w_797 : Cond.constantLong "PostSharesModel" 85 97 ∈ tg := tg_m 797 (by decide +kernel) (by decide +kernel)
theorem w_798 : Cond.constantLong "PostSharesModel" 87 108 ∈ tg := tg_m 798 (by decide +kernel) (by decide +kernel)
theorem w_810 : Cond.constantLong "PostSharesModel" 70 57 ∈ tg := tg_m 810 (by decide +kernel) (by decide +kernel)
theorem w_831 : Cond.constantLong "PostSharesModel" 138 3 ∈ tg := tg_m 831 (by decide +kernel) (by decide +kernel)
theorem w_876 : Cond.constantLong "PostSharesModel" 177 5 ∈ tg := tg_m 876 (by decide +kernel) (by decide +kernel)
theorem w_905 : Cond.constantLong "PostSharesModel" 182 99 ∈ tg := tg_m 905 (by decide +kernel) (by decide +kernel)
theorem w_910 : Cond.constantLong "PostSharesModel" 184 999 ∈ tg := tg_m 910 (by decide +kernel) (by decide +kernel)
theorem w_915 : Cond.constantLong "PostSharesModel" 186 4 ∈ tg := tg_m 915 (by decide +kernel) (by decide +kernel)
theorem w_1017 : Cond.constantLong "PostSharesModel" 242 2 ∈ tg := tg_m 1017 (by decide +kernel) (by decide +kernel)
theorem w_1026 : Cond.constantLong "PostSharesModel" 244 9 ∈ tg := tg_m 1026 (by decide +kernel) (by decide +kernel)
theorem w_1035 : Cond.constantLong "PostSharesModel" 249 2269 ∈ tg := tg_m 1035 (by decide +kernel) (by decide +kernel)
theorem w_1036 : Cond.constantLong "PostSharesModel" 251 31 ∈ tg := tg_m 1036 (by decide +kernel) (by decide +kernel)
theorem w_69 : Cond.initialized "PostSharesLaw" ∈ tg := tg_m 69 (by decide +kernel) (by decide +kernel)
theorem w_70 : Cond.initialized "PostShares" ∈ tg := tg_m 70 (by decide +kernel) (by decide +kernel)
theorem w_71 : Cond.initialized "PostShares$Text" ∈ tg := tg_m 71 (by decide +kernel) (by decide +kernel)
theorem w_72 : Cond.initialized "java/util/Arrays" ∈ tg := tg_m 72 (by decide +kernel) (by decide +kernel)
theorem w_73 : Cond.initialized "PostShares$Board" ∈ tg := tg_m 73 (by decide +kernel) (by decide +kernel)
theorem w_74 : Cond.initialized "PostShares$Past" ∈ tg := tg_m 74 (by decide +kernel) (by decide +kernel)
theorem w_75 : Cond.initialized "PostShares$Foresight" ∈ tg := tg_m 75 (by decide +kernel) (by decide +kernel)
theorem w_76 : Cond.initialized "PostSharesModel" ∈ tg := tg_m 76 (by decide +kernel) (by decide +kernel)
theorem w_77 : Cond.initialized "java/lang/System" ∈ tg := tg_m 77 (by decide +kernel) (by decide +kernel)
theorem w_78 : Cond.initialized "java/lang/Math" ∈ tg := tg_m 78 (by decide +kernel) (by decide +kernel)
theorem w_79 : Cond.initialized "java/lang/Integer" ∈ tg := tg_m 79 (by decide +kernel) (by decide +kernel)
theorem w_123 : Cond.arrayClass .int ∈ tg := tg_m 123 (by decide +kernel) (by decide +kernel)
theorem w_243 : Cond.arrayClass .long ∈ tg := tg_m 243 (by decide +kernel) (by decide +kernel)
theorem w_86 : Cond.instanceMethod (⟨"java/lang/Object", "<init>", "()V"⟩ : MethodName) ∈ tg := tg_m 86 (by decide +kernel) (by decide +kernel)
theorem w_oc : Cond.code Lib.objectInit ⟨#[0xb1]⟩ 1 none ∈ tg := tg_m 87 (by decide +kernel) (by decide +kernel)
theorem w_415 : Cond.native (⟨"java/lang/System", "arraycopy", "(Ljava/lang/Object;ILjava/lang/Object;II)V"⟩ : MethodName) ∈ tg := tg_m 415 (by decide +kernel) (by decide +kernel)
theorem w_414 : Cond.static (⟨"java/lang/System", "arraycopy", "(Ljava/lang/Object;ILjava/lang/Object;II)V"⟩ : MethodName) ∈ tg := tg_m 414 (by decide +kernel) (by decide +kernel)
theorem w_417 : Cond.static (⟨"java/lang/Math", "min", "(II)I"⟩ : MethodName) ∈ tg := tg_m 417 (by decide +kernel) (by decide +kernel)
theorem w_mmin : Cond.code Lib.Math.min.name Lib.Math.min.code 2 (some .int) ∈ tg := tg_m 418 (by decide +kernel) (by decide +kernel)
theorem w_511 : Cond.static (⟨"java/lang/Math", "max", "(II)I"⟩ : MethodName) ∈ tg := tg_m 511 (by decide +kernel) (by decide +kernel)
theorem w_mmax : Cond.code Lib.Math.max.name Lib.Math.max.code 2 (some .int) ∈ tg := tg_m 512 (by decide +kernel) (by decide +kernel)
theorem w_171 : Cond.lays "PostShares$Board" "PostShares$Board" "lots" "I" ∈ tg := tg_m 171 (by decide +kernel) (by decide +kernel)
theorem w_173 : Cond.laysFinal "PostShares$Board" "PostShares$Board" "posts" "[I" ∈ tg := tg_m 173 (by decide +kernel) (by decide +kernel)
theorem w_175 : Cond.lays "PostShares$Board" "PostShares$Board" "parties" "I" ∈ tg := tg_m 175 (by decide +kernel) (by decide +kernel)
theorem w_177 : Cond.laysFinal "PostShares$Board" "PostShares$Board" "strength" "[I" ∈ tg := tg_m 177 (by decide +kernel) (by decide +kernel)
theorem w_179 : Cond.laysFinal "PostShares$Board" "PostShares$Board" "values" "[I" ∈ tg := tg_m 179 (by decide +kernel) (by decide +kernel)
theorem w_181 : Cond.lays "PostShares$Board" "PostShares$Board" "vetoesTold" "I" ∈ tg := tg_m 181 (by decide +kernel) (by decide +kernel)
theorem w_183 : Cond.lays "PostShares$Board" "PostShares$Board" "divisors" "I" ∈ tg := tg_m 183 (by decide +kernel) (by decide +kernel)
theorem w_185 : Cond.lays "PostShares$Board" "PostShares$Board" "version" "I" ∈ tg := tg_m 185 (by decide +kernel) (by decide +kernel)
theorem w_187 : Cond.laysFinal "PostShares$Board" "PostShares$Board" "owner" "[I" ∈ tg := tg_m 187 (by decide +kernel) (by decide +kernel)
theorem w_189 : Cond.laysFinal "PostShares$Board" "PostShares$Board" "ownersBehind" "[I" ∈ tg := tg_m 189 (by decide +kernel) (by decide +kernel)
theorem w_191 : Cond.laysFinal "PostShares$Board" "PostShares$Board" "share" "[I" ∈ tg := tg_m 191 (by decide +kernel) (by decide +kernel)
theorem w_193 : Cond.laysFinal "PostShares$Board" "PostShares$Board" "asked" "[I" ∈ tg := tg_m 193 (by decide +kernel) (by decide +kernel)
theorem w_195 : Cond.lays "PostShares$Board" "PostShares$Board" "had" "I" ∈ tg := tg_m 195 (by decide +kernel) (by decide +kernel)
theorem w_197 : Cond.laysFinal "PostShares$Board" "PostShares$Board" "holder" "[I" ∈ tg := tg_m 197 (by decide +kernel) (by decide +kernel)
theorem w_199 : Cond.laysFinal "PostShares$Board" "PostShares$Board" "takenAt" "[I" ∈ tg := tg_m 199 (by decide +kernel) (by decide +kernel)
theorem w_201 : Cond.lays "PostShares$Board" "PostShares$Board" "vetoesLeft" "I" ∈ tg := tg_m 201 (by decide +kernel) (by decide +kernel)
theorem w_203 : Cond.lays "PostShares$Board" "PostShares$Board" "barred" "I" ∈ tg := tg_m 203 (by decide +kernel) (by decide +kernel)
theorem w_205 : Cond.lays "PostShares$Board" "PostShares$Board" "last" "I" ∈ tg := tg_m 205 (by decide +kernel) (by decide +kernel)
theorem w_207 : Cond.lays "PostShares$Board" "PostShares$Board" "barredBefore" "I" ∈ tg := tg_m 207 (by decide +kernel) (by decide +kernel)
theorem w_125 : Cond.instantiable "PostShares$Board" 19 ∈ tg := tg_m 125 (by decide +kernel) (by decide +kernel)
theorem w_238 : Cond.laysFinal "PostShares$Foresight" "PostShares$Foresight" "ternary" "[I" ∈ tg := tg_m 238 (by decide +kernel) (by decide +kernel)
theorem w_240 : Cond.laysFinal "PostShares$Foresight" "PostShares$Foresight" "kept" "[J" ∈ tg := tg_m 240 (by decide +kernel) (by decide +kernel)
theorem w_231 : Cond.instantiable "PostShares$Foresight" 2 ∈ tg := tg_m 231 (by decide +kernel) (by decide +kernel)
theorem w_223 : Cond.laysFinal "PostShares$Past" "PostShares$Past" "ring" "[LPostShares$Board;" ∈ tg := tg_m 223 (by decide +kernel) (by decide +kernel)
theorem w_225 : Cond.lays "PostShares$Past" "PostShares$Past" "next" "I" ∈ tg := tg_m 225 (by decide +kernel) (by decide +kernel)
theorem w_227 : Cond.lays "PostShares$Past" "PostShares$Past" "count" "I" ∈ tg := tg_m 227 (by decide +kernel) (by decide +kernel)
theorem w_211 : Cond.instantiable "PostShares$Past" 3 ∈ tg := tg_m 211 (by decide +kernel) (by decide +kernel)
theorem w_108 : Cond.laysFinal "PostShares$Text" "PostShares$Text" "bytes" "[I" ∈ tg := tg_m 108 (by decide +kernel) (by decide +kernel)
theorem w_110 : Cond.lays "PostShares$Text" "PostShares$Text" "length" "I" ∈ tg := tg_m 110 (by decide +kernel) (by decide +kernel)
theorem w_112 : Cond.laysFinal "PostShares$Text" "PostShares$Text" "reasons" "[I" ∈ tg := tg_m 112 (by decide +kernel) (by decide +kernel)
theorem w_114 : Cond.lays "PostShares$Text" "PostShares$Text" "place" "I" ∈ tg := tg_m 114 (by decide +kernel) (by decide +kernel)
theorem w_116 : Cond.lays "PostShares$Text" "PostShares$Text" "items" "I" ∈ tg := tg_m 116 (by decide +kernel) (by decide +kernel)
theorem w_118 : Cond.lays "PostShares$Text" "PostShares$Text" "part" "I" ∈ tg := tg_m 118 (by decide +kernel) (by decide +kernel)
theorem w_120 : Cond.lays "PostShares$Text" "PostShares$Text" "which" "I" ∈ tg := tg_m 120 (by decide +kernel) (by decide +kernel)
theorem w_89 : Cond.instantiable "PostShares$Text" 7 ∈ tg := tg_m 89 (by decide +kernel) (by decide +kernel)
theorem w_287 : Cond.laysFinal "PostShares" "PostShares" "text" "LPostShares$Text;" ∈ tg := tg_m 287 (by decide +kernel) (by decide +kernel)
theorem w_289 : Cond.laysFinal "PostShares" "PostShares" "now" "LPostShares$Board;" ∈ tg := tg_m 289 (by decide +kernel) (by decide +kernel)
theorem w_291 : Cond.laysFinal "PostShares" "PostShares" "draft" "LPostShares$Board;" ∈ tg := tg_m 291 (by decide +kernel) (by decide +kernel)
theorem w_293 : Cond.laysFinal "PostShares" "PostShares" "past" "LPostShares$Past;" ∈ tg := tg_m 293 (by decide +kernel) (by decide +kernel)
theorem w_295 : Cond.laysFinal "PostShares" "PostShares" "foresight" "LPostShares$Foresight;" ∈ tg := tg_m 295 (by decide +kernel) (by decide +kernel)
theorem w_297 : Cond.lays "PostShares" "PostShares" "versions" "I" ∈ tg := tg_m 297 (by decide +kernel) (by decide +kernel)
theorem w_299 : Cond.lays "PostShares" "PostShares" "bads" "I" ∈ tg := tg_m 299 (by decide +kernel) (by decide +kernel)
theorem w_301 : Cond.lays "PostShares" "PostShares" "nos" "I" ∈ tg := tg_m 301 (by decide +kernel) (by decide +kernel)
theorem w_303 : Cond.lays "PostShares" "PostShares" "fulls" "I" ∈ tg := tg_m 303 (by decide +kernel) (by decide +kernel)
theorem w_81 : Cond.instantiable "PostShares" 9 ∈ tg := tg_m 81 (by decide +kernel) (by decide +kernel)
theorem w_698 : Cond.laysFinal "PostSharesModel" "PostSharesModel" "w" "[I" ∈ tg := tg_m 698 (by decide +kernel) (by decide +kernel)
theorem w_700 : Cond.lays "PostSharesModel" "PostSharesModel" "states" "I" ∈ tg := tg_m 700 (by decide +kernel) (by decide +kernel)
theorem w_702 : Cond.laysFinal "PostSharesModel" "PostSharesModel" "refused" "[I" ∈ tg := tg_m 702 (by decide +kernel) (by decide +kernel)
theorem w_704 : Cond.laysFinal "PostSharesModel" "PostSharesModel" "text" "[I" ∈ tg := tg_m 704 (by decide +kernel) (by decide +kernel)
theorem w_706 : Cond.lays "PostSharesModel" "PostSharesModel" "letters" "I" ∈ tg := tg_m 706 (by decide +kernel) (by decide +kernel)
theorem w_708 : Cond.laysFinal "PostSharesModel" "PostSharesModel" "reasons" "[I" ∈ tg := tg_m 708 (by decide +kernel) (by decide +kernel)
theorem w_710 : Cond.lays "PostSharesModel" "PostSharesModel" "here" "I" ∈ tg := tg_m 710 (by decide +kernel) (by decide +kernel)
theorem w_712 : Cond.lays "PostSharesModel" "PostSharesModel" "items" "I" ∈ tg := tg_m 712 (by decide +kernel) (by decide +kernel)
theorem w_714 : Cond.lays "PostSharesModel" "PostSharesModel" "part" "I" ∈ tg := tg_m 714 (by decide +kernel) (by decide +kernel)
theorem w_716 : Cond.lays "PostSharesModel" "PostSharesModel" "which" "I" ∈ tg := tg_m 716 (by decide +kernel) (by decide +kernel)
theorem w_718 : Cond.lays "PostSharesModel" "PostSharesModel" "taken" "I" ∈ tg := tg_m 718 (by decide +kernel) (by decide +kernel)
theorem w_720 : Cond.lays "PostSharesModel" "PostSharesModel" "number" "I" ∈ tg := tg_m 720 (by decide +kernel) (by decide +kernel)
theorem w_722 : Cond.laysFinal "PostSharesModel" "PostSharesModel" "turnOf" "[I" ∈ tg := tg_m 722 (by decide +kernel) (by decide +kernel)
theorem w_724 : Cond.laysFinal "PostSharesModel" "PostSharesModel" "had" "[I" ∈ tg := tg_m 724 (by decide +kernel) (by decide +kernel)
theorem w_726 : Cond.laysFinal "PostSharesModel" "PostSharesModel" "ends" "[I" ∈ tg := tg_m 726 (by decide +kernel) (by decide +kernel)
theorem w_728 : Cond.laysFinal "PostSharesModel" "PostSharesModel" "within" "[I" ∈ tg := tg_m 728 (by decide +kernel) (by decide +kernel)
theorem w_730 : Cond.laysFinal "PostSharesModel" "PostSharesModel" "asked" "[I" ∈ tg := tg_m 730 (by decide +kernel) (by decide +kernel)
theorem w_732 : Cond.lays "PostSharesModel" "PostSharesModel" "askedMany" "I" ∈ tg := tg_m 732 (by decide +kernel) (by decide +kernel)
theorem w_734 : Cond.laysFinal "PostSharesModel" "PostSharesModel" "then" "[I" ∈ tg := tg_m 734 (by decide +kernel) (by decide +kernel)
theorem w_736 : Cond.lays "PostSharesModel" "PostSharesModel" "vetoer" "I" ∈ tg := tg_m 736 (by decide +kernel) (by decide +kernel)
theorem w_673 : Cond.instantiable "PostSharesModel" 20 ∈ tg := tg_m 673 (by decide +kernel) (by decide +kernel)
theorem w_128 : Cond.code M0.1 M0.2.1 M0.2.2.1 M0.2.2.2 ∈ tg := tg_m 128 (by decide +kernel) (by decide +kernel)
theorem w_127 : Cond.instanceMethod (⟨"PostShares$Board", "<init>", "()V"⟩ : MethodName) ∈ tg := tg_m 127 (by decide +kernel) (by decide +kernel)
theorem w_431 : Cond.code M1.1 M1.2.1 M1.2.2.1 M1.2.2.2 ∈ tg := tg_m 431 (by decide +kernel) (by decide +kernel)
theorem w_429 : Cond.instanceMethod (⟨"PostShares$Board", "hasLot", "(I)Z"⟩ : MethodName) ∈ tg := tg_m 429 (by decide +kernel) (by decide +kernel)
theorem w_430 : Cond.selects "PostShares$Board" (⟨"PostShares$Board", "hasLot", "(I)Z"⟩ : MethodName) (⟨"PostShares$Board", "hasLot", "(I)Z"⟩ : MethodName) ∈ tg := tg_m 430 (by decide +kernel) (by decide +kernel)
theorem w_440 : Cond.code M2.1 M2.2.1 M2.2.2.1 M2.2.2.2 ∈ tg := tg_m 440 (by decide +kernel) (by decide +kernel)
theorem w_438 : Cond.instanceMethod (⟨"PostShares$Board", "hasParty", "(I)Z"⟩ : MethodName) ∈ tg := tg_m 438 (by decide +kernel) (by decide +kernel)
theorem w_439 : Cond.selects "PostShares$Board" (⟨"PostShares$Board", "hasParty", "(I)Z"⟩ : MethodName) (⟨"PostShares$Board", "hasParty", "(I)Z"⟩ : MethodName) ∈ tg := tg_m 439 (by decide +kernel) (by decide +kernel)
theorem w_448 : Cond.code M3.1 M3.2.1 M3.2.2.1 M3.2.2.2 ∈ tg := tg_m 448 (by decide +kernel) (by decide +kernel)
theorem w_446 : Cond.instanceMethod (⟨"PostShares$Board", "value", "(II)I"⟩ : MethodName) ∈ tg := tg_m 446 (by decide +kernel) (by decide +kernel)
theorem w_447 : Cond.selects "PostShares$Board" (⟨"PostShares$Board", "value", "(II)I"⟩ : MethodName) (⟨"PostShares$Board", "value", "(II)I"⟩ : MethodName) ∈ tg := tg_m 447 (by decide +kernel) (by decide +kernel)
theorem w_396 : Cond.code M4.1 M4.2.1 M4.2.2.1 M4.2.2.2 ∈ tg := tg_m 396 (by decide +kernel) (by decide +kernel)
theorem w_394 : Cond.instanceMethod (⟨"PostShares$Board", "setValue", "(III)V"⟩ : MethodName) ∈ tg := tg_m 394 (by decide +kernel) (by decide +kernel)
theorem w_395 : Cond.selects "PostShares$Board" (⟨"PostShares$Board", "setValue", "(III)V"⟩ : MethodName) (⟨"PostShares$Board", "setValue", "(III)V"⟩ : MethodName) ∈ tg := tg_m 395 (by decide +kernel) (by decide +kernel)
theorem w_261 : Cond.code M5.1 M5.2.1 M5.2.2.1 M5.2.2.2 ∈ tg := tg_m 261 (by decide +kernel) (by decide +kernel)
theorem w_259 : Cond.instanceMethod (⟨"PostShares$Board", "turnsInAll", "()I"⟩ : MethodName) ∈ tg := tg_m 259 (by decide +kernel) (by decide +kernel)
theorem w_260 : Cond.selects "PostShares$Board" (⟨"PostShares$Board", "turnsInAll", "()I"⟩ : MethodName) (⟨"PostShares$Board", "turnsInAll", "()I"⟩ : MethodName) ∈ tg := tg_m 260 (by decide +kernel) (by decide +kernel)
theorem w_456 : Cond.code M6.1 M6.2.1 M6.2.2.1 M6.2.2.2 ∈ tg := tg_m 456 (by decide +kernel) (by decide +kernel)
theorem w_454 : Cond.instanceMethod (⟨"PostShares$Board", "ownerAt", "(I)I"⟩ : MethodName) ∈ tg := tg_m 454 (by decide +kernel) (by decide +kernel)
theorem w_455 : Cond.selects "PostShares$Board" (⟨"PostShares$Board", "ownerAt", "(I)I"⟩ : MethodName) (⟨"PostShares$Board", "ownerAt", "(I)I"⟩ : MethodName) ∈ tg := tg_m 455 (by decide +kernel) (by decide +kernel)
theorem w_452 : Cond.code M7.1 M7.2.1 M7.2.2.1 M7.2.2.2 ∈ tg := tg_m 452 (by decide +kernel) (by decide +kernel)
theorem w_450 : Cond.instanceMethod (⟨"PostShares$Board", "turnsHadBy", "(I)I"⟩ : MethodName) ∈ tg := tg_m 450 (by decide +kernel) (by decide +kernel)
theorem w_451 : Cond.selects "PostShares$Board" (⟨"PostShares$Board", "turnsHadBy", "(I)I"⟩ : MethodName) (⟨"PostShares$Board", "turnsHadBy", "(I)I"⟩ : MethodName) ∈ tg := tg_m 451 (by decide +kernel) (by decide +kernel)
theorem w_444 : Cond.code M8.1 M8.2.1 M8.2.2.1 M8.2.2.2 ∈ tg := tg_m 444 (by decide +kernel) (by decide +kernel)
theorem w_442 : Cond.instanceMethod (⟨"PostShares$Board", "sumOf", "(I)I"⟩ : MethodName) ∈ tg := tg_m 442 (by decide +kernel) (by decide +kernel)
theorem w_443 : Cond.selects "PostShares$Board" (⟨"PostShares$Board", "sumOf", "(I)I"⟩ : MethodName) (⟨"PostShares$Board", "sumOf", "(I)I"⟩ : MethodName) ∈ tg := tg_m 443 (by decide +kernel) (by decide +kernel)
theorem w_460 : Cond.code M9.1 M9.2.1 M9.2.2.1 M9.2.2.2 ∈ tg := tg_m 460 (by decide +kernel) (by decide +kernel)
theorem w_458 : Cond.instanceMethod (⟨"PostShares$Board", "allWorth", "(I)I"⟩ : MethodName) ∈ tg := tg_m 458 (by decide +kernel) (by decide +kernel)
theorem w_459 : Cond.selects "PostShares$Board" (⟨"PostShares$Board", "allWorth", "(I)I"⟩ : MethodName) (⟨"PostShares$Board", "allWorth", "(I)I"⟩ : MethodName) ∈ tg := tg_m 459 (by decide +kernel) (by decide +kernel)
theorem w_361 : Cond.code M10.1 M10.2.1 M10.2.2.1 M10.2.2.2 ∈ tg := tg_m 361 (by decide +kernel) (by decide +kernel)
theorem w_359 : Cond.instanceMethod (⟨"PostShares$Board", "allPosts", "()I"⟩ : MethodName) ∈ tg := tg_m 359 (by decide +kernel) (by decide +kernel)
theorem w_360 : Cond.selects "PostShares$Board" (⟨"PostShares$Board", "allPosts", "()I"⟩ : MethodName) (⟨"PostShares$Board", "allPosts", "()I"⟩ : MethodName) ∈ tg := tg_m 360 (by decide +kernel) (by decide +kernel)
theorem w_542 : Cond.code M11.1 M11.2.1 M11.2.2.1 M11.2.2.2 ∈ tg := tg_m 542 (by decide +kernel) (by decide +kernel)
theorem w_540 : Cond.instanceMethod (⟨"PostShares$Board", "freeLots", "()I"⟩ : MethodName) ∈ tg := tg_m 540 (by decide +kernel) (by decide +kernel)
theorem w_541 : Cond.selects "PostShares$Board" (⟨"PostShares$Board", "freeLots", "()I"⟩ : MethodName) (⟨"PostShares$Board", "freeLots", "()I"⟩ : MethodName) ∈ tg := tg_m 541 (by decide +kernel) (by decide +kernel)
theorem w_337 : Cond.code M12.1 M12.2.1 M12.2.2.1 M12.2.2.2 ∈ tg := tg_m 337 (by decide +kernel) (by decide +kernel)
theorem w_335 : Cond.instanceMethod (⟨"PostShares$Board", "tellNothing", "()V"⟩ : MethodName) ∈ tg := tg_m 335 (by decide +kernel) (by decide +kernel)
theorem w_336 : Cond.selects "PostShares$Board" (⟨"PostShares$Board", "tellNothing", "()V"⟩ : MethodName) (⟨"PostShares$Board", "tellNothing", "()V"⟩ : MethodName) ∈ tg := tg_m 336 (by decide +kernel) (by decide +kernel)
theorem w_368 : Cond.code M13.1 M13.2.1 M13.2.2.1 M13.2.2.2 ∈ tg := tg_m 368 (by decide +kernel) (by decide +kernel)
theorem w_366 : Cond.instanceMethod (⟨"PostShares$Board", "addLot", "(I)V"⟩ : MethodName) ∈ tg := tg_m 366 (by decide +kernel) (by decide +kernel)
theorem w_367 : Cond.selects "PostShares$Board" (⟨"PostShares$Board", "addLot", "(I)V"⟩ : MethodName) (⟨"PostShares$Board", "addLot", "(I)V"⟩ : MethodName) ∈ tg := tg_m 367 (by decide +kernel) (by decide +kernel)
theorem w_400 : Cond.code M14.1 M14.2.1 M14.2.2.1 M14.2.2.2 ∈ tg := tg_m 400 (by decide +kernel) (by decide +kernel)
theorem w_398 : Cond.instanceMethod (⟨"PostShares$Board", "addParty", "(Z)V"⟩ : MethodName) ∈ tg := tg_m 398 (by decide +kernel) (by decide +kernel)
theorem w_399 : Cond.selects "PostShares$Board" (⟨"PostShares$Board", "addParty", "(Z)V"⟩ : MethodName) (⟨"PostShares$Board", "addParty", "(Z)V"⟩ : MethodName) ∈ tg := tg_m 399 (by decide +kernel) (by decide +kernel)
theorem w_495 : Cond.code M15.1 M15.2.1 M15.2.2.1 M15.2.2.2 ∈ tg := tg_m 495 (by decide +kernel) (by decide +kernel)
theorem w_493 : Cond.instanceMethod (⟨"PostShares$Board", "bindLots", "(II)V"⟩ : MethodName) ∈ tg := tg_m 493 (by decide +kernel) (by decide +kernel)
theorem w_494 : Cond.selects "PostShares$Board" (⟨"PostShares$Board", "bindLots", "(II)V"⟩ : MethodName) (⟨"PostShares$Board", "bindLots", "(II)V"⟩ : MethodName) ∈ tg := tg_m 494 (by decide +kernel) (by decide +kernel)
theorem w_501 : Cond.code M16.1 M16.2.1 M16.2.2.1 M16.2.2.2 ∈ tg := tg_m 501 (by decide +kernel) (by decide +kernel)
theorem w_500 : Cond.instanceMethod (⟨"PostShares$Board", "dropLot", "(I)V"⟩ : MethodName) ∈ tg := tg_m 500 (by decide +kernel) (by decide +kernel)
theorem w_20 : Cond.selects "PostShares$Board" (⟨"PostShares$Board", "dropLot", "(I)V"⟩ : MethodName) (⟨"PostShares$Board", "dropLot", "(I)V"⟩ : MethodName) ∈ tg := tg_m 20 (by decide +kernel) (by decide +kernel)
theorem w_509 : Cond.code M17.1 M17.2.1 M17.2.2.1 M17.2.2.2 ∈ tg := tg_m 509 (by decide +kernel) (by decide +kernel)
theorem w_507 : Cond.instanceMethod (⟨"PostShares$Board", "joinParties", "(II)V"⟩ : MethodName) ∈ tg := tg_m 507 (by decide +kernel) (by decide +kernel)
theorem w_508 : Cond.selects "PostShares$Board" (⟨"PostShares$Board", "joinParties", "(II)V"⟩ : MethodName) (⟨"PostShares$Board", "joinParties", "(II)V"⟩ : MethodName) ∈ tg := tg_m 508 (by decide +kernel) (by decide +kernel)
theorem w_517 : Cond.code M18.1 M18.2.1 M18.2.2.1 M18.2.2.2 ∈ tg := tg_m 517 (by decide +kernel) (by decide +kernel)
theorem w_516 : Cond.instanceMethod (⟨"PostShares$Board", "dropParty", "(I)V"⟩ : MethodName) ∈ tg := tg_m 516 (by decide +kernel) (by decide +kernel)
theorem w_21 : Cond.selects "PostShares$Board" (⟨"PostShares$Board", "dropParty", "(I)V"⟩ : MethodName) (⟨"PostShares$Board", "dropParty", "(I)V"⟩ : MethodName) ∈ tg := tg_m 21 (by decide +kernel) (by decide +kernel)
theorem w_252 : Cond.code M19.1 M19.2.1 M19.2.2.1 M19.2.2.2 ∈ tg := tg_m 252 (by decide +kernel) (by decide +kernel)
theorem w_250 : Cond.instanceMethod (⟨"PostShares$Board", "start", "(I)V"⟩ : MethodName) ∈ tg := tg_m 250 (by decide +kernel) (by decide +kernel)
theorem w_251 : Cond.selects "PostShares$Board" (⟨"PostShares$Board", "start", "(I)V"⟩ : MethodName) (⟨"PostShares$Board", "start", "(I)V"⟩ : MethodName) ∈ tg := tg_m 251 (by decide +kernel) (by decide +kernel)
theorem w_257 : Cond.code M20.1 M20.2.1 M20.2.2.1 M20.2.2.2 ∈ tg := tg_m 257 (by decide +kernel) (by decide +kernel)
theorem w_256 : Cond.instanceMethod (⟨"PostShares$Board", "dealTurns", "()V"⟩ : MethodName) ∈ tg := tg_m 256 (by decide +kernel) (by decide +kernel)
theorem w_1 : Cond.selects "PostShares$Board" (⟨"PostShares$Board", "dealTurns", "()V"⟩ : MethodName) (⟨"PostShares$Board", "dealTurns", "()V"⟩ : MethodName) ∈ tg := tg_m 1 (by decide +kernel) (by decide +kernel)
theorem w_273 : Cond.code M21.1 M21.2.1 M21.2.2.1 M21.2.2.2 ∈ tg := tg_m 273 (by decide +kernel) (by decide +kernel)
theorem w_272 : Cond.instanceMethod (⟨"PostShares$Board", "lookBehindTurns", "()V"⟩ : MethodName) ∈ tg := tg_m 272 (by decide +kernel) (by decide +kernel)
theorem w_4 : Cond.selects "PostShares$Board" (⟨"PostShares$Board", "lookBehindTurns", "()V"⟩ : MethodName) (⟨"PostShares$Board", "lookBehindTurns", "()V"⟩ : MethodName) ∈ tg := tg_m 4 (by decide +kernel) (by decide +kernel)
theorem w_265 : Cond.code M22.1 M22.2.1 M22.2.2.1 M22.2.2.2 ∈ tg := tg_m 265 (by decide +kernel) (by decide +kernel)
theorem w_264 : Cond.instanceMethod (⟨"PostShares$Board", "comesAhead", "(II)Z"⟩ : MethodName) ∈ tg := tg_m 264 (by decide +kernel) (by decide +kernel)
theorem w_2 : Cond.selects "PostShares$Board" (⟨"PostShares$Board", "comesAhead", "(II)Z"⟩ : MethodName) (⟨"PostShares$Board", "comesAhead", "(II)Z"⟩ : MethodName) ∈ tg := tg_m 2 (by decide +kernel) (by decide +kernel)
theorem w_269 : Cond.code M23.1 M23.2.1 M23.2.2.1 M23.2.2.2 ∈ tg := tg_m 269 (by decide +kernel) (by decide +kernel)
theorem w_268 : Cond.instanceMethod (⟨"PostShares$Board", "divisor", "(I)I"⟩ : MethodName) ∈ tg := tg_m 268 (by decide +kernel) (by decide +kernel)
theorem w_3 : Cond.selects "PostShares$Board" (⟨"PostShares$Board", "divisor", "(I)I"⟩ : MethodName) (⟨"PostShares$Board", "divisor", "(I)I"⟩ : MethodName) ∈ tg := tg_m 3 (by decide +kernel) (by decide +kernel)
theorem w_277 : Cond.code M24.1 M24.2.1 M24.2.2.1 M24.2.2.2 ∈ tg := tg_m 277 (by decide +kernel) (by decide +kernel)
theorem w_276 : Cond.instanceMethod (⟨"PostShares$Board", "rankAsked", "()V"⟩ : MethodName) ∈ tg := tg_m 276 (by decide +kernel) (by decide +kernel)
theorem w_5 : Cond.selects "PostShares$Board" (⟨"PostShares$Board", "rankAsked", "()V"⟩ : MethodName) (⟨"PostShares$Board", "rankAsked", "()V"⟩ : MethodName) ∈ tg := tg_m 5 (by decide +kernel) (by decide +kernel)
theorem w_525 : Cond.code M25.1 M25.2.1 M25.2.2.1 M25.2.2.2 ∈ tg := tg_m 525 (by decide +kernel) (by decide +kernel)
theorem w_523 : Cond.instanceMethod (⟨"PostShares$Board", "canTake", "(I)Z"⟩ : MethodName) ∈ tg := tg_m 523 (by decide +kernel) (by decide +kernel)
theorem w_524 : Cond.selects "PostShares$Board" (⟨"PostShares$Board", "canTake", "(I)Z"⟩ : MethodName) (⟨"PostShares$Board", "canTake", "(I)Z"⟩ : MethodName) ∈ tg := tg_m 524 (by decide +kernel) (by decide +kernel)
theorem w_529 : Cond.code M26.1 M26.2.1 M26.2.2.1 M26.2.2.2 ∈ tg := tg_m 529 (by decide +kernel) (by decide +kernel)
theorem w_527 : Cond.instanceMethod (⟨"PostShares$Board", "take", "(I)I"⟩ : MethodName) ∈ tg := tg_m 527 (by decide +kernel) (by decide +kernel)
theorem w_528 : Cond.selects "PostShares$Board" (⟨"PostShares$Board", "take", "(I)I"⟩ : MethodName) (⟨"PostShares$Board", "take", "(I)I"⟩ : MethodName) ∈ tg := tg_m 528 (by decide +kernel) (by decide +kernel)
theorem w_537 : Cond.code M27.1 M27.2.1 M27.2.2.1 M27.2.2.2 ∈ tg := tg_m 537 (by decide +kernel) (by decide +kernel)
theorem w_535 : Cond.instanceMethod (⟨"PostShares$Board", "canVeto", "(I)Z"⟩ : MethodName) ∈ tg := tg_m 535 (by decide +kernel) (by decide +kernel)
theorem w_536 : Cond.selects "PostShares$Board" (⟨"PostShares$Board", "canVeto", "(I)Z"⟩ : MethodName) (⟨"PostShares$Board", "canVeto", "(I)Z"⟩ : MethodName) ∈ tg := tg_m 536 (by decide +kernel) (by decide +kernel)
theorem w_546 : Cond.code M28.1 M28.2.1 M28.2.2.1 M28.2.2.2 ∈ tg := tg_m 546 (by decide +kernel) (by decide +kernel)
theorem w_544 : Cond.instanceMethod (⟨"PostShares$Board", "veto", "(I)I"⟩ : MethodName) ∈ tg := tg_m 544 (by decide +kernel) (by decide +kernel)
theorem w_545 : Cond.selects "PostShares$Board" (⟨"PostShares$Board", "veto", "(I)I"⟩ : MethodName) (⟨"PostShares$Board", "veto", "(I)I"⟩ : MethodName) ∈ tg := tg_m 545 (by decide +kernel) (by decide +kernel)
theorem w_630 : Cond.code M29.1 M29.2.1 M29.2.2.1 M29.2.2.2 ∈ tg := tg_m 630 (by decide +kernel) (by decide +kernel)
theorem w_628 : Cond.instanceMethod (⟨"PostShares$Board", "sincereSum", "(I)I"⟩ : MethodName) ∈ tg := tg_m 628 (by decide +kernel) (by decide +kernel)
theorem w_629 : Cond.selects "PostShares$Board" (⟨"PostShares$Board", "sincereSum", "(I)I"⟩ : MethodName) (⟨"PostShares$Board", "sincereSum", "(I)I"⟩ : MethodName) ∈ tg := tg_m 629 (by decide +kernel) (by decide +kernel)
theorem w_635 : Cond.code M30.1 M30.2.1 M30.2.2.1 M30.2.2.2 ∈ tg := tg_m 635 (by decide +kernel) (by decide +kernel)
theorem w_634 : Cond.instanceMethod (⟨"PostShares$Board", "dearest", "(II)I"⟩ : MethodName) ∈ tg := tg_m 634 (by decide +kernel) (by decide +kernel)
theorem w_25 : Cond.selects "PostShares$Board" (⟨"PostShares$Board", "dearest", "(II)I"⟩ : MethodName) (⟨"PostShares$Board", "dearest", "(II)I"⟩ : MethodName) ∈ tg := tg_m 25 (by decide +kernel) (by decide +kernel)
theorem w_412 : Cond.code M31.1 M31.2.1 M31.2.2.1 M31.2.2.2 ∈ tg := tg_m 412 (by decide +kernel) (by decide +kernel)
theorem w_410 : Cond.instanceMethod (⟨"PostShares$Board", "copy", "(LPostShares$Board;)V"⟩ : MethodName) ∈ tg := tg_m 410 (by decide +kernel) (by decide +kernel)
theorem w_411 : Cond.selects "PostShares$Board" (⟨"PostShares$Board", "copy", "(LPostShares$Board;)V"⟩ : MethodName) (⟨"PostShares$Board", "copy", "(LPostShares$Board;)V"⟩ : MethodName) ∈ tg := tg_m 411 (by decide +kernel) (by decide +kernel)
theorem w_234 : Cond.code M32.1 M32.2.1 M32.2.2.1 M32.2.2.2 ∈ tg := tg_m 234 (by decide +kernel) (by decide +kernel)
theorem w_233 : Cond.instanceMethod (⟨"PostShares$Foresight", "<init>", "()V"⟩ : MethodName) ∈ tg := tg_m 233 (by decide +kernel) (by decide +kernel)
theorem w_554 : Cond.code M33.1 M33.2.1 M33.2.2.1 M33.2.2.2 ∈ tg := tg_m 554 (by decide +kernel) (by decide +kernel)
theorem w_552 : Cond.instanceMethod (⟨"PostShares$Foresight", "sumInTheEnd", "(LPostShares$Board;II)I"⟩ : MethodName) ∈ tg := tg_m 552 (by decide +kernel) (by decide +kernel)
theorem w_553 : Cond.selects "PostShares$Foresight" (⟨"PostShares$Foresight", "sumInTheEnd", "(LPostShares$Board;II)I"⟩ : MethodName) (⟨"PostShares$Foresight", "sumInTheEnd", "(LPostShares$Board;II)I"⟩ : MethodName) ∈ tg := tg_m 553 (by decide +kernel) (by decide +kernel)
theorem w_591 : Cond.code M34.1 M34.2.1 M34.2.2.1 M34.2.2.2 ∈ tg := tg_m 591 (by decide +kernel) (by decide +kernel)
theorem w_589 : Cond.instanceMethod (⟨"PostShares$Foresight", "lotTaken", "(LPostShares$Board;)I"⟩ : MethodName) ∈ tg := tg_m 589 (by decide +kernel) (by decide +kernel)
theorem w_590 : Cond.selects "PostShares$Foresight" (⟨"PostShares$Foresight", "lotTaken", "(LPostShares$Board;)I"⟩ : MethodName) (⟨"PostShares$Foresight", "lotTaken", "(LPostShares$Board;)I"⟩ : MethodName) ∈ tg := tg_m 590 (by decide +kernel) (by decide +kernel)
theorem w_603 : Cond.code M35.1 M35.2.1 M35.2.2.1 M35.2.2.2 ∈ tg := tg_m 603 (by decide +kernel) (by decide +kernel)
theorem w_601 : Cond.instanceMethod (⟨"PostShares$Foresight", "vetoerIf", "(LPostShares$Board;I)I"⟩ : MethodName) ∈ tg := tg_m 601 (by decide +kernel) (by decide +kernel)
theorem w_602 : Cond.selects "PostShares$Foresight" (⟨"PostShares$Foresight", "vetoerIf", "(LPostShares$Board;I)I"⟩ : MethodName) (⟨"PostShares$Foresight", "vetoerIf", "(LPostShares$Board;I)I"⟩ : MethodName) ∈ tg := tg_m 602 (by decide +kernel) (by decide +kernel)
theorem w_614 : Cond.code M36.1 M36.2.1 M36.2.2.1 M36.2.2.2 ∈ tg := tg_m 614 (by decide +kernel) (by decide +kernel)
theorem w_612 : Cond.instanceMethod (⟨"PostShares$Foresight", "sumInTheEndIf", "(LPostShares$Board;II)I"⟩ : MethodName) ∈ tg := tg_m 612 (by decide +kernel) (by decide +kernel)
theorem w_613 : Cond.selects "PostShares$Foresight" (⟨"PostShares$Foresight", "sumInTheEndIf", "(LPostShares$Board;II)I"⟩ : MethodName) (⟨"PostShares$Foresight", "sumInTheEndIf", "(LPostShares$Board;II)I"⟩ : MethodName) ∈ tg := tg_m 613 (by decide +kernel) (by decide +kernel)
theorem w_582 : Cond.code M37.1 M37.2.1 M37.2.2.1 M37.2.2.2 ∈ tg := tg_m 582 (by decide +kernel) (by decide +kernel)
theorem w_581 : Cond.static (⟨"PostShares$Foresight", "gainOf", "(JI)I"⟩ : MethodName) ∈ tg := tg_m 581 (by decide +kernel) (by decide +kernel)
theorem w_606 : Cond.code M38.1 M38.2.1 M38.2.2.1 M38.2.2.2 ∈ tg := tg_m 606 (by decide +kernel) (by decide +kernel)
theorem w_605 : Cond.static (⟨"PostShares$Foresight", "vetoerOf", "(J)I"⟩ : MethodName) ∈ tg := tg_m 605 (by decide +kernel) (by decide +kernel)
theorem w_594 : Cond.code M39.1 M39.2.1 M39.2.2.1 M39.2.2.2 ∈ tg := tg_m 594 (by decide +kernel) (by decide +kernel)
theorem w_593 : Cond.static (⟨"PostShares$Foresight", "lotOf", "(J)I"⟩ : MethodName) ∈ tg := tg_m 593 (by decide +kernel) (by decide +kernel)
theorem w_571 : Cond.code M40.1 M40.2.1 M40.2.2.1 M40.2.2.2 ∈ tg := tg_m 571 (by decide +kernel) (by decide +kernel)
theorem w_570 : Cond.instanceMethod (⟨"PostShares$Foresight", "caseOf", "(III)I"⟩ : MethodName) ∈ tg := tg_m 570 (by decide +kernel) (by decide +kernel)
theorem w_23 : Cond.selects "PostShares$Foresight" (⟨"PostShares$Foresight", "caseOf", "(III)I"⟩ : MethodName) (⟨"PostShares$Foresight", "caseOf", "(III)I"⟩ : MethodName) ∈ tg := tg_m 23 (by decide +kernel) (by decide +kernel)
theorem w_560 : Cond.code M41.1 M41.2.1 M41.2.2.1 M41.2.2.2 ∈ tg := tg_m 560 (by decide +kernel) (by decide +kernel)
theorem w_559 : Cond.instanceMethod (⟨"PostShares$Foresight", "outcome", "(LPostShares$Board;IIII)J"⟩ : MethodName) ∈ tg := tg_m 559 (by decide +kernel) (by decide +kernel)
theorem w_22 : Cond.selects "PostShares$Foresight" (⟨"PostShares$Foresight", "outcome", "(LPostShares$Board;IIII)J"⟩ : MethodName) (⟨"PostShares$Foresight", "outcome", "(LPostShares$Board;IIII)J"⟩ : MethodName) ∈ tg := tg_m 22 (by decide +kernel) (by decide +kernel)
theorem w_577 : Cond.code M42.1 M42.2.1 M42.2.2.1 M42.2.2.2 ∈ tg := tg_m 577 (by decide +kernel) (by decide +kernel)
theorem w_576 : Cond.instanceMethod (⟨"PostShares$Foresight", "ifTaken", "(LPostShares$Board;IIIII)J"⟩ : MethodName) ∈ tg := tg_m 576 (by decide +kernel) (by decide +kernel)
theorem w_24 : Cond.selects "PostShares$Foresight" (⟨"PostShares$Foresight", "ifTaken", "(LPostShares$Board;IIIII)J"⟩ : MethodName) (⟨"PostShares$Foresight", "ifTaken", "(LPostShares$Board;IIIII)J"⟩ : MethodName) ∈ tg := tg_m 24 (by decide +kernel) (by decide +kernel)
theorem w_622 : Cond.code M43.1 M43.2.1 M43.2.2.1 M43.2.2.2 ∈ tg := tg_m 622 (by decide +kernel) (by decide +kernel)
theorem w_620 : Cond.instanceMethod (⟨"PostShares$Foresight", "thing", "(LPostShares$Board;I)I"⟩ : MethodName) ∈ tg := tg_m 620 (by decide +kernel) (by decide +kernel)
theorem w_621 : Cond.selects "PostShares$Foresight" (⟨"PostShares$Foresight", "thing", "(LPostShares$Board;I)I"⟩ : MethodName) (⟨"PostShares$Foresight", "thing", "(LPostShares$Board;I)I"⟩ : MethodName) ∈ tg := tg_m 621 (by decide +kernel) (by decide +kernel)
theorem w_214 : Cond.code M44.1 M44.2.1 M44.2.2.1 M44.2.2.2 ∈ tg := tg_m 214 (by decide +kernel) (by decide +kernel)
theorem w_213 : Cond.instanceMethod (⟨"PostShares$Past", "<init>", "()V"⟩ : MethodName) ∈ tg := tg_m 213 (by decide +kernel) (by decide +kernel)
theorem w_408 : Cond.code M45.1 M45.2.1 M45.2.2.1 M45.2.2.2 ∈ tg := tg_m 408 (by decide +kernel) (by decide +kernel)
theorem w_406 : Cond.instanceMethod (⟨"PostShares$Past", "keep", "(LPostShares$Board;)V"⟩ : MethodName) ∈ tg := tg_m 406 (by decide +kernel) (by decide +kernel)
theorem w_407 : Cond.selects "PostShares$Past" (⟨"PostShares$Past", "keep", "(LPostShares$Board;)V"⟩ : MethodName) (⟨"PostShares$Past", "keep", "(LPostShares$Board;)V"⟩ : MethodName) ∈ tg := tg_m 407 (by decide +kernel) (by decide +kernel)
theorem w_647 : Cond.code M46.1 M46.2.1 M46.2.2.1 M46.2.2.2 ∈ tg := tg_m 647 (by decide +kernel) (by decide +kernel)
theorem w_645 : Cond.instanceMethod (⟨"PostShares$Past", "restore", "(LPostShares$Board;)V"⟩ : MethodName) ∈ tg := tg_m 645 (by decide +kernel) (by decide +kernel)
theorem w_646 : Cond.selects "PostShares$Past" (⟨"PostShares$Past", "restore", "(LPostShares$Board;)V"⟩ : MethodName) (⟨"PostShares$Past", "restore", "(LPostShares$Board;)V"⟩ : MethodName) ∈ tg := tg_m 646 (by decide +kernel) (by decide +kernel)
theorem w_92 : Cond.code M47.1 M47.2.1 M47.2.2.1 M47.2.2.2 ∈ tg := tg_m 92 (by decide +kernel) (by decide +kernel)
theorem w_91 : Cond.instanceMethod (⟨"PostShares$Text", "<init>", "()V"⟩ : MethodName) ∈ tg := tg_m 91 (by decide +kernel) (by decide +kernel)
theorem w_321 : Cond.code M48.1 M48.2.1 M48.2.2.1 M48.2.2.2 ∈ tg := tg_m 321 (by decide +kernel) (by decide +kernel)
theorem w_319 : Cond.instanceMethod (⟨"PostShares$Text", "add", "(I)I"⟩ : MethodName) ∈ tg := tg_m 319 (by decide +kernel) (by decide +kernel)
theorem w_320 : Cond.selects "PostShares$Text" (⟨"PostShares$Text", "add", "(I)I"⟩ : MethodName) (⟨"PostShares$Text", "add", "(I)I"⟩ : MethodName) ∈ tg := tg_m 320 (by decide +kernel) (by decide +kernel)
theorem w_329 : Cond.code M49.1 M49.2.1 M49.2.2.1 M49.2.2.2 ∈ tg := tg_m 329 (by decide +kernel) (by decide +kernel)
theorem w_327 : Cond.instanceMethod (⟨"PostShares$Text", "wipe", "()I"⟩ : MethodName) ∈ tg := tg_m 327 (by decide +kernel) (by decide +kernel)
theorem w_328 : Cond.selects "PostShares$Text" (⟨"PostShares$Text", "wipe", "()I"⟩ : MethodName) (⟨"PostShares$Text", "wipe", "()I"⟩ : MethodName) ∈ tg := tg_m 328 (by decide +kernel) (by decide +kernel)
theorem w_341 : Cond.code M50.1 M50.2.1 M50.2.2.1 M50.2.2.2 ∈ tg := tg_m 341 (by decide +kernel) (by decide +kernel)
theorem w_339 : Cond.instanceMethod (⟨"PostShares$Text", "tells", "(LPostShares$Board;)Z"⟩ : MethodName) ∈ tg := tg_m 339 (by decide +kernel) (by decide +kernel)
theorem w_340 : Cond.selects "PostShares$Text" (⟨"PostShares$Text", "tells", "(LPostShares$Board;)Z"⟩ : MethodName) (⟨"PostShares$Text", "tells", "(LPostShares$Board;)Z"⟩ : MethodName) ∈ tg := tg_m 340 (by decide +kernel) (by decide +kernel)
theorem w_404 : Cond.code M51.1 M51.2.1 M51.2.2.1 M51.2.2.2 ∈ tg := tg_m 404 (by decide +kernel) (by decide +kernel)
theorem w_403 : Cond.instanceMethod (⟨"PostShares$Text", "noteReasons", "()V"⟩ : MethodName) ∈ tg := tg_m 403 (by decide +kernel) (by decide +kernel)
theorem w_18 : Cond.selects "PostShares$Text" (⟨"PostShares$Text", "noteReasons", "()V"⟩ : MethodName) (⟨"PostShares$Text", "noteReasons", "()V"⟩ : MethodName) ∈ tg := tg_m 18 (by decide +kernel) (by decide +kernel)
theorem w_353 : Cond.code M52.1 M52.2.1 M52.2.2.1 M52.2.2.2 ∈ tg := tg_m 353 (by decide +kernel) (by decide +kernel)
theorem w_352 : Cond.instanceMethod (⟨"PostShares$Text", "seen", "()I"⟩ : MethodName) ∈ tg := tg_m 352 (by decide +kernel) (by decide +kernel)
theorem w_10 : Cond.selects "PostShares$Text" (⟨"PostShares$Text", "seen", "()I"⟩ : MethodName) (⟨"PostShares$Text", "seen", "()I"⟩ : MethodName) ∈ tg := tg_m 10 (by decide +kernel) (by decide +kernel)
theorem w_349 : Cond.code M53.1 M53.2.1 M53.2.2.1 M53.2.2.2 ∈ tg := tg_m 349 (by decide +kernel) (by decide +kernel)
theorem w_348 : Cond.instanceMethod (⟨"PostShares$Text", "expect", "(II)V"⟩ : MethodName) ∈ tg := tg_m 348 (by decide +kernel) (by decide +kernel)
theorem w_9 : Cond.selects "PostShares$Text" (⟨"PostShares$Text", "expect", "(II)V"⟩ : MethodName) (⟨"PostShares$Text", "expect", "(II)V"⟩ : MethodName) ∈ tg := tg_m 9 (by decide +kernel) (by decide +kernel)
theorem w_376 : Cond.code M54.1 M54.2.1 M54.2.2.1 M54.2.2.2 ∈ tg := tg_m 376 (by decide +kernel) (by decide +kernel)
theorem w_375 : Cond.instanceMethod (⟨"PostShares$Text", "pass", "(I)Z"⟩ : MethodName) ∈ tg := tg_m 375 (by decide +kernel) (by decide +kernel)
theorem w_13 : Cond.selects "PostShares$Text" (⟨"PostShares$Text", "pass", "(I)Z"⟩ : MethodName) (⟨"PostShares$Text", "pass", "(I)Z"⟩ : MethodName) ∈ tg := tg_m 13 (by decide +kernel) (by decide +kernel)
theorem w_345 : Cond.code M55.1 M55.2.1 M55.2.2.1 M55.2.2.2 ∈ tg := tg_m 345 (by decide +kernel) (by decide +kernel)
theorem w_344 : Cond.instanceMethod (⟨"PostShares$Text", "readItem", "(LPostShares$Board;)Z"⟩ : MethodName) ∈ tg := tg_m 344 (by decide +kernel) (by decide +kernel)
theorem w_8 : Cond.selects "PostShares$Text" (⟨"PostShares$Text", "readItem", "(LPostShares$Board;)Z"⟩ : MethodName) (⟨"PostShares$Text", "readItem", "(LPostShares$Board;)Z"⟩ : MethodName) ∈ tg := tg_m 8 (by decide +kernel) (by decide +kernel)
theorem w_357 : Cond.code M56.1 M56.2.1 M56.2.2.1 M56.2.2.2 ∈ tg := tg_m 357 (by decide +kernel) (by decide +kernel)
theorem w_356 : Cond.instanceMethod (⟨"PostShares$Text", "readLot", "(LPostShares$Board;)Z"⟩ : MethodName) ∈ tg := tg_m 356 (by decide +kernel) (by decide +kernel)
theorem w_11 : Cond.selects "PostShares$Text" (⟨"PostShares$Text", "readLot", "(LPostShares$Board;)Z"⟩ : MethodName) (⟨"PostShares$Text", "readLot", "(LPostShares$Board;)Z"⟩ : MethodName) ∈ tg := tg_m 11 (by decide +kernel) (by decide +kernel)
theorem w_380 : Cond.code M57.1 M57.2.1 M57.2.2.1 M57.2.2.2 ∈ tg := tg_m 380 (by decide +kernel) (by decide +kernel)
theorem w_379 : Cond.instanceMethod (⟨"PostShares$Text", "readRule", "(LPostShares$Board;)Z"⟩ : MethodName) ∈ tg := tg_m 379 (by decide +kernel) (by decide +kernel)
theorem w_14 : Cond.selects "PostShares$Text" (⟨"PostShares$Text", "readRule", "(LPostShares$Board;)Z"⟩ : MethodName) (⟨"PostShares$Text", "readRule", "(LPostShares$Board;)Z"⟩ : MethodName) ∈ tg := tg_m 14 (by decide +kernel) (by decide +kernel)
theorem w_388 : Cond.code M58.1 M58.2.1 M58.2.2.1 M58.2.2.2 ∈ tg := tg_m 388 (by decide +kernel) (by decide +kernel)
theorem w_387 : Cond.instanceMethod (⟨"PostShares$Text", "readParty", "(LPostShares$Board;)Z"⟩ : MethodName) ∈ tg := tg_m 387 (by decide +kernel) (by decide +kernel)
theorem w_16 : Cond.selects "PostShares$Text" (⟨"PostShares$Text", "readParty", "(LPostShares$Board;)Z"⟩ : MethodName) (⟨"PostShares$Text", "readParty", "(LPostShares$Board;)Z"⟩ : MethodName) ∈ tg := tg_m 16 (by decide +kernel) (by decide +kernel)
theorem w_392 : Cond.code M59.1 M59.2.1 M59.2.2.1 M59.2.2.2 ∈ tg := tg_m 392 (by decide +kernel) (by decide +kernel)
theorem w_391 : Cond.instanceMethod (⟨"PostShares$Text", "readWorth", "(LPostShares$Board;I)Z"⟩ : MethodName) ∈ tg := tg_m 391 (by decide +kernel) (by decide +kernel)
theorem w_17 : Cond.selects "PostShares$Text" (⟨"PostShares$Text", "readWorth", "(LPostShares$Board;I)Z"⟩ : MethodName) (⟨"PostShares$Text", "readWorth", "(LPostShares$Board;I)Z"⟩ : MethodName) ∈ tg := tg_m 17 (by decide +kernel) (by decide +kernel)
theorem w_372 : Cond.code M60.1 M60.2.1 M60.2.2.1 M60.2.2.2 ∈ tg := tg_m 372 (by decide +kernel) (by decide +kernel)
theorem w_371 : Cond.instanceMethod (⟨"PostShares$Text", "readEnd", "()Z"⟩ : MethodName) ∈ tg := tg_m 371 (by decide +kernel) (by decide +kernel)
theorem w_12 : Cond.selects "PostShares$Text" (⟨"PostShares$Text", "readEnd", "()Z"⟩ : MethodName) (⟨"PostShares$Text", "readEnd", "()Z"⟩ : MethodName) ∈ tg := tg_m 12 (by decide +kernel) (by decide +kernel)
theorem w_384 : Cond.code M61.1 M61.2.1 M61.2.2.1 M61.2.2.2 ∈ tg := tg_m 384 (by decide +kernel) (by decide +kernel)
theorem w_383 : Cond.instanceMethod (⟨"PostShares$Text", "readNumber", "(II)I"⟩ : MethodName) ∈ tg := tg_m 383 (by decide +kernel) (by decide +kernel)
theorem w_15 : Cond.selects "PostShares$Text" (⟨"PostShares$Text", "readNumber", "(II)I"⟩ : MethodName) (⟨"PostShares$Text", "readNumber", "(II)I"⟩ : MethodName) ∈ tg := tg_m 15 (by decide +kernel) (by decide +kernel)
theorem w_84 : Cond.code M62.1 M62.2.1 M62.2.2.1 M62.2.2.2 ∈ tg := tg_m 84 (by decide +kernel) (by decide +kernel)
theorem w_83 : Cond.instanceMethod (⟨"PostShares", "<init>", "()V"⟩ : MethodName) ∈ tg := tg_m 83 (by decide +kernel) (by decide +kernel)
theorem w_309 : Cond.code M63.1 M63.2.1 M63.2.2.1 M63.2.2.2 ∈ tg := tg_m 309 (by decide +kernel) (by decide +kernel)
theorem w_307 : Cond.instanceMethod (⟨"PostShares", "type", "(I)I"⟩ : MethodName) ∈ tg := tg_m 307 (by decide +kernel) (by decide +kernel)
theorem w_308 : Cond.selects "PostShares" (⟨"PostShares", "type", "(I)I"⟩ : MethodName) (⟨"PostShares", "type", "(I)I"⟩ : MethodName) ∈ tg := tg_m 308 (by decide +kernel) (by decide +kernel)
theorem w_325 : Cond.code M64.1 M64.2.1 M64.2.2.1 M64.2.2.2 ∈ tg := tg_m 325 (by decide +kernel) (by decide +kernel)
theorem w_323 : Cond.instanceMethod (⟨"PostShares", "clear", "()I"⟩ : MethodName) ∈ tg := tg_m 323 (by decide +kernel) (by decide +kernel)
theorem w_324 : Cond.selects "PostShares" (⟨"PostShares", "clear", "()I"⟩ : MethodName) (⟨"PostShares", "clear", "()I"⟩ : MethodName) ∈ tg := tg_m 324 (by decide +kernel) (by decide +kernel)
theorem w_333 : Cond.code M65.1 M65.2.1 M65.2.2.1 M65.2.2.2 ∈ tg := tg_m 333 (by decide +kernel) (by decide +kernel)
theorem w_331 : Cond.instanceMethod (⟨"PostShares", "reads", "()I"⟩ : MethodName) ∈ tg := tg_m 331 (by decide +kernel) (by decide +kernel)
theorem w_332 : Cond.selects "PostShares" (⟨"PostShares", "reads", "()I"⟩ : MethodName) (⟨"PostShares", "reads", "()I"⟩ : MethodName) ∈ tg := tg_m 332 (by decide +kernel) (by decide +kernel)
theorem w_423 : Cond.code M66.1 M66.2.1 M66.2.2.1 M66.2.2.2 ∈ tg := tg_m 423 (by decide +kernel) (by decide +kernel)
theorem w_421 : Cond.instanceMethod (⟨"PostShares", "reason", "(I)I"⟩ : MethodName) ∈ tg := tg_m 421 (by decide +kernel) (by decide +kernel)
theorem w_422 : Cond.selects "PostShares" (⟨"PostShares", "reason", "(I)I"⟩ : MethodName) (⟨"PostShares", "reason", "(I)I"⟩ : MethodName) ∈ tg := tg_m 422 (by decide +kernel) (by decide +kernel)
theorem w_427 : Cond.code M67.1 M67.2.1 M67.2.2.1 M67.2.2.2 ∈ tg := tg_m 427 (by decide +kernel) (by decide +kernel)
theorem w_425 : Cond.instanceMethod (⟨"PostShares", "lot", "(II)I"⟩ : MethodName) ∈ tg := tg_m 425 (by decide +kernel) (by decide +kernel)
theorem w_426 : Cond.selects "PostShares" (⟨"PostShares", "lot", "(II)I"⟩ : MethodName) (⟨"PostShares", "lot", "(II)I"⟩ : MethodName) ∈ tg := tg_m 426 (by decide +kernel) (by decide +kernel)
theorem w_436 : Cond.code M68.1 M68.2.1 M68.2.2.1 M68.2.2.2 ∈ tg := tg_m 436 (by decide +kernel) (by decide +kernel)
theorem w_434 : Cond.instanceMethod (⟨"PostShares", "party", "(II)I"⟩ : MethodName) ∈ tg := tg_m 434 (by decide +kernel) (by decide +kernel)
theorem w_435 : Cond.selects "PostShares" (⟨"PostShares", "party", "(II)I"⟩ : MethodName) (⟨"PostShares", "party", "(II)I"⟩ : MethodName) ∈ tg := tg_m 435 (by decide +kernel) (by decide +kernel)
theorem w_464 : Cond.code M69.1 M69.2.1 M69.2.2.1 M69.2.2.2 ∈ tg := tg_m 464 (by decide +kernel) (by decide +kernel)
theorem w_462 : Cond.instanceMethod (⟨"PostShares", "worth", "(II)I"⟩ : MethodName) ∈ tg := tg_m 462 (by decide +kernel) (by decide +kernel)
theorem w_463 : Cond.selects "PostShares" (⟨"PostShares", "worth", "(II)I"⟩ : MethodName) (⟨"PostShares", "worth", "(II)I"⟩ : MethodName) ∈ tg := tg_m 463 (by decide +kernel) (by decide +kernel)
theorem w_469 : Cond.code M70.1 M70.2.1 M70.2.2.1 M70.2.2.2 ∈ tg := tg_m 469 (by decide +kernel) (by decide +kernel)
theorem w_467 : Cond.instanceMethod (⟨"PostShares", "turn", "(I)I"⟩ : MethodName) ∈ tg := tg_m 467 (by decide +kernel) (by decide +kernel)
theorem w_468 : Cond.selects "PostShares" (⟨"PostShares", "turn", "(I)I"⟩ : MethodName) (⟨"PostShares", "turn", "(I)I"⟩ : MethodName) ∈ tg := tg_m 468 (by decide +kernel) (by decide +kernel)
theorem w_474 : Cond.code M71.1 M71.2.1 M71.2.2.1 M71.2.2.2 ∈ tg := tg_m 474 (by decide +kernel) (by decide +kernel)
theorem w_472 : Cond.instanceMethod (⟨"PostShares", "rates", "(III)I"⟩ : MethodName) ∈ tg := tg_m 472 (by decide +kernel) (by decide +kernel)
theorem w_473 : Cond.selects "PostShares" (⟨"PostShares", "rates", "(III)I"⟩ : MethodName) (⟨"PostShares", "rates", "(III)I"⟩ : MethodName) ∈ tg := tg_m 473 (by decide +kernel) (by decide +kernel)
theorem w_483 : Cond.code M72.1 M72.2.1 M72.2.2.1 M72.2.2.2 ∈ tg := tg_m 483 (by decide +kernel) (by decide +kernel)
theorem w_481 : Cond.instanceMethod (⟨"PostShares", "strength", "(II)I"⟩ : MethodName) ∈ tg := tg_m 481 (by decide +kernel) (by decide +kernel)
theorem w_482 : Cond.selects "PostShares" (⟨"PostShares", "strength", "(II)I"⟩ : MethodName) (⟨"PostShares", "strength", "(II)I"⟩ : MethodName) ∈ tg := tg_m 482 (by decide +kernel) (by decide +kernel)
theorem w_487 : Cond.code M73.1 M73.2.1 M73.2.2.1 M73.2.2.2 ∈ tg := tg_m 487 (by decide +kernel) (by decide +kernel)
theorem w_485 : Cond.instanceMethod (⟨"PostShares", "rule", "(I)I"⟩ : MethodName) ∈ tg := tg_m 485 (by decide +kernel) (by decide +kernel)
theorem w_486 : Cond.selects "PostShares" (⟨"PostShares", "rule", "(I)I"⟩ : MethodName) (⟨"PostShares", "rule", "(I)I"⟩ : MethodName) ∈ tg := tg_m 486 (by decide +kernel) (by decide +kernel)
theorem w_491 : Cond.code M74.1 M74.2.1 M74.2.2.1 M74.2.2.2 ∈ tg := tg_m 491 (by decide +kernel) (by decide +kernel)
theorem w_489 : Cond.instanceMethod (⟨"PostShares", "binds", "(II)I"⟩ : MethodName) ∈ tg := tg_m 489 (by decide +kernel) (by decide +kernel)
theorem w_490 : Cond.selects "PostShares" (⟨"PostShares", "binds", "(II)I"⟩ : MethodName) (⟨"PostShares", "binds", "(II)I"⟩ : MethodName) ∈ tg := tg_m 490 (by decide +kernel) (by decide +kernel)
theorem w_505 : Cond.code M75.1 M75.2.1 M75.2.2.1 M75.2.2.2 ∈ tg := tg_m 505 (by decide +kernel) (by decide +kernel)
theorem w_503 : Cond.instanceMethod (⟨"PostShares", "joins", "(II)I"⟩ : MethodName) ∈ tg := tg_m 503 (by decide +kernel) (by decide +kernel)
theorem w_504 : Cond.selects "PostShares" (⟨"PostShares", "joins", "(II)I"⟩ : MethodName) (⟨"PostShares", "joins", "(II)I"⟩ : MethodName) ∈ tg := tg_m 504 (by decide +kernel) (by decide +kernel)
theorem w_521 : Cond.code M76.1 M76.2.1 M76.2.2.1 M76.2.2.2 ∈ tg := tg_m 521 (by decide +kernel) (by decide +kernel)
theorem w_519 : Cond.instanceMethod (⟨"PostShares", "takes", "(I)I"⟩ : MethodName) ∈ tg := tg_m 519 (by decide +kernel) (by decide +kernel)
theorem w_520 : Cond.selects "PostShares" (⟨"PostShares", "takes", "(I)I"⟩ : MethodName) (⟨"PostShares", "takes", "(I)I"⟩ : MethodName) ∈ tg := tg_m 520 (by decide +kernel) (by decide +kernel)
theorem w_533 : Cond.code M77.1 M77.2.1 M77.2.2.1 M77.2.2.2 ∈ tg := tg_m 533 (by decide +kernel) (by decide +kernel)
theorem w_531 : Cond.instanceMethod (⟨"PostShares", "vetoes", "(I)I"⟩ : MethodName) ∈ tg := tg_m 531 (by decide +kernel) (by decide +kernel)
theorem w_532 : Cond.selects "PostShares" (⟨"PostShares", "vetoes", "(I)I"⟩ : MethodName) (⟨"PostShares", "vetoes", "(I)I"⟩ : MethodName) ∈ tg := tg_m 532 (by decide +kernel) (by decide +kernel)
theorem w_550 : Cond.code M78.1 M78.2.1 M78.2.2.1 M78.2.2.2 ∈ tg := tg_m 550 (by decide +kernel) (by decide +kernel)
theorem w_548 : Cond.instanceMethod (⟨"PostShares", "foreseen", "(I)I"⟩ : MethodName) ∈ tg := tg_m 548 (by decide +kernel) (by decide +kernel)
theorem w_549 : Cond.selects "PostShares" (⟨"PostShares", "foreseen", "(I)I"⟩ : MethodName) (⟨"PostShares", "foreseen", "(I)I"⟩ : MethodName) ∈ tg := tg_m 549 (by decide +kernel) (by decide +kernel)
theorem w_587 : Cond.code M79.1 M79.2.1 M79.2.2.1 M79.2.2.2 ∈ tg := tg_m 587 (by decide +kernel) (by decide +kernel)
theorem w_585 : Cond.instanceMethod (⟨"PostShares", "best", "()I"⟩ : MethodName) ∈ tg := tg_m 585 (by decide +kernel) (by decide +kernel)
theorem w_586 : Cond.selects "PostShares" (⟨"PostShares", "best", "()I"⟩ : MethodName) (⟨"PostShares", "best", "()I"⟩ : MethodName) ∈ tg := tg_m 586 (by decide +kernel) (by decide +kernel)
theorem w_599 : Cond.code M80.1 M80.2.1 M80.2.2.1 M80.2.2.2 ∈ tg := tg_m 599 (by decide +kernel) (by decide +kernel)
theorem w_597 : Cond.instanceMethod (⟨"PostShares", "against", "(I)I"⟩ : MethodName) ∈ tg := tg_m 597 (by decide +kernel) (by decide +kernel)
theorem w_598 : Cond.selects "PostShares" (⟨"PostShares", "against", "(I)I"⟩ : MethodName) (⟨"PostShares", "against", "(I)I"⟩ : MethodName) ∈ tg := tg_m 598 (by decide +kernel) (by decide +kernel)
theorem w_610 : Cond.code M81.1 M81.2.1 M81.2.2.1 M81.2.2.2 ∈ tg := tg_m 610 (by decide +kernel) (by decide +kernel)
theorem w_608 : Cond.instanceMethod (⟨"PostShares", "taking", "(II)I"⟩ : MethodName) ∈ tg := tg_m 608 (by decide +kernel) (by decide +kernel)
theorem w_609 : Cond.selects "PostShares" (⟨"PostShares", "taking", "(II)I"⟩ : MethodName) (⟨"PostShares", "taking", "(II)I"⟩ : MethodName) ∈ tg := tg_m 609 (by decide +kernel) (by decide +kernel)
theorem w_618 : Cond.code M82.1 M82.2.1 M82.2.2.1 M82.2.2.2 ∈ tg := tg_m 618 (by decide +kernel) (by decide +kernel)
theorem w_616 : Cond.instanceMethod (⟨"PostShares", "course", "(I)I"⟩ : MethodName) ∈ tg := tg_m 616 (by decide +kernel) (by decide +kernel)
theorem w_617 : Cond.selects "PostShares" (⟨"PostShares", "course", "(I)I"⟩ : MethodName) (⟨"PostShares", "course", "(I)I"⟩ : MethodName) ∈ tg := tg_m 617 (by decide +kernel) (by decide +kernel)
theorem w_626 : Cond.code M83.1 M83.2.1 M83.2.2.1 M83.2.2.2 ∈ tg := tg_m 626 (by decide +kernel) (by decide +kernel)
theorem w_624 : Cond.instanceMethod (⟨"PostShares", "sincere", "(I)I"⟩ : MethodName) ∈ tg := tg_m 624 (by decide +kernel) (by decide +kernel)
theorem w_625 : Cond.selects "PostShares" (⟨"PostShares", "sincere", "(I)I"⟩ : MethodName) (⟨"PostShares", "sincere", "(I)I"⟩ : MethodName) ∈ tg := tg_m 625 (by decide +kernel) (by decide +kernel)
theorem w_639 : Cond.code M84.1 M84.2.1 M84.2.2.1 M84.2.2.2 ∈ tg := tg_m 639 (by decide +kernel) (by decide +kernel)
theorem w_637 : Cond.instanceMethod (⟨"PostShares", "without", "(II)I"⟩ : MethodName) ∈ tg := tg_m 637 (by decide +kernel) (by decide +kernel)
theorem w_638 : Cond.selects "PostShares" (⟨"PostShares", "without", "(II)I"⟩ : MethodName) (⟨"PostShares", "without", "(II)I"⟩ : MethodName) ∈ tg := tg_m 638 (by decide +kernel) (by decide +kernel)
theorem w_643 : Cond.code M85.1 M85.2.1 M85.2.2.1 M85.2.2.2 ∈ tg := tg_m 643 (by decide +kernel) (by decide +kernel)
theorem w_641 : Cond.instanceMethod (⟨"PostShares", "back", "()I"⟩ : MethodName) ∈ tg := tg_m 641 (by decide +kernel) (by decide +kernel)
theorem w_642 : Cond.selects "PostShares" (⟨"PostShares", "back", "()I"⟩ : MethodName) (⟨"PostShares", "back", "()I"⟩ : MethodName) ∈ tg := tg_m 642 (by decide +kernel) (by decide +kernel)
theorem w_651 : Cond.code M86.1 M86.2.1 M86.2.2.1 M86.2.2.2 ∈ tg := tg_m 651 (by decide +kernel) (by decide +kernel)
theorem w_649 : Cond.instanceMethod (⟨"PostShares", "told", "(I)I"⟩ : MethodName) ∈ tg := tg_m 649 (by decide +kernel) (by decide +kernel)
theorem w_650 : Cond.selects "PostShares" (⟨"PostShares", "told", "(I)I"⟩ : MethodName) (⟨"PostShares", "told", "(I)I"⟩ : MethodName) ∈ tg := tg_m 650 (by decide +kernel) (by decide +kernel)
theorem w_656 : Cond.code M87.1 M87.2.1 M87.2.2.1 M87.2.2.2 ∈ tg := tg_m 656 (by decide +kernel) (by decide +kernel)
theorem w_654 : Cond.instanceMethod (⟨"PostShares", "digest", "()J"⟩ : MethodName) ∈ tg := tg_m 654 (by decide +kernel) (by decide +kernel)
theorem w_655 : Cond.selects "PostShares" (⟨"PostShares", "digest", "()J"⟩ : MethodName) (⟨"PostShares", "digest", "()J"⟩ : MethodName) ∈ tg := tg_m 655 (by decide +kernel) (by decide +kernel)
theorem w_667 : Cond.code M88.1 M88.2.1 M88.2.2.1 M88.2.2.2 ∈ tg := tg_m 667 (by decide +kernel) (by decide +kernel)
theorem w_666 : Cond.instanceMethod (⟨"PostShares", "digestedParty", "(JI)J"⟩ : MethodName) ∈ tg := tg_m 666 (by decide +kernel) (by decide +kernel)
theorem w_26 : Cond.selects "PostShares" (⟨"PostShares", "digestedParty", "(JI)J"⟩ : MethodName) (⟨"PostShares", "digestedParty", "(JI)J"⟩ : MethodName) ∈ tg := tg_m 26 (by decide +kernel) (by decide +kernel)
theorem w_661 : Cond.code M89.1 M89.2.1 M89.2.2.1 M89.2.2.2 ∈ tg := tg_m 661 (by decide +kernel) (by decide +kernel)
theorem w_660 : Cond.static (⟨"PostShares", "digested", "(JI)J"⟩ : MethodName) ∈ tg := tg_m 660 (by decide +kernel) (by decide +kernel)
theorem w_247 : Cond.code M90.1 M90.2.1 M90.2.2.1 M90.2.2.2 ∈ tg := tg_m 247 (by decide +kernel) (by decide +kernel)
theorem w_246 : Cond.instanceMethod (⟨"PostShares", "startAnew", "()V"⟩ : MethodName) ∈ tg := tg_m 246 (by decide +kernel) (by decide +kernel)
theorem w_0 : Cond.selects "PostShares" (⟨"PostShares", "startAnew", "()V"⟩ : MethodName) (⟨"PostShares", "startAnew", "()V"⟩ : MethodName) ∈ tg := tg_m 0 (by decide +kernel) (by decide +kernel)
theorem w_313 : Cond.code M91.1 M91.2.1 M91.2.2.1 M91.2.2.2 ∈ tg := tg_m 313 (by decide +kernel) (by decide +kernel)
theorem w_312 : Cond.instanceMethod (⟨"PostShares", "bad", "()I"⟩ : MethodName) ∈ tg := tg_m 312 (by decide +kernel) (by decide +kernel)
theorem w_6 : Cond.selects "PostShares" (⟨"PostShares", "bad", "()I"⟩ : MethodName) (⟨"PostShares", "bad", "()I"⟩ : MethodName) ∈ tg := tg_m 6 (by decide +kernel) (by decide +kernel)
theorem w_478 : Cond.code M92.1 M92.2.1 M92.2.2.1 M92.2.2.2 ∈ tg := tg_m 478 (by decide +kernel) (by decide +kernel)
theorem w_477 : Cond.instanceMethod (⟨"PostShares", "no", "()I"⟩ : MethodName) ∈ tg := tg_m 477 (by decide +kernel) (by decide +kernel)
theorem w_19 : Cond.selects "PostShares" (⟨"PostShares", "no", "()I"⟩ : MethodName) (⟨"PostShares", "no", "()I"⟩ : MethodName) ∈ tg := tg_m 19 (by decide +kernel) (by decide +kernel)
theorem w_317 : Cond.code M93.1 M93.2.1 M93.2.2.1 M93.2.2.2 ∈ tg := tg_m 317 (by decide +kernel) (by decide +kernel)
theorem w_316 : Cond.instanceMethod (⟨"PostShares", "full", "()I"⟩ : MethodName) ∈ tg := tg_m 316 (by decide +kernel) (by decide +kernel)
theorem w_7 : Cond.selects "PostShares" (⟨"PostShares", "full", "()I"⟩ : MethodName) (⟨"PostShares", "full", "()I"⟩ : MethodName) ∈ tg := tg_m 7 (by decide +kernel) (by decide +kernel)
theorem w_364 : Cond.code M94.1 M94.2.1 M94.2.2.1 M94.2.2.2 ∈ tg := tg_m 364 (by decide +kernel) (by decide +kernel)
theorem w_363 : Cond.static (⟨"PostShares", "bit", "(II)I"⟩ : MethodName) ∈ tg := tg_m 363 (by decide +kernel) (by decide +kernel)
theorem w_676 : Cond.code M95.1 M95.2.1 M95.2.2.1 M95.2.2.2 ∈ tg := tg_m 676 (by decide +kernel) (by decide +kernel)
theorem w_675 : Cond.instanceMethod (⟨"PostSharesModel", "<init>", "()V"⟩ : MethodName) ∈ tg := tg_m 675 (by decide +kernel) (by decide +kernel)
theorem w_746 : Cond.code M96.1 M96.2.1 M96.2.2.1 M96.2.2.2 ∈ tg := tg_m 746 (by decide +kernel) (by decide +kernel)
theorem w_745 : Cond.static (⟨"PostSharesModel", "in", "(JJJ)Z"⟩ : MethodName) ∈ tg := tg_m 745 (by decide +kernel) (by decide +kernel)
theorem w_801 : Cond.code M97.1 M97.2.1 M97.2.2.1 M97.2.2.2 ∈ tg := tg_m 801 (by decide +kernel) (by decide +kernel)
theorem w_800 : Cond.static (⟨"PostSharesModel", "has", "(II)Z"⟩ : MethodName) ∈ tg := tg_m 800 (by decide +kernel) (by decide +kernel)
theorem w_969 : Cond.code M98.1 M98.2.1 M98.2.2.1 M98.2.2.2 ∈ tg := tg_m 969 (by decide +kernel) (by decide +kernel)
theorem w_968 : Cond.static (⟨"PostSharesModel", "ones", "(I)I"⟩ : MethodName) ∈ tg := tg_m 968 (by decide +kernel) (by decide +kernel)
theorem w_750 : Cond.code M99.1 M99.2.1 M99.2.2.1 M99.2.2.2 ∈ tg := tg_m 750 (by decide +kernel) (by decide +kernel)
theorem w_749 : Cond.instanceMethod (⟨"PostSharesModel", "refuses", "(I)I"⟩ : MethodName) ∈ tg := tg_m 749 (by decide +kernel) (by decide +kernel)
theorem w_27 : Cond.selects "PostSharesModel" (⟨"PostSharesModel", "refuses", "(I)I"⟩ : MethodName) (⟨"PostSharesModel", "refuses", "(I)I"⟩ : MethodName) ∈ tg := tg_m 27 (by decide +kernel) (by decide +kernel)
theorem w_762 : Cond.code M100.1 M100.2.1 M100.2.2.1 M100.2.2.2 ∈ tg := tg_m 762 (by decide +kernel) (by decide +kernel)
theorem w_761 : Cond.instanceMethod (⟨"PostSharesModel", "copy", "(II)V"⟩ : MethodName) ∈ tg := tg_m 761 (by decide +kernel) (by decide +kernel)
theorem w_28 : Cond.selects "PostSharesModel" (⟨"PostSharesModel", "copy", "(II)V"⟩ : MethodName) (⟨"PostSharesModel", "copy", "(II)V"⟩ : MethodName) ∈ tg := tg_m 28 (by decide +kernel) (by decide +kernel)
theorem w_826 : Cond.code M101.1 M101.2.1 M101.2.2.1 M101.2.2.2 ∈ tg := tg_m 826 (by decide +kernel) (by decide +kernel)
theorem w_825 : Cond.instanceMethod (⟨"PostSharesModel", "minds", "()V"⟩ : MethodName) ∈ tg := tg_m 825 (by decide +kernel) (by decide +kernel)
theorem w_42 : Cond.selects "PostSharesModel" (⟨"PostSharesModel", "minds", "()V"⟩ : MethodName) (⟨"PostSharesModel", "minds", "()V"⟩ : MethodName) ∈ tg := tg_m 42 (by decide +kernel) (by decide +kernel)
theorem w_863 : Cond.code M102.1 M102.2.1 M102.2.2.1 M102.2.2.2 ∈ tg := tg_m 863 (by decide +kernel) (by decide +kernel)
theorem w_862 : Cond.instanceMethod (⟨"PostSharesModel", "isLot", "(I)Z"⟩ : MethodName) ∈ tg := tg_m 862 (by decide +kernel) (by decide +kernel)
theorem w_48 : Cond.selects "PostSharesModel" (⟨"PostSharesModel", "isLot", "(I)Z"⟩ : MethodName) (⟨"PostSharesModel", "isLot", "(I)Z"⟩ : MethodName) ∈ tg := tg_m 48 (by decide +kernel) (by decide +kernel)
theorem w_875 : Cond.code M103.1 M103.2.1 M103.2.2.1 M103.2.2.2 ∈ tg := tg_m 875 (by decide +kernel) (by decide +kernel)
theorem w_874 : Cond.instanceMethod (⟨"PostSharesModel", "isParty", "(I)Z"⟩ : MethodName) ∈ tg := tg_m 874 (by decide +kernel) (by decide +kernel)
theorem w_50 : Cond.selects "PostSharesModel" (⟨"PostSharesModel", "isParty", "(I)Z"⟩ : MethodName) (⟨"PostSharesModel", "isParty", "(I)Z"⟩ : MethodName) ∈ tg := tg_m 50 (by decide +kernel) (by decide +kernel)
theorem w_888 : Cond.code M104.1 M104.2.1 M104.2.2.1 M104.2.2.2 ∈ tg := tg_m 888 (by decide +kernel) (by decide +kernel)
theorem w_887 : Cond.instanceMethod (⟨"PostSharesModel", "worthOf", "(II)I"⟩ : MethodName) ∈ tg := tg_m 887 (by decide +kernel) (by decide +kernel)
theorem w_53 : Cond.selects "PostSharesModel" (⟨"PostSharesModel", "worthOf", "(II)I"⟩ : MethodName) (⟨"PostSharesModel", "worthOf", "(II)I"⟩ : MethodName) ∈ tg := tg_m 53 (by decide +kernel) (by decide +kernel)
theorem w_742 : Cond.code M105.1 M105.2.1 M105.2.2.1 M105.2.2.2 ∈ tg := tg_m 742 (by decide +kernel) (by decide +kernel)
theorem w_740 : Cond.instanceMethod (⟨"PostSharesModel", "type", "(I)I"⟩ : MethodName) ∈ tg := tg_m 740 (by decide +kernel) (by decide +kernel)
theorem w_741 : Cond.selects "PostSharesModel" (⟨"PostSharesModel", "type", "(I)I"⟩ : MethodName) (⟨"PostSharesModel", "type", "(I)I"⟩ : MethodName) ∈ tg := tg_m 741 (by decide +kernel) (by decide +kernel)
theorem w_754 : Cond.code M106.1 M106.2.1 M106.2.2.1 M106.2.2.2 ∈ tg := tg_m 754 (by decide +kernel) (by decide +kernel)
theorem w_752 : Cond.instanceMethod (⟨"PostSharesModel", "clear", "()I"⟩ : MethodName) ∈ tg := tg_m 752 (by decide +kernel) (by decide +kernel)
theorem w_753 : Cond.selects "PostSharesModel" (⟨"PostSharesModel", "clear", "()I"⟩ : MethodName) (⟨"PostSharesModel", "clear", "()I"⟩ : MethodName) ∈ tg := tg_m 753 (by decide +kernel) (by decide +kernel)
theorem w_778 : Cond.code M107.1 M107.2.1 M107.2.2.1 M107.2.2.2 ∈ tg := tg_m 778 (by decide +kernel) (by decide +kernel)
theorem w_777 : Cond.instanceMethod (⟨"PostSharesModel", "byteHere", "()I"⟩ : MethodName) ∈ tg := tg_m 777 (by decide +kernel) (by decide +kernel)
theorem w_32 : Cond.selects "PostSharesModel" (⟨"PostSharesModel", "byteHere", "()I"⟩ : MethodName) (⟨"PostSharesModel", "byteHere", "()I"⟩ : MethodName) ∈ tg := tg_m 32 (by decide +kernel) (by decide +kernel)
theorem w_792 : Cond.code M108.1 M108.2.1 M108.2.2.1 M108.2.2.2 ∈ tg := tg_m 792 (by decide +kernel) (by decide +kernel)
theorem w_791 : Cond.instanceMethod (⟨"PostSharesModel", "isAt", "(I)Z"⟩ : MethodName) ∈ tg := tg_m 791 (by decide +kernel) (by decide +kernel)
theorem w_35 : Cond.selects "PostSharesModel" (⟨"PostSharesModel", "isAt", "(I)Z"⟩ : MethodName) (⟨"PostSharesModel", "isAt", "(I)Z"⟩ : MethodName) ∈ tg := tg_m 35 (by decide +kernel) (by decide +kernel)
theorem w_814 : Cond.code M109.1 M109.2.1 M109.2.2.1 M109.2.2.2 ∈ tg := tg_m 814 (by decide +kernel) (by decide +kernel)
theorem w_813 : Cond.instanceMethod (⟨"PostSharesModel", "isFigure", "()Z"⟩ : MethodName) ∈ tg := tg_m 813 (by decide +kernel) (by decide +kernel)
theorem w_39 : Cond.selects "PostSharesModel" (⟨"PostSharesModel", "isFigure", "()Z"⟩ : MethodName) (⟨"PostSharesModel", "isFigure", "()Z"⟩ : MethodName) ∈ tg := tg_m 39 (by decide +kernel) (by decide +kernel)
theorem w_774 : Cond.code M110.1 M110.2.1 M110.2.2.1 M110.2.2.2 ∈ tg := tg_m 774 (by decide +kernel) (by decide +kernel)
theorem w_773 : Cond.instanceMethod (⟨"PostSharesModel", "reading", "(II)V"⟩ : MethodName) ∈ tg := tg_m 773 (by decide +kernel) (by decide +kernel)
theorem w_31 : Cond.selects "PostSharesModel" (⟨"PostSharesModel", "reading", "(II)V"⟩ : MethodName) (⟨"PostSharesModel", "reading", "(II)V"⟩ : MethodName) ∈ tg := tg_m 31 (by decide +kernel) (by decide +kernel)
theorem w_788 : Cond.code M111.1 M111.2.1 M111.2.2.1 M111.2.2.2 ∈ tg := tg_m 788 (by decide +kernel) (by decide +kernel)
theorem w_787 : Cond.instanceMethod (⟨"PostSharesModel", "must", "(I)Z"⟩ : MethodName) ∈ tg := tg_m 787 (by decide +kernel) (by decide +kernel)
theorem w_34 : Cond.selects "PostSharesModel" (⟨"PostSharesModel", "must", "(I)Z"⟩ : MethodName) (⟨"PostSharesModel", "must", "(I)Z"⟩ : MethodName) ∈ tg := tg_m 34 (by decide +kernel) (by decide +kernel)
theorem w_796 : Cond.code M112.1 M112.2.1 M112.2.2.1 M112.2.2.2 ∈ tg := tg_m 796 (by decide +kernel) (by decide +kernel)
theorem w_795 : Cond.instanceMethod (⟨"PostSharesModel", "readsLot", "()Z"⟩ : MethodName) ∈ tg := tg_m 795 (by decide +kernel) (by decide +kernel)
theorem w_36 : Cond.selects "PostSharesModel" (⟨"PostSharesModel", "readsLot", "()Z"⟩ : MethodName) (⟨"PostSharesModel", "readsLot", "()Z"⟩ : MethodName) ∈ tg := tg_m 36 (by decide +kernel) (by decide +kernel)
theorem w_809 : Cond.code M113.1 M113.2.1 M113.2.2.1 M113.2.2.2 ∈ tg := tg_m 809 (by decide +kernel) (by decide +kernel)
theorem w_808 : Cond.instanceMethod (⟨"PostSharesModel", "readsNumber", "(II)Z"⟩ : MethodName) ∈ tg := tg_m 808 (by decide +kernel) (by decide +kernel)
theorem w_38 : Cond.selects "PostSharesModel" (⟨"PostSharesModel", "readsNumber", "(II)Z"⟩ : MethodName) (⟨"PostSharesModel", "readsNumber", "(II)Z"⟩ : MethodName) ∈ tg := tg_m 38 (by decide +kernel) (by decide +kernel)
theorem w_805 : Cond.code M114.1 M114.2.1 M114.2.2.1 M114.2.2.2 ∈ tg := tg_m 805 (by decide +kernel) (by decide +kernel)
theorem w_804 : Cond.instanceMethod (⟨"PostSharesModel", "readsParty", "()Z"⟩ : MethodName) ∈ tg := tg_m 804 (by decide +kernel) (by decide +kernel)
theorem w_37 : Cond.selects "PostSharesModel" (⟨"PostSharesModel", "readsParty", "()Z"⟩ : MethodName) (⟨"PostSharesModel", "readsParty", "()Z"⟩ : MethodName) ∈ tg := tg_m 37 (by decide +kernel) (by decide +kernel)
theorem w_782 : Cond.code M115.1 M115.2.1 M115.2.2.1 M115.2.2.2 ∈ tg := tg_m 782 (by decide +kernel) (by decide +kernel)
theorem w_781 : Cond.instanceMethod (⟨"PostSharesModel", "readsRule", "()Z"⟩ : MethodName) ∈ tg := tg_m 781 (by decide +kernel) (by decide +kernel)
theorem w_33 : Cond.selects "PostSharesModel" (⟨"PostSharesModel", "readsRule", "()Z"⟩ : MethodName) (⟨"PostSharesModel", "readsRule", "()Z"⟩ : MethodName) ∈ tg := tg_m 33 (by decide +kernel) (by decide +kernel)
theorem w_770 : Cond.code M116.1 M116.2.1 M116.2.2.1 M116.2.2.2 ∈ tg := tg_m 770 (by decide +kernel) (by decide +kernel)
theorem w_769 : Cond.instanceMethod (⟨"PostSharesModel", "readsItem", "()Z"⟩ : MethodName) ∈ tg := tg_m 769 (by decide +kernel) (by decide +kernel)
theorem w_30 : Cond.selects "PostSharesModel" (⟨"PostSharesModel", "readsItem", "()Z"⟩ : MethodName) (⟨"PostSharesModel", "readsItem", "()Z"⟩ : MethodName) ∈ tg := tg_m 30 (by decide +kernel) (by decide +kernel)
theorem w_766 : Cond.code M117.1 M117.2.1 M117.2.2.1 M117.2.2.2 ∈ tg := tg_m 766 (by decide +kernel) (by decide +kernel)
theorem w_765 : Cond.instanceMethod (⟨"PostSharesModel", "readsAll", "()Z"⟩ : MethodName) ∈ tg := tg_m 765 (by decide +kernel) (by decide +kernel)
theorem w_29 : Cond.selects "PostSharesModel" (⟨"PostSharesModel", "readsAll", "()Z"⟩ : MethodName) (⟨"PostSharesModel", "readsAll", "()Z"⟩ : MethodName) ∈ tg := tg_m 29 (by decide +kernel) (by decide +kernel)
theorem w_818 : Cond.code M118.1 M118.2.1 M118.2.2.1 M118.2.2.2 ∈ tg := tg_m 818 (by decide +kernel) (by decide +kernel)
theorem w_817 : Cond.instanceMethod (⟨"PostSharesModel", "begins", "()V"⟩ : MethodName) ∈ tg := tg_m 817 (by decide +kernel) (by decide +kernel)
theorem w_40 : Cond.selects "PostSharesModel" (⟨"PostSharesModel", "begins", "()V"⟩ : MethodName) (⟨"PostSharesModel", "begins", "()V"⟩ : MethodName) ∈ tg := tg_m 40 (by decide +kernel) (by decide +kernel)
theorem w_758 : Cond.code M119.1 M119.2.1 M119.2.2.1 M119.2.2.2 ∈ tg := tg_m 758 (by decide +kernel) (by decide +kernel)
theorem w_756 : Cond.instanceMethod (⟨"PostSharesModel", "reads", "()I"⟩ : MethodName) ∈ tg := tg_m 756 (by decide +kernel) (by decide +kernel)
theorem w_757 : Cond.selects "PostSharesModel" (⟨"PostSharesModel", "reads", "()I"⟩ : MethodName) (⟨"PostSharesModel", "reads", "()I"⟩ : MethodName) ∈ tg := tg_m 757 (by decide +kernel) (by decide +kernel)
theorem w_822 : Cond.code M120.1 M120.2.1 M120.2.2.1 M120.2.2.2 ∈ tg := tg_m 822 (by decide +kernel) (by decide +kernel)
theorem w_821 : Cond.instanceMethod (⟨"PostSharesModel", "keepsNew", "()V"⟩ : MethodName) ∈ tg := tg_m 821 (by decide +kernel) (by decide +kernel)
theorem w_41 : Cond.selects "PostSharesModel" (⟨"PostSharesModel", "keepsNew", "()V"⟩ : MethodName) (⟨"PostSharesModel", "keepsNew", "()V"⟩ : MethodName) ∈ tg := tg_m 41 (by decide +kernel) (by decide +kernel)
theorem w_830 : Cond.code M121.1 M121.2.1 M121.2.2.1 M121.2.2.2 ∈ tg := tg_m 830 (by decide +kernel) (by decide +kernel)
theorem w_828 : Cond.instanceMethod (⟨"PostSharesModel", "reason", "(I)I"⟩ : MethodName) ∈ tg := tg_m 828 (by decide +kernel) (by decide +kernel)
theorem w_829 : Cond.selects "PostSharesModel" (⟨"PostSharesModel", "reason", "(I)I"⟩ : MethodName) (⟨"PostSharesModel", "reason", "(I)I"⟩ : MethodName) ∈ tg := tg_m 829 (by decide +kernel) (by decide +kernel)
theorem w_851 : Cond.code M122.1 M122.2.1 M122.2.2.1 M122.2.2.2 ∈ tg := tg_m 851 (by decide +kernel) (by decide +kernel)
theorem w_850 : Cond.instanceMethod (⟨"PostSharesModel", "above", "(I)I"⟩ : MethodName) ∈ tg := tg_m 850 (by decide +kernel) (by decide +kernel)
theorem w_46 : Cond.selects "PostSharesModel" (⟨"PostSharesModel", "above", "(I)I"⟩ : MethodName) (⟨"PostSharesModel", "above", "(I)I"⟩ : MethodName) ∈ tg := tg_m 46 (by decide +kernel) (by decide +kernel)
theorem w_855 : Cond.code M123.1 M123.2.1 M123.2.2.1 M123.2.2.2 ∈ tg := tg_m 855 (by decide +kernel) (by decide +kernel)
theorem w_854 : Cond.instanceMethod (⟨"PostSharesModel", "below", "(I)I"⟩ : MethodName) ∈ tg := tg_m 854 (by decide +kernel) (by decide +kernel)
theorem w_47 : Cond.selects "PostSharesModel" (⟨"PostSharesModel", "below", "(I)I"⟩ : MethodName) (⟨"PostSharesModel", "below", "(I)I"⟩ : MethodName) ∈ tg := tg_m 47 (by decide +kernel) (by decide +kernel)
theorem w_847 : Cond.code M124.1 M124.2.1 M124.2.2.1 M124.2.2.2 ∈ tg := tg_m 847 (by decide +kernel) (by decide +kernel)
theorem w_846 : Cond.instanceMethod (⟨"PostSharesModel", "isAheadOf", "(II)Z"⟩ : MethodName) ∈ tg := tg_m 846 (by decide +kernel) (by decide +kernel)
theorem w_45 : Cond.selects "PostSharesModel" (⟨"PostSharesModel", "isAheadOf", "(II)Z"⟩ : MethodName) (⟨"PostSharesModel", "isAheadOf", "(II)Z"⟩ : MethodName) ∈ tg := tg_m 45 (by decide +kernel) (by decide +kernel)
theorem w_843 : Cond.code M125.1 M125.2.1 M125.2.2.1 M125.2.2.2 ∈ tg := tg_m 843 (by decide +kernel) (by decide +kernel)
theorem w_842 : Cond.instanceMethod (⟨"PostSharesModel", "laysTurns", "()V"⟩ : MethodName) ∈ tg := tg_m 842 (by decide +kernel) (by decide +kernel)
theorem w_44 : Cond.selects "PostSharesModel" (⟨"PostSharesModel", "laysTurns", "()V"⟩ : MethodName) (⟨"PostSharesModel", "laysTurns", "()V"⟩ : MethodName) ∈ tg := tg_m 44 (by decide +kernel) (by decide +kernel)
theorem w_839 : Cond.code M126.1 M126.2.1 M126.2.2.1 M126.2.2.2 ∈ tg := tg_m 839 (by decide +kernel) (by decide +kernel)
theorem w_838 : Cond.instanceMethod (⟨"PostSharesModel", "turnNow", "(I)I"⟩ : MethodName) ∈ tg := tg_m 838 (by decide +kernel) (by decide +kernel)
theorem w_43 : Cond.selects "PostSharesModel" (⟨"PostSharesModel", "turnNow", "(I)I"⟩ : MethodName) (⟨"PostSharesModel", "turnNow", "(I)I"⟩ : MethodName) ∈ tg := tg_m 43 (by decide +kernel) (by decide +kernel)
theorem w_835 : Cond.code M127.1 M127.2.1 M127.2.2.1 M127.2.2.2 ∈ tg := tg_m 835 (by decide +kernel) (by decide +kernel)
theorem w_833 : Cond.instanceMethod (⟨"PostSharesModel", "turn", "(I)I"⟩ : MethodName) ∈ tg := tg_m 833 (by decide +kernel) (by decide +kernel)
theorem w_834 : Cond.selects "PostSharesModel" (⟨"PostSharesModel", "turn", "(I)I"⟩ : MethodName) (⟨"PostSharesModel", "turn", "(I)I"⟩ : MethodName) ∈ tg := tg_m 834 (by decide +kernel) (by decide +kernel)
theorem w_892 : Cond.code M128.1 M128.2.1 M128.2.2.1 M128.2.2.2 ∈ tg := tg_m 892 (by decide +kernel) (by decide +kernel)
theorem w_891 : Cond.instanceMethod (⟨"PostSharesModel", "turnsOf", "(II)I"⟩ : MethodName) ∈ tg := tg_m 891 (by decide +kernel) (by decide +kernel)
theorem w_54 : Cond.selects "PostSharesModel" (⟨"PostSharesModel", "turnsOf", "(II)I"⟩ : MethodName) (⟨"PostSharesModel", "turnsOf", "(II)I"⟩ : MethodName) ∈ tg := tg_m 54 (by decide +kernel) (by decide +kernel)
theorem w_884 : Cond.code M129.1 M129.2.1 M129.2.2.1 M129.2.2.2 ∈ tg := tg_m 884 (by decide +kernel) (by decide +kernel)
theorem w_883 : Cond.instanceMethod (⟨"PostSharesModel", "sumOf", "(I)I"⟩ : MethodName) ∈ tg := tg_m 883 (by decide +kernel) (by decide +kernel)
theorem w_52 : Cond.selects "PostSharesModel" (⟨"PostSharesModel", "sumOf", "(I)I"⟩ : MethodName) (⟨"PostSharesModel", "sumOf", "(I)I"⟩ : MethodName) ∈ tg := tg_m 52 (by decide +kernel) (by decide +kernel)
theorem w_896 : Cond.code M130.1 M130.2.1 M130.2.2.1 M130.2.2.2 ∈ tg := tg_m 896 (by decide +kernel) (by decide +kernel)
theorem w_895 : Cond.instanceMethod (⟨"PostSharesModel", "worths", "(I)I"⟩ : MethodName) ∈ tg := tg_m 895 (by decide +kernel) (by decide +kernel)
theorem w_55 : Cond.selects "PostSharesModel" (⟨"PostSharesModel", "worths", "(I)I"⟩ : MethodName) (⟨"PostSharesModel", "worths", "(I)I"⟩ : MethodName) ∈ tg := tg_m 55 (by decide +kernel) (by decide +kernel)
theorem w_867 : Cond.code M131.1 M131.2.1 M131.2.2.1 M131.2.2.2 ∈ tg := tg_m 867 (by decide +kernel) (by decide +kernel)
theorem w_866 : Cond.instanceMethod (⟨"PostSharesModel", "lotIs", "(II)I"⟩ : MethodName) ∈ tg := tg_m 866 (by decide +kernel) (by decide +kernel)
theorem w_49 : Cond.selects "PostSharesModel" (⟨"PostSharesModel", "lotIs", "(II)I"⟩ : MethodName) (⟨"PostSharesModel", "lotIs", "(II)I"⟩ : MethodName) ∈ tg := tg_m 49 (by decide +kernel) (by decide +kernel)
theorem w_859 : Cond.code M132.1 M132.2.1 M132.2.2.1 M132.2.2.2 ∈ tg := tg_m 859 (by decide +kernel) (by decide +kernel)
theorem w_857 : Cond.instanceMethod (⟨"PostSharesModel", "lot", "(II)I"⟩ : MethodName) ∈ tg := tg_m 857 (by decide +kernel) (by decide +kernel)
theorem w_858 : Cond.selects "PostSharesModel" (⟨"PostSharesModel", "lot", "(II)I"⟩ : MethodName) (⟨"PostSharesModel", "lot", "(II)I"⟩ : MethodName) ∈ tg := tg_m 858 (by decide +kernel) (by decide +kernel)
theorem w_880 : Cond.code M133.1 M133.2.1 M133.2.2.1 M133.2.2.2 ∈ tg := tg_m 880 (by decide +kernel) (by decide +kernel)
theorem w_879 : Cond.instanceMethod (⟨"PostSharesModel", "partyIs", "(II)I"⟩ : MethodName) ∈ tg := tg_m 879 (by decide +kernel) (by decide +kernel)
theorem w_51 : Cond.selects "PostSharesModel" (⟨"PostSharesModel", "partyIs", "(II)I"⟩ : MethodName) (⟨"PostSharesModel", "partyIs", "(II)I"⟩ : MethodName) ∈ tg := tg_m 51 (by decide +kernel) (by decide +kernel)
theorem w_871 : Cond.code M134.1 M134.2.1 M134.2.2.1 M134.2.2.2 ∈ tg := tg_m 871 (by decide +kernel) (by decide +kernel)
theorem w_869 : Cond.instanceMethod (⟨"PostSharesModel", "party", "(II)I"⟩ : MethodName) ∈ tg := tg_m 869 (by decide +kernel) (by decide +kernel)
theorem w_870 : Cond.selects "PostSharesModel" (⟨"PostSharesModel", "party", "(II)I"⟩ : MethodName) (⟨"PostSharesModel", "party", "(II)I"⟩ : MethodName) ∈ tg := tg_m 870 (by decide +kernel) (by decide +kernel)
theorem w_900 : Cond.code M135.1 M135.2.1 M135.2.2.1 M135.2.2.2 ∈ tg := tg_m 900 (by decide +kernel) (by decide +kernel)
theorem w_898 : Cond.instanceMethod (⟨"PostSharesModel", "worth", "(II)I"⟩ : MethodName) ∈ tg := tg_m 898 (by decide +kernel) (by decide +kernel)
theorem w_899 : Cond.selects "PostSharesModel" (⟨"PostSharesModel", "worth", "(II)I"⟩ : MethodName) (⟨"PostSharesModel", "worth", "(II)I"⟩ : MethodName) ∈ tg := tg_m 899 (by decide +kernel) (by decide +kernel)
theorem w_904 : Cond.code M136.1 M136.2.1 M136.2.2.1 M136.2.2.2 ∈ tg := tg_m 904 (by decide +kernel) (by decide +kernel)
theorem w_902 : Cond.instanceMethod (⟨"PostSharesModel", "rates", "(III)I"⟩ : MethodName) ∈ tg := tg_m 902 (by decide +kernel) (by decide +kernel)
theorem w_903 : Cond.selects "PostSharesModel" (⟨"PostSharesModel", "rates", "(III)I"⟩ : MethodName) (⟨"PostSharesModel", "rates", "(III)I"⟩ : MethodName) ∈ tg := tg_m 903 (by decide +kernel) (by decide +kernel)
theorem w_909 : Cond.code M137.1 M137.2.1 M137.2.2.1 M137.2.2.2 ∈ tg := tg_m 909 (by decide +kernel) (by decide +kernel)
theorem w_907 : Cond.instanceMethod (⟨"PostSharesModel", "strength", "(II)I"⟩ : MethodName) ∈ tg := tg_m 907 (by decide +kernel) (by decide +kernel)
theorem w_908 : Cond.selects "PostSharesModel" (⟨"PostSharesModel", "strength", "(II)I"⟩ : MethodName) (⟨"PostSharesModel", "strength", "(II)I"⟩ : MethodName) ∈ tg := tg_m 908 (by decide +kernel) (by decide +kernel)
theorem w_914 : Cond.code M138.1 M138.2.1 M138.2.2.1 M138.2.2.2 ∈ tg := tg_m 914 (by decide +kernel) (by decide +kernel)
theorem w_912 : Cond.instanceMethod (⟨"PostSharesModel", "rule", "(I)I"⟩ : MethodName) ∈ tg := tg_m 912 (by decide +kernel) (by decide +kernel)
theorem w_913 : Cond.selects "PostSharesModel" (⟨"PostSharesModel", "rule", "(I)I"⟩ : MethodName) (⟨"PostSharesModel", "rule", "(I)I"⟩ : MethodName) ∈ tg := tg_m 913 (by decide +kernel) (by decide +kernel)
theorem w_922 : Cond.code M139.1 M139.2.1 M139.2.2.1 M139.2.2.2 ∈ tg := tg_m 922 (by decide +kernel) (by decide +kernel)
theorem w_921 : Cond.static (⟨"PostSharesModel", "lesser", "(II)I"⟩ : MethodName) ∈ tg := tg_m 921 (by decide +kernel) (by decide +kernel)
theorem w_919 : Cond.code M140.1 M140.2.1 M140.2.2.1 M140.2.2.2 ∈ tg := tg_m 919 (by decide +kernel) (by decide +kernel)
theorem w_917 : Cond.instanceMethod (⟨"PostSharesModel", "binds", "(II)I"⟩ : MethodName) ∈ tg := tg_m 917 (by decide +kernel) (by decide +kernel)
theorem w_918 : Cond.selects "PostSharesModel" (⟨"PostSharesModel", "binds", "(II)I"⟩ : MethodName) (⟨"PostSharesModel", "binds", "(II)I"⟩ : MethodName) ∈ tg := tg_m 918 (by decide +kernel) (by decide +kernel)
theorem w_926 : Cond.code M141.1 M141.2.1 M141.2.2.1 M141.2.2.2 ∈ tg := tg_m 926 (by decide +kernel) (by decide +kernel)
theorem w_924 : Cond.instanceMethod (⟨"PostSharesModel", "joins", "(II)I"⟩ : MethodName) ∈ tg := tg_m 924 (by decide +kernel) (by decide +kernel)
theorem w_925 : Cond.selects "PostSharesModel" (⟨"PostSharesModel", "joins", "(II)I"⟩ : MethodName) (⟨"PostSharesModel", "joins", "(II)I"⟩ : MethodName) ∈ tg := tg_m 925 (by decide +kernel) (by decide +kernel)
theorem w_938 : Cond.code M142.1 M142.2.1 M142.2.2.1 M142.2.2.2 ∈ tg := tg_m 938 (by decide +kernel) (by decide +kernel)
theorem w_937 : Cond.instanceMethod (⟨"PostSharesModel", "left", "()I"⟩ : MethodName) ∈ tg := tg_m 937 (by decide +kernel) (by decide +kernel)
theorem w_57 : Cond.selects "PostSharesModel" (⟨"PostSharesModel", "left", "()I"⟩ : MethodName) (⟨"PostSharesModel", "left", "()I"⟩ : MethodName) ∈ tg := tg_m 57 (by decide +kernel) (by decide +kernel)
theorem w_934 : Cond.code M143.1 M143.2.1 M143.2.2.1 M143.2.2.2 ∈ tg := tg_m 934 (by decide +kernel) (by decide +kernel)
theorem w_933 : Cond.instanceMethod (⟨"PostSharesModel", "canTake", "(I)Z"⟩ : MethodName) ∈ tg := tg_m 933 (by decide +kernel) (by decide +kernel)
theorem w_56 : Cond.selects "PostSharesModel" (⟨"PostSharesModel", "canTake", "(I)Z"⟩ : MethodName) (⟨"PostSharesModel", "canTake", "(I)Z"⟩ : MethodName) ∈ tg := tg_m 56 (by decide +kernel) (by decide +kernel)
theorem w_930 : Cond.code M144.1 M144.2.1 M144.2.2.1 M144.2.2.2 ∈ tg := tg_m 930 (by decide +kernel) (by decide +kernel)
theorem w_928 : Cond.instanceMethod (⟨"PostSharesModel", "takes", "(I)I"⟩ : MethodName) ∈ tg := tg_m 928 (by decide +kernel) (by decide +kernel)
theorem w_929 : Cond.selects "PostSharesModel" (⟨"PostSharesModel", "takes", "(I)I"⟩ : MethodName) (⟨"PostSharesModel", "takes", "(I)I"⟩ : MethodName) ∈ tg := tg_m 929 (by decide +kernel) (by decide +kernel)
theorem w_946 : Cond.code M145.1 M145.2.1 M145.2.2.1 M145.2.2.2 ∈ tg := tg_m 946 (by decide +kernel) (by decide +kernel)
theorem w_945 : Cond.instanceMethod (⟨"PostSharesModel", "canVeto", "(I)Z"⟩ : MethodName) ∈ tg := tg_m 945 (by decide +kernel) (by decide +kernel)
theorem w_58 : Cond.selects "PostSharesModel" (⟨"PostSharesModel", "canVeto", "(I)Z"⟩ : MethodName) (⟨"PostSharesModel", "canVeto", "(I)Z"⟩ : MethodName) ∈ tg := tg_m 58 (by decide +kernel) (by decide +kernel)
theorem w_942 : Cond.code M146.1 M146.2.1 M146.2.2.1 M146.2.2.2 ∈ tg := tg_m 942 (by decide +kernel) (by decide +kernel)
theorem w_940 : Cond.instanceMethod (⟨"PostSharesModel", "vetoes", "(I)I"⟩ : MethodName) ∈ tg := tg_m 940 (by decide +kernel) (by decide +kernel)
theorem w_941 : Cond.selects "PostSharesModel" (⟨"PostSharesModel", "vetoes", "(I)I"⟩ : MethodName) (⟨"PostSharesModel", "vetoes", "(I)I"⟩ : MethodName) ∈ tg := tg_m 941 (by decide +kernel) (by decide +kernel)
theorem w_984 : Cond.code M147.1 M147.2.1 M147.2.2.1 M147.2.2.2 ∈ tg := tg_m 984 (by decide +kernel) (by decide +kernel)
theorem w_983 : Cond.static (⟨"PostSharesModel", "at", "(II)I"⟩ : MethodName) ∈ tg := tg_m 983 (by decide +kernel) (by decide +kernel)
theorem w_973 : Cond.code M148.1 M148.2.1 M148.2.2.1 M148.2.2.2 ∈ tg := tg_m 973 (by decide +kernel) (by decide +kernel)
theorem w_972 : Cond.instanceMethod (⟨"PostSharesModel", "laysAsked", "(I)V"⟩ : MethodName) ∈ tg := tg_m 972 (by decide +kernel) (by decide +kernel)
theorem w_63 : Cond.selects "PostSharesModel" (⟨"PostSharesModel", "laysAsked", "(I)V"⟩ : MethodName) (⟨"PostSharesModel", "laysAsked", "(I)V"⟩ : MethodName) ∈ tg := tg_m 63 (by decide +kernel) (by decide +kernel)
theorem w_981 : Cond.code M149.1 M149.2.1 M149.2.2.1 M149.2.2.2 ∈ tg := tg_m 981 (by decide +kernel) (by decide +kernel)
theorem w_980 : Cond.instanceMethod (⟨"PostSharesModel", "tries", "(IIIII)V"⟩ : MethodName) ∈ tg := tg_m 980 (by decide +kernel) (by decide +kernel)
theorem w_65 : Cond.selects "PostSharesModel" (⟨"PostSharesModel", "tries", "(IIIII)V"⟩ : MethodName) (⟨"PostSharesModel", "tries", "(IIIII)V"⟩ : MethodName) ∈ tg := tg_m 65 (by decide +kernel) (by decide +kernel)
theorem w_977 : Cond.code M150.1 M150.2.1 M150.2.2.1 M150.2.2.2 ∈ tg := tg_m 977 (by decide +kernel) (by decide +kernel)
theorem w_976 : Cond.instanceMethod (⟨"PostSharesModel", "chosen", "(IIII)I"⟩ : MethodName) ∈ tg := tg_m 976 (by decide +kernel) (by decide +kernel)
theorem w_64 : Cond.selects "PostSharesModel" (⟨"PostSharesModel", "chosen", "(IIII)I"⟩ : MethodName) (⟨"PostSharesModel", "chosen", "(IIII)I"⟩ : MethodName) ∈ tg := tg_m 64 (by decide +kernel) (by decide +kernel)
theorem w_966 : Cond.code M151.1 M151.2.1 M151.2.2.1 M151.2.2.2 ∈ tg := tg_m 966 (by decide +kernel) (by decide +kernel)
theorem w_965 : Cond.instanceMethod (⟨"PostSharesModel", "laysWithin", "(I)V"⟩ : MethodName) ∈ tg := tg_m 965 (by decide +kernel) (by decide +kernel)
theorem w_62 : Cond.selects "PostSharesModel" (⟨"PostSharesModel", "laysWithin", "(I)V"⟩ : MethodName) (⟨"PostSharesModel", "laysWithin", "(I)V"⟩ : MethodName) ∈ tg := tg_m 62 (by decide +kernel) (by decide +kernel)
theorem w_962 : Cond.code M152.1 M152.2.1 M152.2.2.1 M152.2.2.2 ∈ tg := tg_m 962 (by decide +kernel) (by decide +kernel)
theorem w_961 : Cond.instanceMethod (⟨"PostSharesModel", "laysEnds", "(I)V"⟩ : MethodName) ∈ tg := tg_m 961 (by decide +kernel) (by decide +kernel)
theorem w_61 : Cond.selects "PostSharesModel" (⟨"PostSharesModel", "laysEnds", "(I)V"⟩ : MethodName) (⟨"PostSharesModel", "laysEnds", "(I)V"⟩ : MethodName) ∈ tg := tg_m 61 (by decide +kernel) (by decide +kernel)
theorem w_958 : Cond.code M153.1 M153.2.1 M153.2.2.1 M153.2.2.2 ∈ tg := tg_m 958 (by decide +kernel) (by decide +kernel)
theorem w_957 : Cond.instanceMethod (⟨"PostSharesModel", "isTurnLeft", "()Z"⟩ : MethodName) ∈ tg := tg_m 957 (by decide +kernel) (by decide +kernel)
theorem w_60 : Cond.selects "PostSharesModel" (⟨"PostSharesModel", "isTurnLeft", "()Z"⟩ : MethodName) (⟨"PostSharesModel", "isTurnLeft", "()Z"⟩ : MethodName) ∈ tg := tg_m 60 (by decide +kernel) (by decide +kernel)
theorem w_954 : Cond.code M154.1 M154.2.1 M154.2.2.1 M154.2.2.2 ∈ tg := tg_m 954 (by decide +kernel) (by decide +kernel)
theorem w_953 : Cond.instanceMethod (⟨"PostSharesModel", "foreseenBy", "(II)I"⟩ : MethodName) ∈ tg := tg_m 953 (by decide +kernel) (by decide +kernel)
theorem w_59 : Cond.selects "PostSharesModel" (⟨"PostSharesModel", "foreseenBy", "(II)I"⟩ : MethodName) (⟨"PostSharesModel", "foreseenBy", "(II)I"⟩ : MethodName) ∈ tg := tg_m 59 (by decide +kernel) (by decide +kernel)
theorem w_950 : Cond.code M155.1 M155.2.1 M155.2.2.1 M155.2.2.2 ∈ tg := tg_m 950 (by decide +kernel) (by decide +kernel)
theorem w_948 : Cond.instanceMethod (⟨"PostSharesModel", "foreseen", "(I)I"⟩ : MethodName) ∈ tg := tg_m 948 (by decide +kernel) (by decide +kernel)
theorem w_949 : Cond.selects "PostSharesModel" (⟨"PostSharesModel", "foreseen", "(I)I"⟩ : MethodName) (⟨"PostSharesModel", "foreseen", "(I)I"⟩ : MethodName) ∈ tg := tg_m 949 (by decide +kernel) (by decide +kernel)
theorem w_988 : Cond.code M156.1 M156.2.1 M156.2.2.1 M156.2.2.2 ∈ tg := tg_m 988 (by decide +kernel) (by decide +kernel)
theorem w_986 : Cond.instanceMethod (⟨"PostSharesModel", "best", "()I"⟩ : MethodName) ∈ tg := tg_m 986 (by decide +kernel) (by decide +kernel)
theorem w_987 : Cond.selects "PostSharesModel" (⟨"PostSharesModel", "best", "()I"⟩ : MethodName) (⟨"PostSharesModel", "best", "()I"⟩ : MethodName) ∈ tg := tg_m 987 (by decide +kernel) (by decide +kernel)
theorem w_996 : Cond.code M157.1 M157.2.1 M157.2.2.1 M157.2.2.2 ∈ tg := tg_m 996 (by decide +kernel) (by decide +kernel)
theorem w_995 : Cond.instanceMethod (⟨"PostSharesModel", "triesNow", "(I)V"⟩ : MethodName) ∈ tg := tg_m 995 (by decide +kernel) (by decide +kernel)
theorem w_66 : Cond.selects "PostSharesModel" (⟨"PostSharesModel", "triesNow", "(I)V"⟩ : MethodName) (⟨"PostSharesModel", "triesNow", "(I)V"⟩ : MethodName) ∈ tg := tg_m 66 (by decide +kernel) (by decide +kernel)
theorem w_992 : Cond.code M158.1 M158.2.1 M158.2.2.1 M158.2.2.2 ∈ tg := tg_m 992 (by decide +kernel) (by decide +kernel)
theorem w_990 : Cond.instanceMethod (⟨"PostSharesModel", "against", "(I)I"⟩ : MethodName) ∈ tg := tg_m 990 (by decide +kernel) (by decide +kernel)
theorem w_991 : Cond.selects "PostSharesModel" (⟨"PostSharesModel", "against", "(I)I"⟩ : MethodName) (⟨"PostSharesModel", "against", "(I)I"⟩ : MethodName) ∈ tg := tg_m 991 (by decide +kernel) (by decide +kernel)
theorem w_1000 : Cond.code M159.1 M159.2.1 M159.2.2.1 M159.2.2.2 ∈ tg := tg_m 1000 (by decide +kernel) (by decide +kernel)
theorem w_998 : Cond.instanceMethod (⟨"PostSharesModel", "taking", "(II)I"⟩ : MethodName) ∈ tg := tg_m 998 (by decide +kernel) (by decide +kernel)
theorem w_999 : Cond.selects "PostSharesModel" (⟨"PostSharesModel", "taking", "(II)I"⟩ : MethodName) (⟨"PostSharesModel", "taking", "(II)I"⟩ : MethodName) ∈ tg := tg_m 999 (by decide +kernel) (by decide +kernel)
theorem w_1004 : Cond.code M160.1 M160.2.1 M160.2.2.1 M160.2.2.2 ∈ tg := tg_m 1004 (by decide +kernel) (by decide +kernel)
theorem w_1002 : Cond.instanceMethod (⟨"PostSharesModel", "course", "(I)I"⟩ : MethodName) ∈ tg := tg_m 1002 (by decide +kernel) (by decide +kernel)
theorem w_1003 : Cond.selects "PostSharesModel" (⟨"PostSharesModel", "course", "(I)I"⟩ : MethodName) (⟨"PostSharesModel", "course", "(I)I"⟩ : MethodName) ∈ tg := tg_m 1003 (by decide +kernel) (by decide +kernel)
theorem w_1008 : Cond.code M161.1 M161.2.1 M161.2.2.1 M161.2.2.2 ∈ tg := tg_m 1008 (by decide +kernel) (by decide +kernel)
theorem w_1006 : Cond.instanceMethod (⟨"PostSharesModel", "sincere", "(I)I"⟩ : MethodName) ∈ tg := tg_m 1006 (by decide +kernel) (by decide +kernel)
theorem w_1007 : Cond.selects "PostSharesModel" (⟨"PostSharesModel", "sincere", "(I)I"⟩ : MethodName) (⟨"PostSharesModel", "sincere", "(I)I"⟩ : MethodName) ∈ tg := tg_m 1007 (by decide +kernel) (by decide +kernel)
theorem w_1012 : Cond.code M162.1 M162.2.1 M162.2.2.1 M162.2.2.2 ∈ tg := tg_m 1012 (by decide +kernel) (by decide +kernel)
theorem w_1011 : Cond.instanceMethod (⟨"PostSharesModel", "sincereOf", "(I)I"⟩ : MethodName) ∈ tg := tg_m 1011 (by decide +kernel) (by decide +kernel)
theorem w_67 : Cond.selects "PostSharesModel" (⟨"PostSharesModel", "sincereOf", "(I)I"⟩ : MethodName) (⟨"PostSharesModel", "sincereOf", "(I)I"⟩ : MethodName) ∈ tg := tg_m 67 (by decide +kernel) (by decide +kernel)
theorem w_1016 : Cond.code M163.1 M163.2.1 M163.2.2.1 M163.2.2.2 ∈ tg := tg_m 1016 (by decide +kernel) (by decide +kernel)
theorem w_1014 : Cond.instanceMethod (⟨"PostSharesModel", "without", "(II)I"⟩ : MethodName) ∈ tg := tg_m 1014 (by decide +kernel) (by decide +kernel)
theorem w_1015 : Cond.selects "PostSharesModel" (⟨"PostSharesModel", "without", "(II)I"⟩ : MethodName) (⟨"PostSharesModel", "without", "(II)I"⟩ : MethodName) ∈ tg := tg_m 1015 (by decide +kernel) (by decide +kernel)
theorem w_1021 : Cond.code M164.1 M164.2.1 M164.2.2.1 M164.2.2.2 ∈ tg := tg_m 1021 (by decide +kernel) (by decide +kernel)
theorem w_1019 : Cond.instanceMethod (⟨"PostSharesModel", "back", "()I"⟩ : MethodName) ∈ tg := tg_m 1019 (by decide +kernel) (by decide +kernel)
theorem w_1020 : Cond.selects "PostSharesModel" (⟨"PostSharesModel", "back", "()I"⟩ : MethodName) (⟨"PostSharesModel", "back", "()I"⟩ : MethodName) ∈ tg := tg_m 1020 (by decide +kernel) (by decide +kernel)
theorem w_1030 : Cond.code M165.1 M165.2.1 M165.2.2.1 M165.2.2.2 ∈ tg := tg_m 1030 (by decide +kernel) (by decide +kernel)
theorem w_1029 : Cond.instanceMethod (⟨"PostSharesModel", "tells", "(I)I"⟩ : MethodName) ∈ tg := tg_m 1029 (by decide +kernel) (by decide +kernel)
theorem w_68 : Cond.selects "PostSharesModel" (⟨"PostSharesModel", "tells", "(I)I"⟩ : MethodName) (⟨"PostSharesModel", "tells", "(I)I"⟩ : MethodName) ∈ tg := tg_m 68 (by decide +kernel) (by decide +kernel)
theorem w_1025 : Cond.code M166.1 M166.2.1 M166.2.2.1 M166.2.2.2 ∈ tg := tg_m 1025 (by decide +kernel) (by decide +kernel)
theorem w_1023 : Cond.instanceMethod (⟨"PostSharesModel", "told", "(I)I"⟩ : MethodName) ∈ tg := tg_m 1023 (by decide +kernel) (by decide +kernel)
theorem w_1024 : Cond.selects "PostSharesModel" (⟨"PostSharesModel", "told", "(I)I"⟩ : MethodName) (⟨"PostSharesModel", "told", "(I)I"⟩ : MethodName) ∈ tg := tg_m 1024 (by decide +kernel) (by decide +kernel)
theorem w_1034 : Cond.code M167.1 M167.2.1 M167.2.2.1 M167.2.2.2 ∈ tg := tg_m 1034 (by decide +kernel) (by decide +kernel)
theorem w_1032 : Cond.instanceMethod (⟨"PostSharesModel", "digest", "()J"⟩ : MethodName) ∈ tg := tg_m 1032 (by decide +kernel) (by decide +kernel)
theorem w_1033 : Cond.selects "PostSharesModel" (⟨"PostSharesModel", "digest", "()J"⟩ : MethodName) (⟨"PostSharesModel", "digest", "()J"⟩ : MethodName) ∈ tg := tg_m 1033 (by decide +kernel) (by decide +kernel)
theorem w_563 : Cond.code M168.1 M168.2.1 M168.2.2.1 M168.2.2.2 ∈ tg := tg_m 563 (by decide +kernel) (by decide +kernel)
theorem w_562 : Cond.static (⟨"java/lang/Integer", "bitCount", "(I)I"⟩ : MethodName) ∈ tg := tg_m 562 (by decide +kernel) (by decide +kernel)
theorem w_96 : Cond.code M169.1 M169.2.1 M169.2.2.1 M169.2.2.2 ∈ tg := tg_m 96 (by decide +kernel) (by decide +kernel)
theorem w_95 : Cond.static (⟨"java/util/Arrays", "fill", "([II)V"⟩ : MethodName) ∈ tg := tg_m 95 (by decide +kernel) (by decide +kernel)
end
section
/-! A SMALL MACHINE OF OUR OWN over places instead of addresses: what a step of it does, the machine does (parts 02 to 04); place i lies at the address S + i. -/
abbrev aE : Type := List Int32 ⊕ List Int64 ⊕ List (Option Nat) ⊕ (Nat × List Value)
abbrev aH : Type := List aE
/-- a value; or the int (0), or its long (1), of a variable: 3 i: below 0; 3 B + 1: B or more; 3 i + 2: any; or the law's script (2) -/
abbrev aV : Type := Value ⊕ (Nat × Nat)
abbrev aL : Type := List (Nat × aV)
abbrev aM : Type := MethodName × ByteArray × Nat × Option FieldType
abbrev aX : Type := (Nat × aL × List aV × aH × Nat × Nat) ⊕ (Nat × List aV × List aV) ⊕ Option Value
abbrev aO : Type := aL → List aV → aH → Option aX
abbrev aG : Type := Nat × va_G × ClassId × ClassId × ClassId × (Nat → Int32) × Nat
def tv (S : Nat) : Value → Value
  | .ref i => .ref (S + i)
  | v => v
theorem tv_cat (S : Nat) (v : Value) : (tv S v).category = v.category := by cases v <;> rfl
def tx (G : aG) : aV → Value
  | .inl v => tv G.1 v
  | .inr (0, i) => .int (G.2.2.2.2.2.1 i)
  | .inr (1, i) => .long (G.2.2.2.2.2.1 i).toInt64
  | .inr (_ + 2, _) => .ref G.2.2.2.2.2.2
def ac : aV → Nat
  | .inl v => v.category
  | .inr (0, _) => 1
  | .inr (1, _) => 2
  | .inr (_ + 2, _) => 1
theorem tx_cat (G : aG) (v : aV) : (tx G v).category = ac v := by
  match v with
  | .inl v => exact tv_cat G.1 v
  | .inr (0, i) => rfl
  | .inr (1, i) => rfl
  | .inr (k + 2, i) => rfl
/-- the variables are as their numbers say -/
def Rh (ρ : Nat → Int32) : Prop := (∀ i, ρ (3 * i) < 0) ∧ ∀ B, B < 1000 → nI B ≤ ρ (3 * B + 1)
def te (G : aG) : aE → va_E
  | .inl l => .inl (G.2.2.1, l.length, .inl (fun j => l.getD j 0))
  | .inr (.inl l) => .inl (G.2.2.2.1, l.length, .inr (.inl (fun j => l.getD j 0)))
  | .inr (.inr (.inl l)) => .inl (G.2.2.2.2.1, l.length, .inr (.inr (.inr (.inr (fun j => (l.getD j none).map (G.1 + ·))))))
  | .inr (.inr (.inr o)) => .inr (o.1, o.2.map (tv G.1))
def tw (G : aG) : Nat → aH → va_W
  | _, [] => []
  | o, e :: t => (o, te G e) :: tw G (o + 1) t
theorem tw_get (G : aG) : ∀ (h : aH) (o k : Nat), (tw G o h)[k]? = (h[k]?).map (fun e => (o + k, te G e))
  | [], o, k => by simp [tw]
  | e :: t, o, 0 => by simp [tw]
  | e :: t, o, k + 1 => by
    have := tw_get G t (o + 1) k
    simp only [tw, List.getElem?_cons_succ, this]
    congr 1
    funext x
    rw [show o + 1 + k = o + (k + 1) by omega]
theorem tw_set (G : aG) (e : aE) : ∀ (h : aH) (o k : Nat), tw G o (h.set k e) = (tw G o h).set k (o + k, te G e)
  | [], o, k => by simp [tw]
  | x :: t, o, 0 => by simp [tw]
  | x :: t, o, k + 1 => by
    have := tw_set G e t (o + 1) k
    simp only [tw, List.set_cons_succ, this]
    rw [show o + 1 + k = o + (k + 1) by omega]
theorem tw_app (G : aG) (e : aE) : ∀ (h : aH) (o : Nat), tw G o (h ++ [e]) = tw G o h ++ [(o + h.length, te G e)]
  | [], o => by simp [tw]
  | x :: t, o => by
    have := tw_app G e t (o + 1)
    simp only [List.cons_append, tw, this, List.length_cons]
    rw [show o + 1 + t.length = o + (t.length + 1) by omega]
theorem tw_D (G : aG) (h : aH) : va_D (fun q : Nat => G.1 ≤ q) (tw G G.1 h) := by
  refine ⟨fun i j p q hi hj e => ?_, fun k q hk => ?_⟩
  · rw [tw_get] at hi hj
    obtain ⟨x, -, rfl⟩ := Option.map_eq_some_iff.mp hi
    obtain ⟨y, -, rfl⟩ := Option.map_eq_some_iff.mp hj
    simp only at e
    omega
  · rw [tw_get] at hk
    obtain ⟨x, -, rfl⟩ := Option.map_eq_some_iff.mp hk
    exact Nat.le_add_right _ _
def Hp (G : aG) (h : aH) (H : Heap) : Prop := va_P G.2.1 vwCl (tw G G.1 h) H ∧ H.size = G.1 + h.length
theorem hp_at {G : aG} {h : aH} {k : Nat} {e : aE} (hk : h[k]? = some e) : (tw G G.1 h)[k]? = some (G.1 + k, te G e) := by rw [tw_get, hk]; rfl
theorem hp_set {G : aG} {h : aH} {H H1 : Heap} {k : Nat} {e e' : aE} (hp : Hp G h H) (hk : h[k]? = some e) (hz : H1.size = H.size) (oq : ∀ q : Nat, q ≠ G.1 + k → H1[q]? = H[q]?) (hc : va_at G.2.1 vwCl (G.1 + k, te G e') H1) : Hp G (h.set k e') H1 := by
  refine ⟨?_, by rw [hz, hp.2, List.length_set]⟩
  rw [tw_set]
  exact hp.1.set (tw_D G h) (hp_at hk) hc oq
theorem hp_put {G : aG} {h : aH} {k i : Nat} {e : aE} {s : State} {H H1 : Heap} {locs : List Loc} (hS : va_S (fun q : Nat => G.1 ≤ q) s.heap H locs) (hz : H1.size = H.size) (oq : ∀ q : Nat, q ≠ G.1 + k → H1[q]? = H[q]?) : va_S (fun q : Nat => G.1 ≤ q) s.heap H1 (locs ++ [⟨G.1 + k, i⟩]) := hS.put hz oq (Nat.le_add_right _ _)
theorem hp_push {G : aG} {h : aH} {H H1 : Heap} {e : aE} (hp : Hp G h H) (hz : H1.size = H.size + 1) (oq : ∀ q : Nat, q < H.size → H1[q]? = H[q]?) (hc : va_at G.2.1 vwCl (H.size, te G e) H1) : Hp G (h ++ [e]) H1 := by
  refine ⟨?_, by rw [hz, hp.2, List.length_append]; rfl⟩
  rw [tw_app]
  refine (hp.1.kept (fun k q hk => oq q.1 ((hp.1 k q hk).lt))).app (fun k q hk => ?_)
  have hz : k < 1 := (List.getElem?_eq_some_iff.mp hk).1
  rw [show k = 0 by omega] at hk
  cases hk
  rw [← hp.2]
  exact hc
theorem va_S.grow {A : Nat → Prop} {H0 H H1 : Heap} {locs : List Loc} (hS : va_S A H0 H locs) (hz : H.size ≤ H1.size) (oq : ∀ q : Nat, q < H.size → H1[q]? = H[q]?) : va_S A H0 H1 locs := ⟨Nat.le_trans hS.1 hz, fun q h1 h2 => (oq q (Nat.lt_of_lt_of_le h1 hS.1)).trans (hS.2.1 q h1 h2), hS.2.2⟩
def tT (G : aG) : List (ClassId × FieldType) := [(G.2.2.1, .int), (G.2.2.2.1, .long), (G.2.2.2.2.1, .object RX0)]
def nw_1 : Cond := .methodLinkNest RX4 18 yX0_init RX4
def nw_2 : Cond := .methodLinkNest RX2 24 yX0_init RX4
def nw_3 : Cond := .methodLinkNest RX3 75 yX4_bit RX4
def nw_4 : Cond := .methodLinkNest RX0 82 yX4_bit RX4
def nw_5 : Cond := .methodLinkNest RX1 82 yX4_bit RX4
/-- what is carried beside the good words -/
def Kx (G : aG) (U : State) : Prop := va_K G.2.1 vwCl (tT G) U ∧ va_AO RX0 U ∧ va_Nw nw_1 U ∧ va_Nw nw_2 U ∧ va_Nw nw_3 U ∧ va_Nw nw_4 U ∧ va_Nw nw_5 U
theorem Kx.warm {G : aG} {s U : State} (hW : s.WarmedH U.vm) (h : Kx G s) : Kx G U := by
  obtain ⟨h1, h2, h3, h4, h5, h6, h7⟩ := h
  exact ⟨va_K.moved hW.alike h1, va_AO.moved hW.alike h2, va_Nw.warmM hW h3, va_Nw.warmM hW h4, va_Nw.warmM hW h5, va_Nw.warmM hW h6, va_Nw.warmM hW h7⟩
theorem Kx.call {G : aG} {U : State} {g : JFrame} {mk : MethodId} {a : Array Value} (h : Kx G U) : Kx G (U.calling g mk a) := by
  obtain ⟨h1, h2, h3, h4, h5, h6, h7⟩ := h
  exact ⟨va_K.moved (u := U) (U := U.calling g mk a) (Vm.Alike.refl U.vm) h1, va_AO.moved (u := U) (U := U.calling g mk a) (Vm.Alike.refl U.vm) h2, va_Nw.same (u := U) (U := U.calling g mk a) rfl rfl h3, va_Nw.same (u := U) (U := U.calling g mk a) rfl rfl h4, va_Nw.same (u := U) (U := U.calling g mk a) rfl rfl h5, va_Nw.same (u := U) (U := U.calling g mk a) rfl rfl h6, va_Nw.same (u := U) (U := U.calling g mk a) rfl rfl h7⟩
/-- a method at its frame -/
def Fx (G : aG) (M : aM) (d : Nat) (p : Program) (R : Room) (s : State) (m : MethodId) (args : Array Value) (meth : Method) (c : Code) : Prop :=
  (p.tables.exec = Jvm.exec ∧ c.code = M.2.1 ∧ c.maxLocals = M.2.2.1 ∧ s.vm.findClass M.1.cls = some m.cls ∧ ∀ w ∈ tg, w.before args s = true) ∧ (meth.sig.returnType = M.2.2.2 ∧ meth.locks = false ∧ (M.1.name = "<init>" → meth.name = "<init>") ∧ Rh G.2.2.2.2.2.1) ∧ Kx G s ∧ G.1 ≤ s.heap.size ∧ d + 1 ≤ R.frames ∧ 40 * (d + 1) ≤ R.locals
def tl (G : aG) (lv : aL) : List (Nat × Value) := lv.map fun q => (q.1, tx G q.2)
/-- W at a state of the small machine -/
def Wc (G : aG) (nL : Nat) (p : Program) (l : Launch) (e : Env) (R : Room) (s : State) (m : MethodId) (args : Array Value) (below : List Frame) (meth : Method) (c : Code) (Q : State → Prop) (pc : Nat) (lv : aL) (st : List aV) (h : aH) (a b : Nat) : Prop :=
  ∀ (H : Heap) (locs : List Loc) (ls : Array Slot), Hp G h H → va_S (fun q : Nat => G.1 ≤ q) s.heap H locs → lv_has ls nL (tl G lv) → W p l e R s m args below meth c H locs a b Q (F0 m pc ls (st.map (tx G)))
def Qx (G : aG) (r : Option Value) (h : aH) : Array Value → State → Outcome → State → Prop := fun _ st oc t => oc = .returned (r.map (tv G.1)) ∧ Hp G h t.heap ∧ va_F (fun q : Nat => G.1 ≤ q) st t
def Pcx (G : aG) (as : List aV) (h : aH) : Array Value → State → Prop := va_Pc (as.map (tx G)) (fun U => Hp G h U.heap ∧ Kx G U)
theorem Pcx.blind {G : aG} {as : List aV} {h : aH} : FrameBlind (Pcx G as h) := fun a U g mk q => ⟨q.1, q.2.1, q.2.2.call⟩
/-- a method's contract, at one state: its frames are d at most -/
def MtE (l : Launch) (G : aG) (d : Nat) (E : aM × Nat × Nat) (as : List aV) (h : aH) (r : Option Value) (h' : aH) : Prop :=
  Met l E.1.1 (.code E.1.1 E.1.2.1 E.1.2.2.1 E.1.2.2.2 :: tg) { frames := d, cells := E.2.1, slots := E.2.2, locals := 40 * d } (Pcx G as h) (Qx G r h') E.2.1 E.2.2 (fun q => G.1 ≤ q)
end
section
/-! THE STEPS of the small machine. What is computed is forced at once (frI, frL, frN, setF, fltF, appF), so that the kernel may run it. -/
theorem frI_x (x : Int32) : Int32.ofNat x.toBitVec.toNat = x := by
  apply Int32.toBitVec_inj.mp
  show BitVec.ofNat 32 x.toBitVec.toNat = x.toBitVec
  simp
theorem frL_x (x : Int64) : Int64.ofNat x.toBitVec.toNat = x := by
  apply Int64.toBitVec_inj.mp
  show BitVec.ofNat 64 x.toBitVec.toNat = x.toBitVec
  simp
def frN {β : Type} (n : Nat) (k : Nat → β) : β := match n with
  | 0 => k 0
  | m + 1 => k (m + 1)
theorem frN_eq {β : Type} (n : Nat) (k : Nat → β) : frN n k = k n := by cases n <;> rfl
def frI {β : Type} (x : Int32) (k : Int32 → β) : β := frN x.toBitVec.toNat (fun n => k (Int32.ofNat n))
theorem frI_eq {β : Type} (x : Int32) (k : Int32 → β) : frI x k = k x := by unfold frI; rw [frN_eq, frI_x]
def frL {β : Type} (x : Int64) (k : Int64 → β) : β := frN x.toBitVec.toNat (fun n => k (Int64.ofNat n))
theorem frL_eq {β : Type} (x : Int64) (k : Int64 → β) : frL x k = k x := by unfold frL; rw [frN_eq, frL_x]
def setF {α β : Type} : List α → Nat → α → (List α → β) → β
  | [], _, _, k => k []
  | _ :: t, 0, v, k => k (v :: t)
  | x :: t, j + 1, v, k => setF t j v (fun r => k (x :: r))
theorem setF_eq {α β : Type} : ∀ (l : List α) (j : Nat) (v : α) (k : List α → β), setF l j v k = k (l.set j v)
  | [], _, _, k => rfl
  | _ :: t, 0, v, k => rfl
  | x :: t, j + 1, v, k => by rw [setF, setF_eq]; rfl
def fltF {α β : Type} (p : α → Bool) : List α → (List α → β) → β
  | [], k => k []
  | x :: t, k => match p x with
    | true => fltF p t (fun r => k (x :: r))
    | false => fltF p t k
theorem fltF_eq {α β : Type} (p : α → Bool) : ∀ (l : List α) (k : List α → β), fltF p l k = k (l.filter p)
  | [], k => rfl
  | x :: t, k => by
    rw [fltF]
    cases hp : p x with
    | true => simp only [fltF_eq, List.filter_cons, hp, if_true]
    | false => simp only [fltF_eq, List.filter_cons, hp]; rfl
def appF {α β : Type} (e : α) : List α → Nat → (List α → Nat → β) → β
  | [], i, k => frN i (fun i => k [e] i)
  | x :: t, i, k => appF e t (i + 1) (fun r m => k (x :: r) m)
theorem appF_eq {α β : Type} (e : α) : ∀ (l : List α) (i : Nat) (k : List α → Nat → β), appF e l i k = k (l ++ [e]) (i + l.length)
  | [], i, k => by rw [appF, frN_eq]; rfl
  | x :: t, i, k => by rw [appF, appF_eq, show i + 1 + t.length = i + (x :: t).length by simp only [List.length_cons]; omega]; rfl
def popN : Nat → List aV → List aV → Option (List aV × List aV)
  | 0, st, acc => some (acc, st)
  | _ + 1, [], _ => none
  | n + 1, v :: t, acc => popN n t (v :: acc)
theorem popN_spec : ∀ (n : Nat) (st acc as r : List aV), popN n st acc = some (as, r) → acc.reverse ++ st = as.reverse ++ r ∧ as.length = n + acc.length
  | 0, st, acc, as, r, h => by cases h; exact ⟨rfl, by omega⟩
  | n + 1, [], acc, as, r, h => by cases h
  | n + 1, v :: t, acc, as, r, h => by
    have := popN_spec n t (v :: acc) as r h
    simp only [List.reverse_cons, List.append_assoc, List.singleton_append, List.length_cons] at this
    exact ⟨this.1, by omega⟩
def lk : aL → Nat → Option aV
  | [], _ => none
  | q :: t, i => match Nat.beq q.1 i with
    | true => some q.2
    | false => lk t i
theorem lk_spec : ∀ (lv : aL) (i : Nat) (v : aV), lk lv i = some v → (i, v) ∈ lv
  | [], i, v, h => by cases h
  | q :: t, i, v, h => by
    rw [lk] at h
    split at h
    · rename_i hq
      cases h
      rw [← Nat.eq_of_beq_eq_true hq]
      exact List.mem_cons_self
    · exact List.mem_cons_of_mem _ (lk_spec t i v h)
theorem lk_at {G : aG} {nL : Nat} {ls : Array Slot} {lv : aL} {i : Nat} {v : aV} (hl : lv_has ls nL (tl G lv)) (h : lk lv i = some v) : ls[i]? = some (.val (tx G v)) := hl.2.2 (i, tx G v) (List.mem_map.mpr ⟨(i, v), lk_spec lv i v h, rfl⟩)
def st1 (i : Nat) (q : Nat × aV) : Bool := !(q.1 == i) && !(q.1 + 1 == i && ac q.2 == 2)
def st2 (i : Nat) (q : Nat × aV) : Bool := !(q.1 == i) && (!(q.1 == i + 1) && !(q.1 + 1 == i && ac q.2 == 2))
theorem tl_st1 (G : aG) (i : Nat) (lv : aL) : (tl G lv).filter (fun q => !(q.1 == i) && !(q.1 + 1 == i && q.2.category == 2)) = tl G (lv.filter (st1 i)) := by
  unfold tl
  rw [List.filter_map]
  congr 1
  apply List.filter_congr
  intro q _
  simp only [Function.comp, st1, tx_cat]
theorem tl_st2 (G : aG) (i : Nat) (lv : aL) : (tl G lv).filter (fun q => !(q.1 == i) && (!(q.1 == i + 1) && !(q.1 + 1 == i && q.2.category == 2))) = tl G (lv.filter (st2 i)) := by
  unfold tl
  rw [List.filter_map]
  congr 1
  apply List.filter_congr
  intro q _
  simp only [Function.comp, st2, tx_cat]
/-- an answer on the stack -/
def rl (r : Option Value) : List aV := match r with
  | some v => [.inl v]
  | none => []
def nx (n : Nat) (lv : aL) (st : List aV) (h : aH) : Option aX := some (.inl (n, lv, st, h, 0, 0))
/-- what a step owes -/
def OkX (G : aG) (M : aM) (d : Nat) (p : Program) (l : Launch) (e : Env) (R : Room) (s : State) (m : MethodId) (args : Array Value) (below : List Frame) (meth : Method) (c : Code) (pc : Nat) (lv : aL) (st : List aV) (h : aH) (a b : Nat) : aX → Prop
  | .inl y => ∀ Q : State → Prop, a + y.2.2.2.2.1 ≤ R.cells → b + y.2.2.2.2.2 ≤ R.slots → Wc G M.2.2.1 p l e R s m args below meth c Q y.1 y.2.1 y.2.2.1 y.2.2.2.1 (a + y.2.2.2.2.1) (b + y.2.2.2.2.2) → Wc G M.2.2.1 p l e R s m args below meth c Q pc lv st h a b
  | .inr (.inl y) => ∀ (Q : State → Prop) (r : Option Value) (h' : aH), MtE l G d (MD y.1) y.2.1 h r h' → a + (MD y.1).2.1 ≤ R.cells → b + (MD y.1).2.2 ≤ R.slots → Wc G M.2.2.1 p l e R s m args below meth c Q (pc + 3) lv (rl r ++ y.2.2) h' (a + (MD y.1).2.1) (b + (MD y.1).2.2) → Wc G M.2.2.1 p l e R s m args below meth c Q pc lv st h a b
  | .inr (.inr r) => ∀ mc ms : Nat, a ≤ mc → b ≤ ms → Wc G M.2.2.1 p l e R s m args below meth c (MQ below (Qx G r h) args s mc ms (fun q => G.1 ≤ q)) pc lv st h a b
def Ok (M : aM) (pc : Nat) (op : aO) : Prop := ∀ (G : aG) (d : Nat) (p : Program) (l : Launch) (e : Env) (R : Room) (s : State) (m : MethodId) (args : Array Value) (below : List Frame) (meth : Method) (c : Code), Fx G M d p R s m args meth c → ∀ (lv : aL) (st : List aV) (h : aH) (x : aX), op lv st h = some x → ∀ a b : Nat, OkX G M d p l e R s m args below meth c pc lv st h a b x
-- steps on the stack alone
def oS (g : List aV → Option (List aV)) (n : Nat) : aO := fun lv st h => match g st with
  | some st' => nx n lv st' h
  | none => none
def RS (M : aM) (pc n : Nat) (g : List aV → Option (List aV)) : Prop := ∀ (p : Program) (l : Launch) (e : Env) (R : Room) (s : State) (m : MethodId) (args : Array Value) (below : List Frame) (meth : Method) (c : Code) (H : Heap) (locs : List Loc) (cells slots : Nat) (Q : State → Prop) (ls : Array Slot) (G : aG) (st st' : List aV), Rh G.2.2.2.2.2.1 → p.tables.exec = Jvm.exec → c.code = M.2.1 → g st = some st' → W p l e R s m args below meth c H locs cells slots Q (F0 m n ls (st'.map (tx G))) → W p l e R s m args below meth c H locs cells slots Q (F0 m pc ls (st.map (tx G)))
theorem ok_S {M : aM} {pc n : Nat} {g : List aV → Option (List aV)} (hg : RS M pc n g) : Ok M pc (oS g n) := by
  intro G d p l e R s m args below meth c hF lv st h x hx a b
  unfold oS at hx
  cases hs : g st with
  | none => rw [hs] at hx; cases hx
  | some st' =>
    rw [hs] at hx
    cases hx
    intro Q _ _ k H locs ls hP hS hl
    exact hg p l e R s m args below meth c H locs a b Q ls G st st' hF.2.1.2.2.2 hF.1.1 hF.1.2.1 hs (k H locs ls hP hS hl)
def gI2 (f : Int32 → Int32 → Int32) : List aV → Option (List aV)
  | .inl (.int y) :: .inl (.int x) :: r => frI (f x y) (fun z => some (.inl (.int z) :: r))
  | _ => none
def gL2 (f : Int64 → Int64 → Int64) : List aV → Option (List aV)
  | .inl (.long y) :: .inl (.long x) :: r => frL (f x y) (fun z => some (.inl (.long z) :: r))
  | _ => none
def gLS (f : Int64 → Int32 → Int64) : List aV → Option (List aV)
  | .inl (.int y) :: .inl (.long x) :: r => frL (f x y) (fun z => some (.inl (.long z) :: r))
  | _ => none
def gRm : List aV → Option (List aV)
  | .inl (.int y) :: .inl (.int x) :: r => match decide (y = 0) with
    | true => none
    | false => frI (x - x / y * y) (fun z => some (.inl (.int z) :: r))
  | _ => none
/-- how a variable stands to a number: some true: below it, some false: above it -/
def ord (i : Nat) (y : Int) : Option Bool := match i % 3 with
  | 0 => match decide (0 ≤ y) with
    | true => some true
    | false => none
  | 1 => match decide (y < ((i / 3 : Nat) : Int)), Nat.blt (i / 3) 1000 with
    | true, true => some false
    | _, _ => none
  | _ => none
def gCm : List aV → Option (List aV)
  | .inl (.long y) :: .inl (.long x) :: r => frI (lg_cmp x y) (fun z => some (.inl (.int z) :: r))
  | .inl (.long y) :: .inr (1, i) :: r => match ord i y.toInt with
    | some true => some (.inl (.int (-1)) :: r)
    | some false => some (.inl (.int 1) :: r)
    | none => none
  | _ => none
theorem ord_lt {ρ : Nat → Int32} (h : Rh ρ) {i : Nat} {y : Int} (hi : ord i y = some true) : (ρ i).toInt < y := by
  unfold ord at hi
  split at hi
  · rename_i h3
    split at hi
    · rename_i hy
      have hy := of_decide_eq_true hy
      have := h.1 (i / 3)
      rw [show 3 * (i / 3) = i by omega] at this
      have := Int32.lt_iff_toInt_lt.mp this
      simp at this
      omega
    · cases hi
  · split at hi <;> cases hi
  · cases hi
theorem ord_gt {ρ : Nat → Int32} (h : Rh ρ) {i : Nat} {y : Int} (hi : ord i y = some false) : y < (ρ i).toInt := by
  unfold ord at hi
  split at hi
  · split at hi <;> cases hi
  · rename_i h3
    split at hi
    · rename_i hy hb
      have hy := of_decide_eq_true hy
      have hb := Nat.le_of_ble_eq_true hb
      have := h.2 (i / 3) hb
      rw [show 3 * (i / 3) + 1 = i by omega] at this
      have := Int32.le_iff_toInt_le.mp this
      rw [nI_toInt (by omega)] at this
      omega
    · cases hi
  · cases hi
def gIL : List aV → Option (List aV)
  | .inl (.int x) :: r => frL x.toInt64 (fun z => some (.inl (.long z) :: r))
  | .inr (0, i) :: r => some (.inr (1, i) :: r)
  | _ => none
def gLI : List aV → Option (List aV)
  | .inl (.long x) :: r => frI x.toInt32 (fun z => some (.inl (.int z) :: r))
  | _ => none
def gDu : List aV → Option (List aV)
  | .inl (.int x) :: r => some (.inl (.int x) :: .inl (.int x) :: r)
  | .inl (.ref x) :: r => some (.inl (.ref x) :: .inl (.ref x) :: r)
  | _ => none
def gD2 : List aV → Option (List aV)
  | .inl (.int x) :: .inl (.ref y) :: r => some (.inl (.int x) :: .inl (.ref y) :: .inl (.int x) :: .inl (.ref y) :: r)
  | .inl (.int x) :: .inl (.int y) :: r => some (.inl (.int x) :: .inl (.int y) :: .inl (.int x) :: .inl (.int y) :: r)
  | _ => none
def gKo (v : Value) (st : List aV) : Option (List aV) := some (.inl v :: st)
theorem lg_cmp_lt' {x : Int32} {y : Int64} (h : x.toInt < y.toInt) : lg_cmp x.toInt64 y = -1 := by
  have e : x.toInt64.toInt = x.toInt := Int32.toInt_toInt64 x
  unfold lg_cmp
  rw [if_neg (fun q : x.toInt64 > y => by have := Int64.lt_iff_toInt_lt.mp q; omega), if_neg (fun q => by rw [q] at e; omega)]
theorem lg_cmp_gt' {x : Int32} {y : Int64} (h : y.toInt < x.toInt) : lg_cmp x.toInt64 y = 1 := by
  have e : x.toInt64.toInt = x.toInt := Int32.toInt_toInt64 x
  unfold lg_cmp
  rw [if_pos (show x.toInt64 > y from Int64.lt_iff_toInt_lt.mpr (by omega))]
def f_iadd (x y : Int32) : Int32 := x + y
theorem r_iadd {M : aM} {pc : Nat} (hd : decode M.2.1 pc = .ok (.iadd, 1)) : Ok M pc (oS (gI2 f_iadd) (pc + 1)) := ok_S (by
  intro p l e R s m args below meth c H locs cells slots Q ls G st st' hρ hx hb hg k
  unfold gI2 at hg
  split at hg
  · rw [frI_eq] at hg
    cases hg
    exact lv_iadd hx hb hd k
  · cases hg)
def f_isub (x y : Int32) : Int32 := x - y
theorem r_isub {M : aM} {pc : Nat} (hd : decode M.2.1 pc = .ok (.isub, 1)) : Ok M pc (oS (gI2 f_isub) (pc + 1)) := ok_S (by
  intro p l e R s m args below meth c H locs cells slots Q ls G st st' hρ hx hb hg k
  unfold gI2 at hg
  split at hg
  · rw [frI_eq] at hg
    cases hg
    exact lv_isub hx hb hd k
  · cases hg)
def f_imul (x y : Int32) : Int32 := x * y
theorem r_imul {M : aM} {pc : Nat} (hd : decode M.2.1 pc = .ok (.imul, 1)) : Ok M pc (oS (gI2 f_imul) (pc + 1)) := ok_S (by
  intro p l e R s m args below meth c H locs cells slots Q ls G st st' hρ hx hb hg k
  unfold gI2 at hg
  split at hg
  · rw [frI_eq] at hg
    cases hg
    exact lv_imul hx hb hd k
  · cases hg)
def f_iand (x y : Int32) : Int32 := x &&& y
theorem r_iand {M : aM} {pc : Nat} (hd : decode M.2.1 pc = .ok (.iand, 1)) : Ok M pc (oS (gI2 f_iand) (pc + 1)) := ok_S (by
  intro p l e R s m args below meth c H locs cells slots Q ls G st st' hρ hx hb hg k
  unfold gI2 at hg
  split at hg
  · rw [frI_eq] at hg
    cases hg
    exact lv_iand hx hb hd k
  · cases hg)
def f_ior (x y : Int32) : Int32 := x ||| y
theorem r_ior {M : aM} {pc : Nat} (hd : decode M.2.1 pc = .ok (.ior, 1)) : Ok M pc (oS (gI2 f_ior) (pc + 1)) := ok_S (by
  intro p l e R s m args below meth c H locs cells slots Q ls G st st' hρ hx hb hg k
  unfold gI2 at hg
  split at hg
  · rw [frI_eq] at hg
    cases hg
    exact lv_ior hx hb hd k
  · cases hg)
def f_ixor (x y : Int32) : Int32 := x ^^^ y
theorem r_ixor {M : aM} {pc : Nat} (hd : decode M.2.1 pc = .ok (.ixor, 1)) : Ok M pc (oS (gI2 f_ixor) (pc + 1)) := ok_S (by
  intro p l e R s m args below meth c H locs cells slots Q ls G st st' hρ hx hb hg k
  unfold gI2 at hg
  split at hg
  · rw [frI_eq] at hg
    cases hg
    exact lv_ixor hx hb hd k
  · cases hg)
def f_ishl (x y : Int32) : Int32 := x <<< (y &&& 31)
theorem r_ishl {M : aM} {pc : Nat} (hd : decode M.2.1 pc = .ok (.ishl, 1)) : Ok M pc (oS (gI2 f_ishl) (pc + 1)) := ok_S (by
  intro p l e R s m args below meth c H locs cells slots Q ls G st st' hρ hx hb hg k
  unfold gI2 at hg
  split at hg
  · rw [frI_eq] at hg
    cases hg
    exact lv_ishl hx hb hd k
  · cases hg)
def f_ishr (x y : Int32) : Int32 := x >>> (y &&& 31)
theorem r_ishr {M : aM} {pc : Nat} (hd : decode M.2.1 pc = .ok (.ishr, 1)) : Ok M pc (oS (gI2 f_ishr) (pc + 1)) := ok_S (by
  intro p l e R s m args below meth c H locs cells slots Q ls G st st' hρ hx hb hg k
  unfold gI2 at hg
  split at hg
  · rw [frI_eq] at hg
    cases hg
    exact lv_ishr hx hb hd k
  · cases hg)
def f_iushr (x y : Int32) : Int32 := (x.toUInt32 >>> (y.toUInt32 &&& Int32.toUInt32 31)).toInt32
theorem r_iushr {M : aM} {pc : Nat} (hd : decode M.2.1 pc = .ok (.iushr, 1)) : Ok M pc (oS (gI2 f_iushr) (pc + 1)) := ok_S (by
  intro p l e R s m args below meth c H locs cells slots Q ls G st st' hρ hx hb hg k
  unfold gI2 at hg
  split at hg
  · rw [frI_eq] at hg
    cases hg
    exact lv_iushr hx hb hd rfl k
  · cases hg)
def f_ladd (x y : Int64) : Int64 := x + y
theorem r_ladd {M : aM} {pc : Nat} (hd : decode M.2.1 pc = .ok (.ladd, 1)) : Ok M pc (oS (gL2 f_ladd) (pc + 1)) := ok_S (by
  intro p l e R s m args below meth c H locs cells slots Q ls G st st' hρ hx hb hg k
  unfold gL2 at hg
  split at hg
  · rw [frL_eq] at hg
    cases hg
    exact lv_ladd hx hb hd k
  · cases hg)
def f_lmul (x y : Int64) : Int64 := x * y
theorem r_lmul {M : aM} {pc : Nat} (hd : decode M.2.1 pc = .ok (.lmul, 1)) : Ok M pc (oS (gL2 f_lmul) (pc + 1)) := ok_S (by
  intro p l e R s m args below meth c H locs cells slots Q ls G st st' hρ hx hb hg k
  unfold gL2 at hg
  split at hg
  · rw [frL_eq] at hg
    cases hg
    exact lv_lmul hx hb hd k
  · cases hg)
def f_land (x y : Int64) : Int64 := x &&& y
theorem r_land {M : aM} {pc : Nat} (hd : decode M.2.1 pc = .ok (.land, 1)) : Ok M pc (oS (gL2 f_land) (pc + 1)) := ok_S (by
  intro p l e R s m args below meth c H locs cells slots Q ls G st st' hρ hx hb hg k
  unfold gL2 at hg
  split at hg
  · rw [frL_eq] at hg
    cases hg
    exact lv_land hx hb hd k
  · cases hg)
def f_lor (x y : Int64) : Int64 := x ||| y
theorem r_lor {M : aM} {pc : Nat} (hd : decode M.2.1 pc = .ok (.lor, 1)) : Ok M pc (oS (gL2 f_lor) (pc + 1)) := ok_S (by
  intro p l e R s m args below meth c H locs cells slots Q ls G st st' hρ hx hb hg k
  unfold gL2 at hg
  split at hg
  · rw [frL_eq] at hg
    cases hg
    exact lv_lor hx hb hd k
  · cases hg)
def f_lshl (x : Int64) (y : Int32) : Int64 := x <<< (y.toInt64 &&& 63)
theorem r_lshl {M : aM} {pc : Nat} (hd : decode M.2.1 pc = .ok (.lshl, 1)) : Ok M pc (oS (gLS f_lshl) (pc + 1)) := ok_S (by
  intro p l e R s m args below meth c H locs cells slots Q ls G st st' hρ hx hb hg k
  unfold gLS at hg
  split at hg
  · rw [frL_eq] at hg
    cases hg
    exact lv_lshl hx hb hd rfl k
  · cases hg)
def f_lshr (x : Int64) (y : Int32) : Int64 := x >>> (y.toInt64 &&& 63)
theorem r_lshr {M : aM} {pc : Nat} (hd : decode M.2.1 pc = .ok (.lshr, 1)) : Ok M pc (oS (gLS f_lshr) (pc + 1)) := ok_S (by
  intro p l e R s m args below meth c H locs cells slots Q ls G st st' hρ hx hb hg k
  unfold gLS at hg
  split at hg
  · rw [frL_eq] at hg
    cases hg
    exact lv_lshr hx hb hd rfl k
  · cases hg)
theorem r_irem {M : aM} {pc : Nat} (hd : decode M.2.1 pc = .ok (.irem, 1)) : Ok M pc (oS gRm (pc + 1)) := ok_S (by
  intro p l e R s m args below meth c H locs cells slots Q ls G st st' hρ hx hb hg k
  unfold gRm at hg
  split at hg
  · split at hg
    · cases hg
    · rename_i hz
      rw [frI_eq] at hg
      cases hg
      exact lv_irem hx hb hd (of_decide_eq_false hz) k
  · cases hg)
theorem r_lcmp {M : aM} {pc : Nat} (hd : decode M.2.1 pc = .ok (.lcmp, 1)) : Ok M pc (oS gCm (pc + 1)) := ok_S (by
  intro p l e R s m args below meth c H locs cells slots Q ls G st st' hρ hx hb hg k
  unfold gCm at hg
  split at hg
  · rw [frI_eq] at hg
    cases hg
    exact W.lcmp hx hb hd k
  · split at hg
    · rename_i ho
      cases hg
      have := ord_lt hρ ho
      refine W.lcmp hx hb hd ?_
      rw [lg_cmp_lt' this]
      exact k
    · rename_i ho
      cases hg
      have := ord_gt hρ ho
      refine W.lcmp hx hb hd ?_
      rw [lg_cmp_gt' this]
      exact k
    · cases hg
  · cases hg)
theorem r_i2l {M : aM} {pc : Nat} (hd : decode M.2.1 pc = .ok (.i2l, 1)) : Ok M pc (oS gIL (pc + 1)) := ok_S (by
  intro p l e R s m args below meth c H locs cells slots Q ls G st st' hρ hx hb hg k
  unfold gIL at hg
  split at hg
  · rw [frL_eq] at hg
    cases hg
    exact lv_i2l hx hb hd rfl k
  · cases hg
    exact lv_i2l hx hb hd rfl k
  · cases hg)
theorem r_l2i {M : aM} {pc : Nat} (hd : decode M.2.1 pc = .ok (.l2i, 1)) : Ok M pc (oS gLI (pc + 1)) := ok_S (by
  intro p l e R s m args below meth c H locs cells slots Q ls G st st' hρ hx hb hg k
  unfold gLI at hg
  split at hg
  · rw [frI_eq] at hg
    cases hg
    exact lv_l2i hx hb hd rfl k
  · cases hg)
theorem r_dup {M : aM} {pc : Nat} (hd : decode M.2.1 pc = .ok (.dup, 1)) : Ok M pc (oS gDu (pc + 1)) := ok_S (by
  intro p l e R s m args below meth c H locs cells slots Q ls G st st' hρ hx hb hg k
  unfold gDu at hg
  split at hg
  · cases hg
    exact lv_dup hx hb hd rfl k
  · cases hg
    exact lv_dup hx hb hd rfl k
  · cases hg)
theorem r_dup2 {M : aM} {pc : Nat} (hd : decode M.2.1 pc = .ok (.dup2, 1)) : Ok M pc (oS gD2 (pc + 1)) := ok_S (by
  intro p l e R s m args below meth c H locs cells slots Q ls G st st' hρ hx hb hg k
  unfold gD2 at hg
  split at hg
  · cases hg
    exact lv_dup2_11 hx hb hd rfl rfl k
  · cases hg
    exact lv_dup2_11 hx hb hd rfl rfl k
  · cases hg)
theorem r_iconst {M : aM} {pc : Nat} {n : Int} {v : Int32} (hd : decode M.2.1 pc = .ok (.iconst n, 1)) (hv : Int32.ofInt n = v) : Ok M pc (oS (gKo (.int v)) (pc + 1)) := ok_S (by
  intro p l e R s m args below meth c H locs cells slots Q ls G st st' hρ hx hb hg k
  cases hg
  exact lv_iconst hx hb hd hv k)
theorem r_bipush {M : aM} {pc : Nat} {n : Int} {v : Int32} (hd : decode M.2.1 pc = .ok (.bipush n, 2)) (hv : (Int8.ofInt n).toInt32 = v) : Ok M pc (oS (gKo (.int v)) (pc + 2)) := ok_S (by
  intro p l e R s m args below meth c H locs cells slots Q ls G st st' hρ hx hb hg k
  cases hg
  exact lv_bipush hx hb hd hv k)
theorem r_sipush {M : aM} {pc : Nat} {n : Int} {v : Int32} (hd : decode M.2.1 pc = .ok (.sipush n, 3)) (hv : (Int16.ofInt n).toInt32 = v) : Ok M pc (oS (gKo (.int v)) (pc + 3)) := ok_S (by
  intro p l e R s m args below meth c H locs cells slots Q ls G st st' hρ hx hb hg k
  cases hg
  exact lv_sipush hx hb hd hv k)
theorem r_lconst {M : aM} {pc : Nat} {n : Fin 2} {v : Int64} (hd : decode M.2.1 pc = .ok (.lconst n, 1)) (hv : Int64.ofNat (n : Nat) = v) : Ok M pc (oS (gKo (.long v)) (pc + 1)) := ok_S (by
  intro p l e R s m args below meth c H locs cells slots Q ls G st st' hρ hx hb hg k
  cases hg
  exact lv_lconst hx hb hd hv k)
def oB1 (f : Int32 → Bool) (q : Bool → Bool) (t n : Nat) : aO := fun lv st h => match st with
  | .inl (.int x) :: r => match f x with
    | true => nx t lv r h
    | false => nx n lv r h
  | .inr (0, i) :: r => match (ord i 0).map q with
    | some true => nx t lv r h
    | some false => nx n lv r h
    | none => none
  | _ => none
def oB2 (f : Int32 → Int32 → Bool) (q : Bool → Bool) (t n : Nat) : aO := fun lv st h => match st with
  | .inl (.int y) :: .inl (.int x) :: r => match f x y with
    | true => nx t lv r h
    | false => nx n lv r h
  | .inl (.int y) :: .inr (0, i) :: r => match (ord i y.toInt).map q with
    | some true => nx t lv r h
    | some false => nx n lv r h
    | none => none
  | _ => none
def b_if_eq (x : Int32) : Bool := decide (x = 0)
def q_eq : Bool → Bool
  | true => false
  | false => false
theorem s_if_eq {ρ : Nat → Int32} (h : Rh ρ) {i : Nat} {v : Bool} (hi : (ord i 0).map q_eq = some v) : b_if_eq (ρ i) = v := by
  cases ho : ord i 0 with
  | none => rw [ho] at hi; cases hi
  | some u =>
    rw [ho] at hi
    cases u with
    | true =>
      have h1 := ord_lt h ho
      cases hi
      unfold b_if_eq; exact decide_eq_false (by have z0 : (0 : Int32).toInt = 0 := rfl; rw [← Int32.toInt_inj]; omega)
    | false =>
      have h1 := ord_gt h ho
      cases hi
      unfold b_if_eq; exact decide_eq_false (by have z0 : (0 : Int32).toInt = 0 := rfl; rw [← Int32.toInt_inj]; omega)
theorem r_if_eq {M : aM} {pc t : Nat} {off : Int} (hd : decode M.2.1 pc = .ok (.ifCond .eq off, 3)) (ht : (pc : Int) + off = (t : Int)) : Ok M pc (oB1 b_if_eq q_eq t (pc + 3)) := by
  intro G d p l e R s m args below meth c hF lv st h x hx a b
  unfold oB1 at hx
  split at hx
  · split at hx
    · rename_i hf
      cases hx
      intro Q _ _ k H locs ls hP hS hl
      exact lv_if_eq hF.1.1 hF.1.2.1 hd ht (fun _ => k H locs ls hP hS hl) (fun hc => absurd (of_decide_eq_true hf) hc)
    · rename_i hf
      cases hx
      intro Q _ _ k H locs ls hP hS hl
      exact lv_if_eq hF.1.1 hF.1.2.1 hd ht (fun hc => absurd hc (of_decide_eq_false hf)) (fun _ => k H locs ls hP hS hl)
  · split at hx
    · rename_i hf
      have hf := s_if_eq hF.2.1.2.2.2 hf
      cases hx
      intro Q _ _ k H locs ls hP hS hl
      exact lv_if_eq hF.1.1 hF.1.2.1 hd ht (fun _ => k H locs ls hP hS hl) (fun hc => absurd (of_decide_eq_true hf) hc)
    · rename_i hf
      have hf := s_if_eq hF.2.1.2.2.2 hf
      cases hx
      intro Q _ _ k H locs ls hP hS hl
      exact lv_if_eq hF.1.1 hF.1.2.1 hd ht (fun hc => absurd hc (of_decide_eq_false hf)) (fun _ => k H locs ls hP hS hl)
    · cases hx
  · cases hx
def b_icmp_eq (x y : Int32) : Bool := decide (x = y)
theorem s_icmp_eq {ρ : Nat → Int32} (h : Rh ρ) {i : Nat} {y : Int32} {v : Bool} (hi : (ord i y.toInt).map q_eq = some v) : b_icmp_eq (ρ i) y = v := by
  cases ho : ord i y.toInt with
  | none => rw [ho] at hi; cases hi
  | some u =>
    rw [ho] at hi
    cases u with
    | true =>
      have h1 := ord_lt h ho
      cases hi
      unfold b_icmp_eq; exact decide_eq_false (by rw [← Int32.toInt_inj]; omega)
    | false =>
      have h1 := ord_gt h ho
      cases hi
      unfold b_icmp_eq; exact decide_eq_false (by rw [← Int32.toInt_inj]; omega)
theorem r_icmp_eq {M : aM} {pc t : Nat} {off : Int} (hd : decode M.2.1 pc = .ok (.if_icmp .eq off, 3)) (ht : (pc : Int) + off = (t : Int)) : Ok M pc (oB2 b_icmp_eq q_eq t (pc + 3)) := by
  intro G d p l e R s m args below meth c hF lv st h x hx a b
  unfold oB2 at hx
  split at hx
  · split at hx
    · rename_i hf
      cases hx
      intro Q _ _ k H locs ls hP hS hl
      exact lv_icmp_eq hF.1.1 hF.1.2.1 hd ht (fun _ => k H locs ls hP hS hl) (fun hc => absurd (of_decide_eq_true hf) hc)
    · rename_i hf
      cases hx
      intro Q _ _ k H locs ls hP hS hl
      exact lv_icmp_eq hF.1.1 hF.1.2.1 hd ht (fun hc => absurd hc (of_decide_eq_false hf)) (fun _ => k H locs ls hP hS hl)
  · split at hx
    · rename_i hf
      have hf := s_icmp_eq hF.2.1.2.2.2 hf
      cases hx
      intro Q _ _ k H locs ls hP hS hl
      exact lv_icmp_eq hF.1.1 hF.1.2.1 hd ht (fun _ => k H locs ls hP hS hl) (fun hc => absurd (of_decide_eq_true hf) hc)
    · rename_i hf
      have hf := s_icmp_eq hF.2.1.2.2.2 hf
      cases hx
      intro Q _ _ k H locs ls hP hS hl
      exact lv_icmp_eq hF.1.1 hF.1.2.1 hd ht (fun hc => absurd hc (of_decide_eq_false hf)) (fun _ => k H locs ls hP hS hl)
    · cases hx
  · cases hx
def b_if_ne (x : Int32) : Bool := decide (¬ x = 0)
def q_ne : Bool → Bool
  | true => true
  | false => true
theorem s_if_ne {ρ : Nat → Int32} (h : Rh ρ) {i : Nat} {v : Bool} (hi : (ord i 0).map q_ne = some v) : b_if_ne (ρ i) = v := by
  cases ho : ord i 0 with
  | none => rw [ho] at hi; cases hi
  | some u =>
    rw [ho] at hi
    cases u with
    | true =>
      have h1 := ord_lt h ho
      cases hi
      unfold b_if_ne; exact decide_eq_true (by have z0 : (0 : Int32).toInt = 0 := rfl; rw [← Int32.toInt_inj]; omega)
    | false =>
      have h1 := ord_gt h ho
      cases hi
      unfold b_if_ne; exact decide_eq_true (by have z0 : (0 : Int32).toInt = 0 := rfl; rw [← Int32.toInt_inj]; omega)
theorem r_if_ne {M : aM} {pc t : Nat} {off : Int} (hd : decode M.2.1 pc = .ok (.ifCond .ne off, 3)) (ht : (pc : Int) + off = (t : Int)) : Ok M pc (oB1 b_if_ne q_ne t (pc + 3)) := by
  intro G d p l e R s m args below meth c hF lv st h x hx a b
  unfold oB1 at hx
  split at hx
  · split at hx
    · rename_i hf
      cases hx
      intro Q _ _ k H locs ls hP hS hl
      exact lv_if_ne hF.1.1 hF.1.2.1 hd ht (fun _ => k H locs ls hP hS hl) (fun hc => absurd hc (of_decide_eq_true hf))
    · rename_i hf
      cases hx
      intro Q _ _ k H locs ls hP hS hl
      exact lv_if_ne hF.1.1 hF.1.2.1 hd ht (fun hc => absurd hc (of_decide_eq_false hf)) (fun _ => k H locs ls hP hS hl)
  · split at hx
    · rename_i hf
      have hf := s_if_ne hF.2.1.2.2.2 hf
      cases hx
      intro Q _ _ k H locs ls hP hS hl
      exact lv_if_ne hF.1.1 hF.1.2.1 hd ht (fun _ => k H locs ls hP hS hl) (fun hc => absurd hc (of_decide_eq_true hf))
    · rename_i hf
      have hf := s_if_ne hF.2.1.2.2.2 hf
      cases hx
      intro Q _ _ k H locs ls hP hS hl
      exact lv_if_ne hF.1.1 hF.1.2.1 hd ht (fun hc => absurd hc (of_decide_eq_false hf)) (fun _ => k H locs ls hP hS hl)
    · cases hx
  · cases hx
def b_icmp_ne (x y : Int32) : Bool := decide (¬ x = y)
theorem s_icmp_ne {ρ : Nat → Int32} (h : Rh ρ) {i : Nat} {y : Int32} {v : Bool} (hi : (ord i y.toInt).map q_ne = some v) : b_icmp_ne (ρ i) y = v := by
  cases ho : ord i y.toInt with
  | none => rw [ho] at hi; cases hi
  | some u =>
    rw [ho] at hi
    cases u with
    | true =>
      have h1 := ord_lt h ho
      cases hi
      unfold b_icmp_ne; exact decide_eq_true (by rw [← Int32.toInt_inj]; omega)
    | false =>
      have h1 := ord_gt h ho
      cases hi
      unfold b_icmp_ne; exact decide_eq_true (by rw [← Int32.toInt_inj]; omega)
theorem r_icmp_ne {M : aM} {pc t : Nat} {off : Int} (hd : decode M.2.1 pc = .ok (.if_icmp .ne off, 3)) (ht : (pc : Int) + off = (t : Int)) : Ok M pc (oB2 b_icmp_ne q_ne t (pc + 3)) := by
  intro G d p l e R s m args below meth c hF lv st h x hx a b
  unfold oB2 at hx
  split at hx
  · split at hx
    · rename_i hf
      cases hx
      intro Q _ _ k H locs ls hP hS hl
      exact lv_icmp_ne hF.1.1 hF.1.2.1 hd ht (fun _ => k H locs ls hP hS hl) (fun hc => absurd hc (of_decide_eq_true hf))
    · rename_i hf
      cases hx
      intro Q _ _ k H locs ls hP hS hl
      exact lv_icmp_ne hF.1.1 hF.1.2.1 hd ht (fun hc => absurd hc (of_decide_eq_false hf)) (fun _ => k H locs ls hP hS hl)
  · split at hx
    · rename_i hf
      have hf := s_icmp_ne hF.2.1.2.2.2 hf
      cases hx
      intro Q _ _ k H locs ls hP hS hl
      exact lv_icmp_ne hF.1.1 hF.1.2.1 hd ht (fun _ => k H locs ls hP hS hl) (fun hc => absurd hc (of_decide_eq_true hf))
    · rename_i hf
      have hf := s_icmp_ne hF.2.1.2.2.2 hf
      cases hx
      intro Q _ _ k H locs ls hP hS hl
      exact lv_icmp_ne hF.1.1 hF.1.2.1 hd ht (fun hc => absurd hc (of_decide_eq_false hf)) (fun _ => k H locs ls hP hS hl)
    · cases hx
  · cases hx
def b_if_lt (x : Int32) : Bool := decide (x < 0)
def q_lt : Bool → Bool
  | true => true
  | false => false
theorem s_if_lt {ρ : Nat → Int32} (h : Rh ρ) {i : Nat} {v : Bool} (hi : (ord i 0).map q_lt = some v) : b_if_lt (ρ i) = v := by
  cases ho : ord i 0 with
  | none => rw [ho] at hi; cases hi
  | some u =>
    rw [ho] at hi
    cases u with
    | true =>
      have h1 := ord_lt h ho
      cases hi
      unfold b_if_lt; exact decide_eq_true (by have z0 : (0 : Int32).toInt = 0 := rfl; rw [Int32.lt_iff_toInt_lt]; omega)
    | false =>
      have h1 := ord_gt h ho
      cases hi
      unfold b_if_lt; exact decide_eq_false (by have z0 : (0 : Int32).toInt = 0 := rfl; rw [Int32.lt_iff_toInt_lt]; omega)
theorem r_if_lt {M : aM} {pc t : Nat} {off : Int} (hd : decode M.2.1 pc = .ok (.ifCond .lt off, 3)) (ht : (pc : Int) + off = (t : Int)) : Ok M pc (oB1 b_if_lt q_lt t (pc + 3)) := by
  intro G d p l e R s m args below meth c hF lv st h x hx a b
  unfold oB1 at hx
  split at hx
  · split at hx
    · rename_i hf
      cases hx
      intro Q _ _ k H locs ls hP hS hl
      exact lv_if_lt hF.1.1 hF.1.2.1 hd ht (fun _ => k H locs ls hP hS hl) (fun hc => absurd (of_decide_eq_true hf) hc)
    · rename_i hf
      cases hx
      intro Q _ _ k H locs ls hP hS hl
      exact lv_if_lt hF.1.1 hF.1.2.1 hd ht (fun hc => absurd hc (of_decide_eq_false hf)) (fun _ => k H locs ls hP hS hl)
  · split at hx
    · rename_i hf
      have hf := s_if_lt hF.2.1.2.2.2 hf
      cases hx
      intro Q _ _ k H locs ls hP hS hl
      exact lv_if_lt hF.1.1 hF.1.2.1 hd ht (fun _ => k H locs ls hP hS hl) (fun hc => absurd (of_decide_eq_true hf) hc)
    · rename_i hf
      have hf := s_if_lt hF.2.1.2.2.2 hf
      cases hx
      intro Q _ _ k H locs ls hP hS hl
      exact lv_if_lt hF.1.1 hF.1.2.1 hd ht (fun hc => absurd hc (of_decide_eq_false hf)) (fun _ => k H locs ls hP hS hl)
    · cases hx
  · cases hx
def b_icmp_lt (x y : Int32) : Bool := decide (x < y)
theorem s_icmp_lt {ρ : Nat → Int32} (h : Rh ρ) {i : Nat} {y : Int32} {v : Bool} (hi : (ord i y.toInt).map q_lt = some v) : b_icmp_lt (ρ i) y = v := by
  cases ho : ord i y.toInt with
  | none => rw [ho] at hi; cases hi
  | some u =>
    rw [ho] at hi
    cases u with
    | true =>
      have h1 := ord_lt h ho
      cases hi
      unfold b_icmp_lt; exact decide_eq_true (by rw [Int32.lt_iff_toInt_lt]; omega)
    | false =>
      have h1 := ord_gt h ho
      cases hi
      unfold b_icmp_lt; exact decide_eq_false (by rw [Int32.lt_iff_toInt_lt]; omega)
theorem r_icmp_lt {M : aM} {pc t : Nat} {off : Int} (hd : decode M.2.1 pc = .ok (.if_icmp .lt off, 3)) (ht : (pc : Int) + off = (t : Int)) : Ok M pc (oB2 b_icmp_lt q_lt t (pc + 3)) := by
  intro G d p l e R s m args below meth c hF lv st h x hx a b
  unfold oB2 at hx
  split at hx
  · split at hx
    · rename_i hf
      cases hx
      intro Q _ _ k H locs ls hP hS hl
      exact lv_icmp_lt hF.1.1 hF.1.2.1 hd ht (fun _ => k H locs ls hP hS hl) (fun hc => absurd (of_decide_eq_true hf) hc)
    · rename_i hf
      cases hx
      intro Q _ _ k H locs ls hP hS hl
      exact lv_icmp_lt hF.1.1 hF.1.2.1 hd ht (fun hc => absurd hc (of_decide_eq_false hf)) (fun _ => k H locs ls hP hS hl)
  · split at hx
    · rename_i hf
      have hf := s_icmp_lt hF.2.1.2.2.2 hf
      cases hx
      intro Q _ _ k H locs ls hP hS hl
      exact lv_icmp_lt hF.1.1 hF.1.2.1 hd ht (fun _ => k H locs ls hP hS hl) (fun hc => absurd (of_decide_eq_true hf) hc)
    · rename_i hf
      have hf := s_icmp_lt hF.2.1.2.2.2 hf
      cases hx
      intro Q _ _ k H locs ls hP hS hl
      exact lv_icmp_lt hF.1.1 hF.1.2.1 hd ht (fun hc => absurd hc (of_decide_eq_false hf)) (fun _ => k H locs ls hP hS hl)
    · cases hx
  · cases hx
def b_if_ge (x : Int32) : Bool := decide (0 ≤ x)
def q_ge : Bool → Bool
  | true => false
  | false => true
theorem s_if_ge {ρ : Nat → Int32} (h : Rh ρ) {i : Nat} {v : Bool} (hi : (ord i 0).map q_ge = some v) : b_if_ge (ρ i) = v := by
  cases ho : ord i 0 with
  | none => rw [ho] at hi; cases hi
  | some u =>
    rw [ho] at hi
    cases u with
    | true =>
      have h1 := ord_lt h ho
      cases hi
      unfold b_if_ge; exact decide_eq_false (by have z0 : (0 : Int32).toInt = 0 := rfl; rw [Int32.le_iff_toInt_le]; omega)
    | false =>
      have h1 := ord_gt h ho
      cases hi
      unfold b_if_ge; exact decide_eq_true (by have z0 : (0 : Int32).toInt = 0 := rfl; rw [Int32.le_iff_toInt_le]; omega)
theorem r_if_ge {M : aM} {pc t : Nat} {off : Int} (hd : decode M.2.1 pc = .ok (.ifCond .ge off, 3)) (ht : (pc : Int) + off = (t : Int)) : Ok M pc (oB1 b_if_ge q_ge t (pc + 3)) := by
  intro G d p l e R s m args below meth c hF lv st h x hx a b
  unfold oB1 at hx
  split at hx
  · split at hx
    · rename_i hf
      cases hx
      intro Q _ _ k H locs ls hP hS hl
      exact lv_if_ge hF.1.1 hF.1.2.1 hd ht (fun _ => k H locs ls hP hS hl) (fun hc => absurd (of_decide_eq_true hf) hc)
    · rename_i hf
      cases hx
      intro Q _ _ k H locs ls hP hS hl
      exact lv_if_ge hF.1.1 hF.1.2.1 hd ht (fun hc => absurd hc (of_decide_eq_false hf)) (fun _ => k H locs ls hP hS hl)
  · split at hx
    · rename_i hf
      have hf := s_if_ge hF.2.1.2.2.2 hf
      cases hx
      intro Q _ _ k H locs ls hP hS hl
      exact lv_if_ge hF.1.1 hF.1.2.1 hd ht (fun _ => k H locs ls hP hS hl) (fun hc => absurd (of_decide_eq_true hf) hc)
    · rename_i hf
      have hf := s_if_ge hF.2.1.2.2.2 hf
      cases hx
      intro Q _ _ k H locs ls hP hS hl
      exact lv_if_ge hF.1.1 hF.1.2.1 hd ht (fun hc => absurd hc (of_decide_eq_false hf)) (fun _ => k H locs ls hP hS hl)
    · cases hx
  · cases hx
def b_icmp_ge (x y : Int32) : Bool := decide (y ≤ x)
theorem s_icmp_ge {ρ : Nat → Int32} (h : Rh ρ) {i : Nat} {y : Int32} {v : Bool} (hi : (ord i y.toInt).map q_ge = some v) : b_icmp_ge (ρ i) y = v := by
  cases ho : ord i y.toInt with
  | none => rw [ho] at hi; cases hi
  | some u =>
    rw [ho] at hi
    cases u with
    | true =>
      have h1 := ord_lt h ho
      cases hi
      unfold b_icmp_ge; exact decide_eq_false (by rw [Int32.le_iff_toInt_le]; omega)
    | false =>
      have h1 := ord_gt h ho
      cases hi
      unfold b_icmp_ge; exact decide_eq_true (by rw [Int32.le_iff_toInt_le]; omega)
theorem r_icmp_ge {M : aM} {pc t : Nat} {off : Int} (hd : decode M.2.1 pc = .ok (.if_icmp .ge off, 3)) (ht : (pc : Int) + off = (t : Int)) : Ok M pc (oB2 b_icmp_ge q_ge t (pc + 3)) := by
  intro G d p l e R s m args below meth c hF lv st h x hx a b
  unfold oB2 at hx
  split at hx
  · split at hx
    · rename_i hf
      cases hx
      intro Q _ _ k H locs ls hP hS hl
      exact lv_icmp_ge hF.1.1 hF.1.2.1 hd ht (fun _ => k H locs ls hP hS hl) (fun hc => absurd (of_decide_eq_true hf) hc)
    · rename_i hf
      cases hx
      intro Q _ _ k H locs ls hP hS hl
      exact lv_icmp_ge hF.1.1 hF.1.2.1 hd ht (fun hc => absurd hc (of_decide_eq_false hf)) (fun _ => k H locs ls hP hS hl)
  · split at hx
    · rename_i hf
      have hf := s_icmp_ge hF.2.1.2.2.2 hf
      cases hx
      intro Q _ _ k H locs ls hP hS hl
      exact lv_icmp_ge hF.1.1 hF.1.2.1 hd ht (fun _ => k H locs ls hP hS hl) (fun hc => absurd (of_decide_eq_true hf) hc)
    · rename_i hf
      have hf := s_icmp_ge hF.2.1.2.2.2 hf
      cases hx
      intro Q _ _ k H locs ls hP hS hl
      exact lv_icmp_ge hF.1.1 hF.1.2.1 hd ht (fun hc => absurd hc (of_decide_eq_false hf)) (fun _ => k H locs ls hP hS hl)
    · cases hx
  · cases hx
def b_if_gt (x : Int32) : Bool := decide (0 < x)
def q_gt : Bool → Bool
  | true => false
  | false => true
theorem s_if_gt {ρ : Nat → Int32} (h : Rh ρ) {i : Nat} {v : Bool} (hi : (ord i 0).map q_gt = some v) : b_if_gt (ρ i) = v := by
  cases ho : ord i 0 with
  | none => rw [ho] at hi; cases hi
  | some u =>
    rw [ho] at hi
    cases u with
    | true =>
      have h1 := ord_lt h ho
      cases hi
      unfold b_if_gt; exact decide_eq_false (by have z0 : (0 : Int32).toInt = 0 := rfl; rw [Int32.lt_iff_toInt_lt]; omega)
    | false =>
      have h1 := ord_gt h ho
      cases hi
      unfold b_if_gt; exact decide_eq_true (by have z0 : (0 : Int32).toInt = 0 := rfl; rw [Int32.lt_iff_toInt_lt]; omega)
theorem r_if_gt {M : aM} {pc t : Nat} {off : Int} (hd : decode M.2.1 pc = .ok (.ifCond .gt off, 3)) (ht : (pc : Int) + off = (t : Int)) : Ok M pc (oB1 b_if_gt q_gt t (pc + 3)) := by
  intro G d p l e R s m args below meth c hF lv st h x hx a b
  unfold oB1 at hx
  split at hx
  · split at hx
    · rename_i hf
      cases hx
      intro Q _ _ k H locs ls hP hS hl
      exact lv_if_gt hF.1.1 hF.1.2.1 hd ht (fun _ => k H locs ls hP hS hl) (fun hc => absurd (of_decide_eq_true hf) hc)
    · rename_i hf
      cases hx
      intro Q _ _ k H locs ls hP hS hl
      exact lv_if_gt hF.1.1 hF.1.2.1 hd ht (fun hc => absurd hc (of_decide_eq_false hf)) (fun _ => k H locs ls hP hS hl)
  · split at hx
    · rename_i hf
      have hf := s_if_gt hF.2.1.2.2.2 hf
      cases hx
      intro Q _ _ k H locs ls hP hS hl
      exact lv_if_gt hF.1.1 hF.1.2.1 hd ht (fun _ => k H locs ls hP hS hl) (fun hc => absurd (of_decide_eq_true hf) hc)
    · rename_i hf
      have hf := s_if_gt hF.2.1.2.2.2 hf
      cases hx
      intro Q _ _ k H locs ls hP hS hl
      exact lv_if_gt hF.1.1 hF.1.2.1 hd ht (fun hc => absurd hc (of_decide_eq_false hf)) (fun _ => k H locs ls hP hS hl)
    · cases hx
  · cases hx
def b_icmp_gt (x y : Int32) : Bool := decide (y < x)
theorem s_icmp_gt {ρ : Nat → Int32} (h : Rh ρ) {i : Nat} {y : Int32} {v : Bool} (hi : (ord i y.toInt).map q_gt = some v) : b_icmp_gt (ρ i) y = v := by
  cases ho : ord i y.toInt with
  | none => rw [ho] at hi; cases hi
  | some u =>
    rw [ho] at hi
    cases u with
    | true =>
      have h1 := ord_lt h ho
      cases hi
      unfold b_icmp_gt; exact decide_eq_false (by rw [Int32.lt_iff_toInt_lt]; omega)
    | false =>
      have h1 := ord_gt h ho
      cases hi
      unfold b_icmp_gt; exact decide_eq_true (by rw [Int32.lt_iff_toInt_lt]; omega)
theorem r_icmp_gt {M : aM} {pc t : Nat} {off : Int} (hd : decode M.2.1 pc = .ok (.if_icmp .gt off, 3)) (ht : (pc : Int) + off = (t : Int)) : Ok M pc (oB2 b_icmp_gt q_gt t (pc + 3)) := by
  intro G d p l e R s m args below meth c hF lv st h x hx a b
  unfold oB2 at hx
  split at hx
  · split at hx
    · rename_i hf
      cases hx
      intro Q _ _ k H locs ls hP hS hl
      exact lv_icmp_gt hF.1.1 hF.1.2.1 hd ht (fun _ => k H locs ls hP hS hl) (fun hc => absurd (of_decide_eq_true hf) hc)
    · rename_i hf
      cases hx
      intro Q _ _ k H locs ls hP hS hl
      exact lv_icmp_gt hF.1.1 hF.1.2.1 hd ht (fun hc => absurd hc (of_decide_eq_false hf)) (fun _ => k H locs ls hP hS hl)
  · split at hx
    · rename_i hf
      have hf := s_icmp_gt hF.2.1.2.2.2 hf
      cases hx
      intro Q _ _ k H locs ls hP hS hl
      exact lv_icmp_gt hF.1.1 hF.1.2.1 hd ht (fun _ => k H locs ls hP hS hl) (fun hc => absurd (of_decide_eq_true hf) hc)
    · rename_i hf
      have hf := s_icmp_gt hF.2.1.2.2.2 hf
      cases hx
      intro Q _ _ k H locs ls hP hS hl
      exact lv_icmp_gt hF.1.1 hF.1.2.1 hd ht (fun hc => absurd hc (of_decide_eq_false hf)) (fun _ => k H locs ls hP hS hl)
    · cases hx
  · cases hx
def b_if_le (x : Int32) : Bool := decide (x ≤ 0)
def q_le : Bool → Bool
  | true => true
  | false => false
theorem s_if_le {ρ : Nat → Int32} (h : Rh ρ) {i : Nat} {v : Bool} (hi : (ord i 0).map q_le = some v) : b_if_le (ρ i) = v := by
  cases ho : ord i 0 with
  | none => rw [ho] at hi; cases hi
  | some u =>
    rw [ho] at hi
    cases u with
    | true =>
      have h1 := ord_lt h ho
      cases hi
      unfold b_if_le; exact decide_eq_true (by have z0 : (0 : Int32).toInt = 0 := rfl; rw [Int32.le_iff_toInt_le]; omega)
    | false =>
      have h1 := ord_gt h ho
      cases hi
      unfold b_if_le; exact decide_eq_false (by have z0 : (0 : Int32).toInt = 0 := rfl; rw [Int32.le_iff_toInt_le]; omega)
theorem r_if_le {M : aM} {pc t : Nat} {off : Int} (hd : decode M.2.1 pc = .ok (.ifCond .le off, 3)) (ht : (pc : Int) + off = (t : Int)) : Ok M pc (oB1 b_if_le q_le t (pc + 3)) := by
  intro G d p l e R s m args below meth c hF lv st h x hx a b
  unfold oB1 at hx
  split at hx
  · split at hx
    · rename_i hf
      cases hx
      intro Q _ _ k H locs ls hP hS hl
      exact lv_if_le hF.1.1 hF.1.2.1 hd ht (fun _ => k H locs ls hP hS hl) (fun hc => absurd (of_decide_eq_true hf) hc)
    · rename_i hf
      cases hx
      intro Q _ _ k H locs ls hP hS hl
      exact lv_if_le hF.1.1 hF.1.2.1 hd ht (fun hc => absurd hc (of_decide_eq_false hf)) (fun _ => k H locs ls hP hS hl)
  · split at hx
    · rename_i hf
      have hf := s_if_le hF.2.1.2.2.2 hf
      cases hx
      intro Q _ _ k H locs ls hP hS hl
      exact lv_if_le hF.1.1 hF.1.2.1 hd ht (fun _ => k H locs ls hP hS hl) (fun hc => absurd (of_decide_eq_true hf) hc)
    · rename_i hf
      have hf := s_if_le hF.2.1.2.2.2 hf
      cases hx
      intro Q _ _ k H locs ls hP hS hl
      exact lv_if_le hF.1.1 hF.1.2.1 hd ht (fun hc => absurd hc (of_decide_eq_false hf)) (fun _ => k H locs ls hP hS hl)
    · cases hx
  · cases hx
def b_icmp_le (x y : Int32) : Bool := decide (x ≤ y)
theorem s_icmp_le {ρ : Nat → Int32} (h : Rh ρ) {i : Nat} {y : Int32} {v : Bool} (hi : (ord i y.toInt).map q_le = some v) : b_icmp_le (ρ i) y = v := by
  cases ho : ord i y.toInt with
  | none => rw [ho] at hi; cases hi
  | some u =>
    rw [ho] at hi
    cases u with
    | true =>
      have h1 := ord_lt h ho
      cases hi
      unfold b_icmp_le; exact decide_eq_true (by rw [Int32.le_iff_toInt_le]; omega)
    | false =>
      have h1 := ord_gt h ho
      cases hi
      unfold b_icmp_le; exact decide_eq_false (by rw [Int32.le_iff_toInt_le]; omega)
theorem r_icmp_le {M : aM} {pc t : Nat} {off : Int} (hd : decode M.2.1 pc = .ok (.if_icmp .le off, 3)) (ht : (pc : Int) + off = (t : Int)) : Ok M pc (oB2 b_icmp_le q_le t (pc + 3)) := by
  intro G d p l e R s m args below meth c hF lv st h x hx a b
  unfold oB2 at hx
  split at hx
  · split at hx
    · rename_i hf
      cases hx
      intro Q _ _ k H locs ls hP hS hl
      exact lv_icmp_le hF.1.1 hF.1.2.1 hd ht (fun _ => k H locs ls hP hS hl) (fun hc => absurd (of_decide_eq_true hf) hc)
    · rename_i hf
      cases hx
      intro Q _ _ k H locs ls hP hS hl
      exact lv_icmp_le hF.1.1 hF.1.2.1 hd ht (fun hc => absurd hc (of_decide_eq_false hf)) (fun _ => k H locs ls hP hS hl)
  · split at hx
    · rename_i hf
      have hf := s_icmp_le hF.2.1.2.2.2 hf
      cases hx
      intro Q _ _ k H locs ls hP hS hl
      exact lv_icmp_le hF.1.1 hF.1.2.1 hd ht (fun _ => k H locs ls hP hS hl) (fun hc => absurd (of_decide_eq_true hf) hc)
    · rename_i hf
      have hf := s_icmp_le hF.2.1.2.2.2 hf
      cases hx
      intro Q _ _ k H locs ls hP hS hl
      exact lv_icmp_le hF.1.1 hF.1.2.1 hd ht (fun hc => absurd hc (of_decide_eq_false hf)) (fun _ => k H locs ls hP hS hl)
    · cases hx
  · cases hx
end
section
-- locals
def oLI (i n : Nat) : aO := fun lv st h => match lk lv i with
  | some (.inl (.int x)) => nx n lv (.inl (.int x) :: st) h
  | some (.inr (0, j)) => nx n lv (.inr (0, j) :: st) h
  | _ => none
def oLL (i n : Nat) : aO := fun lv st h => match lk lv i with
  | some (.inl (.long x)) => nx n lv (.inl (.long x) :: st) h
  | _ => none
def oLA (i n : Nat) : aO := fun lv st h => match lk lv i with
  | some (.inl (.ref x)) => nx n lv (.inl (.ref x) :: st) h
  | some (.inr (2, j)) => nx n lv (.inr (2, j) :: st) h
  | _ => none
def oSI (i nL n : Nat) : aO := fun lv st h => match st with
  | .inl (.int x) :: r => match Nat.blt i nL with
    | true => fltF (st1 i) lv (fun lv' => nx n ((i, .inl (.int x)) :: lv') r h)
    | false => none
  | _ => none
def oSL (i nL n : Nat) : aO := fun lv st h => match st with
  | .inl (.long x) :: r => match Nat.blt (i + 1) nL with
    | true => fltF (st2 i) lv (fun lv' => nx n ((i, .inl (.long x)) :: lv') r h)
    | false => none
  | _ => none
def oSA (i nL n : Nat) : aO := fun lv st h => match st with
  | .inl (.ref x) :: r => match Nat.blt i nL with
    | true => fltF (st1 i) lv (fun lv' => nx n ((i, .inl (.ref x)) :: lv') r h)
    | false => none
  | _ => none
def oInc (i : Nat) (k : Int32) (nL n : Nat) : aO := fun lv st h => match lk lv i with
  | some (.inl (.int x)) => match Nat.blt i nL with
    | true => frI (x + k) (fun z => fltF (st1 i) lv (fun lv' => nx n ((i, .inl (.int z)) :: lv') st h))
    | false => none
  | _ => none
theorem blt_of {i n : Nat} (h : Nat.blt i n = true) : i < n := Nat.le_of_ble_eq_true h
theorem r_iload {M : aM} {pc i : Nat} (hd : decode M.2.1 pc = .ok (.iload i, 2)) : Ok M pc (oLI i (pc + 2)) := by
  intro G d p l e R s m args below meth c hF lv st h x hx a b
  unfold oLI at hx
  split at hx
  · rename_i hv
    cases hx
    intro Q _ _ k H locs ls hP hS hl
    exact lv_iload hF.1.1 hF.1.2.1 hd (lk_at hl hv) (k H locs ls hP hS hl)
  · rename_i hv
    cases hx
    intro Q _ _ k H locs ls hP hS hl
    exact lv_iload hF.1.1 hF.1.2.1 hd (lk_at hl hv) (k H locs ls hP hS hl)
  · cases hx
theorem r_iload_n {M : aM} {pc i : Nat} {j : Fin 4} (hd : decode M.2.1 pc = .ok (.iload_n j, 1)) (hj : (j : Nat) = i) : Ok M pc (oLI i (pc + 1)) := by
  intro G d p l e R s m args below meth c hF lv st h x hx a b
  unfold oLI at hx
  split at hx
  · rename_i hv
    cases hx
    intro Q _ _ k H locs ls hP hS hl
    exact lv_iload_n hF.1.1 hF.1.2.1 hd hj (lk_at hl hv) (k H locs ls hP hS hl)
  · rename_i hv
    cases hx
    intro Q _ _ k H locs ls hP hS hl
    exact lv_iload_n hF.1.1 hF.1.2.1 hd hj (lk_at hl hv) (k H locs ls hP hS hl)
  · cases hx
theorem r_lload {M : aM} {pc i : Nat} (hd : decode M.2.1 pc = .ok (.lload i, 2)) : Ok M pc (oLL i (pc + 2)) := by
  intro G d p l e R s m args below meth c hF lv st h x hx a b
  unfold oLL at hx
  split at hx
  · rename_i hv
    cases hx
    intro Q _ _ k H locs ls hP hS hl
    exact lv_lload hF.1.1 hF.1.2.1 hd (lk_at hl hv) (k H locs ls hP hS hl)
  · cases hx
theorem r_lload_n {M : aM} {pc i : Nat} {j : Fin 4} (hd : decode M.2.1 pc = .ok (.lload_n j, 1)) (hj : (j : Nat) = i) : Ok M pc (oLL i (pc + 1)) := by
  intro G d p l e R s m args below meth c hF lv st h x hx a b
  unfold oLL at hx
  split at hx
  · rename_i hv
    cases hx
    intro Q _ _ k H locs ls hP hS hl
    exact lv_lload_n hF.1.1 hF.1.2.1 hd hj (lk_at hl hv) (k H locs ls hP hS hl)
  · cases hx
theorem r_aload {M : aM} {pc i : Nat} (hd : decode M.2.1 pc = .ok (.aload i, 2)) : Ok M pc (oLA i (pc + 2)) := by
  intro G d p l e R s m args below meth c hF lv st h x hx a b
  unfold oLA at hx
  split at hx
  · rename_i hv
    cases hx
    intro Q _ _ k H locs ls hP hS hl
    exact lv_aload hF.1.1 hF.1.2.1 hd (lk_at hl hv) (k H locs ls hP hS hl)
  · rename_i hv
    cases hx
    intro Q _ _ k H locs ls hP hS hl
    exact lv_aload hF.1.1 hF.1.2.1 hd (lk_at hl hv) (k H locs ls hP hS hl)
  · cases hx
theorem r_aload_n {M : aM} {pc i : Nat} {j : Fin 4} (hd : decode M.2.1 pc = .ok (.aload_n j, 1)) (hj : (j : Nat) = i) : Ok M pc (oLA i (pc + 1)) := by
  intro G d p l e R s m args below meth c hF lv st h x hx a b
  unfold oLA at hx
  split at hx
  · rename_i hv
    cases hx
    intro Q _ _ k H locs ls hP hS hl
    exact lv_aload_n hF.1.1 hF.1.2.1 hd hj (lk_at hl hv) (k H locs ls hP hS hl)
  · rename_i hv
    cases hx
    intro Q _ _ k H locs ls hP hS hl
    exact lv_aload_n hF.1.1 hF.1.2.1 hd hj (lk_at hl hv) (k H locs ls hP hS hl)
  · cases hx
theorem tl_c1 {G : aG} {i : Nat} {v : aV} {lv : aL} : (i, tx G v) :: (tl G lv).filter (fun q => !(q.1 == i) && !(q.1 + 1 == i && q.2.category == 2)) = tl G ((i, v) :: lv.filter (st1 i)) := by rw [tl_st1]; rfl
theorem tl_c2 {G : aG} {i : Nat} {v : aV} {lv : aL} : (i, tx G v) :: (tl G lv).filter (fun q => !(q.1 == i) && (!(q.1 == i + 1) && !(q.1 + 1 == i && q.2.category == 2))) = tl G ((i, v) :: lv.filter (st2 i)) := by rw [tl_st2]; rfl
theorem r_istore {M : aM} {pc i : Nat} (hd : decode M.2.1 pc = .ok (.istore i, 2)) : Ok M pc (oSI i M.2.2.1 (pc + 2)) := by
  intro G d p l e R s m args below meth c hF lv st h x hx a b
  unfold oSI at hx
  split at hx
  · split at hx
    · rename_i hb
      rw [fltF_eq] at hx
      cases hx
      intro Q _ _ k H locs ls hP hS hl
      exact lv_istore hF.1.1 hF.1.2.1 hd hl (blt_of hb) (tl_c1 (v := .inl (.int _))) (fun ls' hl' => k H locs ls' hP hS hl')
    · cases hx
  · cases hx
theorem r_istore_n {M : aM} {pc i : Nat} {j : Fin 4} (hd : decode M.2.1 pc = .ok (.istore_n j, 1)) (hj : (j : Nat) = i) : Ok M pc (oSI i M.2.2.1 (pc + 1)) := by
  intro G d p l e R s m args below meth c hF lv st h x hx a b
  unfold oSI at hx
  split at hx
  · split at hx
    · rename_i hb
      rw [fltF_eq] at hx
      cases hx
      intro Q _ _ k H locs ls hP hS hl
      exact lv_istore_n hF.1.1 hF.1.2.1 hd hj hl (blt_of hb) (tl_c1 (v := .inl (.int _))) (fun ls' hl' => k H locs ls' hP hS hl')
    · cases hx
  · cases hx
theorem r_lstore {M : aM} {pc i : Nat} (hd : decode M.2.1 pc = .ok (.lstore i, 2)) : Ok M pc (oSL i M.2.2.1 (pc + 2)) := by
  intro G d p l e R s m args below meth c hF lv st h x hx a b
  unfold oSL at hx
  split at hx
  · split at hx
    · rename_i hb
      rw [fltF_eq] at hx
      cases hx
      intro Q _ _ k H locs ls hP hS hl
      exact lv_lstore hF.1.1 hF.1.2.1 hd hl (blt_of hb) (tl_c2 (v := .inl (.long _))) (fun ls' hl' => k H locs ls' hP hS hl')
    · cases hx
  · cases hx
theorem r_lstore_n {M : aM} {pc i : Nat} {j : Fin 4} (hd : decode M.2.1 pc = .ok (.lstore_n j, 1)) (hj : (j : Nat) = i) : Ok M pc (oSL i M.2.2.1 (pc + 1)) := by
  intro G d p l e R s m args below meth c hF lv st h x hx a b
  unfold oSL at hx
  split at hx
  · split at hx
    · rename_i hb
      rw [fltF_eq] at hx
      cases hx
      intro Q _ _ k H locs ls hP hS hl
      exact lv_lstore_n hF.1.1 hF.1.2.1 hd hj hl (blt_of hb) (tl_c2 (v := .inl (.long _))) (fun ls' hl' => k H locs ls' hP hS hl')
    · cases hx
  · cases hx
theorem r_astore_n {M : aM} {pc i : Nat} {j : Fin 4} (hd : decode M.2.1 pc = .ok (.astore_n j, 1)) (hj : (j : Nat) = i) : Ok M pc (oSA i M.2.2.1 (pc + 1)) := by
  intro G d p l e R s m args below meth c hF lv st h x hx a b
  unfold oSA at hx
  split at hx
  · split at hx
    · rename_i hb
      rw [fltF_eq] at hx
      cases hx
      intro Q _ _ k H locs ls hP hS hl
      exact lv_astore_n hF.1.1 hF.1.2.1 hd hj hl (blt_of hb) (tl_c1 (v := .inl (.ref _))) (fun ls' hl' => k H locs ls' hP hS hl')
    · cases hx
  · cases hx
theorem r_iinc {M : aM} {pc i : Nat} {n : Int} {v : Int32} (hd : decode M.2.1 pc = .ok (.iinc i n, 3)) (hv : Int32.ofInt n = v) : Ok M pc (oInc i v M.2.2.1 (pc + 3)) := by
  intro G d p l e R s m args below meth c hF lv st h x hx a b
  unfold oInc at hx
  split at hx
  · rename_i hk
    split at hx
    · rename_i hb
      rw [frI_eq, fltF_eq] at hx
      cases hx
      intro Q _ _ k H locs ls hP hS hl
      obtain ⟨j, hj⟩ := List.getElem?_of_mem (List.mem_map.mpr ⟨_, lk_spec _ _ _ hk, rfl⟩ : (i, tx G (.inl (Value.int _))) ∈ tl G lv)
      exact lv_iinc hF.1.1 hF.1.2.1 hd hl hj (by rw [hv]) (blt_of hb) (tl_c1 (v := .inl (.int _))) (fun ls' hl' => k H locs ls' hP hS hl')
    · cases hx
  · cases hx
-- jumps
def oGo (t : Nat) : aO := fun lv st h => nx t lv st h
theorem r_goto {M : aM} {pc t : Nat} {off : Int} (hd : decode M.2.1 pc = .ok (.goto off, 3)) (ht : (pc : Int) + off = (t : Int)) : Ok M pc (oGo t) := by
  intro G d p l e R s m args below meth c hF lv st h x hx a b
  cases hx
  intro Q _ _ k H locs ls hP hS hl
  exact lv_goto hF.1.1 hF.1.2.1 hd ht (k H locs ls hP hS hl)
def oNu (t n : Nat) : aO := fun lv st h => match st with
  | .inl (.ref _) :: r => nx n lv r h
  | .inl .null :: r => nx t lv r h
  | _ => none
theorem r_ifnull {M : aM} {pc t : Nat} {off : Int} (hd : decode M.2.1 pc = .ok (.ifnull off, 3)) (ht : (pc : Int) + off = (t : Int)) : Ok M pc (oNu t (pc + 3)) := by
  intro G d p l e R s m args below meth c hF lv st h x hx a b
  unfold oNu at hx
  split at hx
  · cases hx
    intro Q _ _ k H locs ls hP hS hl
    exact lv_ifnull hF.1.1 hF.1.2.1 hd (k H locs ls hP hS hl)
  · cases hx
    intro Q _ _ k H locs ls hP hS hl
    exact lv_ifnullN hF.1.1 hF.1.2.1 hd ht (k H locs ls hP hS hl)
  · cases hx
theorem r_ifnonnull {M : aM} {pc t : Nat} {off : Int} (hd : decode M.2.1 pc = .ok (.ifnonnull off, 3)) (ht : (pc : Int) + off = (t : Int)) : Ok M pc (fun lv st h => oNu (pc + 3) t lv st h) := by
  intro G d p l e R s m args below meth c hF lv st h x hx a b
  dsimp only at hx
  unfold oNu at hx
  split at hx
  · cases hx
    intro Q _ _ k H locs ls hP hS hl
    exact lv_ifnonnull hF.1.1 hF.1.2.1 hd ht (k H locs ls hP hS hl)
  · cases hx
    intro Q _ _ k H locs ls hP hS hl
    exact lv_ifnonnullN hF.1.1 hF.1.2.1 hd (k H locs ls hP hS hl)
  · cases hx
/-- a table from 0 on: its targets -/
def oTb (ts : List Nat) (dt : Nat) : aO := fun lv st h => match st with
  | .inl (.int x) :: r => match decide (x < 0) with
    | true => nx dt lv r h
    | false => match ts[x.toNatClampNeg]? with
      | some t => nx t lv r h
      | none => nx dt lv r h
  | _ => none
theorem r_table {M : aM} {pc dt len : Nat} {ts : List Nat} {dflt hi : Int} {offs : Array Int} (hd : decode M.2.1 pc = .ok (.tableswitch dflt 0 hi offs, len)) (h0 : (pc : Int) + dflt = (dt : Int)) (h1 : offs.toList.map (fun o => (pc : Int) + o) = ts.map (fun t : Nat => (t : Int))) (h2 : hi + 1 = (ts.length : Int)) : Ok M pc (oTb ts dt) := by
  intro G d p l e R s m args below meth c hF lv st h x hx a b
  unfold oTb at hx
  split at hx
  · rename_i z r
    split at hx
    · rename_i hz
      cases hx
      intro Q _ _ k H locs ls hP hS hl
      have hz : z < 0 := of_decide_eq_true hz
      exact lv_tableOut hF.1.1 hF.1.2.1 hd (Or.inl (by simpa using Int32.lt_iff_toInt_lt.mp hz)) h0 (k H locs ls hP hS hl)
    · rename_i hz
      have hz : ¬ z < 0 := of_decide_eq_false hz
      have hz0 : (0 : Int) ≤ z.toInt := by
        have := Int32.not_lt.mp hz
        simpa using Int32.le_iff_toInt_le.mp this
      have hzn : z.toInt = (z.toNatClampNeg : Int) := by
        show z.toInt = ((z.toInt.toNat : Nat) : Int)
        omega
      split at hx
      · rename_i t ht
        cases hx
        intro Q _ _ k H locs ls hP hS hl
        have hlt : z.toNatClampNeg < ts.length := (List.getElem?_eq_some_iff.mp ht).1
        have h3 : (offs.toList.map (fun o => (pc : Int) + o))[z.toNatClampNeg]? = some (t : Int) := by rw [h1, List.getElem?_map, ht]; rfl
        rw [List.getElem?_map] at h3
        obtain ⟨o, ho, ho2⟩ := Option.map_eq_some_iff.mp h3
        exact lv_tableIn hF.1.1 hF.1.2.1 hd (by omega) (by omega) (off := o) (by rw [show (z.toInt - 0).toNat = z.toNatClampNeg by omega, ← Array.getElem?_toList]; exact ho) ho2 (k H locs ls hP hS hl)
      · rename_i ht
        cases hx
        intro Q _ _ k H locs ls hP hS hl
        have hge : ts.length ≤ z.toNatClampNeg := List.getElem?_eq_none_iff.mp ht
        exact lv_tableOut hF.1.1 hF.1.2.1 hd (Or.inr (by omega)) h0 (k H locs ls hP hS hl)
  · cases hx
def oLu (pc : Nat) (ps : List (Int × Int)) (dflt : Int) : aO := fun lv st h => match st with
  | .inl (.int x) :: r => match (pc : Int) + Op.lookupswitch.offset ps dflt x.toInt with
    | .ofNat t => frN t (fun t => nx t lv r h)
    | .negSucc _ => none
  | _ => none
theorem r_lookup {M : aM} {pc len : Nat} {dflt : Int} {ps : Array (Int × Int)} (hd : decode M.2.1 pc = .ok (.lookupswitch dflt ps, len)) (hp : (ps.toList.zip (ps.toList.drop 1)).all (fun (a, next) => a.1 < next.1) = true) : Ok M pc (oLu pc ps.toList dflt) := by
  intro G d p l e R s m args below meth c hF lv st h x hx a b
  unfold oLu at hx
  split at hx
  · split at hx
    · rename_i ht
      rw [frN_eq] at hx
      cases hx
      intro Q _ _ k H locs ls hP hS hl
      exact lv_lookup hF.1.1 hF.1.2.1 hd hp rfl ht (k H locs ls hP hS hl)
    · cases hx
  · cases hx
-- constants of the pool
def oK (v : Value) (n : Nat) : aO := fun lv st h => nx n lv (.inl v :: st) h
theorem r_ldc {M : aM} {pc i : Nat} {v : Int32} (hd : decode M.2.1 pc = .ok (.ldc i, 2)) (hw : Cond.constant M.1.cls i v ∈ tg) : Ok M pc (oK (.int v) (pc + 2)) := by
  intro G d p l e R s m args below meth c hF lv st h x hx a b
  cases hx
  intro Q _ _ k H locs ls hP hS hl
  exact lv_ldc hF.1.1 hF.1.2.1 hF.1.2.2.2.1 (hF.1.2.2.2.2 _ hw) hd (k H locs ls hP hS hl)
theorem r_ldcw {M : aM} {pc i : Nat} {v : Int32} (hd : decode M.2.1 pc = .ok (.ldc_w i, 3)) (hw : Cond.constant M.1.cls i v ∈ tg) : Ok M pc (oK (.int v) (pc + 3)) := by
  intro G d p l e R s m args below meth c hF lv st h x hx a b
  cases hx
  intro Q _ _ k H locs ls hP hS hl
  exact lv_ldcw hF.1.1 hF.1.2.1 hF.1.2.2.2.1 (hF.1.2.2.2.2 _ hw) hd (k H locs ls hP hS hl)
theorem r_ldc2 {M : aM} {pc i : Nat} {v : Int64} (hd : decode M.2.1 pc = .ok (.ldc2_w i, 3)) (hw : Cond.constantLong M.1.cls i v ∈ tg) : Ok M pc (oK (.long v) (pc + 3)) := by
  intro G d p l e R s m args below meth c hF lv st h x hx a b
  cases hx
  intro Q _ _ k H locs ls hP hS hl
  exact lv_ldc2 hF.1.1 hF.1.2.1 hF.1.2.2.2.1 (hF.1.2.2.2.2 _ hw) hd (k H locs ls hP hS hl)
-- ends
def oRI : aO := fun _ st _ => match st with
  | [.inl (.int v)] => some (.inr (.inr (some (.int v))))
  | _ => none
def oRZ : aO := fun _ st _ => match st with
  | [.inl (.int v)] => match decide (narrow .boolean (.int v) = .int v) with
    | true => some (.inr (.inr (some (.int v))))
    | false => none
  | _ => none
def oRL : aO := fun _ st _ => match st with
  | [.inl (.long v)] => some (.inr (.inr (some (.long v))))
  | _ => none
def oRV : aO := fun _ st _ => match st with
  | [] => some (.inr (.inr none))
  | _ => none
theorem r_ireturn {M : aM} {pc : Nat} (hr : M.2.2.2 = some .int) (hd : decode M.2.1 pc = .ok (.ireturn, 1)) : Ok M pc oRI := by
  intro G d p l e R s m args below meth c hF lv st h x hx a b
  unfold oRI at hx
  split at hx
  · cases hx
    intro mc ms h1 h2 H locs ls hP hS hl
    refine W.widen h1 h2 ?_
    have hlocks := hF.2.1.2.1
    exact W.iret hF.1.1 hF.1.2.1 (by rw [hF.2.1.1, hr]) (fun t ht hW => ⟨rfl, by rw [ht]; exact hP, hS.F ht⟩) hS.2.2 hd
  · cases hx
theorem r_zreturn {M : aM} {pc : Nat} (hr : M.2.2.2 = some .boolean) (hd : decode M.2.1 pc = .ok (.ireturn, 1)) : Ok M pc oRZ := by
  intro G d p l e R s m args below meth c hF lv st h x hx a b
  unfold oRZ at hx
  split at hx
  · split at hx
    · rename_i hn
      cases hx
      intro mc ms h1 h2 H locs ls hP hS hl
      refine W.widen h1 h2 ?_
      have hlocks := hF.2.1.2.1
      exact W.zret hF.1.1 hF.1.2.1 (by rw [hF.2.1.1, hr]) (of_decide_eq_true hn) (fun t ht hW => ⟨rfl, by rw [ht]; exact hP, hS.F ht⟩) hS.2.2 hd
    · cases hx
  · cases hx
theorem r_lreturn {M : aM} {pc : Nat} (hr : M.2.2.2 = some .long) (hd : decode M.2.1 pc = .ok (.lreturn, 1)) : Ok M pc oRL := by
  intro G d p l e R s m args below meth c hF lv st h x hx a b
  unfold oRL at hx
  split at hx
  · cases hx
    intro mc ms h1 h2 H locs ls hP hS hl
    refine W.widen h1 h2 ?_
    have hlocks := hF.2.1.2.1
    exact W.lret hF.1.1 hF.1.2.1 (by rw [hF.2.1.1, hr]) (fun t ht hW => ⟨rfl, by rw [ht]; exact hP, hS.F ht⟩) hS.2.2 hd
  · cases hx
theorem r_return {M : aM} {pc : Nat} (hr : M.2.2.2 = none) (hd : decode M.2.1 pc = .ok (.return_, 1)) : Ok M pc oRV := by
  intro G d p l e R s m args below meth c hF lv st h x hx a b
  unfold oRV at hx
  split at hx
  · cases hx
    intro mc ms h1 h2 H locs ls hP hS hl
    refine W.widen h1 h2 ?_
    have hlocks := hF.2.1.2.1
    exact W.vret hF.1.1 hF.1.2.1 (by rw [hF.2.1.1, hr]) (fun t ht hW => ⟨rfl, by rw [ht]; exact hP, hS.F ht⟩) hS.2.2 hd
  · cases hx
end
section
/-- a class of the tables -/
def CD (ci : Nat) (C : String) (T : u_T) (N : Nat) (ty : Nat → FieldType) : Prop := vwCl[ci]? = some (C, T, N) ∧ (∀ w ∈ u_ws C T N, w ∈ tg) ∧ (∀ k, k < N → parseFieldDescriptor (T k).2.2.1 = some (ty k)) ∧ (∀ a, a < N → ∀ b, b < N → a ≠ b → (T a).2.1 ≠ (T b).2.1) ∧ Cond.instantiable C N ∈ tg ∧ Cond.initialized C ∈ tg
def oGe (ci k n : Nat) : aO := fun lv st h => match st with
  | .inl (.ref a) :: r => match h[a]? with
    | some (.inr (.inr (.inr (cj, fs)))) => match Nat.beq cj ci with
      | true => match fs[k]? with
        | some v => nx n lv (.inl v :: r) h
        | none => none
      | false => none
    | _ => none
  | _ => none
theorem r_get {M : aM} {pc ci idx : Nat} {C : String} {T : u_T} {N : Nat} {ty : Nat → FieldType} (hd : decode M.2.1 pc = .ok (.getfield idx, 3)) (cd : CD ci C T N ty) (k : Nat) (hk : k < N) (hl : Cond.fieldLink M.1.cls idx C (T k).2.1 (T k).2.2.1 ∈ tg) (h1 : (T k).1 = C) : Ok M pc (oGe ci k (pc + 3)) := by
  intro G d p l e R s m args below meth c hF lv st h x hx a b
  unfold oGe at hx
  split at hx
  · split at hx
    · rename_i ha
      split at hx
      · rename_i hb
        have hb := Nat.eq_of_beq_eq_true hb
        subst hb
        split at hx
        · rename_i hv
          cases hx
          intro Q _ _ kk H locs ls hP hS hll
          refine va_get hF.1.1 hF.1.2.1 hF.1.2.2.2.2 cd.2.1 hF.1.2.2.2.1 hF.2.2.1.1 hP.1 _ (hp_at ha) cd.1 k hk (hF.1.2.2.2.2 _ hl) (fun x hx => by rw [h1] at hx; exact hx) (by rw [List.getElem?_map, hv]; rfl) hd (kk H locs ls hP hS hll)
        · cases hx
      · cases hx
    · cases hx
  · cases hx
section PZ
variable {p : Program} {l : Launch} {e : Env} {R : Room} {s : State} {m : MethodId} {args : Array Value} {below : List Frame} {meth : Method} {c : Code} {H : Heap} {locs : List Loc} {cells slots : Nat} {Q : State → Prop} {cc : ByteArray} {pc : Nat} {ls : Array Slot} {rest : List Value} {D : va_G} {cl : List vw_C} {a : Nat} {tys : List (ClassId × FieldType)} {ws : va_W}
/-- a field is written: sizes stay, other cells stay -/
theorem pz_put (hexec : p.tables.exec = Jvm.exec) (hb : c.code = cc) {own ref C : String} {T : u_T} {N ci index : Nat} {Ts : List Cond} (hts : ∀ w ∈ Ts, w.before args s = true) (hin : ∀ w ∈ u_ws C T N, w ∈ Ts) (ty0 : Nat → FieldType) (hty : ∀ k, k < N → parseFieldDescriptor (T k).2.2.1 = some (ty0 k)) (hnm : ∀ a, a < N → ∀ b, b < N → a ≠ b → (T a).2.1 ≠ (T b).2.1) (hown : s.vm.findClass own = some m.cls) (hK : va_K D cl tys s) (hP : va_P D cl ws H) (q0 : Nat) {fs : List Value} (he : ws[q0]? = some (a, .inr (ci, fs))) (hc : cl[ci]? = some (C, T, N)) (k : Nat) (hk : k < N) (hlink : (Cond.fieldLink own index ref (T k).2.1 (T k).2.2.1).before args s = true) (hsame : ∀ x, s.fieldFound? (T k).1 (T k).2.1 (T k).2.2.1 = some x → s.fieldFound? ref (T k).2.1 (T k).2.2.1 = some x) (hfin : (T k).2.2.2 = false) {ty : FieldType} {v : Value} (hd : parseFieldDescriptor (T k).2.2.1 = some ty) (hn : narrow ty v = v) (hfit : fits ty v = true) (hl : k < fs.length)
    (hdg : decode cc pc = .ok (.putfield index, 3)) (kk : ∀ (H1 : Heap) (i : Nat), va_at D cl (a, .inr (ci, fs.set k v)) H1 → H1.size = H.size → (∀ q : Nat, q ≠ a → H1[q]? = H[q]?) → W p l e R s m args below meth c H1 (locs ++ [⟨a, i⟩]) cells slots Q (F0 m (pc + 3) ls rest)) : W p l e R s m args below meth c H locs cells slots Q (F0 m pc ls (v :: .ref a :: rest)) := by
  have hap := va_apart (own := own) hts hin ty0 hty hnm hK hc
  obtain ⟨r, h1, cell, q1, q2, q3, q4⟩ := hP q0 _ he
  have hr : r = (C, T, N) := Option.some.inj (h1.symm.trans hc)
  subst hr
  obtain ⟨hS, hfc, kC, hkC, hkind⟩ := hK.1 ci _ hc
  obtain ⟨cf, kf, fi, f, hi, hsl⟩ := hS k hk
  have hlay := hts _ (hin _ (u_in_lay hk))
  unfold u_lay at hlay
  rw [if_neg (by rw [hfin]; decide)] at hlay
  have hst := (u_facts hfc hkC (u_lays hts hin hk) hi).1
  have h6 := u_store hfc hkC hkind hlay hi hd hn hfit
  refine W.putK hexec hb (f := f) ⟨hown, hlink, ⟨_, _, _, hsame _ hi⟩, hst⟩ (by rw [q2]; exact h6) q1 q3 (by rw [hsl]; exact k2_hasslot (q4 k hk)) rfl rfl hdg fun H' e1 e2 e3 => ?_
  rw [hsl] at e1 ⊢
  exact kk H' _ ⟨_, hc, t_OB.to (V := updV (vp_V fs) k v) ⟨_, e1, q2, q3, t_set q4 hap hk v⟩ (fun j _ => vp_updV_set hl v j)⟩ e2 e3
theorem pz_putF (hexec : p.tables.exec = Jvm.exec) (hb : c.code = cc) {own ref C : String} {T : u_T} {N ci index : Nat} {Ts : List Cond} (hts : ∀ w ∈ Ts, w.before args s = true) (hin : ∀ w ∈ u_ws C T N, w ∈ Ts) (ty0 : Nat → FieldType) (hty : ∀ k, k < N → parseFieldDescriptor (T k).2.2.1 = some (ty0 k)) (hnm : ∀ a, a < N → ∀ b, b < N → a ≠ b → (T a).2.1 ≠ (T b).2.1) (hown : s.vm.findClass own = some m.cls) (hK : va_K D cl tys s) (hP : va_P D cl ws H) (q0 : Nat) {fs : List Value} (he : ws[q0]? = some (a, .inr (ci, fs))) (hc : cl[ci]? = some (C, T, N)) (k : Nat) (hk : k < N) (hlink : (Cond.fieldLink own index ref (T k).2.1 (T k).2.2.1).before args s = true) (hsame : ∀ x, s.fieldFound? (T k).1 (T k).2.1 (T k).2.2.1 = some x → s.fieldFound? ref (T k).2.1 (T k).2.2.1 = some x) (hfin : (T k).2.2.2 = true) (hin2 : meth.name = "<init>") (hdecl : (T k).1 = own) {ty : FieldType} {v : Value} (hd : parseFieldDescriptor (T k).2.2.1 = some ty) (hn : narrow ty v = v) (hfit : fits ty v = true) (hl : k < fs.length)
    (hdg : decode cc pc = .ok (.putfield index, 3)) (kk : ∀ (H1 : Heap) (i : Nat), va_at D cl (a, .inr (ci, fs.set k v)) H1 → H1.size = H.size → (∀ q : Nat, q ≠ a → H1[q]? = H[q]?) → W p l e R s m args below meth c H1 (locs ++ [⟨a, i⟩]) cells slots Q (F0 m (pc + 3) ls rest)) : W p l e R s m args below meth c H locs cells slots Q (F0 m pc ls (v :: .ref a :: rest)) := by
  have hap := va_apart (own := own) hts hin ty0 hty hnm hK hc
  obtain ⟨r, h1, cell, q1, q2, q3, q4⟩ := hP q0 _ he
  have hr : r = (C, T, N) := Option.some.inj (h1.symm.trans hc)
  subst hr
  obtain ⟨hS, hfc, kC, hkC, hkind⟩ := hK.1 ci _ hc
  obtain ⟨cf, kf, fi, f, hi, hsl⟩ := hS k hk
  have hlay := hts _ (hin _ (u_in_lay hk))
  unfold u_lay at hlay
  rw [if_pos hfin] at hlay
  have hst := (u_facts hfc hkC (u_lays hts hin hk) hi).1
  have hcf : m.cls = cf := by
    obtain ⟨_, _, c', _, _, _, -, -, hf', -, -, -, hown2, -⟩ := Cond.laysFinal_spec hlay
    have e1 : c' = cf := by have := hi.symm.trans hf'; simp at this; exact this.1.symm
    rw [hdecl] at hown2
    rw [← e1]; exact Option.some.inj (hown.symm.trans hown2)
  have h6 := u_fits hfc hkC hkind (Or.inr hlay) hi hd hn hfit
  refine W.putFinK hexec hb hown hlink (hsame _ hi) hst hcf hin2 (by rw [q2]; exact h6) q1 q3 (by rw [hsl]; exact k2_hasslot (q4 k hk)) rfl rfl hdg fun H' e1 e2 e3 => ?_
  rw [hsl] at e1 ⊢
  exact kk H' _ ⟨_, hc, t_OB.to (V := updV (vp_V fs) k v) ⟨_, e1, q2, q3, t_set q4 hap hk v⟩ (fun j _ => vp_updV_set hl v j)⟩ e2 e3
/-- int arrays of one length are copied whole -/
theorem pz_copy {cc : ByteArray} (hexec : p.tables.exec = Jvm.exec) (hb : c.code = cc) (hml : c.maxLocals = ls.size) {own : String} {index : Nat} (hown : s.vm.findClass own = some m.cls) (hlink : (Cond.methodLink own index arraycopyName).before args s = true) (hnat : (Cond.native arraycopyName).before args s = true) (hstat : (Cond.static arraycopyName).before args s = true) (hini : (Cond.initialized "java/lang/System").before args s = true)
    (hK : va_K D cl tys s) (hP : va_P D cl ws H) (q0 q1 t0 : Nat) {a0 : Nat} {c0 : ClassId} {n0 : Nat} {f g : Nat → Int32} (ha0 : ws[q0]? = some (a0, .inl (c0, n0, .inl f))) (ha1 : ws[q1]? = some (a, .inl (c0, n0, .inl g))) (ht0 : tys[t0]? = some (c0, .int))
    {n : Int32} (h3 : ¬ n < 0) (h4 : n.toNatClampNeg = n0)
    (hframes : 1 ≤ R.frames) (hlocals : (rest.map fun v => v.category).sum + (nativeFrameWords "java/lang/System" "arraycopy" 5 + 11) ≤ R.locals) (hdg : decode cc pc = .ok (.invokestatic index, 3))
    (kk : ∀ (H1 : Heap) (L : List Loc), H1[a]? = some (vp_cell c0 (n0, .inl (va_cpy f g 0 0 n0))) → H1.size = H.size → (∀ q : Nat, q ≠ a → H1[q]? = H[q]?) → (∀ q ∈ L, q.base = a) → W p l e R s m args below meth c H1 (locs ++ L) cells slots Q (F0 m (pc + 3) ls rest)) : W p l e R s m args below meth c H locs cells slots Q (F0 m pc ls (.int n :: .int 0 :: .ref a :: .int 0 :: .ref a0 :: rest)) := by
  subst h4
  have nn : ∀ z : Int32, ¬ z < 0 → z.toInt = (z.toNatClampNeg : Int) := by
    intro z hz
    have hz0 : (0 : Int) ≤ z.toInt := by
      have := Int32.not_lt.mp hz
      simpa using Int32.le_iff_toInt_le.mp this
    show z.toInt = ((z.toInt.toNat : Nat) : Int)
    omega
  have z0 : (0 : Int32).toNatClampNeg = 0 := by decide
  have h1 : ¬ (0 : Int32) < 0 := by decide
  intro T hT X
  have hc0 : H[a0]? = some (vp_cell c0 (n.toNatClampNeg, .inl f)) := hP q0 _ ha0
  have hc1 : H[a]? = some (vp_cell c0 (n.toNatClampNeg, .inl g)) := hP q1 _ ha1
  obtain ⟨-, k0, hk0, cm0, hkk0⟩ := (hK.2 t0 _ ht0).1 n.toNatClampNeg (fun j => .int (f j))
  obtain ⟨-, k1, hk1, cm1, hkk1⟩ := (hK.2 t0 _ ht0).1 n.toNatClampNeg (fun j => .int (g j))
  obtain ⟨vm', X', step⟩ := X.arraycopy hexec hown hlink hnat hstat hini (src := a0) (dst := a) (cs := vp_cell c0 (n.toNatClampNeg, .inl f)) (cd := vp_cell c0 (n.toNatClampNeg, .inl g)) (srcPos := 0) (destPos := 0) (n := n) (by rw [hT]; exact hc0) (by rw [hT]; exact hc1)
    (fun _ h => by cases h) (fun _ h => by cases h) (fun h => by cases h) (fun h => by cases h) hk0 hk1 hkk0 hkk1 (by simp [refKind]) h1 h1 h3
    (by rw [nn 0 h1, nn n h3, z0]; show ¬ _ > ((arrV c0 n.toNatClampNeg (fun j => .int (f j))).slots.size : Int); rw [arrV_size]; omega)
    (by rw [nn 0 h1, nn n h3, z0]; show ¬ _ > ((arrV c0 n.toNatClampNeg (fun j => .int (g j))).slots.size : Int); rw [arrV_size]; omega)
    (fun vm₁ _ i hi => by
      have e : (vp_cell c0 (n.toNatClampNeg, .inl f)).slots.getD ((0 : Int32).toNatClampNeg + i) .null = .int (f ((0 : Int32).toNatClampNeg + i)) := by
        show (arrV c0 n.toNatClampNeg (fun j => .int (f j))).slots.getD _ _ = _
        rw [Array.getD_eq_getD_getElem?, arrV_read _ _ (by omega)]
        rfl
      refine ⟨?_, ?_⟩
      · rw [e]
        rfl
      · rw [e]
        exact trivial)
    (g := F0 m pc ls (.int n :: .int 0 :: .ref a :: .int 0 :: .ref a0 :: rest)) rfl (by rw [hml]) (rest := rest) rfl (by rw [hb]; exact hdg) hframes (by show 2 * 0 + _ + _ ≤ _; omega)
  have e1 : copied (vp_cell c0 (n.toNatClampNeg, .inl f)) (vp_cell c0 (n.toNatClampNeg, .inl g)) 0 0 n = vp_cell c0 (n.toNatClampNeg, .inl (va_cpy f g (0 : Int32).toNatClampNeg (0 : Int32).toNatClampNeg n.toNatClampNeg)) := va_copied (fun z => .int z) c0 c0 f g (by omega)
  rw [e1] at X' step
  rw [z0] at X' step
  have hl : a < H.size := (Array.getElem?_eq_some_iff.mp hc1).1
  have hheap : ((T.setVm vm').setCell a (vp_cell c0 (n.toNatClampNeg, .inl (va_cpy f g 0 0 n.toNatClampNeg)))).heap = H.setIfInBounds a (vp_cell c0 (n.toNatClampNeg, .inl (va_cpy f g 0 0 n.toNatClampNeg))) := by rw [← hT]; rfl
  have oq : ∀ q : Nat, q ≠ a → (H.setIfInBounds a (vp_cell c0 (n.toNatClampNeg, .inl (va_cpy f g 0 0 n.toNatClampNeg))))[q]? = H[q]? := fun q hq => by simp [Array.getElem?_setIfInBounds, Ne.symm hq]
  obtain ⟨t, a1, b1⟩ := kk _ _ (by simp [Array.getElem?_setIfInBounds, hl]) (by simp) oq (fun q hq => by
      obtain ⟨z, -, hz⟩ := List.mem_map.mp hq
      rw [← hz]) _ hheap X'
  exact ⟨t, step t a1, b1⟩
end PZ
def oPI (ci k n : Nat) : aO := fun lv st h => match st with
  | .inl (.int x) :: .inl (.ref a) :: r => match h[a]? with
    | some (.inr (.inr (.inr (cj, fs)))) => match Nat.beq cj ci with
      | true => match fs[k]? with
        | some _ => setF fs k (.int x) (fun fs' => setF h a (.inr (.inr (.inr (cj, fs')))) (fun h' => nx n lv r h'))
        | none => none
      | false => none
    | _ => none
  | _ => none
theorem r_putI {M : aM} {pc ci idx : Nat} {C : String} {T : u_T} {N : Nat} {ty : Nat → FieldType} (hd : decode M.2.1 pc = .ok (.putfield idx, 3)) (cd : CD ci C T N ty) (k : Nat) (hk : k < N) (hl : Cond.fieldLink M.1.cls idx C (T k).2.1 (T k).2.2.1 ∈ tg) (h1 : (T k).1 = C) (h2 : (T k).2.2.2 = false) (h3 : parseFieldDescriptor (T k).2.2.1 = some .int) : Ok M pc (oPI ci k (pc + 3)) := by
  intro G d p l e R s m args below meth c hF lv st h x hx a b
  unfold oPI at hx
  split at hx
  · split at hx
    · rename_i ha
      split at hx
      · rename_i hb
        have hb := Nat.eq_of_beq_eq_true hb
        subst hb
        split at hx
        · rename_i hv
          rw [setF_eq, setF_eq] at hx
          cases hx
          intro Q _ _ kk H locs ls hP hS hll
          refine pz_put hF.1.1 hF.1.2.1 hF.1.2.2.2.2 cd.2.1 ty cd.2.2.1 cd.2.2.2.1 hF.1.2.2.2.1 hF.2.2.1.1 hP.1 _ (hp_at ha) cd.1 k hk (hF.1.2.2.2.2 _ hl) (fun x hx => by rw [h1] at hx; exact hx) h2 (v := .int _) h3 rfl rfl (by rw [List.length_map]; exact (List.getElem?_eq_some_iff.mp hv).1) hd (fun H1 i hc z oq => ?_)
          refine kk H1 _ ls (hp_set hP ha z oq ?_) (hS.put z oq (Nat.le_add_right _ _)) hll
          show va_at _ _ (_, Sum.inr (_, (List.set _ _ _).map (tv G.1))) _
          rw [List.map_set]
          exact hc
        · cases hx
      · cases hx
    · cases hx
  · cases hx
def oPR (ci k n : Nat) : aO := fun lv st h => match st with
  | .inl (.ref x) :: .inl (.ref a) :: r => match h[a]? with
    | some (.inr (.inr (.inr (cj, fs)))) => match Nat.beq cj ci with
      | true => match fs[k]? with
        | some _ => setF fs k (.ref x) (fun fs' => setF h a (.inr (.inr (.inr (cj, fs')))) (fun h' => nx n lv r h'))
        | none => none
      | false => none
    | _ => none
  | _ => none
theorem r_putR {M : aM} {pc ci idx : Nat} {C : String} {T : u_T} {N : Nat} {ty : Nat → FieldType} (hd : decode M.2.1 pc = .ok (.putfield idx, 3)) (cd : CD ci C T N ty) (k : Nat) (hk : k < N) (hl : Cond.fieldLink M.1.cls idx C (T k).2.1 (T k).2.2.1 ∈ tg) (h1 : (T k).1 = C) (h2 : (T k).2.2.2 = true) (h3 : M.1.name = "<init>") (h4 : C = M.1.cls) (tq : FieldType) (h5 : parseFieldDescriptor (T k).2.2.1 = some tq) (h6 : ∀ a : Nat, narrow tq (.ref a) = .ref a ∧ fits tq (.ref a) = true) : Ok M pc (oPR ci k (pc + 3)) := by
  intro G d p l e R s m args below meth c hF lv st h x hx a b
  unfold oPR at hx
  split at hx
  · split at hx
    · rename_i ha
      split at hx
      · rename_i hb
        have hb := Nat.eq_of_beq_eq_true hb
        subst hb
        split at hx
        · rename_i hv
          rw [setF_eq, setF_eq] at hx
          cases hx
          intro Q _ _ kk H locs ls hP hS hll
          refine pz_putF hF.1.1 hF.1.2.1 hF.1.2.2.2.2 cd.2.1 ty cd.2.2.1 cd.2.2.2.1 hF.1.2.2.2.1 hF.2.2.1.1 hP.1 _ (hp_at ha) cd.1 k hk (hF.1.2.2.2.2 _ hl) (fun x hx => by rw [h1] at hx; exact hx) h2 (hF.2.1.2.2.1 h3) (by rw [h1, h4]) (v := .ref _) h5 (h6 _).1 (h6 _).2 (by rw [List.length_map]; exact (List.getElem?_eq_some_iff.mp hv).1) hd (fun H1 i hc z oq => ?_)
          refine kk H1 _ ls (hp_set hP ha z oq ?_) (hS.put z oq (Nat.le_add_right _ _)) hll
          show va_at _ _ (_, Sum.inr (_, (List.set _ _ _).map (tv G.1))) _
          rw [List.map_set]
          exact hc
        · cases hx
      · cases hx
    · cases hx
  · cases hx
end
section
theorem in_of {α : Type} {l : List α} {j : Int32} {x : α} (h0 : ¬ j < 0) (h : l[j.toNatClampNeg]? = some x) : vp_in j l.length := fun q => q.elim h0 (fun q => absurd (List.getElem?_eq_some_iff.mp h).1 (Nat.not_lt.mpr q))
theorem getD_of {α : Type} {l : List α} {i : Nat} {x d : α} (h : l[i]? = some x) : l.getD i d = x := by rw [List.getD_eq_getElem?_getD, h]; rfl
theorem ls_getD {α : Type} {l : List α} {i : Nat} {x d : α} (hi : i < l.length) (q : Nat) : (l.set i x).getD q d = if q = i then x else l.getD q d := by
  rw [List.getD_eq_getElem?_getD, List.getD_eq_getElem?_getD, List.getElem?_set]
  by_cases hq : q = i
  · subst hq
    simp [hi]
  · rw [if_neg (Ne.symm hq), if_neg hq]
def oAI (n : Nat) : aO := fun lv st h => match st with
  | .inl (.int j) :: .inl (.ref a) :: r => match h[a]? with
    | some (.inl l) => match decide (j < 0) with
      | true => none
      | false => match l[j.toNatClampNeg]? with
        | some x => nx n lv (.inl (.int x) :: r) h
        | none => none
    | _ => none
  | _ => none
theorem r_iaload {M : aM} {pc : Nat} (hd : decode M.2.1 pc = .ok (.iaload, 1)) : Ok M pc (oAI (pc + 1)) := by
  intro G d p l e R s m args below meth c hF lv st h x hx a b
  unfold oAI at hx
  split at hx
  · split at hx
    · rename_i ha
      split at hx
      · cases hx
      · rename_i hz
        have hz := of_decide_eq_false hz
        split at hx
        · rename_i hv
          cases hx
          intro Q _ _ kk H locs ls hP hS hll
          refine va_iald hF.1.1 hF.1.2.1 hF.2.2.1.1 hP.1 _ 0 (hp_at ha) rfl (in_of hz hv) hd ?_
          try dsimp only
          rw [getD_of hv]
          exact kk H locs ls hP hS hll
        · cases hx
    · cases hx
  · cases hx
def oAL (n : Nat) : aO := fun lv st h => match st with
  | .inl (.int j) :: .inl (.ref a) :: r => match h[a]? with
    | some (.inr (.inl l)) => match decide (j < 0) with
      | true => none
      | false => match l[j.toNatClampNeg]? with
        | some x => nx n lv (.inl (.long x) :: r) h
        | none => none
    | _ => none
  | _ => none
theorem r_laload {M : aM} {pc : Nat} (hd : decode M.2.1 pc = .ok (.laload, 1)) : Ok M pc (oAL (pc + 1)) := by
  intro G d p l e R s m args below meth c hF lv st h x hx a b
  unfold oAL at hx
  split at hx
  · split at hx
    · rename_i ha
      split at hx
      · cases hx
      · rename_i hz
        have hz := of_decide_eq_false hz
        split at hx
        · rename_i hv
          cases hx
          intro Q _ _ kk H locs ls hP hS hll
          refine va_lald hF.1.1 hF.1.2.1 hF.2.2.1.1 hP.1 _ 1 (hp_at ha) rfl (in_of hz hv) hd ?_
          try dsimp only
          rw [getD_of hv]
          exact kk H locs ls hP hS hll
        · cases hx
    · cases hx
  · cases hx
def oAA (n : Nat) : aO := fun lv st h => match st with
  | .inl (.int j) :: .inl (.ref a) :: r => match h[a]? with
    | some (.inr (.inr (.inl l))) => match decide (j < 0) with
      | true => none
      | false => match l[j.toNatClampNeg]? with
        | some (some x) => nx n lv (.inl (.ref x) :: r) h
        | some none => nx n lv (.inl .null :: r) h
        | none => none
    | _ => none
  | _ => none
theorem r_aaload {M : aM} {pc : Nat} (hd : decode M.2.1 pc = .ok (.aaload, 1)) : Ok M pc (oAA (pc + 1)) := by
  intro G d p l e R s m args below meth c hF lv st h x hx a b
  unfold oAA at hx
  split at hx
  · split at hx
    · rename_i ha
      split at hx
      · cases hx
      · rename_i hz
        have hz := of_decide_eq_false hz
        split at hx
        · rename_i hv
          cases hx
          intro Q _ _ kk H locs ls hP hS hll
          refine va_aldq (C := RX0) hF.1.1 hF.1.2.1 hF.2.2.1.1 hP.1 _ 2 (hp_at ha) rfl (in_of hz hv) hd ?_
          try dsimp only
          rw [getD_of hv]
          exact kk H locs ls hP hS hll
        · rename_i hv
          cases hx
          intro Q _ _ kk H locs ls hP hS hll
          refine va_aldq (C := RX0) hF.1.1 hF.1.2.1 hF.2.2.1.1 hP.1 _ 2 (hp_at ha) rfl (in_of hz hv) hd ?_
          try dsimp only
          rw [getD_of hv]
          exact kk H locs ls hP hS hll
        · cases hx
    · cases hx
  · cases hx
def oAT (n : Nat) : aO := fun lv st h => match st with
  | .inl (.int v) :: .inl (.int j) :: .inl (.ref a) :: r => match h[a]? with
    | some (.inl l) => match decide (j < 0) with
      | true => none
      | false => match l[j.toNatClampNeg]? with
        | some _ => setF l j.toNatClampNeg v (fun l' => setF h a (.inl l') (fun h' => nx n lv r h'))
        | none => none
    | _ => none
  | _ => none
theorem r_iastore {M : aM} {pc : Nat} (hd : decode M.2.1 pc = .ok (.iastore, 1)) : Ok M pc (oAT (pc + 1)) := by
  intro G d p l e R s m args below meth c hF lv st h x hx a b
  unfold oAT at hx
  split at hx
  · split at hx
    · rename_i ha
      split at hx
      · cases hx
      · rename_i hz
        have hz := of_decide_eq_false hz
        split at hx
        · rename_i hv
          rw [setF_eq, setF_eq] at hx
          cases hx
          intro Q _ _ kk H locs ls hP hS hll
          have hlt := (List.getElem?_eq_some_iff.mp hv).1
          refine W.iast hF.1.1 hF.1.2.1 (hP.1 _ _ (hp_at ha)) ((hF.2.2.1.1.2 0 _ rfl).1 _ _) (fun q => by cases q) (by show ¬ (_ < 0 ∨ (arrV _ _ _).slots.size ≤ _); rw [arrV_size]; exact in_of hz hv) rfl rfl hd fun H1 e z oq => ?_
          refine kk H1 _ ls (hp_set hP ha z oq ?_) (hS.put z oq (Nat.le_add_right _ _)) hll
          show H1[_]? = some (vp_cell _ ((List.set _ _ _).length, .inl (fun q => (List.set _ _ _).getD q 0)))
          rw [e, List.length_set]
          rw [vp_cell_i, vp_cell_i, arrV_store]
          congr 2
          funext q
          rw [ls_getD hlt]
          simp only [updV]
          split <;> rename_i hq <;> simp [hq, va_rf]
        · cases hx
    · cases hx
  · cases hx
def oAJ (n : Nat) : aO := fun lv st h => match st with
  | .inl (.long v) :: .inl (.int j) :: .inl (.ref a) :: r => match h[a]? with
    | some (.inr (.inl l)) => match decide (j < 0) with
      | true => none
      | false => match l[j.toNatClampNeg]? with
        | some _ => setF l j.toNatClampNeg v (fun l' => setF h a (.inr (.inl l')) (fun h' => nx n lv r h'))
        | none => none
    | _ => none
  | _ => none
theorem r_lastore {M : aM} {pc : Nat} (hd : decode M.2.1 pc = .ok (.lastore, 1)) : Ok M pc (oAJ (pc + 1)) := by
  intro G d p l e R s m args below meth c hF lv st h x hx a b
  unfold oAJ at hx
  split at hx
  · split at hx
    · rename_i ha
      split at hx
      · cases hx
      · rename_i hz
        have hz := of_decide_eq_false hz
        split at hx
        · rename_i hv
          rw [setF_eq, setF_eq] at hx
          cases hx
          intro Q _ _ kk H locs ls hP hS hll
          have hlt := (List.getElem?_eq_some_iff.mp hv).1
          refine W.last hF.1.1 hF.1.2.1 (hP.1 _ _ (hp_at ha)) ((hF.2.2.1.1.2 1 _ rfl).1 _ _) (fun q => by cases q) (by show ¬ (_ < 0 ∨ (arrV _ _ _).slots.size ≤ _); rw [arrV_size]; exact in_of hz hv) rfl rfl hd fun H1 e z oq => ?_
          refine kk H1 _ ls (hp_set hP ha z oq ?_) (hS.put z oq (Nat.le_add_right _ _)) hll
          show H1[_]? = some (vp_cell _ ((List.set _ _ _).length, .inr (.inl (fun q => (List.set _ _ _).getD q 0))))
          rw [e, List.length_set]
          rw [vp_cell_l, vp_cell_l, arrV_store]
          congr 2
          funext q
          rw [ls_getD hlt]
          simp only [updV]
          split <;> rename_i hq <;> simp [hq, va_rf]
        · cases hx
    · cases hx
  · cases hx
/-- a Board into an array of them -/
def oAB (n : Nat) : aO := fun lv st h => match st with
  | .inl (.ref v) :: .inl (.int j) :: .inl (.ref a) :: r => match h[a]? with
    | some (.inr (.inr (.inl l))) => match decide (j < 0) with
      | true => none
      | false => match l[j.toNatClampNeg]? with
        | some _ => match h[v]? with
          | some (.inr (.inr (.inr (0, _)))) => setF l j.toNatClampNeg (some v) (fun l' => setF h a (.inr (.inr (.inl l'))) (fun h' => nx n lv r h'))
          | _ => none
        | none => none
    | _ => none
  | _ => none
theorem r_aastore {M : aM} {pc : Nat} (hd : decode M.2.1 pc = .ok (.aastore, 1)) : Ok M pc (oAB (pc + 1)) := by
  intro G d p l e R s m args below meth c hF lv st h x hx a b
  unfold oAB at hx
  split at hx
  · split at hx
    · rename_i ha
      split at hx
      · cases hx
      · rename_i hz
        have hz := of_decide_eq_false hz
        split at hx
        · rename_i hv
          split at hx
          · rename_i hw
            rw [setF_eq, setF_eq] at hx
            cases hx
            intro Q _ _ kk H locs ls hP hS hll
            have hlt := (List.getElem?_eq_some_iff.mp hv).1
            obtain ⟨r', hr', cellV, g1, g2, g3, -⟩ := hP.1 _ _ (hp_at hw)
            have hc0 : vwCl[0]? = some (RX0, TX0, 19) := rfl
            have hcls := (hF.2.2.1.1.1 0 _ hc0).2
            obtain ⟨kA, comp, k1, k2, k3, -⟩ := (hF.2.2.1.1.2 2 _ rfl).2
            have hcomp : comp = G.2.1.1 0 := Option.some.inj (k3.symm.trans hcls.1)
            subst hcomp
            obtain ⟨kC, hkC, -⟩ := hcls.2
            refine W.aast hF.1.1 hF.1.2.1 (hP.1 _ _ (hp_at ha)) (fun q h => by cases h) (fun h => by cases h) k1 k2 rfl hkC ⟨hz, by show _ < (arrV _ _ _).slots.size; rw [arrV_size]; exact hlt⟩ g1 (fun q h => by rw [g3] at h; cases h) (by rw [g2]; exact hkC) (by rw [g2]; exact va_assign hcls) rfl rfl hd fun H1 e z oq => ?_
            refine kk H1 _ ls (hp_set hP ha z oq ?_) (hS.put z oq (Nat.le_add_right _ _)) hll
            show H1[_]? = some (vp_cell _ ((List.set _ _ _).length, .inr (.inr (.inr (.inr (fun q => ((List.set _ _ _).getD q none).map (G.1 + ·)))))))
            rw [e, List.length_set]
            rw [vp_cell_q, vp_cell_q, arrV_store]
            congr 2
            funext q
            rw [ls_getD hlt]
            simp only [updV]
            split <;> rename_i hq <;> simp [hq, va_rf]
          · cases hx
        · cases hx
    · cases hx
  · cases hx
def oAn (n : Nat) : aO := fun lv st h => match st with
  | .inl (.ref a) :: r => match h[a]? with
    | some (.inl l) => frI (Int32.ofNat l.length) (fun z => nx n lv (.inl (.int z) :: r) h)
    | _ => none
  | _ => none
theorem r_alen {M : aM} {pc : Nat} (hd : decode M.2.1 pc = .ok (.arraylength, 1)) : Ok M pc (oAn (pc + 1)) := by
  intro G d p l e R s m args below meth c hF lv st h x hx a b
  unfold oAn at hx
  split at hx
  · split at hx
    · rename_i ha
      rw [frI_eq] at hx
      cases hx
      intro Q _ _ kk H locs ls hP hS hll
      exact va_alen hF.1.1 hF.1.2.1 hF.2.2.1.1 hP.1 _ 0 (hp_at ha) rfl rfl hd (kk H locs ls hP hS hll)
    · cases hx
  · cases hx
/-- a new array of ints, of longs, of Boards; a new object -/
def oNI (n : Nat) : aO := fun lv st h => match st with
  | .inl (.int z) :: r => match decide (z < 0) with
    | true => none
    | false => match Nat.ble (z.toNatClampNeg * 8) 536870912 with
      | true => appF (.inl (List.replicate z.toNatClampNeg 0)) h 0 (fun h' q => some (.inl (n, lv, .inl (.ref q) :: r, h', 1, z.toNatClampNeg)))
      | false => none
  | _ => none
def oNJ (n : Nat) : aO := fun lv st h => match st with
  | .inl (.int z) :: r => match decide (z < 0) with
    | true => none
    | false => match Nat.ble (z.toNatClampNeg * 8) 536870912 with
      | true => appF (.inr (.inl (List.replicate z.toNatClampNeg 0))) h 0 (fun h' q => some (.inl (n, lv, .inl (.ref q) :: r, h', 1, z.toNatClampNeg)))
      | false => none
  | _ => none
def oNB (n : Nat) : aO := fun lv st h => match st with
  | .inl (.int z) :: r => match decide (z < 0) with
    | true => none
    | false => match Nat.ble (z.toNatClampNeg * 8) 536870912 with
      | true => appF (.inr (.inr (.inl (List.replicate z.toNatClampNeg none)))) h 0 (fun h' q => some (.inl (n, lv, .inl (.ref q) :: r, h', 1, z.toNatClampNeg)))
      | false => none
  | _ => none
def oNO (ci N : Nat) (fs : List Value) (n : Nat) : aO := fun lv st h => appF (.inr (.inr (.inr (ci, fs)))) h 0 (fun h' q => some (.inl (n, lv, .inl (.ref q) :: st, h', 1, N)))
theorem rep_getD {α : Type} (n q : Nat) (d : α) : (List.replicate n d).getD q d = d := by
  rw [List.getD_eq_getElem?_getD, List.getElem?_replicate]
  split <;> rfl
theorem r_newI {M : aM} {pc : Nat} (hd : decode M.2.1 pc = .ok (.newarray .int, 2)) (hw : Cond.arrayClass .int ∈ tg) : Ok M pc (oNI (pc + 2)) := by
  intro G d p l e R s m args below meth c hF lv st h x hx a b
  unfold oNI at hx
  split at hx
  · split at hx
    · cases hx
    · rename_i hz
      have hz := of_decide_eq_false hz
      split at hx
      · rename_i hb
        have hb := Nat.le_of_ble_eq_true hb
        rw [appF_eq] at hx
        cases hx
        intro Q h1 h2 kk H locs ls hP hS hll
        refine va_newaK (atype := .int) hF.1.1 hF.1.2.1 (hF.1.2.2.2.2 _ hw) rfl hd rfl hz rfl (Nat.le_trans (Nat.mul_le_mul_left _ (by decide)) hb) h1 h2 rfl fun H1 cA e1 z1 o1 hAr hNm => ?_
        have hcA : cA = G.2.2.1 := Option.some.inj (hNm.symm.trans (hF.2.2.1.1.2 0 _ rfl).2)
        subst hcA
        have hq : 0 + h.length = h.length := Nat.zero_add _
        have := kk H1 locs ls (hp_push hP z1 o1 ?_) (hS.grow (by omega) o1) hll
        · dsimp only at this
          rw [hq] at this
          have e2 : H.size = G.1 + h.length := hP.2
          rw [e2]
          exact this
        · show H1[_]? = some (vp_cell _ ((List.replicate _ _).length, .inl (fun q => (List.replicate _ (0 : Int32)).getD q 0)))
          rw [e1, List.length_replicate, vp_cell_i]
          congr 2
          funext q
          rw [rep_getD]
          rfl
      · cases hx
  · cases hx
theorem r_newJ {M : aM} {pc : Nat} (hd : decode M.2.1 pc = .ok (.newarray .long, 2)) (hw : Cond.arrayClass .long ∈ tg) : Ok M pc (oNJ (pc + 2)) := by
  intro G d p l e R s m args below meth c hF lv st h x hx a b
  unfold oNJ at hx
  split at hx
  · split at hx
    · cases hx
    · rename_i hz
      have hz := of_decide_eq_false hz
      split at hx
      · rename_i hb
        have hb := Nat.le_of_ble_eq_true hb
        rw [appF_eq] at hx
        cases hx
        intro Q h1 h2 kk H locs ls hP hS hll
        refine va_newaK (atype := .long) hF.1.1 hF.1.2.1 (hF.1.2.2.2.2 _ hw) rfl hd rfl hz rfl (Nat.le_trans (Nat.mul_le_mul_left _ (by decide)) hb) h1 h2 rfl fun H1 cA e1 z1 o1 hAr hNm => ?_
        have hcA : cA = G.2.2.2.1 := Option.some.inj (hNm.symm.trans (hF.2.2.1.1.2 1 _ rfl).2)
        subst hcA
        have hq : 0 + h.length = h.length := Nat.zero_add _
        have := kk H1 locs ls (hp_push hP z1 o1 ?_) (hS.grow (by omega) o1) hll
        · dsimp only at this
          rw [hq] at this
          have e2 : H.size = G.1 + h.length := hP.2
          rw [e2]
          exact this
        · show H1[_]? = some (vp_cell _ ((List.replicate _ _).length, .inr (.inl (fun q => (List.replicate _ (0 : Int64)).getD q 0))))
          rw [e1, List.length_replicate, vp_cell_l]
          congr 2
          funext q
          rw [rep_getD]
          rfl
      · cases hx
  · cases hx
theorem r_newB {M : aM} {pc idx : Nat} (hd : decode M.2.1 pc = .ok (.anewarray idx, 3)) (hw : Cond.classLink M.1.cls idx RX0 ∈ tg) : Ok M pc (oNB (pc + 3)) := by
  intro G d p l e R s m args below meth c hF lv st h x hx a b
  unfold oNB at hx
  split at hx
  · split at hx
    · cases hx
    · rename_i hz
      have hz := of_decide_eq_false hz
      split at hx
      · rename_i hb
        have hb := Nat.le_of_ble_eq_true hb
        rw [appF_eq] at hx
        cases hx
        intro Q h1 h2 kk H locs ls hP hS hll
        refine W.anew hF.1.1 hF.1.2.1 hF.1.2.2.2.1 (hF.1.2.2.2.2 _ hw) (va_AO.use hF.2.2.1.2.1) rfl hd rfl hz (Nat.le_trans (Nat.mul_le_mul_left _ (by decide)) hb) h1 h2 fun cA kA comp f1 f2 f3 f4 => ?_
        obtain ⟨kA2, comp2, -, -, -, k4⟩ := (hF.2.2.1.1.2 2 _ rfl).2
        have hcA : cA = G.2.2.2.2.1 := Option.some.inj (f1.symm.trans k4)
        subst hcA
        rename_i z _ _ _ _ _
        generalize hH1 : H.push ({ cls := G.2.2.2.2.1, slots := Array.replicate z.toNatClampNeg .null, vm := .none } : Cell) = H1
        have z1 : H1.size = H.size + 1 := by rw [← hH1, Array.size_push]
        have e1 : H1[H.size]? = some (arrV G.2.2.2.2.1 z.toNatClampNeg (fun _ => .null)) := by rw [← hH1, Array.getElem?_push_size, ← arrV_new]
        have o1 : ∀ q : Nat, q < H.size → H1[q]? = H[q]? := fun q hq => by rw [← hH1, Array.getElem?_push, if_neg (Nat.ne_of_lt hq)]
        have hq : 0 + h.length = h.length := Nat.zero_add _
        have := kk H1 locs ls (hp_push hP z1 o1 ?_) (hS.grow (by omega) o1) hll
        · dsimp only at this
          rw [hq] at this
          have e2 : H.size = G.1 + h.length := hP.2
          rw [e2]
          exact this
        · show H1[_]? = some (vp_cell _ ((List.replicate _ _).length, .inr (.inr (.inr (.inr (fun q => ((List.replicate _ (none : Option Nat)).getD q none).map (G.1 + ·)))))))
          rw [e1, List.length_replicate, vp_cell_q]
          congr 2
          funext q
          rw [rep_getD]
          rfl
      · cases hx
  · cases hx
theorem r_new {M : aM} {pc ci idx : Nat} {C : String} {T : u_T} {N : Nat} {ty : Nat → FieldType} {fs : List Value} (hd : decode M.2.1 pc = .ok (.new idx, 3)) (cd : CD ci C T N ty) (hl : Cond.classLink M.1.cls idx C ∈ tg) (hf : ∀ S j : Nat, j < N → defaultValue (ty j) = vp_V (fs.map (tv S)) j) : Ok M pc (oNO ci N fs (pc + 3)) := by
  intro G d p l e R s m args below meth c hF lv st h x hx a b
  unfold oNO at hx
  rw [appF_eq] at hx
  cases hx
  intro Q h1 h2 kk H locs ls hP hS hll
  have hKn := hF.2.2.1.1.1 ci _ cd.1
  refine W.newcK hF.1.1 hF.1.2.1 hF.1.2.2.2.1 (hF.1.2.2.2.2 _ hl) (hF.1.2.2.2.2 _ cd.2.2.2.2.1) (hF.1.2.2.2.2 _ cd.2.2.2.2.2) rfl hd h1 h2 hKn.2.1 rfl fun H1 kC hkC e1 z1 o1 => ?_
  have hq : 0 + h.length = h.length := Nat.zero_add _
  have := kk H1 locs ls (hp_push hP z1 o1 ?_) (hS.grow (by omega) o1) hll
  · dsimp only at this
    rw [hq] at this
    have e2 : H.size = G.1 + h.length := hP.2
    rw [e2]
    exact this
  · exact ⟨_, cd.1, (u_born ty hF.1.2.2.2.2 cd.2.1 hKn hkC e1 cd.2.2.1).to (hf G.1)⟩
end
section
def catS (r : List aV) : Nat := (r.map ac).sum
theorem catS_tv (G : aG) (r : List aV) : ((r.map (tx G)).map fun v => v.category).sum = catS r := by
  unfold catS
  rw [List.map_map]
  congr 1
  apply List.map_congr_left
  intro v _
  exact tx_cat G v
/-- Object's own constructor -/
def oOb (n : Nat) : aO := fun lv st h => match st with
  | .inl (.ref _) :: r => match Nat.ble (catS r) 8 with
    | true => nx n lv r h
    | false => none
  | _ => none
theorem r_objInit {M : aM} {pc idx : Nat} (hd : decode M.2.1 pc = .ok (.invokespecial idx, 3)) (hl : Cond.methodLink M.1.cls idx Lib.objectInit ∈ tg) (h1 : Cond.instanceMethod Lib.objectInit ∈ tg) (h2 : Cond.code Lib.objectInit ⟨#[0xb1]⟩ 1 none ∈ tg) : Ok M pc (oOb (pc + 3)) := by
  intro G d p l e R s m args below meth c hF lv st h x hx a b
  unfold oOb at hx
  split at hx
  · split at hx
    · rename_i hb
      have hb := Nat.le_of_ble_eq_true hb
      cases hx
      intro Q _ _ kk H locs ls hP hS hll
      have hR := hF.2.2.2.2
      refine W.objInit hF.1.1 hF.1.2.1 hF.1.2.2.2.1 (hF.1.2.2.2.2 _ hl) (hF.1.2.2.2.2 _ h1) (hF.1.2.2.2.2 _ h2) rfl (by rw [hF.1.2.2.1]; exact hll.1) rfl hd (by omega) ?_ (kk H locs ls hP hS hll)
      show 2 * 0 + ((List.map (tx G) _).map _).sum + 12 ≤ _
      rw [catS_tv]
      omega
    · cases hx
  · cases hx
/-- System.arraycopy of whole int arrays of one length -/
def oCp (n : Nat) : aO := fun lv st h => match st with
  | .inl (.int z) :: .inl (.int y) :: .inl (.ref a1) :: .inl (.int w) :: .inl (.ref a0) :: r => match decide (y = 0), decide (w = 0), decide (z < 0), Nat.ble (catS r) 8 with
    | true, true, false, true => match h[a0]?, h[a1]? with
      | some (.inl l0), some (.inl l1) => match Nat.beq l0.length z.toNatClampNeg, Nat.beq l1.length z.toNatClampNeg with
        | true, true => setF h a1 (.inl l0) (fun h' => nx n lv r h')
        | _, _ => none
      | _, _ => none
    | _, _, _, _ => none
  | _ => none
theorem r_copy {M : aM} {pc idx : Nat} (hd : decode M.2.1 pc = .ok (.invokestatic idx, 3)) (hl : Cond.methodLink M.1.cls idx arraycopyName ∈ tg) (h1 : Cond.native arraycopyName ∈ tg) (h2 : Cond.static arraycopyName ∈ tg) (h3 : Cond.initialized "java/lang/System" ∈ tg) : Ok M pc (oCp (pc + 3)) := by
  intro G d p l e R s m args below meth c hF lv st h x hx a b
  unfold oCp at hx
  split at hx
  · split at hx
    · rename_i hy hw hz hb
      have hb := Nat.le_of_ble_eq_true hb
      have hy := of_decide_eq_true hy
      have hw := of_decide_eq_true hw
      have hz := of_decide_eq_false hz
      subst hy
      subst hw
      split at hx
      · rename_i l0 l1 ha0 ha1
        split at hx
        · rename_i e0 e1
          have e0 := Nat.eq_of_beq_eq_true e0
          have e1 := Nat.eq_of_beq_eq_true e1
          rw [setF_eq] at hx
          cases hx
          intro Q _ _ kk H locs ls hP hS hll
          have hR := hF.2.2.2.2
          have g1 := hp_at (G := G) ha1
          have g0 := hp_at (G := G) ha0
          have hlen : l1.length = l0.length := e1.trans e0.symm
          have g1' := g1
          rw [show te G (.inl l1) = (Sum.inl (G.2.2.1, l0.length, .inl (fun j => l1.getD j 0)) : va_E) from by rw [← hlen]; rfl] at g1'
          refine pz_copy hF.1.1 hF.1.2.1 (by rw [hF.1.2.2.1]; exact hll.1.symm) hF.1.2.2.2.1 (hF.1.2.2.2.2 _ hl) (hF.1.2.2.2.2 _ h1) (hF.1.2.2.2.2 _ h2) (hF.1.2.2.2.2 _ h3) hF.2.2.1.1 hP.1 _ _ 0 g0 g1' rfl hz e0.symm (by omega) ?_ hd (fun H1 L hc z oq hL => ?_)
          · rw [catS_tv]
            have : nativeFrameWords "java/lang/System" "arraycopy" 5 ≤ 7 := by decide
            omega
          · refine kk H1 _ ls (hp_set hP ha1 z oq ?_) ⟨by rw [z]; exact hS.1, fun q g1 g2 => ?_, fun q hq => ?_⟩ hll
            · show H1[_]? = some (vp_cell _ (l0.length, .inl (fun q => l0.getD q 0)))
              rw [hc]
              congr 4
              funext q
              unfold va_cpy
              by_cases hq : q < l0.length
              · simp [hq]
              · have g2 : l0.getD q 0 = 0 := by rw [List.getD_eq_getElem?_getD, List.getElem?_eq_none (by omega)]; rfl
                have g3 : l1.getD q 0 = 0 := by rw [List.getD_eq_getElem?_getD, List.getElem?_eq_none (by omega)]; rfl
                simp only [List.getD_eq_getElem?_getD] at g2 g3
                simp [hq, g2, g3]
            · rw [oq q (fun e => g2 (by rw [e]; exact Nat.le_add_right _ _))]
              exact hS.2.1 q g1 g2
            · rcases List.mem_append.mp hq with h | h
              · exact hS.2.2 q h
              · rw [hL q h]
                exact Nat.le_add_right _ _
        · cases hx
      · cases hx
    · cases hx
  · cases hx
/-- Math.min, Math.max of ints -/
def oMn (n : Nat) : aO := fun lv st h => match st with
  | .inl (.int y) :: .inl (.int x) :: r => match Nat.ble (catS r) 8 with
    | true => frI (if y < x then y else x) (fun z => nx n lv (.inl (.int z) :: r) h)
    | false => none
  | _ => none
def oMx (n : Nat) : aO := fun lv st h => match st with
  | .inl (.int y) :: .inl (.int x) :: r => match Nat.ble (catS r) 8 with
    | true => frI (if x < y then y else x) (fun z => nx n lv (.inl (.int z) :: r) h)
    | false => none
  | _ => none
theorem r_mmin {M : aM} {pc idx : Nat} (hd : decode M.2.1 pc = .ok (.invokestatic idx, 3)) (hl : Cond.methodLink M.1.cls idx Lib.Math.min.name ∈ tg) (h1 : Cond.static Lib.Math.min.name ∈ tg) (h2 : Cond.initialized "java/lang/Math" ∈ tg) (h3 : Cond.code Lib.Math.min.name Lib.Math.min.code 2 (some .int) ∈ tg) : Ok M pc (oMn (pc + 3)) := by
  intro G d p l e R s m args below meth c hF lv st h x hx a b
  unfold oMn at hx
  split at hx
  · split at hx
    · rename_i hb
      have hb := Nat.le_of_ble_eq_true hb
      rw [frI_eq] at hx
      cases hx
      intro Q g1 g2 kk H locs ls hP hS hll
      have hR := hF.2.2.2.2
      exact va_mmin hF.1.1 hF.1.2.1 (by rw [hF.1.2.2.1]; exact hll.1.symm) hF.1.2.2.2.1 (hF.1.2.2.2.2 _ hl) (hF.1.2.2.2.2 _ h1) (hF.1.2.2.2.2 _ h2) (hF.1.2.2.2.2 _ h3) (by omega) (by rw [catS_tv]; omega) g1 g2 hd (kk H locs ls hP hS hll)
    · cases hx
  · cases hx
theorem r_mmax {M : aM} {pc idx : Nat} (hd : decode M.2.1 pc = .ok (.invokestatic idx, 3)) (hl : Cond.methodLink M.1.cls idx Lib.Math.max.name ∈ tg) (h1 : Cond.static Lib.Math.max.name ∈ tg) (h2 : Cond.initialized "java/lang/Math" ∈ tg) (h3 : Cond.code Lib.Math.max.name Lib.Math.max.code 2 (some .int) ∈ tg) : Ok M pc (oMx (pc + 3)) := by
  intro G d p l e R s m args below meth c hF lv st h x hx a b
  unfold oMx at hx
  split at hx
  · split at hx
    · rename_i hb
      have hb := Nat.le_of_ble_eq_true hb
      rw [frI_eq] at hx
      cases hx
      intro Q g1 g2 kk H locs ls hP hS hll
      have hR := hF.2.2.2.2
      exact va_mmax hF.1.1 hF.1.2.1 (by rw [hF.1.2.2.1]; exact hll.1.symm) hF.1.2.2.2.1 (hF.1.2.2.2.2 _ hl) (hF.1.2.2.2.2 _ h1) (hF.1.2.2.2.2 _ h2) (hF.1.2.2.2.2 _ h3) (by omega) (by rw [catS_tv]; omega) g1 g2 hd (kk H locs ls hP hS hll)
    · cases hx
  · cases hx
/-- behind a call -/
theorem run_go {G : aG} {nL : Nat} {p : Program} {l : Launch} {e : Env} {R : Room} {s : State} {m : MethodId} {args : Array Value} {below : List Frame} {meth : Method} {c : Code} {Q : State → Prop} {pc : Nat} {lv : aL} {st0 : List Value} {rest : List aV} {h' : aH} {H : Heap} {locs : List Loc} {ls : Array Slot} {a b mc ms : Nat} {r : Option Value} {av : Array Value}
    (hr : va_Run p l e R s m args below meth c H locs a b mc ms (F0 m pc ls st0) (rest.map (tx G)) (Qx G r h' av) (fun q => G.1 ≤ q)) (hS : va_S (fun q : Nat => G.1 ≤ q) s.heap H locs) (hl : lv_has ls nL (tl G lv)) (k : Wc G nL p l e R s m args below meth c Q (pc + 3) lv (rl r ++ rest) h' (a + mc) (b + ms)) : W p l e R s m args below meth c H locs a b Q (F0 m pc ls st0) := by
  intro T hT X
  obtain ⟨v, st₀, t, T', L, h0, X', hL, e1, e2, ⟨hv, hb, hf⟩, st⟩ := hr T hT X
  have hv : v = r.map (tv G.1) := by injection hv
  subst hv
  have hs : (r.map (tv G.1)).toList ++ rest.map (tx G) = (rl r ++ rest).map (tx G) := by cases r <;> simp [rl, tx]
  have hz : H.size ≤ t.heap.size := by rw [← h0]; exact hf.1
  obtain ⟨t2, a1, b1⟩ := k T'.heap (locs ++ L) ls (by rw [e1]; exact hb) ⟨by rw [e1]; exact Nat.le_trans hS.1 hz, fun q g1 g2 => by
      rw [e1, hf.2 q (by rw [h0]; exact Nat.lt_of_lt_of_le g1 hS.1) g2, h0]
      exact hS.2.1 q g1 g2, fun q hq => by
      rcases List.mem_append.mp hq with h | h
      · exact hS.2.2 q h
      · exact hL q h⟩ hl T' rfl X'
  rw [← hs] at a1
  exact ⟨t2, st t2 a1, b1⟩
/-- a method that is called: its words -/
def CMb (mid n : Nat) : Prop := Cond.initialized (MD mid).1.1.cls ∈ tg ∧ Cond.code (MD mid).1.1 (MD mid).1.2.1 (MD mid).1.2.2.1 (MD mid).1.2.2.2 ∈ tg ∧ ((MD mid).1.1.cls ≠ "java/lang/invoke/MethodHandle" ∧ (MD mid).1.1.cls ≠ "java/lang/invoke/VarHandle" ∧ (parseMethodDescriptor (MD mid).1.1.desc).map (fun d => d.parameters.length) = some n) ∧ (MD mid).1.2.2.1 ≤ 21
def CMV (mid n ci : Nat) (T : u_T) (N : Nat) : Prop := CMb mid n ∧ vwCl[ci]? = some ((MD mid).1.1.cls, T, N) ∧ Cond.instanceMethod (MD mid).1.1 ∈ tg ∧ Cond.selects (MD mid).1.1.cls (MD mid).1.1 (MD mid).1.1 ∈ tg
def CMI (mid n : Nat) : Prop := CMb mid n ∧ Cond.instanceMethod (MD mid).1.1 ∈ tg ∧ (MD mid).1.1.name = "<init>" ∧ (MD mid).1.2.2.2 = none
def CMS (mid n : Nat) : Prop := CMb mid n ∧ Cond.static (MD mid).1.1 ∈ tg
theorem cm_code {mid n : Nat} (h : CMb mid n) : ∀ w ∈ (Cond.code (MD mid).1.1 (MD mid).1.2.1 (MD mid).1.2.2.1 (MD mid).1.2.2.2 :: tg), w ∈ tg := fun w hw => by
  rcases List.mem_cons.mp hw with rfl | hw
  · exact h.2.1
  · exact hw
def oCV (ci mid n : Nat) : aO := fun _ st h => match popN n st [] with
  | some (as, .inl (.ref b) :: r) => match h[b]? with
    | some (.inr (.inr (.inr (cj, _)))) => match Nat.beq cj ci, Nat.ble (catS r) 8 with
      | true, true => some (.inr (.inl (mid, .inl (.ref b) :: as, r)))
      | _, _ => none
    | _ => none
  | _ => none
def oCI (mid n : Nat) : aO := fun _ st _ => match popN n st [] with
  | some (as, .inl (.ref b) :: r) => match Nat.ble (catS r) 8 with
    | true => some (.inr (.inl (mid, .inl (.ref b) :: as, r)))
    | false => none
  | _ => none
def oCS (mid n : Nat) : aO := fun _ st _ => match popN n st [] with
  | some (as, r) => match Nat.ble (catS r) 8 with
    | true => some (.inr (.inl (mid, as, r)))
    | false => none
  | _ => none
theorem pop_stack {G : aG} {n : Nat} {st as r : List aV} (h : popN n st [] = some (as, r)) : st.map (tx G) = (as.map (tx G)).reverse ++ r.map (tx G) ∧ (as.map (tx G)).length = n := by
  obtain ⟨h1, h2⟩ := popN_spec n st [] as r h
  simp only [List.reverse_nil, List.nil_append] at h1
  refine ⟨by rw [h1, List.map_append, List.map_reverse], by rw [List.length_map, h2]; simp⟩
theorem r_callV {M : aM} {pc idx mid n ci : Nat} {T : u_T} {N : Nat} (hd : decode M.2.1 pc = .ok (.invokevirtual idx, 3)) (hl : Cond.methodLink M.1.cls idx (MD mid).1.1 ∈ tg) (cm : CMV mid n ci T N) : Ok M pc (oCV ci mid n) := by
  intro G d p l e R s m args below meth c hF lv st h x hx a b
  unfold oCV at hx
  split at hx
  · rename_i as b0 r hp
    split at hx
    · rename_i hb0
      split at hx
      · rename_i hci hb
        have hb := Nat.le_of_ble_eq_true hb
        have hci := Nat.eq_of_beq_eq_true hci
        subst hci
        cases hx
        intro Q rv h' hM h1 h2 kk H locs ls hP hS hll
        obtain ⟨q1, q2⟩ := pop_stack (G := G) hp
        have hR := hF.2.2.2.2
        have hcm := cm.1.2.2.2
        have cw := cwV (R := R) (mc := (MD mid).2.1) (ms := (MD mid).2.2) (rm := { frames := d, cells := (MD mid).2.1, slots := (MD mid).2.2, locals := 40 * d }) (C := (MD mid).1.1.cls) (own := M.1.cls) (index := idx) n hF.1.2.2.2.2 (ws := (Cond.code (MD mid).1.1 (MD mid).1.2.1 (MD mid).1.2.2.1 (MD mid).1.2.2.2 :: tg)) (tg_good (fun w hw => by
          unfold wsV at hw
          rcases List.mem_append.mp hw with hw | hw
          · simp only [List.mem_cons, List.not_mem_nil, or_false] at hw
            rcases hw with rfl | rfl | rfl | rfl
            · exact hl
            · exact cm.2.2.1
            · exact cm.2.2.2
            · exact cm.1.1
          · exact cm_code cm.1 w hw)) rfl rfl rfl ⟨rfl, cm.1.2.2.1⟩ ⟨hR.1, by show 8 + (_ + 11) + 40 * d ≤ _; omega⟩
        refine run_go (va_runV (C := (MD mid).1.1.cls) (As := as.map (tx G)) (rest := r.map (tx G)) hF.1 hM cw ⟨Pcx.blind, va_recv hF.2.2.1.1 hP.1 cm.2.1 (hp_at hb0), fun U hU hW => ⟨rfl, by rw [hU]; exact hP, hF.2.2.1.warm hW⟩⟩ rfl q2 hll.1 (by exact q1) (lv_room (by rw [catS_tv]; exact hb)) hd ⟨h1, h2⟩) hS hll kk
      · cases hx
    · cases hx
  · cases hx
theorem r_callI {M : aM} {pc idx mid n : Nat} (hd : decode M.2.1 pc = .ok (.invokespecial idx, 3)) (hl : Cond.methodLink M.1.cls idx (MD mid).1.1 ∈ tg) (cm : CMI mid n) : Ok M pc (oCI mid n) := by
  intro G d p l e R s m args below meth c hF lv st h x hx a b
  unfold oCI at hx
  split at hx
  · rename_i as b0 r hp
    split at hx
    · rename_i hb
      have hb := Nat.le_of_ble_eq_true hb
      cases hx
      intro Q rv h' hM h1 h2 kk H locs ls hP hS hll
      obtain ⟨q1, q2⟩ := pop_stack (G := G) hp
      have hR := hF.2.2.2.2
      have hcm := cm.1.2.2.2
      have hM' : Met l (MD mid).1.1 (Cond.code (MD mid).1.1 (MD mid).1.2.1 (MD mid).1.2.2.1 none :: tg) { frames := d, cells := (MD mid).2.1, slots := (MD mid).2.2, locals := 40 * d } (Pcx G (.inl (.ref b0) :: as) h) (Qx G rv h') (MD mid).2.1 (MD mid).2.2 (fun q => G.1 ≤ q) := by
        have := hM
        unfold MtE at this
        rw [cm.2.2.2] at this
        exact this
      have cw := cwI (R := R) (mc := (MD mid).2.1) (ms := (MD mid).2.2) (rm := { frames := d, cells := (MD mid).2.1, slots := (MD mid).2.2, locals := 40 * d }) (own := M.1.cls) (index := idx) n hF.1.2.2.2.2 (ws := (Cond.code (MD mid).1.1 (MD mid).1.2.1 (MD mid).1.2.2.1 none :: tg)) (tg_good (fun w hw => by
          have := cm_code cm.1 w
          rw [cm.2.2.2] at this
          exact this hw)) rfl rfl rfl (hF.1.2.2.2.2 _ cm.1.1) (hF.1.2.2.2.2 _ hl) (hF.1.2.2.2.2 _ cm.2.1) cm.2.2.1 cm.1.2.2.1 ⟨hR.1, by show 8 + (_ + 11) + 40 * d ≤ _; omega⟩
      refine run_go (va_runI (As := as.map (tx G)) (rest := r.map (tx G)) hF.1 hM' cw ⟨Pcx.blind, fun U hU hW => ⟨rfl, by rw [hU]; exact hP, hF.2.2.1.warm hW⟩⟩ rfl q2 hll.1 (by exact q1) (lv_room (by rw [catS_tv]; exact hb)) hd ⟨h1, h2⟩) hS hll kk
    · cases hx
  · cases hx
theorem r_callS {M : aM} {pc idx mid n : Nat} (hd : decode M.2.1 pc = .ok (.invokestatic idx, 3)) (hl : Cond.methodLink M.1.cls idx (MD mid).1.1 ∈ tg) (cm : CMS mid n) : Ok M pc (oCS mid n) := by
  intro G d p l e R s m args below meth c hF lv st h x hx a b
  unfold oCS at hx
  split at hx
  · rename_i as r hp
    split at hx
    · rename_i hb
      have hb := Nat.le_of_ble_eq_true hb
      cases hx
      intro Q rv h' hM h1 h2 kk H locs ls hP hS hll
      obtain ⟨q1, q2⟩ := pop_stack (G := G) hp
      have hR := hF.2.2.2.2
      have hcm := cm.1.2.2.2
      have cw := va_cwS (R := R) (mc := (MD mid).2.1) (ms := (MD mid).2.2) (rm := { frames := d, cells := (MD mid).2.1, slots := (MD mid).2.2, locals := 40 * d }) (own := M.1.cls) (index := idx) n hF.1.2.2.2.2 (ws := (Cond.code (MD mid).1.1 (MD mid).1.2.1 (MD mid).1.2.2.1 (MD mid).1.2.2.2 :: tg)) (tg_good (fun w hw => by
          unfold va_wsS at hw
          rcases List.mem_append.mp hw with hw | hw
          · simp only [List.mem_cons, List.not_mem_nil, or_false] at hw
            rcases hw with rfl | rfl | rfl
            · exact hl
            · exact cm.2
            · exact cm.1.1
          · exact cm_code cm.1 w hw)) rfl rfl rfl cm.1.2.2.1 ⟨hR.1, by show 8 + (_ + 11) + 40 * d ≤ _; omega⟩
      refine run_go (va_runS (As := as.map (tx G)) (rest := r.map (tx G)) hF.1 hM cw ⟨Pcx.blind, fun U hU hW => ⟨rfl, by rw [hU]; exact hP, hF.2.2.1.warm hW⟩⟩ rfl q2 hll.1 (by exact q1) (lv_room (by rw [catS_tv]; exact hb)) hd ⟨h1, h2⟩) hS hll kk
    · cases hx
  · cases hx
theorem r_callSN {M : aM} {pc idx mid n : Nat} {host : String} (hd : decode M.2.1 pc = .ok (.invokestatic idx, 3)) (hl : ∀ (G : aG) (U : State), Kx G U → va_Nw (.methodLinkNest M.1.cls idx (MD mid).1.1 host) U) (cm : CMS mid n) : Ok M pc (oCS mid n) := by
  intro G d p l e R s m args below meth c hF lv st h x hx a b
  unfold oCS at hx
  split at hx
  · rename_i as r hp
    split at hx
    · rename_i hb
      have hb := Nat.le_of_ble_eq_true hb
      cases hx
      intro Q rv h' hM h1 h2 kk H locs ls hP hS hll
      obtain ⟨q1, q2⟩ := pop_stack (G := G) hp
      have hR := hF.2.2.2.2
      have hcm := cm.1.2.2.2
      have cw := va_cnB (R := R) (mc := (MD mid).2.1) (ms := (MD mid).2.2) (rm := { frames := d, cells := (MD mid).2.1, slots := (MD mid).2.2, locals := 40 * d }) (own := M.1.cls) (index := idx) (host := host) n hF.1.2.2.2.2 (ws := (Cond.code (MD mid).1.1 (MD mid).1.2.1 (MD mid).1.2.2.1 (MD mid).1.2.2.2 :: tg)) (tg_good (cm_code cm.1)) rfl rfl rfl (hl G s hF.2.2.1) (hF.1.2.2.2.2 _ cm.1.1) cm.1.2.2.1 ⟨hR.1, by show 8 + (_ + 11) + 40 * d ≤ _; omega⟩
      refine run_go (va_runSN (As := as.map (tx G)) (rest := r.map (tx G)) hF.1 hM ⟨cw, hF.1.2.2.2.2 _ cm.2, trivial⟩ ⟨Pcx.blind, fun U hU hW => ⟨rfl, by rw [hU]; exact hP, hF.2.2.1.warm hW⟩⟩ rfl q2 hll.1 (by exact q1) (lv_room (by rw [catS_tv]; exact hb)) hd ⟨h1, h2⟩) hS hll kk
    · cases hx
  · cases hx
theorem r_callIN {M : aM} {pc idx mid n : Nat} {host : String} (hd : decode M.2.1 pc = .ok (.invokespecial idx, 3)) (hl : ∀ (G : aG) (U : State), Kx G U → va_Nw (.methodLinkNest M.1.cls idx (MD mid).1.1 host) U) (cm : CMI mid n) : Ok M pc (oCI mid n) := by
  intro G d p l e R s m args below meth c hF lv st h x hx a b
  unfold oCI at hx
  split at hx
  · rename_i as b0 r hp
    split at hx
    · rename_i hb
      have hb := Nat.le_of_ble_eq_true hb
      cases hx
      intro Q rv h' hM h1 h2 kk H locs ls hP hS hll
      obtain ⟨q1, q2⟩ := pop_stack (G := G) hp
      have hR := hF.2.2.2.2
      have hcm := cm.1.2.2.2
      have hM' : Met l (MD mid).1.1 (Cond.code (MD mid).1.1 (MD mid).1.2.1 (MD mid).1.2.2.1 none :: tg) { frames := d, cells := (MD mid).2.1, slots := (MD mid).2.2, locals := 40 * d } (Pcx G (.inl (.ref b0) :: as) h) (Qx G rv h') (MD mid).2.1 (MD mid).2.2 (fun q => G.1 ≤ q) := by
        have := hM
        unfold MtE at this
        rw [cm.2.2.2] at this
        exact this
      have cw := va_cnB (R := R) (mc := (MD mid).2.1) (ms := (MD mid).2.2) (rm := { frames := d, cells := (MD mid).2.1, slots := (MD mid).2.2, locals := 40 * d }) (own := M.1.cls) (index := idx) (host := host) n hF.1.2.2.2.2 (ws := (Cond.code (MD mid).1.1 (MD mid).1.2.1 (MD mid).1.2.2.1 none :: tg)) (tg_good (fun w hw => by
          have := cm_code cm.1 w
          rw [cm.2.2.2] at this
          exact this hw)) rfl rfl rfl (hl G s hF.2.2.1) (hF.1.2.2.2.2 _ cm.1.1) cm.1.2.2.1 ⟨hR.1, by show 8 + (_ + 11) + 40 * d ≤ _; omega⟩
      refine run_go (va_runIN (As := as.map (tx G)) (rest := r.map (tx G)) hF.1 hM' ⟨cw, cm.2.2.1, hF.1.2.2.2.2 _ cm.2.1⟩ ⟨Pcx.blind, fun U hU hW => ⟨rfl, by rw [hU]; exact hP, hF.2.2.1.warm hW⟩⟩ rfl q2 hll.1 (by exact q1) (lv_room (by rw [catS_tv]; exact hb)) hd ⟨h1, h2⟩) hS hll kk
    · cases hx
  · cases hx
end
section
theorem cd_0 : CD 0 RX0 TX0 19 tyX0 := ⟨rfl, by
  show ∀ w ∈ (List.range 19).map (u_lay RX0 TX0), w ∈ tg
  exact List.forall_mem_cons.mpr ⟨w_171, List.forall_mem_cons.mpr ⟨w_173, List.forall_mem_cons.mpr ⟨w_175, List.forall_mem_cons.mpr ⟨w_177, List.forall_mem_cons.mpr ⟨w_179, List.forall_mem_cons.mpr ⟨w_181, List.forall_mem_cons.mpr ⟨w_183, List.forall_mem_cons.mpr ⟨w_185, List.forall_mem_cons.mpr ⟨w_187, List.forall_mem_cons.mpr ⟨w_189, List.forall_mem_cons.mpr ⟨w_191, List.forall_mem_cons.mpr ⟨w_193, List.forall_mem_cons.mpr ⟨w_195, List.forall_mem_cons.mpr ⟨w_197, List.forall_mem_cons.mpr ⟨w_199, List.forall_mem_cons.mpr ⟨w_201, List.forall_mem_cons.mpr ⟨w_203, List.forall_mem_cons.mpr ⟨w_205, List.forall_mem_cons.mpr ⟨w_207, fun _ h => absurd h List.not_mem_nil⟩⟩⟩⟩⟩⟩⟩⟩⟩⟩⟩⟩⟩⟩⟩⟩⟩⟩⟩, tyX0_ok, nmX0, w_125, w_73⟩
theorem cd_1 : CD 1 RX1 TX1 2 tyX1 := ⟨rfl, by
  show ∀ w ∈ (List.range 2).map (u_lay RX1 TX1), w ∈ tg
  exact List.forall_mem_cons.mpr ⟨w_238, List.forall_mem_cons.mpr ⟨w_240, fun _ h => absurd h List.not_mem_nil⟩⟩, tyX1_ok, nmX1, w_231, w_75⟩
theorem cd_2 : CD 2 RX2 TX2 3 tyX2 := ⟨rfl, by
  show ∀ w ∈ (List.range 3).map (u_lay RX2 TX2), w ∈ tg
  exact List.forall_mem_cons.mpr ⟨w_223, List.forall_mem_cons.mpr ⟨w_225, List.forall_mem_cons.mpr ⟨w_227, fun _ h => absurd h List.not_mem_nil⟩⟩⟩, tyX2_ok, nmX2, w_211, w_74⟩
theorem cd_3 : CD 3 RX3 TX3 7 tyX3 := ⟨rfl, by
  show ∀ w ∈ (List.range 7).map (u_lay RX3 TX3), w ∈ tg
  exact List.forall_mem_cons.mpr ⟨w_108, List.forall_mem_cons.mpr ⟨w_110, List.forall_mem_cons.mpr ⟨w_112, List.forall_mem_cons.mpr ⟨w_114, List.forall_mem_cons.mpr ⟨w_116, List.forall_mem_cons.mpr ⟨w_118, List.forall_mem_cons.mpr ⟨w_120, fun _ h => absurd h List.not_mem_nil⟩⟩⟩⟩⟩⟩⟩, tyX3_ok, nmX3, w_89, w_71⟩
theorem cd_4 : CD 4 RX4 TX4 9 tyX4 := ⟨rfl, by
  show ∀ w ∈ (List.range 9).map (u_lay RX4 TX4), w ∈ tg
  exact List.forall_mem_cons.mpr ⟨w_287, List.forall_mem_cons.mpr ⟨w_289, List.forall_mem_cons.mpr ⟨w_291, List.forall_mem_cons.mpr ⟨w_293, List.forall_mem_cons.mpr ⟨w_295, List.forall_mem_cons.mpr ⟨w_297, List.forall_mem_cons.mpr ⟨w_299, List.forall_mem_cons.mpr ⟨w_301, List.forall_mem_cons.mpr ⟨w_303, fun _ h => absurd h List.not_mem_nil⟩⟩⟩⟩⟩⟩⟩⟩⟩, tyX4_ok, nmX4, w_81, w_70⟩
theorem cd_5 : CD 5 RX5 TX5 20 tyX5 := ⟨rfl, by
  show ∀ w ∈ (List.range 20).map (u_lay RX5 TX5), w ∈ tg
  exact List.forall_mem_cons.mpr ⟨w_698, List.forall_mem_cons.mpr ⟨w_700, List.forall_mem_cons.mpr ⟨w_702, List.forall_mem_cons.mpr ⟨w_704, List.forall_mem_cons.mpr ⟨w_706, List.forall_mem_cons.mpr ⟨w_708, List.forall_mem_cons.mpr ⟨w_710, List.forall_mem_cons.mpr ⟨w_712, List.forall_mem_cons.mpr ⟨w_714, List.forall_mem_cons.mpr ⟨w_716, List.forall_mem_cons.mpr ⟨w_718, List.forall_mem_cons.mpr ⟨w_720, List.forall_mem_cons.mpr ⟨w_722, List.forall_mem_cons.mpr ⟨w_724, List.forall_mem_cons.mpr ⟨w_726, List.forall_mem_cons.mpr ⟨w_728, List.forall_mem_cons.mpr ⟨w_730, List.forall_mem_cons.mpr ⟨w_732, List.forall_mem_cons.mpr ⟨w_734, List.forall_mem_cons.mpr ⟨w_736, fun _ h => absurd h List.not_mem_nil⟩⟩⟩⟩⟩⟩⟩⟩⟩⟩⟩⟩⟩⟩⟩⟩⟩⟩⟩⟩, tyX5_ok, nmX5, w_673, w_76⟩
theorem cb_0 : CMb 0 0 := ⟨w_73, w_128, by decide +kernel, by decide +kernel⟩
theorem cn_0 : CMI 0 0 := ⟨cb_0, w_127, by decide +kernel, by decide +kernel⟩
theorem cb_1 : CMb 1 1 := ⟨w_73, w_431, by decide +kernel, by decide +kernel⟩
theorem cv_1 : CMV 1 1 0 TX0 19 := ⟨cb_1, rfl, w_429, w_430⟩
theorem cb_2 : CMb 2 1 := ⟨w_73, w_440, by decide +kernel, by decide +kernel⟩
theorem cv_2 : CMV 2 1 0 TX0 19 := ⟨cb_2, rfl, w_438, w_439⟩
theorem cb_3 : CMb 3 2 := ⟨w_73, w_448, by decide +kernel, by decide +kernel⟩
theorem cv_3 : CMV 3 2 0 TX0 19 := ⟨cb_3, rfl, w_446, w_447⟩
theorem cb_4 : CMb 4 3 := ⟨w_73, w_396, by decide +kernel, by decide +kernel⟩
theorem cv_4 : CMV 4 3 0 TX0 19 := ⟨cb_4, rfl, w_394, w_395⟩
theorem cb_5 : CMb 5 0 := ⟨w_73, w_261, by decide +kernel, by decide +kernel⟩
theorem cv_5 : CMV 5 0 0 TX0 19 := ⟨cb_5, rfl, w_259, w_260⟩
theorem cb_6 : CMb 6 1 := ⟨w_73, w_456, by decide +kernel, by decide +kernel⟩
theorem cv_6 : CMV 6 1 0 TX0 19 := ⟨cb_6, rfl, w_454, w_455⟩
theorem cb_7 : CMb 7 1 := ⟨w_73, w_452, by decide +kernel, by decide +kernel⟩
theorem cv_7 : CMV 7 1 0 TX0 19 := ⟨cb_7, rfl, w_450, w_451⟩
theorem cb_8 : CMb 8 1 := ⟨w_73, w_444, by decide +kernel, by decide +kernel⟩
theorem cv_8 : CMV 8 1 0 TX0 19 := ⟨cb_8, rfl, w_442, w_443⟩
theorem cb_9 : CMb 9 1 := ⟨w_73, w_460, by decide +kernel, by decide +kernel⟩
theorem cv_9 : CMV 9 1 0 TX0 19 := ⟨cb_9, rfl, w_458, w_459⟩
theorem cb_10 : CMb 10 0 := ⟨w_73, w_361, by decide +kernel, by decide +kernel⟩
theorem cv_10 : CMV 10 0 0 TX0 19 := ⟨cb_10, rfl, w_359, w_360⟩
theorem cb_11 : CMb 11 0 := ⟨w_73, w_542, by decide +kernel, by decide +kernel⟩
theorem cv_11 : CMV 11 0 0 TX0 19 := ⟨cb_11, rfl, w_540, w_541⟩
theorem cb_12 : CMb 12 0 := ⟨w_73, w_337, by decide +kernel, by decide +kernel⟩
theorem cv_12 : CMV 12 0 0 TX0 19 := ⟨cb_12, rfl, w_335, w_336⟩
theorem cb_13 : CMb 13 1 := ⟨w_73, w_368, by decide +kernel, by decide +kernel⟩
theorem cv_13 : CMV 13 1 0 TX0 19 := ⟨cb_13, rfl, w_366, w_367⟩
theorem cb_14 : CMb 14 1 := ⟨w_73, w_400, by decide +kernel, by decide +kernel⟩
theorem cv_14 : CMV 14 1 0 TX0 19 := ⟨cb_14, rfl, w_398, w_399⟩
theorem cb_15 : CMb 15 2 := ⟨w_73, w_495, by decide +kernel, by decide +kernel⟩
theorem cv_15 : CMV 15 2 0 TX0 19 := ⟨cb_15, rfl, w_493, w_494⟩
theorem cb_16 : CMb 16 1 := ⟨w_73, w_501, by decide +kernel, by decide +kernel⟩
theorem cv_16 : CMV 16 1 0 TX0 19 := ⟨cb_16, rfl, w_500, w_20⟩
theorem cb_17 : CMb 17 2 := ⟨w_73, w_509, by decide +kernel, by decide +kernel⟩
theorem cv_17 : CMV 17 2 0 TX0 19 := ⟨cb_17, rfl, w_507, w_508⟩
theorem cb_18 : CMb 18 1 := ⟨w_73, w_517, by decide +kernel, by decide +kernel⟩
theorem cv_18 : CMV 18 1 0 TX0 19 := ⟨cb_18, rfl, w_516, w_21⟩
theorem cb_19 : CMb 19 1 := ⟨w_73, w_252, by decide +kernel, by decide +kernel⟩
theorem cv_19 : CMV 19 1 0 TX0 19 := ⟨cb_19, rfl, w_250, w_251⟩
theorem cb_20 : CMb 20 0 := ⟨w_73, w_257, by decide +kernel, by decide +kernel⟩
theorem cv_20 : CMV 20 0 0 TX0 19 := ⟨cb_20, rfl, w_256, w_1⟩
theorem cb_21 : CMb 21 0 := ⟨w_73, w_273, by decide +kernel, by decide +kernel⟩
theorem cv_21 : CMV 21 0 0 TX0 19 := ⟨cb_21, rfl, w_272, w_4⟩
theorem cb_22 : CMb 22 2 := ⟨w_73, w_265, by decide +kernel, by decide +kernel⟩
theorem cv_22 : CMV 22 2 0 TX0 19 := ⟨cb_22, rfl, w_264, w_2⟩
theorem cb_23 : CMb 23 1 := ⟨w_73, w_269, by decide +kernel, by decide +kernel⟩
theorem cv_23 : CMV 23 1 0 TX0 19 := ⟨cb_23, rfl, w_268, w_3⟩
theorem cb_24 : CMb 24 0 := ⟨w_73, w_277, by decide +kernel, by decide +kernel⟩
theorem cv_24 : CMV 24 0 0 TX0 19 := ⟨cb_24, rfl, w_276, w_5⟩
theorem cb_25 : CMb 25 1 := ⟨w_73, w_525, by decide +kernel, by decide +kernel⟩
theorem cv_25 : CMV 25 1 0 TX0 19 := ⟨cb_25, rfl, w_523, w_524⟩
theorem cb_26 : CMb 26 1 := ⟨w_73, w_529, by decide +kernel, by decide +kernel⟩
theorem cv_26 : CMV 26 1 0 TX0 19 := ⟨cb_26, rfl, w_527, w_528⟩
theorem cb_27 : CMb 27 1 := ⟨w_73, w_537, by decide +kernel, by decide +kernel⟩
theorem cv_27 : CMV 27 1 0 TX0 19 := ⟨cb_27, rfl, w_535, w_536⟩
theorem cb_28 : CMb 28 1 := ⟨w_73, w_546, by decide +kernel, by decide +kernel⟩
theorem cv_28 : CMV 28 1 0 TX0 19 := ⟨cb_28, rfl, w_544, w_545⟩
theorem cb_29 : CMb 29 1 := ⟨w_73, w_630, by decide +kernel, by decide +kernel⟩
theorem cv_29 : CMV 29 1 0 TX0 19 := ⟨cb_29, rfl, w_628, w_629⟩
theorem cb_30 : CMb 30 2 := ⟨w_73, w_635, by decide +kernel, by decide +kernel⟩
theorem cv_30 : CMV 30 2 0 TX0 19 := ⟨cb_30, rfl, w_634, w_25⟩
theorem cb_31 : CMb 31 1 := ⟨w_73, w_412, by decide +kernel, by decide +kernel⟩
theorem cv_31 : CMV 31 1 0 TX0 19 := ⟨cb_31, rfl, w_410, w_411⟩
theorem cb_32 : CMb 32 0 := ⟨w_75, w_234, by decide +kernel, by decide +kernel⟩
theorem cn_32 : CMI 32 0 := ⟨cb_32, w_233, by decide +kernel, by decide +kernel⟩
theorem cb_33 : CMb 33 3 := ⟨w_75, w_554, by decide +kernel, by decide +kernel⟩
theorem cv_33 : CMV 33 3 1 TX1 2 := ⟨cb_33, rfl, w_552, w_553⟩
theorem cb_34 : CMb 34 1 := ⟨w_75, w_591, by decide +kernel, by decide +kernel⟩
theorem cv_34 : CMV 34 1 1 TX1 2 := ⟨cb_34, rfl, w_589, w_590⟩
theorem cb_35 : CMb 35 2 := ⟨w_75, w_603, by decide +kernel, by decide +kernel⟩
theorem cv_35 : CMV 35 2 1 TX1 2 := ⟨cb_35, rfl, w_601, w_602⟩
theorem cb_36 : CMb 36 3 := ⟨w_75, w_614, by decide +kernel, by decide +kernel⟩
theorem cv_36 : CMV 36 3 1 TX1 2 := ⟨cb_36, rfl, w_612, w_613⟩
theorem cb_37 : CMb 37 2 := ⟨w_75, w_582, by decide +kernel, by decide +kernel⟩
theorem cs_37 : CMS 37 2 := ⟨cb_37, w_581⟩
theorem cb_38 : CMb 38 1 := ⟨w_75, w_606, by decide +kernel, by decide +kernel⟩
theorem cs_38 : CMS 38 1 := ⟨cb_38, w_605⟩
theorem cb_39 : CMb 39 1 := ⟨w_75, w_594, by decide +kernel, by decide +kernel⟩
theorem cs_39 : CMS 39 1 := ⟨cb_39, w_593⟩
theorem cb_40 : CMb 40 3 := ⟨w_75, w_571, by decide +kernel, by decide +kernel⟩
theorem cv_40 : CMV 40 3 1 TX1 2 := ⟨cb_40, rfl, w_570, w_23⟩
theorem cb_41 : CMb 41 5 := ⟨w_75, w_560, by decide +kernel, by decide +kernel⟩
theorem cv_41 : CMV 41 5 1 TX1 2 := ⟨cb_41, rfl, w_559, w_22⟩
theorem cb_42 : CMb 42 6 := ⟨w_75, w_577, by decide +kernel, by decide +kernel⟩
theorem cv_42 : CMV 42 6 1 TX1 2 := ⟨cb_42, rfl, w_576, w_24⟩
theorem cb_43 : CMb 43 2 := ⟨w_75, w_622, by decide +kernel, by decide +kernel⟩
theorem cv_43 : CMV 43 2 1 TX1 2 := ⟨cb_43, rfl, w_620, w_621⟩
theorem cb_44 : CMb 44 0 := ⟨w_74, w_214, by decide +kernel, by decide +kernel⟩
theorem cn_44 : CMI 44 0 := ⟨cb_44, w_213, by decide +kernel, by decide +kernel⟩
theorem cb_45 : CMb 45 1 := ⟨w_74, w_408, by decide +kernel, by decide +kernel⟩
theorem cv_45 : CMV 45 1 2 TX2 3 := ⟨cb_45, rfl, w_406, w_407⟩
theorem cb_46 : CMb 46 1 := ⟨w_74, w_647, by decide +kernel, by decide +kernel⟩
theorem cv_46 : CMV 46 1 2 TX2 3 := ⟨cb_46, rfl, w_645, w_646⟩
theorem cb_47 : CMb 47 0 := ⟨w_71, w_92, by decide +kernel, by decide +kernel⟩
theorem cn_47 : CMI 47 0 := ⟨cb_47, w_91, by decide +kernel, by decide +kernel⟩
theorem cb_48 : CMb 48 1 := ⟨w_71, w_321, by decide +kernel, by decide +kernel⟩
theorem cv_48 : CMV 48 1 3 TX3 7 := ⟨cb_48, rfl, w_319, w_320⟩
theorem cb_49 : CMb 49 0 := ⟨w_71, w_329, by decide +kernel, by decide +kernel⟩
theorem cv_49 : CMV 49 0 3 TX3 7 := ⟨cb_49, rfl, w_327, w_328⟩
theorem cb_50 : CMb 50 1 := ⟨w_71, w_341, by decide +kernel, by decide +kernel⟩
theorem cv_50 : CMV 50 1 3 TX3 7 := ⟨cb_50, rfl, w_339, w_340⟩
theorem cb_51 : CMb 51 0 := ⟨w_71, w_404, by decide +kernel, by decide +kernel⟩
theorem cv_51 : CMV 51 0 3 TX3 7 := ⟨cb_51, rfl, w_403, w_18⟩
theorem cb_52 : CMb 52 0 := ⟨w_71, w_353, by decide +kernel, by decide +kernel⟩
theorem cv_52 : CMV 52 0 3 TX3 7 := ⟨cb_52, rfl, w_352, w_10⟩
theorem cb_53 : CMb 53 2 := ⟨w_71, w_349, by decide +kernel, by decide +kernel⟩
theorem cv_53 : CMV 53 2 3 TX3 7 := ⟨cb_53, rfl, w_348, w_9⟩
theorem cb_54 : CMb 54 1 := ⟨w_71, w_376, by decide +kernel, by decide +kernel⟩
theorem cv_54 : CMV 54 1 3 TX3 7 := ⟨cb_54, rfl, w_375, w_13⟩
theorem cb_55 : CMb 55 1 := ⟨w_71, w_345, by decide +kernel, by decide +kernel⟩
theorem cv_55 : CMV 55 1 3 TX3 7 := ⟨cb_55, rfl, w_344, w_8⟩
theorem cb_56 : CMb 56 1 := ⟨w_71, w_357, by decide +kernel, by decide +kernel⟩
theorem cv_56 : CMV 56 1 3 TX3 7 := ⟨cb_56, rfl, w_356, w_11⟩
theorem cb_57 : CMb 57 1 := ⟨w_71, w_380, by decide +kernel, by decide +kernel⟩
theorem cv_57 : CMV 57 1 3 TX3 7 := ⟨cb_57, rfl, w_379, w_14⟩
theorem cb_58 : CMb 58 1 := ⟨w_71, w_388, by decide +kernel, by decide +kernel⟩
theorem cv_58 : CMV 58 1 3 TX3 7 := ⟨cb_58, rfl, w_387, w_16⟩
theorem cb_59 : CMb 59 2 := ⟨w_71, w_392, by decide +kernel, by decide +kernel⟩
theorem cv_59 : CMV 59 2 3 TX3 7 := ⟨cb_59, rfl, w_391, w_17⟩
theorem cb_60 : CMb 60 0 := ⟨w_71, w_372, by decide +kernel, by decide +kernel⟩
theorem cv_60 : CMV 60 0 3 TX3 7 := ⟨cb_60, rfl, w_371, w_12⟩
theorem cb_61 : CMb 61 2 := ⟨w_71, w_384, by decide +kernel, by decide +kernel⟩
theorem cv_61 : CMV 61 2 3 TX3 7 := ⟨cb_61, rfl, w_383, w_15⟩
theorem cb_62 : CMb 62 0 := ⟨w_70, w_84, by decide +kernel, by decide +kernel⟩
theorem cn_62 : CMI 62 0 := ⟨cb_62, w_83, by decide +kernel, by decide +kernel⟩
theorem cb_63 : CMb 63 1 := ⟨w_70, w_309, by decide +kernel, by decide +kernel⟩
theorem cv_63 : CMV 63 1 4 TX4 9 := ⟨cb_63, rfl, w_307, w_308⟩
theorem cb_64 : CMb 64 0 := ⟨w_70, w_325, by decide +kernel, by decide +kernel⟩
theorem cv_64 : CMV 64 0 4 TX4 9 := ⟨cb_64, rfl, w_323, w_324⟩
theorem cb_65 : CMb 65 0 := ⟨w_70, w_333, by decide +kernel, by decide +kernel⟩
theorem cv_65 : CMV 65 0 4 TX4 9 := ⟨cb_65, rfl, w_331, w_332⟩
theorem cb_66 : CMb 66 1 := ⟨w_70, w_423, by decide +kernel, by decide +kernel⟩
theorem cv_66 : CMV 66 1 4 TX4 9 := ⟨cb_66, rfl, w_421, w_422⟩
theorem cb_67 : CMb 67 2 := ⟨w_70, w_427, by decide +kernel, by decide +kernel⟩
theorem cv_67 : CMV 67 2 4 TX4 9 := ⟨cb_67, rfl, w_425, w_426⟩
theorem cb_68 : CMb 68 2 := ⟨w_70, w_436, by decide +kernel, by decide +kernel⟩
theorem cv_68 : CMV 68 2 4 TX4 9 := ⟨cb_68, rfl, w_434, w_435⟩
theorem cb_69 : CMb 69 2 := ⟨w_70, w_464, by decide +kernel, by decide +kernel⟩
theorem cv_69 : CMV 69 2 4 TX4 9 := ⟨cb_69, rfl, w_462, w_463⟩
theorem cb_70 : CMb 70 1 := ⟨w_70, w_469, by decide +kernel, by decide +kernel⟩
theorem cv_70 : CMV 70 1 4 TX4 9 := ⟨cb_70, rfl, w_467, w_468⟩
theorem cb_71 : CMb 71 3 := ⟨w_70, w_474, by decide +kernel, by decide +kernel⟩
theorem cv_71 : CMV 71 3 4 TX4 9 := ⟨cb_71, rfl, w_472, w_473⟩
theorem cb_72 : CMb 72 2 := ⟨w_70, w_483, by decide +kernel, by decide +kernel⟩
theorem cv_72 : CMV 72 2 4 TX4 9 := ⟨cb_72, rfl, w_481, w_482⟩
theorem cb_73 : CMb 73 1 := ⟨w_70, w_487, by decide +kernel, by decide +kernel⟩
theorem cv_73 : CMV 73 1 4 TX4 9 := ⟨cb_73, rfl, w_485, w_486⟩
theorem cb_74 : CMb 74 2 := ⟨w_70, w_491, by decide +kernel, by decide +kernel⟩
theorem cv_74 : CMV 74 2 4 TX4 9 := ⟨cb_74, rfl, w_489, w_490⟩
theorem cb_75 : CMb 75 2 := ⟨w_70, w_505, by decide +kernel, by decide +kernel⟩
theorem cv_75 : CMV 75 2 4 TX4 9 := ⟨cb_75, rfl, w_503, w_504⟩
theorem cb_76 : CMb 76 1 := ⟨w_70, w_521, by decide +kernel, by decide +kernel⟩
theorem cv_76 : CMV 76 1 4 TX4 9 := ⟨cb_76, rfl, w_519, w_520⟩
theorem cb_77 : CMb 77 1 := ⟨w_70, w_533, by decide +kernel, by decide +kernel⟩
theorem cv_77 : CMV 77 1 4 TX4 9 := ⟨cb_77, rfl, w_531, w_532⟩
theorem cb_78 : CMb 78 1 := ⟨w_70, w_550, by decide +kernel, by decide +kernel⟩
theorem cv_78 : CMV 78 1 4 TX4 9 := ⟨cb_78, rfl, w_548, w_549⟩
theorem cb_79 : CMb 79 0 := ⟨w_70, w_587, by decide +kernel, by decide +kernel⟩
theorem cv_79 : CMV 79 0 4 TX4 9 := ⟨cb_79, rfl, w_585, w_586⟩
theorem cb_80 : CMb 80 1 := ⟨w_70, w_599, by decide +kernel, by decide +kernel⟩
theorem cv_80 : CMV 80 1 4 TX4 9 := ⟨cb_80, rfl, w_597, w_598⟩
theorem cb_81 : CMb 81 2 := ⟨w_70, w_610, by decide +kernel, by decide +kernel⟩
theorem cv_81 : CMV 81 2 4 TX4 9 := ⟨cb_81, rfl, w_608, w_609⟩
theorem cb_82 : CMb 82 1 := ⟨w_70, w_618, by decide +kernel, by decide +kernel⟩
theorem cv_82 : CMV 82 1 4 TX4 9 := ⟨cb_82, rfl, w_616, w_617⟩
theorem cb_83 : CMb 83 1 := ⟨w_70, w_626, by decide +kernel, by decide +kernel⟩
theorem cv_83 : CMV 83 1 4 TX4 9 := ⟨cb_83, rfl, w_624, w_625⟩
theorem cb_84 : CMb 84 2 := ⟨w_70, w_639, by decide +kernel, by decide +kernel⟩
theorem cv_84 : CMV 84 2 4 TX4 9 := ⟨cb_84, rfl, w_637, w_638⟩
theorem cb_85 : CMb 85 0 := ⟨w_70, w_643, by decide +kernel, by decide +kernel⟩
theorem cv_85 : CMV 85 0 4 TX4 9 := ⟨cb_85, rfl, w_641, w_642⟩
theorem cb_86 : CMb 86 1 := ⟨w_70, w_651, by decide +kernel, by decide +kernel⟩
theorem cv_86 : CMV 86 1 4 TX4 9 := ⟨cb_86, rfl, w_649, w_650⟩
theorem cb_87 : CMb 87 0 := ⟨w_70, w_656, by decide +kernel, by decide +kernel⟩
theorem cv_87 : CMV 87 0 4 TX4 9 := ⟨cb_87, rfl, w_654, w_655⟩
theorem cb_88 : CMb 88 2 := ⟨w_70, w_667, by decide +kernel, by decide +kernel⟩
theorem cv_88 : CMV 88 2 4 TX4 9 := ⟨cb_88, rfl, w_666, w_26⟩
theorem cb_89 : CMb 89 2 := ⟨w_70, w_661, by decide +kernel, by decide +kernel⟩
theorem cs_89 : CMS 89 2 := ⟨cb_89, w_660⟩
theorem cb_90 : CMb 90 0 := ⟨w_70, w_247, by decide +kernel, by decide +kernel⟩
theorem cv_90 : CMV 90 0 4 TX4 9 := ⟨cb_90, rfl, w_246, w_0⟩
theorem cb_91 : CMb 91 0 := ⟨w_70, w_313, by decide +kernel, by decide +kernel⟩
theorem cv_91 : CMV 91 0 4 TX4 9 := ⟨cb_91, rfl, w_312, w_6⟩
theorem cb_92 : CMb 92 0 := ⟨w_70, w_478, by decide +kernel, by decide +kernel⟩
theorem cv_92 : CMV 92 0 4 TX4 9 := ⟨cb_92, rfl, w_477, w_19⟩
theorem cb_93 : CMb 93 0 := ⟨w_70, w_317, by decide +kernel, by decide +kernel⟩
theorem cv_93 : CMV 93 0 4 TX4 9 := ⟨cb_93, rfl, w_316, w_7⟩
theorem cb_94 : CMb 94 2 := ⟨w_70, w_364, by decide +kernel, by decide +kernel⟩
theorem cs_94 : CMS 94 2 := ⟨cb_94, w_363⟩
theorem cb_95 : CMb 95 0 := ⟨w_76, w_676, by decide +kernel, by decide +kernel⟩
theorem cn_95 : CMI 95 0 := ⟨cb_95, w_675, by decide +kernel, by decide +kernel⟩
theorem cb_96 : CMb 96 3 := ⟨w_76, w_746, by decide +kernel, by decide +kernel⟩
theorem cs_96 : CMS 96 3 := ⟨cb_96, w_745⟩
theorem cb_97 : CMb 97 2 := ⟨w_76, w_801, by decide +kernel, by decide +kernel⟩
theorem cs_97 : CMS 97 2 := ⟨cb_97, w_800⟩
theorem cb_98 : CMb 98 1 := ⟨w_76, w_969, by decide +kernel, by decide +kernel⟩
theorem cs_98 : CMS 98 1 := ⟨cb_98, w_968⟩
theorem cb_99 : CMb 99 1 := ⟨w_76, w_750, by decide +kernel, by decide +kernel⟩
theorem cv_99 : CMV 99 1 5 TX5 20 := ⟨cb_99, rfl, w_749, w_27⟩
theorem cb_100 : CMb 100 2 := ⟨w_76, w_762, by decide +kernel, by decide +kernel⟩
theorem cv_100 : CMV 100 2 5 TX5 20 := ⟨cb_100, rfl, w_761, w_28⟩
theorem cb_101 : CMb 101 0 := ⟨w_76, w_826, by decide +kernel, by decide +kernel⟩
theorem cv_101 : CMV 101 0 5 TX5 20 := ⟨cb_101, rfl, w_825, w_42⟩
theorem cb_102 : CMb 102 1 := ⟨w_76, w_863, by decide +kernel, by decide +kernel⟩
theorem cv_102 : CMV 102 1 5 TX5 20 := ⟨cb_102, rfl, w_862, w_48⟩
theorem cb_103 : CMb 103 1 := ⟨w_76, w_875, by decide +kernel, by decide +kernel⟩
theorem cv_103 : CMV 103 1 5 TX5 20 := ⟨cb_103, rfl, w_874, w_50⟩
theorem cb_104 : CMb 104 2 := ⟨w_76, w_888, by decide +kernel, by decide +kernel⟩
theorem cv_104 : CMV 104 2 5 TX5 20 := ⟨cb_104, rfl, w_887, w_53⟩
theorem cb_105 : CMb 105 1 := ⟨w_76, w_742, by decide +kernel, by decide +kernel⟩
theorem cv_105 : CMV 105 1 5 TX5 20 := ⟨cb_105, rfl, w_740, w_741⟩
theorem cb_106 : CMb 106 0 := ⟨w_76, w_754, by decide +kernel, by decide +kernel⟩
theorem cv_106 : CMV 106 0 5 TX5 20 := ⟨cb_106, rfl, w_752, w_753⟩
theorem cb_107 : CMb 107 0 := ⟨w_76, w_778, by decide +kernel, by decide +kernel⟩
theorem cv_107 : CMV 107 0 5 TX5 20 := ⟨cb_107, rfl, w_777, w_32⟩
theorem cb_108 : CMb 108 1 := ⟨w_76, w_792, by decide +kernel, by decide +kernel⟩
theorem cv_108 : CMV 108 1 5 TX5 20 := ⟨cb_108, rfl, w_791, w_35⟩
theorem cb_109 : CMb 109 0 := ⟨w_76, w_814, by decide +kernel, by decide +kernel⟩
theorem cv_109 : CMV 109 0 5 TX5 20 := ⟨cb_109, rfl, w_813, w_39⟩
theorem cb_110 : CMb 110 2 := ⟨w_76, w_774, by decide +kernel, by decide +kernel⟩
theorem cv_110 : CMV 110 2 5 TX5 20 := ⟨cb_110, rfl, w_773, w_31⟩
theorem cb_111 : CMb 111 1 := ⟨w_76, w_788, by decide +kernel, by decide +kernel⟩
theorem cv_111 : CMV 111 1 5 TX5 20 := ⟨cb_111, rfl, w_787, w_34⟩
theorem cb_112 : CMb 112 0 := ⟨w_76, w_796, by decide +kernel, by decide +kernel⟩
theorem cv_112 : CMV 112 0 5 TX5 20 := ⟨cb_112, rfl, w_795, w_36⟩
theorem cb_113 : CMb 113 2 := ⟨w_76, w_809, by decide +kernel, by decide +kernel⟩
theorem cv_113 : CMV 113 2 5 TX5 20 := ⟨cb_113, rfl, w_808, w_38⟩
theorem cb_114 : CMb 114 0 := ⟨w_76, w_805, by decide +kernel, by decide +kernel⟩
theorem cv_114 : CMV 114 0 5 TX5 20 := ⟨cb_114, rfl, w_804, w_37⟩
theorem cb_115 : CMb 115 0 := ⟨w_76, w_782, by decide +kernel, by decide +kernel⟩
theorem cv_115 : CMV 115 0 5 TX5 20 := ⟨cb_115, rfl, w_781, w_33⟩
theorem cb_116 : CMb 116 0 := ⟨w_76, w_770, by decide +kernel, by decide +kernel⟩
theorem cv_116 : CMV 116 0 5 TX5 20 := ⟨cb_116, rfl, w_769, w_30⟩
theorem cb_117 : CMb 117 0 := ⟨w_76, w_766, by decide +kernel, by decide +kernel⟩
theorem cv_117 : CMV 117 0 5 TX5 20 := ⟨cb_117, rfl, w_765, w_29⟩
theorem cb_118 : CMb 118 0 := ⟨w_76, w_818, by decide +kernel, by decide +kernel⟩
theorem cv_118 : CMV 118 0 5 TX5 20 := ⟨cb_118, rfl, w_817, w_40⟩
theorem cb_119 : CMb 119 0 := ⟨w_76, w_758, by decide +kernel, by decide +kernel⟩
theorem cv_119 : CMV 119 0 5 TX5 20 := ⟨cb_119, rfl, w_756, w_757⟩
theorem cb_120 : CMb 120 0 := ⟨w_76, w_822, by decide +kernel, by decide +kernel⟩
theorem cv_120 : CMV 120 0 5 TX5 20 := ⟨cb_120, rfl, w_821, w_41⟩
theorem cb_121 : CMb 121 1 := ⟨w_76, w_830, by decide +kernel, by decide +kernel⟩
theorem cv_121 : CMV 121 1 5 TX5 20 := ⟨cb_121, rfl, w_828, w_829⟩
theorem cb_122 : CMb 122 1 := ⟨w_76, w_851, by decide +kernel, by decide +kernel⟩
theorem cv_122 : CMV 122 1 5 TX5 20 := ⟨cb_122, rfl, w_850, w_46⟩
theorem cb_123 : CMb 123 1 := ⟨w_76, w_855, by decide +kernel, by decide +kernel⟩
theorem cv_123 : CMV 123 1 5 TX5 20 := ⟨cb_123, rfl, w_854, w_47⟩
theorem cb_124 : CMb 124 2 := ⟨w_76, w_847, by decide +kernel, by decide +kernel⟩
theorem cv_124 : CMV 124 2 5 TX5 20 := ⟨cb_124, rfl, w_846, w_45⟩
theorem cb_125 : CMb 125 0 := ⟨w_76, w_843, by decide +kernel, by decide +kernel⟩
theorem cv_125 : CMV 125 0 5 TX5 20 := ⟨cb_125, rfl, w_842, w_44⟩
theorem cb_126 : CMb 126 1 := ⟨w_76, w_839, by decide +kernel, by decide +kernel⟩
theorem cv_126 : CMV 126 1 5 TX5 20 := ⟨cb_126, rfl, w_838, w_43⟩
theorem cb_127 : CMb 127 1 := ⟨w_76, w_835, by decide +kernel, by decide +kernel⟩
theorem cv_127 : CMV 127 1 5 TX5 20 := ⟨cb_127, rfl, w_833, w_834⟩
theorem cb_128 : CMb 128 2 := ⟨w_76, w_892, by decide +kernel, by decide +kernel⟩
theorem cv_128 : CMV 128 2 5 TX5 20 := ⟨cb_128, rfl, w_891, w_54⟩
theorem cb_129 : CMb 129 1 := ⟨w_76, w_884, by decide +kernel, by decide +kernel⟩
theorem cv_129 : CMV 129 1 5 TX5 20 := ⟨cb_129, rfl, w_883, w_52⟩
theorem cb_130 : CMb 130 1 := ⟨w_76, w_896, by decide +kernel, by decide +kernel⟩
theorem cv_130 : CMV 130 1 5 TX5 20 := ⟨cb_130, rfl, w_895, w_55⟩
theorem cb_131 : CMb 131 2 := ⟨w_76, w_867, by decide +kernel, by decide +kernel⟩
theorem cv_131 : CMV 131 2 5 TX5 20 := ⟨cb_131, rfl, w_866, w_49⟩
theorem cb_132 : CMb 132 2 := ⟨w_76, w_859, by decide +kernel, by decide +kernel⟩
theorem cv_132 : CMV 132 2 5 TX5 20 := ⟨cb_132, rfl, w_857, w_858⟩
theorem cb_133 : CMb 133 2 := ⟨w_76, w_880, by decide +kernel, by decide +kernel⟩
theorem cv_133 : CMV 133 2 5 TX5 20 := ⟨cb_133, rfl, w_879, w_51⟩
theorem cb_134 : CMb 134 2 := ⟨w_76, w_871, by decide +kernel, by decide +kernel⟩
theorem cv_134 : CMV 134 2 5 TX5 20 := ⟨cb_134, rfl, w_869, w_870⟩
theorem cb_135 : CMb 135 2 := ⟨w_76, w_900, by decide +kernel, by decide +kernel⟩
theorem cv_135 : CMV 135 2 5 TX5 20 := ⟨cb_135, rfl, w_898, w_899⟩
theorem cb_136 : CMb 136 3 := ⟨w_76, w_904, by decide +kernel, by decide +kernel⟩
theorem cv_136 : CMV 136 3 5 TX5 20 := ⟨cb_136, rfl, w_902, w_903⟩
theorem cb_137 : CMb 137 2 := ⟨w_76, w_909, by decide +kernel, by decide +kernel⟩
theorem cv_137 : CMV 137 2 5 TX5 20 := ⟨cb_137, rfl, w_907, w_908⟩
theorem cb_138 : CMb 138 1 := ⟨w_76, w_914, by decide +kernel, by decide +kernel⟩
theorem cv_138 : CMV 138 1 5 TX5 20 := ⟨cb_138, rfl, w_912, w_913⟩
theorem cb_139 : CMb 139 2 := ⟨w_76, w_922, by decide +kernel, by decide +kernel⟩
theorem cs_139 : CMS 139 2 := ⟨cb_139, w_921⟩
theorem cb_140 : CMb 140 2 := ⟨w_76, w_919, by decide +kernel, by decide +kernel⟩
theorem cv_140 : CMV 140 2 5 TX5 20 := ⟨cb_140, rfl, w_917, w_918⟩
theorem cb_141 : CMb 141 2 := ⟨w_76, w_926, by decide +kernel, by decide +kernel⟩
theorem cv_141 : CMV 141 2 5 TX5 20 := ⟨cb_141, rfl, w_924, w_925⟩
theorem cb_142 : CMb 142 0 := ⟨w_76, w_938, by decide +kernel, by decide +kernel⟩
theorem cv_142 : CMV 142 0 5 TX5 20 := ⟨cb_142, rfl, w_937, w_57⟩
theorem cb_143 : CMb 143 1 := ⟨w_76, w_934, by decide +kernel, by decide +kernel⟩
theorem cv_143 : CMV 143 1 5 TX5 20 := ⟨cb_143, rfl, w_933, w_56⟩
theorem cb_144 : CMb 144 1 := ⟨w_76, w_930, by decide +kernel, by decide +kernel⟩
theorem cv_144 : CMV 144 1 5 TX5 20 := ⟨cb_144, rfl, w_928, w_929⟩
theorem cb_145 : CMb 145 1 := ⟨w_76, w_946, by decide +kernel, by decide +kernel⟩
theorem cv_145 : CMV 145 1 5 TX5 20 := ⟨cb_145, rfl, w_945, w_58⟩
theorem cb_146 : CMb 146 1 := ⟨w_76, w_942, by decide +kernel, by decide +kernel⟩
theorem cv_146 : CMV 146 1 5 TX5 20 := ⟨cb_146, rfl, w_940, w_941⟩
theorem cb_147 : CMb 147 2 := ⟨w_76, w_984, by decide +kernel, by decide +kernel⟩
theorem cs_147 : CMS 147 2 := ⟨cb_147, w_983⟩
theorem cb_148 : CMb 148 1 := ⟨w_76, w_973, by decide +kernel, by decide +kernel⟩
theorem cv_148 : CMV 148 1 5 TX5 20 := ⟨cb_148, rfl, w_972, w_63⟩
theorem cb_149 : CMb 149 5 := ⟨w_76, w_981, by decide +kernel, by decide +kernel⟩
theorem cv_149 : CMV 149 5 5 TX5 20 := ⟨cb_149, rfl, w_980, w_65⟩
theorem cb_150 : CMb 150 4 := ⟨w_76, w_977, by decide +kernel, by decide +kernel⟩
theorem cv_150 : CMV 150 4 5 TX5 20 := ⟨cb_150, rfl, w_976, w_64⟩
theorem cb_151 : CMb 151 1 := ⟨w_76, w_966, by decide +kernel, by decide +kernel⟩
theorem cv_151 : CMV 151 1 5 TX5 20 := ⟨cb_151, rfl, w_965, w_62⟩
theorem cb_152 : CMb 152 1 := ⟨w_76, w_962, by decide +kernel, by decide +kernel⟩
theorem cv_152 : CMV 152 1 5 TX5 20 := ⟨cb_152, rfl, w_961, w_61⟩
theorem cb_153 : CMb 153 0 := ⟨w_76, w_958, by decide +kernel, by decide +kernel⟩
theorem cv_153 : CMV 153 0 5 TX5 20 := ⟨cb_153, rfl, w_957, w_60⟩
theorem cb_154 : CMb 154 2 := ⟨w_76, w_954, by decide +kernel, by decide +kernel⟩
theorem cv_154 : CMV 154 2 5 TX5 20 := ⟨cb_154, rfl, w_953, w_59⟩
theorem cb_155 : CMb 155 1 := ⟨w_76, w_950, by decide +kernel, by decide +kernel⟩
theorem cv_155 : CMV 155 1 5 TX5 20 := ⟨cb_155, rfl, w_948, w_949⟩
theorem cb_156 : CMb 156 0 := ⟨w_76, w_988, by decide +kernel, by decide +kernel⟩
theorem cv_156 : CMV 156 0 5 TX5 20 := ⟨cb_156, rfl, w_986, w_987⟩
theorem cb_157 : CMb 157 1 := ⟨w_76, w_996, by decide +kernel, by decide +kernel⟩
theorem cv_157 : CMV 157 1 5 TX5 20 := ⟨cb_157, rfl, w_995, w_66⟩
theorem cb_158 : CMb 158 1 := ⟨w_76, w_992, by decide +kernel, by decide +kernel⟩
theorem cv_158 : CMV 158 1 5 TX5 20 := ⟨cb_158, rfl, w_990, w_991⟩
theorem cb_159 : CMb 159 2 := ⟨w_76, w_1000, by decide +kernel, by decide +kernel⟩
theorem cv_159 : CMV 159 2 5 TX5 20 := ⟨cb_159, rfl, w_998, w_999⟩
theorem cb_160 : CMb 160 1 := ⟨w_76, w_1004, by decide +kernel, by decide +kernel⟩
theorem cv_160 : CMV 160 1 5 TX5 20 := ⟨cb_160, rfl, w_1002, w_1003⟩
theorem cb_161 : CMb 161 1 := ⟨w_76, w_1008, by decide +kernel, by decide +kernel⟩
theorem cv_161 : CMV 161 1 5 TX5 20 := ⟨cb_161, rfl, w_1006, w_1007⟩
theorem cb_162 : CMb 162 1 := ⟨w_76, w_1012, by decide +kernel, by decide +kernel⟩
theorem cv_162 : CMV 162 1 5 TX5 20 := ⟨cb_162, rfl, w_1011, w_67⟩
theorem cb_163 : CMb 163 2 := ⟨w_76, w_1016, by decide +kernel, by decide +kernel⟩
theorem cv_163 : CMV 163 2 5 TX5 20 := ⟨cb_163, rfl, w_1014, w_1015⟩
theorem cb_164 : CMb 164 0 := ⟨w_76, w_1021, by decide +kernel, by decide +kernel⟩
theorem cv_164 : CMV 164 0 5 TX5 20 := ⟨cb_164, rfl, w_1019, w_1020⟩
theorem cb_165 : CMb 165 1 := ⟨w_76, w_1030, by decide +kernel, by decide +kernel⟩
theorem cv_165 : CMV 165 1 5 TX5 20 := ⟨cb_165, rfl, w_1029, w_68⟩
theorem cb_166 : CMb 166 1 := ⟨w_76, w_1025, by decide +kernel, by decide +kernel⟩
theorem cv_166 : CMV 166 1 5 TX5 20 := ⟨cb_166, rfl, w_1023, w_1024⟩
theorem cb_167 : CMb 167 0 := ⟨w_76, w_1034, by decide +kernel, by decide +kernel⟩
theorem cv_167 : CMV 167 0 5 TX5 20 := ⟨cb_167, rfl, w_1032, w_1033⟩
theorem cb_168 : CMb 168 1 := ⟨w_79, w_563, by decide +kernel, by decide +kernel⟩
theorem cs_168 : CMS 168 1 := ⟨cb_168, w_562⟩
theorem cb_169 : CMb 169 2 := ⟨w_72, w_96, by decide +kernel, by decide +kernel⟩
theorem cs_169 : CMS 169 2 := ⟨cb_169, w_95⟩
end
section
/-! THE RUN of the small machine, and that the machine runs so -/
def lkp : List (Nat × aO) → Nat → Option aO
  | [], _ => none
  | q :: t, pc => match Nat.beq q.1 pc with
    | true => some q.2
    | false => lkp t pc
def lkb : List (Nat × List (Nat × aO)) → Nat → Option aO
  | [], _ => none
  | b :: t, pc => match Nat.ble pc b.1 with
    | true => lkp b.2 pc
    | false => lkb t pc
theorem lkp_spec : ∀ (l : List (Nat × aO)) (pc : Nat) (op : aO), lkp l pc = some op → (pc, op) ∈ l
  | [], pc, op, h => by cases h
  | q :: t, pc, op, h => by
    rw [lkp] at h
    split at h
    · rename_i hq
      cases h
      rw [← Nat.eq_of_beq_eq_true hq]
      exact List.mem_cons_self
    · exact List.mem_cons_of_mem _ (lkp_spec t pc op h)
theorem lkb_spec : ∀ (pr : List (Nat × List (Nat × aO))) (pc : Nat) (op : aO), lkb pr pc = some op → ∃ b ∈ pr, (pc, op) ∈ b.2
  | [], pc, op, h => by cases h
  | b :: t, pc, op, h => by
    rw [lkb] at h
    split at h
    · exact ⟨b, List.mem_cons_self, lkp_spec _ _ _ h⟩
    · obtain ⟨b', h1, h2⟩ := lkb_spec t pc op h
      exact ⟨b', List.mem_cons_of_mem _ h1, h2⟩
/-- the locals at a method's entry -/
def lvx : Nat → List aV → aL
  | _, [] => []
  | i, v :: vs => (i, v) :: lvx (if ac v = 2 then i + 2 else i + 1) vs
def lvF {β : Type} : List aV → Nat → (aL → β) → β
  | [], _, k => k []
  | v :: t, i, k => match Nat.beq (ac v) 2 with
    | true => lvF t (i + 2) (fun r => k ((i, v) :: r))
    | false => lvF t (i + 1) (fun r => k ((i, v) :: r))
theorem lvF_eq {β : Type} : ∀ (vs : List aV) (i : Nat) (k : aL → β), lvF vs i k = k (lvx i vs)
  | [], i, k => rfl
  | v :: t, i, k => by
    rw [lvF, lvx]
    cases hc : Nat.beq (ac v) 2 with
    | true => rw [if_pos (Nat.eq_of_beq_eq_true hc)]; simp only [lvF_eq]
    | false => rw [if_neg (fun e => by rw [e] at hc; cases hc)]; simp only [lvF_eq]
theorem lva_tl (G : aG) : ∀ (vs : List aV) (i : Nat), lv_args i (vs.map (tx G)) = tl G (lvx i vs)
  | [], i => rfl
  | v :: t, i => by
    rw [List.map_cons, lv_args, lvx, tx_cat, lva_tl G t]
    rfl
theorem sl_len (G : aG) : ∀ vs : List aV, (lg_sl (vs.map (tx G))).length = catS vs
  | [] => rfl
  | v :: t => by
    have := sl_len G t
    unfold lg_sl catS at this ⊢
    rw [List.map_cons, List.flatMap_cons, List.length_append, this, List.map_cons, List.sum_cons, tx_cat]
    congr 1
    have hv := tx_cat G v
    rcases lv_cat (tx G v) with h | h <;> rw [hv] at h <;> rw [h] <;> rfl
abbrev aR : Type := Option (Option Value × aH)
abbrev aP : Type := List (Nat × List (Nat × aO))
def run (call : Nat → List aV → aH → aR) (pr : aP) (mc ms : Nat) : Nat → Nat → aL → List aV → aH → Nat → Nat → aR
  | 0, _, _, _, _, _, _ => none
  | n + 1, pc, lv, st, h, a, b => match lkb pr pc with
    | none => none
    | some op => match op lv st h with
      | none => none
      | some (.inl (pc', lv', st', h', da, db)) => match da, db with
        | 0, 0 => run call pr mc ms n pc' lv' st' h' a b
        | da, db => frN (a + da) (fun a' => frN (b + db) (fun b' => match Nat.ble a' mc, Nat.ble b' ms with
          | true, true => run call pr mc ms n pc' lv' st' h' a' b'
          | _, _ => none))
      | some (.inr (.inl (mid, as, rest))) => match call mid as h with
        | none => none
        | some (r, h1) => match MD mid with
          | (_, da, db) => match da, db with
            | 0, 0 => run call pr mc ms n (pc + 3) lv (rl r ++ rest) h1 a b
            | da, db => frN (a + da) (fun a' => frN (b + db) (fun b' => match Nat.ble a' mc, Nat.ble b' ms with
              | true, true => run call pr mc ms n (pc + 3) lv (rl r ++ rest) h1 a' b'
              | _, _ => none))
      | some (.inr (.inr r)) => some (r, h)
theorem run_sound {G : aG} {M : aM} {d : Nat} {p : Program} {l : Launch} {e : Env} {R : Room} {s : State} {m : MethodId} {args : Array Value} {below : List Frame} {meth : Method} {c : Code} (hF : Fx G M d p R s m args meth c) {pr : aP} (hok : ∀ b ∈ pr, ∀ q ∈ b.2, Ok M q.1 q.2) {mc ms : Nat} (hc : mc ≤ R.cells) (hs : ms ≤ R.slots) {call : Nat → List aV → aH → aR} (hcall : ∀ (mid : Nat) (as : List aV) (h : aH) (r : Option Value) (h' : aH), call mid as h = some (r, h') → MtE l G d (MD mid) as h r h') (r : Option Value) (h' : aH) : ∀ (n pc : Nat) (lv : aL) (st : List aV) (h : aH) (a b : Nat), a ≤ mc → b ≤ ms → run call pr mc ms n pc lv st h a b = some (r, h') → Wc G M.2.2.1 p l e R s m args below meth c (MQ below (Qx G r h') args s mc ms (fun q => G.1 ≤ q)) pc lv st h a b := by
  intro n
  induction n with
  | zero => intro pc lv st h a b _ _ hr; cases hr
  | succ n ih =>
    intro pc lv st h a b ha hb hr
    rw [run] at hr
    split at hr
    · cases hr
    · rename_i op hop
      obtain ⟨bl, hbl, hq⟩ := lkb_spec pr pc op hop
      have K := hok bl hbl (pc, op) hq G d p l e R s m args below meth c hF lv st h
      split at hr
      · cases hr
      · rename_i pc' lv' st' h1 da db hx
        have K1 := K _ hx a b (MQ below (Qx G r h') args s mc ms (fun q => G.1 ≤ q))
        dsimp only at K1
        split at hr
        · exact K1 (Nat.le_trans ha hc) (Nat.le_trans hb hs) (ih pc' lv' st' h1 a b ha hb hr)
        · rw [frN_eq, frN_eq] at hr
          split at hr
          · rename_i g1 g2
            have g1 := Nat.le_of_ble_eq_true g1
            have g2 := Nat.le_of_ble_eq_true g2
            exact K1 (Nat.le_trans g1 hc) (Nat.le_trans g2 hs) (ih pc' lv' st' h1 _ _ g1 g2 hr)
          · cases hr
      · rename_i mid as rest hx
        split at hr
        · cases hr
        · rename_i rv h1 hcl
          have K1 := K _ hx a b (MQ below (Qx G r h') args s mc ms (fun q => G.1 ≤ q)) rv h1 (hcall mid as h rv h1 hcl)
          dsimp only at K1
          split at hr
          rename_i x3 da db hmd
          rw [hmd] at K1
          dsimp only at K1
          split at hr
          · exact K1 (Nat.le_trans ha hc) (Nat.le_trans hb hs) (ih (pc + 3) lv _ h1 a b ha hb hr)
          · rw [frN_eq, frN_eq] at hr
            split at hr
            · rename_i g1 g2
              have g1 := Nat.le_of_ble_eq_true g1
              have g2 := Nat.le_of_ble_eq_true g2
              exact K1 (Nat.le_trans g1 hc) (Nat.le_trans g2 hs) (ih (pc + 3) lv _ h1 _ _ g1 g2 hr)
            · cases hr
      · rename_i rv hx
        cases hr
        exact K _ hx a b mc ms ha hb
/-- a method by its number, with frames to the depth d -/
def exM (LL : List ((aM × Nat × Nat) × aP)) (fu : Nat) : Nat → Nat → List aV → aH → aR
  | 0 => fun _ _ _ => none
  | d + 1 => fun mid as h => match LL[mid]? with
    | none => none
    | some x => match Nat.ble (catS as) x.1.1.2.2.1 with
      | true => lvF as 0 (fun lv => run (exM LL fu d) x.2 x.1.2.1 x.1.2.2 fu 0 lv [] h 0 0)
      | false => none
theorem exM_sound (l : Launch) (G : aG) (hρ : Rh G.2.2.2.2.2.1) {LL : List ((aM × Nat × Nat) × aP)} (h1 : LL.map (·.1) = MDl) (h2 : ∀ x ∈ LL, ∀ b ∈ x.2, ∀ q ∈ b.2, Ok x.1.1 q.1 q.2) (h3 : ∀ x ∈ LL, plainName x.1.1.1.cls = true) (fu : Nat) : ∀ (d mid : Nat) (as : List aV) (h : aH) (r : Option Value) (h' : aH), exM LL fu d mid as h = some (r, h') → MtE l G d (MD mid) as h r h' := by
  intro d
  induction d with
  | zero => intro mid as h r h' hr; cases hr
  | succ d ih =>
    intro mid as h r h' hr
    rw [exM] at hr
    dsimp only at hr
    split at hr
    · cases hr
    · rename_i x hx
      have hxm : x ∈ LL := List.mem_of_getElem? hx
      have hmd : MD mid = x.1 := by
        unfold MD
        rw [← h1, List.getD_eq_getElem?_getD, List.getElem?_map, hx]
        rfl
      rw [hmd]
      split at hr
      · rename_i hcat
        have hcat := Nat.le_of_ble_eq_true hcat
        rw [lvF_eq] at hr
        unfold MtE
        refine Met.ofW (cc := x.1.1.2.1) (maxL := x.1.1.2.2.1) (ret := x.1.1.2.2.2) (h3 x hxm) rfl ?_
        intro p e s m args below meth c s₁ B hml hv
        obtain ⟨rfl, hP, hK⟩ := hv
        have hts := atoms_spec (ws := Cond.code x.1.1.1 x.1.1.2.1 x.1.1.2.2.1 x.1.1.2.2.2 :: tg) B.pre
        have hF : Fx G x.1.1 d p (headSpec (Cond.code x.1.1.1 x.1.1.2.1 x.1.1.2.2.1 x.1.1.2.2.2 :: tg) { frames := d + 1, cells := x.1.2.1, slots := x.1.2.2, locals := 40 * (d + 1) }).room s m (as.map (tx G)).toArray meth c :=
          ⟨⟨B.exec, B.bytes, hml, findClass_of_methodNamed B.named, fun w hw => hts w (List.mem_cons_of_mem _ hw)⟩, ⟨B.returns, B.notSynchronized, fun h => (name_of_methodNamed B.named B.method).1.trans h, hρ⟩, hK, by rw [hP.2]; exact Nat.le_add_right _ _, Nat.le_refl _, Nat.le_refl _⟩
        have hl := lv_entry (as.map (tx G)) (n := x.1.1.2.2.1) (by rw [sl_len]; exact hcat)
        rw [lva_tl] at hl
        rw [lg_entry_eq]
        exact run_sound hF (h2 x hxm) (Nat.le_refl _) (Nat.le_refl _) ih r h' fu 0 (lvx 0 as) [] h 0 0 (Nat.zero_le _) (Nat.zero_le _) hr s.heap [] _ hP va_S.rf hl
      · cases hr
end
section
/-! THE LAW'S BODY in the small machine: its script is a value of its own -/
def OkA (G : aG) (M : aM) (d : Nat) (p : Program) (l : Launch) (e : Env) (R : Room) (s : State) (m : MethodId) (args : Array Value) (below : List Frame) (meth : Method) (c : Code) (pc : Nat) (op : aO) : Prop := ∀ (lv : aL) (st : List aV) (h : aH) (x : aX), op lv st h = some x → ∀ a b : Nat, OkX G M d p l e R s m args below meth c pc lv st h a b x
def ML : aM := (yL_law, code, 4, some .boolean)
/-- the law at its frame: a script of L ints, whose first one is k in its last five bits; sc: what is known of them -/
def LC (G : aG) (d : Nat) (p : Program) (R : Room) (s : State) (m : MethodId) (args : Array Value) (meth : Method) (c : Code) (L k : Nat) (sc : List aV) : Prop :=
  Fx G ML d p R s m args meth c ∧ G.1 = s.heap.size ∧ G.2.2.2.2.2.2 < s.heap.size ∧ ∃ xs : Nat → Int32, va_X G.2.2.2.2.2.2 L xs s s.heap ∧ (∀ (j : Nat) (v : aV), sc[j]? = some v → j < L ∧ tx G v = .int (xs j)) ∧ (∀ v : Int32, v = G.2.2.2.2.2.1 8 → v &&& 31 = nI k)
theorem okn {G : aG} {d : Nat} {p : Program} {l : Launch} {e : Env} {R : Room} {s : State} {m : MethodId} {args : Array Value} {below : List Frame} {meth : Method} {c : Code} {L k : Nat} {sc : List aV} (C : LC G d p R s m args meth c L k sc) {pc : Nat} {op : aO} (h : Ok ML pc op) : OkA G ML d p l e R s m args below meth c pc op := h G d p l e R s m args below meth c C.1
def oSc (sc : List aV) (n : Nat) : aO := fun lv st h => match st with
  | .inl (.int j) :: .inr (2, _) :: r => match decide (j < 0) with
    | true => none
    | false => match sc[j.toNatClampNeg]? with
      | some v => nx n lv (v :: r) h
      | none => none
  | _ => none
def oSn (L n : Nat) : aO := fun lv st h => match st with
  | .inr (2, _) :: r => nx n lv (.inl (.int (Int32.ofNat L)) :: r) h
  | _ => none
def oAk (k n : Nat) : aO := fun lv st h => match st with
  | .inl (.int z) :: .inr (0, 8) :: r => match decide (z = 31) with
    | true => nx n lv (.inl (.int (nI k)) :: r) h
    | false => none
  | _ => none
theorem okSc {G : aG} {d : Nat} {p : Program} {l : Launch} {e : Env} {R : Room} {s : State} {m : MethodId} {args : Array Value} {below : List Frame} {meth : Method} {c : Code} {L k : Nat} {sc : List aV} (C : LC G d p R s m args meth c L k sc) {pc : Nat} (hd : decode ML.2.1 pc = .ok (.iaload, 1)) : OkA G ML d p l e R s m args below meth c pc (oSc sc (pc + 1)) := by
  intro lv st h x hx a b
  obtain ⟨hF, hG, hlt, xs, hX, hsc, -⟩ := C
  unfold oSc at hx
  split at hx
  · split at hx
    · cases hx
    · rename_i hz
      have hz := of_decide_eq_false hz
      split at hx
      · rename_i hv
        cases hx
        intro Q _ _ kk H locs ls hP hS hll
        obtain ⟨g1, g2⟩ := hsc _ _ hv
        refine va_sld hF.1.1 hF.1.2.1 hX hlt (A := fun q : Nat => G.1 ≤ q) (by rw [hG]; exact Nat.not_le.mpr hlt) hS (fun q => q.elim hz (fun q => absurd g1 (Nat.not_lt.mpr q))) hd ?_
        rw [← g2]
        exact kk H locs ls hP hS hll
      · cases hx
  · cases hx
theorem okSn {G : aG} {d : Nat} {p : Program} {l : Launch} {e : Env} {R : Room} {s : State} {m : MethodId} {args : Array Value} {below : List Frame} {meth : Method} {c : Code} {L k : Nat} {sc : List aV} (C : LC G d p R s m args meth c L k sc) {pc : Nat} (hd : decode ML.2.1 pc = .ok (.arraylength, 1)) : OkA G ML d p l e R s m args below meth c pc (oSn L (pc + 1)) := by
  intro lv st h x hx a b
  obtain ⟨hF, hG, hlt, xs, hX, hsc, -⟩ := C
  unfold oSn at hx
  split at hx
  · cases hx
    intro Q _ _ kk H locs ls hP hS hll
    exact va_slen hF.1.1 hF.1.2.1 hX hlt (A := fun q : Nat => G.1 ≤ q) (by rw [hG]; exact Nat.not_le.mpr hlt) hS hd (kk H locs ls hP hS hll)
  · cases hx
theorem okAk {G : aG} {d : Nat} {p : Program} {l : Launch} {e : Env} {R : Room} {s : State} {m : MethodId} {args : Array Value} {below : List Frame} {meth : Method} {c : Code} {L k : Nat} {sc : List aV} (C : LC G d p R s m args meth c L k sc) {pc : Nat} (hd : decode ML.2.1 pc = .ok (.iand, 1)) : OkA G ML d p l e R s m args below meth c pc (oAk k (pc + 1)) := by
  intro lv st h x hx a b
  obtain ⟨hF, hG, hlt, xs, hX, hsc, hk⟩ := C
  unfold oAk at hx
  split at hx
  · split at hx
    · rename_i hz
      have hz := of_decide_eq_true hz
      subst hz
      cases hx
      intro Q _ _ kk H locs ls hP hS hll
      refine lv_iand hF.1.1 hF.1.2.1 hd ?_
      rw [hk _ rfl]
      exact kk H locs ls hP hS hll
    · cases hx
  · cases hx
/-- a run up to a place, with nothing on the stack there -/
def runB (call : Nat → List aV → aH → aR) (pr : aP) (sp mc ms : Nat) : Nat → Nat → aL → List aV → aH → Nat → Nat → Bool
  | 0, _, _, _, _, _, _ => false
  | n + 1, pc, lv, st, h, a, b => match Nat.beq pc sp with
    | true => match st with
      | [] => true
      | _ :: _ => false
    | false => match lkb pr pc with
      | none => false
      | some op => match op lv st h with
        | some (.inl (pc', lv', st', h', 0, 0)) => runB call pr sp mc ms n pc' lv' st' h' a b
        | some (.inr (.inl (mid, as, rest))) => match call mid as h with
          | none => false
          | some (r, h1) => match MD mid with
            | (_, 0, 0) => runB call pr sp mc ms n (pc + 3) lv (rl r ++ rest) h1 a b
            | _ => false
        | _ => false
theorem runB_sound {G : aG} {M : aM} {d : Nat} {p : Program} {l : Launch} {e : Env} {R : Room} {s : State} {m : MethodId} {args : Array Value} {below : List Frame} {meth : Method} {c : Code} {pr : aP} (hok : ∀ b ∈ pr, ∀ q ∈ b.2, OkA G M d p l e R s m args below meth c q.1 q.2) {sp mc ms : Nat} (hc : mc ≤ R.cells) (hs : ms ≤ R.slots) {call : Nat → List aV → aH → aR} (hcall : ∀ (mid : Nat) (as : List aV) (h : aH) (r : Option Value) (h' : aH), call mid as h = some (r, h') → MtE l G d (MD mid) as h r h') {Q : State → Prop} (hQ : ∀ (lv : aL) (h : aH) (a b : Nat), a ≤ mc → b ≤ ms → Wc G M.2.2.1 p l e R s m args below meth c Q sp lv [] h a b) : ∀ (n pc : Nat) (lv : aL) (st : List aV) (h : aH) (a b : Nat), a ≤ mc → b ≤ ms → runB call pr sp mc ms n pc lv st h a b = true → Wc G M.2.2.1 p l e R s m args below meth c Q pc lv st h a b := by
  intro n
  induction n with
  | zero => intro pc lv st h a b _ _ hr; cases hr
  | succ n ih =>
    intro pc lv st h a b ha hb hr
    unfold runB at hr
    split at hr
    · rename_i hpc
      split at hr
      · rw [Nat.eq_of_beq_eq_true hpc]
        exact hQ lv h a b ha hb
      · cases hr
    · split at hr
      · cases hr
      · rename_i op hop
        obtain ⟨bl, hbl, hq⟩ := lkb_spec pr pc op hop
        have K := hok bl hbl (pc, op) hq lv st h
        split at hr
        · rename_i pc' lv' st' h1 hx
          exact K _ hx a b Q (Nat.le_trans ha hc) (Nat.le_trans hb hs) (ih pc' lv' st' h1 a b ha hb hr)
        · rename_i mid as rest hx
          split at hr
          · cases hr
          · rename_i rv h1 hcl
            have K1 := K _ hx a b Q rv h1 (hcall mid as h rv h1 hcl)
            dsimp only at K1
            split at hr
            · rename_i x3 hmd
              rw [hmd] at K1
              exact K1 (Nat.le_trans ha hc) (Nat.le_trans hb hs) (ih (pc + 3) lv _ h1 a b ha hb hr)
            · cases hr
        · cases hr
end
