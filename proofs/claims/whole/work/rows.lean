section
-- ===== PART A: goes FIRST, ahead of the names: the tables' words, and 'selects' of the private methods out of them =====
/-- a private method of a class that the tables say can be made, by its rows of tables_1 -/
def lw_okq (q : MethodName × Nat) : Prop := (q.1.cls ≠ "java/lang/invoke/MethodHandle" ∧ q.1.cls ≠ "java/lang/invoke/VarHandle") ∧ Cond.instantiable q.1.cls q.2 ∈ tables_1 ∧ Cond.privateMethod q.1 ∈ tables_1 ∧ Cond.instanceMethod q.1 ∈ tables_1
theorem lw_p0 : lw_okq (⟨"RiddleTrade$Exchange", "addSetting", "(III)V"⟩, 7) := ⟨⟨by decide +kernel, by decide +kernel⟩, List.mem_of_getElem? (i := 19) (by decide +kernel), List.mem_of_getElem? (i := 66) (by decide +kernel), List.mem_of_getElem? (i := 67) (by decide +kernel)⟩
theorem lw_p1 : lw_okq (⟨"RiddleTrade", "finishAct", "(I)I"⟩, 8) := ⟨⟨by decide +kernel, by decide +kernel⟩, List.mem_of_getElem? (i := 11) (by decide +kernel), List.mem_of_getElem? (i := 197) (by decide +kernel), List.mem_of_getElem? (i := 198) (by decide +kernel)⟩
theorem lw_p2 : lw_okq (⟨"RiddleTrade$History", "stateAt", "(I)LRiddleTrade$Exchange;"⟩, 3) := ⟨⟨by decide +kernel, by decide +kernel⟩, List.mem_of_getElem? (i := 92) (by decide +kernel), List.mem_of_getElem? (i := 205) (by decide +kernel), List.mem_of_getElem? (i := 206) (by decide +kernel)⟩
theorem lw_p3 : lw_okq (⟨"RiddleTrade$Exchange", "takeOne", "(I)Z"⟩, 7) := ⟨⟨by decide +kernel, by decide +kernel⟩, List.mem_of_getElem? (i := 19) (by decide +kernel), List.mem_of_getElem? (i := 283) (by decide +kernel), List.mem_of_getElem? (i := 284) (by decide +kernel)⟩
theorem lw_p4 : lw_okq (⟨"RiddleTrade$Exchange", "refuse", "(II)V"⟩, 7) := ⟨⟨by decide +kernel, by decide +kernel⟩, List.mem_of_getElem? (i := 19) (by decide +kernel), List.mem_of_getElem? (i := 302) (by decide +kernel), List.mem_of_getElem? (i := 303) (by decide +kernel)⟩
theorem lw_p5 : lw_okq (⟨"RiddleTrade$Exchange", "driftOn", "(II)V"⟩, 7) := ⟨⟨by decide +kernel, by decide +kernel⟩, List.mem_of_getElem? (i := 19) (by decide +kernel), List.mem_of_getElem? (i := 306) (by decide +kernel), List.mem_of_getElem? (i := 307) (by decide +kernel)⟩
theorem lw_p6 : lw_okq (⟨"RiddleTrade$Exchange", "doubt", "(I)V"⟩, 7) := ⟨⟨by decide +kernel, by decide +kernel⟩, List.mem_of_getElem? (i := 19) (by decide +kernel), List.mem_of_getElem? (i := 314) (by decide +kernel), List.mem_of_getElem? (i := 315) (by decide +kernel)⟩
theorem lw_p7 : lw_okq (⟨"RiddleTrade$Exchange", "pay", "(II)V"⟩, 7) := ⟨⟨by decide +kernel, by decide +kernel⟩, List.mem_of_getElem? (i := 19) (by decide +kernel), List.mem_of_getElem? (i := 318) (by decide +kernel), List.mem_of_getElem? (i := 319) (by decide +kernel)⟩
theorem lw_p8 : lw_okq (⟨"RiddleTrade$Exchange", "chargeFees", "()V"⟩, 7) := ⟨⟨by decide +kernel, by decide +kernel⟩, List.mem_of_getElem? (i := 19) (by decide +kernel), List.mem_of_getElem? (i := 322) (by decide +kernel), List.mem_of_getElem? (i := 323) (by decide +kernel)⟩
theorem lw_p9 : lw_okq (⟨"RiddleTrade$Offers", "readThing", "(I)V"⟩, 5) := ⟨⟨by decide +kernel, by decide +kernel⟩, List.mem_of_getElem? (i := 111) (by decide +kernel), List.mem_of_getElem? (i := 355) (by decide +kernel), List.mem_of_getElem? (i := 356) (by decide +kernel)⟩
theorem lw_p10 : lw_okq (⟨"RiddleTrade$Offers", "here", "()I"⟩, 5) := ⟨⟨by decide +kernel, by decide +kernel⟩, List.mem_of_getElem? (i := 111) (by decide +kernel), List.mem_of_getElem? (i := 359) (by decide +kernel), List.mem_of_getElem? (i := 360) (by decide +kernel)⟩
theorem lw_p11 : lw_okq (⟨"RiddleTrade$Offers", "readNumber", "(IIII)V"⟩, 5) := ⟨⟨by decide +kernel, by decide +kernel⟩, List.mem_of_getElem? (i := 111) (by decide +kernel), List.mem_of_getElem? (i := 364) (by decide +kernel), List.mem_of_getElem? (i := 365) (by decide +kernel)⟩
theorem lw_p12 : lw_okq (⟨"RiddleTrade$Offers", "digitHere", "()I"⟩, 5) := ⟨⟨by decide +kernel, by decide +kernel⟩, List.mem_of_getElem? (i := 111) (by decide +kernel), List.mem_of_getElem? (i := 368) (by decide +kernel), List.mem_of_getElem? (i := 369) (by decide +kernel)⟩
theorem lw_p13 : lw_okq (⟨"RiddleTrade$Offers", "expect", "(I)V"⟩, 5) := ⟨⟨by decide +kernel, by decide +kernel⟩, List.mem_of_getElem? (i := 111) (by decide +kernel), List.mem_of_getElem? (i := 372) (by decide +kernel), List.mem_of_getElem? (i := 373) (by decide +kernel)⟩
theorem lw_p14 : lw_okq (⟨"RiddleTrade", "doThing", "(I)I"⟩, 8) := ⟨⟨by decide +kernel, by decide +kernel⟩, List.mem_of_getElem? (i := 11) (by decide +kernel), List.mem_of_getElem? (i := 381) (by decide +kernel), List.mem_of_getElem? (i := 382) (by decide +kernel)⟩
theorem lw_p15 : lw_okq (⟨"RiddleTrade$Exchange", "tradersInDebt", "()I"⟩, 7) := ⟨⟨by decide +kernel, by decide +kernel⟩, List.mem_of_getElem? (i := 19) (by decide +kernel), List.mem_of_getElem? (i := 520) (by decide +kernel), List.mem_of_getElem? (i := 521) (by decide +kernel)⟩
def lw_privs_1 : List (MethodName × Nat) := [(⟨"RiddleTrade$Exchange", "addSetting", "(III)V"⟩, 7), (⟨"RiddleTrade", "finishAct", "(I)I"⟩, 8), (⟨"RiddleTrade$History", "stateAt", "(I)LRiddleTrade$Exchange;"⟩, 3), (⟨"RiddleTrade$Exchange", "takeOne", "(I)Z"⟩, 7), (⟨"RiddleTrade$Exchange", "refuse", "(II)V"⟩, 7), (⟨"RiddleTrade$Exchange", "driftOn", "(II)V"⟩, 7), (⟨"RiddleTrade$Exchange", "doubt", "(I)V"⟩, 7), (⟨"RiddleTrade$Exchange", "pay", "(II)V"⟩, 7), (⟨"RiddleTrade$Exchange", "chargeFees", "()V"⟩, 7), (⟨"RiddleTrade$Offers", "readThing", "(I)V"⟩, 5), (⟨"RiddleTrade$Offers", "here", "()I"⟩, 5), (⟨"RiddleTrade$Offers", "readNumber", "(IIII)V"⟩, 5), (⟨"RiddleTrade$Offers", "digitHere", "()I"⟩, 5), (⟨"RiddleTrade$Offers", "expect", "(I)V"⟩, 5), (⟨"RiddleTrade", "doThing", "(I)I"⟩, 8), (⟨"RiddleTrade$Exchange", "tradersInDebt", "()I"⟩, 7)]
theorem lw_r1 : ∀ q ∈ lw_privs_1, lw_okq q := List.forall_mem_cons.mpr ⟨lw_p0, List.forall_mem_cons.mpr ⟨lw_p1, List.forall_mem_cons.mpr ⟨lw_p2, List.forall_mem_cons.mpr ⟨lw_p3, List.forall_mem_cons.mpr ⟨lw_p4, List.forall_mem_cons.mpr ⟨lw_p5, List.forall_mem_cons.mpr ⟨lw_p6, List.forall_mem_cons.mpr ⟨lw_p7, List.forall_mem_cons.mpr ⟨lw_p8, List.forall_mem_cons.mpr ⟨lw_p9, List.forall_mem_cons.mpr ⟨lw_p10, List.forall_mem_cons.mpr ⟨lw_p11, List.forall_mem_cons.mpr ⟨lw_p12, List.forall_mem_cons.mpr ⟨lw_p13, List.forall_mem_cons.mpr ⟨lw_p14, List.forall_mem_cons.mpr ⟨lw_p15, fun _ h => absurd h List.not_mem_nil⟩⟩⟩⟩⟩⟩⟩⟩⟩⟩⟩⟩⟩⟩⟩⟩
theorem lw_p16 : lw_okq (⟨"RiddleTradeModel", "barAsk", "(III)I"⟩, 18) := ⟨⟨by decide +kernel, by decide +kernel⟩, List.mem_of_getElem? (i := 524) (by decide +kernel), List.mem_of_getElem? (i := 589) (by decide +kernel), List.mem_of_getElem? (i := 590) (by decide +kernel)⟩
theorem lw_p17 : lw_okq (⟨"RiddleTradeModel", "records", "()V"⟩, 18) := ⟨⟨by decide +kernel, by decide +kernel⟩, List.mem_of_getElem? (i := 524) (by decide +kernel), List.mem_of_getElem? (i := 599) (by decide +kernel), List.mem_of_getElem? (i := 600) (by decide +kernel)⟩
theorem lw_p18 : lw_okq (⟨"RiddleTradeModel", "asks", "(III)I"⟩, 18) := ⟨⟨by decide +kernel, by decide +kernel⟩, List.mem_of_getElem? (i := 524) (by decide +kernel), List.mem_of_getElem? (i := 603) (by decide +kernel), List.mem_of_getElem? (i := 604) (by decide +kernel)⟩
theorem lw_p19 : lw_okq (⟨"RiddleTradeModel", "isRiddle", "(I)Z"⟩, 18) := ⟨⟨by decide +kernel, by decide +kernel⟩, List.mem_of_getElem? (i := 524) (by decide +kernel), List.mem_of_getElem? (i := 614) (by decide +kernel), List.mem_of_getElem? (i := 615) (by decide +kernel)⟩
theorem lw_p20 : lw_okq (⟨"RiddleTradeModel", "waiting", "(I)I"⟩, 18) := ⟨⟨by decide +kernel, by decide +kernel⟩, List.mem_of_getElem? (i := 524) (by decide +kernel), List.mem_of_getElem? (i := 618) (by decide +kernel), List.mem_of_getElem? (i := 619) (by decide +kernel)⟩
theorem lw_p21 : lw_okq (⟨"RiddleTradeModel", "barDeliver", "(IIII)I"⟩, 18) := ⟨⟨by decide +kernel, by decide +kernel⟩, List.mem_of_getElem? (i := 524) (by decide +kernel), List.mem_of_getElem? (i := 629) (by decide +kernel), List.mem_of_getElem? (i := 630) (by decide +kernel)⟩
theorem lw_p22 : lw_okq (⟨"RiddleTradeModel", "delivers", "(IIII)I"⟩, 18) := ⟨⟨by decide +kernel, by decide +kernel⟩, List.mem_of_getElem? (i := 524) (by decide +kernel), List.mem_of_getElem? (i := 633) (by decide +kernel), List.mem_of_getElem? (i := 634) (by decide +kernel)⟩
theorem lw_p23 : lw_okq (⟨"RiddleTradeModel", "queues", "(I)V"⟩, 18) := ⟨⟨by decide +kernel, by decide +kernel⟩, List.mem_of_getElem? (i := 524) (by decide +kernel), List.mem_of_getElem? (i := 637) (by decide +kernel), List.mem_of_getElem? (i := 638) (by decide +kernel)⟩
theorem lw_p24 : lw_okq (⟨"RiddleTradeModel", "barPass", "(I)I"⟩, 18) := ⟨⟨by decide +kernel, by decide +kernel⟩, List.mem_of_getElem? (i := 524) (by decide +kernel), List.mem_of_getElem? (i := 656) (by decide +kernel), List.mem_of_getElem? (i := 657) (by decide +kernel)⟩
theorem lw_p25 : lw_okq (⟨"RiddleTradeModel", "passes", "(I)I"⟩, 18) := ⟨⟨by decide +kernel, by decide +kernel⟩, List.mem_of_getElem? (i := 524) (by decide +kernel), List.mem_of_getElem? (i := 660) (by decide +kernel), List.mem_of_getElem? (i := 661) (by decide +kernel)⟩
theorem lw_p26 : lw_okq (⟨"RiddleTradeModel", "inState", "(I)I"⟩, 18) := ⟨⟨by decide +kernel, by decide +kernel⟩, List.mem_of_getElem? (i := 524) (by decide +kernel), List.mem_of_getElem? (i := 664) (by decide +kernel), List.mem_of_getElem? (i := 665) (by decide +kernel)⟩
theorem lw_p27 : lw_okq (⟨"RiddleTradeModel", "round", "()V"⟩, 18) := ⟨⟨by decide +kernel, by decide +kernel⟩, List.mem_of_getElem? (i := 524) (by decide +kernel), List.mem_of_getElem? (i := 668) (by decide +kernel), List.mem_of_getElem? (i := 669) (by decide +kernel)⟩
theorem lw_p28 : lw_okq (⟨"RiddleTradeModel", "takes", "(I)V"⟩, 18) := ⟨⟨by decide +kernel, by decide +kernel⟩, List.mem_of_getElem? (i := 524) (by decide +kernel), List.mem_of_getElem? (i := 672) (by decide +kernel), List.mem_of_getElem? (i := 673) (by decide +kernel)⟩
theorem lw_p29 : lw_okq (⟨"RiddleTradeModel", "refuses", "(II)V"⟩, 18) := ⟨⟨by decide +kernel, by decide +kernel⟩, List.mem_of_getElem? (i := 524) (by decide +kernel), List.mem_of_getElem? (i := 676) (by decide +kernel), List.mem_of_getElem? (i := 677) (by decide +kernel)⟩
theorem lw_p30 : lw_okq (⟨"RiddleTradeModel", "tells", "(II)I"⟩, 18) := ⟨⟨by decide +kernel, by decide +kernel⟩, List.mem_of_getElem? (i := 524) (by decide +kernel), List.mem_of_getElem? (i := 680) (by decide +kernel), List.mem_of_getElem? (i := 681) (by decide +kernel)⟩
theorem lw_p31 : lw_okq (⟨"RiddleTradeModel", "drifts", "(I)V"⟩, 18) := ⟨⟨by decide +kernel, by decide +kernel⟩, List.mem_of_getElem? (i := 524) (by decide +kernel), List.mem_of_getElem? (i := 684) (by decide +kernel), List.mem_of_getElem? (i := 685) (by decide +kernel)⟩
def lw_privs_2 : List (MethodName × Nat) := [(⟨"RiddleTradeModel", "barAsk", "(III)I"⟩, 18), (⟨"RiddleTradeModel", "records", "()V"⟩, 18), (⟨"RiddleTradeModel", "asks", "(III)I"⟩, 18), (⟨"RiddleTradeModel", "isRiddle", "(I)Z"⟩, 18), (⟨"RiddleTradeModel", "waiting", "(I)I"⟩, 18), (⟨"RiddleTradeModel", "barDeliver", "(IIII)I"⟩, 18), (⟨"RiddleTradeModel", "delivers", "(IIII)I"⟩, 18), (⟨"RiddleTradeModel", "queues", "(I)V"⟩, 18), (⟨"RiddleTradeModel", "barPass", "(I)I"⟩, 18), (⟨"RiddleTradeModel", "passes", "(I)I"⟩, 18), (⟨"RiddleTradeModel", "inState", "(I)I"⟩, 18), (⟨"RiddleTradeModel", "round", "()V"⟩, 18), (⟨"RiddleTradeModel", "takes", "(I)V"⟩, 18), (⟨"RiddleTradeModel", "refuses", "(II)V"⟩, 18), (⟨"RiddleTradeModel", "tells", "(II)I"⟩, 18), (⟨"RiddleTradeModel", "drifts", "(I)V"⟩, 18)]
theorem lw_r2 : ∀ q ∈ lw_privs_2, lw_okq q := List.forall_mem_cons.mpr ⟨lw_p16, List.forall_mem_cons.mpr ⟨lw_p17, List.forall_mem_cons.mpr ⟨lw_p18, List.forall_mem_cons.mpr ⟨lw_p19, List.forall_mem_cons.mpr ⟨lw_p20, List.forall_mem_cons.mpr ⟨lw_p21, List.forall_mem_cons.mpr ⟨lw_p22, List.forall_mem_cons.mpr ⟨lw_p23, List.forall_mem_cons.mpr ⟨lw_p24, List.forall_mem_cons.mpr ⟨lw_p25, List.forall_mem_cons.mpr ⟨lw_p26, List.forall_mem_cons.mpr ⟨lw_p27, List.forall_mem_cons.mpr ⟨lw_p28, List.forall_mem_cons.mpr ⟨lw_p29, List.forall_mem_cons.mpr ⟨lw_p30, List.forall_mem_cons.mpr ⟨lw_p31, fun _ h => absurd h List.not_mem_nil⟩⟩⟩⟩⟩⟩⟩⟩⟩⟩⟩⟩⟩⟩⟩⟩
theorem lw_p32 : lw_okq (⟨"RiddleTradeModel", "payment", "(III)I"⟩, 18) := ⟨⟨by decide +kernel, by decide +kernel⟩, List.mem_of_getElem? (i := 524) (by decide +kernel), List.mem_of_getElem? (i := 688) (by decide +kernel), List.mem_of_getElem? (i := 689) (by decide +kernel)⟩
theorem lw_p33 : lw_okq (⟨"RiddleTradeModel", "canPay", "(II)Z"⟩, 18) := ⟨⟨by decide +kernel, by decide +kernel⟩, List.mem_of_getElem? (i := 524) (by decide +kernel), List.mem_of_getElem? (i := 692) (by decide +kernel), List.mem_of_getElem? (i := 693) (by decide +kernel)⟩
theorem lw_p34 : lw_okq (⟨"RiddleTradeModel", "things", "()I"⟩, 18) := ⟨⟨by decide +kernel, by decide +kernel⟩, List.mem_of_getElem? (i := 524) (by decide +kernel), List.mem_of_getElem? (i := 708) (by decide +kernel), List.mem_of_getElem? (i := 709) (by decide +kernel)⟩
theorem lw_p35 : lw_okq (⟨"RiddleTradeModel", "thing", "()V"⟩, 18) := ⟨⟨by decide +kernel, by decide +kernel⟩, List.mem_of_getElem? (i := 524) (by decide +kernel), List.mem_of_getElem? (i := 712) (by decide +kernel), List.mem_of_getElem? (i := 713) (by decide +kernel)⟩
theorem lw_p36 : lw_okq (⟨"RiddleTradeModel", "next", "()I"⟩, 18) := ⟨⟨by decide +kernel, by decide +kernel⟩, List.mem_of_getElem? (i := 524) (by decide +kernel), List.mem_of_getElem? (i := 716) (by decide +kernel), List.mem_of_getElem? (i := 717) (by decide +kernel)⟩
theorem lw_p37 : lw_okq (⟨"RiddleTradeModel", "number", "(II)I"⟩, 18) := ⟨⟨by decide +kernel, by decide +kernel⟩, List.mem_of_getElem? (i := 524) (by decide +kernel), List.mem_of_getElem? (i := 720) (by decide +kernel), List.mem_of_getElem? (i := 721) (by decide +kernel)⟩
theorem lw_p38 : lw_okq (⟨"RiddleTradeModel", "sign", "(I)V"⟩, 18) := ⟨⟨by decide +kernel, by decide +kernel⟩, List.mem_of_getElem? (i := 524) (by decide +kernel), List.mem_of_getElem? (i := 724) (by decide +kernel), List.mem_of_getElem? (i := 725) (by decide +kernel)⟩
theorem lw_p39 : lw_okq (⟨"RiddleTradeModel", "putAside", "()V"⟩, 18) := ⟨⟨by decide +kernel, by decide +kernel⟩, List.mem_of_getElem? (i := 524) (by decide +kernel), List.mem_of_getElem? (i := 728) (by decide +kernel), List.mem_of_getElem? (i := 729) (by decide +kernel)⟩
theorem lw_p40 : lw_okq (⟨"RiddleTradeModel", "does", "()I"⟩, 18) := ⟨⟨by decide +kernel, by decide +kernel⟩, List.mem_of_getElem? (i := 524) (by decide +kernel), List.mem_of_getElem? (i := 732) (by decide +kernel), List.mem_of_getElem? (i := 733) (by decide +kernel)⟩
theorem lw_p41 : lw_okq (⟨"RiddleTradeModel", "putBack", "()V"⟩, 18) := ⟨⟨by decide +kernel, by decide +kernel⟩, List.mem_of_getElem? (i := 524) (by decide +kernel), List.mem_of_getElem? (i := 736) (by decide +kernel), List.mem_of_getElem? (i := 737) (by decide +kernel)⟩
theorem lw_p42 : lw_okq (⟨"RiddleTradeModel", "riddlesOf", "(II)I"⟩, 18) := ⟨⟨by decide +kernel, by decide +kernel⟩, List.mem_of_getElem? (i := 524) (by decide +kernel), List.mem_of_getElem? (i := 760) (by decide +kernel), List.mem_of_getElem? (i := 761) (by decide +kernel)⟩
theorem lw_p43 : lw_okq (⟨"RiddleTradeModel", "answersOf", "(II)I"⟩, 18) := ⟨⟨by decide +kernel, by decide +kernel⟩, List.mem_of_getElem? (i := 524) (by decide +kernel), List.mem_of_getElem? (i := 764) (by decide +kernel), List.mem_of_getElem? (i := 765) (by decide +kernel)⟩
theorem lw_p44 : lw_okq (⟨"RiddleTradeModel", "answersTo", "(I)I"⟩, 18) := ⟨⟨by decide +kernel, by decide +kernel⟩, List.mem_of_getElem? (i := 524) (by decide +kernel), List.mem_of_getElem? (i := 772) (by decide +kernel), List.mem_of_getElem? (i := 773) (by decide +kernel)⟩
theorem lw_p45 : lw_okq (⟨"RiddleTradeModel", "isAnswer", "(I)Z"⟩, 18) := ⟨⟨by decide +kernel, by decide +kernel⟩, List.mem_of_getElem? (i := 524) (by decide +kernel), List.mem_of_getElem? (i := 780) (by decide +kernel), List.mem_of_getElem? (i := 781) (by decide +kernel)⟩
theorem lw_p46 : lw_okq (⟨"RiddleTradeModel", "place", "(I)I"⟩, 18) := ⟨⟨by decide +kernel, by decide +kernel⟩, List.mem_of_getElem? (i := 524) (by decide +kernel), List.mem_of_getElem? (i := 784) (by decide +kernel), List.mem_of_getElem? (i := 785) (by decide +kernel)⟩
theorem lw_p47 : lw_okq (⟨"RiddleTradeModel", "open", "()I"⟩, 18) := ⟨⟨by decide +kernel, by decide +kernel⟩, List.mem_of_getElem? (i := 524) (by decide +kernel), List.mem_of_getElem? (i := 821) (by decide +kernel), List.mem_of_getElem? (i := 822) (by decide +kernel)⟩
def lw_privs_3 : List (MethodName × Nat) := [(⟨"RiddleTradeModel", "payment", "(III)I"⟩, 18), (⟨"RiddleTradeModel", "canPay", "(II)Z"⟩, 18), (⟨"RiddleTradeModel", "things", "()I"⟩, 18), (⟨"RiddleTradeModel", "thing", "()V"⟩, 18), (⟨"RiddleTradeModel", "next", "()I"⟩, 18), (⟨"RiddleTradeModel", "number", "(II)I"⟩, 18), (⟨"RiddleTradeModel", "sign", "(I)V"⟩, 18), (⟨"RiddleTradeModel", "putAside", "()V"⟩, 18), (⟨"RiddleTradeModel", "does", "()I"⟩, 18), (⟨"RiddleTradeModel", "putBack", "()V"⟩, 18), (⟨"RiddleTradeModel", "riddlesOf", "(II)I"⟩, 18), (⟨"RiddleTradeModel", "answersOf", "(II)I"⟩, 18), (⟨"RiddleTradeModel", "answersTo", "(I)I"⟩, 18), (⟨"RiddleTradeModel", "isAnswer", "(I)Z"⟩, 18), (⟨"RiddleTradeModel", "place", "(I)I"⟩, 18), (⟨"RiddleTradeModel", "open", "()I"⟩, 18)]
theorem lw_r3 : ∀ q ∈ lw_privs_3, lw_okq q := List.forall_mem_cons.mpr ⟨lw_p32, List.forall_mem_cons.mpr ⟨lw_p33, List.forall_mem_cons.mpr ⟨lw_p34, List.forall_mem_cons.mpr ⟨lw_p35, List.forall_mem_cons.mpr ⟨lw_p36, List.forall_mem_cons.mpr ⟨lw_p37, List.forall_mem_cons.mpr ⟨lw_p38, List.forall_mem_cons.mpr ⟨lw_p39, List.forall_mem_cons.mpr ⟨lw_p40, List.forall_mem_cons.mpr ⟨lw_p41, List.forall_mem_cons.mpr ⟨lw_p42, List.forall_mem_cons.mpr ⟨lw_p43, List.forall_mem_cons.mpr ⟨lw_p44, List.forall_mem_cons.mpr ⟨lw_p45, List.forall_mem_cons.mpr ⟨lw_p46, List.forall_mem_cons.mpr ⟨lw_p47, fun _ h => absurd h List.not_mem_nil⟩⟩⟩⟩⟩⟩⟩⟩⟩⟩⟩⟩⟩⟩⟩⟩
theorem lw_p48 : lw_okq (⟨"RiddleTradeModel", "debtors", "()I"⟩, 18) := ⟨⟨by decide +kernel, by decide +kernel⟩, List.mem_of_getElem? (i := 524) (by decide +kernel), List.mem_of_getElem? (i := 825) (by decide +kernel), List.mem_of_getElem? (i := 826) (by decide +kernel)⟩
def lw_privs_4 : List (MethodName × Nat) := [(⟨"RiddleTradeModel", "debtors", "()I"⟩, 18)]
theorem lw_r4 : ∀ q ∈ lw_privs_4, lw_okq q := List.forall_mem_cons.mpr ⟨lw_p48, fun _ h => absurd h List.not_mem_nil⟩
def lw_privs : List (MethodName × Nat) := lw_privs_1 ++ (lw_privs_2 ++ (lw_privs_3 ++ (lw_privs_4)))
def lw_tbl : List Cond := k2_sels lw_privs ++ tables_1
theorem lw_privs_ok : ∀ q ∈ lw_privs, lw_okq q := by
  show ∀ q ∈ lw_privs_1 ++ (lw_privs_2 ++ (lw_privs_3 ++ (lw_privs_4))), lw_okq q
  exact List.forall_mem_append.mpr ⟨lw_r1, List.forall_mem_append.mpr ⟨lw_r2, List.forall_mem_append.mpr ⟨lw_r3, lw_r4⟩⟩⟩
end
section
/-! ===== BEGIN words of one list among another's, by their places ===== -/
theorem goodIn_r {big : List Cond} (ws : List Cond) (ps : List Nat) (hp : ws = ps.filterMap (fun i => big[i]?)) (h : ws.all goodWord = true) : GoodIn big ws := by
  intro w hw
  have h1 := List.all_eq_true.mp h w hw
  rw [hp] at hw
  obtain ⟨i, -, hi⟩ := List.mem_filterMap.mp hw
  have hm : w ∈ big := by first | exact List.mem_of_getElem? hi | exact List.getElem?_mem hi
  exact ⟨hm, good_of_word h1⟩
theorem goodIn_app {big a b : List Cond} (ha : GoodIn big a) (hb : GoodIn big b) : GoodIn big (a ++ b) := fun w h => (List.mem_append.mp h).elim (ha w) (hb w)
theorem goodIn_ca {big a b : List Cond} {c : Cond} (ha : GoodIn big (c :: a)) (hb : GoodIn big b) : GoodIn big (c :: (a ++ b)) := fun w h => (List.mem_cons.mp h).elim (fun e => ha w (List.mem_cons.mpr (Or.inl e))) (fun h => (List.mem_append.mp h).elim (fun h => ha w (List.mem_cons.mpr (Or.inr h))) (hb w))
theorem goodIn_sub {big ws : List Cond} (hm : ∀ w ∈ ws, w ∈ big) (h : ws.all goodWord = true) : GoodIn big ws := fun w hw => ⟨hm w hw, good_of_word (List.all_eq_true.mp h w hw)⟩

def RX0 : String := "RiddleTrade$Exchange"
def TX0 : u_T := fun k => match k with
  | 0 => ("RiddleTrade$Exchange", "traders", "LRiddleTrade$Table;", true)
  | 1 => ("RiddleTrade$Exchange", "riddles", "LRiddleTrade$Table;", true)
  | 2 => ("RiddleTrade$Exchange", "answers", "LRiddleTrade$Table;", true)
  | 3 => ("RiddleTrade$Exchange", "scales", "LRiddleTrade$Table;", true)
  | 4 => ("RiddleTrade$Exchange", "settings", "LRiddleTrade$Table;", true)
  | 5 => ("RiddleTrade$Exchange", "row", "LRiddleTrade$Row;", true)
  | _ => ("RiddleTrade$Exchange", "round", "I", false)
def tyX0 : Nat → FieldType := fun k => match k with
  | 0 => .object "RiddleTrade$Table"
  | 1 => .object "RiddleTrade$Table"
  | 2 => .object "RiddleTrade$Table"
  | 3 => .object "RiddleTrade$Table"
  | 4 => .object "RiddleTrade$Table"
  | 5 => .object "RiddleTrade$Row"
  | _ => .int
abbrev wsX00 : List Cond := u_ws RX0 TX0 7
theorem nmX0 : ∀ a, a < 7 → ∀ b, b < 7 → a ≠ b → (TX0 a).2.1 ≠ (TX0 b).2.1 := by decide +kernel
theorem tyX0_ok : ∀ k, k < 7 → parseFieldDescriptor (TX0 k).2.2.1 = some (tyX0 k) := by decide +kernel
abbrev cX0_init : ByteArray := prog_2_method_1_code
def yX0_init : MethodName := ⟨RX0, "<init>", "()V"⟩
abbrev cX0_addSetting : ByteArray := prog_2_method_2_code
def yX0_addSetting : MethodName := ⟨RX0, "addSetting", "(III)V"⟩
abbrev cX0_copyFrom : ByteArray := prog_2_method_3_code
def yX0_copyFrom : MethodName := ⟨RX0, "copyFrom", "(LRiddleTrade$Exchange;)V"⟩
abbrev cX0_addRiddle : ByteArray := prog_2_method_4_code
def yX0_addRiddle : MethodName := ⟨RX0, "addRiddle", "(III)I"⟩
abbrev cX0_closeRiddle : ByteArray := prog_2_method_5_code
def yX0_closeRiddle : MethodName := ⟨RX0, "closeRiddle", "(I)I"⟩
abbrev cX0_addAnswer : ByteArray := prog_2_method_6_code
def yX0_addAnswer : MethodName := ⟨RX0, "addAnswer", "(IIII)I"⟩
abbrev cX0_setScalesRight : ByteArray := prog_2_method_7_code
def yX0_setScalesRight : MethodName := ⟨RX0, "setScalesRight", "()I"⟩
abbrev cX0_changeSetting : ByteArray := prog_2_method_8_code
def yX0_changeSetting : MethodName := ⟨RX0, "changeSetting", "(II)I"⟩
abbrev cX0_playRounds : ByteArray := prog_2_method_9_code
def yX0_playRounds : MethodName := ⟨RX0, "playRounds", "(I)I"⟩
abbrev cX0_playRound : ByteArray := prog_2_method_10_code
def yX0_playRound : MethodName := ⟨RX0, "playRound", "()I"⟩
abbrev cX0_takeOne : ByteArray := prog_2_method_11_code
def yX0_takeOne : MethodName := ⟨RX0, "takeOne", "(I)Z"⟩
abbrev cX0_refuse : ByteArray := prog_2_method_12_code
def yX0_refuse : MethodName := ⟨RX0, "refuse", "(II)V"⟩
abbrev cX0_doubt : ByteArray := prog_2_method_13_code
def yX0_doubt : MethodName := ⟨RX0, "doubt", "(I)V"⟩
abbrev cX0_pay : ByteArray := prog_2_method_14_code
def yX0_pay : MethodName := ⟨RX0, "pay", "(II)V"⟩
abbrev cX0_driftOn : ByteArray := prog_2_method_15_code
def yX0_driftOn : MethodName := ⟨RX0, "driftOn", "(II)V"⟩
abbrev cX0_chargeFees : ByteArray := prog_2_method_16_code
def yX0_chargeFees : MethodName := ⟨RX0, "chargeFees", "()V"⟩
abbrev cX0_told : ByteArray := prog_2_method_17_code
def yX0_told : MethodName := ⟨RX0, "told", "(II)I"⟩
abbrev cX0_paymentFor : ByteArray := prog_2_method_18_code
def yX0_paymentFor : MethodName := ⟨RX0, "paymentFor", "(I)I"⟩
abbrev cX0_hindrance : ByteArray := prog_2_method_19_code
def yX0_hindrance : MethodName := ⟨RX0, "hindrance", "(II)I"⟩
abbrev cX0_errorIfNotWaiting : ByteArray := prog_2_method_20_code
def yX0_errorIfNotWaiting : MethodName := ⟨RX0, "errorIfNotWaiting", "(I)I"⟩
abbrev cX0_waiting : ByteArray := prog_2_method_21_code
def yX0_waiting : MethodName := ⟨RX0, "waiting", "()I"⟩
abbrev cX0_waitingAt : ByteArray := prog_2_method_22_code
def yX0_waitingAt : MethodName := ⟨RX0, "waitingAt", "(I)I"⟩
abbrev cX0_tellTrader : ByteArray := prog_2_method_23_code
def yX0_tellTrader : MethodName := ⟨RX0, "tellTrader", "(II)I"⟩
abbrev cX0_tellRiddle : ByteArray := prog_2_method_24_code
def yX0_tellRiddle : MethodName := ⟨RX0, "tellRiddle", "(II)I"⟩
abbrev cX0_tellAnswer : ByteArray := prog_2_method_25_code
def yX0_tellAnswer : MethodName := ⟨RX0, "tellAnswer", "(II)I"⟩
abbrev cX0_richestTrader : ByteArray := prog_2_method_26_code
def yX0_richestTrader : MethodName := ⟨RX0, "richestTrader", "()I"⟩
abbrev cX0_tellAccount : ByteArray := prog_2_method_27_code
def yX0_tellAccount : MethodName := ⟨RX0, "tellAccount", "(I)I"⟩
abbrev cX0_tellCount : ByteArray := prog_2_method_28_code
def yX0_tellCount : MethodName := ⟨RX0, "tellCount", "(I)I"⟩
abbrev cX0_tradersInDebt : ByteArray := prog_2_method_29_code
def yX0_tradersInDebt : MethodName := ⟨RX0, "tradersInDebt", "()I"⟩
def RX1 : String := "RiddleTrade$History"
def TX1 : u_T := fun k => match k with
  | 0 => ("RiddleTrade$History", "states", "[LRiddleTrade$Exchange;", true)
  | 1 => ("RiddleTrade$History", "oldest", "I", false)
  | _ => ("RiddleTrade$History", "size", "I", false)
def tyX1 : Nat → FieldType := fun k => match k with
  | 0 => .array (.object "RiddleTrade$Exchange")
  | 1 => .int
  | _ => .int
abbrev wsX10 : List Cond := u_ws RX1 TX1 3
theorem nmX1 : ∀ a, a < 3 → ∀ b, b < 3 → a ≠ b → (TX1 a).2.1 ≠ (TX1 b).2.1 := by decide +kernel
theorem tyX1_ok : ∀ k, k < 3 → parseFieldDescriptor (TX1 k).2.2.1 = some (tyX1 k) := by decide +kernel
abbrev cX1_init : ByteArray := prog_3_method_1_code
def yX1_init : MethodName := ⟨RX1, "<init>", "()V"⟩
abbrev cX1_size : ByteArray := prog_3_method_2_code
def yX1_size : MethodName := ⟨RX1, "size", "()I"⟩
abbrev cX1_record : ByteArray := prog_3_method_3_code
def yX1_record : MethodName := ⟨RX1, "record", "(LRiddleTrade$Exchange;)V"⟩
abbrev cX1_takeBackInto : ByteArray := prog_3_method_4_code
def yX1_takeBackInto : MethodName := ⟨RX1, "takeBackInto", "(LRiddleTrade$Exchange;)I"⟩
abbrev cX1_stateAt : ByteArray := prog_3_method_5_code
def yX1_stateAt : MethodName := ⟨RX1, "stateAt", "(I)LRiddleTrade$Exchange;"⟩
def RX2 : String := "RiddleTrade$Offers"
def TX2 : u_T := fun k => match k with
  | 0 => ("RiddleTrade$Offers", "text", "[C", true)
  | 1 => ("RiddleTrade$Offers", "things", "LRiddleTrade$Table;", true)
  | 2 => ("RiddleTrade$Offers", "length", "I", false)
  | 3 => ("RiddleTrade$Offers", "position", "I", false)
  | _ => ("RiddleTrade$Offers", "faulty", "Z", false)
def tyX2 : Nat → FieldType := fun k => match k with
  | 0 => .array .char
  | 1 => .object "RiddleTrade$Table"
  | 2 => .int
  | 3 => .int
  | _ => .boolean
abbrev wsX20 : List Cond := u_ws RX2 TX2 5
theorem nmX2 : ∀ a, a < 5 → ∀ b, b < 5 → a ≠ b → (TX2 a).2.1 ≠ (TX2 b).2.1 := by decide +kernel
theorem tyX2_ok : ∀ k, k < 5 → parseFieldDescriptor (TX2 k).2.2.1 = some (tyX2 k) := by decide +kernel
abbrev cX2_init : ByteArray := prog_4_method_1_code
def yX2_init : MethodName := ⟨RX2, "<init>", "()V"⟩
abbrev cX2_textLength : ByteArray := prog_4_method_2_code
def yX2_textLength : MethodName := ⟨RX2, "textLength", "()I"⟩
abbrev cX2_addCharacter : ByteArray := prog_4_method_3_code
def yX2_addCharacter : MethodName := ⟨RX2, "addCharacter", "(C)I"⟩
abbrev cX2_emptyText : ByteArray := prog_4_method_4_code
def yX2_emptyText : MethodName := ⟨RX2, "emptyText", "()I"⟩
abbrev cX2_thingCount : ByteArray := prog_4_method_5_code
def yX2_thingCount : MethodName := ⟨RX2, "thingCount", "()I"⟩
abbrev cX2_numberOf : ByteArray := prog_4_method_6_code
def yX2_numberOf : MethodName := ⟨RX2, "numberOf", "(II)I"⟩
abbrev cX2_read : ByteArray := prog_4_method_7_code
def yX2_read : MethodName := ⟨RX2, "read", "()I"⟩
abbrev cX2_readThing : ByteArray := prog_4_method_8_code
def yX2_readThing : MethodName := ⟨RX2, "readThing", "(I)V"⟩
abbrev cX2_readNumber : ByteArray := prog_4_method_9_code
def yX2_readNumber : MethodName := ⟨RX2, "readNumber", "(IIII)V"⟩
abbrev cX2_expect : ByteArray := prog_4_method_10_code
def yX2_expect : MethodName := ⟨RX2, "expect", "(I)V"⟩
abbrev cX2_digitHere : ByteArray := prog_4_method_11_code
def yX2_digitHere : MethodName := ⟨RX2, "digitHere", "()I"⟩
abbrev cX2_here : ByteArray := prog_4_method_12_code
def yX2_here : MethodName := ⟨RX2, "here", "()I"⟩
def RX3 : String := "RiddleTrade$Row"
def TX3 : u_T := fun k => match k with
  | 0 => ("RiddleTrade$Row", "ring", "[I", true)
  | 1 => ("RiddleTrade$Row", "head", "I", false)
  | _ => ("RiddleTrade$Row", "length", "I", false)
def tyX3 : Nat → FieldType := fun k => match k with
  | 0 => .array .int
  | 1 => .int
  | _ => .int
abbrev wsX30 : List Cond := u_ws RX3 TX3 3
theorem nmX3 : ∀ a, a < 3 → ∀ b, b < 3 → a ≠ b → (TX3 a).2.1 ≠ (TX3 b).2.1 := by decide +kernel
theorem tyX3_ok : ∀ k, k < 3 → parseFieldDescriptor (TX3 k).2.2.1 = some (tyX3 k) := by decide +kernel
abbrev cX3_init : ByteArray := prog_5_method_1_code
def yX3_init : MethodName := ⟨RX3, "<init>", "()V"⟩
abbrev cX3_length : ByteArray := prog_5_method_2_code
def yX3_length : MethodName := ⟨RX3, "length", "()I"⟩
abbrev cX3_at : ByteArray := prog_5_method_3_code
def yX3_at : MethodName := ⟨RX3, "at", "(I)I"⟩
abbrev cX3_placeOf : ByteArray := prog_5_method_4_code
def yX3_placeOf : MethodName := ⟨RX3, "placeOf", "(I)I"⟩
abbrev cX3_addLast : ByteArray := prog_5_method_5_code
def yX3_addLast : MethodName := ⟨RX3, "addLast", "(I)V"⟩
abbrev cX3_takeFirst : ByteArray := prog_5_method_6_code
def yX3_takeFirst : MethodName := ⟨RX3, "takeFirst", "()I"⟩
abbrev cX3_copyFrom : ByteArray := prog_5_method_7_code
def yX3_copyFrom : MethodName := ⟨RX3, "copyFrom", "(LRiddleTrade$Row;)V"⟩
def RX4 : String := "RiddleTrade$Table"
def TX4 : u_T := fun k => match k with
  | 0 => ("RiddleTrade$Table", "cells", "[I", true)
  | 1 => ("RiddleTrade$Table", "columns", "I", true)
  | _ => ("RiddleTrade$Table", "rows", "I", false)
def tyX4 : Nat → FieldType := fun k => match k with
  | 0 => .array .int
  | 1 => .int
  | _ => .int
abbrev wsX40 : List Cond := u_ws RX4 TX4 3
theorem nmX4 : ∀ a, a < 3 → ∀ b, b < 3 → a ≠ b → (TX4 a).2.1 ≠ (TX4 b).2.1 := by decide +kernel
theorem tyX4_ok : ∀ k, k < 3 → parseFieldDescriptor (TX4 k).2.2.1 = some (tyX4 k) := by decide +kernel
abbrev cX4_init : ByteArray := prog_6_method_1_code
def yX4_init : MethodName := ⟨RX4, "<init>", "([II)V"⟩
abbrev cX4_rows : ByteArray := prog_6_method_2_code
def yX4_rows : MethodName := ⟨RX4, "rows", "()I"⟩
abbrev cX4_has : ByteArray := prog_6_method_3_code
def yX4_has : MethodName := ⟨RX4, "has", "(I)Z"⟩
abbrev cX4_addRow : ByteArray := prog_6_method_4_code
def yX4_addRow : MethodName := ⟨RX4, "addRow", "()I"⟩
abbrev cX4_dropRows : ByteArray := prog_6_method_5_code
def yX4_dropRows : MethodName := ⟨RX4, "dropRows", "()V"⟩
abbrev cX4_get : ByteArray := prog_6_method_6_code
def yX4_get : MethodName := ⟨RX4, "get", "(II)I"⟩
abbrev cX4_put : ByteArray := prog_6_method_7_code
def yX4_put : MethodName := ⟨RX4, "put", "(III)V"⟩
abbrev cX4_increase : ByteArray := prog_6_method_8_code
def yX4_increase : MethodName := ⟨RX4, "increase", "(III)V"⟩
abbrev cX4_countOf : ByteArray := prog_6_method_9_code
def yX4_countOf : MethodName := ⟨RX4, "countOf", "(II)I"⟩
abbrev cX4_countOfBoth : ByteArray := prog_6_method_10_code
def yX4_countOfBoth : MethodName := ⟨RX4, "countOfBoth", "(IIII)I"⟩
abbrev cX4_rowOfBoth : ByteArray := prog_6_method_11_code
def yX4_rowOfBoth : MethodName := ⟨RX4, "rowOfBoth", "(IIII)I"⟩
abbrev cX4_sumOf : ByteArray := prog_6_method_12_code
def yX4_sumOf : MethodName := ⟨RX4, "sumOf", "(I)I"⟩
abbrev cX4_copyFrom : ByteArray := prog_6_method_13_code
def yX4_copyFrom : MethodName := ⟨RX4, "copyFrom", "(LRiddleTrade$Table;)V"⟩
def RX5 : String := "RiddleTrade"
def TX5 : u_T := fun k => match k with
  | 0 => ("RiddleTrade", "now", "LRiddleTrade$Exchange;", true)
  | 1 => ("RiddleTrade", "trial", "LRiddleTrade$Exchange;", true)
  | 2 => ("RiddleTrade", "snapshot", "LRiddleTrade$Exchange;", true)
  | 3 => ("RiddleTrade", "history", "LRiddleTrade$History;", true)
  | 4 => ("RiddleTrade", "offers", "LRiddleTrade$Offers;", true)
  | 5 => ("RiddleTrade", "hasSnapshot", "Z", false)
  | 6 => ("RiddleTrade", "stoppedNumber", "I", false)
  | _ => ("RiddleTrade", "stoppedError", "I", false)
def tyX5 : Nat → FieldType := fun k => match k with
  | 0 => .object "RiddleTrade$Exchange"
  | 1 => .object "RiddleTrade$Exchange"
  | 2 => .object "RiddleTrade$Exchange"
  | 3 => .object "RiddleTrade$History"
  | 4 => .object "RiddleTrade$Offers"
  | 5 => .boolean
  | 6 => .int
  | _ => .int
abbrev wsX50 : List Cond := u_ws RX5 TX5 8
theorem nmX5 : ∀ a, a < 8 → ∀ b, b < 8 → a ≠ b → (TX5 a).2.1 ≠ (TX5 b).2.1 := by decide +kernel
theorem tyX5_ok : ∀ k, k < 8 → parseFieldDescriptor (TX5 k).2.2.1 = some (tyX5 k) := by decide +kernel
abbrev cX5_init : ByteArray := prog_1_method_1_code
def yX5_init : MethodName := ⟨RX5, "<init>", "()V"⟩
abbrev cX5_ask : ByteArray := prog_1_method_2_code
def yX5_ask : MethodName := ⟨RX5, "ask", "(III)I"⟩
abbrev cX5_withdraw : ByteArray := prog_1_method_3_code
def yX5_withdraw : MethodName := ⟨RX5, "withdraw", "(I)I"⟩
abbrev cX5_deliver : ByteArray := prog_1_method_4_code
def yX5_deliver : MethodName := ⟨RX5, "deliver", "(IIII)I"⟩
abbrev cX5_adjust : ByteArray := prog_1_method_5_code
def yX5_adjust : MethodName := ⟨RX5, "adjust", "()I"⟩
abbrev cX5_set : ByteArray := prog_1_method_6_code
def yX5_set : MethodName := ⟨RX5, "set", "(II)I"⟩
abbrev cX5_pass : ByteArray := prog_1_method_7_code
def yX5_pass : MethodName := ⟨RX5, "pass", "(I)I"⟩
abbrev cX5_type : ByteArray := prog_1_method_8_code
def yX5_type : MethodName := ⟨RX5, "type", "(C)I"⟩
abbrev cX5_clearText : ByteArray := prog_1_method_9_code
def yX5_clearText : MethodName := ⟨RX5, "clearText", "()I"⟩
abbrev cX5_perform : ByteArray := prog_1_method_10_code
def yX5_perform : MethodName := ⟨RX5, "perform", "()I"⟩
abbrev cX5_stopped : ByteArray := prog_1_method_11_code
def yX5_stopped : MethodName := ⟨RX5, "stopped", "(I)I"⟩
abbrev cX5_undo : ByteArray := prog_1_method_12_code
def yX5_undo : MethodName := ⟨RX5, "undo", "()I"⟩
abbrev cX5_keep : ByteArray := prog_1_method_13_code
def yX5_keep : MethodName := ⟨RX5, "keep", "()I"⟩
abbrev cX5_restore : ByteArray := prog_1_method_14_code
def yX5_restore : MethodName := ⟨RX5, "restore", "()I"⟩
abbrev cX5_trader : ByteArray := prog_1_method_15_code
def yX5_trader : MethodName := ⟨RX5, "trader", "(II)I"⟩
abbrev cX5_riddle : ByteArray := prog_1_method_16_code
def yX5_riddle : MethodName := ⟨RX5, "riddle", "(II)I"⟩
abbrev cX5_answer : ByteArray := prog_1_method_17_code
def yX5_answer : MethodName := ⟨RX5, "answer", "(II)I"⟩
abbrev cX5_waits : ByteArray := prog_1_method_18_code
def yX5_waits : MethodName := ⟨RX5, "waits", "(I)I"⟩
abbrev cX5_weigh : ByteArray := prog_1_method_19_code
def yX5_weigh : MethodName := ⟨RX5, "weigh", "(II)I"⟩
abbrev cX5_reason : ByteArray := prog_1_method_20_code
def yX5_reason : MethodName := ⟨RX5, "reason", "(I)I"⟩
abbrev cX5_settledIn : ByteArray := prog_1_method_21_code
def yX5_settledIn : MethodName := ⟨RX5, "settledIn", "(I)I"⟩
abbrev cX5_ifRounds : ByteArray := prog_1_method_22_code
def yX5_ifRounds : MethodName := ⟨RX5, "ifRounds", "(IZ)I"⟩
abbrev cX5_richest : ByteArray := prog_1_method_23_code
def yX5_richest : MethodName := ⟨RX5, "richest", "()I"⟩
abbrev cX5_account : ByteArray := prog_1_method_24_code
def yX5_account : MethodName := ⟨RX5, "account", "(I)I"⟩
abbrev cX5_count : ByteArray := prog_1_method_25_code
def yX5_count : MethodName := ⟨RX5, "count", "(I)I"⟩
abbrev cX5_finishAct : ByteArray := prog_1_method_26_code
def yX5_finishAct : MethodName := ⟨RX5, "finishAct", "(I)I"⟩
abbrev cX5_doThing : ByteArray := prog_1_method_27_code
def yX5_doThing : MethodName := ⟨RX5, "doThing", "(I)I"⟩
def RX6 : String := "RiddleTradeModel"
def TX6 : u_T := fun k => match k with
  | 0 => ("RiddleTradeModel", "s", "[I", true)
  | 1 => ("RiddleTradeModel", "aside", "[I", true)
  | 2 => ("RiddleTradeModel", "past", "[I", true)
  | 3 => ("RiddleTradeModel", "pasts", "I", false)
  | 4 => ("RiddleTradeModel", "snapshot", "[I", true)
  | 5 => ("RiddleTradeModel", "isKept", "Z", false)
  | 6 => ("RiddleTradeModel", "text", "[C", true)
  | 7 => ("RiddleTradeModel", "length", "I", false)
  | 8 => ("RiddleTradeModel", "hasStop", "Z", false)
  | 9 => ("RiddleTradeModel", "stopAt", "I", false)
  | 10 => ("RiddleTradeModel", "stopWhy", "I", false)
  | 11 => ("RiddleTradeModel", "spot", "I", false)
  | 12 => ("RiddleTradeModel", "isWrong", "Z", false)
  | 13 => ("RiddleTradeModel", "kind", "I", false)
  | 14 => ("RiddleTradeModel", "first", "I", false)
  | 15 => ("RiddleTradeModel", "second", "I", false)
  | 16 => ("RiddleTradeModel", "third", "I", false)
  | _ => ("RiddleTradeModel", "fourth", "I", false)
def tyX6 : Nat → FieldType := fun k => match k with
  | 0 => .array .int
  | 1 => .array .int
  | 2 => .array .int
  | 3 => .int
  | 4 => .array .int
  | 5 => .boolean
  | 6 => .array .char
  | 7 => .int
  | 8 => .boolean
  | 9 => .int
  | 10 => .int
  | 11 => .int
  | 12 => .boolean
  | 13 => .int
  | 14 => .int
  | 15 => .int
  | 16 => .int
  | _ => .int
abbrev wsX60 : List Cond := u_ws RX6 TX6 18
theorem nmX6 : ∀ a, a < 18 → ∀ b, b < 18 → a ≠ b → (TX6 a).2.1 ≠ (TX6 b).2.1 := by decide +kernel
theorem tyX6_ok : ∀ k, k < 18 → parseFieldDescriptor (TX6 k).2.2.1 = some (tyX6 k) := by decide +kernel
abbrev cX6_init : ByteArray := prog_8_method_1_code
def yX6_init : MethodName := ⟨RX6, "<init>", "()V"⟩
abbrev cX6_in : ByteArray := prog_8_method_3_code
def yX6_in : MethodName := ⟨RX6, "in", "(III)Z"⟩
abbrev cX6_isTrader : ByteArray := prog_8_method_4_code
def yX6_isTrader : MethodName := ⟨RX6, "isTrader", "(I)Z"⟩
abbrev cX6_isRiddle : ByteArray := prog_8_method_5_code
def yX6_isRiddle : MethodName := ⟨RX6, "isRiddle", "(I)Z"⟩
abbrev cX6_isAnswer : ByteArray := prog_8_method_6_code
def yX6_isAnswer : MethodName := ⟨RX6, "isAnswer", "(I)Z"⟩
abbrev cX6_ofR : ByteArray := prog_8_method_7_code
def yX6_ofR : MethodName := ⟨RX6, "ofR", "(II)I"⟩
abbrev cX6_ofA : ByteArray := prog_8_method_8_code
def yX6_ofA : MethodName := ⟨RX6, "ofA", "(II)I"⟩
abbrev cX6_records : ByteArray := prog_8_method_9_code
def yX6_records : MethodName := ⟨RX6, "records", "()V"⟩
abbrev cX6_putAside : ByteArray := prog_8_method_10_code
def yX6_putAside : MethodName := ⟨RX6, "putAside", "()V"⟩
abbrev cX6_putBack : ByteArray := prog_8_method_11_code
def yX6_putBack : MethodName := ⟨RX6, "putBack", "()V"⟩
abbrev cX6_barAsk : ByteArray := prog_8_method_12_code
def yX6_barAsk : MethodName := ⟨RX6, "barAsk", "(III)I"⟩
abbrev cX6_asks : ByteArray := prog_8_method_13_code
def yX6_asks : MethodName := ⟨RX6, "asks", "(III)I"⟩
abbrev cX6_ask : ByteArray := prog_8_method_14_code
def yX6_ask : MethodName := ⟨RX6, "ask", "(III)I"⟩
abbrev cX6_waiting : ByteArray := prog_8_method_15_code
def yX6_waiting : MethodName := ⟨RX6, "waiting", "(I)I"⟩
abbrev cX6_withdraw : ByteArray := prog_8_method_16_code
def yX6_withdraw : MethodName := ⟨RX6, "withdraw", "(I)I"⟩
abbrev cX6_barDeliver : ByteArray := prog_8_method_17_code
def yX6_barDeliver : MethodName := ⟨RX6, "barDeliver", "(IIII)I"⟩
abbrev cX6_queues : ByteArray := prog_8_method_18_code
def yX6_queues : MethodName := ⟨RX6, "queues", "(I)V"⟩
abbrev cX6_delivers : ByteArray := prog_8_method_19_code
def yX6_delivers : MethodName := ⟨RX6, "delivers", "(IIII)I"⟩
abbrev cX6_deliver : ByteArray := prog_8_method_20_code
def yX6_deliver : MethodName := ⟨RX6, "deliver", "(IIII)I"⟩
abbrev cX6_size : ByteArray := prog_8_method_21_code
def yX6_size : MethodName := ⟨RX6, "size", "(I)I"⟩
abbrev cX6_adjust : ByteArray := prog_8_method_22_code
def yX6_adjust : MethodName := ⟨RX6, "adjust", "()I"⟩
abbrev cX6_set : ByteArray := prog_8_method_23_code
def yX6_set : MethodName := ⟨RX6, "set", "(II)I"⟩
abbrev cX6_tells : ByteArray := prog_8_method_24_code
def yX6_tells : MethodName := ⟨RX6, "tells", "(II)I"⟩
abbrev cX6_drifts : ByteArray := prog_8_method_25_code
def yX6_drifts : MethodName := ⟨RX6, "drifts", "(I)V"⟩
abbrev cX6_payment : ByteArray := prog_8_method_26_code
def yX6_payment : MethodName := ⟨RX6, "payment", "(III)I"⟩
abbrev cX6_canPay : ByteArray := prog_8_method_27_code
def yX6_canPay : MethodName := ⟨RX6, "canPay", "(II)Z"⟩
abbrev cX6_refuses : ByteArray := prog_8_method_28_code
def yX6_refuses : MethodName := ⟨RX6, "refuses", "(II)V"⟩
abbrev cX6_takes : ByteArray := prog_8_method_29_code
def yX6_takes : MethodName := ⟨RX6, "takes", "(I)V"⟩
abbrev cX6_round : ByteArray := prog_8_method_30_code
def yX6_round : MethodName := ⟨RX6, "round", "()V"⟩
abbrev cX6_inState : ByteArray := prog_8_method_31_code
def yX6_inState : MethodName := ⟨RX6, "inState", "(I)I"⟩
abbrev cX6_passes : ByteArray := prog_8_method_32_code
def yX6_passes : MethodName := ⟨RX6, "passes", "(I)I"⟩
abbrev cX6_barPass : ByteArray := prog_8_method_33_code
def yX6_barPass : MethodName := ⟨RX6, "barPass", "(I)I"⟩
abbrev cX6_pass : ByteArray := prog_8_method_34_code
def yX6_pass : MethodName := ⟨RX6, "pass", "(I)I"⟩
abbrev cX6_type : ByteArray := prog_8_method_35_code
def yX6_type : MethodName := ⟨RX6, "type", "(C)I"⟩
abbrev cX6_clearText : ByteArray := prog_8_method_36_code
def yX6_clearText : MethodName := ⟨RX6, "clearText", "()I"⟩
abbrev cX6_next : ByteArray := prog_8_method_37_code
def yX6_next : MethodName := ⟨RX6, "next", "()I"⟩
abbrev cX6_sign : ByteArray := prog_8_method_38_code
def yX6_sign : MethodName := ⟨RX6, "sign", "(I)V"⟩
abbrev cX6_number : ByteArray := prog_8_method_39_code
def yX6_number : MethodName := ⟨RX6, "number", "(II)I"⟩
abbrev cX6_thing : ByteArray := prog_8_method_40_code
def yX6_thing : MethodName := ⟨RX6, "thing", "()V"⟩
abbrev cX6_things : ByteArray := prog_8_method_41_code
def yX6_things : MethodName := ⟨RX6, "things", "()I"⟩
abbrev cX6_does : ByteArray := prog_8_method_42_code
def yX6_does : MethodName := ⟨RX6, "does", "()I"⟩
abbrev cX6_perform : ByteArray := prog_8_method_43_code
def yX6_perform : MethodName := ⟨RX6, "perform", "()I"⟩
abbrev cX6_stopped : ByteArray := prog_8_method_44_code
def yX6_stopped : MethodName := ⟨RX6, "stopped", "(I)I"⟩
abbrev cX6_undo : ByteArray := prog_8_method_45_code
def yX6_undo : MethodName := ⟨RX6, "undo", "()I"⟩
abbrev cX6_keep : ByteArray := prog_8_method_46_code
def yX6_keep : MethodName := ⟨RX6, "keep", "()I"⟩
abbrev cX6_restore : ByteArray := prog_8_method_47_code
def yX6_restore : MethodName := ⟨RX6, "restore", "()I"⟩
abbrev cX6_riddlesOf : ByteArray := prog_8_method_48_code
def yX6_riddlesOf : MethodName := ⟨RX6, "riddlesOf", "(II)I"⟩
abbrev cX6_answersOf : ByteArray := prog_8_method_49_code
def yX6_answersOf : MethodName := ⟨RX6, "answersOf", "(II)I"⟩
abbrev cX6_trader : ByteArray := prog_8_method_50_code
def yX6_trader : MethodName := ⟨RX6, "trader", "(II)I"⟩
abbrev cX6_answersTo : ByteArray := prog_8_method_51_code
def yX6_answersTo : MethodName := ⟨RX6, "answersTo", "(I)I"⟩
abbrev cX6_riddle : ByteArray := prog_8_method_52_code
def yX6_riddle : MethodName := ⟨RX6, "riddle", "(II)I"⟩
abbrev cX6_place : ByteArray := prog_8_method_53_code
def yX6_place : MethodName := ⟨RX6, "place", "(I)I"⟩
abbrev cX6_answer : ByteArray := prog_8_method_54_code
def yX6_answer : MethodName := ⟨RX6, "answer", "(II)I"⟩
abbrev cX6_waits : ByteArray := prog_8_method_55_code
def yX6_waits : MethodName := ⟨RX6, "waits", "(I)I"⟩
abbrev cX6_weigh : ByteArray := prog_8_method_56_code
def yX6_weigh : MethodName := ⟨RX6, "weigh", "(II)I"⟩
abbrev cX6_reason : ByteArray := prog_8_method_57_code
def yX6_reason : MethodName := ⟨RX6, "reason", "(I)I"⟩
abbrev cX6_settledIn : ByteArray := prog_8_method_58_code
def yX6_settledIn : MethodName := ⟨RX6, "settledIn", "(I)I"⟩
abbrev cX6_ifRounds : ByteArray := prog_8_method_59_code
def yX6_ifRounds : MethodName := ⟨RX6, "ifRounds", "(IZ)I"⟩
abbrev cX6_richest : ByteArray := prog_8_method_60_code
def yX6_richest : MethodName := ⟨RX6, "richest", "()I"⟩
abbrev cX6_account : ByteArray := prog_8_method_61_code
def yX6_account : MethodName := ⟨RX6, "account", "(I)I"⟩
abbrev cX6_open : ByteArray := prog_8_method_62_code
def yX6_open : MethodName := ⟨RX6, "open", "()I"⟩
abbrev cX6_debtors : ByteArray := prog_8_method_63_code
def yX6_debtors : MethodName := ⟨RX6, "debtors", "()I"⟩
abbrev cX6_count : ByteArray := prog_8_method_64_code
def yX6_count : MethodName := ⟨RX6, "count", "(I)I"⟩
def RJ9 : String := "java/lang/Math"
def TJ9 : u_T := fun k => match k with
  | _ => ("", "", "", false)
def tyJ9 : Nat → FieldType := fun k => match k with
  | _ => .int
abbrev wsJ90 : List Cond := u_ws RJ9 TJ9 0
theorem nmJ9 : ∀ a, a < 0 → ∀ b, b < 0 → a ≠ b → (TJ9 a).2.1 ≠ (TJ9 b).2.1 := by decide +kernel
theorem tyJ9_ok : ∀ k, k < 0 → parseFieldDescriptor (TJ9 k).2.2.1 = some (tyJ9 k) := by decide +kernel
abbrev cJ9_abs_0f7a4 : ByteArray := prog_9_method_59_code
def yJ9_abs_0f7a4 : MethodName := ⟨RJ9, "abs", "(I)I"⟩
abbrev cJ9_max_7cf53 : ByteArray := prog_9_method_65_code
def yJ9_max_7cf53 : MethodName := ⟨RJ9, "max", "(II)I"⟩
abbrev cJ9_min_7cf53 : ByteArray := prog_9_method_69_code
def yJ9_min_7cf53 : MethodName := ⟨RJ9, "min", "(II)I"⟩
def RJ10 : String := "java/lang/System"
def TJ10 : u_T := fun k => match k with
  | _ => ("", "", "", false)
def tyJ10 : Nat → FieldType := fun k => match k with
  | _ => .int
abbrev wsJ100 : List Cond := u_ws RJ10 TJ10 0
theorem nmJ10 : ∀ a, a < 0 → ∀ b, b < 0 → a ≠ b → (TJ10 a).2.1 ≠ (TJ10 b).2.1 := by decide +kernel
theorem tyJ10_ok : ∀ k, k < 0 → parseFieldDescriptor (TJ10 k).2.2.1 = some (tyJ10 k) := by decide +kernel
def RL : String := "RiddleTradeLaw"
abbrev cL_law : ByteArray := code
def yL_law : MethodName := ⟨RL, "law", "([I)Z"⟩
def wsX4_init : List Cond := .code yX4_init cX4_init 3 none :: ([.methodLink RX4 3 objectInit, .instanceMethod objectInit, .code objectInit ⟨#[0xb1]⟩ 1 none, .fieldLink RX4 9 "RiddleTrade$Table" "cells" "[I", .fieldLink RX4 15 "RiddleTrade$Table" "columns" "I"] ++ wsX40)
def wsX3_init : List Cond := .code yX3_init cX3_init 1 none :: ([.methodLink RX3 3 objectInit, .instanceMethod objectInit, .code objectInit ⟨#[0xb1]⟩ 1 none, .arrayClass .int, .fieldLink RX3 9 "RiddleTrade$Row" "ring" "[I"] ++ wsX30)
def wsX4_addRow : List Cond := .code yX4_addRow cX4_addRow 1 (some .int) :: ([.fieldLink RX4 19 "RiddleTrade$Table" "rows" "I"] ++ wsX40)
def wsX4_put : List Cond := .code yX4_put cX4_put 5 none :: ([.fieldLink RX4 15 "RiddleTrade$Table" "columns" "I", .fieldLink RX4 9 "RiddleTrade$Table" "cells" "[I"] ++ wsX40)
def wsX0_addSetting : List Cond := .code yX0_addSetting cX0_addSetting 5 none :: ([.fieldLink RX0 29 "RiddleTrade$Exchange" "settings" "LRiddleTrade$Table;", .methodLink RX0 39 yX4_addRow, .instanceMethod yX4_addRow, .selects RX4 yX4_addRow yX4_addRow, .initialized RX4, .code yX4_addRow cX4_addRow 1 (some .int), .fieldLink RX4 19 "RiddleTrade$Table" "rows" "I", .methodLink RX0 43 yX4_put, .instanceMethod yX4_put, .selects RX4 yX4_put yX4_put, .code yX4_put cX4_put 5 none, .fieldLink RX4 15 "RiddleTrade$Table" "columns" "I", .fieldLink RX4 9 "RiddleTrade$Table" "cells" "[I"] ++ wsX00 ++ wsX40)
def wsX0_init_r1 : List Cond := [Cond.methodLink RX0 3 objectInit, Cond.instanceMethod objectInit, Cond.code objectInit ⟨#[0xb1]⟩ 1 none, Cond.classLink RX0 9 RX4, Cond.instantiable RX4 3, Cond.initialized RX4, Cond.arrayClass .int, Cond.fieldLink RX0 16 "RiddleTrade$Exchange" "traders" "LRiddleTrade$Table;", Cond.fieldLink RX0 20 "RiddleTrade$Exchange" "riddles" "LRiddleTrade$Table;", Cond.fieldLink RX0 23 "RiddleTrade$Exchange" "answers" "LRiddleTrade$Table;", Cond.fieldLink RX0 26 "RiddleTrade$Exchange" "scales" "LRiddleTrade$Table;", Cond.fieldLink RX0 29 "RiddleTrade$Exchange" "settings" "LRiddleTrade$Table;", Cond.classLink RX0 32 RX3, Cond.instantiable RX3 3, Cond.initialized RX3, Cond.fieldLink RX0 35 "RiddleTrade$Exchange" "row" "LRiddleTrade$Row;", Cond.methodLink RX0 13 yX4_init, Cond.instanceMethod yX4_init, Cond.code yX4_init cX4_init 3 none, Cond.methodLink RX4 3 objectInit, Cond.fieldLink RX4 9 "RiddleTrade$Table" "cells" "[I", Cond.fieldLink RX4 15 "RiddleTrade$Table" "columns" "I", Cond.instanceMethod yX3_init, Cond.code yX3_init cX3_init 1 none]
def wsX0_init_r2 : List Cond := [Cond.methodLink RX3 3 objectInit, Cond.fieldLink RX3 9 "RiddleTrade$Row" "ring" "[I", Cond.methodLink RX0 39 yX4_addRow, Cond.instanceMethod yX4_addRow, Cond.selects RX4 yX4_addRow yX4_addRow, Cond.code yX4_addRow cX4_addRow 1 (some .int), Cond.fieldLink RX4 19 "RiddleTrade$Table" "rows" "I", Cond.methodLink RX0 43 yX4_put, Cond.instanceMethod yX4_put, Cond.selects RX4 yX4_put yX4_put, Cond.code yX4_put cX4_put 5 none, Cond.methodLink RX0 47 yX0_addSetting, Cond.instanceMethod yX0_addSetting, Cond.selects RX0 yX0_addSetting yX0_addSetting, Cond.initialized RX0, Cond.code yX0_addSetting cX0_addSetting 5 none]
def wsX0_init : List Cond := .code yX0_init cX0_init 2 none :: ((wsX0_init_r1 ++ wsX0_init_r2) ++ wsX40 ++ wsX00 ++ wsX30)
def wsX4_copyFrom : List Cond := .code yX4_copyFrom cX4_copyFrom 2 none :: ([.fieldLink RX4 19 "RiddleTrade$Table" "rows" "I", .fieldLink RX4 9 "RiddleTrade$Table" "cells" "[I", .methodLink RX4 26 Lib.Math.min.name, .static Lib.Math.min.name, .initialized "java/lang/Math", .code Lib.Math.min.name Lib.Math.min.code 2 (some .int), .methodLink RX4 31 arraycopyName, .native arraycopyName, .static arraycopyName, .initialized "java/lang/System"] ++ wsX40)
def wsX3_copyFrom : List Cond := .code yX3_copyFrom cX3_copyFrom 2 none :: ([.fieldLink RX3 19 "RiddleTrade$Row" "head" "I", .fieldLink RX3 15 "RiddleTrade$Row" "length" "I", .fieldLink RX3 9 "RiddleTrade$Row" "ring" "[I", .methodLink RX3 26 Lib.Math.min.name, .static Lib.Math.min.name, .initialized "java/lang/Math", .code Lib.Math.min.name Lib.Math.min.code 2 (some .int), .methodLink RX3 32 arraycopyName, .native arraycopyName, .static arraycopyName, .initialized "java/lang/System"] ++ wsX30)
def wsX0_copyFrom_r1 : List Cond := [Cond.fieldLink RX0 16 "RiddleTrade$Exchange" "traders" "LRiddleTrade$Table;", Cond.fieldLink RX0 20 "RiddleTrade$Exchange" "riddles" "LRiddleTrade$Table;", Cond.fieldLink RX0 23 "RiddleTrade$Exchange" "answers" "LRiddleTrade$Table;", Cond.fieldLink RX0 26 "RiddleTrade$Exchange" "scales" "LRiddleTrade$Table;", Cond.fieldLink RX0 29 "RiddleTrade$Exchange" "settings" "LRiddleTrade$Table;", Cond.fieldLink RX0 35 "RiddleTrade$Exchange" "row" "LRiddleTrade$Row;", Cond.fieldLink RX0 57 "RiddleTrade$Exchange" "round" "I", Cond.methodLink RX0 50 yX4_copyFrom, Cond.instanceMethod yX4_copyFrom, Cond.selects RX4 yX4_copyFrom yX4_copyFrom, Cond.initialized RX4, Cond.code yX4_copyFrom cX4_copyFrom 2 none, Cond.fieldLink RX4 19 "RiddleTrade$Table" "rows" "I", Cond.fieldLink RX4 9 "RiddleTrade$Table" "cells" "[I", Cond.methodLink RX4 26 Lib.Math.min.name, Cond.static Lib.Math.min.name, Cond.initialized "java/lang/Math", Cond.code Lib.Math.min.name Lib.Math.min.code 2 (some .int), Cond.methodLink RX4 31 arraycopyName, Cond.native arraycopyName, Cond.static arraycopyName, Cond.initialized "java/lang/System", Cond.methodLink RX0 54 yX3_copyFrom, Cond.instanceMethod yX3_copyFrom]
def wsX0_copyFrom_r2 : List Cond := [Cond.selects RX3 yX3_copyFrom yX3_copyFrom, Cond.initialized RX3, Cond.code yX3_copyFrom cX3_copyFrom 2 none, Cond.fieldLink RX3 19 "RiddleTrade$Row" "head" "I", Cond.fieldLink RX3 15 "RiddleTrade$Row" "length" "I", Cond.fieldLink RX3 9 "RiddleTrade$Row" "ring" "[I", Cond.methodLink RX3 26 Lib.Math.min.name, Cond.methodLink RX3 32 arraycopyName]
def wsX0_copyFrom : List Cond := .code yX0_copyFrom cX0_copyFrom 2 none :: ((wsX0_copyFrom_r1 ++ wsX0_copyFrom_r2) ++ wsX00 ++ wsX40 ++ wsX30)
def wsX4_has : List Cond := .code yX4_has cX4_has 2 (some .boolean) :: ([.fieldLink RX4 19 "RiddleTrade$Table" "rows" "I"] ++ wsX40)
def wsX4_rows : List Cond := .code yX4_rows cX4_rows 1 (some .int) :: ([.fieldLink RX4 19 "RiddleTrade$Table" "rows" "I"] ++ wsX40)
def wsX0_addRiddle : List Cond := .code yX0_addRiddle cX0_addRiddle 5 (some .int) :: ([.fieldLink RX0 16 "RiddleTrade$Exchange" "traders" "LRiddleTrade$Table;", .fieldLink RX0 20 "RiddleTrade$Exchange" "riddles" "LRiddleTrade$Table;", .methodLink RX0 61 yX4_has, .instanceMethod yX4_has, .selects RX4 yX4_has yX4_has, .initialized RX4, .code yX4_has cX4_has 2 (some .boolean), .fieldLink RX4 19 "RiddleTrade$Table" "rows" "I", .methodLink RX0 65 yX4_rows, .instanceMethod yX4_rows, .selects RX4 yX4_rows yX4_rows, .code yX4_rows cX4_rows 1 (some .int), .methodLink RX0 39 yX4_addRow, .instanceMethod yX4_addRow, .selects RX4 yX4_addRow yX4_addRow, .code yX4_addRow cX4_addRow 1 (some .int), .methodLink RX0 43 yX4_put, .instanceMethod yX4_put, .selects RX4 yX4_put yX4_put, .code yX4_put cX4_put 5 none, .fieldLink RX4 15 "RiddleTrade$Table" "columns" "I", .fieldLink RX4 9 "RiddleTrade$Table" "cells" "[I"] ++ wsX00 ++ wsX40)
def wsX4_get : List Cond := .code yX4_get cX4_get 4 (some .int) :: ([.fieldLink RX4 15 "RiddleTrade$Table" "columns" "I", .fieldLink RX4 9 "RiddleTrade$Table" "cells" "[I"] ++ wsX40)
def wsX4_countOfBoth : List Cond := .code yX4_countOfBoth cX4_countOfBoth 7 (some .int) :: ([.fieldLink RX4 19 "RiddleTrade$Table" "rows" "I", .methodLink RX4 22 yX4_get, .instanceMethod yX4_get, .selects RX4 yX4_get yX4_get, .initialized RX4, .code yX4_get cX4_get 4 (some .int), .fieldLink RX4 15 "RiddleTrade$Table" "columns" "I", .fieldLink RX4 9 "RiddleTrade$Table" "cells" "[I"] ++ wsX40)
def wsX0_closeRiddle : List Cond := .code yX0_closeRiddle cX0_closeRiddle 2 (some .int) :: ([.fieldLink RX0 20 "RiddleTrade$Exchange" "riddles" "LRiddleTrade$Table;", .fieldLink RX0 23 "RiddleTrade$Exchange" "answers" "LRiddleTrade$Table;", .methodLink RX0 61 yX4_has, .instanceMethod yX4_has, .selects RX4 yX4_has yX4_has, .initialized RX4, .code yX4_has cX4_has 2 (some .boolean), .fieldLink RX4 19 "RiddleTrade$Table" "rows" "I", .methodLink RX0 68 yX4_get, .instanceMethod yX4_get, .selects RX4 yX4_get yX4_get, .code yX4_get cX4_get 4 (some .int), .fieldLink RX4 15 "RiddleTrade$Table" "columns" "I", .fieldLink RX4 9 "RiddleTrade$Table" "cells" "[I", .methodLink RX0 43 yX4_put, .instanceMethod yX4_put, .selects RX4 yX4_put yX4_put, .code yX4_put cX4_put 5 none, .methodLink RX0 72 yX4_countOfBoth, .instanceMethod yX4_countOfBoth, .selects RX4 yX4_countOfBoth yX4_countOfBoth, .code yX4_countOfBoth cX4_countOfBoth 7 (some .int), .methodLink RX4 22 yX4_get] ++ wsX00 ++ wsX40)
def wsX3_addLast : List Cond := .code yX3_addLast cX3_addLast 3 none :: ([.fieldLink RX3 19 "RiddleTrade$Row" "head" "I", .fieldLink RX3 15 "RiddleTrade$Row" "length" "I", .fieldLink RX3 9 "RiddleTrade$Row" "ring" "[I"] ++ wsX30)
def wsX0_addAnswer_r1 : List Cond := [Cond.fieldLink RX0 16 "RiddleTrade$Exchange" "traders" "LRiddleTrade$Table;", Cond.fieldLink RX0 20 "RiddleTrade$Exchange" "riddles" "LRiddleTrade$Table;", Cond.fieldLink RX0 23 "RiddleTrade$Exchange" "answers" "LRiddleTrade$Table;", Cond.fieldLink RX0 35 "RiddleTrade$Exchange" "row" "LRiddleTrade$Row;", Cond.methodLink RX0 61 yX4_has, Cond.instanceMethod yX4_has, Cond.selects RX4 yX4_has yX4_has, Cond.initialized RX4, Cond.code yX4_has cX4_has 2 (some .boolean), Cond.fieldLink RX4 19 "RiddleTrade$Table" "rows" "I", Cond.methodLink RX0 68 yX4_get, Cond.instanceMethod yX4_get, Cond.selects RX4 yX4_get yX4_get, Cond.code yX4_get cX4_get 4 (some .int), Cond.fieldLink RX4 15 "RiddleTrade$Table" "columns" "I", Cond.fieldLink RX4 9 "RiddleTrade$Table" "cells" "[I", Cond.methodLink RX0 65 yX4_rows, Cond.instanceMethod yX4_rows, Cond.selects RX4 yX4_rows yX4_rows, Cond.code yX4_rows cX4_rows 1 (some .int), Cond.methodLink RX0 39 yX4_addRow, Cond.instanceMethod yX4_addRow, Cond.selects RX4 yX4_addRow yX4_addRow, Cond.code yX4_addRow cX4_addRow 1 (some .int)]
def wsX0_addAnswer_r2 : List Cond := [Cond.methodLink RX0 43 yX4_put, Cond.instanceMethod yX4_put, Cond.selects RX4 yX4_put yX4_put, Cond.code yX4_put cX4_put 5 none, Cond.methodLink RX0 76 yX3_addLast, Cond.instanceMethod yX3_addLast, Cond.selects RX3 yX3_addLast yX3_addLast, Cond.initialized RX3, Cond.code yX3_addLast cX3_addLast 3 none, Cond.fieldLink RX3 19 "RiddleTrade$Row" "head" "I", Cond.fieldLink RX3 15 "RiddleTrade$Row" "length" "I", Cond.fieldLink RX3 9 "RiddleTrade$Row" "ring" "[I"]
def wsX0_addAnswer : List Cond := .code yX0_addAnswer cX0_addAnswer 6 (some .int) :: ((wsX0_addAnswer_r1 ++ wsX0_addAnswer_r2) ++ wsX00 ++ wsX40 ++ wsX30)
def wsX0_setScalesRight : List Cond := .code yX0_setScalesRight cX0_setScalesRight 3 (some .int) :: ([.fieldLink RX0 26 "RiddleTrade$Exchange" "scales" "LRiddleTrade$Table;", .methodLink RX0 80 Lib.Math.abs.name, .static Lib.Math.abs.name, .initialized "java/lang/Math", .code Lib.Math.abs.name Lib.Math.abs.code 1 (some .int), .methodLink RX0 68 yX4_get, .instanceMethod yX4_get, .selects RX4 yX4_get yX4_get, .initialized RX4, .code yX4_get cX4_get 4 (some .int), .fieldLink RX4 15 "RiddleTrade$Table" "columns" "I", .fieldLink RX4 9 "RiddleTrade$Table" "cells" "[I", .methodLink RX0 43 yX4_put, .instanceMethod yX4_put, .selects RX4 yX4_put yX4_put, .code yX4_put cX4_put 5 none] ++ wsX00 ++ wsX40)
def wsX0_changeSetting : List Cond := .code yX0_changeSetting cX0_changeSetting 4 (some .int) :: ([.fieldLink RX0 29 "RiddleTrade$Exchange" "settings" "LRiddleTrade$Table;", .methodLink RX0 61 yX4_has, .instanceMethod yX4_has, .selects RX4 yX4_has yX4_has, .initialized RX4, .code yX4_has cX4_has 2 (some .boolean), .fieldLink RX4 19 "RiddleTrade$Table" "rows" "I", .methodLink RX0 68 yX4_get, .instanceMethod yX4_get, .selects RX4 yX4_get yX4_get, .code yX4_get cX4_get 4 (some .int), .fieldLink RX4 15 "RiddleTrade$Table" "columns" "I", .fieldLink RX4 9 "RiddleTrade$Table" "cells" "[I", .methodLink RX0 43 yX4_put, .instanceMethod yX4_put, .selects RX4 yX4_put yX4_put, .code yX4_put cX4_put 5 none] ++ wsX00 ++ wsX40)
def wsX3_length : List Cond := .code yX3_length cX3_length 1 (some .int) :: ([.fieldLink RX3 15 "RiddleTrade$Row" "length" "I"] ++ wsX30)
def wsX3_at : List Cond := .code yX3_at cX3_at 3 (some .int) :: ([.fieldLink RX3 15 "RiddleTrade$Row" "length" "I", .fieldLink RX3 19 "RiddleTrade$Row" "head" "I", .fieldLink RX3 9 "RiddleTrade$Row" "ring" "[I"] ++ wsX30)
def wsX3_takeFirst : List Cond := .code yX3_takeFirst cX3_takeFirst 2 (some .int) :: ([.fieldLink RX3 15 "RiddleTrade$Row" "length" "I", .fieldLink RX3 19 "RiddleTrade$Row" "head" "I", .methodLink RX3 22 yX3_at, .instanceMethod yX3_at, .selects RX3 yX3_at yX3_at, .initialized RX3, .code yX3_at cX3_at 3 (some .int), .fieldLink RX3 9 "RiddleTrade$Row" "ring" "[I"] ++ wsX30)
def wsX0_told : List Cond := .code yX0_told cX0_told 3 (some .int) :: ([.fieldLink RX0 26 "RiddleTrade$Exchange" "scales" "LRiddleTrade$Table;", .methodLink RX0 126 Lib.Math.max.name, .static Lib.Math.max.name, .initialized "java/lang/Math", .code Lib.Math.max.name Lib.Math.max.code 2 (some .int), .methodLink RX0 68 yX4_get, .instanceMethod yX4_get, .selects RX4 yX4_get yX4_get, .initialized RX4, .code yX4_get cX4_get 4 (some .int), .fieldLink RX4 15 "RiddleTrade$Table" "columns" "I", .fieldLink RX4 9 "RiddleTrade$Table" "cells" "[I"] ++ wsX00 ++ wsX40)
def wsX0_paymentFor : List Cond := .code yX0_paymentFor cX0_paymentFor 4 (some .int) :: ([.fieldLink RX0 23 "RiddleTrade$Exchange" "answers" "LRiddleTrade$Table;", .fieldLink RX0 20 "RiddleTrade$Exchange" "riddles" "LRiddleTrade$Table;", .methodLink RX0 68 yX4_get, .instanceMethod yX4_get, .selects RX4 yX4_get yX4_get, .initialized RX4, .code yX4_get cX4_get 4 (some .int), .fieldLink RX4 15 "RiddleTrade$Table" "columns" "I", .fieldLink RX4 9 "RiddleTrade$Table" "cells" "[I", .methodLink RX0 129 yX0_told, .instanceMethod yX0_told, .selects RX0 yX0_told yX0_told, .initialized RX0, .code yX0_told cX0_told 3 (some .int), .fieldLink RX0 26 "RiddleTrade$Exchange" "scales" "LRiddleTrade$Table;", .methodLink RX0 126 Lib.Math.max.name, .static Lib.Math.max.name, .initialized "java/lang/Math", .code Lib.Math.max.name Lib.Math.max.code 2 (some .int)] ++ wsX00 ++ wsX40)
def wsX0_hindrance : List Cond := .code yX0_hindrance cX0_hindrance 6 (some .int) :: ([.fieldLink RX0 23 "RiddleTrade$Exchange" "answers" "LRiddleTrade$Table;", .fieldLink RX0 20 "RiddleTrade$Exchange" "riddles" "LRiddleTrade$Table;", .methodLink RX0 80 Lib.Math.abs.name, .static Lib.Math.abs.name, .initialized "java/lang/Math", .code Lib.Math.abs.name Lib.Math.abs.code 1 (some .int), .fieldLink RX0 29 "RiddleTrade$Exchange" "settings" "LRiddleTrade$Table;", .fieldLink RX0 16 "RiddleTrade$Exchange" "traders" "LRiddleTrade$Table;", .methodLink RX0 68 yX4_get, .instanceMethod yX4_get, .selects RX4 yX4_get yX4_get, .initialized RX4, .code yX4_get cX4_get 4 (some .int), .fieldLink RX4 15 "RiddleTrade$Table" "columns" "I", .fieldLink RX4 9 "RiddleTrade$Table" "cells" "[I", .methodLink RX0 129 yX0_told, .instanceMethod yX0_told, .selects RX0 yX0_told yX0_told, .initialized RX0, .code yX0_told cX0_told 3 (some .int), .fieldLink RX0 26 "RiddleTrade$Exchange" "scales" "LRiddleTrade$Table;", .methodLink RX0 126 Lib.Math.max.name, .static Lib.Math.max.name, .code Lib.Math.max.name Lib.Math.max.code 2 (some .int)] ++ wsX00 ++ wsX40)
def wsX0_refuse : List Cond := .code yX0_refuse cX0_refuse 3 none :: ([.fieldLink RX0 23 "RiddleTrade$Exchange" "answers" "LRiddleTrade$Table;", .methodLink RX0 43 yX4_put, .instanceMethod yX4_put, .selects RX4 yX4_put yX4_put, .initialized RX4, .code yX4_put cX4_put 5 none, .fieldLink RX4 15 "RiddleTrade$Table" "columns" "I", .fieldLink RX4 9 "RiddleTrade$Table" "cells" "[I"] ++ wsX00 ++ wsX40)
def wsX4_increase : List Cond := .code yX4_increase cX4_increase 5 none :: ([.fieldLink RX4 15 "RiddleTrade$Table" "columns" "I", .fieldLink RX4 9 "RiddleTrade$Table" "cells" "[I"] ++ wsX40)
def wsX0_driftOn : List Cond := .code yX0_driftOn cX0_driftOn 5 none :: ([.fieldLink RX0 26 "RiddleTrade$Exchange" "scales" "LRiddleTrade$Table;", .fieldLink RX0 29 "RiddleTrade$Exchange" "settings" "LRiddleTrade$Table;", .methodLink RX0 80 Lib.Math.abs.name, .static Lib.Math.abs.name, .initialized "java/lang/Math", .code Lib.Math.abs.name Lib.Math.abs.code 1 (some .int), .methodLink RX0 68 yX4_get, .instanceMethod yX4_get, .selects RX4 yX4_get yX4_get, .initialized RX4, .code yX4_get cX4_get 4 (some .int), .fieldLink RX4 15 "RiddleTrade$Table" "columns" "I", .fieldLink RX4 9 "RiddleTrade$Table" "cells" "[I", .methodLink RX0 43 yX4_put, .instanceMethod yX4_put, .selects RX4 yX4_put yX4_put, .code yX4_put cX4_put 5 none, .methodLink RX0 123 yX4_increase, .instanceMethod yX4_increase, .selects RX4 yX4_increase yX4_increase, .code yX4_increase cX4_increase 5 none] ++ wsX00 ++ wsX40)
def wsX0_doubt_r1 : List Cond := [Cond.fieldLink RX0 23 "RiddleTrade$Exchange" "answers" "LRiddleTrade$Table;", Cond.fieldLink RX0 35 "RiddleTrade$Exchange" "row" "LRiddleTrade$Row;", Cond.methodLink RX0 123 yX4_increase, Cond.instanceMethod yX4_increase, Cond.selects RX4 yX4_increase yX4_increase, Cond.initialized RX4, Cond.code yX4_increase cX4_increase 5 none, Cond.fieldLink RX4 15 "RiddleTrade$Table" "columns" "I", Cond.fieldLink RX4 9 "RiddleTrade$Table" "cells" "[I", Cond.methodLink RX0 68 yX4_get, Cond.instanceMethod yX4_get, Cond.selects RX4 yX4_get yX4_get, Cond.code yX4_get cX4_get 4 (some .int), Cond.methodLink RX0 110 yX0_refuse, Cond.instanceMethod yX0_refuse, Cond.selects RX0 yX0_refuse yX0_refuse, Cond.initialized RX0, Cond.code yX0_refuse cX0_refuse 3 none, Cond.methodLink RX0 43 yX4_put, Cond.instanceMethod yX4_put, Cond.selects RX4 yX4_put yX4_put, Cond.code yX4_put cX4_put 5 none, Cond.methodLink RX0 76 yX3_addLast, Cond.instanceMethod yX3_addLast]
def wsX0_doubt_r2 : List Cond := [Cond.selects RX3 yX3_addLast yX3_addLast, Cond.initialized RX3, Cond.code yX3_addLast cX3_addLast 3 none, Cond.fieldLink RX3 19 "RiddleTrade$Row" "head" "I", Cond.fieldLink RX3 15 "RiddleTrade$Row" "length" "I", Cond.fieldLink RX3 9 "RiddleTrade$Row" "ring" "[I"]
def wsX0_doubt : List Cond := .code yX0_doubt cX0_doubt 2 none :: ((wsX0_doubt_r1 ++ wsX0_doubt_r2) ++ wsX00 ++ wsX40 ++ wsX30)
def wsX0_pay : List Cond := .code yX0_pay cX0_pay 4 none :: ([.fieldLink RX0 23 "RiddleTrade$Exchange" "answers" "LRiddleTrade$Table;", .fieldLink RX0 16 "RiddleTrade$Exchange" "traders" "LRiddleTrade$Table;", .fieldLink RX0 20 "RiddleTrade$Exchange" "riddles" "LRiddleTrade$Table;", .methodLink RX0 68 yX4_get, .instanceMethod yX4_get, .selects RX4 yX4_get yX4_get, .initialized RX4, .code yX4_get cX4_get 4 (some .int), .fieldLink RX4 15 "RiddleTrade$Table" "columns" "I", .fieldLink RX4 9 "RiddleTrade$Table" "cells" "[I", .methodLink RX0 123 yX4_increase, .instanceMethod yX4_increase, .selects RX4 yX4_increase yX4_increase, .code yX4_increase cX4_increase 5 none, .methodLink RX0 43 yX4_put, .instanceMethod yX4_put, .selects RX4 yX4_put yX4_put, .code yX4_put cX4_put 5 none] ++ wsX00 ++ wsX40)
def wsX0_takeOne_r1 : List Cond := [Cond.fieldLink RX0 35 "RiddleTrade$Exchange" "row" "LRiddleTrade$Row;", Cond.methodLink RX0 104 yX0_paymentFor, Cond.instanceMethod yX0_paymentFor, Cond.selects RX0 yX0_paymentFor yX0_paymentFor, Cond.initialized RX0, Cond.code yX0_paymentFor cX0_paymentFor 4 (some .int), Cond.fieldLink RX0 23 "RiddleTrade$Exchange" "answers" "LRiddleTrade$Table;", Cond.fieldLink RX0 20 "RiddleTrade$Exchange" "riddles" "LRiddleTrade$Table;", Cond.methodLink RX0 68 yX4_get, Cond.instanceMethod yX4_get, Cond.selects RX4 yX4_get yX4_get, Cond.initialized RX4, Cond.code yX4_get cX4_get 4 (some .int), Cond.fieldLink RX4 15 "RiddleTrade$Table" "columns" "I", Cond.fieldLink RX4 9 "RiddleTrade$Table" "cells" "[I", Cond.methodLink RX0 129 yX0_told, Cond.instanceMethod yX0_told, Cond.selects RX0 yX0_told yX0_told, Cond.code yX0_told cX0_told 3 (some .int), Cond.fieldLink RX0 26 "RiddleTrade$Exchange" "scales" "LRiddleTrade$Table;", Cond.methodLink RX0 126 Lib.Math.max.name, Cond.static Lib.Math.max.name, Cond.initialized "java/lang/Math", Cond.code Lib.Math.max.name Lib.Math.max.code 2 (some .int)]
def wsX0_takeOne_r2 : List Cond := [Cond.methodLink RX0 107 yX0_hindrance, Cond.instanceMethod yX0_hindrance, Cond.selects RX0 yX0_hindrance yX0_hindrance, Cond.code yX0_hindrance cX0_hindrance 6 (some .int), Cond.methodLink RX0 80 Lib.Math.abs.name, Cond.static Lib.Math.abs.name, Cond.code Lib.Math.abs.name Lib.Math.abs.code 1 (some .int), Cond.fieldLink RX0 29 "RiddleTrade$Exchange" "settings" "LRiddleTrade$Table;", Cond.fieldLink RX0 16 "RiddleTrade$Exchange" "traders" "LRiddleTrade$Table;", Cond.methodLink RX0 110 yX0_refuse, Cond.instanceMethod yX0_refuse, Cond.selects RX0 yX0_refuse yX0_refuse, Cond.code yX0_refuse cX0_refuse 3 none, Cond.methodLink RX0 43 yX4_put, Cond.instanceMethod yX4_put, Cond.selects RX4 yX4_put yX4_put, Cond.code yX4_put cX4_put 5 none, Cond.methodLink RX0 114 yX0_driftOn, Cond.instanceMethod yX0_driftOn, Cond.selects RX0 yX0_driftOn yX0_driftOn, Cond.code yX0_driftOn cX0_driftOn 5 none, Cond.methodLink RX0 123 yX4_increase, Cond.instanceMethod yX4_increase, Cond.selects RX4 yX4_increase yX4_increase]
def wsX0_takeOne_r3 : List Cond := [Cond.code yX4_increase cX4_increase 5 none, Cond.methodLink RX0 117 yX0_doubt, Cond.instanceMethod yX0_doubt, Cond.selects RX0 yX0_doubt yX0_doubt, Cond.code yX0_doubt cX0_doubt 2 none, Cond.methodLink RX0 76 yX3_addLast, Cond.instanceMethod yX3_addLast, Cond.selects RX3 yX3_addLast yX3_addLast, Cond.initialized RX3, Cond.code yX3_addLast cX3_addLast 3 none, Cond.fieldLink RX3 19 "RiddleTrade$Row" "head" "I", Cond.fieldLink RX3 15 "RiddleTrade$Row" "length" "I", Cond.fieldLink RX3 9 "RiddleTrade$Row" "ring" "[I", Cond.methodLink RX0 120 yX0_pay, Cond.instanceMethod yX0_pay, Cond.selects RX0 yX0_pay yX0_pay, Cond.code yX0_pay cX0_pay 4 none]
def wsX0_takeOne : List Cond := .code yX0_takeOne cX0_takeOne 4 (some .boolean) :: ((wsX0_takeOne_r1 ++ (wsX0_takeOne_r2 ++ wsX0_takeOne_r3)) ++ wsX00 ++ wsX40 ++ wsX30)
def wsX0_chargeFees : List Cond := .code yX0_chargeFees cX0_chargeFees 4 none :: ([.fieldLink RX0 16 "RiddleTrade$Exchange" "traders" "LRiddleTrade$Table;", .methodLink RX0 92 Lib.Math.min.name, .static Lib.Math.min.name, .initialized "java/lang/Math", .code Lib.Math.min.name Lib.Math.min.code 2 (some .int), .methodLink RX0 68 yX4_get, .instanceMethod yX4_get, .selects RX4 yX4_get yX4_get, .initialized RX4, .code yX4_get cX4_get 4 (some .int), .fieldLink RX4 15 "RiddleTrade$Table" "columns" "I", .fieldLink RX4 9 "RiddleTrade$Table" "cells" "[I", .methodLink RX0 123 yX4_increase, .instanceMethod yX4_increase, .selects RX4 yX4_increase yX4_increase, .code yX4_increase cX4_increase 5 none] ++ wsX00 ++ wsX40)
def wsX0_playRound_r1 : List Cond := [Cond.fieldLink RX0 29 "RiddleTrade$Exchange" "settings" "LRiddleTrade$Table;", Cond.fieldLink RX0 35 "RiddleTrade$Exchange" "row" "LRiddleTrade$Row;", Cond.methodLink RX0 92 Lib.Math.min.name, Cond.static Lib.Math.min.name, Cond.initialized "java/lang/Math", Cond.code Lib.Math.min.name Lib.Math.min.code 2 (some .int), Cond.fieldLink RX0 57 "RiddleTrade$Exchange" "round" "I", Cond.methodLink RX0 68 yX4_get, Cond.instanceMethod yX4_get, Cond.selects RX4 yX4_get yX4_get, Cond.initialized RX4, Cond.code yX4_get cX4_get 4 (some .int), Cond.fieldLink RX4 15 "RiddleTrade$Table" "columns" "I", Cond.fieldLink RX4 9 "RiddleTrade$Table" "cells" "[I", Cond.methodLink RX0 89 yX3_length, Cond.instanceMethod yX3_length, Cond.selects RX3 yX3_length yX3_length, Cond.initialized RX3, Cond.code yX3_length cX3_length 1 (some .int), Cond.fieldLink RX3 15 "RiddleTrade$Row" "length" "I", Cond.methodLink RX0 95 yX3_takeFirst, Cond.instanceMethod yX3_takeFirst, Cond.selects RX3 yX3_takeFirst yX3_takeFirst, Cond.code yX3_takeFirst cX3_takeFirst 2 (some .int)]
def wsX0_playRound_r2 : List Cond := [Cond.fieldLink RX3 19 "RiddleTrade$Row" "head" "I", Cond.methodLink RX3 22 yX3_at, Cond.instanceMethod yX3_at, Cond.selects RX3 yX3_at yX3_at, Cond.code yX3_at cX3_at 3 (some .int), Cond.fieldLink RX3 9 "RiddleTrade$Row" "ring" "[I", Cond.methodLink RX0 98 yX0_takeOne, Cond.instanceMethod yX0_takeOne, Cond.selects RX0 yX0_takeOne yX0_takeOne, Cond.initialized RX0, Cond.code yX0_takeOne cX0_takeOne 4 (some .boolean), Cond.methodLink RX0 104 yX0_paymentFor, Cond.instanceMethod yX0_paymentFor, Cond.selects RX0 yX0_paymentFor yX0_paymentFor, Cond.code yX0_paymentFor cX0_paymentFor 4 (some .int), Cond.fieldLink RX0 23 "RiddleTrade$Exchange" "answers" "LRiddleTrade$Table;", Cond.fieldLink RX0 20 "RiddleTrade$Exchange" "riddles" "LRiddleTrade$Table;", Cond.methodLink RX0 129 yX0_told, Cond.instanceMethod yX0_told, Cond.selects RX0 yX0_told yX0_told, Cond.code yX0_told cX0_told 3 (some .int), Cond.fieldLink RX0 26 "RiddleTrade$Exchange" "scales" "LRiddleTrade$Table;", Cond.methodLink RX0 126 Lib.Math.max.name, Cond.static Lib.Math.max.name]
def wsX0_playRound_r3 : List Cond := [Cond.code Lib.Math.max.name Lib.Math.max.code 2 (some .int), Cond.methodLink RX0 107 yX0_hindrance, Cond.instanceMethod yX0_hindrance, Cond.selects RX0 yX0_hindrance yX0_hindrance, Cond.code yX0_hindrance cX0_hindrance 6 (some .int), Cond.methodLink RX0 80 Lib.Math.abs.name, Cond.static Lib.Math.abs.name, Cond.code Lib.Math.abs.name Lib.Math.abs.code 1 (some .int), Cond.fieldLink RX0 16 "RiddleTrade$Exchange" "traders" "LRiddleTrade$Table;", Cond.methodLink RX0 110 yX0_refuse, Cond.instanceMethod yX0_refuse, Cond.selects RX0 yX0_refuse yX0_refuse, Cond.code yX0_refuse cX0_refuse 3 none, Cond.methodLink RX0 43 yX4_put, Cond.instanceMethod yX4_put, Cond.selects RX4 yX4_put yX4_put, Cond.code yX4_put cX4_put 5 none, Cond.methodLink RX0 114 yX0_driftOn, Cond.instanceMethod yX0_driftOn, Cond.selects RX0 yX0_driftOn yX0_driftOn, Cond.code yX0_driftOn cX0_driftOn 5 none, Cond.methodLink RX0 123 yX4_increase, Cond.instanceMethod yX4_increase, Cond.selects RX4 yX4_increase yX4_increase]
def wsX0_playRound_r4 : List Cond := [Cond.code yX4_increase cX4_increase 5 none, Cond.methodLink RX0 117 yX0_doubt, Cond.instanceMethod yX0_doubt, Cond.selects RX0 yX0_doubt yX0_doubt, Cond.code yX0_doubt cX0_doubt 2 none, Cond.methodLink RX0 76 yX3_addLast, Cond.instanceMethod yX3_addLast, Cond.selects RX3 yX3_addLast yX3_addLast, Cond.code yX3_addLast cX3_addLast 3 none, Cond.methodLink RX0 120 yX0_pay, Cond.instanceMethod yX0_pay, Cond.selects RX0 yX0_pay yX0_pay, Cond.code yX0_pay cX0_pay 4 none, Cond.methodLink RX0 101 yX0_chargeFees, Cond.instanceMethod yX0_chargeFees, Cond.selects RX0 yX0_chargeFees yX0_chargeFees, Cond.code yX0_chargeFees cX0_chargeFees 4 none]
def wsX0_playRound : List Cond := .code yX0_playRound cX0_playRound 4 (some .int) :: ((wsX0_playRound_r1 ++ (wsX0_playRound_r2 ++ (wsX0_playRound_r3 ++ wsX0_playRound_r4))) ++ wsX00 ++ wsX40 ++ wsX30)
def wsX0_playRounds_r1 : List Cond := [Cond.fieldLink RX0 57 "RiddleTrade$Exchange" "round" "I", Cond.methodLink RX0 86 yX0_playRound, Cond.instanceMethod yX0_playRound, Cond.selects RX0 yX0_playRound yX0_playRound, Cond.initialized RX0, Cond.code yX0_playRound cX0_playRound 4 (some .int), Cond.fieldLink RX0 29 "RiddleTrade$Exchange" "settings" "LRiddleTrade$Table;", Cond.fieldLink RX0 35 "RiddleTrade$Exchange" "row" "LRiddleTrade$Row;", Cond.methodLink RX0 92 Lib.Math.min.name, Cond.static Lib.Math.min.name, Cond.initialized "java/lang/Math", Cond.code Lib.Math.min.name Lib.Math.min.code 2 (some .int), Cond.methodLink RX0 68 yX4_get, Cond.instanceMethod yX4_get, Cond.selects RX4 yX4_get yX4_get, Cond.initialized RX4, Cond.code yX4_get cX4_get 4 (some .int), Cond.fieldLink RX4 15 "RiddleTrade$Table" "columns" "I", Cond.fieldLink RX4 9 "RiddleTrade$Table" "cells" "[I", Cond.methodLink RX0 89 yX3_length, Cond.instanceMethod yX3_length, Cond.selects RX3 yX3_length yX3_length, Cond.initialized RX3, Cond.code yX3_length cX3_length 1 (some .int)]
def wsX0_playRounds_r2 : List Cond := [Cond.fieldLink RX3 15 "RiddleTrade$Row" "length" "I", Cond.methodLink RX0 95 yX3_takeFirst, Cond.instanceMethod yX3_takeFirst, Cond.selects RX3 yX3_takeFirst yX3_takeFirst, Cond.code yX3_takeFirst cX3_takeFirst 2 (some .int), Cond.fieldLink RX3 19 "RiddleTrade$Row" "head" "I", Cond.methodLink RX3 22 yX3_at, Cond.instanceMethod yX3_at, Cond.selects RX3 yX3_at yX3_at, Cond.code yX3_at cX3_at 3 (some .int), Cond.fieldLink RX3 9 "RiddleTrade$Row" "ring" "[I", Cond.methodLink RX0 98 yX0_takeOne, Cond.instanceMethod yX0_takeOne, Cond.selects RX0 yX0_takeOne yX0_takeOne, Cond.code yX0_takeOne cX0_takeOne 4 (some .boolean), Cond.methodLink RX0 104 yX0_paymentFor, Cond.instanceMethod yX0_paymentFor, Cond.selects RX0 yX0_paymentFor yX0_paymentFor, Cond.code yX0_paymentFor cX0_paymentFor 4 (some .int), Cond.fieldLink RX0 23 "RiddleTrade$Exchange" "answers" "LRiddleTrade$Table;", Cond.fieldLink RX0 20 "RiddleTrade$Exchange" "riddles" "LRiddleTrade$Table;", Cond.methodLink RX0 129 yX0_told, Cond.instanceMethod yX0_told, Cond.selects RX0 yX0_told yX0_told]
def wsX0_playRounds_r3 : List Cond := [Cond.code yX0_told cX0_told 3 (some .int), Cond.fieldLink RX0 26 "RiddleTrade$Exchange" "scales" "LRiddleTrade$Table;", Cond.methodLink RX0 126 Lib.Math.max.name, Cond.static Lib.Math.max.name, Cond.code Lib.Math.max.name Lib.Math.max.code 2 (some .int), Cond.methodLink RX0 107 yX0_hindrance, Cond.instanceMethod yX0_hindrance, Cond.selects RX0 yX0_hindrance yX0_hindrance, Cond.code yX0_hindrance cX0_hindrance 6 (some .int), Cond.methodLink RX0 80 Lib.Math.abs.name, Cond.static Lib.Math.abs.name, Cond.code Lib.Math.abs.name Lib.Math.abs.code 1 (some .int), Cond.fieldLink RX0 16 "RiddleTrade$Exchange" "traders" "LRiddleTrade$Table;", Cond.methodLink RX0 110 yX0_refuse, Cond.instanceMethod yX0_refuse, Cond.selects RX0 yX0_refuse yX0_refuse, Cond.code yX0_refuse cX0_refuse 3 none, Cond.methodLink RX0 43 yX4_put, Cond.instanceMethod yX4_put, Cond.selects RX4 yX4_put yX4_put, Cond.code yX4_put cX4_put 5 none, Cond.methodLink RX0 114 yX0_driftOn, Cond.instanceMethod yX0_driftOn, Cond.selects RX0 yX0_driftOn yX0_driftOn]
def wsX0_playRounds_r4 : List Cond := [Cond.code yX0_driftOn cX0_driftOn 5 none, Cond.methodLink RX0 123 yX4_increase, Cond.instanceMethod yX4_increase, Cond.selects RX4 yX4_increase yX4_increase, Cond.code yX4_increase cX4_increase 5 none, Cond.methodLink RX0 117 yX0_doubt, Cond.instanceMethod yX0_doubt, Cond.selects RX0 yX0_doubt yX0_doubt, Cond.code yX0_doubt cX0_doubt 2 none, Cond.methodLink RX0 76 yX3_addLast, Cond.instanceMethod yX3_addLast, Cond.selects RX3 yX3_addLast yX3_addLast, Cond.code yX3_addLast cX3_addLast 3 none, Cond.methodLink RX0 120 yX0_pay, Cond.instanceMethod yX0_pay, Cond.selects RX0 yX0_pay yX0_pay, Cond.code yX0_pay cX0_pay 4 none, Cond.methodLink RX0 101 yX0_chargeFees, Cond.instanceMethod yX0_chargeFees, Cond.selects RX0 yX0_chargeFees yX0_chargeFees, Cond.code yX0_chargeFees cX0_chargeFees 4 none]
def wsX0_playRounds : List Cond := .code yX0_playRounds cX0_playRounds 4 (some .int) :: ((wsX0_playRounds_r1 ++ (wsX0_playRounds_r2 ++ (wsX0_playRounds_r3 ++ wsX0_playRounds_r4))) ++ wsX00 ++ wsX40 ++ wsX30)
def wsX0_errorIfNotWaiting : List Cond := .code yX0_errorIfNotWaiting cX0_errorIfNotWaiting 2 (some .int) :: ([.fieldLink RX0 23 "RiddleTrade$Exchange" "answers" "LRiddleTrade$Table;", .methodLink RX0 61 yX4_has, .instanceMethod yX4_has, .selects RX4 yX4_has yX4_has, .initialized RX4, .code yX4_has cX4_has 2 (some .boolean), .fieldLink RX4 19 "RiddleTrade$Table" "rows" "I", .methodLink RX0 68 yX4_get, .instanceMethod yX4_get, .selects RX4 yX4_get yX4_get, .code yX4_get cX4_get 4 (some .int), .fieldLink RX4 15 "RiddleTrade$Table" "columns" "I", .fieldLink RX4 9 "RiddleTrade$Table" "cells" "[I"] ++ wsX00 ++ wsX40)
def wsX0_waiting : List Cond := .code yX0_waiting cX0_waiting 1 (some .int) :: ([.fieldLink RX0 35 "RiddleTrade$Exchange" "row" "LRiddleTrade$Row;", .methodLink RX0 89 yX3_length, .instanceMethod yX3_length, .selects RX3 yX3_length yX3_length, .initialized RX3, .code yX3_length cX3_length 1 (some .int), .fieldLink RX3 15 "RiddleTrade$Row" "length" "I"] ++ wsX00 ++ wsX30)
def wsX0_waitingAt : List Cond := .code yX0_waitingAt cX0_waitingAt 2 (some .int) :: ([.fieldLink RX0 35 "RiddleTrade$Exchange" "row" "LRiddleTrade$Row;", .methodLink RX0 132 yX3_at, .instanceMethod yX3_at, .selects RX3 yX3_at yX3_at, .initialized RX3, .code yX3_at cX3_at 3 (some .int), .fieldLink RX3 15 "RiddleTrade$Row" "length" "I", .fieldLink RX3 19 "RiddleTrade$Row" "head" "I", .fieldLink RX3 9 "RiddleTrade$Row" "ring" "[I"] ++ wsX00 ++ wsX30)
def wsX4_countOf : List Cond := .code yX4_countOf cX4_countOf 5 (some .int) :: ([.fieldLink RX4 19 "RiddleTrade$Table" "rows" "I", .methodLink RX4 22 yX4_get, .instanceMethod yX4_get, .selects RX4 yX4_get yX4_get, .initialized RX4, .code yX4_get cX4_get 4 (some .int), .fieldLink RX4 15 "RiddleTrade$Table" "columns" "I", .fieldLink RX4 9 "RiddleTrade$Table" "cells" "[I"] ++ wsX40)
def wsX0_tellTrader_r1 : List Cond := [Cond.fieldLink RX0 16 "RiddleTrade$Exchange" "traders" "LRiddleTrade$Table;", Cond.methodLink RX0 126 Lib.Math.max.name, Cond.static Lib.Math.max.name, Cond.initialized "java/lang/Math", Cond.code Lib.Math.max.name Lib.Math.max.code 2 (some .int), Cond.fieldLink RX0 20 "RiddleTrade$Exchange" "riddles" "LRiddleTrade$Table;", Cond.fieldLink RX0 23 "RiddleTrade$Exchange" "answers" "LRiddleTrade$Table;", Cond.methodLink RX0 61 yX4_has, Cond.instanceMethod yX4_has, Cond.selects RX4 yX4_has yX4_has, Cond.initialized RX4, Cond.code yX4_has cX4_has 2 (some .boolean), Cond.fieldLink RX4 19 "RiddleTrade$Table" "rows" "I", Cond.methodLink RX0 68 yX4_get, Cond.instanceMethod yX4_get, Cond.selects RX4 yX4_get yX4_get, Cond.code yX4_get cX4_get 4 (some .int), Cond.fieldLink RX4 15 "RiddleTrade$Table" "columns" "I", Cond.fieldLink RX4 9 "RiddleTrade$Table" "cells" "[I", Cond.methodLink RX0 135 yX4_countOf, Cond.instanceMethod yX4_countOf, Cond.selects RX4 yX4_countOf yX4_countOf, Cond.code yX4_countOf cX4_countOf 5 (some .int), Cond.methodLink RX4 22 yX4_get]
def wsX0_tellTrader_r2 : List Cond := [Cond.methodLink RX0 72 yX4_countOfBoth, Cond.instanceMethod yX4_countOfBoth, Cond.selects RX4 yX4_countOfBoth yX4_countOfBoth, Cond.code yX4_countOfBoth cX4_countOfBoth 7 (some .int)]
def wsX0_tellTrader : List Cond := .code yX0_tellTrader cX0_tellTrader 3 (some .int) :: ((wsX0_tellTrader_r1 ++ wsX0_tellTrader_r2) ++ wsX00 ++ wsX40)
def wsX4_rowOfBoth : List Cond := .code yX4_rowOfBoth cX4_rowOfBoth 6 (some .int) :: ([.fieldLink RX4 19 "RiddleTrade$Table" "rows" "I", .methodLink RX4 22 yX4_get, .instanceMethod yX4_get, .selects RX4 yX4_get yX4_get, .initialized RX4, .code yX4_get cX4_get 4 (some .int), .fieldLink RX4 15 "RiddleTrade$Table" "columns" "I", .fieldLink RX4 9 "RiddleTrade$Table" "cells" "[I"] ++ wsX40)
def wsX0_tellRiddle_r1 : List Cond := [Cond.fieldLink RX0 20 "RiddleTrade$Exchange" "riddles" "LRiddleTrade$Table;", Cond.fieldLink RX0 23 "RiddleTrade$Exchange" "answers" "LRiddleTrade$Table;", Cond.methodLink RX0 61 yX4_has, Cond.instanceMethod yX4_has, Cond.selects RX4 yX4_has yX4_has, Cond.initialized RX4, Cond.code yX4_has cX4_has 2 (some .boolean), Cond.fieldLink RX4 19 "RiddleTrade$Table" "rows" "I", Cond.methodLink RX0 68 yX4_get, Cond.instanceMethod yX4_get, Cond.selects RX4 yX4_get yX4_get, Cond.code yX4_get cX4_get 4 (some .int), Cond.fieldLink RX4 15 "RiddleTrade$Table" "columns" "I", Cond.fieldLink RX4 9 "RiddleTrade$Table" "cells" "[I", Cond.methodLink RX0 135 yX4_countOf, Cond.instanceMethod yX4_countOf, Cond.selects RX4 yX4_countOf yX4_countOf, Cond.code yX4_countOf cX4_countOf 5 (some .int), Cond.methodLink RX4 22 yX4_get, Cond.methodLink RX0 72 yX4_countOfBoth, Cond.instanceMethod yX4_countOfBoth, Cond.selects RX4 yX4_countOfBoth yX4_countOfBoth, Cond.code yX4_countOfBoth cX4_countOfBoth 7 (some .int), Cond.methodLink RX0 138 yX4_rowOfBoth]
def wsX0_tellRiddle_r2 : List Cond := [Cond.instanceMethod yX4_rowOfBoth, Cond.selects RX4 yX4_rowOfBoth yX4_rowOfBoth, Cond.code yX4_rowOfBoth cX4_rowOfBoth 6 (some .int)]
def wsX0_tellRiddle : List Cond := .code yX0_tellRiddle cX0_tellRiddle 3 (some .int) :: ((wsX0_tellRiddle_r1 ++ wsX0_tellRiddle_r2) ++ wsX00 ++ wsX40)
def wsX3_placeOf : List Cond := .code yX3_placeOf cX3_placeOf 3 (some .int) :: ([.fieldLink RX3 15 "RiddleTrade$Row" "length" "I", .methodLink RX3 22 yX3_at, .instanceMethod yX3_at, .selects RX3 yX3_at yX3_at, .initialized RX3, .code yX3_at cX3_at 3 (some .int), .fieldLink RX3 19 "RiddleTrade$Row" "head" "I", .fieldLink RX3 9 "RiddleTrade$Row" "ring" "[I"] ++ wsX30)
def wsX0_tellAnswer_r1 : List Cond := [Cond.fieldLink RX0 23 "RiddleTrade$Exchange" "answers" "LRiddleTrade$Table;", Cond.fieldLink RX0 35 "RiddleTrade$Exchange" "row" "LRiddleTrade$Row;", Cond.methodLink RX0 61 yX4_has, Cond.instanceMethod yX4_has, Cond.selects RX4 yX4_has yX4_has, Cond.initialized RX4, Cond.code yX4_has cX4_has 2 (some .boolean), Cond.fieldLink RX4 19 "RiddleTrade$Table" "rows" "I", Cond.methodLink RX0 141 yX3_placeOf, Cond.instanceMethod yX3_placeOf, Cond.selects RX3 yX3_placeOf yX3_placeOf, Cond.initialized RX3, Cond.code yX3_placeOf cX3_placeOf 3 (some .int), Cond.fieldLink RX3 15 "RiddleTrade$Row" "length" "I", Cond.methodLink RX3 22 yX3_at, Cond.instanceMethod yX3_at, Cond.selects RX3 yX3_at yX3_at, Cond.code yX3_at cX3_at 3 (some .int), Cond.fieldLink RX3 19 "RiddleTrade$Row" "head" "I", Cond.fieldLink RX3 9 "RiddleTrade$Row" "ring" "[I", Cond.methodLink RX0 68 yX4_get, Cond.instanceMethod yX4_get, Cond.selects RX4 yX4_get yX4_get, Cond.code yX4_get cX4_get 4 (some .int)]
def wsX0_tellAnswer_r2 : List Cond := [Cond.fieldLink RX4 15 "RiddleTrade$Table" "columns" "I", Cond.fieldLink RX4 9 "RiddleTrade$Table" "cells" "[I"]
def wsX0_tellAnswer : List Cond := .code yX0_tellAnswer cX0_tellAnswer 3 (some .int) :: ((wsX0_tellAnswer_r1 ++ wsX0_tellAnswer_r2) ++ wsX00 ++ wsX40 ++ wsX30)
def wsX0_richestTrader : List Cond := .code yX0_richestTrader cX0_richestTrader 3 (some .int) :: ([.fieldLink RX0 16 "RiddleTrade$Exchange" "traders" "LRiddleTrade$Table;", .methodLink RX0 68 yX4_get, .instanceMethod yX4_get, .selects RX4 yX4_get yX4_get, .initialized RX4, .code yX4_get cX4_get 4 (some .int), .fieldLink RX4 15 "RiddleTrade$Table" "columns" "I", .fieldLink RX4 9 "RiddleTrade$Table" "cells" "[I"] ++ wsX00 ++ wsX40)
def wsX0_tellAccount : List Cond := .code yX0_tellAccount cX0_tellAccount 5 (some .int) :: ([.fieldLink RX0 16 "RiddleTrade$Exchange" "traders" "LRiddleTrade$Table;", .fieldLink RX0 23 "RiddleTrade$Exchange" "answers" "LRiddleTrade$Table;", .fieldLink RX0 20 "RiddleTrade$Exchange" "riddles" "LRiddleTrade$Table;", .constant RX0 144 (100000), .methodLink RX0 61 yX4_has, .instanceMethod yX4_has, .selects RX4 yX4_has yX4_has, .initialized RX4, .code yX4_has cX4_has 2 (some .boolean), .fieldLink RX4 19 "RiddleTrade$Table" "rows" "I", .methodLink RX0 68 yX4_get, .instanceMethod yX4_get, .selects RX4 yX4_get yX4_get, .code yX4_get cX4_get 4 (some .int), .fieldLink RX4 15 "RiddleTrade$Table" "columns" "I", .fieldLink RX4 9 "RiddleTrade$Table" "cells" "[I", .methodLink RX0 65 yX4_rows, .instanceMethod yX4_rows, .selects RX4 yX4_rows yX4_rows, .code yX4_rows cX4_rows 1 (some .int)] ++ wsX00 ++ wsX40)
def wsX4_sumOf : List Cond := .code yX4_sumOf cX4_sumOf 4 (some .int) :: ([.fieldLink RX4 19 "RiddleTrade$Table" "rows" "I", .methodLink RX4 22 yX4_get, .instanceMethod yX4_get, .selects RX4 yX4_get yX4_get, .initialized RX4, .code yX4_get cX4_get 4 (some .int), .fieldLink RX4 15 "RiddleTrade$Table" "columns" "I", .fieldLink RX4 9 "RiddleTrade$Table" "cells" "[I"] ++ wsX40)
def wsX0_tradersInDebt : List Cond := .code yX0_tradersInDebt cX0_tradersInDebt 3 (some .int) :: ([.fieldLink RX0 16 "RiddleTrade$Exchange" "traders" "LRiddleTrade$Table;", .methodLink RX0 68 yX4_get, .instanceMethod yX4_get, .selects RX4 yX4_get yX4_get, .initialized RX4, .code yX4_get cX4_get 4 (some .int), .fieldLink RX4 15 "RiddleTrade$Table" "columns" "I", .fieldLink RX4 9 "RiddleTrade$Table" "cells" "[I"] ++ wsX00 ++ wsX40)
def wsX0_tellCount_r1 : List Cond := [Cond.fieldLink RX0 57 "RiddleTrade$Exchange" "round" "I", Cond.fieldLink RX0 20 "RiddleTrade$Exchange" "riddles" "LRiddleTrade$Table;", Cond.fieldLink RX0 23 "RiddleTrade$Exchange" "answers" "LRiddleTrade$Table;", Cond.fieldLink RX0 35 "RiddleTrade$Exchange" "row" "LRiddleTrade$Row;", Cond.fieldLink RX0 26 "RiddleTrade$Exchange" "scales" "LRiddleTrade$Table;", Cond.fieldLink RX0 16 "RiddleTrade$Exchange" "traders" "LRiddleTrade$Table;", Cond.fieldLink RX0 29 "RiddleTrade$Exchange" "settings" "LRiddleTrade$Table;", Cond.methodLink RX0 65 yX4_rows, Cond.instanceMethod yX4_rows, Cond.selects RX4 yX4_rows yX4_rows, Cond.initialized RX4, Cond.code yX4_rows cX4_rows 1 (some .int), Cond.fieldLink RX4 19 "RiddleTrade$Table" "rows" "I", Cond.methodLink RX0 135 yX4_countOf, Cond.instanceMethod yX4_countOf, Cond.selects RX4 yX4_countOf yX4_countOf, Cond.code yX4_countOf cX4_countOf 5 (some .int), Cond.methodLink RX4 22 yX4_get, Cond.instanceMethod yX4_get, Cond.selects RX4 yX4_get yX4_get, Cond.code yX4_get cX4_get 4 (some .int), Cond.fieldLink RX4 15 "RiddleTrade$Table" "columns" "I", Cond.fieldLink RX4 9 "RiddleTrade$Table" "cells" "[I", Cond.methodLink RX0 89 yX3_length]
def wsX0_tellCount_r2 : List Cond := [Cond.instanceMethod yX3_length, Cond.selects RX3 yX3_length yX3_length, Cond.initialized RX3, Cond.code yX3_length cX3_length 1 (some .int), Cond.fieldLink RX3 15 "RiddleTrade$Row" "length" "I", Cond.methodLink RX0 145 yX4_sumOf, Cond.instanceMethod yX4_sumOf, Cond.selects RX4 yX4_sumOf yX4_sumOf, Cond.code yX4_sumOf cX4_sumOf 4 (some .int), Cond.methodLink RX0 148 yX0_tradersInDebt, Cond.instanceMethod yX0_tradersInDebt, Cond.selects RX0 yX0_tradersInDebt yX0_tradersInDebt, Cond.initialized RX0, Cond.code yX0_tradersInDebt cX0_tradersInDebt 3 (some .int), Cond.methodLink RX0 68 yX4_get]
def wsX0_tellCount : List Cond := .code yX0_tellCount cX0_tellCount 2 (some .int) :: ((wsX0_tellCount_r1 ++ wsX0_tellCount_r2) ++ wsX00 ++ wsX40 ++ wsX30)
def wsX1_init_r1 : List Cond := [Cond.methodLink RX1 3 objectInit, Cond.instanceMethod objectInit, Cond.code objectInit ⟨#[0xb1]⟩ 1 none, Cond.classLink RX1 9 RX0, Cond.fieldLink RX1 11 "RiddleTrade$History" "states" "[LRiddleTrade$Exchange;", Cond.instantiable RX0 7, Cond.initialized RX0, Cond.methodLink RX1 17 yX0_init, Cond.instanceMethod yX0_init, Cond.code yX0_init cX0_init 2 none, Cond.methodLink RX0 3 objectInit, Cond.classLink RX0 9 RX4, Cond.instantiable RX4 3, Cond.initialized RX4, Cond.arrayClass .int, Cond.fieldLink RX0 16 "RiddleTrade$Exchange" "traders" "LRiddleTrade$Table;", Cond.fieldLink RX0 20 "RiddleTrade$Exchange" "riddles" "LRiddleTrade$Table;", Cond.fieldLink RX0 23 "RiddleTrade$Exchange" "answers" "LRiddleTrade$Table;", Cond.fieldLink RX0 26 "RiddleTrade$Exchange" "scales" "LRiddleTrade$Table;", Cond.fieldLink RX0 29 "RiddleTrade$Exchange" "settings" "LRiddleTrade$Table;", Cond.classLink RX0 32 RX3, Cond.instantiable RX3 3, Cond.initialized RX3, Cond.fieldLink RX0 35 "RiddleTrade$Exchange" "row" "LRiddleTrade$Row;"]
def wsX1_init_r2 : List Cond := [Cond.methodLink RX0 13 yX4_init, Cond.instanceMethod yX4_init, Cond.code yX4_init cX4_init 3 none, Cond.methodLink RX4 3 objectInit, Cond.fieldLink RX4 9 "RiddleTrade$Table" "cells" "[I", Cond.fieldLink RX4 15 "RiddleTrade$Table" "columns" "I", Cond.instanceMethod yX3_init, Cond.code yX3_init cX3_init 1 none, Cond.methodLink RX3 3 objectInit, Cond.fieldLink RX3 9 "RiddleTrade$Row" "ring" "[I", Cond.methodLink RX0 39 yX4_addRow, Cond.instanceMethod yX4_addRow, Cond.selects RX4 yX4_addRow yX4_addRow, Cond.code yX4_addRow cX4_addRow 1 (some .int), Cond.fieldLink RX4 19 "RiddleTrade$Table" "rows" "I", Cond.methodLink RX0 43 yX4_put, Cond.instanceMethod yX4_put, Cond.selects RX4 yX4_put yX4_put, Cond.code yX4_put cX4_put 5 none, Cond.methodLink RX0 47 yX0_addSetting, Cond.instanceMethod yX0_addSetting, Cond.selects RX0 yX0_addSetting yX0_addSetting, Cond.code yX0_addSetting cX0_addSetting 5 none]
def wsX1_init : List Cond := .code yX1_init cX1_init 2 none :: ((wsX1_init_r1 ++ wsX1_init_r2) ++ wsX10 ++ wsX00 ++ wsX40 ++ wsX30)
def wsX1_size : List Cond := .code yX1_size cX1_size 1 (some .int) :: ([.fieldLink RX1 18 "RiddleTrade$History" "size" "I"] ++ wsX10)
def wsX1_stateAt : List Cond := .code yX1_stateAt cX1_stateAt 3 (some (.object "RiddleTrade$Exchange")) :: ([.fieldLink RX1 22 "RiddleTrade$History" "oldest" "I", .fieldLink RX1 11 "RiddleTrade$History" "states" "[LRiddleTrade$Exchange;"] ++ wsX10)
def wsX1_record_r1 : List Cond := [Cond.fieldLink RX1 18 "RiddleTrade$History" "size" "I", Cond.fieldLink RX1 22 "RiddleTrade$History" "oldest" "I", Cond.methodLink RX1 25 yX1_stateAt, Cond.instanceMethod yX1_stateAt, Cond.selects RX1 yX1_stateAt yX1_stateAt, Cond.initialized RX1, Cond.code yX1_stateAt cX1_stateAt 3 (some (.object "RiddleTrade$Exchange")), Cond.fieldLink RX1 11 "RiddleTrade$History" "states" "[LRiddleTrade$Exchange;", Cond.methodLink RX1 29 yX0_copyFrom, Cond.instanceMethod yX0_copyFrom, Cond.selects RX0 yX0_copyFrom yX0_copyFrom, Cond.initialized RX0, Cond.code yX0_copyFrom cX0_copyFrom 2 none, Cond.fieldLink RX0 16 "RiddleTrade$Exchange" "traders" "LRiddleTrade$Table;", Cond.fieldLink RX0 20 "RiddleTrade$Exchange" "riddles" "LRiddleTrade$Table;", Cond.fieldLink RX0 23 "RiddleTrade$Exchange" "answers" "LRiddleTrade$Table;", Cond.fieldLink RX0 26 "RiddleTrade$Exchange" "scales" "LRiddleTrade$Table;", Cond.fieldLink RX0 29 "RiddleTrade$Exchange" "settings" "LRiddleTrade$Table;", Cond.fieldLink RX0 35 "RiddleTrade$Exchange" "row" "LRiddleTrade$Row;", Cond.fieldLink RX0 57 "RiddleTrade$Exchange" "round" "I", Cond.methodLink RX0 50 yX4_copyFrom, Cond.instanceMethod yX4_copyFrom, Cond.selects RX4 yX4_copyFrom yX4_copyFrom, Cond.initialized RX4]
def wsX1_record_r2 : List Cond := [Cond.code yX4_copyFrom cX4_copyFrom 2 none, Cond.fieldLink RX4 19 "RiddleTrade$Table" "rows" "I", Cond.fieldLink RX4 9 "RiddleTrade$Table" "cells" "[I", Cond.methodLink RX4 26 Lib.Math.min.name, Cond.static Lib.Math.min.name, Cond.initialized "java/lang/Math", Cond.code Lib.Math.min.name Lib.Math.min.code 2 (some .int), Cond.methodLink RX4 31 arraycopyName, Cond.native arraycopyName, Cond.static arraycopyName, Cond.initialized "java/lang/System", Cond.methodLink RX0 54 yX3_copyFrom, Cond.instanceMethod yX3_copyFrom, Cond.selects RX3 yX3_copyFrom yX3_copyFrom, Cond.initialized RX3, Cond.code yX3_copyFrom cX3_copyFrom 2 none, Cond.fieldLink RX3 19 "RiddleTrade$Row" "head" "I", Cond.fieldLink RX3 15 "RiddleTrade$Row" "length" "I", Cond.fieldLink RX3 9 "RiddleTrade$Row" "ring" "[I", Cond.methodLink RX3 26 Lib.Math.min.name, Cond.methodLink RX3 32 arraycopyName]
def wsX1_record : List Cond := .code yX1_record cX1_record 3 none :: ((wsX1_record_r1 ++ wsX1_record_r2) ++ wsX10 ++ wsX00 ++ wsX40 ++ wsX30)
def wsX1_takeBackInto_r1 : List Cond := [Cond.fieldLink RX1 18 "RiddleTrade$History" "size" "I", Cond.methodLink RX1 25 yX1_stateAt, Cond.instanceMethod yX1_stateAt, Cond.selects RX1 yX1_stateAt yX1_stateAt, Cond.initialized RX1, Cond.code yX1_stateAt cX1_stateAt 3 (some (.object "RiddleTrade$Exchange")), Cond.fieldLink RX1 22 "RiddleTrade$History" "oldest" "I", Cond.fieldLink RX1 11 "RiddleTrade$History" "states" "[LRiddleTrade$Exchange;", Cond.methodLink RX1 29 yX0_copyFrom, Cond.instanceMethod yX0_copyFrom, Cond.selects RX0 yX0_copyFrom yX0_copyFrom, Cond.initialized RX0, Cond.code yX0_copyFrom cX0_copyFrom 2 none, Cond.fieldLink RX0 16 "RiddleTrade$Exchange" "traders" "LRiddleTrade$Table;", Cond.fieldLink RX0 20 "RiddleTrade$Exchange" "riddles" "LRiddleTrade$Table;", Cond.fieldLink RX0 23 "RiddleTrade$Exchange" "answers" "LRiddleTrade$Table;", Cond.fieldLink RX0 26 "RiddleTrade$Exchange" "scales" "LRiddleTrade$Table;", Cond.fieldLink RX0 29 "RiddleTrade$Exchange" "settings" "LRiddleTrade$Table;", Cond.fieldLink RX0 35 "RiddleTrade$Exchange" "row" "LRiddleTrade$Row;", Cond.fieldLink RX0 57 "RiddleTrade$Exchange" "round" "I", Cond.methodLink RX0 50 yX4_copyFrom, Cond.instanceMethod yX4_copyFrom, Cond.selects RX4 yX4_copyFrom yX4_copyFrom, Cond.initialized RX4]
def wsX1_takeBackInto_r2 : List Cond := [Cond.code yX4_copyFrom cX4_copyFrom 2 none, Cond.fieldLink RX4 19 "RiddleTrade$Table" "rows" "I", Cond.fieldLink RX4 9 "RiddleTrade$Table" "cells" "[I", Cond.methodLink RX4 26 Lib.Math.min.name, Cond.static Lib.Math.min.name, Cond.initialized "java/lang/Math", Cond.code Lib.Math.min.name Lib.Math.min.code 2 (some .int), Cond.methodLink RX4 31 arraycopyName, Cond.native arraycopyName, Cond.static arraycopyName, Cond.initialized "java/lang/System", Cond.methodLink RX0 54 yX3_copyFrom, Cond.instanceMethod yX3_copyFrom, Cond.selects RX3 yX3_copyFrom yX3_copyFrom, Cond.initialized RX3, Cond.code yX3_copyFrom cX3_copyFrom 2 none, Cond.fieldLink RX3 19 "RiddleTrade$Row" "head" "I", Cond.fieldLink RX3 15 "RiddleTrade$Row" "length" "I", Cond.fieldLink RX3 9 "RiddleTrade$Row" "ring" "[I", Cond.methodLink RX3 26 Lib.Math.min.name, Cond.methodLink RX3 32 arraycopyName]
def wsX1_takeBackInto : List Cond := .code yX1_takeBackInto cX1_takeBackInto 3 (some .int) :: ((wsX1_takeBackInto_r1 ++ wsX1_takeBackInto_r2) ++ wsX10 ++ wsX00 ++ wsX40 ++ wsX30)
def wsX2_init : List Cond := .code yX2_init cX2_init 1 none :: ([.methodLink RX2 3 objectInit, .instanceMethod objectInit, .code objectInit ⟨#[0xb1]⟩ 1 none, .arrayClass .char, .fieldLink RX2 9 "RiddleTrade$Offers" "text" "[C", .classLink RX2 15 RX4, .instantiable RX4 3, .initialized RX4, .arrayClass .int, .fieldLink RX2 20 "RiddleTrade$Offers" "things" "LRiddleTrade$Table;", .methodLink RX2 17 yX4_init, .instanceMethod yX4_init, .code yX4_init cX4_init 3 none, .methodLink RX4 3 objectInit, .fieldLink RX4 9 "RiddleTrade$Table" "cells" "[I", .fieldLink RX4 15 "RiddleTrade$Table" "columns" "I"] ++ wsX20 ++ wsX40)
def wsX2_textLength : List Cond := .code yX2_textLength cX2_textLength 1 (some .int) :: ([.fieldLink RX2 24 "RiddleTrade$Offers" "length" "I"] ++ wsX20)
def wsX2_addCharacter : List Cond := .code yX2_addCharacter cX2_addCharacter 2 (some .int) :: ([.fieldLink RX2 24 "RiddleTrade$Offers" "length" "I", .fieldLink RX2 9 "RiddleTrade$Offers" "text" "[C"] ++ wsX20)
def wsX2_emptyText : List Cond := .code yX2_emptyText cX2_emptyText 2 (some .int) :: ([.fieldLink RX2 24 "RiddleTrade$Offers" "length" "I"] ++ wsX20)
def wsX2_thingCount : List Cond := .code yX2_thingCount cX2_thingCount 1 (some .int) :: ([.fieldLink RX2 20 "RiddleTrade$Offers" "things" "LRiddleTrade$Table;", .methodLink RX2 28 yX4_rows, .instanceMethod yX4_rows, .selects RX4 yX4_rows yX4_rows, .initialized RX4, .code yX4_rows cX4_rows 1 (some .int), .fieldLink RX4 19 "RiddleTrade$Table" "rows" "I"] ++ wsX20 ++ wsX40)
def wsX2_numberOf : List Cond := .code yX2_numberOf cX2_numberOf 3 (some .int) :: ([.fieldLink RX2 20 "RiddleTrade$Offers" "things" "LRiddleTrade$Table;", .methodLink RX2 32 yX4_get, .instanceMethod yX4_get, .selects RX4 yX4_get yX4_get, .initialized RX4, .code yX4_get cX4_get 4 (some .int), .fieldLink RX4 15 "RiddleTrade$Table" "columns" "I", .fieldLink RX4 9 "RiddleTrade$Table" "cells" "[I"] ++ wsX20 ++ wsX40)
def wsX4_dropRows : List Cond := .code yX4_dropRows cX4_dropRows 1 none :: ([.fieldLink RX4 19 "RiddleTrade$Table" "rows" "I"] ++ wsX40)
def wsX2_here : List Cond := .code yX2_here cX2_here 2 (some .int) :: ([.fieldLink RX2 39 "RiddleTrade$Offers" "position" "I", .fieldLink RX2 24 "RiddleTrade$Offers" "length" "I", .fieldLink RX2 9 "RiddleTrade$Offers" "text" "[C", .fieldLink RX2 42 "RiddleTrade$Offers" "faulty" "Z"] ++ wsX20)
def wsX2_digitHere : List Cond := .code yX2_digitHere cX2_digitHere 2 (some .int) :: ([.methodLink RX2 56 yX2_here, .instanceMethod yX2_here, .selects RX2 yX2_here yX2_here, .initialized RX2, .code yX2_here cX2_here 2 (some .int), .fieldLink RX2 39 "RiddleTrade$Offers" "position" "I", .fieldLink RX2 24 "RiddleTrade$Offers" "length" "I", .fieldLink RX2 9 "RiddleTrade$Offers" "text" "[C", .fieldLink RX2 42 "RiddleTrade$Offers" "faulty" "Z"] ++ wsX20)
def wsX2_readNumber : List Cond := .code yX2_readNumber cX2_readNumber 7 none :: ([.fieldLink RX2 42 "RiddleTrade$Offers" "faulty" "Z", .fieldLink RX2 39 "RiddleTrade$Offers" "position" "I", .fieldLink RX2 20 "RiddleTrade$Offers" "things" "LRiddleTrade$Table;", .methodLink RX2 67 yX2_digitHere, .instanceMethod yX2_digitHere, .selects RX2 yX2_digitHere yX2_digitHere, .initialized RX2, .code yX2_digitHere cX2_digitHere 2 (some .int), .methodLink RX2 56 yX2_here, .instanceMethod yX2_here, .selects RX2 yX2_here yX2_here, .code yX2_here cX2_here 2 (some .int), .fieldLink RX2 24 "RiddleTrade$Offers" "length" "I", .fieldLink RX2 9 "RiddleTrade$Offers" "text" "[C", .methodLink RX2 59 yX4_put, .instanceMethod yX4_put, .selects RX4 yX4_put yX4_put, .initialized RX4, .code yX4_put cX4_put 5 none, .fieldLink RX4 15 "RiddleTrade$Table" "columns" "I", .fieldLink RX4 9 "RiddleTrade$Table" "cells" "[I"] ++ wsX20 ++ wsX40)
def wsX2_expect : List Cond := .code yX2_expect cX2_expect 2 none :: ([.fieldLink RX2 39 "RiddleTrade$Offers" "position" "I", .fieldLink RX2 42 "RiddleTrade$Offers" "faulty" "Z", .methodLink RX2 56 yX2_here, .instanceMethod yX2_here, .selects RX2 yX2_here yX2_here, .initialized RX2, .code yX2_here cX2_here 2 (some .int), .fieldLink RX2 24 "RiddleTrade$Offers" "length" "I", .fieldLink RX2 9 "RiddleTrade$Offers" "text" "[C"] ++ wsX20)
def wsX2_readThing_r1 : List Cond := [Cond.fieldLink RX2 39 "RiddleTrade$Offers" "position" "I", Cond.fieldLink RX2 20 "RiddleTrade$Offers" "things" "LRiddleTrade$Table;", Cond.fieldLink RX2 42 "RiddleTrade$Offers" "faulty" "Z", Cond.methodLink RX2 56 yX2_here, Cond.instanceMethod yX2_here, Cond.selects RX2 yX2_here yX2_here, Cond.initialized RX2, Cond.code yX2_here cX2_here 2 (some .int), Cond.fieldLink RX2 24 "RiddleTrade$Offers" "length" "I", Cond.fieldLink RX2 9 "RiddleTrade$Offers" "text" "[C", Cond.methodLink RX2 59 yX4_put, Cond.instanceMethod yX4_put, Cond.selects RX4 yX4_put yX4_put, Cond.initialized RX4, Cond.code yX4_put cX4_put 5 none, Cond.fieldLink RX4 15 "RiddleTrade$Table" "columns" "I", Cond.fieldLink RX4 9 "RiddleTrade$Table" "cells" "[I", Cond.methodLink RX2 63 yX2_readNumber, Cond.instanceMethod yX2_readNumber, Cond.selects RX2 yX2_readNumber yX2_readNumber, Cond.code yX2_readNumber cX2_readNumber 7 none, Cond.methodLink RX2 67 yX2_digitHere, Cond.instanceMethod yX2_digitHere, Cond.selects RX2 yX2_digitHere yX2_digitHere]
def wsX2_readThing_r2 : List Cond := [Cond.code yX2_digitHere cX2_digitHere 2 (some .int), Cond.methodLink RX2 53 yX2_expect, Cond.instanceMethod yX2_expect, Cond.selects RX2 yX2_expect yX2_expect, Cond.code yX2_expect cX2_expect 2 none]
def wsX2_readThing : List Cond := .code yX2_readThing cX2_readThing 2 none :: ((wsX2_readThing_r1 ++ wsX2_readThing_r2) ++ wsX20 ++ wsX40)
def wsX2_read_r1 : List Cond := [Cond.fieldLink RX2 20 "RiddleTrade$Offers" "things" "LRiddleTrade$Table;", Cond.fieldLink RX2 39 "RiddleTrade$Offers" "position" "I", Cond.fieldLink RX2 42 "RiddleTrade$Offers" "faulty" "Z", Cond.fieldLink RX2 24 "RiddleTrade$Offers" "length" "I", Cond.methodLink RX2 36 yX4_dropRows, Cond.instanceMethod yX4_dropRows, Cond.selects RX4 yX4_dropRows yX4_dropRows, Cond.initialized RX4, Cond.code yX4_dropRows cX4_dropRows 1 none, Cond.fieldLink RX4 19 "RiddleTrade$Table" "rows" "I", Cond.methodLink RX2 46 yX4_addRow, Cond.instanceMethod yX4_addRow, Cond.selects RX4 yX4_addRow yX4_addRow, Cond.code yX4_addRow cX4_addRow 1 (some .int), Cond.methodLink RX2 49 yX2_readThing, Cond.instanceMethod yX2_readThing, Cond.selects RX2 yX2_readThing yX2_readThing, Cond.initialized RX2, Cond.code yX2_readThing cX2_readThing 2 none, Cond.methodLink RX2 56 yX2_here, Cond.instanceMethod yX2_here, Cond.selects RX2 yX2_here yX2_here, Cond.code yX2_here cX2_here 2 (some .int), Cond.fieldLink RX2 9 "RiddleTrade$Offers" "text" "[C"]
def wsX2_read_r2 : List Cond := [Cond.methodLink RX2 59 yX4_put, Cond.instanceMethod yX4_put, Cond.selects RX4 yX4_put yX4_put, Cond.code yX4_put cX4_put 5 none, Cond.fieldLink RX4 15 "RiddleTrade$Table" "columns" "I", Cond.fieldLink RX4 9 "RiddleTrade$Table" "cells" "[I", Cond.methodLink RX2 63 yX2_readNumber, Cond.instanceMethod yX2_readNumber, Cond.selects RX2 yX2_readNumber yX2_readNumber, Cond.code yX2_readNumber cX2_readNumber 7 none, Cond.methodLink RX2 67 yX2_digitHere, Cond.instanceMethod yX2_digitHere, Cond.selects RX2 yX2_digitHere yX2_digitHere, Cond.code yX2_digitHere cX2_digitHere 2 (some .int), Cond.methodLink RX2 53 yX2_expect, Cond.instanceMethod yX2_expect, Cond.selects RX2 yX2_expect yX2_expect, Cond.code yX2_expect cX2_expect 2 none]
def wsX2_read : List Cond := .code yX2_read cX2_read 2 (some .int) :: ((wsX2_read_r1 ++ wsX2_read_r2) ++ wsX20 ++ wsX40)
def wsX5_init_r1 : List Cond := [Cond.methodLink RX5 1 objectInit, Cond.instanceMethod objectInit, Cond.code objectInit ⟨#[0xb1]⟩ 1 none, Cond.classLink RX5 7 RX0, Cond.instantiable RX0 7, Cond.initialized RX0, Cond.fieldLink RX5 10 "RiddleTrade" "now" "LRiddleTrade$Exchange;", Cond.fieldLink RX5 16 "RiddleTrade" "trial" "LRiddleTrade$Exchange;", Cond.fieldLink RX5 19 "RiddleTrade" "snapshot" "LRiddleTrade$Exchange;", Cond.classLink RX5 22 RX1, Cond.instantiable RX1 3, Cond.initialized RX1, Cond.fieldLink RX5 25 "RiddleTrade" "history" "LRiddleTrade$History;", Cond.classLink RX5 29 RX2, Cond.instantiable RX2 5, Cond.initialized RX2, Cond.fieldLink RX5 32 "RiddleTrade" "offers" "LRiddleTrade$Offers;", Cond.fieldLink RX5 36 "RiddleTrade" "stoppedNumber" "I", Cond.fieldLink RX5 40 "RiddleTrade" "stoppedError" "I", Cond.methodLink RX5 9 yX0_init, Cond.instanceMethod yX0_init, Cond.code yX0_init cX0_init 2 none, Cond.methodLink RX0 3 objectInit, Cond.classLink RX0 9 RX4]
def wsX5_init_r2 : List Cond := [Cond.instantiable RX4 3, Cond.initialized RX4, Cond.arrayClass .int, Cond.fieldLink RX0 16 "RiddleTrade$Exchange" "traders" "LRiddleTrade$Table;", Cond.fieldLink RX0 20 "RiddleTrade$Exchange" "riddles" "LRiddleTrade$Table;", Cond.fieldLink RX0 23 "RiddleTrade$Exchange" "answers" "LRiddleTrade$Table;", Cond.fieldLink RX0 26 "RiddleTrade$Exchange" "scales" "LRiddleTrade$Table;", Cond.fieldLink RX0 29 "RiddleTrade$Exchange" "settings" "LRiddleTrade$Table;", Cond.classLink RX0 32 RX3, Cond.instantiable RX3 3, Cond.initialized RX3, Cond.fieldLink RX0 35 "RiddleTrade$Exchange" "row" "LRiddleTrade$Row;", Cond.methodLink RX0 13 yX4_init, Cond.instanceMethod yX4_init, Cond.code yX4_init cX4_init 3 none, Cond.methodLink RX4 3 objectInit, Cond.fieldLink RX4 9 "RiddleTrade$Table" "cells" "[I", Cond.fieldLink RX4 15 "RiddleTrade$Table" "columns" "I", Cond.instanceMethod yX3_init, Cond.code yX3_init cX3_init 1 none, Cond.methodLink RX3 3 objectInit, Cond.fieldLink RX3 9 "RiddleTrade$Row" "ring" "[I", Cond.methodLink RX0 39 yX4_addRow, Cond.instanceMethod yX4_addRow]
def wsX5_init_r3 : List Cond := [Cond.selects RX4 yX4_addRow yX4_addRow, Cond.code yX4_addRow cX4_addRow 1 (some .int), Cond.fieldLink RX4 19 "RiddleTrade$Table" "rows" "I", Cond.methodLink RX0 43 yX4_put, Cond.instanceMethod yX4_put, Cond.selects RX4 yX4_put yX4_put, Cond.code yX4_put cX4_put 5 none, Cond.methodLink RX0 47 yX0_addSetting, Cond.instanceMethod yX0_addSetting, Cond.selects RX0 yX0_addSetting yX0_addSetting, Cond.code yX0_addSetting cX0_addSetting 5 none, Cond.methodLink RX5 24 yX1_init, Cond.instanceMethod yX1_init, Cond.code yX1_init cX1_init 2 none, Cond.methodLink RX1 3 objectInit, Cond.classLink RX1 9 RX0, Cond.fieldLink RX1 11 "RiddleTrade$History" "states" "[LRiddleTrade$Exchange;", Cond.methodLink RX1 17 yX0_init, Cond.instanceMethod yX2_init, Cond.code yX2_init cX2_init 1 none, Cond.methodLink RX2 3 objectInit, Cond.arrayClass .char, Cond.fieldLink RX2 9 "RiddleTrade$Offers" "text" "[C", Cond.classLink RX2 15 RX4]
def wsX5_init_r4 : List Cond := [Cond.fieldLink RX2 20 "RiddleTrade$Offers" "things" "LRiddleTrade$Table;", Cond.methodLink RX2 17 yX4_init]
def wsX5_init : List Cond := .code yX5_init cX5_init 1 none :: ((wsX5_init_r1 ++ (wsX5_init_r2 ++ (wsX5_init_r3 ++ wsX5_init_r4))) ++ wsX00 ++ wsX50 ++ wsX10 ++ wsX20 ++ wsX40 ++ wsX30)
def wsX5_finishAct_r1 : List Cond := [Cond.fieldLink RX5 25 "RiddleTrade" "history" "LRiddleTrade$History;", Cond.fieldLink RX5 10 "RiddleTrade" "now" "LRiddleTrade$Exchange;", Cond.fieldLink RX5 16 "RiddleTrade" "trial" "LRiddleTrade$Exchange;", Cond.methodLink RX5 142 yX1_record, Cond.instanceMethod yX1_record, Cond.selects RX1 yX1_record yX1_record, Cond.initialized RX1, Cond.code yX1_record cX1_record 3 none, Cond.fieldLink RX1 18 "RiddleTrade$History" "size" "I", Cond.fieldLink RX1 22 "RiddleTrade$History" "oldest" "I", Cond.methodLink RX1 25 yX1_stateAt, Cond.instanceMethod yX1_stateAt, Cond.selects RX1 yX1_stateAt yX1_stateAt, Cond.code yX1_stateAt cX1_stateAt 3 (some (.object "RiddleTrade$Exchange")), Cond.fieldLink RX1 11 "RiddleTrade$History" "states" "[LRiddleTrade$Exchange;", Cond.methodLink RX1 29 yX0_copyFrom, Cond.instanceMethod yX0_copyFrom, Cond.selects RX0 yX0_copyFrom yX0_copyFrom, Cond.initialized RX0, Cond.code yX0_copyFrom cX0_copyFrom 2 none, Cond.fieldLink RX0 16 "RiddleTrade$Exchange" "traders" "LRiddleTrade$Table;", Cond.fieldLink RX0 20 "RiddleTrade$Exchange" "riddles" "LRiddleTrade$Table;", Cond.fieldLink RX0 23 "RiddleTrade$Exchange" "answers" "LRiddleTrade$Table;", Cond.fieldLink RX0 26 "RiddleTrade$Exchange" "scales" "LRiddleTrade$Table;"]
def wsX5_finishAct_r2 : List Cond := [Cond.fieldLink RX0 29 "RiddleTrade$Exchange" "settings" "LRiddleTrade$Table;", Cond.fieldLink RX0 35 "RiddleTrade$Exchange" "row" "LRiddleTrade$Row;", Cond.fieldLink RX0 57 "RiddleTrade$Exchange" "round" "I", Cond.methodLink RX0 50 yX4_copyFrom, Cond.instanceMethod yX4_copyFrom, Cond.selects RX4 yX4_copyFrom yX4_copyFrom, Cond.initialized RX4, Cond.code yX4_copyFrom cX4_copyFrom 2 none, Cond.fieldLink RX4 19 "RiddleTrade$Table" "rows" "I", Cond.fieldLink RX4 9 "RiddleTrade$Table" "cells" "[I", Cond.methodLink RX4 26 Lib.Math.min.name, Cond.static Lib.Math.min.name, Cond.initialized "java/lang/Math", Cond.code Lib.Math.min.name Lib.Math.min.code 2 (some .int), Cond.methodLink RX4 31 arraycopyName, Cond.native arraycopyName, Cond.static arraycopyName, Cond.initialized "java/lang/System", Cond.methodLink RX0 54 yX3_copyFrom, Cond.instanceMethod yX3_copyFrom, Cond.selects RX3 yX3_copyFrom yX3_copyFrom, Cond.initialized RX3, Cond.code yX3_copyFrom cX3_copyFrom 2 none, Cond.fieldLink RX3 19 "RiddleTrade$Row" "head" "I"]
def wsX5_finishAct_r3 : List Cond := [Cond.fieldLink RX3 15 "RiddleTrade$Row" "length" "I", Cond.fieldLink RX3 9 "RiddleTrade$Row" "ring" "[I", Cond.methodLink RX3 26 Lib.Math.min.name, Cond.methodLink RX3 32 arraycopyName, Cond.methodLink RX5 43 yX0_copyFrom]
def wsX5_finishAct : List Cond := .code yX5_finishAct cX5_finishAct 2 (some .int) :: ((wsX5_finishAct_r1 ++ (wsX5_finishAct_r2 ++ wsX5_finishAct_r3)) ++ wsX50 ++ wsX10 ++ wsX00 ++ wsX40 ++ wsX30)
def wsX5_ask_r1 : List Cond := [Cond.fieldLink RX5 16 "RiddleTrade" "trial" "LRiddleTrade$Exchange;", Cond.fieldLink RX5 10 "RiddleTrade" "now" "LRiddleTrade$Exchange;", Cond.methodLink RX5 43 yX0_copyFrom, Cond.instanceMethod yX0_copyFrom, Cond.selects RX0 yX0_copyFrom yX0_copyFrom, Cond.initialized RX0, Cond.code yX0_copyFrom cX0_copyFrom 2 none, Cond.fieldLink RX0 16 "RiddleTrade$Exchange" "traders" "LRiddleTrade$Table;", Cond.fieldLink RX0 20 "RiddleTrade$Exchange" "riddles" "LRiddleTrade$Table;", Cond.fieldLink RX0 23 "RiddleTrade$Exchange" "answers" "LRiddleTrade$Table;", Cond.fieldLink RX0 26 "RiddleTrade$Exchange" "scales" "LRiddleTrade$Table;", Cond.fieldLink RX0 29 "RiddleTrade$Exchange" "settings" "LRiddleTrade$Table;", Cond.fieldLink RX0 35 "RiddleTrade$Exchange" "row" "LRiddleTrade$Row;", Cond.fieldLink RX0 57 "RiddleTrade$Exchange" "round" "I", Cond.methodLink RX0 50 yX4_copyFrom, Cond.instanceMethod yX4_copyFrom, Cond.selects RX4 yX4_copyFrom yX4_copyFrom, Cond.initialized RX4, Cond.code yX4_copyFrom cX4_copyFrom 2 none, Cond.fieldLink RX4 19 "RiddleTrade$Table" "rows" "I", Cond.fieldLink RX4 9 "RiddleTrade$Table" "cells" "[I", Cond.methodLink RX4 26 Lib.Math.min.name, Cond.static Lib.Math.min.name, Cond.initialized "java/lang/Math"]
def wsX5_ask_r2 : List Cond := [Cond.code Lib.Math.min.name Lib.Math.min.code 2 (some .int), Cond.methodLink RX4 31 arraycopyName, Cond.native arraycopyName, Cond.static arraycopyName, Cond.initialized "java/lang/System", Cond.methodLink RX0 54 yX3_copyFrom, Cond.instanceMethod yX3_copyFrom, Cond.selects RX3 yX3_copyFrom yX3_copyFrom, Cond.initialized RX3, Cond.code yX3_copyFrom cX3_copyFrom 2 none, Cond.fieldLink RX3 19 "RiddleTrade$Row" "head" "I", Cond.fieldLink RX3 15 "RiddleTrade$Row" "length" "I", Cond.fieldLink RX3 9 "RiddleTrade$Row" "ring" "[I", Cond.methodLink RX3 26 Lib.Math.min.name, Cond.methodLink RX3 32 arraycopyName, Cond.methodLink RX5 47 yX0_addRiddle, Cond.instanceMethod yX0_addRiddle, Cond.selects RX0 yX0_addRiddle yX0_addRiddle, Cond.code yX0_addRiddle cX0_addRiddle 5 (some .int), Cond.methodLink RX0 61 yX4_has, Cond.instanceMethod yX4_has, Cond.selects RX4 yX4_has yX4_has, Cond.code yX4_has cX4_has 2 (some .boolean), Cond.methodLink RX0 65 yX4_rows]
def wsX5_ask_r3 : List Cond := [Cond.instanceMethod yX4_rows, Cond.selects RX4 yX4_rows yX4_rows, Cond.code yX4_rows cX4_rows 1 (some .int), Cond.methodLink RX0 39 yX4_addRow, Cond.instanceMethod yX4_addRow, Cond.selects RX4 yX4_addRow yX4_addRow, Cond.code yX4_addRow cX4_addRow 1 (some .int), Cond.methodLink RX0 43 yX4_put, Cond.instanceMethod yX4_put, Cond.selects RX4 yX4_put yX4_put, Cond.code yX4_put cX4_put 5 none, Cond.fieldLink RX4 15 "RiddleTrade$Table" "columns" "I", Cond.methodLink RX5 51 yX5_finishAct, Cond.instanceMethod yX5_finishAct, Cond.selects RX5 yX5_finishAct yX5_finishAct, Cond.initialized RX5, Cond.code yX5_finishAct cX5_finishAct 2 (some .int), Cond.fieldLink RX5 25 "RiddleTrade" "history" "LRiddleTrade$History;", Cond.methodLink RX5 142 yX1_record, Cond.instanceMethod yX1_record, Cond.selects RX1 yX1_record yX1_record, Cond.initialized RX1, Cond.code yX1_record cX1_record 3 none, Cond.fieldLink RX1 18 "RiddleTrade$History" "size" "I"]
def wsX5_ask_r4 : List Cond := [Cond.fieldLink RX1 22 "RiddleTrade$History" "oldest" "I", Cond.methodLink RX1 25 yX1_stateAt, Cond.instanceMethod yX1_stateAt, Cond.selects RX1 yX1_stateAt yX1_stateAt, Cond.code yX1_stateAt cX1_stateAt 3 (some (.object "RiddleTrade$Exchange")), Cond.fieldLink RX1 11 "RiddleTrade$History" "states" "[LRiddleTrade$Exchange;", Cond.methodLink RX1 29 yX0_copyFrom]
def wsX5_ask : List Cond := .code yX5_ask cX5_ask 4 (some .int) :: ((wsX5_ask_r1 ++ (wsX5_ask_r2 ++ (wsX5_ask_r3 ++ wsX5_ask_r4))) ++ wsX50 ++ wsX00 ++ wsX40 ++ wsX30 ++ wsX10)
def wsX5_withdraw_r1 : List Cond := [Cond.fieldLink RX5 16 "RiddleTrade" "trial" "LRiddleTrade$Exchange;", Cond.fieldLink RX5 10 "RiddleTrade" "now" "LRiddleTrade$Exchange;", Cond.methodLink RX5 43 yX0_copyFrom, Cond.instanceMethod yX0_copyFrom, Cond.selects RX0 yX0_copyFrom yX0_copyFrom, Cond.initialized RX0, Cond.code yX0_copyFrom cX0_copyFrom 2 none, Cond.fieldLink RX0 16 "RiddleTrade$Exchange" "traders" "LRiddleTrade$Table;", Cond.fieldLink RX0 20 "RiddleTrade$Exchange" "riddles" "LRiddleTrade$Table;", Cond.fieldLink RX0 23 "RiddleTrade$Exchange" "answers" "LRiddleTrade$Table;", Cond.fieldLink RX0 26 "RiddleTrade$Exchange" "scales" "LRiddleTrade$Table;", Cond.fieldLink RX0 29 "RiddleTrade$Exchange" "settings" "LRiddleTrade$Table;", Cond.fieldLink RX0 35 "RiddleTrade$Exchange" "row" "LRiddleTrade$Row;", Cond.fieldLink RX0 57 "RiddleTrade$Exchange" "round" "I", Cond.methodLink RX0 50 yX4_copyFrom, Cond.instanceMethod yX4_copyFrom, Cond.selects RX4 yX4_copyFrom yX4_copyFrom, Cond.initialized RX4, Cond.code yX4_copyFrom cX4_copyFrom 2 none, Cond.fieldLink RX4 19 "RiddleTrade$Table" "rows" "I", Cond.fieldLink RX4 9 "RiddleTrade$Table" "cells" "[I", Cond.methodLink RX4 26 Lib.Math.min.name, Cond.static Lib.Math.min.name, Cond.initialized "java/lang/Math"]
def wsX5_withdraw_r2 : List Cond := [Cond.code Lib.Math.min.name Lib.Math.min.code 2 (some .int), Cond.methodLink RX4 31 arraycopyName, Cond.native arraycopyName, Cond.static arraycopyName, Cond.initialized "java/lang/System", Cond.methodLink RX0 54 yX3_copyFrom, Cond.instanceMethod yX3_copyFrom, Cond.selects RX3 yX3_copyFrom yX3_copyFrom, Cond.initialized RX3, Cond.code yX3_copyFrom cX3_copyFrom 2 none, Cond.fieldLink RX3 19 "RiddleTrade$Row" "head" "I", Cond.fieldLink RX3 15 "RiddleTrade$Row" "length" "I", Cond.fieldLink RX3 9 "RiddleTrade$Row" "ring" "[I", Cond.methodLink RX3 26 Lib.Math.min.name, Cond.methodLink RX3 32 arraycopyName, Cond.methodLink RX5 55 yX0_closeRiddle, Cond.instanceMethod yX0_closeRiddle, Cond.selects RX0 yX0_closeRiddle yX0_closeRiddle, Cond.code yX0_closeRiddle cX0_closeRiddle 2 (some .int), Cond.methodLink RX0 61 yX4_has, Cond.instanceMethod yX4_has, Cond.selects RX4 yX4_has yX4_has, Cond.code yX4_has cX4_has 2 (some .boolean), Cond.methodLink RX0 68 yX4_get]
def wsX5_withdraw_r3 : List Cond := [Cond.instanceMethod yX4_get, Cond.selects RX4 yX4_get yX4_get, Cond.code yX4_get cX4_get 4 (some .int), Cond.fieldLink RX4 15 "RiddleTrade$Table" "columns" "I", Cond.methodLink RX0 43 yX4_put, Cond.instanceMethod yX4_put, Cond.selects RX4 yX4_put yX4_put, Cond.code yX4_put cX4_put 5 none, Cond.methodLink RX0 72 yX4_countOfBoth, Cond.instanceMethod yX4_countOfBoth, Cond.selects RX4 yX4_countOfBoth yX4_countOfBoth, Cond.code yX4_countOfBoth cX4_countOfBoth 7 (some .int), Cond.methodLink RX4 22 yX4_get, Cond.methodLink RX5 51 yX5_finishAct, Cond.instanceMethod yX5_finishAct, Cond.selects RX5 yX5_finishAct yX5_finishAct, Cond.initialized RX5, Cond.code yX5_finishAct cX5_finishAct 2 (some .int), Cond.fieldLink RX5 25 "RiddleTrade" "history" "LRiddleTrade$History;", Cond.methodLink RX5 142 yX1_record, Cond.instanceMethod yX1_record, Cond.selects RX1 yX1_record yX1_record, Cond.initialized RX1, Cond.code yX1_record cX1_record 3 none]
def wsX5_withdraw_r4 : List Cond := [Cond.fieldLink RX1 18 "RiddleTrade$History" "size" "I", Cond.fieldLink RX1 22 "RiddleTrade$History" "oldest" "I", Cond.methodLink RX1 25 yX1_stateAt, Cond.instanceMethod yX1_stateAt, Cond.selects RX1 yX1_stateAt yX1_stateAt, Cond.code yX1_stateAt cX1_stateAt 3 (some (.object "RiddleTrade$Exchange")), Cond.fieldLink RX1 11 "RiddleTrade$History" "states" "[LRiddleTrade$Exchange;", Cond.methodLink RX1 29 yX0_copyFrom]
def wsX5_withdraw : List Cond := .code yX5_withdraw cX5_withdraw 2 (some .int) :: ((wsX5_withdraw_r1 ++ (wsX5_withdraw_r2 ++ (wsX5_withdraw_r3 ++ wsX5_withdraw_r4))) ++ wsX50 ++ wsX00 ++ wsX40 ++ wsX30 ++ wsX10)
def wsX5_deliver_r1 : List Cond := [Cond.fieldLink RX5 16 "RiddleTrade" "trial" "LRiddleTrade$Exchange;", Cond.fieldLink RX5 10 "RiddleTrade" "now" "LRiddleTrade$Exchange;", Cond.methodLink RX5 43 yX0_copyFrom, Cond.instanceMethod yX0_copyFrom, Cond.selects RX0 yX0_copyFrom yX0_copyFrom, Cond.initialized RX0, Cond.code yX0_copyFrom cX0_copyFrom 2 none, Cond.fieldLink RX0 16 "RiddleTrade$Exchange" "traders" "LRiddleTrade$Table;", Cond.fieldLink RX0 20 "RiddleTrade$Exchange" "riddles" "LRiddleTrade$Table;", Cond.fieldLink RX0 23 "RiddleTrade$Exchange" "answers" "LRiddleTrade$Table;", Cond.fieldLink RX0 26 "RiddleTrade$Exchange" "scales" "LRiddleTrade$Table;", Cond.fieldLink RX0 29 "RiddleTrade$Exchange" "settings" "LRiddleTrade$Table;", Cond.fieldLink RX0 35 "RiddleTrade$Exchange" "row" "LRiddleTrade$Row;", Cond.fieldLink RX0 57 "RiddleTrade$Exchange" "round" "I", Cond.methodLink RX0 50 yX4_copyFrom, Cond.instanceMethod yX4_copyFrom, Cond.selects RX4 yX4_copyFrom yX4_copyFrom, Cond.initialized RX4, Cond.code yX4_copyFrom cX4_copyFrom 2 none, Cond.fieldLink RX4 19 "RiddleTrade$Table" "rows" "I", Cond.fieldLink RX4 9 "RiddleTrade$Table" "cells" "[I", Cond.methodLink RX4 26 Lib.Math.min.name, Cond.static Lib.Math.min.name, Cond.initialized "java/lang/Math"]
def wsX5_deliver_r2 : List Cond := [Cond.code Lib.Math.min.name Lib.Math.min.code 2 (some .int), Cond.methodLink RX4 31 arraycopyName, Cond.native arraycopyName, Cond.static arraycopyName, Cond.initialized "java/lang/System", Cond.methodLink RX0 54 yX3_copyFrom, Cond.instanceMethod yX3_copyFrom, Cond.selects RX3 yX3_copyFrom yX3_copyFrom, Cond.initialized RX3, Cond.code yX3_copyFrom cX3_copyFrom 2 none, Cond.fieldLink RX3 19 "RiddleTrade$Row" "head" "I", Cond.fieldLink RX3 15 "RiddleTrade$Row" "length" "I", Cond.fieldLink RX3 9 "RiddleTrade$Row" "ring" "[I", Cond.methodLink RX3 26 Lib.Math.min.name, Cond.methodLink RX3 32 arraycopyName, Cond.methodLink RX5 58 yX0_addAnswer, Cond.instanceMethod yX0_addAnswer, Cond.selects RX0 yX0_addAnswer yX0_addAnswer, Cond.code yX0_addAnswer cX0_addAnswer 6 (some .int), Cond.methodLink RX0 61 yX4_has, Cond.instanceMethod yX4_has, Cond.selects RX4 yX4_has yX4_has, Cond.code yX4_has cX4_has 2 (some .boolean), Cond.methodLink RX0 68 yX4_get]
def wsX5_deliver_r3 : List Cond := [Cond.instanceMethod yX4_get, Cond.selects RX4 yX4_get yX4_get, Cond.code yX4_get cX4_get 4 (some .int), Cond.fieldLink RX4 15 "RiddleTrade$Table" "columns" "I", Cond.methodLink RX0 65 yX4_rows, Cond.instanceMethod yX4_rows, Cond.selects RX4 yX4_rows yX4_rows, Cond.code yX4_rows cX4_rows 1 (some .int), Cond.methodLink RX0 39 yX4_addRow, Cond.instanceMethod yX4_addRow, Cond.selects RX4 yX4_addRow yX4_addRow, Cond.code yX4_addRow cX4_addRow 1 (some .int), Cond.methodLink RX0 43 yX4_put, Cond.instanceMethod yX4_put, Cond.selects RX4 yX4_put yX4_put, Cond.code yX4_put cX4_put 5 none, Cond.methodLink RX0 76 yX3_addLast, Cond.instanceMethod yX3_addLast, Cond.selects RX3 yX3_addLast yX3_addLast, Cond.code yX3_addLast cX3_addLast 3 none, Cond.methodLink RX5 51 yX5_finishAct, Cond.instanceMethod yX5_finishAct, Cond.selects RX5 yX5_finishAct yX5_finishAct, Cond.initialized RX5]
def wsX5_deliver_r4 : List Cond := [Cond.code yX5_finishAct cX5_finishAct 2 (some .int), Cond.fieldLink RX5 25 "RiddleTrade" "history" "LRiddleTrade$History;", Cond.methodLink RX5 142 yX1_record, Cond.instanceMethod yX1_record, Cond.selects RX1 yX1_record yX1_record, Cond.initialized RX1, Cond.code yX1_record cX1_record 3 none, Cond.fieldLink RX1 18 "RiddleTrade$History" "size" "I", Cond.fieldLink RX1 22 "RiddleTrade$History" "oldest" "I", Cond.methodLink RX1 25 yX1_stateAt, Cond.instanceMethod yX1_stateAt, Cond.selects RX1 yX1_stateAt yX1_stateAt, Cond.code yX1_stateAt cX1_stateAt 3 (some (.object "RiddleTrade$Exchange")), Cond.fieldLink RX1 11 "RiddleTrade$History" "states" "[LRiddleTrade$Exchange;", Cond.methodLink RX1 29 yX0_copyFrom]
def wsX5_deliver : List Cond := .code yX5_deliver cX5_deliver 5 (some .int) :: ((wsX5_deliver_r1 ++ (wsX5_deliver_r2 ++ (wsX5_deliver_r3 ++ wsX5_deliver_r4))) ++ wsX50 ++ wsX00 ++ wsX40 ++ wsX30 ++ wsX10)
def wsX5_adjust_r1 : List Cond := [Cond.fieldLink RX5 16 "RiddleTrade" "trial" "LRiddleTrade$Exchange;", Cond.fieldLink RX5 10 "RiddleTrade" "now" "LRiddleTrade$Exchange;", Cond.methodLink RX5 43 yX0_copyFrom, Cond.instanceMethod yX0_copyFrom, Cond.selects RX0 yX0_copyFrom yX0_copyFrom, Cond.initialized RX0, Cond.code yX0_copyFrom cX0_copyFrom 2 none, Cond.fieldLink RX0 16 "RiddleTrade$Exchange" "traders" "LRiddleTrade$Table;", Cond.fieldLink RX0 20 "RiddleTrade$Exchange" "riddles" "LRiddleTrade$Table;", Cond.fieldLink RX0 23 "RiddleTrade$Exchange" "answers" "LRiddleTrade$Table;", Cond.fieldLink RX0 26 "RiddleTrade$Exchange" "scales" "LRiddleTrade$Table;", Cond.fieldLink RX0 29 "RiddleTrade$Exchange" "settings" "LRiddleTrade$Table;", Cond.fieldLink RX0 35 "RiddleTrade$Exchange" "row" "LRiddleTrade$Row;", Cond.fieldLink RX0 57 "RiddleTrade$Exchange" "round" "I", Cond.methodLink RX0 50 yX4_copyFrom, Cond.instanceMethod yX4_copyFrom, Cond.selects RX4 yX4_copyFrom yX4_copyFrom, Cond.initialized RX4, Cond.code yX4_copyFrom cX4_copyFrom 2 none, Cond.fieldLink RX4 19 "RiddleTrade$Table" "rows" "I", Cond.fieldLink RX4 9 "RiddleTrade$Table" "cells" "[I", Cond.methodLink RX4 26 Lib.Math.min.name, Cond.static Lib.Math.min.name, Cond.initialized "java/lang/Math"]
def wsX5_adjust_r2 : List Cond := [Cond.code Lib.Math.min.name Lib.Math.min.code 2 (some .int), Cond.methodLink RX4 31 arraycopyName, Cond.native arraycopyName, Cond.static arraycopyName, Cond.initialized "java/lang/System", Cond.methodLink RX0 54 yX3_copyFrom, Cond.instanceMethod yX3_copyFrom, Cond.selects RX3 yX3_copyFrom yX3_copyFrom, Cond.initialized RX3, Cond.code yX3_copyFrom cX3_copyFrom 2 none, Cond.fieldLink RX3 19 "RiddleTrade$Row" "head" "I", Cond.fieldLink RX3 15 "RiddleTrade$Row" "length" "I", Cond.fieldLink RX3 9 "RiddleTrade$Row" "ring" "[I", Cond.methodLink RX3 26 Lib.Math.min.name, Cond.methodLink RX3 32 arraycopyName, Cond.methodLink RX5 62 yX0_setScalesRight, Cond.instanceMethod yX0_setScalesRight, Cond.selects RX0 yX0_setScalesRight yX0_setScalesRight, Cond.code yX0_setScalesRight cX0_setScalesRight 3 (some .int), Cond.methodLink RX0 80 Lib.Math.abs.name, Cond.static Lib.Math.abs.name, Cond.code Lib.Math.abs.name Lib.Math.abs.code 1 (some .int), Cond.methodLink RX0 68 yX4_get, Cond.instanceMethod yX4_get]
def wsX5_adjust_r3 : List Cond := [Cond.selects RX4 yX4_get yX4_get, Cond.code yX4_get cX4_get 4 (some .int), Cond.fieldLink RX4 15 "RiddleTrade$Table" "columns" "I", Cond.methodLink RX0 43 yX4_put, Cond.instanceMethod yX4_put, Cond.selects RX4 yX4_put yX4_put, Cond.code yX4_put cX4_put 5 none, Cond.methodLink RX5 51 yX5_finishAct, Cond.instanceMethod yX5_finishAct, Cond.selects RX5 yX5_finishAct yX5_finishAct, Cond.initialized RX5, Cond.code yX5_finishAct cX5_finishAct 2 (some .int), Cond.fieldLink RX5 25 "RiddleTrade" "history" "LRiddleTrade$History;", Cond.methodLink RX5 142 yX1_record, Cond.instanceMethod yX1_record, Cond.selects RX1 yX1_record yX1_record, Cond.initialized RX1, Cond.code yX1_record cX1_record 3 none, Cond.fieldLink RX1 18 "RiddleTrade$History" "size" "I", Cond.fieldLink RX1 22 "RiddleTrade$History" "oldest" "I", Cond.methodLink RX1 25 yX1_stateAt, Cond.instanceMethod yX1_stateAt, Cond.selects RX1 yX1_stateAt yX1_stateAt, Cond.code yX1_stateAt cX1_stateAt 3 (some (.object "RiddleTrade$Exchange"))]
def wsX5_adjust_r4 : List Cond := [Cond.fieldLink RX1 11 "RiddleTrade$History" "states" "[LRiddleTrade$Exchange;", Cond.methodLink RX1 29 yX0_copyFrom]
def wsX5_adjust : List Cond := .code yX5_adjust cX5_adjust 1 (some .int) :: ((wsX5_adjust_r1 ++ (wsX5_adjust_r2 ++ (wsX5_adjust_r3 ++ wsX5_adjust_r4))) ++ wsX50 ++ wsX00 ++ wsX40 ++ wsX30 ++ wsX10)
def wsX5_set_r1 : List Cond := [Cond.fieldLink RX5 16 "RiddleTrade" "trial" "LRiddleTrade$Exchange;", Cond.fieldLink RX5 10 "RiddleTrade" "now" "LRiddleTrade$Exchange;", Cond.methodLink RX5 43 yX0_copyFrom, Cond.instanceMethod yX0_copyFrom, Cond.selects RX0 yX0_copyFrom yX0_copyFrom, Cond.initialized RX0, Cond.code yX0_copyFrom cX0_copyFrom 2 none, Cond.fieldLink RX0 16 "RiddleTrade$Exchange" "traders" "LRiddleTrade$Table;", Cond.fieldLink RX0 20 "RiddleTrade$Exchange" "riddles" "LRiddleTrade$Table;", Cond.fieldLink RX0 23 "RiddleTrade$Exchange" "answers" "LRiddleTrade$Table;", Cond.fieldLink RX0 26 "RiddleTrade$Exchange" "scales" "LRiddleTrade$Table;", Cond.fieldLink RX0 29 "RiddleTrade$Exchange" "settings" "LRiddleTrade$Table;", Cond.fieldLink RX0 35 "RiddleTrade$Exchange" "row" "LRiddleTrade$Row;", Cond.fieldLink RX0 57 "RiddleTrade$Exchange" "round" "I", Cond.methodLink RX0 50 yX4_copyFrom, Cond.instanceMethod yX4_copyFrom, Cond.selects RX4 yX4_copyFrom yX4_copyFrom, Cond.initialized RX4, Cond.code yX4_copyFrom cX4_copyFrom 2 none, Cond.fieldLink RX4 19 "RiddleTrade$Table" "rows" "I", Cond.fieldLink RX4 9 "RiddleTrade$Table" "cells" "[I", Cond.methodLink RX4 26 Lib.Math.min.name, Cond.static Lib.Math.min.name, Cond.initialized "java/lang/Math"]
def wsX5_set_r2 : List Cond := [Cond.code Lib.Math.min.name Lib.Math.min.code 2 (some .int), Cond.methodLink RX4 31 arraycopyName, Cond.native arraycopyName, Cond.static arraycopyName, Cond.initialized "java/lang/System", Cond.methodLink RX0 54 yX3_copyFrom, Cond.instanceMethod yX3_copyFrom, Cond.selects RX3 yX3_copyFrom yX3_copyFrom, Cond.initialized RX3, Cond.code yX3_copyFrom cX3_copyFrom 2 none, Cond.fieldLink RX3 19 "RiddleTrade$Row" "head" "I", Cond.fieldLink RX3 15 "RiddleTrade$Row" "length" "I", Cond.fieldLink RX3 9 "RiddleTrade$Row" "ring" "[I", Cond.methodLink RX3 26 Lib.Math.min.name, Cond.methodLink RX3 32 arraycopyName, Cond.methodLink RX5 66 yX0_changeSetting, Cond.instanceMethod yX0_changeSetting, Cond.selects RX0 yX0_changeSetting yX0_changeSetting, Cond.code yX0_changeSetting cX0_changeSetting 4 (some .int), Cond.methodLink RX0 61 yX4_has, Cond.instanceMethod yX4_has, Cond.selects RX4 yX4_has yX4_has, Cond.code yX4_has cX4_has 2 (some .boolean), Cond.methodLink RX0 68 yX4_get]
def wsX5_set_r3 : List Cond := [Cond.instanceMethod yX4_get, Cond.selects RX4 yX4_get yX4_get, Cond.code yX4_get cX4_get 4 (some .int), Cond.fieldLink RX4 15 "RiddleTrade$Table" "columns" "I", Cond.methodLink RX0 43 yX4_put, Cond.instanceMethod yX4_put, Cond.selects RX4 yX4_put yX4_put, Cond.code yX4_put cX4_put 5 none, Cond.methodLink RX5 51 yX5_finishAct, Cond.instanceMethod yX5_finishAct, Cond.selects RX5 yX5_finishAct yX5_finishAct, Cond.initialized RX5, Cond.code yX5_finishAct cX5_finishAct 2 (some .int), Cond.fieldLink RX5 25 "RiddleTrade" "history" "LRiddleTrade$History;", Cond.methodLink RX5 142 yX1_record, Cond.instanceMethod yX1_record, Cond.selects RX1 yX1_record yX1_record, Cond.initialized RX1, Cond.code yX1_record cX1_record 3 none, Cond.fieldLink RX1 18 "RiddleTrade$History" "size" "I", Cond.fieldLink RX1 22 "RiddleTrade$History" "oldest" "I", Cond.methodLink RX1 25 yX1_stateAt, Cond.instanceMethod yX1_stateAt, Cond.selects RX1 yX1_stateAt yX1_stateAt]
def wsX5_set_r4 : List Cond := [Cond.code yX1_stateAt cX1_stateAt 3 (some (.object "RiddleTrade$Exchange")), Cond.fieldLink RX1 11 "RiddleTrade$History" "states" "[LRiddleTrade$Exchange;", Cond.methodLink RX1 29 yX0_copyFrom]
def wsX5_set : List Cond := .code yX5_set cX5_set 3 (some .int) :: ((wsX5_set_r1 ++ (wsX5_set_r2 ++ (wsX5_set_r3 ++ wsX5_set_r4))) ++ wsX50 ++ wsX00 ++ wsX40 ++ wsX30 ++ wsX10)
def wsX5_pass_r1 : List Cond := [Cond.fieldLink RX5 16 "RiddleTrade" "trial" "LRiddleTrade$Exchange;", Cond.fieldLink RX5 10 "RiddleTrade" "now" "LRiddleTrade$Exchange;", Cond.methodLink RX5 43 yX0_copyFrom, Cond.instanceMethod yX0_copyFrom, Cond.selects RX0 yX0_copyFrom yX0_copyFrom, Cond.initialized RX0, Cond.code yX0_copyFrom cX0_copyFrom 2 none, Cond.fieldLink RX0 16 "RiddleTrade$Exchange" "traders" "LRiddleTrade$Table;", Cond.fieldLink RX0 20 "RiddleTrade$Exchange" "riddles" "LRiddleTrade$Table;", Cond.fieldLink RX0 23 "RiddleTrade$Exchange" "answers" "LRiddleTrade$Table;", Cond.fieldLink RX0 26 "RiddleTrade$Exchange" "scales" "LRiddleTrade$Table;", Cond.fieldLink RX0 29 "RiddleTrade$Exchange" "settings" "LRiddleTrade$Table;", Cond.fieldLink RX0 35 "RiddleTrade$Exchange" "row" "LRiddleTrade$Row;", Cond.fieldLink RX0 57 "RiddleTrade$Exchange" "round" "I", Cond.methodLink RX0 50 yX4_copyFrom, Cond.instanceMethod yX4_copyFrom, Cond.selects RX4 yX4_copyFrom yX4_copyFrom, Cond.initialized RX4, Cond.code yX4_copyFrom cX4_copyFrom 2 none, Cond.fieldLink RX4 19 "RiddleTrade$Table" "rows" "I", Cond.fieldLink RX4 9 "RiddleTrade$Table" "cells" "[I", Cond.methodLink RX4 26 Lib.Math.min.name, Cond.static Lib.Math.min.name, Cond.initialized "java/lang/Math"]
def wsX5_pass_r2 : List Cond := [Cond.code Lib.Math.min.name Lib.Math.min.code 2 (some .int), Cond.methodLink RX4 31 arraycopyName, Cond.native arraycopyName, Cond.static arraycopyName, Cond.initialized "java/lang/System", Cond.methodLink RX0 54 yX3_copyFrom, Cond.instanceMethod yX3_copyFrom, Cond.selects RX3 yX3_copyFrom yX3_copyFrom, Cond.initialized RX3, Cond.code yX3_copyFrom cX3_copyFrom 2 none, Cond.fieldLink RX3 19 "RiddleTrade$Row" "head" "I", Cond.fieldLink RX3 15 "RiddleTrade$Row" "length" "I", Cond.fieldLink RX3 9 "RiddleTrade$Row" "ring" "[I", Cond.methodLink RX3 26 Lib.Math.min.name, Cond.methodLink RX3 32 arraycopyName, Cond.methodLink RX5 70 yX0_playRounds, Cond.instanceMethod yX0_playRounds, Cond.selects RX0 yX0_playRounds yX0_playRounds, Cond.code yX0_playRounds cX0_playRounds 4 (some .int), Cond.methodLink RX0 86 yX0_playRound, Cond.instanceMethod yX0_playRound, Cond.selects RX0 yX0_playRound yX0_playRound, Cond.code yX0_playRound cX0_playRound 4 (some .int), Cond.methodLink RX0 92 Lib.Math.min.name]
def wsX5_pass_r3 : List Cond := [Cond.methodLink RX0 68 yX4_get, Cond.instanceMethod yX4_get, Cond.selects RX4 yX4_get yX4_get, Cond.code yX4_get cX4_get 4 (some .int), Cond.fieldLink RX4 15 "RiddleTrade$Table" "columns" "I", Cond.methodLink RX0 89 yX3_length, Cond.instanceMethod yX3_length, Cond.selects RX3 yX3_length yX3_length, Cond.code yX3_length cX3_length 1 (some .int), Cond.methodLink RX0 95 yX3_takeFirst, Cond.instanceMethod yX3_takeFirst, Cond.selects RX3 yX3_takeFirst yX3_takeFirst, Cond.code yX3_takeFirst cX3_takeFirst 2 (some .int), Cond.methodLink RX3 22 yX3_at, Cond.instanceMethod yX3_at, Cond.selects RX3 yX3_at yX3_at, Cond.code yX3_at cX3_at 3 (some .int), Cond.methodLink RX0 98 yX0_takeOne, Cond.instanceMethod yX0_takeOne, Cond.selects RX0 yX0_takeOne yX0_takeOne, Cond.code yX0_takeOne cX0_takeOne 4 (some .boolean), Cond.methodLink RX0 104 yX0_paymentFor, Cond.instanceMethod yX0_paymentFor, Cond.selects RX0 yX0_paymentFor yX0_paymentFor]
def wsX5_pass_r4 : List Cond := [Cond.code yX0_paymentFor cX0_paymentFor 4 (some .int), Cond.methodLink RX0 129 yX0_told, Cond.instanceMethod yX0_told, Cond.selects RX0 yX0_told yX0_told, Cond.code yX0_told cX0_told 3 (some .int), Cond.methodLink RX0 126 Lib.Math.max.name, Cond.static Lib.Math.max.name, Cond.code Lib.Math.max.name Lib.Math.max.code 2 (some .int), Cond.methodLink RX0 107 yX0_hindrance, Cond.instanceMethod yX0_hindrance, Cond.selects RX0 yX0_hindrance yX0_hindrance, Cond.code yX0_hindrance cX0_hindrance 6 (some .int), Cond.methodLink RX0 80 Lib.Math.abs.name, Cond.static Lib.Math.abs.name, Cond.code Lib.Math.abs.name Lib.Math.abs.code 1 (some .int), Cond.methodLink RX0 110 yX0_refuse, Cond.instanceMethod yX0_refuse, Cond.selects RX0 yX0_refuse yX0_refuse, Cond.code yX0_refuse cX0_refuse 3 none, Cond.methodLink RX0 43 yX4_put, Cond.instanceMethod yX4_put, Cond.selects RX4 yX4_put yX4_put, Cond.code yX4_put cX4_put 5 none, Cond.methodLink RX0 114 yX0_driftOn]
def wsX5_pass_r5 : List Cond := [Cond.instanceMethod yX0_driftOn, Cond.selects RX0 yX0_driftOn yX0_driftOn, Cond.code yX0_driftOn cX0_driftOn 5 none, Cond.methodLink RX0 123 yX4_increase, Cond.instanceMethod yX4_increase, Cond.selects RX4 yX4_increase yX4_increase, Cond.code yX4_increase cX4_increase 5 none, Cond.methodLink RX0 117 yX0_doubt, Cond.instanceMethod yX0_doubt, Cond.selects RX0 yX0_doubt yX0_doubt, Cond.code yX0_doubt cX0_doubt 2 none, Cond.methodLink RX0 76 yX3_addLast, Cond.instanceMethod yX3_addLast, Cond.selects RX3 yX3_addLast yX3_addLast, Cond.code yX3_addLast cX3_addLast 3 none, Cond.methodLink RX0 120 yX0_pay, Cond.instanceMethod yX0_pay, Cond.selects RX0 yX0_pay yX0_pay, Cond.code yX0_pay cX0_pay 4 none, Cond.methodLink RX0 101 yX0_chargeFees, Cond.instanceMethod yX0_chargeFees, Cond.selects RX0 yX0_chargeFees yX0_chargeFees, Cond.code yX0_chargeFees cX0_chargeFees 4 none, Cond.methodLink RX5 51 yX5_finishAct]
def wsX5_pass_r6 : List Cond := [Cond.instanceMethod yX5_finishAct, Cond.selects RX5 yX5_finishAct yX5_finishAct, Cond.initialized RX5, Cond.code yX5_finishAct cX5_finishAct 2 (some .int), Cond.fieldLink RX5 25 "RiddleTrade" "history" "LRiddleTrade$History;", Cond.methodLink RX5 142 yX1_record, Cond.instanceMethod yX1_record, Cond.selects RX1 yX1_record yX1_record, Cond.initialized RX1, Cond.code yX1_record cX1_record 3 none, Cond.fieldLink RX1 18 "RiddleTrade$History" "size" "I", Cond.fieldLink RX1 22 "RiddleTrade$History" "oldest" "I", Cond.methodLink RX1 25 yX1_stateAt, Cond.instanceMethod yX1_stateAt, Cond.selects RX1 yX1_stateAt yX1_stateAt, Cond.code yX1_stateAt cX1_stateAt 3 (some (.object "RiddleTrade$Exchange")), Cond.fieldLink RX1 11 "RiddleTrade$History" "states" "[LRiddleTrade$Exchange;", Cond.methodLink RX1 29 yX0_copyFrom]
def wsX5_pass : List Cond := .code yX5_pass cX5_pass 2 (some .int) :: ((wsX5_pass_r1 ++ (wsX5_pass_r2 ++ (wsX5_pass_r3 ++ (wsX5_pass_r4 ++ (wsX5_pass_r5 ++ wsX5_pass_r6))))) ++ wsX50 ++ wsX00 ++ wsX40 ++ wsX30 ++ wsX10)
def wsX5_type : List Cond := .code yX5_type cX5_type 2 (some .int) :: ([.fieldLink RX5 32 "RiddleTrade" "offers" "LRiddleTrade$Offers;", .methodLink RX5 73 yX2_addCharacter, .instanceMethod yX2_addCharacter, .selects RX2 yX2_addCharacter yX2_addCharacter, .initialized RX2, .code yX2_addCharacter cX2_addCharacter 2 (some .int), .fieldLink RX2 24 "RiddleTrade$Offers" "length" "I", .fieldLink RX2 9 "RiddleTrade$Offers" "text" "[C"] ++ wsX50 ++ wsX20)
def wsX5_clearText : List Cond := .code yX5_clearText cX5_clearText 1 (some .int) :: ([.fieldLink RX5 32 "RiddleTrade" "offers" "LRiddleTrade$Offers;", .methodLink RX5 77 yX2_emptyText, .instanceMethod yX2_emptyText, .selects RX2 yX2_emptyText yX2_emptyText, .initialized RX2, .code yX2_emptyText cX2_emptyText 2 (some .int), .fieldLink RX2 24 "RiddleTrade$Offers" "length" "I"] ++ wsX50 ++ wsX20)
def wsX5_doThing_r1 : List Cond := [Cond.fieldLink RX5 32 "RiddleTrade" "offers" "LRiddleTrade$Offers;", Cond.fieldLink RX5 16 "RiddleTrade" "trial" "LRiddleTrade$Exchange;", Cond.methodLink RX5 145 yX2_numberOf, Cond.instanceMethod yX2_numberOf, Cond.selects RX2 yX2_numberOf yX2_numberOf, Cond.initialized RX2, Cond.code yX2_numberOf cX2_numberOf 3 (some .int), Cond.fieldLink RX2 20 "RiddleTrade$Offers" "things" "LRiddleTrade$Table;", Cond.methodLink RX2 32 yX4_get, Cond.instanceMethod yX4_get, Cond.selects RX4 yX4_get yX4_get, Cond.initialized RX4, Cond.code yX4_get cX4_get 4 (some .int), Cond.fieldLink RX4 15 "RiddleTrade$Table" "columns" "I", Cond.fieldLink RX4 9 "RiddleTrade$Table" "cells" "[I", Cond.methodLink RX5 47 yX0_addRiddle, Cond.instanceMethod yX0_addRiddle, Cond.selects RX0 yX0_addRiddle yX0_addRiddle, Cond.initialized RX0, Cond.code yX0_addRiddle cX0_addRiddle 5 (some .int), Cond.fieldLink RX0 16 "RiddleTrade$Exchange" "traders" "LRiddleTrade$Table;", Cond.fieldLink RX0 20 "RiddleTrade$Exchange" "riddles" "LRiddleTrade$Table;", Cond.methodLink RX0 61 yX4_has, Cond.instanceMethod yX4_has]
def wsX5_doThing_r2 : List Cond := [Cond.selects RX4 yX4_has yX4_has, Cond.code yX4_has cX4_has 2 (some .boolean), Cond.fieldLink RX4 19 "RiddleTrade$Table" "rows" "I", Cond.methodLink RX0 65 yX4_rows, Cond.instanceMethod yX4_rows, Cond.selects RX4 yX4_rows yX4_rows, Cond.code yX4_rows cX4_rows 1 (some .int), Cond.methodLink RX0 39 yX4_addRow, Cond.instanceMethod yX4_addRow, Cond.selects RX4 yX4_addRow yX4_addRow, Cond.code yX4_addRow cX4_addRow 1 (some .int), Cond.methodLink RX0 43 yX4_put, Cond.instanceMethod yX4_put, Cond.selects RX4 yX4_put yX4_put, Cond.code yX4_put cX4_put 5 none, Cond.methodLink RX5 58 yX0_addAnswer, Cond.instanceMethod yX0_addAnswer, Cond.selects RX0 yX0_addAnswer yX0_addAnswer, Cond.code yX0_addAnswer cX0_addAnswer 6 (some .int), Cond.fieldLink RX0 23 "RiddleTrade$Exchange" "answers" "LRiddleTrade$Table;", Cond.fieldLink RX0 35 "RiddleTrade$Exchange" "row" "LRiddleTrade$Row;", Cond.methodLink RX0 68 yX4_get, Cond.methodLink RX0 76 yX3_addLast, Cond.instanceMethod yX3_addLast]
def wsX5_doThing_r3 : List Cond := [Cond.selects RX3 yX3_addLast yX3_addLast, Cond.initialized RX3, Cond.code yX3_addLast cX3_addLast 3 none, Cond.fieldLink RX3 19 "RiddleTrade$Row" "head" "I", Cond.fieldLink RX3 15 "RiddleTrade$Row" "length" "I", Cond.fieldLink RX3 9 "RiddleTrade$Row" "ring" "[I", Cond.methodLink RX5 70 yX0_playRounds, Cond.instanceMethod yX0_playRounds, Cond.selects RX0 yX0_playRounds yX0_playRounds, Cond.code yX0_playRounds cX0_playRounds 4 (some .int), Cond.fieldLink RX0 57 "RiddleTrade$Exchange" "round" "I", Cond.methodLink RX0 86 yX0_playRound, Cond.instanceMethod yX0_playRound, Cond.selects RX0 yX0_playRound yX0_playRound, Cond.code yX0_playRound cX0_playRound 4 (some .int), Cond.fieldLink RX0 29 "RiddleTrade$Exchange" "settings" "LRiddleTrade$Table;", Cond.methodLink RX0 92 Lib.Math.min.name, Cond.static Lib.Math.min.name, Cond.initialized "java/lang/Math", Cond.code Lib.Math.min.name Lib.Math.min.code 2 (some .int), Cond.methodLink RX0 89 yX3_length, Cond.instanceMethod yX3_length, Cond.selects RX3 yX3_length yX3_length, Cond.code yX3_length cX3_length 1 (some .int)]
def wsX5_doThing_r4 : List Cond := [Cond.methodLink RX0 95 yX3_takeFirst, Cond.instanceMethod yX3_takeFirst, Cond.selects RX3 yX3_takeFirst yX3_takeFirst, Cond.code yX3_takeFirst cX3_takeFirst 2 (some .int), Cond.methodLink RX3 22 yX3_at, Cond.instanceMethod yX3_at, Cond.selects RX3 yX3_at yX3_at, Cond.code yX3_at cX3_at 3 (some .int), Cond.methodLink RX0 98 yX0_takeOne, Cond.instanceMethod yX0_takeOne, Cond.selects RX0 yX0_takeOne yX0_takeOne, Cond.code yX0_takeOne cX0_takeOne 4 (some .boolean), Cond.methodLink RX0 104 yX0_paymentFor, Cond.instanceMethod yX0_paymentFor, Cond.selects RX0 yX0_paymentFor yX0_paymentFor, Cond.code yX0_paymentFor cX0_paymentFor 4 (some .int), Cond.methodLink RX0 129 yX0_told, Cond.instanceMethod yX0_told, Cond.selects RX0 yX0_told yX0_told, Cond.code yX0_told cX0_told 3 (some .int), Cond.fieldLink RX0 26 "RiddleTrade$Exchange" "scales" "LRiddleTrade$Table;", Cond.methodLink RX0 126 Lib.Math.max.name, Cond.static Lib.Math.max.name, Cond.code Lib.Math.max.name Lib.Math.max.code 2 (some .int)]
def wsX5_doThing_r5 : List Cond := [Cond.methodLink RX0 107 yX0_hindrance, Cond.instanceMethod yX0_hindrance, Cond.selects RX0 yX0_hindrance yX0_hindrance, Cond.code yX0_hindrance cX0_hindrance 6 (some .int), Cond.methodLink RX0 80 Lib.Math.abs.name, Cond.static Lib.Math.abs.name, Cond.code Lib.Math.abs.name Lib.Math.abs.code 1 (some .int), Cond.methodLink RX0 110 yX0_refuse, Cond.instanceMethod yX0_refuse, Cond.selects RX0 yX0_refuse yX0_refuse, Cond.code yX0_refuse cX0_refuse 3 none, Cond.methodLink RX0 114 yX0_driftOn, Cond.instanceMethod yX0_driftOn, Cond.selects RX0 yX0_driftOn yX0_driftOn, Cond.code yX0_driftOn cX0_driftOn 5 none, Cond.methodLink RX0 123 yX4_increase, Cond.instanceMethod yX4_increase, Cond.selects RX4 yX4_increase yX4_increase, Cond.code yX4_increase cX4_increase 5 none, Cond.methodLink RX0 117 yX0_doubt, Cond.instanceMethod yX0_doubt, Cond.selects RX0 yX0_doubt yX0_doubt, Cond.code yX0_doubt cX0_doubt 2 none, Cond.methodLink RX0 120 yX0_pay]
def wsX5_doThing_r6 : List Cond := [Cond.instanceMethod yX0_pay, Cond.selects RX0 yX0_pay yX0_pay, Cond.code yX0_pay cX0_pay 4 none, Cond.methodLink RX0 101 yX0_chargeFees, Cond.instanceMethod yX0_chargeFees, Cond.selects RX0 yX0_chargeFees yX0_chargeFees, Cond.code yX0_chargeFees cX0_chargeFees 4 none]
def wsX5_doThing : List Cond := .code yX5_doThing cX5_doThing 5 (some .int) :: ((wsX5_doThing_r1 ++ (wsX5_doThing_r2 ++ (wsX5_doThing_r3 ++ (wsX5_doThing_r4 ++ (wsX5_doThing_r5 ++ wsX5_doThing_r6))))) ++ wsX50 ++ wsX20 ++ wsX40 ++ wsX00 ++ wsX30)
def wsX5_perform_r1 : List Cond := [Cond.fieldLink RX5 32 "RiddleTrade" "offers" "LRiddleTrade$Offers;", Cond.fieldLink RX5 16 "RiddleTrade" "trial" "LRiddleTrade$Exchange;", Cond.fieldLink RX5 10 "RiddleTrade" "now" "LRiddleTrade$Exchange;", Cond.fieldLink RX5 36 "RiddleTrade" "stoppedNumber" "I", Cond.fieldLink RX5 40 "RiddleTrade" "stoppedError" "I", Cond.methodLink RX5 80 yX2_read, Cond.instanceMethod yX2_read, Cond.selects RX2 yX2_read yX2_read, Cond.initialized RX2, Cond.code yX2_read cX2_read 2 (some .int), Cond.fieldLink RX2 20 "RiddleTrade$Offers" "things" "LRiddleTrade$Table;", Cond.fieldLink RX2 39 "RiddleTrade$Offers" "position" "I", Cond.fieldLink RX2 42 "RiddleTrade$Offers" "faulty" "Z", Cond.fieldLink RX2 24 "RiddleTrade$Offers" "length" "I", Cond.methodLink RX2 36 yX4_dropRows, Cond.instanceMethod yX4_dropRows, Cond.selects RX4 yX4_dropRows yX4_dropRows, Cond.initialized RX4, Cond.code yX4_dropRows cX4_dropRows 1 none, Cond.fieldLink RX4 19 "RiddleTrade$Table" "rows" "I", Cond.methodLink RX2 46 yX4_addRow, Cond.instanceMethod yX4_addRow, Cond.selects RX4 yX4_addRow yX4_addRow, Cond.code yX4_addRow cX4_addRow 1 (some .int)]
def wsX5_perform_r2 : List Cond := [Cond.methodLink RX2 49 yX2_readThing, Cond.instanceMethod yX2_readThing, Cond.selects RX2 yX2_readThing yX2_readThing, Cond.code yX2_readThing cX2_readThing 2 none, Cond.methodLink RX2 56 yX2_here, Cond.instanceMethod yX2_here, Cond.selects RX2 yX2_here yX2_here, Cond.code yX2_here cX2_here 2 (some .int), Cond.fieldLink RX2 9 "RiddleTrade$Offers" "text" "[C", Cond.methodLink RX2 59 yX4_put, Cond.instanceMethod yX4_put, Cond.selects RX4 yX4_put yX4_put, Cond.code yX4_put cX4_put 5 none, Cond.fieldLink RX4 15 "RiddleTrade$Table" "columns" "I", Cond.fieldLink RX4 9 "RiddleTrade$Table" "cells" "[I", Cond.methodLink RX2 63 yX2_readNumber, Cond.instanceMethod yX2_readNumber, Cond.selects RX2 yX2_readNumber yX2_readNumber, Cond.code yX2_readNumber cX2_readNumber 7 none, Cond.methodLink RX2 67 yX2_digitHere, Cond.instanceMethod yX2_digitHere, Cond.selects RX2 yX2_digitHere yX2_digitHere, Cond.code yX2_digitHere cX2_digitHere 2 (some .int), Cond.methodLink RX2 53 yX2_expect]
def wsX5_perform_r3 : List Cond := [Cond.instanceMethod yX2_expect, Cond.selects RX2 yX2_expect yX2_expect, Cond.code yX2_expect cX2_expect 2 none, Cond.methodLink RX5 43 yX0_copyFrom, Cond.instanceMethod yX0_copyFrom, Cond.selects RX0 yX0_copyFrom yX0_copyFrom, Cond.initialized RX0, Cond.code yX0_copyFrom cX0_copyFrom 2 none, Cond.fieldLink RX0 16 "RiddleTrade$Exchange" "traders" "LRiddleTrade$Table;", Cond.fieldLink RX0 20 "RiddleTrade$Exchange" "riddles" "LRiddleTrade$Table;", Cond.fieldLink RX0 23 "RiddleTrade$Exchange" "answers" "LRiddleTrade$Table;", Cond.fieldLink RX0 26 "RiddleTrade$Exchange" "scales" "LRiddleTrade$Table;", Cond.fieldLink RX0 29 "RiddleTrade$Exchange" "settings" "LRiddleTrade$Table;", Cond.fieldLink RX0 35 "RiddleTrade$Exchange" "row" "LRiddleTrade$Row;", Cond.fieldLink RX0 57 "RiddleTrade$Exchange" "round" "I", Cond.methodLink RX0 50 yX4_copyFrom, Cond.instanceMethod yX4_copyFrom, Cond.selects RX4 yX4_copyFrom yX4_copyFrom, Cond.code yX4_copyFrom cX4_copyFrom 2 none, Cond.methodLink RX4 26 Lib.Math.min.name, Cond.static Lib.Math.min.name, Cond.initialized "java/lang/Math", Cond.code Lib.Math.min.name Lib.Math.min.code 2 (some .int), Cond.methodLink RX4 31 arraycopyName]
def wsX5_perform_r4 : List Cond := [Cond.native arraycopyName, Cond.static arraycopyName, Cond.initialized "java/lang/System", Cond.methodLink RX0 54 yX3_copyFrom, Cond.instanceMethod yX3_copyFrom, Cond.selects RX3 yX3_copyFrom yX3_copyFrom, Cond.initialized RX3, Cond.code yX3_copyFrom cX3_copyFrom 2 none, Cond.fieldLink RX3 19 "RiddleTrade$Row" "head" "I", Cond.fieldLink RX3 15 "RiddleTrade$Row" "length" "I", Cond.fieldLink RX3 9 "RiddleTrade$Row" "ring" "[I", Cond.methodLink RX3 26 Lib.Math.min.name, Cond.methodLink RX3 32 arraycopyName, Cond.methodLink RX5 83 yX2_thingCount, Cond.instanceMethod yX2_thingCount, Cond.selects RX2 yX2_thingCount yX2_thingCount, Cond.code yX2_thingCount cX2_thingCount 1 (some .int), Cond.methodLink RX2 28 yX4_rows, Cond.instanceMethod yX4_rows, Cond.selects RX4 yX4_rows yX4_rows, Cond.code yX4_rows cX4_rows 1 (some .int), Cond.methodLink RX5 86 yX5_doThing, Cond.instanceMethod yX5_doThing, Cond.selects RX5 yX5_doThing yX5_doThing]
def wsX5_perform_r5 : List Cond := [Cond.initialized RX5, Cond.code yX5_doThing cX5_doThing 5 (some .int), Cond.methodLink RX5 145 yX2_numberOf, Cond.instanceMethod yX2_numberOf, Cond.selects RX2 yX2_numberOf yX2_numberOf, Cond.code yX2_numberOf cX2_numberOf 3 (some .int), Cond.methodLink RX2 32 yX4_get, Cond.instanceMethod yX4_get, Cond.selects RX4 yX4_get yX4_get, Cond.code yX4_get cX4_get 4 (some .int), Cond.methodLink RX5 47 yX0_addRiddle, Cond.instanceMethod yX0_addRiddle, Cond.selects RX0 yX0_addRiddle yX0_addRiddle, Cond.code yX0_addRiddle cX0_addRiddle 5 (some .int), Cond.methodLink RX0 61 yX4_has, Cond.instanceMethod yX4_has, Cond.selects RX4 yX4_has yX4_has, Cond.code yX4_has cX4_has 2 (some .boolean), Cond.methodLink RX0 65 yX4_rows, Cond.methodLink RX0 39 yX4_addRow, Cond.methodLink RX0 43 yX4_put, Cond.methodLink RX5 58 yX0_addAnswer, Cond.instanceMethod yX0_addAnswer, Cond.selects RX0 yX0_addAnswer yX0_addAnswer]
def wsX5_perform_r6 : List Cond := [Cond.code yX0_addAnswer cX0_addAnswer 6 (some .int), Cond.methodLink RX0 68 yX4_get, Cond.methodLink RX0 76 yX3_addLast, Cond.instanceMethod yX3_addLast, Cond.selects RX3 yX3_addLast yX3_addLast, Cond.code yX3_addLast cX3_addLast 3 none, Cond.methodLink RX5 70 yX0_playRounds, Cond.instanceMethod yX0_playRounds, Cond.selects RX0 yX0_playRounds yX0_playRounds, Cond.code yX0_playRounds cX0_playRounds 4 (some .int), Cond.methodLink RX0 86 yX0_playRound, Cond.instanceMethod yX0_playRound, Cond.selects RX0 yX0_playRound yX0_playRound, Cond.code yX0_playRound cX0_playRound 4 (some .int), Cond.methodLink RX0 92 Lib.Math.min.name, Cond.methodLink RX0 89 yX3_length, Cond.instanceMethod yX3_length, Cond.selects RX3 yX3_length yX3_length, Cond.code yX3_length cX3_length 1 (some .int), Cond.methodLink RX0 95 yX3_takeFirst, Cond.instanceMethod yX3_takeFirst, Cond.selects RX3 yX3_takeFirst yX3_takeFirst, Cond.code yX3_takeFirst cX3_takeFirst 2 (some .int), Cond.methodLink RX3 22 yX3_at]
def wsX5_perform_r7 : List Cond := [Cond.instanceMethod yX3_at, Cond.selects RX3 yX3_at yX3_at, Cond.code yX3_at cX3_at 3 (some .int), Cond.methodLink RX0 98 yX0_takeOne, Cond.instanceMethod yX0_takeOne, Cond.selects RX0 yX0_takeOne yX0_takeOne, Cond.code yX0_takeOne cX0_takeOne 4 (some .boolean), Cond.methodLink RX0 104 yX0_paymentFor, Cond.instanceMethod yX0_paymentFor, Cond.selects RX0 yX0_paymentFor yX0_paymentFor, Cond.code yX0_paymentFor cX0_paymentFor 4 (some .int), Cond.methodLink RX0 129 yX0_told, Cond.instanceMethod yX0_told, Cond.selects RX0 yX0_told yX0_told, Cond.code yX0_told cX0_told 3 (some .int), Cond.methodLink RX0 126 Lib.Math.max.name, Cond.static Lib.Math.max.name, Cond.code Lib.Math.max.name Lib.Math.max.code 2 (some .int), Cond.methodLink RX0 107 yX0_hindrance, Cond.instanceMethod yX0_hindrance, Cond.selects RX0 yX0_hindrance yX0_hindrance, Cond.code yX0_hindrance cX0_hindrance 6 (some .int), Cond.methodLink RX0 80 Lib.Math.abs.name, Cond.static Lib.Math.abs.name]
def wsX5_perform_r8 : List Cond := [Cond.code Lib.Math.abs.name Lib.Math.abs.code 1 (some .int), Cond.methodLink RX0 110 yX0_refuse, Cond.instanceMethod yX0_refuse, Cond.selects RX0 yX0_refuse yX0_refuse, Cond.code yX0_refuse cX0_refuse 3 none, Cond.methodLink RX0 114 yX0_driftOn, Cond.instanceMethod yX0_driftOn, Cond.selects RX0 yX0_driftOn yX0_driftOn, Cond.code yX0_driftOn cX0_driftOn 5 none, Cond.methodLink RX0 123 yX4_increase, Cond.instanceMethod yX4_increase, Cond.selects RX4 yX4_increase yX4_increase, Cond.code yX4_increase cX4_increase 5 none, Cond.methodLink RX0 117 yX0_doubt, Cond.instanceMethod yX0_doubt, Cond.selects RX0 yX0_doubt yX0_doubt, Cond.code yX0_doubt cX0_doubt 2 none, Cond.methodLink RX0 120 yX0_pay, Cond.instanceMethod yX0_pay, Cond.selects RX0 yX0_pay yX0_pay, Cond.code yX0_pay cX0_pay 4 none, Cond.methodLink RX0 101 yX0_chargeFees, Cond.instanceMethod yX0_chargeFees, Cond.selects RX0 yX0_chargeFees yX0_chargeFees]
def wsX5_perform_r9 : List Cond := [Cond.code yX0_chargeFees cX0_chargeFees 4 none, Cond.methodLink RX5 51 yX5_finishAct, Cond.instanceMethod yX5_finishAct, Cond.selects RX5 yX5_finishAct yX5_finishAct, Cond.code yX5_finishAct cX5_finishAct 2 (some .int), Cond.fieldLink RX5 25 "RiddleTrade" "history" "LRiddleTrade$History;", Cond.methodLink RX5 142 yX1_record, Cond.instanceMethod yX1_record, Cond.selects RX1 yX1_record yX1_record, Cond.initialized RX1, Cond.code yX1_record cX1_record 3 none, Cond.fieldLink RX1 18 "RiddleTrade$History" "size" "I", Cond.fieldLink RX1 22 "RiddleTrade$History" "oldest" "I", Cond.methodLink RX1 25 yX1_stateAt, Cond.instanceMethod yX1_stateAt, Cond.selects RX1 yX1_stateAt yX1_stateAt, Cond.code yX1_stateAt cX1_stateAt 3 (some (.object "RiddleTrade$Exchange")), Cond.fieldLink RX1 11 "RiddleTrade$History" "states" "[LRiddleTrade$Exchange;", Cond.methodLink RX1 29 yX0_copyFrom]
def wsX5_perform : List Cond := .code yX5_perform cX5_perform 5 (some .int) :: ((wsX5_perform_r1 ++ (wsX5_perform_r2 ++ (wsX5_perform_r3 ++ (wsX5_perform_r4 ++ (wsX5_perform_r5 ++ (wsX5_perform_r6 ++ (wsX5_perform_r7 ++ (wsX5_perform_r8 ++ wsX5_perform_r9)))))))) ++ wsX50 ++ wsX20 ++ wsX40 ++ wsX00 ++ wsX30 ++ wsX10)
def wsX5_stopped : List Cond := .code yX5_stopped cX5_stopped 2 (some .int) :: ([.fieldLink RX5 36 "RiddleTrade" "stoppedNumber" "I", .fieldLink RX5 40 "RiddleTrade" "stoppedError" "I"] ++ wsX50)
def wsX5_undo_r1 : List Cond := [Cond.fieldLink RX5 25 "RiddleTrade" "history" "LRiddleTrade$History;", Cond.fieldLink RX5 10 "RiddleTrade" "now" "LRiddleTrade$Exchange;", Cond.methodLink RX5 89 yX1_takeBackInto, Cond.instanceMethod yX1_takeBackInto, Cond.selects RX1 yX1_takeBackInto yX1_takeBackInto, Cond.initialized RX1, Cond.code yX1_takeBackInto cX1_takeBackInto 3 (some .int), Cond.fieldLink RX1 18 "RiddleTrade$History" "size" "I", Cond.methodLink RX1 25 yX1_stateAt, Cond.instanceMethod yX1_stateAt, Cond.selects RX1 yX1_stateAt yX1_stateAt, Cond.code yX1_stateAt cX1_stateAt 3 (some (.object "RiddleTrade$Exchange")), Cond.fieldLink RX1 22 "RiddleTrade$History" "oldest" "I", Cond.fieldLink RX1 11 "RiddleTrade$History" "states" "[LRiddleTrade$Exchange;", Cond.methodLink RX1 29 yX0_copyFrom, Cond.instanceMethod yX0_copyFrom, Cond.selects RX0 yX0_copyFrom yX0_copyFrom, Cond.initialized RX0, Cond.code yX0_copyFrom cX0_copyFrom 2 none, Cond.fieldLink RX0 16 "RiddleTrade$Exchange" "traders" "LRiddleTrade$Table;", Cond.fieldLink RX0 20 "RiddleTrade$Exchange" "riddles" "LRiddleTrade$Table;", Cond.fieldLink RX0 23 "RiddleTrade$Exchange" "answers" "LRiddleTrade$Table;", Cond.fieldLink RX0 26 "RiddleTrade$Exchange" "scales" "LRiddleTrade$Table;", Cond.fieldLink RX0 29 "RiddleTrade$Exchange" "settings" "LRiddleTrade$Table;"]
def wsX5_undo_r2 : List Cond := [Cond.fieldLink RX0 35 "RiddleTrade$Exchange" "row" "LRiddleTrade$Row;", Cond.fieldLink RX0 57 "RiddleTrade$Exchange" "round" "I", Cond.methodLink RX0 50 yX4_copyFrom, Cond.instanceMethod yX4_copyFrom, Cond.selects RX4 yX4_copyFrom yX4_copyFrom, Cond.initialized RX4, Cond.code yX4_copyFrom cX4_copyFrom 2 none, Cond.fieldLink RX4 19 "RiddleTrade$Table" "rows" "I", Cond.fieldLink RX4 9 "RiddleTrade$Table" "cells" "[I", Cond.methodLink RX4 26 Lib.Math.min.name, Cond.static Lib.Math.min.name, Cond.initialized "java/lang/Math", Cond.code Lib.Math.min.name Lib.Math.min.code 2 (some .int), Cond.methodLink RX4 31 arraycopyName, Cond.native arraycopyName, Cond.static arraycopyName, Cond.initialized "java/lang/System", Cond.methodLink RX0 54 yX3_copyFrom, Cond.instanceMethod yX3_copyFrom, Cond.selects RX3 yX3_copyFrom yX3_copyFrom, Cond.initialized RX3, Cond.code yX3_copyFrom cX3_copyFrom 2 none, Cond.fieldLink RX3 19 "RiddleTrade$Row" "head" "I", Cond.fieldLink RX3 15 "RiddleTrade$Row" "length" "I"]
def wsX5_undo_r3 : List Cond := [Cond.fieldLink RX3 9 "RiddleTrade$Row" "ring" "[I", Cond.methodLink RX3 26 Lib.Math.min.name, Cond.methodLink RX3 32 arraycopyName]
def wsX5_undo : List Cond := .code yX5_undo cX5_undo 1 (some .int) :: ((wsX5_undo_r1 ++ (wsX5_undo_r2 ++ wsX5_undo_r3)) ++ wsX50 ++ wsX10 ++ wsX00 ++ wsX40 ++ wsX30)
def wsX5_keep_r1 : List Cond := [Cond.fieldLink RX5 19 "RiddleTrade" "snapshot" "LRiddleTrade$Exchange;", Cond.fieldLink RX5 10 "RiddleTrade" "now" "LRiddleTrade$Exchange;", Cond.fieldLink RX5 93 "RiddleTrade" "hasSnapshot" "Z", Cond.methodLink RX5 43 yX0_copyFrom, Cond.instanceMethod yX0_copyFrom, Cond.selects RX0 yX0_copyFrom yX0_copyFrom, Cond.initialized RX0, Cond.code yX0_copyFrom cX0_copyFrom 2 none, Cond.fieldLink RX0 16 "RiddleTrade$Exchange" "traders" "LRiddleTrade$Table;", Cond.fieldLink RX0 20 "RiddleTrade$Exchange" "riddles" "LRiddleTrade$Table;", Cond.fieldLink RX0 23 "RiddleTrade$Exchange" "answers" "LRiddleTrade$Table;", Cond.fieldLink RX0 26 "RiddleTrade$Exchange" "scales" "LRiddleTrade$Table;", Cond.fieldLink RX0 29 "RiddleTrade$Exchange" "settings" "LRiddleTrade$Table;", Cond.fieldLink RX0 35 "RiddleTrade$Exchange" "row" "LRiddleTrade$Row;", Cond.fieldLink RX0 57 "RiddleTrade$Exchange" "round" "I", Cond.methodLink RX0 50 yX4_copyFrom, Cond.instanceMethod yX4_copyFrom, Cond.selects RX4 yX4_copyFrom yX4_copyFrom, Cond.initialized RX4, Cond.code yX4_copyFrom cX4_copyFrom 2 none, Cond.fieldLink RX4 19 "RiddleTrade$Table" "rows" "I", Cond.fieldLink RX4 9 "RiddleTrade$Table" "cells" "[I", Cond.methodLink RX4 26 Lib.Math.min.name, Cond.static Lib.Math.min.name]
def wsX5_keep_r2 : List Cond := [Cond.initialized "java/lang/Math", Cond.code Lib.Math.min.name Lib.Math.min.code 2 (some .int), Cond.methodLink RX4 31 arraycopyName, Cond.native arraycopyName, Cond.static arraycopyName, Cond.initialized "java/lang/System", Cond.methodLink RX0 54 yX3_copyFrom, Cond.instanceMethod yX3_copyFrom, Cond.selects RX3 yX3_copyFrom yX3_copyFrom, Cond.initialized RX3, Cond.code yX3_copyFrom cX3_copyFrom 2 none, Cond.fieldLink RX3 19 "RiddleTrade$Row" "head" "I", Cond.fieldLink RX3 15 "RiddleTrade$Row" "length" "I", Cond.fieldLink RX3 9 "RiddleTrade$Row" "ring" "[I", Cond.methodLink RX3 26 Lib.Math.min.name, Cond.methodLink RX3 32 arraycopyName, Cond.methodLink RX5 97 yX0_waiting, Cond.instanceMethod yX0_waiting, Cond.selects RX0 yX0_waiting yX0_waiting, Cond.code yX0_waiting cX0_waiting 1 (some .int), Cond.methodLink RX0 89 yX3_length, Cond.instanceMethod yX3_length, Cond.selects RX3 yX3_length yX3_length, Cond.code yX3_length cX3_length 1 (some .int)]
def wsX5_keep : List Cond := .code yX5_keep cX5_keep 1 (some .int) :: ((wsX5_keep_r1 ++ wsX5_keep_r2) ++ wsX50 ++ wsX00 ++ wsX40 ++ wsX30)
def wsX5_restore_r1 : List Cond := [Cond.fieldLink RX5 93 "RiddleTrade" "hasSnapshot" "Z", Cond.fieldLink RX5 16 "RiddleTrade" "trial" "LRiddleTrade$Exchange;", Cond.fieldLink RX5 19 "RiddleTrade" "snapshot" "LRiddleTrade$Exchange;", Cond.methodLink RX5 43 yX0_copyFrom, Cond.instanceMethod yX0_copyFrom, Cond.selects RX0 yX0_copyFrom yX0_copyFrom, Cond.initialized RX0, Cond.code yX0_copyFrom cX0_copyFrom 2 none, Cond.fieldLink RX0 16 "RiddleTrade$Exchange" "traders" "LRiddleTrade$Table;", Cond.fieldLink RX0 20 "RiddleTrade$Exchange" "riddles" "LRiddleTrade$Table;", Cond.fieldLink RX0 23 "RiddleTrade$Exchange" "answers" "LRiddleTrade$Table;", Cond.fieldLink RX0 26 "RiddleTrade$Exchange" "scales" "LRiddleTrade$Table;", Cond.fieldLink RX0 29 "RiddleTrade$Exchange" "settings" "LRiddleTrade$Table;", Cond.fieldLink RX0 35 "RiddleTrade$Exchange" "row" "LRiddleTrade$Row;", Cond.fieldLink RX0 57 "RiddleTrade$Exchange" "round" "I", Cond.methodLink RX0 50 yX4_copyFrom, Cond.instanceMethod yX4_copyFrom, Cond.selects RX4 yX4_copyFrom yX4_copyFrom, Cond.initialized RX4, Cond.code yX4_copyFrom cX4_copyFrom 2 none, Cond.fieldLink RX4 19 "RiddleTrade$Table" "rows" "I", Cond.fieldLink RX4 9 "RiddleTrade$Table" "cells" "[I", Cond.methodLink RX4 26 Lib.Math.min.name, Cond.static Lib.Math.min.name]
def wsX5_restore_r2 : List Cond := [Cond.initialized "java/lang/Math", Cond.code Lib.Math.min.name Lib.Math.min.code 2 (some .int), Cond.methodLink RX4 31 arraycopyName, Cond.native arraycopyName, Cond.static arraycopyName, Cond.initialized "java/lang/System", Cond.methodLink RX0 54 yX3_copyFrom, Cond.instanceMethod yX3_copyFrom, Cond.selects RX3 yX3_copyFrom yX3_copyFrom, Cond.initialized RX3, Cond.code yX3_copyFrom cX3_copyFrom 2 none, Cond.fieldLink RX3 19 "RiddleTrade$Row" "head" "I", Cond.fieldLink RX3 15 "RiddleTrade$Row" "length" "I", Cond.fieldLink RX3 9 "RiddleTrade$Row" "ring" "[I", Cond.methodLink RX3 26 Lib.Math.min.name, Cond.methodLink RX3 32 arraycopyName, Cond.methodLink RX5 97 yX0_waiting, Cond.instanceMethod yX0_waiting, Cond.selects RX0 yX0_waiting yX0_waiting, Cond.code yX0_waiting cX0_waiting 1 (some .int), Cond.methodLink RX0 89 yX3_length, Cond.instanceMethod yX3_length, Cond.selects RX3 yX3_length yX3_length, Cond.code yX3_length cX3_length 1 (some .int)]
def wsX5_restore_r3 : List Cond := [Cond.methodLink RX5 51 yX5_finishAct, Cond.instanceMethod yX5_finishAct, Cond.selects RX5 yX5_finishAct yX5_finishAct, Cond.initialized RX5, Cond.code yX5_finishAct cX5_finishAct 2 (some .int), Cond.fieldLink RX5 25 "RiddleTrade" "history" "LRiddleTrade$History;", Cond.fieldLink RX5 10 "RiddleTrade" "now" "LRiddleTrade$Exchange;", Cond.methodLink RX5 142 yX1_record, Cond.instanceMethod yX1_record, Cond.selects RX1 yX1_record yX1_record, Cond.initialized RX1, Cond.code yX1_record cX1_record 3 none, Cond.fieldLink RX1 18 "RiddleTrade$History" "size" "I", Cond.fieldLink RX1 22 "RiddleTrade$History" "oldest" "I", Cond.methodLink RX1 25 yX1_stateAt, Cond.instanceMethod yX1_stateAt, Cond.selects RX1 yX1_stateAt yX1_stateAt, Cond.code yX1_stateAt cX1_stateAt 3 (some (.object "RiddleTrade$Exchange")), Cond.fieldLink RX1 11 "RiddleTrade$History" "states" "[LRiddleTrade$Exchange;", Cond.methodLink RX1 29 yX0_copyFrom]
def wsX5_restore : List Cond := .code yX5_restore cX5_restore 1 (some .int) :: ((wsX5_restore_r1 ++ (wsX5_restore_r2 ++ wsX5_restore_r3)) ++ wsX50 ++ wsX00 ++ wsX40 ++ wsX30 ++ wsX10)
def wsX5_trader_r1 : List Cond := [Cond.fieldLink RX5 10 "RiddleTrade" "now" "LRiddleTrade$Exchange;", Cond.methodLink RX5 100 yX0_tellTrader, Cond.instanceMethod yX0_tellTrader, Cond.selects RX0 yX0_tellTrader yX0_tellTrader, Cond.initialized RX0, Cond.code yX0_tellTrader cX0_tellTrader 3 (some .int), Cond.fieldLink RX0 16 "RiddleTrade$Exchange" "traders" "LRiddleTrade$Table;", Cond.methodLink RX0 126 Lib.Math.max.name, Cond.static Lib.Math.max.name, Cond.initialized "java/lang/Math", Cond.code Lib.Math.max.name Lib.Math.max.code 2 (some .int), Cond.fieldLink RX0 20 "RiddleTrade$Exchange" "riddles" "LRiddleTrade$Table;", Cond.fieldLink RX0 23 "RiddleTrade$Exchange" "answers" "LRiddleTrade$Table;", Cond.methodLink RX0 61 yX4_has, Cond.instanceMethod yX4_has, Cond.selects RX4 yX4_has yX4_has, Cond.initialized RX4, Cond.code yX4_has cX4_has 2 (some .boolean), Cond.fieldLink RX4 19 "RiddleTrade$Table" "rows" "I", Cond.methodLink RX0 68 yX4_get, Cond.instanceMethod yX4_get, Cond.selects RX4 yX4_get yX4_get, Cond.code yX4_get cX4_get 4 (some .int), Cond.fieldLink RX4 15 "RiddleTrade$Table" "columns" "I"]
def wsX5_trader_r2 : List Cond := [Cond.fieldLink RX4 9 "RiddleTrade$Table" "cells" "[I", Cond.methodLink RX0 135 yX4_countOf, Cond.instanceMethod yX4_countOf, Cond.selects RX4 yX4_countOf yX4_countOf, Cond.code yX4_countOf cX4_countOf 5 (some .int), Cond.methodLink RX4 22 yX4_get, Cond.methodLink RX0 72 yX4_countOfBoth, Cond.instanceMethod yX4_countOfBoth, Cond.selects RX4 yX4_countOfBoth yX4_countOfBoth, Cond.code yX4_countOfBoth cX4_countOfBoth 7 (some .int)]
def wsX5_trader : List Cond := .code yX5_trader cX5_trader 3 (some .int) :: ((wsX5_trader_r1 ++ wsX5_trader_r2) ++ wsX50 ++ wsX00 ++ wsX40)
def wsX5_riddle_r1 : List Cond := [Cond.fieldLink RX5 10 "RiddleTrade" "now" "LRiddleTrade$Exchange;", Cond.methodLink RX5 103 yX0_tellRiddle, Cond.instanceMethod yX0_tellRiddle, Cond.selects RX0 yX0_tellRiddle yX0_tellRiddle, Cond.initialized RX0, Cond.code yX0_tellRiddle cX0_tellRiddle 3 (some .int), Cond.fieldLink RX0 20 "RiddleTrade$Exchange" "riddles" "LRiddleTrade$Table;", Cond.fieldLink RX0 23 "RiddleTrade$Exchange" "answers" "LRiddleTrade$Table;", Cond.methodLink RX0 61 yX4_has, Cond.instanceMethod yX4_has, Cond.selects RX4 yX4_has yX4_has, Cond.initialized RX4, Cond.code yX4_has cX4_has 2 (some .boolean), Cond.fieldLink RX4 19 "RiddleTrade$Table" "rows" "I", Cond.methodLink RX0 68 yX4_get, Cond.instanceMethod yX4_get, Cond.selects RX4 yX4_get yX4_get, Cond.code yX4_get cX4_get 4 (some .int), Cond.fieldLink RX4 15 "RiddleTrade$Table" "columns" "I", Cond.fieldLink RX4 9 "RiddleTrade$Table" "cells" "[I", Cond.methodLink RX0 135 yX4_countOf, Cond.instanceMethod yX4_countOf, Cond.selects RX4 yX4_countOf yX4_countOf, Cond.code yX4_countOf cX4_countOf 5 (some .int)]
def wsX5_riddle_r2 : List Cond := [Cond.methodLink RX4 22 yX4_get, Cond.methodLink RX0 72 yX4_countOfBoth, Cond.instanceMethod yX4_countOfBoth, Cond.selects RX4 yX4_countOfBoth yX4_countOfBoth, Cond.code yX4_countOfBoth cX4_countOfBoth 7 (some .int), Cond.methodLink RX0 138 yX4_rowOfBoth, Cond.instanceMethod yX4_rowOfBoth, Cond.selects RX4 yX4_rowOfBoth yX4_rowOfBoth, Cond.code yX4_rowOfBoth cX4_rowOfBoth 6 (some .int)]
def wsX5_riddle : List Cond := .code yX5_riddle cX5_riddle 3 (some .int) :: ((wsX5_riddle_r1 ++ wsX5_riddle_r2) ++ wsX50 ++ wsX00 ++ wsX40)
def wsX5_answer_r1 : List Cond := [Cond.fieldLink RX5 10 "RiddleTrade" "now" "LRiddleTrade$Exchange;", Cond.methodLink RX5 106 yX0_tellAnswer, Cond.instanceMethod yX0_tellAnswer, Cond.selects RX0 yX0_tellAnswer yX0_tellAnswer, Cond.initialized RX0, Cond.code yX0_tellAnswer cX0_tellAnswer 3 (some .int), Cond.fieldLink RX0 23 "RiddleTrade$Exchange" "answers" "LRiddleTrade$Table;", Cond.fieldLink RX0 35 "RiddleTrade$Exchange" "row" "LRiddleTrade$Row;", Cond.methodLink RX0 61 yX4_has, Cond.instanceMethod yX4_has, Cond.selects RX4 yX4_has yX4_has, Cond.initialized RX4, Cond.code yX4_has cX4_has 2 (some .boolean), Cond.fieldLink RX4 19 "RiddleTrade$Table" "rows" "I", Cond.methodLink RX0 141 yX3_placeOf, Cond.instanceMethod yX3_placeOf, Cond.selects RX3 yX3_placeOf yX3_placeOf, Cond.initialized RX3, Cond.code yX3_placeOf cX3_placeOf 3 (some .int), Cond.fieldLink RX3 15 "RiddleTrade$Row" "length" "I", Cond.methodLink RX3 22 yX3_at, Cond.instanceMethod yX3_at, Cond.selects RX3 yX3_at yX3_at, Cond.code yX3_at cX3_at 3 (some .int)]
def wsX5_answer_r2 : List Cond := [Cond.fieldLink RX3 19 "RiddleTrade$Row" "head" "I", Cond.fieldLink RX3 9 "RiddleTrade$Row" "ring" "[I", Cond.methodLink RX0 68 yX4_get, Cond.instanceMethod yX4_get, Cond.selects RX4 yX4_get yX4_get, Cond.code yX4_get cX4_get 4 (some .int), Cond.fieldLink RX4 15 "RiddleTrade$Table" "columns" "I", Cond.fieldLink RX4 9 "RiddleTrade$Table" "cells" "[I"]
def wsX5_answer : List Cond := .code yX5_answer cX5_answer 3 (some .int) :: ((wsX5_answer_r1 ++ wsX5_answer_r2) ++ wsX50 ++ wsX00 ++ wsX40 ++ wsX30)
def wsX5_waits : List Cond := .code yX5_waits cX5_waits 2 (some .int) :: ([.fieldLink RX5 10 "RiddleTrade" "now" "LRiddleTrade$Exchange;", .methodLink RX5 109 yX0_waitingAt, .instanceMethod yX0_waitingAt, .selects RX0 yX0_waitingAt yX0_waitingAt, .initialized RX0, .code yX0_waitingAt cX0_waitingAt 2 (some .int), .fieldLink RX0 35 "RiddleTrade$Exchange" "row" "LRiddleTrade$Row;", .methodLink RX0 132 yX3_at, .instanceMethod yX3_at, .selects RX3 yX3_at yX3_at, .initialized RX3, .code yX3_at cX3_at 3 (some .int), .fieldLink RX3 15 "RiddleTrade$Row" "length" "I", .fieldLink RX3 19 "RiddleTrade$Row" "head" "I", .fieldLink RX3 9 "RiddleTrade$Row" "ring" "[I"] ++ wsX50 ++ wsX00 ++ wsX30)
def wsX5_weigh : List Cond := .code yX5_weigh cX5_weigh 3 (some .int) :: ([.fieldLink RX5 10 "RiddleTrade" "now" "LRiddleTrade$Exchange;", .methodLink RX5 112 yX0_told, .instanceMethod yX0_told, .selects RX0 yX0_told yX0_told, .initialized RX0, .code yX0_told cX0_told 3 (some .int), .fieldLink RX0 26 "RiddleTrade$Exchange" "scales" "LRiddleTrade$Table;", .methodLink RX0 126 Lib.Math.max.name, .static Lib.Math.max.name, .initialized "java/lang/Math", .code Lib.Math.max.name Lib.Math.max.code 2 (some .int), .methodLink RX0 68 yX4_get, .instanceMethod yX4_get, .selects RX4 yX4_get yX4_get, .initialized RX4, .code yX4_get cX4_get 4 (some .int), .fieldLink RX4 15 "RiddleTrade$Table" "columns" "I", .fieldLink RX4 9 "RiddleTrade$Table" "cells" "[I"] ++ wsX50 ++ wsX00 ++ wsX40)
def wsX5_reason_r1 : List Cond := [Cond.fieldLink RX5 10 "RiddleTrade" "now" "LRiddleTrade$Exchange;", Cond.methodLink RX5 115 yX0_errorIfNotWaiting, Cond.instanceMethod yX0_errorIfNotWaiting, Cond.selects RX0 yX0_errorIfNotWaiting yX0_errorIfNotWaiting, Cond.initialized RX0, Cond.code yX0_errorIfNotWaiting cX0_errorIfNotWaiting 2 (some .int), Cond.fieldLink RX0 23 "RiddleTrade$Exchange" "answers" "LRiddleTrade$Table;", Cond.methodLink RX0 61 yX4_has, Cond.instanceMethod yX4_has, Cond.selects RX4 yX4_has yX4_has, Cond.initialized RX4, Cond.code yX4_has cX4_has 2 (some .boolean), Cond.fieldLink RX4 19 "RiddleTrade$Table" "rows" "I", Cond.methodLink RX0 68 yX4_get, Cond.instanceMethod yX4_get, Cond.selects RX4 yX4_get yX4_get, Cond.code yX4_get cX4_get 4 (some .int), Cond.fieldLink RX4 15 "RiddleTrade$Table" "columns" "I", Cond.fieldLink RX4 9 "RiddleTrade$Table" "cells" "[I", Cond.methodLink RX5 118 yX0_paymentFor, Cond.instanceMethod yX0_paymentFor, Cond.selects RX0 yX0_paymentFor yX0_paymentFor, Cond.code yX0_paymentFor cX0_paymentFor 4 (some .int), Cond.fieldLink RX0 20 "RiddleTrade$Exchange" "riddles" "LRiddleTrade$Table;"]
def wsX5_reason_r2 : List Cond := [Cond.methodLink RX0 129 yX0_told, Cond.instanceMethod yX0_told, Cond.selects RX0 yX0_told yX0_told, Cond.code yX0_told cX0_told 3 (some .int), Cond.fieldLink RX0 26 "RiddleTrade$Exchange" "scales" "LRiddleTrade$Table;", Cond.methodLink RX0 126 Lib.Math.max.name, Cond.static Lib.Math.max.name, Cond.initialized "java/lang/Math", Cond.code Lib.Math.max.name Lib.Math.max.code 2 (some .int), Cond.methodLink RX5 121 yX0_hindrance, Cond.instanceMethod yX0_hindrance, Cond.selects RX0 yX0_hindrance yX0_hindrance, Cond.code yX0_hindrance cX0_hindrance 6 (some .int), Cond.methodLink RX0 80 Lib.Math.abs.name, Cond.static Lib.Math.abs.name, Cond.code Lib.Math.abs.name Lib.Math.abs.code 1 (some .int), Cond.fieldLink RX0 29 "RiddleTrade$Exchange" "settings" "LRiddleTrade$Table;", Cond.fieldLink RX0 16 "RiddleTrade$Exchange" "traders" "LRiddleTrade$Table;"]
def wsX5_reason : List Cond := .code yX5_reason cX5_reason 3 (some .int) :: ((wsX5_reason_r1 ++ wsX5_reason_r2) ++ wsX50 ++ wsX00 ++ wsX40)
def wsX5_settledIn_r1 : List Cond := [Cond.fieldLink RX5 10 "RiddleTrade" "now" "LRiddleTrade$Exchange;", Cond.fieldLink RX5 16 "RiddleTrade" "trial" "LRiddleTrade$Exchange;", Cond.methodLink RX5 115 yX0_errorIfNotWaiting, Cond.instanceMethod yX0_errorIfNotWaiting, Cond.selects RX0 yX0_errorIfNotWaiting yX0_errorIfNotWaiting, Cond.initialized RX0, Cond.code yX0_errorIfNotWaiting cX0_errorIfNotWaiting 2 (some .int), Cond.fieldLink RX0 23 "RiddleTrade$Exchange" "answers" "LRiddleTrade$Table;", Cond.methodLink RX0 61 yX4_has, Cond.instanceMethod yX4_has, Cond.selects RX4 yX4_has yX4_has, Cond.initialized RX4, Cond.code yX4_has cX4_has 2 (some .boolean), Cond.fieldLink RX4 19 "RiddleTrade$Table" "rows" "I", Cond.methodLink RX0 68 yX4_get, Cond.instanceMethod yX4_get, Cond.selects RX4 yX4_get yX4_get, Cond.code yX4_get cX4_get 4 (some .int), Cond.fieldLink RX4 15 "RiddleTrade$Table" "columns" "I", Cond.fieldLink RX4 9 "RiddleTrade$Table" "cells" "[I", Cond.methodLink RX5 43 yX0_copyFrom, Cond.instanceMethod yX0_copyFrom, Cond.selects RX0 yX0_copyFrom yX0_copyFrom, Cond.code yX0_copyFrom cX0_copyFrom 2 none]
def wsX5_settledIn_r2 : List Cond := [Cond.fieldLink RX0 16 "RiddleTrade$Exchange" "traders" "LRiddleTrade$Table;", Cond.fieldLink RX0 20 "RiddleTrade$Exchange" "riddles" "LRiddleTrade$Table;", Cond.fieldLink RX0 26 "RiddleTrade$Exchange" "scales" "LRiddleTrade$Table;", Cond.fieldLink RX0 29 "RiddleTrade$Exchange" "settings" "LRiddleTrade$Table;", Cond.fieldLink RX0 35 "RiddleTrade$Exchange" "row" "LRiddleTrade$Row;", Cond.fieldLink RX0 57 "RiddleTrade$Exchange" "round" "I", Cond.methodLink RX0 50 yX4_copyFrom, Cond.instanceMethod yX4_copyFrom, Cond.selects RX4 yX4_copyFrom yX4_copyFrom, Cond.code yX4_copyFrom cX4_copyFrom 2 none, Cond.methodLink RX4 26 Lib.Math.min.name, Cond.static Lib.Math.min.name, Cond.initialized "java/lang/Math", Cond.code Lib.Math.min.name Lib.Math.min.code 2 (some .int), Cond.methodLink RX4 31 arraycopyName, Cond.native arraycopyName, Cond.static arraycopyName, Cond.initialized "java/lang/System", Cond.methodLink RX0 54 yX3_copyFrom, Cond.instanceMethod yX3_copyFrom, Cond.selects RX3 yX3_copyFrom yX3_copyFrom, Cond.initialized RX3, Cond.code yX3_copyFrom cX3_copyFrom 2 none, Cond.fieldLink RX3 19 "RiddleTrade$Row" "head" "I"]
def wsX5_settledIn_r3 : List Cond := [Cond.fieldLink RX3 15 "RiddleTrade$Row" "length" "I", Cond.fieldLink RX3 9 "RiddleTrade$Row" "ring" "[I", Cond.methodLink RX3 26 Lib.Math.min.name, Cond.methodLink RX3 32 arraycopyName, Cond.methodLink RX5 124 yX0_playRound, Cond.instanceMethod yX0_playRound, Cond.selects RX0 yX0_playRound yX0_playRound, Cond.code yX0_playRound cX0_playRound 4 (some .int), Cond.methodLink RX0 92 Lib.Math.min.name, Cond.methodLink RX0 89 yX3_length, Cond.instanceMethod yX3_length, Cond.selects RX3 yX3_length yX3_length, Cond.code yX3_length cX3_length 1 (some .int), Cond.methodLink RX0 95 yX3_takeFirst, Cond.instanceMethod yX3_takeFirst, Cond.selects RX3 yX3_takeFirst yX3_takeFirst, Cond.code yX3_takeFirst cX3_takeFirst 2 (some .int), Cond.methodLink RX3 22 yX3_at, Cond.instanceMethod yX3_at, Cond.selects RX3 yX3_at yX3_at, Cond.code yX3_at cX3_at 3 (some .int), Cond.methodLink RX0 98 yX0_takeOne, Cond.instanceMethod yX0_takeOne, Cond.selects RX0 yX0_takeOne yX0_takeOne]
def wsX5_settledIn_r4 : List Cond := [Cond.code yX0_takeOne cX0_takeOne 4 (some .boolean), Cond.methodLink RX0 104 yX0_paymentFor, Cond.instanceMethod yX0_paymentFor, Cond.selects RX0 yX0_paymentFor yX0_paymentFor, Cond.code yX0_paymentFor cX0_paymentFor 4 (some .int), Cond.methodLink RX0 129 yX0_told, Cond.instanceMethod yX0_told, Cond.selects RX0 yX0_told yX0_told, Cond.code yX0_told cX0_told 3 (some .int), Cond.methodLink RX0 126 Lib.Math.max.name, Cond.static Lib.Math.max.name, Cond.code Lib.Math.max.name Lib.Math.max.code 2 (some .int), Cond.methodLink RX0 107 yX0_hindrance, Cond.instanceMethod yX0_hindrance, Cond.selects RX0 yX0_hindrance yX0_hindrance, Cond.code yX0_hindrance cX0_hindrance 6 (some .int), Cond.methodLink RX0 80 Lib.Math.abs.name, Cond.static Lib.Math.abs.name, Cond.code Lib.Math.abs.name Lib.Math.abs.code 1 (some .int), Cond.methodLink RX0 110 yX0_refuse, Cond.instanceMethod yX0_refuse, Cond.selects RX0 yX0_refuse yX0_refuse, Cond.code yX0_refuse cX0_refuse 3 none, Cond.methodLink RX0 43 yX4_put]
def wsX5_settledIn_r5 : List Cond := [Cond.instanceMethod yX4_put, Cond.selects RX4 yX4_put yX4_put, Cond.code yX4_put cX4_put 5 none, Cond.methodLink RX0 114 yX0_driftOn, Cond.instanceMethod yX0_driftOn, Cond.selects RX0 yX0_driftOn yX0_driftOn, Cond.code yX0_driftOn cX0_driftOn 5 none, Cond.methodLink RX0 123 yX4_increase, Cond.instanceMethod yX4_increase, Cond.selects RX4 yX4_increase yX4_increase, Cond.code yX4_increase cX4_increase 5 none, Cond.methodLink RX0 117 yX0_doubt, Cond.instanceMethod yX0_doubt, Cond.selects RX0 yX0_doubt yX0_doubt, Cond.code yX0_doubt cX0_doubt 2 none, Cond.methodLink RX0 76 yX3_addLast, Cond.instanceMethod yX3_addLast, Cond.selects RX3 yX3_addLast yX3_addLast, Cond.code yX3_addLast cX3_addLast 3 none, Cond.methodLink RX0 120 yX0_pay, Cond.instanceMethod yX0_pay, Cond.selects RX0 yX0_pay yX0_pay, Cond.code yX0_pay cX0_pay 4 none, Cond.methodLink RX0 101 yX0_chargeFees]
def wsX5_settledIn_r6 : List Cond := [Cond.instanceMethod yX0_chargeFees, Cond.selects RX0 yX0_chargeFees yX0_chargeFees, Cond.code yX0_chargeFees cX0_chargeFees 4 none]
def wsX5_settledIn : List Cond := .code yX5_settledIn cX5_settledIn 4 (some .int) :: ((wsX5_settledIn_r1 ++ (wsX5_settledIn_r2 ++ (wsX5_settledIn_r3 ++ (wsX5_settledIn_r4 ++ (wsX5_settledIn_r5 ++ wsX5_settledIn_r6))))) ++ wsX50 ++ wsX00 ++ wsX40 ++ wsX30)
def wsX5_ifRounds_r1 : List Cond := [Cond.fieldLink RX5 16 "RiddleTrade" "trial" "LRiddleTrade$Exchange;", Cond.fieldLink RX5 10 "RiddleTrade" "now" "LRiddleTrade$Exchange;", Cond.methodLink RX5 43 yX0_copyFrom, Cond.instanceMethod yX0_copyFrom, Cond.selects RX0 yX0_copyFrom yX0_copyFrom, Cond.initialized RX0, Cond.code yX0_copyFrom cX0_copyFrom 2 none, Cond.fieldLink RX0 16 "RiddleTrade$Exchange" "traders" "LRiddleTrade$Table;", Cond.fieldLink RX0 20 "RiddleTrade$Exchange" "riddles" "LRiddleTrade$Table;", Cond.fieldLink RX0 23 "RiddleTrade$Exchange" "answers" "LRiddleTrade$Table;", Cond.fieldLink RX0 26 "RiddleTrade$Exchange" "scales" "LRiddleTrade$Table;", Cond.fieldLink RX0 29 "RiddleTrade$Exchange" "settings" "LRiddleTrade$Table;", Cond.fieldLink RX0 35 "RiddleTrade$Exchange" "row" "LRiddleTrade$Row;", Cond.fieldLink RX0 57 "RiddleTrade$Exchange" "round" "I", Cond.methodLink RX0 50 yX4_copyFrom, Cond.instanceMethod yX4_copyFrom, Cond.selects RX4 yX4_copyFrom yX4_copyFrom, Cond.initialized RX4, Cond.code yX4_copyFrom cX4_copyFrom 2 none, Cond.fieldLink RX4 19 "RiddleTrade$Table" "rows" "I", Cond.fieldLink RX4 9 "RiddleTrade$Table" "cells" "[I", Cond.methodLink RX4 26 Lib.Math.min.name, Cond.static Lib.Math.min.name, Cond.initialized "java/lang/Math"]
def wsX5_ifRounds_r2 : List Cond := [Cond.code Lib.Math.min.name Lib.Math.min.code 2 (some .int), Cond.methodLink RX4 31 arraycopyName, Cond.native arraycopyName, Cond.static arraycopyName, Cond.initialized "java/lang/System", Cond.methodLink RX0 54 yX3_copyFrom, Cond.instanceMethod yX3_copyFrom, Cond.selects RX3 yX3_copyFrom yX3_copyFrom, Cond.initialized RX3, Cond.code yX3_copyFrom cX3_copyFrom 2 none, Cond.fieldLink RX3 19 "RiddleTrade$Row" "head" "I", Cond.fieldLink RX3 15 "RiddleTrade$Row" "length" "I", Cond.fieldLink RX3 9 "RiddleTrade$Row" "ring" "[I", Cond.methodLink RX3 26 Lib.Math.min.name, Cond.methodLink RX3 32 arraycopyName, Cond.methodLink RX5 62 yX0_setScalesRight, Cond.instanceMethod yX0_setScalesRight, Cond.selects RX0 yX0_setScalesRight yX0_setScalesRight, Cond.code yX0_setScalesRight cX0_setScalesRight 3 (some .int), Cond.methodLink RX0 80 Lib.Math.abs.name, Cond.static Lib.Math.abs.name, Cond.code Lib.Math.abs.name Lib.Math.abs.code 1 (some .int), Cond.methodLink RX0 68 yX4_get, Cond.instanceMethod yX4_get]
def wsX5_ifRounds_r3 : List Cond := [Cond.selects RX4 yX4_get yX4_get, Cond.code yX4_get cX4_get 4 (some .int), Cond.fieldLink RX4 15 "RiddleTrade$Table" "columns" "I", Cond.methodLink RX0 43 yX4_put, Cond.instanceMethod yX4_put, Cond.selects RX4 yX4_put yX4_put, Cond.code yX4_put cX4_put 5 none, Cond.methodLink RX5 124 yX0_playRound, Cond.instanceMethod yX0_playRound, Cond.selects RX0 yX0_playRound yX0_playRound, Cond.code yX0_playRound cX0_playRound 4 (some .int), Cond.methodLink RX0 92 Lib.Math.min.name, Cond.methodLink RX0 89 yX3_length, Cond.instanceMethod yX3_length, Cond.selects RX3 yX3_length yX3_length, Cond.code yX3_length cX3_length 1 (some .int), Cond.methodLink RX0 95 yX3_takeFirst, Cond.instanceMethod yX3_takeFirst, Cond.selects RX3 yX3_takeFirst yX3_takeFirst, Cond.code yX3_takeFirst cX3_takeFirst 2 (some .int), Cond.methodLink RX3 22 yX3_at, Cond.instanceMethod yX3_at, Cond.selects RX3 yX3_at yX3_at, Cond.code yX3_at cX3_at 3 (some .int)]
def wsX5_ifRounds_r4 : List Cond := [Cond.methodLink RX0 98 yX0_takeOne, Cond.instanceMethod yX0_takeOne, Cond.selects RX0 yX0_takeOne yX0_takeOne, Cond.code yX0_takeOne cX0_takeOne 4 (some .boolean), Cond.methodLink RX0 104 yX0_paymentFor, Cond.instanceMethod yX0_paymentFor, Cond.selects RX0 yX0_paymentFor yX0_paymentFor, Cond.code yX0_paymentFor cX0_paymentFor 4 (some .int), Cond.methodLink RX0 129 yX0_told, Cond.instanceMethod yX0_told, Cond.selects RX0 yX0_told yX0_told, Cond.code yX0_told cX0_told 3 (some .int), Cond.methodLink RX0 126 Lib.Math.max.name, Cond.static Lib.Math.max.name, Cond.code Lib.Math.max.name Lib.Math.max.code 2 (some .int), Cond.methodLink RX0 107 yX0_hindrance, Cond.instanceMethod yX0_hindrance, Cond.selects RX0 yX0_hindrance yX0_hindrance, Cond.code yX0_hindrance cX0_hindrance 6 (some .int), Cond.methodLink RX0 110 yX0_refuse, Cond.instanceMethod yX0_refuse, Cond.selects RX0 yX0_refuse yX0_refuse, Cond.code yX0_refuse cX0_refuse 3 none, Cond.methodLink RX0 114 yX0_driftOn]
def wsX5_ifRounds_r5 : List Cond := [Cond.instanceMethod yX0_driftOn, Cond.selects RX0 yX0_driftOn yX0_driftOn, Cond.code yX0_driftOn cX0_driftOn 5 none, Cond.methodLink RX0 123 yX4_increase, Cond.instanceMethod yX4_increase, Cond.selects RX4 yX4_increase yX4_increase, Cond.code yX4_increase cX4_increase 5 none, Cond.methodLink RX0 117 yX0_doubt, Cond.instanceMethod yX0_doubt, Cond.selects RX0 yX0_doubt yX0_doubt, Cond.code yX0_doubt cX0_doubt 2 none, Cond.methodLink RX0 76 yX3_addLast, Cond.instanceMethod yX3_addLast, Cond.selects RX3 yX3_addLast yX3_addLast, Cond.code yX3_addLast cX3_addLast 3 none, Cond.methodLink RX0 120 yX0_pay, Cond.instanceMethod yX0_pay, Cond.selects RX0 yX0_pay yX0_pay, Cond.code yX0_pay cX0_pay 4 none, Cond.methodLink RX0 101 yX0_chargeFees, Cond.instanceMethod yX0_chargeFees, Cond.selects RX0 yX0_chargeFees yX0_chargeFees, Cond.code yX0_chargeFees cX0_chargeFees 4 none]
def wsX5_ifRounds : List Cond := .code yX5_ifRounds cX5_ifRounds 5 (some .int) :: ((wsX5_ifRounds_r1 ++ (wsX5_ifRounds_r2 ++ (wsX5_ifRounds_r3 ++ (wsX5_ifRounds_r4 ++ wsX5_ifRounds_r5)))) ++ wsX50 ++ wsX00 ++ wsX40 ++ wsX30)
def wsX5_richest : List Cond := .code yX5_richest cX5_richest 1 (some .int) :: ([.fieldLink RX5 10 "RiddleTrade" "now" "LRiddleTrade$Exchange;", .methodLink RX5 127 yX0_richestTrader, .instanceMethod yX0_richestTrader, .selects RX0 yX0_richestTrader yX0_richestTrader, .initialized RX0, .code yX0_richestTrader cX0_richestTrader 3 (some .int), .fieldLink RX0 16 "RiddleTrade$Exchange" "traders" "LRiddleTrade$Table;", .methodLink RX0 68 yX4_get, .instanceMethod yX4_get, .selects RX4 yX4_get yX4_get, .initialized RX4, .code yX4_get cX4_get 4 (some .int), .fieldLink RX4 15 "RiddleTrade$Table" "columns" "I", .fieldLink RX4 9 "RiddleTrade$Table" "cells" "[I"] ++ wsX50 ++ wsX00 ++ wsX40)
def wsX5_account_r1 : List Cond := [Cond.fieldLink RX5 10 "RiddleTrade" "now" "LRiddleTrade$Exchange;", Cond.methodLink RX5 130 yX0_tellAccount, Cond.instanceMethod yX0_tellAccount, Cond.selects RX0 yX0_tellAccount yX0_tellAccount, Cond.initialized RX0, Cond.code yX0_tellAccount cX0_tellAccount 5 (some .int), Cond.fieldLink RX0 16 "RiddleTrade$Exchange" "traders" "LRiddleTrade$Table;", Cond.fieldLink RX0 23 "RiddleTrade$Exchange" "answers" "LRiddleTrade$Table;", Cond.fieldLink RX0 20 "RiddleTrade$Exchange" "riddles" "LRiddleTrade$Table;", Cond.constant RX0 144 (100000), Cond.methodLink RX0 61 yX4_has, Cond.instanceMethod yX4_has, Cond.selects RX4 yX4_has yX4_has, Cond.initialized RX4, Cond.code yX4_has cX4_has 2 (some .boolean), Cond.fieldLink RX4 19 "RiddleTrade$Table" "rows" "I", Cond.methodLink RX0 68 yX4_get, Cond.instanceMethod yX4_get, Cond.selects RX4 yX4_get yX4_get, Cond.code yX4_get cX4_get 4 (some .int), Cond.fieldLink RX4 15 "RiddleTrade$Table" "columns" "I", Cond.fieldLink RX4 9 "RiddleTrade$Table" "cells" "[I", Cond.methodLink RX0 65 yX4_rows, Cond.instanceMethod yX4_rows]
def wsX5_account_r2 : List Cond := [Cond.selects RX4 yX4_rows yX4_rows, Cond.code yX4_rows cX4_rows 1 (some .int)]
def wsX5_account : List Cond := .code yX5_account cX5_account 2 (some .int) :: ((wsX5_account_r1 ++ wsX5_account_r2) ++ wsX50 ++ wsX00 ++ wsX40)
def wsX5_count_r1 : List Cond := [Cond.fieldLink RX5 25 "RiddleTrade" "history" "LRiddleTrade$History;", Cond.fieldLink RX5 32 "RiddleTrade" "offers" "LRiddleTrade$Offers;", Cond.fieldLink RX5 10 "RiddleTrade" "now" "LRiddleTrade$Exchange;", Cond.methodLink RX5 133 yX1_size, Cond.instanceMethod yX1_size, Cond.selects RX1 yX1_size yX1_size, Cond.initialized RX1, Cond.code yX1_size cX1_size 1 (some .int), Cond.fieldLink RX1 18 "RiddleTrade$History" "size" "I", Cond.methodLink RX5 136 yX2_textLength, Cond.instanceMethod yX2_textLength, Cond.selects RX2 yX2_textLength yX2_textLength, Cond.initialized RX2, Cond.code yX2_textLength cX2_textLength 1 (some .int), Cond.fieldLink RX2 24 "RiddleTrade$Offers" "length" "I", Cond.methodLink RX5 139 yX0_tellCount, Cond.instanceMethod yX0_tellCount, Cond.selects RX0 yX0_tellCount yX0_tellCount, Cond.initialized RX0, Cond.code yX0_tellCount cX0_tellCount 2 (some .int), Cond.fieldLink RX0 57 "RiddleTrade$Exchange" "round" "I", Cond.fieldLink RX0 20 "RiddleTrade$Exchange" "riddles" "LRiddleTrade$Table;", Cond.fieldLink RX0 23 "RiddleTrade$Exchange" "answers" "LRiddleTrade$Table;", Cond.fieldLink RX0 35 "RiddleTrade$Exchange" "row" "LRiddleTrade$Row;"]
def wsX5_count_r2 : List Cond := [Cond.fieldLink RX0 26 "RiddleTrade$Exchange" "scales" "LRiddleTrade$Table;", Cond.fieldLink RX0 16 "RiddleTrade$Exchange" "traders" "LRiddleTrade$Table;", Cond.fieldLink RX0 29 "RiddleTrade$Exchange" "settings" "LRiddleTrade$Table;", Cond.methodLink RX0 65 yX4_rows, Cond.instanceMethod yX4_rows, Cond.selects RX4 yX4_rows yX4_rows, Cond.initialized RX4, Cond.code yX4_rows cX4_rows 1 (some .int), Cond.fieldLink RX4 19 "RiddleTrade$Table" "rows" "I", Cond.methodLink RX0 135 yX4_countOf, Cond.instanceMethod yX4_countOf, Cond.selects RX4 yX4_countOf yX4_countOf, Cond.code yX4_countOf cX4_countOf 5 (some .int), Cond.methodLink RX4 22 yX4_get, Cond.instanceMethod yX4_get, Cond.selects RX4 yX4_get yX4_get, Cond.code yX4_get cX4_get 4 (some .int), Cond.fieldLink RX4 15 "RiddleTrade$Table" "columns" "I", Cond.fieldLink RX4 9 "RiddleTrade$Table" "cells" "[I", Cond.methodLink RX0 89 yX3_length, Cond.instanceMethod yX3_length, Cond.selects RX3 yX3_length yX3_length, Cond.initialized RX3, Cond.code yX3_length cX3_length 1 (some .int)]
def wsX5_count_r3 : List Cond := [Cond.fieldLink RX3 15 "RiddleTrade$Row" "length" "I", Cond.methodLink RX0 145 yX4_sumOf, Cond.instanceMethod yX4_sumOf, Cond.selects RX4 yX4_sumOf yX4_sumOf, Cond.code yX4_sumOf cX4_sumOf 4 (some .int), Cond.methodLink RX0 148 yX0_tradersInDebt, Cond.instanceMethod yX0_tradersInDebt, Cond.selects RX0 yX0_tradersInDebt yX0_tradersInDebt, Cond.code yX0_tradersInDebt cX0_tradersInDebt 3 (some .int), Cond.methodLink RX0 68 yX4_get]
def wsX5_count : List Cond := .code yX5_count cX5_count 2 (some .int) :: ((wsX5_count_r1 ++ (wsX5_count_r2 ++ wsX5_count_r3)) ++ wsX50 ++ wsX10 ++ wsX20 ++ wsX00 ++ wsX40 ++ wsX30)
def wsX6_init : List Cond := .code yX6_init cX6_init 2 none :: ([.methodLink RX6 1 objectInit, .instanceMethod objectInit, .code objectInit ⟨#[0xb1]⟩ 1 none, .arrayClass .int, .fieldLink RX6 7 "RiddleTradeModel" "s" "[I", .fieldLink RX6 13 "RiddleTradeModel" "aside" "[I", .fieldLink RX6 16 "RiddleTradeModel" "past" "[I", .fieldLink RX6 19 "RiddleTradeModel" "snapshot" "[I", .arrayClass .char, .fieldLink RX6 22 "RiddleTradeModel" "text" "[C"] ++ wsX60)
def wsX6_in : List Cond := .code yX6_in cX6_in 3 (some .boolean) :: ([])
def wsX6_isTrader : List Cond := .code yX6_isTrader cX6_isTrader 1 (some .boolean) :: ([.methodLink RX6 26 yX6_in, .static yX6_in, .initialized RX6, .code yX6_in cX6_in 3 (some .boolean)])
def wsX6_isRiddle : List Cond := .code yX6_isRiddle cX6_isRiddle 2 (some .boolean) :: ([.fieldLink RX6 7 "RiddleTradeModel" "s" "[I", .methodLink RX6 26 yX6_in, .static yX6_in, .initialized RX6, .code yX6_in cX6_in 3 (some .boolean)] ++ wsX60)
def wsX6_isAnswer : List Cond := .code yX6_isAnswer cX6_isAnswer 2 (some .boolean) :: ([.fieldLink RX6 7 "RiddleTradeModel" "s" "[I", .methodLink RX6 26 yX6_in, .static yX6_in, .initialized RX6, .code yX6_in cX6_in 3 (some .boolean)] ++ wsX60)
def wsX6_ofR : List Cond := .code yX6_ofR cX6_ofR 2 (some .int) :: ([])
def wsX6_ofA : List Cond := .code yX6_ofA cX6_ofA 2 (some .int) :: ([])
def wsX6_records : List Cond := .code yX6_records cX6_records 2 none :: ([.fieldLink RX6 30 "RiddleTradeModel" "pasts" "I", .fieldLink RX6 16 "RiddleTradeModel" "past" "[I", .fieldLink RX6 7 "RiddleTradeModel" "s" "[I"] ++ wsX60)
def wsX6_putAside : List Cond := .code yX6_putAside cX6_putAside 2 none :: ([.fieldLink RX6 13 "RiddleTradeModel" "aside" "[I", .fieldLink RX6 7 "RiddleTradeModel" "s" "[I"] ++ wsX60)
def wsX6_putBack : List Cond := .code yX6_putBack cX6_putBack 2 none :: ([.fieldLink RX6 7 "RiddleTradeModel" "s" "[I", .fieldLink RX6 13 "RiddleTradeModel" "aside" "[I"] ++ wsX60)
def wsX6_barAsk : List Cond := .code yX6_barAsk cX6_barAsk 4 (some .int) :: ([.fieldLink RX6 7 "RiddleTradeModel" "s" "[I", .methodLink RX6 34 yX6_isTrader, .static yX6_isTrader, .initialized RX6, .code yX6_isTrader cX6_isTrader 1 (some .boolean), .methodLink RX6 26 yX6_in, .static yX6_in, .code yX6_in cX6_in 3 (some .boolean)] ++ wsX60)
def wsX6_asks : List Cond := .code yX6_asks cX6_asks 5 (some .int) :: ([.fieldLink RX6 7 "RiddleTradeModel" "s" "[I", .methodLink RX6 38 yX6_ofR, .static yX6_ofR, .initialized RX6, .code yX6_ofR cX6_ofR 2 (some .int)] ++ wsX60)
def wsX6_ask_r1 : List Cond := [Cond.methodLink RX6 42 yX6_barAsk, Cond.instanceMethod yX6_barAsk, Cond.selects RX6 yX6_barAsk yX6_barAsk, Cond.initialized RX6, Cond.code yX6_barAsk cX6_barAsk 4 (some .int), Cond.fieldLink RX6 7 "RiddleTradeModel" "s" "[I", Cond.methodLink RX6 34 yX6_isTrader, Cond.static yX6_isTrader, Cond.code yX6_isTrader cX6_isTrader 1 (some .boolean), Cond.methodLink RX6 26 yX6_in, Cond.static yX6_in, Cond.code yX6_in cX6_in 3 (some .boolean), Cond.methodLink RX6 46 yX6_records, Cond.instanceMethod yX6_records, Cond.selects RX6 yX6_records yX6_records, Cond.code yX6_records cX6_records 2 none, Cond.fieldLink RX6 30 "RiddleTradeModel" "pasts" "I", Cond.fieldLink RX6 16 "RiddleTradeModel" "past" "[I", Cond.methodLink RX6 49 yX6_asks, Cond.instanceMethod yX6_asks, Cond.selects RX6 yX6_asks yX6_asks, Cond.code yX6_asks cX6_asks 5 (some .int), Cond.methodLink RX6 38 yX6_ofR, Cond.static yX6_ofR]
def wsX6_ask_r2 : List Cond := [Cond.code yX6_ofR cX6_ofR 2 (some .int)]
def wsX6_ask : List Cond := .code yX6_ask cX6_ask 5 (some .int) :: ((wsX6_ask_r1 ++ wsX6_ask_r2) ++ wsX60)
def wsX6_waiting : List Cond := .code yX6_waiting cX6_waiting 4 (some .int) :: ([.fieldLink RX6 7 "RiddleTradeModel" "s" "[I", .methodLink RX6 52 yX6_ofA, .static yX6_ofA, .initialized RX6, .code yX6_ofA cX6_ofA 2 (some .int)] ++ wsX60)
def wsX6_withdraw_r1 : List Cond := [Cond.fieldLink RX6 7 "RiddleTradeModel" "s" "[I", Cond.methodLink RX6 55 yX6_isRiddle, Cond.instanceMethod yX6_isRiddle, Cond.selects RX6 yX6_isRiddle yX6_isRiddle, Cond.initialized RX6, Cond.code yX6_isRiddle cX6_isRiddle 2 (some .boolean), Cond.methodLink RX6 26 yX6_in, Cond.static yX6_in, Cond.code yX6_in cX6_in 3 (some .boolean), Cond.methodLink RX6 38 yX6_ofR, Cond.static yX6_ofR, Cond.code yX6_ofR cX6_ofR 2 (some .int), Cond.methodLink RX6 46 yX6_records, Cond.instanceMethod yX6_records, Cond.selects RX6 yX6_records yX6_records, Cond.code yX6_records cX6_records 2 none, Cond.fieldLink RX6 30 "RiddleTradeModel" "pasts" "I", Cond.fieldLink RX6 16 "RiddleTradeModel" "past" "[I", Cond.methodLink RX6 58 yX6_waiting, Cond.instanceMethod yX6_waiting, Cond.selects RX6 yX6_waiting yX6_waiting, Cond.code yX6_waiting cX6_waiting 4 (some .int), Cond.methodLink RX6 52 yX6_ofA, Cond.static yX6_ofA]
def wsX6_withdraw_r2 : List Cond := [Cond.code yX6_ofA cX6_ofA 2 (some .int)]
def wsX6_withdraw : List Cond := .code yX6_withdraw cX6_withdraw 2 (some .int) :: ((wsX6_withdraw_r1 ++ wsX6_withdraw_r2) ++ wsX60)
def wsX6_barDeliver : List Cond := .code yX6_barDeliver cX6_barDeliver 5 (some .int) :: ([.fieldLink RX6 7 "RiddleTradeModel" "s" "[I", .methodLink RX6 34 yX6_isTrader, .static yX6_isTrader, .initialized RX6, .code yX6_isTrader cX6_isTrader 1 (some .boolean), .methodLink RX6 26 yX6_in, .static yX6_in, .code yX6_in cX6_in 3 (some .boolean), .methodLink RX6 55 yX6_isRiddle, .instanceMethod yX6_isRiddle, .selects RX6 yX6_isRiddle yX6_isRiddle, .code yX6_isRiddle cX6_isRiddle 2 (some .boolean), .methodLink RX6 38 yX6_ofR, .static yX6_ofR, .code yX6_ofR cX6_ofR 2 (some .int)] ++ wsX60)
def wsX6_queues : List Cond := .code yX6_queues cX6_queues 2 none :: ([.fieldLink RX6 7 "RiddleTradeModel" "s" "[I"] ++ wsX60)
def wsX6_delivers : List Cond := .code yX6_delivers cX6_delivers 7 (some .int) :: ([.fieldLink RX6 7 "RiddleTradeModel" "s" "[I", .methodLink RX6 52 yX6_ofA, .static yX6_ofA, .initialized RX6, .code yX6_ofA cX6_ofA 2 (some .int), .methodLink RX6 62 yX6_queues, .instanceMethod yX6_queues, .selects RX6 yX6_queues yX6_queues, .code yX6_queues cX6_queues 2 none] ++ wsX60)
def wsX6_deliver_r1 : List Cond := [Cond.methodLink RX6 66 yX6_barDeliver, Cond.instanceMethod yX6_barDeliver, Cond.selects RX6 yX6_barDeliver yX6_barDeliver, Cond.initialized RX6, Cond.code yX6_barDeliver cX6_barDeliver 5 (some .int), Cond.fieldLink RX6 7 "RiddleTradeModel" "s" "[I", Cond.methodLink RX6 34 yX6_isTrader, Cond.static yX6_isTrader, Cond.code yX6_isTrader cX6_isTrader 1 (some .boolean), Cond.methodLink RX6 26 yX6_in, Cond.static yX6_in, Cond.code yX6_in cX6_in 3 (some .boolean), Cond.methodLink RX6 55 yX6_isRiddle, Cond.instanceMethod yX6_isRiddle, Cond.selects RX6 yX6_isRiddle yX6_isRiddle, Cond.code yX6_isRiddle cX6_isRiddle 2 (some .boolean), Cond.methodLink RX6 38 yX6_ofR, Cond.static yX6_ofR, Cond.code yX6_ofR cX6_ofR 2 (some .int), Cond.methodLink RX6 46 yX6_records, Cond.instanceMethod yX6_records, Cond.selects RX6 yX6_records yX6_records, Cond.code yX6_records cX6_records 2 none, Cond.fieldLink RX6 30 "RiddleTradeModel" "pasts" "I"]
def wsX6_deliver_r2 : List Cond := [Cond.fieldLink RX6 16 "RiddleTradeModel" "past" "[I", Cond.methodLink RX6 70 yX6_delivers, Cond.instanceMethod yX6_delivers, Cond.selects RX6 yX6_delivers yX6_delivers, Cond.code yX6_delivers cX6_delivers 7 (some .int), Cond.methodLink RX6 52 yX6_ofA, Cond.static yX6_ofA, Cond.code yX6_ofA cX6_ofA 2 (some .int), Cond.methodLink RX6 62 yX6_queues, Cond.instanceMethod yX6_queues, Cond.selects RX6 yX6_queues yX6_queues, Cond.code yX6_queues cX6_queues 2 none]
def wsX6_deliver : List Cond := .code yX6_deliver cX6_deliver 6 (some .int) :: ((wsX6_deliver_r1 ++ wsX6_deliver_r2) ++ wsX60)
def wsX6_size : List Cond := .code yX6_size cX6_size 1 (some .int) :: ([])
def wsX6_adjust : List Cond := .code yX6_adjust cX6_adjust 2 (some .int) :: ([.fieldLink RX6 7 "RiddleTradeModel" "s" "[I", .methodLink RX6 73 yX6_size, .static yX6_size, .initialized RX6, .code yX6_size cX6_size 1 (some .int), .methodLink RX6 46 yX6_records, .instanceMethod yX6_records, .selects RX6 yX6_records yX6_records, .code yX6_records cX6_records 2 none, .fieldLink RX6 30 "RiddleTradeModel" "pasts" "I", .fieldLink RX6 16 "RiddleTradeModel" "past" "[I"] ++ wsX60)
def wsX6_set : List Cond := .code yX6_set cX6_set 4 (some .int) :: ([.fieldLink RX6 7 "RiddleTradeModel" "s" "[I", .methodLink RX6 26 yX6_in, .static yX6_in, .initialized RX6, .code yX6_in cX6_in 3 (some .boolean), .methodLink RX6 46 yX6_records, .instanceMethod yX6_records, .selects RX6 yX6_records yX6_records, .code yX6_records cX6_records 2 none, .fieldLink RX6 30 "RiddleTradeModel" "pasts" "I", .fieldLink RX6 16 "RiddleTradeModel" "past" "[I"] ++ wsX60)
def wsX6_tells : List Cond := .code yX6_tells cX6_tells 4 (some .int) :: ([.fieldLink RX6 7 "RiddleTradeModel" "s" "[I"] ++ wsX60)
def wsX6_drifts : List Cond := .code yX6_drifts cX6_drifts 4 none :: ([.fieldLink RX6 7 "RiddleTradeModel" "s" "[I", .methodLink RX6 73 yX6_size, .static yX6_size, .initialized RX6, .code yX6_size cX6_size 1 (some .int)] ++ wsX60)
def wsX6_payment : List Cond := .code yX6_payment cX6_payment 4 (some .int) :: ([.fieldLink RX6 7 "RiddleTradeModel" "s" "[I", .methodLink RX6 52 yX6_ofA, .static yX6_ofA, .initialized RX6, .code yX6_ofA cX6_ofA 2 (some .int), .methodLink RX6 38 yX6_ofR, .static yX6_ofR, .code yX6_ofR cX6_ofR 2 (some .int)] ++ wsX60)
def wsX6_canPay : List Cond := .code yX6_canPay cX6_canPay 4 (some .boolean) :: ([.fieldLink RX6 7 "RiddleTradeModel" "s" "[I", .methodLink RX6 52 yX6_ofA, .static yX6_ofA, .initialized RX6, .code yX6_ofA cX6_ofA 2 (some .int), .methodLink RX6 38 yX6_ofR, .static yX6_ofR, .code yX6_ofR cX6_ofR 2 (some .int)] ++ wsX60)
def wsX6_refuses : List Cond := .code yX6_refuses cX6_refuses 3 none :: ([.fieldLink RX6 7 "RiddleTradeModel" "s" "[I", .methodLink RX6 52 yX6_ofA, .static yX6_ofA, .initialized RX6, .code yX6_ofA cX6_ofA 2 (some .int)] ++ wsX60)
def wsX6_takes_r1 : List Cond := [Cond.fieldLink RX6 7 "RiddleTradeModel" "s" "[I", Cond.methodLink RX6 52 yX6_ofA, Cond.static yX6_ofA, Cond.initialized RX6, Cond.code yX6_ofA cX6_ofA 2 (some .int), Cond.methodLink RX6 38 yX6_ofR, Cond.static yX6_ofR, Cond.code yX6_ofR cX6_ofR 2 (some .int), Cond.methodLink RX6 76 yX6_refuses, Cond.instanceMethod yX6_refuses, Cond.selects RX6 yX6_refuses yX6_refuses, Cond.code yX6_refuses cX6_refuses 3 none, Cond.methodLink RX6 80 yX6_tells, Cond.instanceMethod yX6_tells, Cond.selects RX6 yX6_tells yX6_tells, Cond.code yX6_tells cX6_tells 4 (some .int), Cond.methodLink RX6 83 yX6_drifts, Cond.instanceMethod yX6_drifts, Cond.selects RX6 yX6_drifts yX6_drifts, Cond.code yX6_drifts cX6_drifts 4 none, Cond.methodLink RX6 73 yX6_size, Cond.static yX6_size, Cond.code yX6_size cX6_size 1 (some .int), Cond.methodLink RX6 62 yX6_queues]
def wsX6_takes_r2 : List Cond := [Cond.instanceMethod yX6_queues, Cond.selects RX6 yX6_queues yX6_queues, Cond.code yX6_queues cX6_queues 2 none, Cond.methodLink RX6 86 yX6_payment, Cond.instanceMethod yX6_payment, Cond.selects RX6 yX6_payment yX6_payment, Cond.code yX6_payment cX6_payment 4 (some .int), Cond.methodLink RX6 89 yX6_canPay, Cond.instanceMethod yX6_canPay, Cond.selects RX6 yX6_canPay yX6_canPay, Cond.code yX6_canPay cX6_canPay 4 (some .boolean)]
def wsX6_takes : List Cond := .code yX6_takes cX6_takes 6 none :: ((wsX6_takes_r1 ++ wsX6_takes_r2) ++ wsX60)
def wsX6_round_r1 : List Cond := [Cond.fieldLink RX6 7 "RiddleTradeModel" "s" "[I", Cond.methodLink RX6 93 yX6_takes, Cond.instanceMethod yX6_takes, Cond.selects RX6 yX6_takes yX6_takes, Cond.initialized RX6, Cond.code yX6_takes cX6_takes 6 none, Cond.methodLink RX6 52 yX6_ofA, Cond.static yX6_ofA, Cond.code yX6_ofA cX6_ofA 2 (some .int), Cond.methodLink RX6 38 yX6_ofR, Cond.static yX6_ofR, Cond.code yX6_ofR cX6_ofR 2 (some .int), Cond.methodLink RX6 76 yX6_refuses, Cond.instanceMethod yX6_refuses, Cond.selects RX6 yX6_refuses yX6_refuses, Cond.code yX6_refuses cX6_refuses 3 none, Cond.methodLink RX6 80 yX6_tells, Cond.instanceMethod yX6_tells, Cond.selects RX6 yX6_tells yX6_tells, Cond.code yX6_tells cX6_tells 4 (some .int), Cond.methodLink RX6 83 yX6_drifts, Cond.instanceMethod yX6_drifts, Cond.selects RX6 yX6_drifts yX6_drifts, Cond.code yX6_drifts cX6_drifts 4 none]
def wsX6_round_r2 : List Cond := [Cond.methodLink RX6 73 yX6_size, Cond.static yX6_size, Cond.code yX6_size cX6_size 1 (some .int), Cond.methodLink RX6 62 yX6_queues, Cond.instanceMethod yX6_queues, Cond.selects RX6 yX6_queues yX6_queues, Cond.code yX6_queues cX6_queues 2 none, Cond.methodLink RX6 86 yX6_payment, Cond.instanceMethod yX6_payment, Cond.selects RX6 yX6_payment yX6_payment, Cond.code yX6_payment cX6_payment 4 (some .int), Cond.methodLink RX6 89 yX6_canPay, Cond.instanceMethod yX6_canPay, Cond.selects RX6 yX6_canPay yX6_canPay, Cond.code yX6_canPay cX6_canPay 4 (some .boolean)]
def wsX6_round : List Cond := .code yX6_round cX6_round 5 none :: ((wsX6_round_r1 ++ wsX6_round_r2) ++ wsX60)
def wsX6_inState : List Cond := .code yX6_inState cX6_inState 4 (some .int) :: ([.fieldLink RX6 7 "RiddleTradeModel" "s" "[I", .methodLink RX6 52 yX6_ofA, .static yX6_ofA, .initialized RX6, .code yX6_ofA cX6_ofA 2 (some .int)] ++ wsX60)
def wsX6_passes_r1 : List Cond := [Cond.methodLink RX6 96 yX6_inState, Cond.instanceMethod yX6_inState, Cond.selects RX6 yX6_inState yX6_inState, Cond.initialized RX6, Cond.code yX6_inState cX6_inState 4 (some .int), Cond.fieldLink RX6 7 "RiddleTradeModel" "s" "[I", Cond.methodLink RX6 52 yX6_ofA, Cond.static yX6_ofA, Cond.code yX6_ofA cX6_ofA 2 (some .int), Cond.methodLink RX6 99 yX6_round, Cond.instanceMethod yX6_round, Cond.selects RX6 yX6_round yX6_round, Cond.code yX6_round cX6_round 5 none, Cond.methodLink RX6 93 yX6_takes, Cond.instanceMethod yX6_takes, Cond.selects RX6 yX6_takes yX6_takes, Cond.code yX6_takes cX6_takes 6 none, Cond.methodLink RX6 38 yX6_ofR, Cond.static yX6_ofR, Cond.code yX6_ofR cX6_ofR 2 (some .int), Cond.methodLink RX6 76 yX6_refuses, Cond.instanceMethod yX6_refuses, Cond.selects RX6 yX6_refuses yX6_refuses, Cond.code yX6_refuses cX6_refuses 3 none]
def wsX6_passes_r2 : List Cond := [Cond.methodLink RX6 80 yX6_tells, Cond.instanceMethod yX6_tells, Cond.selects RX6 yX6_tells yX6_tells, Cond.code yX6_tells cX6_tells 4 (some .int), Cond.methodLink RX6 83 yX6_drifts, Cond.instanceMethod yX6_drifts, Cond.selects RX6 yX6_drifts yX6_drifts, Cond.code yX6_drifts cX6_drifts 4 none, Cond.methodLink RX6 73 yX6_size, Cond.static yX6_size, Cond.code yX6_size cX6_size 1 (some .int), Cond.methodLink RX6 62 yX6_queues, Cond.instanceMethod yX6_queues, Cond.selects RX6 yX6_queues yX6_queues, Cond.code yX6_queues cX6_queues 2 none, Cond.methodLink RX6 86 yX6_payment, Cond.instanceMethod yX6_payment, Cond.selects RX6 yX6_payment yX6_payment, Cond.code yX6_payment cX6_payment 4 (some .int), Cond.methodLink RX6 89 yX6_canPay, Cond.instanceMethod yX6_canPay, Cond.selects RX6 yX6_canPay yX6_canPay, Cond.code yX6_canPay cX6_canPay 4 (some .boolean)]
def wsX6_passes : List Cond := .code yX6_passes cX6_passes 4 (some .int) :: ((wsX6_passes_r1 ++ wsX6_passes_r2) ++ wsX60)
def wsX6_barPass : List Cond := .code yX6_barPass cX6_barPass 2 (some .int) :: ([.fieldLink RX6 7 "RiddleTradeModel" "s" "[I", .methodLink RX6 26 yX6_in, .static yX6_in, .initialized RX6, .code yX6_in cX6_in 3 (some .boolean)] ++ wsX60)
def wsX6_pass_r1 : List Cond := [Cond.methodLink RX6 102 yX6_barPass, Cond.instanceMethod yX6_barPass, Cond.selects RX6 yX6_barPass yX6_barPass, Cond.initialized RX6, Cond.code yX6_barPass cX6_barPass 2 (some .int), Cond.fieldLink RX6 7 "RiddleTradeModel" "s" "[I", Cond.methodLink RX6 26 yX6_in, Cond.static yX6_in, Cond.code yX6_in cX6_in 3 (some .boolean), Cond.methodLink RX6 46 yX6_records, Cond.instanceMethod yX6_records, Cond.selects RX6 yX6_records yX6_records, Cond.code yX6_records cX6_records 2 none, Cond.fieldLink RX6 30 "RiddleTradeModel" "pasts" "I", Cond.fieldLink RX6 16 "RiddleTradeModel" "past" "[I", Cond.methodLink RX6 105 yX6_passes, Cond.instanceMethod yX6_passes, Cond.selects RX6 yX6_passes yX6_passes, Cond.code yX6_passes cX6_passes 4 (some .int), Cond.methodLink RX6 96 yX6_inState, Cond.instanceMethod yX6_inState, Cond.selects RX6 yX6_inState yX6_inState, Cond.code yX6_inState cX6_inState 4 (some .int), Cond.methodLink RX6 52 yX6_ofA]
def wsX6_pass_r2 : List Cond := [Cond.static yX6_ofA, Cond.code yX6_ofA cX6_ofA 2 (some .int), Cond.methodLink RX6 99 yX6_round, Cond.instanceMethod yX6_round, Cond.selects RX6 yX6_round yX6_round, Cond.code yX6_round cX6_round 5 none, Cond.methodLink RX6 93 yX6_takes, Cond.instanceMethod yX6_takes, Cond.selects RX6 yX6_takes yX6_takes, Cond.code yX6_takes cX6_takes 6 none, Cond.methodLink RX6 38 yX6_ofR, Cond.static yX6_ofR, Cond.code yX6_ofR cX6_ofR 2 (some .int), Cond.methodLink RX6 76 yX6_refuses, Cond.instanceMethod yX6_refuses, Cond.selects RX6 yX6_refuses yX6_refuses, Cond.code yX6_refuses cX6_refuses 3 none, Cond.methodLink RX6 80 yX6_tells, Cond.instanceMethod yX6_tells, Cond.selects RX6 yX6_tells yX6_tells, Cond.code yX6_tells cX6_tells 4 (some .int), Cond.methodLink RX6 83 yX6_drifts, Cond.instanceMethod yX6_drifts, Cond.selects RX6 yX6_drifts yX6_drifts]
def wsX6_pass_r3 : List Cond := [Cond.code yX6_drifts cX6_drifts 4 none, Cond.methodLink RX6 73 yX6_size, Cond.static yX6_size, Cond.code yX6_size cX6_size 1 (some .int), Cond.methodLink RX6 62 yX6_queues, Cond.instanceMethod yX6_queues, Cond.selects RX6 yX6_queues yX6_queues, Cond.code yX6_queues cX6_queues 2 none, Cond.methodLink RX6 86 yX6_payment, Cond.instanceMethod yX6_payment, Cond.selects RX6 yX6_payment yX6_payment, Cond.code yX6_payment cX6_payment 4 (some .int), Cond.methodLink RX6 89 yX6_canPay, Cond.instanceMethod yX6_canPay, Cond.selects RX6 yX6_canPay yX6_canPay, Cond.code yX6_canPay cX6_canPay 4 (some .boolean)]
def wsX6_pass : List Cond := .code yX6_pass cX6_pass 3 (some .int) :: ((wsX6_pass_r1 ++ (wsX6_pass_r2 ++ wsX6_pass_r3)) ++ wsX60)
def wsX6_type : List Cond := .code yX6_type cX6_type 2 (some .int) :: ([.fieldLink RX6 108 "RiddleTradeModel" "length" "I", .fieldLink RX6 22 "RiddleTradeModel" "text" "[C"] ++ wsX60)
def wsX6_clearText : List Cond := .code yX6_clearText cX6_clearText 2 (some .int) :: ([.fieldLink RX6 108 "RiddleTradeModel" "length" "I"] ++ wsX60)
def wsX6_next : List Cond := .code yX6_next cX6_next 1 (some .int) :: ([.fieldLink RX6 111 "RiddleTradeModel" "spot" "I", .fieldLink RX6 108 "RiddleTradeModel" "length" "I", .fieldLink RX6 22 "RiddleTradeModel" "text" "[C"] ++ wsX60)
def wsX6_sign : List Cond := .code yX6_sign cX6_sign 2 none :: ([.fieldLink RX6 114 "RiddleTradeModel" "isWrong" "Z", .fieldLink RX6 111 "RiddleTradeModel" "spot" "I", .fieldLink RX6 108 "RiddleTradeModel" "length" "I", .methodLink RX6 118 yX6_next, .instanceMethod yX6_next, .selects RX6 yX6_next yX6_next, .initialized RX6, .code yX6_next cX6_next 1 (some .int), .fieldLink RX6 22 "RiddleTradeModel" "text" "[C"] ++ wsX60)
def wsX6_number : List Cond := .code yX6_number cX6_number 5 (some .int) :: ([.fieldLink RX6 111 "RiddleTradeModel" "spot" "I", .fieldLink RX6 108 "RiddleTradeModel" "length" "I", .fieldLink RX6 114 "RiddleTradeModel" "isWrong" "Z", .methodLink RX6 118 yX6_next, .instanceMethod yX6_next, .selects RX6 yX6_next yX6_next, .initialized RX6, .code yX6_next cX6_next 1 (some .int), .fieldLink RX6 22 "RiddleTradeModel" "text" "[C", .methodLink RX6 26 yX6_in, .static yX6_in, .code yX6_in cX6_in 3 (some .boolean)] ++ wsX60)
def wsX6_thing_r1 : List Cond := [Cond.fieldLink RX6 114 "RiddleTradeModel" "isWrong" "Z", Cond.fieldLink RX6 122 "RiddleTradeModel" "kind" "I", Cond.fieldLink RX6 111 "RiddleTradeModel" "spot" "I", Cond.fieldLink RX6 108 "RiddleTradeModel" "length" "I", Cond.fieldLink RX6 128 "RiddleTradeModel" "first" "I", Cond.fieldLink RX6 134 "RiddleTradeModel" "second" "I", Cond.fieldLink RX6 137 "RiddleTradeModel" "third" "I", Cond.fieldLink RX6 140 "RiddleTradeModel" "fourth" "I", Cond.methodLink RX6 118 yX6_next, Cond.instanceMethod yX6_next, Cond.selects RX6 yX6_next yX6_next, Cond.initialized RX6, Cond.code yX6_next cX6_next 1 (some .int), Cond.fieldLink RX6 22 "RiddleTradeModel" "text" "[C", Cond.methodLink RX6 125 yX6_number, Cond.instanceMethod yX6_number, Cond.selects RX6 yX6_number yX6_number, Cond.code yX6_number cX6_number 5 (some .int), Cond.methodLink RX6 26 yX6_in, Cond.static yX6_in, Cond.code yX6_in cX6_in 3 (some .boolean), Cond.methodLink RX6 131 yX6_sign, Cond.instanceMethod yX6_sign, Cond.selects RX6 yX6_sign yX6_sign]
def wsX6_thing_r2 : List Cond := [Cond.code yX6_sign cX6_sign 2 none]
def wsX6_thing : List Cond := .code yX6_thing cX6_thing 1 none :: ((wsX6_thing_r1 ++ wsX6_thing_r2) ++ wsX60)
def wsX6_things_r1 : List Cond := [Cond.fieldLink RX6 111 "RiddleTradeModel" "spot" "I", Cond.fieldLink RX6 114 "RiddleTradeModel" "isWrong" "Z", Cond.fieldLink RX6 108 "RiddleTradeModel" "length" "I", Cond.methodLink RX6 143 yX6_thing, Cond.instanceMethod yX6_thing, Cond.selects RX6 yX6_thing yX6_thing, Cond.initialized RX6, Cond.code yX6_thing cX6_thing 1 none, Cond.fieldLink RX6 122 "RiddleTradeModel" "kind" "I", Cond.fieldLink RX6 128 "RiddleTradeModel" "first" "I", Cond.fieldLink RX6 134 "RiddleTradeModel" "second" "I", Cond.fieldLink RX6 137 "RiddleTradeModel" "third" "I", Cond.fieldLink RX6 140 "RiddleTradeModel" "fourth" "I", Cond.methodLink RX6 118 yX6_next, Cond.instanceMethod yX6_next, Cond.selects RX6 yX6_next yX6_next, Cond.code yX6_next cX6_next 1 (some .int), Cond.fieldLink RX6 22 "RiddleTradeModel" "text" "[C", Cond.methodLink RX6 125 yX6_number, Cond.instanceMethod yX6_number, Cond.selects RX6 yX6_number yX6_number, Cond.code yX6_number cX6_number 5 (some .int), Cond.methodLink RX6 26 yX6_in, Cond.static yX6_in]
def wsX6_things_r2 : List Cond := [Cond.code yX6_in cX6_in 3 (some .boolean), Cond.methodLink RX6 131 yX6_sign, Cond.instanceMethod yX6_sign, Cond.selects RX6 yX6_sign yX6_sign, Cond.code yX6_sign cX6_sign 2 none]
def wsX6_things : List Cond := .code yX6_things cX6_things 3 (some .int) :: ((wsX6_things_r1 ++ wsX6_things_r2) ++ wsX60)
def wsX6_does_r1 : List Cond := [Cond.fieldLink RX6 122 "RiddleTradeModel" "kind" "I", Cond.fieldLink RX6 128 "RiddleTradeModel" "first" "I", Cond.fieldLink RX6 134 "RiddleTradeModel" "second" "I", Cond.fieldLink RX6 137 "RiddleTradeModel" "third" "I", Cond.fieldLink RX6 140 "RiddleTradeModel" "fourth" "I", Cond.methodLink RX6 42 yX6_barAsk, Cond.instanceMethod yX6_barAsk, Cond.selects RX6 yX6_barAsk yX6_barAsk, Cond.initialized RX6, Cond.code yX6_barAsk cX6_barAsk 4 (some .int), Cond.fieldLink RX6 7 "RiddleTradeModel" "s" "[I", Cond.methodLink RX6 34 yX6_isTrader, Cond.static yX6_isTrader, Cond.code yX6_isTrader cX6_isTrader 1 (some .boolean), Cond.methodLink RX6 26 yX6_in, Cond.static yX6_in, Cond.code yX6_in cX6_in 3 (some .boolean), Cond.methodLink RX6 66 yX6_barDeliver, Cond.instanceMethod yX6_barDeliver, Cond.selects RX6 yX6_barDeliver yX6_barDeliver, Cond.code yX6_barDeliver cX6_barDeliver 5 (some .int), Cond.methodLink RX6 55 yX6_isRiddle, Cond.instanceMethod yX6_isRiddle, Cond.selects RX6 yX6_isRiddle yX6_isRiddle]
def wsX6_does_r2 : List Cond := [Cond.code yX6_isRiddle cX6_isRiddle 2 (some .boolean), Cond.methodLink RX6 38 yX6_ofR, Cond.static yX6_ofR, Cond.code yX6_ofR cX6_ofR 2 (some .int), Cond.methodLink RX6 102 yX6_barPass, Cond.instanceMethod yX6_barPass, Cond.selects RX6 yX6_barPass yX6_barPass, Cond.code yX6_barPass cX6_barPass 2 (some .int), Cond.methodLink RX6 49 yX6_asks, Cond.instanceMethod yX6_asks, Cond.selects RX6 yX6_asks yX6_asks, Cond.code yX6_asks cX6_asks 5 (some .int), Cond.methodLink RX6 70 yX6_delivers, Cond.instanceMethod yX6_delivers, Cond.selects RX6 yX6_delivers yX6_delivers, Cond.code yX6_delivers cX6_delivers 7 (some .int), Cond.methodLink RX6 52 yX6_ofA, Cond.static yX6_ofA, Cond.code yX6_ofA cX6_ofA 2 (some .int), Cond.methodLink RX6 62 yX6_queues, Cond.instanceMethod yX6_queues, Cond.selects RX6 yX6_queues yX6_queues, Cond.code yX6_queues cX6_queues 2 none, Cond.methodLink RX6 105 yX6_passes]
def wsX6_does_r3 : List Cond := [Cond.instanceMethod yX6_passes, Cond.selects RX6 yX6_passes yX6_passes, Cond.code yX6_passes cX6_passes 4 (some .int), Cond.methodLink RX6 96 yX6_inState, Cond.instanceMethod yX6_inState, Cond.selects RX6 yX6_inState yX6_inState, Cond.code yX6_inState cX6_inState 4 (some .int), Cond.methodLink RX6 99 yX6_round, Cond.instanceMethod yX6_round, Cond.selects RX6 yX6_round yX6_round, Cond.code yX6_round cX6_round 5 none, Cond.methodLink RX6 93 yX6_takes, Cond.instanceMethod yX6_takes, Cond.selects RX6 yX6_takes yX6_takes, Cond.code yX6_takes cX6_takes 6 none, Cond.methodLink RX6 76 yX6_refuses, Cond.instanceMethod yX6_refuses, Cond.selects RX6 yX6_refuses yX6_refuses, Cond.code yX6_refuses cX6_refuses 3 none, Cond.methodLink RX6 80 yX6_tells, Cond.instanceMethod yX6_tells, Cond.selects RX6 yX6_tells yX6_tells, Cond.code yX6_tells cX6_tells 4 (some .int), Cond.methodLink RX6 83 yX6_drifts]
def wsX6_does_r4 : List Cond := [Cond.instanceMethod yX6_drifts, Cond.selects RX6 yX6_drifts yX6_drifts, Cond.code yX6_drifts cX6_drifts 4 none, Cond.methodLink RX6 73 yX6_size, Cond.static yX6_size, Cond.code yX6_size cX6_size 1 (some .int), Cond.methodLink RX6 86 yX6_payment, Cond.instanceMethod yX6_payment, Cond.selects RX6 yX6_payment yX6_payment, Cond.code yX6_payment cX6_payment 4 (some .int), Cond.methodLink RX6 89 yX6_canPay, Cond.instanceMethod yX6_canPay, Cond.selects RX6 yX6_canPay yX6_canPay, Cond.code yX6_canPay cX6_canPay 4 (some .boolean)]
def wsX6_does : List Cond := .code yX6_does cX6_does 3 (some .int) :: ((wsX6_does_r1 ++ (wsX6_does_r2 ++ (wsX6_does_r3 ++ wsX6_does_r4))) ++ wsX60)
def wsX6_perform_r1 : List Cond := [Cond.fieldLink RX6 111 "RiddleTradeModel" "spot" "I", Cond.fieldLink RX6 158 "RiddleTradeModel" "hasStop" "Z", Cond.fieldLink RX6 161 "RiddleTradeModel" "stopAt" "I", Cond.fieldLink RX6 164 "RiddleTradeModel" "stopWhy" "I", Cond.fieldLink RX6 7 "RiddleTradeModel" "s" "[I", Cond.fieldLink RX6 13 "RiddleTradeModel" "aside" "[I", Cond.methodLink RX6 146 yX6_things, Cond.instanceMethod yX6_things, Cond.selects RX6 yX6_things yX6_things, Cond.initialized RX6, Cond.code yX6_things cX6_things 3 (some .int), Cond.fieldLink RX6 114 "RiddleTradeModel" "isWrong" "Z", Cond.fieldLink RX6 108 "RiddleTradeModel" "length" "I", Cond.methodLink RX6 143 yX6_thing, Cond.instanceMethod yX6_thing, Cond.selects RX6 yX6_thing yX6_thing, Cond.code yX6_thing cX6_thing 1 none, Cond.fieldLink RX6 122 "RiddleTradeModel" "kind" "I", Cond.fieldLink RX6 128 "RiddleTradeModel" "first" "I", Cond.fieldLink RX6 134 "RiddleTradeModel" "second" "I", Cond.fieldLink RX6 137 "RiddleTradeModel" "third" "I", Cond.fieldLink RX6 140 "RiddleTradeModel" "fourth" "I", Cond.methodLink RX6 118 yX6_next, Cond.instanceMethod yX6_next]
def wsX6_perform_r2 : List Cond := [Cond.selects RX6 yX6_next yX6_next, Cond.code yX6_next cX6_next 1 (some .int), Cond.fieldLink RX6 22 "RiddleTradeModel" "text" "[C", Cond.methodLink RX6 125 yX6_number, Cond.instanceMethod yX6_number, Cond.selects RX6 yX6_number yX6_number, Cond.code yX6_number cX6_number 5 (some .int), Cond.methodLink RX6 26 yX6_in, Cond.static yX6_in, Cond.code yX6_in cX6_in 3 (some .boolean), Cond.methodLink RX6 131 yX6_sign, Cond.instanceMethod yX6_sign, Cond.selects RX6 yX6_sign yX6_sign, Cond.code yX6_sign cX6_sign 2 none, Cond.methodLink RX6 149 yX6_putAside, Cond.instanceMethod yX6_putAside, Cond.selects RX6 yX6_putAside yX6_putAside, Cond.code yX6_putAside cX6_putAside 2 none, Cond.methodLink RX6 152 yX6_does, Cond.instanceMethod yX6_does, Cond.selects RX6 yX6_does yX6_does, Cond.code yX6_does cX6_does 3 (some .int), Cond.methodLink RX6 42 yX6_barAsk, Cond.instanceMethod yX6_barAsk]
def wsX6_perform_r3 : List Cond := [Cond.selects RX6 yX6_barAsk yX6_barAsk, Cond.code yX6_barAsk cX6_barAsk 4 (some .int), Cond.methodLink RX6 34 yX6_isTrader, Cond.static yX6_isTrader, Cond.code yX6_isTrader cX6_isTrader 1 (some .boolean), Cond.methodLink RX6 66 yX6_barDeliver, Cond.instanceMethod yX6_barDeliver, Cond.selects RX6 yX6_barDeliver yX6_barDeliver, Cond.code yX6_barDeliver cX6_barDeliver 5 (some .int), Cond.methodLink RX6 55 yX6_isRiddle, Cond.instanceMethod yX6_isRiddle, Cond.selects RX6 yX6_isRiddle yX6_isRiddle, Cond.code yX6_isRiddle cX6_isRiddle 2 (some .boolean), Cond.methodLink RX6 38 yX6_ofR, Cond.static yX6_ofR, Cond.code yX6_ofR cX6_ofR 2 (some .int), Cond.methodLink RX6 102 yX6_barPass, Cond.instanceMethod yX6_barPass, Cond.selects RX6 yX6_barPass yX6_barPass, Cond.code yX6_barPass cX6_barPass 2 (some .int), Cond.methodLink RX6 49 yX6_asks, Cond.instanceMethod yX6_asks, Cond.selects RX6 yX6_asks yX6_asks, Cond.code yX6_asks cX6_asks 5 (some .int)]
def wsX6_perform_r4 : List Cond := [Cond.methodLink RX6 70 yX6_delivers, Cond.instanceMethod yX6_delivers, Cond.selects RX6 yX6_delivers yX6_delivers, Cond.code yX6_delivers cX6_delivers 7 (some .int), Cond.methodLink RX6 52 yX6_ofA, Cond.static yX6_ofA, Cond.code yX6_ofA cX6_ofA 2 (some .int), Cond.methodLink RX6 62 yX6_queues, Cond.instanceMethod yX6_queues, Cond.selects RX6 yX6_queues yX6_queues, Cond.code yX6_queues cX6_queues 2 none, Cond.methodLink RX6 105 yX6_passes, Cond.instanceMethod yX6_passes, Cond.selects RX6 yX6_passes yX6_passes, Cond.code yX6_passes cX6_passes 4 (some .int), Cond.methodLink RX6 96 yX6_inState, Cond.instanceMethod yX6_inState, Cond.selects RX6 yX6_inState yX6_inState, Cond.code yX6_inState cX6_inState 4 (some .int), Cond.methodLink RX6 99 yX6_round, Cond.instanceMethod yX6_round, Cond.selects RX6 yX6_round yX6_round, Cond.code yX6_round cX6_round 5 none, Cond.methodLink RX6 93 yX6_takes]
def wsX6_perform_r5 : List Cond := [Cond.instanceMethod yX6_takes, Cond.selects RX6 yX6_takes yX6_takes, Cond.code yX6_takes cX6_takes 6 none, Cond.methodLink RX6 76 yX6_refuses, Cond.instanceMethod yX6_refuses, Cond.selects RX6 yX6_refuses yX6_refuses, Cond.code yX6_refuses cX6_refuses 3 none, Cond.methodLink RX6 80 yX6_tells, Cond.instanceMethod yX6_tells, Cond.selects RX6 yX6_tells yX6_tells, Cond.code yX6_tells cX6_tells 4 (some .int), Cond.methodLink RX6 83 yX6_drifts, Cond.instanceMethod yX6_drifts, Cond.selects RX6 yX6_drifts yX6_drifts, Cond.code yX6_drifts cX6_drifts 4 none, Cond.methodLink RX6 73 yX6_size, Cond.static yX6_size, Cond.code yX6_size cX6_size 1 (some .int), Cond.methodLink RX6 86 yX6_payment, Cond.instanceMethod yX6_payment, Cond.selects RX6 yX6_payment yX6_payment, Cond.code yX6_payment cX6_payment 4 (some .int), Cond.methodLink RX6 89 yX6_canPay, Cond.instanceMethod yX6_canPay]
def wsX6_perform_r6 : List Cond := [Cond.selects RX6 yX6_canPay yX6_canPay, Cond.code yX6_canPay cX6_canPay 4 (some .boolean), Cond.methodLink RX6 155 yX6_putBack, Cond.instanceMethod yX6_putBack, Cond.selects RX6 yX6_putBack yX6_putBack, Cond.code yX6_putBack cX6_putBack 2 none, Cond.methodLink RX6 46 yX6_records, Cond.instanceMethod yX6_records, Cond.selects RX6 yX6_records yX6_records, Cond.code yX6_records cX6_records 2 none, Cond.fieldLink RX6 30 "RiddleTradeModel" "pasts" "I", Cond.fieldLink RX6 16 "RiddleTradeModel" "past" "[I"]
def wsX6_perform : List Cond := .code yX6_perform cX6_perform 6 (some .int) :: ((wsX6_perform_r1 ++ (wsX6_perform_r2 ++ (wsX6_perform_r3 ++ (wsX6_perform_r4 ++ (wsX6_perform_r5 ++ wsX6_perform_r6))))) ++ wsX60)
def wsX6_stopped : List Cond := .code yX6_stopped cX6_stopped 2 (some .int) :: ([.fieldLink RX6 158 "RiddleTradeModel" "hasStop" "Z", .fieldLink RX6 161 "RiddleTradeModel" "stopAt" "I", .fieldLink RX6 164 "RiddleTradeModel" "stopWhy" "I", .methodLink RX6 26 yX6_in, .static yX6_in, .initialized RX6, .code yX6_in cX6_in 3 (some .boolean)] ++ wsX60)
def wsX6_undo : List Cond := .code yX6_undo cX6_undo 2 (some .int) :: ([.fieldLink RX6 30 "RiddleTradeModel" "pasts" "I", .fieldLink RX6 7 "RiddleTradeModel" "s" "[I", .fieldLink RX6 16 "RiddleTradeModel" "past" "[I"] ++ wsX60)
def wsX6_keep : List Cond := .code yX6_keep cX6_keep 2 (some .int) :: ([.fieldLink RX6 19 "RiddleTradeModel" "snapshot" "[I", .fieldLink RX6 7 "RiddleTradeModel" "s" "[I", .fieldLink RX6 167 "RiddleTradeModel" "isKept" "Z"] ++ wsX60)
def wsX6_restore : List Cond := .code yX6_restore cX6_restore 2 (some .int) :: ([.fieldLink RX6 167 "RiddleTradeModel" "isKept" "Z", .fieldLink RX6 7 "RiddleTradeModel" "s" "[I", .fieldLink RX6 19 "RiddleTradeModel" "snapshot" "[I", .methodLink RX6 46 yX6_records, .instanceMethod yX6_records, .selects RX6 yX6_records yX6_records, .initialized RX6, .code yX6_records cX6_records 2 none, .fieldLink RX6 30 "RiddleTradeModel" "pasts" "I", .fieldLink RX6 16 "RiddleTradeModel" "past" "[I"] ++ wsX60)
def wsX6_riddlesOf : List Cond := .code yX6_riddlesOf cX6_riddlesOf 5 (some .int) :: ([.fieldLink RX6 7 "RiddleTradeModel" "s" "[I", .methodLink RX6 38 yX6_ofR, .static yX6_ofR, .initialized RX6, .code yX6_ofR cX6_ofR 2 (some .int)] ++ wsX60)
def wsX6_answersOf : List Cond := .code yX6_answersOf cX6_answersOf 5 (some .int) :: ([.fieldLink RX6 7 "RiddleTradeModel" "s" "[I", .methodLink RX6 52 yX6_ofA, .static yX6_ofA, .initialized RX6, .code yX6_ofA cX6_ofA 2 (some .int)] ++ wsX60)
def wsX6_trader : List Cond := .code yX6_trader cX6_trader 4 (some .int) :: ([.fieldLink RX6 7 "RiddleTradeModel" "s" "[I", .methodLink RX6 34 yX6_isTrader, .static yX6_isTrader, .initialized RX6, .code yX6_isTrader cX6_isTrader 1 (some .boolean), .methodLink RX6 26 yX6_in, .static yX6_in, .code yX6_in cX6_in 3 (some .boolean), .methodLink RX6 170 yX6_riddlesOf, .instanceMethod yX6_riddlesOf, .selects RX6 yX6_riddlesOf yX6_riddlesOf, .code yX6_riddlesOf cX6_riddlesOf 5 (some .int), .methodLink RX6 38 yX6_ofR, .static yX6_ofR, .code yX6_ofR cX6_ofR 2 (some .int), .methodLink RX6 173 yX6_answersOf, .instanceMethod yX6_answersOf, .selects RX6 yX6_answersOf yX6_answersOf, .code yX6_answersOf cX6_answersOf 5 (some .int), .methodLink RX6 52 yX6_ofA, .static yX6_ofA, .code yX6_ofA cX6_ofA 2 (some .int)] ++ wsX60)
def wsX6_answersTo : List Cond := .code yX6_answersTo cX6_answersTo 4 (some .int) :: ([.fieldLink RX6 7 "RiddleTradeModel" "s" "[I", .methodLink RX6 52 yX6_ofA, .static yX6_ofA, .initialized RX6, .code yX6_ofA cX6_ofA 2 (some .int)] ++ wsX60)
def wsX6_riddle : List Cond := .code yX6_riddle cX6_riddle 3 (some .int) :: ([.fieldLink RX6 7 "RiddleTradeModel" "s" "[I", .methodLink RX6 55 yX6_isRiddle, .instanceMethod yX6_isRiddle, .selects RX6 yX6_isRiddle yX6_isRiddle, .initialized RX6, .code yX6_isRiddle cX6_isRiddle 2 (some .boolean), .methodLink RX6 26 yX6_in, .static yX6_in, .code yX6_in cX6_in 3 (some .boolean), .methodLink RX6 38 yX6_ofR, .static yX6_ofR, .code yX6_ofR cX6_ofR 2 (some .int), .methodLink RX6 176 yX6_answersTo, .instanceMethod yX6_answersTo, .selects RX6 yX6_answersTo yX6_answersTo, .code yX6_answersTo cX6_answersTo 4 (some .int), .methodLink RX6 52 yX6_ofA, .static yX6_ofA, .code yX6_ofA cX6_ofA 2 (some .int), .methodLink RX6 58 yX6_waiting, .instanceMethod yX6_waiting, .selects RX6 yX6_waiting yX6_waiting, .code yX6_waiting cX6_waiting 4 (some .int)] ++ wsX60)
def wsX6_place : List Cond := .code yX6_place cX6_place 4 (some .int) :: ([.fieldLink RX6 7 "RiddleTradeModel" "s" "[I"] ++ wsX60)
def wsX6_answer : List Cond := .code yX6_answer cX6_answer 3 (some .int) :: ([.fieldLink RX6 7 "RiddleTradeModel" "s" "[I", .methodLink RX6 179 yX6_isAnswer, .instanceMethod yX6_isAnswer, .selects RX6 yX6_isAnswer yX6_isAnswer, .initialized RX6, .code yX6_isAnswer cX6_isAnswer 2 (some .boolean), .methodLink RX6 26 yX6_in, .static yX6_in, .code yX6_in cX6_in 3 (some .boolean), .methodLink RX6 182 yX6_place, .instanceMethod yX6_place, .selects RX6 yX6_place yX6_place, .code yX6_place cX6_place 4 (some .int), .methodLink RX6 52 yX6_ofA, .static yX6_ofA, .code yX6_ofA cX6_ofA 2 (some .int)] ++ wsX60)
def wsX6_waits : List Cond := .code yX6_waits cX6_waits 2 (some .int) :: ([.fieldLink RX6 7 "RiddleTradeModel" "s" "[I"] ++ wsX60)
def wsX6_weigh : List Cond := .code yX6_weigh cX6_weigh 3 (some .int) :: ([.methodLink RX6 26 yX6_in, .static yX6_in, .initialized RX6, .code yX6_in cX6_in 3 (some .boolean), .methodLink RX6 80 yX6_tells, .instanceMethod yX6_tells, .selects RX6 yX6_tells yX6_tells, .code yX6_tells cX6_tells 4 (some .int), .fieldLink RX6 7 "RiddleTradeModel" "s" "[I"] ++ wsX60)
def wsX6_reason_r1 : List Cond := [Cond.fieldLink RX6 7 "RiddleTradeModel" "s" "[I", Cond.methodLink RX6 179 yX6_isAnswer, Cond.instanceMethod yX6_isAnswer, Cond.selects RX6 yX6_isAnswer yX6_isAnswer, Cond.initialized RX6, Cond.code yX6_isAnswer cX6_isAnswer 2 (some .boolean), Cond.methodLink RX6 26 yX6_in, Cond.static yX6_in, Cond.code yX6_in cX6_in 3 (some .boolean), Cond.methodLink RX6 52 yX6_ofA, Cond.static yX6_ofA, Cond.code yX6_ofA cX6_ofA 2 (some .int), Cond.methodLink RX6 80 yX6_tells, Cond.instanceMethod yX6_tells, Cond.selects RX6 yX6_tells yX6_tells, Cond.code yX6_tells cX6_tells 4 (some .int), Cond.methodLink RX6 38 yX6_ofR, Cond.static yX6_ofR, Cond.code yX6_ofR cX6_ofR 2 (some .int), Cond.methodLink RX6 73 yX6_size, Cond.static yX6_size, Cond.code yX6_size cX6_size 1 (some .int), Cond.methodLink RX6 86 yX6_payment, Cond.instanceMethod yX6_payment]
def wsX6_reason_r2 : List Cond := [Cond.selects RX6 yX6_payment yX6_payment, Cond.code yX6_payment cX6_payment 4 (some .int), Cond.methodLink RX6 89 yX6_canPay, Cond.instanceMethod yX6_canPay, Cond.selects RX6 yX6_canPay yX6_canPay, Cond.code yX6_canPay cX6_canPay 4 (some .boolean)]
def wsX6_reason : List Cond := .code yX6_reason cX6_reason 5 (some .int) :: ((wsX6_reason_r1 ++ wsX6_reason_r2) ++ wsX60)
def wsX6_settledIn_r1 : List Cond := [Cond.fieldLink RX6 7 "RiddleTradeModel" "s" "[I", Cond.methodLink RX6 179 yX6_isAnswer, Cond.instanceMethod yX6_isAnswer, Cond.selects RX6 yX6_isAnswer yX6_isAnswer, Cond.initialized RX6, Cond.code yX6_isAnswer cX6_isAnswer 2 (some .boolean), Cond.methodLink RX6 26 yX6_in, Cond.static yX6_in, Cond.code yX6_in cX6_in 3 (some .boolean), Cond.methodLink RX6 52 yX6_ofA, Cond.static yX6_ofA, Cond.code yX6_ofA cX6_ofA 2 (some .int), Cond.methodLink RX6 149 yX6_putAside, Cond.instanceMethod yX6_putAside, Cond.selects RX6 yX6_putAside yX6_putAside, Cond.code yX6_putAside cX6_putAside 2 none, Cond.fieldLink RX6 13 "RiddleTradeModel" "aside" "[I", Cond.methodLink RX6 99 yX6_round, Cond.instanceMethod yX6_round, Cond.selects RX6 yX6_round yX6_round, Cond.code yX6_round cX6_round 5 none, Cond.methodLink RX6 93 yX6_takes, Cond.instanceMethod yX6_takes, Cond.selects RX6 yX6_takes yX6_takes]
def wsX6_settledIn_r2 : List Cond := [Cond.code yX6_takes cX6_takes 6 none, Cond.methodLink RX6 38 yX6_ofR, Cond.static yX6_ofR, Cond.code yX6_ofR cX6_ofR 2 (some .int), Cond.methodLink RX6 76 yX6_refuses, Cond.instanceMethod yX6_refuses, Cond.selects RX6 yX6_refuses yX6_refuses, Cond.code yX6_refuses cX6_refuses 3 none, Cond.methodLink RX6 80 yX6_tells, Cond.instanceMethod yX6_tells, Cond.selects RX6 yX6_tells yX6_tells, Cond.code yX6_tells cX6_tells 4 (some .int), Cond.methodLink RX6 83 yX6_drifts, Cond.instanceMethod yX6_drifts, Cond.selects RX6 yX6_drifts yX6_drifts, Cond.code yX6_drifts cX6_drifts 4 none, Cond.methodLink RX6 73 yX6_size, Cond.static yX6_size, Cond.code yX6_size cX6_size 1 (some .int), Cond.methodLink RX6 62 yX6_queues, Cond.instanceMethod yX6_queues, Cond.selects RX6 yX6_queues yX6_queues, Cond.code yX6_queues cX6_queues 2 none, Cond.methodLink RX6 86 yX6_payment]
def wsX6_settledIn_r3 : List Cond := [Cond.instanceMethod yX6_payment, Cond.selects RX6 yX6_payment yX6_payment, Cond.code yX6_payment cX6_payment 4 (some .int), Cond.methodLink RX6 89 yX6_canPay, Cond.instanceMethod yX6_canPay, Cond.selects RX6 yX6_canPay yX6_canPay, Cond.code yX6_canPay cX6_canPay 4 (some .boolean), Cond.methodLink RX6 155 yX6_putBack, Cond.instanceMethod yX6_putBack, Cond.selects RX6 yX6_putBack yX6_putBack, Cond.code yX6_putBack cX6_putBack 2 none]
def wsX6_settledIn : List Cond := .code yX6_settledIn cX6_settledIn 4 (some .int) :: ((wsX6_settledIn_r1 ++ (wsX6_settledIn_r2 ++ wsX6_settledIn_r3)) ++ wsX60)
def wsX6_ifRounds_r1 : List Cond := [Cond.fieldLink RX6 7 "RiddleTradeModel" "s" "[I", Cond.methodLink RX6 26 yX6_in, Cond.static yX6_in, Cond.initialized RX6, Cond.code yX6_in cX6_in 3 (some .boolean), Cond.methodLink RX6 149 yX6_putAside, Cond.instanceMethod yX6_putAside, Cond.selects RX6 yX6_putAside yX6_putAside, Cond.code yX6_putAside cX6_putAside 2 none, Cond.fieldLink RX6 13 "RiddleTradeModel" "aside" "[I", Cond.methodLink RX6 105 yX6_passes, Cond.instanceMethod yX6_passes, Cond.selects RX6 yX6_passes yX6_passes, Cond.code yX6_passes cX6_passes 4 (some .int), Cond.methodLink RX6 96 yX6_inState, Cond.instanceMethod yX6_inState, Cond.selects RX6 yX6_inState yX6_inState, Cond.code yX6_inState cX6_inState 4 (some .int), Cond.methodLink RX6 52 yX6_ofA, Cond.static yX6_ofA, Cond.code yX6_ofA cX6_ofA 2 (some .int), Cond.methodLink RX6 99 yX6_round, Cond.instanceMethod yX6_round, Cond.selects RX6 yX6_round yX6_round]
def wsX6_ifRounds_r2 : List Cond := [Cond.code yX6_round cX6_round 5 none, Cond.methodLink RX6 93 yX6_takes, Cond.instanceMethod yX6_takes, Cond.selects RX6 yX6_takes yX6_takes, Cond.code yX6_takes cX6_takes 6 none, Cond.methodLink RX6 38 yX6_ofR, Cond.static yX6_ofR, Cond.code yX6_ofR cX6_ofR 2 (some .int), Cond.methodLink RX6 76 yX6_refuses, Cond.instanceMethod yX6_refuses, Cond.selects RX6 yX6_refuses yX6_refuses, Cond.code yX6_refuses cX6_refuses 3 none, Cond.methodLink RX6 80 yX6_tells, Cond.instanceMethod yX6_tells, Cond.selects RX6 yX6_tells yX6_tells, Cond.code yX6_tells cX6_tells 4 (some .int), Cond.methodLink RX6 83 yX6_drifts, Cond.instanceMethod yX6_drifts, Cond.selects RX6 yX6_drifts yX6_drifts, Cond.code yX6_drifts cX6_drifts 4 none, Cond.methodLink RX6 73 yX6_size, Cond.static yX6_size, Cond.code yX6_size cX6_size 1 (some .int), Cond.methodLink RX6 62 yX6_queues]
def wsX6_ifRounds_r3 : List Cond := [Cond.instanceMethod yX6_queues, Cond.selects RX6 yX6_queues yX6_queues, Cond.code yX6_queues cX6_queues 2 none, Cond.methodLink RX6 86 yX6_payment, Cond.instanceMethod yX6_payment, Cond.selects RX6 yX6_payment yX6_payment, Cond.code yX6_payment cX6_payment 4 (some .int), Cond.methodLink RX6 89 yX6_canPay, Cond.instanceMethod yX6_canPay, Cond.selects RX6 yX6_canPay yX6_canPay, Cond.code yX6_canPay cX6_canPay 4 (some .boolean), Cond.methodLink RX6 155 yX6_putBack, Cond.instanceMethod yX6_putBack, Cond.selects RX6 yX6_putBack yX6_putBack, Cond.code yX6_putBack cX6_putBack 2 none]
def wsX6_ifRounds : List Cond := .code yX6_ifRounds cX6_ifRounds 4 (some .int) :: ((wsX6_ifRounds_r1 ++ (wsX6_ifRounds_r2 ++ wsX6_ifRounds_r3)) ++ wsX60)
def wsX6_richest : List Cond := .code yX6_richest cX6_richest 3 (some .int) :: ([.fieldLink RX6 7 "RiddleTradeModel" "s" "[I"] ++ wsX60)
def wsX6_account : List Cond := .code yX6_account cX6_account 4 (some .int) :: ([.constant RX6 185 (100100), .fieldLink RX6 7 "RiddleTradeModel" "s" "[I", .methodLink RX6 34 yX6_isTrader, .static yX6_isTrader, .initialized RX6, .code yX6_isTrader cX6_isTrader 1 (some .boolean), .methodLink RX6 26 yX6_in, .static yX6_in, .code yX6_in cX6_in 3 (some .boolean), .methodLink RX6 52 yX6_ofA, .static yX6_ofA, .code yX6_ofA cX6_ofA 2 (some .int), .methodLink RX6 38 yX6_ofR, .static yX6_ofR, .code yX6_ofR cX6_ofR 2 (some .int)] ++ wsX60)
def wsX6_open : List Cond := .code yX6_open cX6_open 3 (some .int) :: ([.fieldLink RX6 7 "RiddleTradeModel" "s" "[I", .methodLink RX6 38 yX6_ofR, .static yX6_ofR, .initialized RX6, .code yX6_ofR cX6_ofR 2 (some .int)] ++ wsX60)
def wsX6_debtors : List Cond := .code yX6_debtors cX6_debtors 3 (some .int) :: ([.fieldLink RX6 7 "RiddleTradeModel" "s" "[I"] ++ wsX60)
def wsX6_count : List Cond := .code yX6_count cX6_count 2 (some .int) :: ([.fieldLink RX6 7 "RiddleTradeModel" "s" "[I", .fieldLink RX6 30 "RiddleTradeModel" "pasts" "I", .fieldLink RX6 108 "RiddleTradeModel" "length" "I", .methodLink RX6 186 yX6_open, .instanceMethod yX6_open, .selects RX6 yX6_open yX6_open, .initialized RX6, .code yX6_open cX6_open 3 (some .int), .methodLink RX6 38 yX6_ofR, .static yX6_ofR, .code yX6_ofR cX6_ofR 2 (some .int), .methodLink RX6 96 yX6_inState, .instanceMethod yX6_inState, .selects RX6 yX6_inState yX6_inState, .code yX6_inState cX6_inState 4 (some .int), .methodLink RX6 52 yX6_ofA, .static yX6_ofA, .code yX6_ofA cX6_ofA 2 (some .int), .methodLink RX6 189 yX6_debtors, .instanceMethod yX6_debtors, .selects RX6 yX6_debtors yX6_debtors, .code yX6_debtors cX6_debtors 3 (some .int)] ++ wsX60)
def wsJ9_abs_0f7a4 : List Cond := .code yJ9_abs_0f7a4 cJ9_abs_0f7a4 1 (some .int) :: ([])
def wsJ9_max_7cf53 : List Cond := .code yJ9_max_7cf53 cJ9_max_7cf53 2 (some .int) :: ([])
def wsJ9_min_7cf53 : List Cond := .code yJ9_min_7cf53 cJ9_min_7cf53 2 (some .int) :: ([])
def wsL_law_r1 : List Cond := [Cond.classLink RL 7 RX5, Cond.instantiable RX5 8, Cond.initialized RX5, Cond.classLink RL 10 RX6, Cond.instantiable RX6 18, Cond.initialized RX6, Cond.methodLink RL 9 yX5_init, Cond.instanceMethod yX5_init, Cond.code yX5_init cX5_init 1 none, Cond.methodLink RX5 1 objectInit, Cond.instanceMethod objectInit, Cond.code objectInit ⟨#[0xb1]⟩ 1 none, Cond.classLink RX5 7 RX0, Cond.instantiable RX0 7, Cond.initialized RX0, Cond.fieldLink RX5 10 "RiddleTrade" "now" "LRiddleTrade$Exchange;", Cond.fieldLink RX5 16 "RiddleTrade" "trial" "LRiddleTrade$Exchange;", Cond.fieldLink RX5 19 "RiddleTrade" "snapshot" "LRiddleTrade$Exchange;", Cond.classLink RX5 22 RX1, Cond.instantiable RX1 3, Cond.initialized RX1, Cond.fieldLink RX5 25 "RiddleTrade" "history" "LRiddleTrade$History;", Cond.classLink RX5 29 RX2, Cond.instantiable RX2 5]
def wsL_law_r2 : List Cond := [Cond.initialized RX2, Cond.fieldLink RX5 32 "RiddleTrade" "offers" "LRiddleTrade$Offers;", Cond.fieldLink RX5 36 "RiddleTrade" "stoppedNumber" "I", Cond.fieldLink RX5 40 "RiddleTrade" "stoppedError" "I", Cond.methodLink RX5 9 yX0_init, Cond.instanceMethod yX0_init, Cond.code yX0_init cX0_init 2 none, Cond.methodLink RX0 3 objectInit, Cond.classLink RX0 9 RX4, Cond.instantiable RX4 3, Cond.initialized RX4, Cond.arrayClass .int, Cond.fieldLink RX0 16 "RiddleTrade$Exchange" "traders" "LRiddleTrade$Table;", Cond.fieldLink RX0 20 "RiddleTrade$Exchange" "riddles" "LRiddleTrade$Table;", Cond.fieldLink RX0 23 "RiddleTrade$Exchange" "answers" "LRiddleTrade$Table;", Cond.fieldLink RX0 26 "RiddleTrade$Exchange" "scales" "LRiddleTrade$Table;", Cond.fieldLink RX0 29 "RiddleTrade$Exchange" "settings" "LRiddleTrade$Table;", Cond.classLink RX0 32 RX3, Cond.instantiable RX3 3, Cond.initialized RX3, Cond.fieldLink RX0 35 "RiddleTrade$Exchange" "row" "LRiddleTrade$Row;", Cond.methodLink RX0 13 yX4_init, Cond.instanceMethod yX4_init, Cond.code yX4_init cX4_init 3 none]
def wsL_law_r3 : List Cond := [Cond.methodLink RX4 3 objectInit, Cond.fieldLink RX4 9 "RiddleTrade$Table" "cells" "[I", Cond.fieldLink RX4 15 "RiddleTrade$Table" "columns" "I", Cond.instanceMethod yX3_init, Cond.code yX3_init cX3_init 1 none, Cond.methodLink RX3 3 objectInit, Cond.fieldLink RX3 9 "RiddleTrade$Row" "ring" "[I", Cond.methodLink RX0 39 yX4_addRow, Cond.instanceMethod yX4_addRow, Cond.selects RX4 yX4_addRow yX4_addRow, Cond.code yX4_addRow cX4_addRow 1 (some .int), Cond.fieldLink RX4 19 "RiddleTrade$Table" "rows" "I", Cond.methodLink RX0 43 yX4_put, Cond.instanceMethod yX4_put, Cond.selects RX4 yX4_put yX4_put, Cond.code yX4_put cX4_put 5 none, Cond.methodLink RX0 47 yX0_addSetting, Cond.instanceMethod yX0_addSetting, Cond.selects RX0 yX0_addSetting yX0_addSetting, Cond.code yX0_addSetting cX0_addSetting 5 none, Cond.methodLink RX5 24 yX1_init, Cond.instanceMethod yX1_init, Cond.code yX1_init cX1_init 2 none, Cond.methodLink RX1 3 objectInit]
def wsL_law_r4 : List Cond := [Cond.classLink RX1 9 RX0, Cond.fieldLink RX1 11 "RiddleTrade$History" "states" "[LRiddleTrade$Exchange;", Cond.methodLink RX1 17 yX0_init, Cond.instanceMethod yX2_init, Cond.code yX2_init cX2_init 1 none, Cond.methodLink RX2 3 objectInit, Cond.arrayClass .char, Cond.fieldLink RX2 9 "RiddleTrade$Offers" "text" "[C", Cond.classLink RX2 15 RX4, Cond.fieldLink RX2 20 "RiddleTrade$Offers" "things" "LRiddleTrade$Table;", Cond.methodLink RX2 17 yX4_init, Cond.methodLink RL 12 yX6_init, Cond.instanceMethod yX6_init, Cond.code yX6_init cX6_init 2 none, Cond.methodLink RX6 1 objectInit, Cond.fieldLink RX6 7 "RiddleTradeModel" "s" "[I", Cond.fieldLink RX6 13 "RiddleTradeModel" "aside" "[I", Cond.fieldLink RX6 16 "RiddleTradeModel" "past" "[I", Cond.fieldLink RX6 19 "RiddleTradeModel" "snapshot" "[I", Cond.fieldLink RX6 22 "RiddleTradeModel" "text" "[C", Cond.methodLink RL 13 yX5_ask, Cond.instanceMethod yX5_ask, Cond.selects RX5 yX5_ask yX5_ask, Cond.code yX5_ask cX5_ask 4 (some .int)]
def wsL_law_r5 : List Cond := [Cond.methodLink RX5 43 yX0_copyFrom, Cond.instanceMethod yX0_copyFrom, Cond.selects RX0 yX0_copyFrom yX0_copyFrom, Cond.code yX0_copyFrom cX0_copyFrom 2 none, Cond.fieldLink RX0 57 "RiddleTrade$Exchange" "round" "I", Cond.methodLink RX0 50 yX4_copyFrom, Cond.instanceMethod yX4_copyFrom, Cond.selects RX4 yX4_copyFrom yX4_copyFrom, Cond.code yX4_copyFrom cX4_copyFrom 2 none, Cond.methodLink RX4 26 Lib.Math.min.name, Cond.static Lib.Math.min.name, Cond.initialized "java/lang/Math", Cond.code Lib.Math.min.name Lib.Math.min.code 2 (some .int), Cond.methodLink RX4 31 arraycopyName, Cond.native arraycopyName, Cond.static arraycopyName, Cond.initialized "java/lang/System", Cond.methodLink RX0 54 yX3_copyFrom, Cond.instanceMethod yX3_copyFrom, Cond.selects RX3 yX3_copyFrom yX3_copyFrom, Cond.code yX3_copyFrom cX3_copyFrom 2 none, Cond.fieldLink RX3 19 "RiddleTrade$Row" "head" "I", Cond.fieldLink RX3 15 "RiddleTrade$Row" "length" "I", Cond.methodLink RX3 26 Lib.Math.min.name]
def wsL_law_r6 : List Cond := [Cond.methodLink RX3 32 arraycopyName, Cond.methodLink RX5 47 yX0_addRiddle, Cond.instanceMethod yX0_addRiddle, Cond.selects RX0 yX0_addRiddle yX0_addRiddle, Cond.code yX0_addRiddle cX0_addRiddle 5 (some .int), Cond.methodLink RX0 61 yX4_has, Cond.instanceMethod yX4_has, Cond.selects RX4 yX4_has yX4_has, Cond.code yX4_has cX4_has 2 (some .boolean), Cond.methodLink RX0 65 yX4_rows, Cond.instanceMethod yX4_rows, Cond.selects RX4 yX4_rows yX4_rows, Cond.code yX4_rows cX4_rows 1 (some .int), Cond.methodLink RX5 51 yX5_finishAct, Cond.instanceMethod yX5_finishAct, Cond.selects RX5 yX5_finishAct yX5_finishAct, Cond.code yX5_finishAct cX5_finishAct 2 (some .int), Cond.methodLink RX5 142 yX1_record, Cond.instanceMethod yX1_record, Cond.selects RX1 yX1_record yX1_record, Cond.code yX1_record cX1_record 3 none, Cond.fieldLink RX1 18 "RiddleTrade$History" "size" "I", Cond.fieldLink RX1 22 "RiddleTrade$History" "oldest" "I", Cond.methodLink RX1 25 yX1_stateAt]
def wsL_law_r7 : List Cond := [Cond.instanceMethod yX1_stateAt, Cond.selects RX1 yX1_stateAt yX1_stateAt, Cond.code yX1_stateAt cX1_stateAt 3 (some (.object "RiddleTrade$Exchange")), Cond.methodLink RX1 29 yX0_copyFrom, Cond.methodLink RL 17 yX6_ask, Cond.instanceMethod yX6_ask, Cond.selects RX6 yX6_ask yX6_ask, Cond.code yX6_ask cX6_ask 5 (some .int), Cond.methodLink RX6 42 yX6_barAsk, Cond.instanceMethod yX6_barAsk, Cond.selects RX6 yX6_barAsk yX6_barAsk, Cond.code yX6_barAsk cX6_barAsk 4 (some .int), Cond.methodLink RX6 34 yX6_isTrader, Cond.static yX6_isTrader, Cond.code yX6_isTrader cX6_isTrader 1 (some .boolean), Cond.methodLink RX6 26 yX6_in, Cond.static yX6_in, Cond.code yX6_in cX6_in 3 (some .boolean), Cond.methodLink RX6 46 yX6_records, Cond.instanceMethod yX6_records, Cond.selects RX6 yX6_records yX6_records, Cond.code yX6_records cX6_records 2 none, Cond.fieldLink RX6 30 "RiddleTradeModel" "pasts" "I", Cond.methodLink RX6 49 yX6_asks]
def wsL_law_r8 : List Cond := [Cond.instanceMethod yX6_asks, Cond.selects RX6 yX6_asks yX6_asks, Cond.code yX6_asks cX6_asks 5 (some .int), Cond.methodLink RX6 38 yX6_ofR, Cond.static yX6_ofR, Cond.code yX6_ofR cX6_ofR 2 (some .int), Cond.methodLink RL 18 yX5_withdraw, Cond.instanceMethod yX5_withdraw, Cond.selects RX5 yX5_withdraw yX5_withdraw, Cond.code yX5_withdraw cX5_withdraw 2 (some .int), Cond.methodLink RX5 55 yX0_closeRiddle, Cond.instanceMethod yX0_closeRiddle, Cond.selects RX0 yX0_closeRiddle yX0_closeRiddle, Cond.code yX0_closeRiddle cX0_closeRiddle 2 (some .int), Cond.methodLink RX0 68 yX4_get, Cond.instanceMethod yX4_get, Cond.selects RX4 yX4_get yX4_get, Cond.code yX4_get cX4_get 4 (some .int), Cond.methodLink RX0 72 yX4_countOfBoth, Cond.instanceMethod yX4_countOfBoth, Cond.selects RX4 yX4_countOfBoth yX4_countOfBoth, Cond.code yX4_countOfBoth cX4_countOfBoth 7 (some .int), Cond.methodLink RX4 22 yX4_get, Cond.methodLink RL 22 yX6_withdraw]
def wsL_law_r9 : List Cond := [Cond.instanceMethod yX6_withdraw, Cond.selects RX6 yX6_withdraw yX6_withdraw, Cond.code yX6_withdraw cX6_withdraw 2 (some .int), Cond.methodLink RX6 55 yX6_isRiddle, Cond.instanceMethod yX6_isRiddle, Cond.selects RX6 yX6_isRiddle yX6_isRiddle, Cond.code yX6_isRiddle cX6_isRiddle 2 (some .boolean), Cond.methodLink RX6 58 yX6_waiting, Cond.instanceMethod yX6_waiting, Cond.selects RX6 yX6_waiting yX6_waiting, Cond.code yX6_waiting cX6_waiting 4 (some .int), Cond.methodLink RX6 52 yX6_ofA, Cond.static yX6_ofA, Cond.code yX6_ofA cX6_ofA 2 (some .int), Cond.methodLink RL 23 yX5_deliver, Cond.instanceMethod yX5_deliver, Cond.selects RX5 yX5_deliver yX5_deliver, Cond.code yX5_deliver cX5_deliver 5 (some .int), Cond.methodLink RX5 58 yX0_addAnswer, Cond.instanceMethod yX0_addAnswer, Cond.selects RX0 yX0_addAnswer yX0_addAnswer, Cond.code yX0_addAnswer cX0_addAnswer 6 (some .int), Cond.methodLink RX0 76 yX3_addLast, Cond.instanceMethod yX3_addLast]
def wsL_law_r10 : List Cond := [Cond.selects RX3 yX3_addLast yX3_addLast, Cond.code yX3_addLast cX3_addLast 3 none, Cond.methodLink RL 27 yX6_deliver, Cond.instanceMethod yX6_deliver, Cond.selects RX6 yX6_deliver yX6_deliver, Cond.code yX6_deliver cX6_deliver 6 (some .int), Cond.methodLink RX6 66 yX6_barDeliver, Cond.instanceMethod yX6_barDeliver, Cond.selects RX6 yX6_barDeliver yX6_barDeliver, Cond.code yX6_barDeliver cX6_barDeliver 5 (some .int), Cond.methodLink RX6 70 yX6_delivers, Cond.instanceMethod yX6_delivers, Cond.selects RX6 yX6_delivers yX6_delivers, Cond.code yX6_delivers cX6_delivers 7 (some .int), Cond.methodLink RX6 62 yX6_queues, Cond.instanceMethod yX6_queues, Cond.selects RX6 yX6_queues yX6_queues, Cond.code yX6_queues cX6_queues 2 none, Cond.methodLink RL 28 yX5_adjust, Cond.instanceMethod yX5_adjust, Cond.selects RX5 yX5_adjust yX5_adjust, Cond.code yX5_adjust cX5_adjust 1 (some .int), Cond.methodLink RX5 62 yX0_setScalesRight, Cond.instanceMethod yX0_setScalesRight]
def wsL_law_r11 : List Cond := [Cond.selects RX0 yX0_setScalesRight yX0_setScalesRight, Cond.code yX0_setScalesRight cX0_setScalesRight 3 (some .int), Cond.methodLink RX0 80 Lib.Math.abs.name, Cond.static Lib.Math.abs.name, Cond.code Lib.Math.abs.name Lib.Math.abs.code 1 (some .int), Cond.methodLink RL 32 yX6_adjust, Cond.instanceMethod yX6_adjust, Cond.selects RX6 yX6_adjust yX6_adjust, Cond.code yX6_adjust cX6_adjust 2 (some .int), Cond.methodLink RX6 73 yX6_size, Cond.static yX6_size, Cond.code yX6_size cX6_size 1 (some .int), Cond.methodLink RL 33 yX5_set, Cond.instanceMethod yX5_set, Cond.selects RX5 yX5_set yX5_set, Cond.code yX5_set cX5_set 3 (some .int), Cond.methodLink RX5 66 yX0_changeSetting, Cond.instanceMethod yX0_changeSetting, Cond.selects RX0 yX0_changeSetting yX0_changeSetting, Cond.code yX0_changeSetting cX0_changeSetting 4 (some .int), Cond.methodLink RL 37 yX6_set, Cond.instanceMethod yX6_set, Cond.selects RX6 yX6_set yX6_set, Cond.code yX6_set cX6_set 4 (some .int)]
def wsL_law_r12 : List Cond := [Cond.methodLink RL 38 yX5_pass, Cond.instanceMethod yX5_pass, Cond.selects RX5 yX5_pass yX5_pass, Cond.code yX5_pass cX5_pass 2 (some .int), Cond.methodLink RX5 70 yX0_playRounds, Cond.instanceMethod yX0_playRounds, Cond.selects RX0 yX0_playRounds yX0_playRounds, Cond.code yX0_playRounds cX0_playRounds 4 (some .int), Cond.methodLink RX0 86 yX0_playRound, Cond.instanceMethod yX0_playRound, Cond.selects RX0 yX0_playRound yX0_playRound, Cond.code yX0_playRound cX0_playRound 4 (some .int), Cond.methodLink RX0 92 Lib.Math.min.name, Cond.methodLink RX0 89 yX3_length, Cond.instanceMethod yX3_length, Cond.selects RX3 yX3_length yX3_length, Cond.code yX3_length cX3_length 1 (some .int), Cond.methodLink RX0 95 yX3_takeFirst, Cond.instanceMethod yX3_takeFirst, Cond.selects RX3 yX3_takeFirst yX3_takeFirst, Cond.code yX3_takeFirst cX3_takeFirst 2 (some .int), Cond.methodLink RX3 22 yX3_at, Cond.instanceMethod yX3_at, Cond.selects RX3 yX3_at yX3_at]
def wsL_law_r13 : List Cond := [Cond.code yX3_at cX3_at 3 (some .int), Cond.methodLink RX0 98 yX0_takeOne, Cond.instanceMethod yX0_takeOne, Cond.selects RX0 yX0_takeOne yX0_takeOne, Cond.code yX0_takeOne cX0_takeOne 4 (some .boolean), Cond.methodLink RX0 104 yX0_paymentFor, Cond.instanceMethod yX0_paymentFor, Cond.selects RX0 yX0_paymentFor yX0_paymentFor, Cond.code yX0_paymentFor cX0_paymentFor 4 (some .int), Cond.methodLink RX0 129 yX0_told, Cond.instanceMethod yX0_told, Cond.selects RX0 yX0_told yX0_told, Cond.code yX0_told cX0_told 3 (some .int), Cond.methodLink RX0 126 Lib.Math.max.name, Cond.static Lib.Math.max.name, Cond.code Lib.Math.max.name Lib.Math.max.code 2 (some .int), Cond.methodLink RX0 107 yX0_hindrance, Cond.instanceMethod yX0_hindrance, Cond.selects RX0 yX0_hindrance yX0_hindrance, Cond.code yX0_hindrance cX0_hindrance 6 (some .int), Cond.methodLink RX0 110 yX0_refuse, Cond.instanceMethod yX0_refuse, Cond.selects RX0 yX0_refuse yX0_refuse, Cond.code yX0_refuse cX0_refuse 3 none]
def wsL_law_r14 : List Cond := [Cond.methodLink RX0 114 yX0_driftOn, Cond.instanceMethod yX0_driftOn, Cond.selects RX0 yX0_driftOn yX0_driftOn, Cond.code yX0_driftOn cX0_driftOn 5 none, Cond.methodLink RX0 123 yX4_increase, Cond.instanceMethod yX4_increase, Cond.selects RX4 yX4_increase yX4_increase, Cond.code yX4_increase cX4_increase 5 none, Cond.methodLink RX0 117 yX0_doubt, Cond.instanceMethod yX0_doubt, Cond.selects RX0 yX0_doubt yX0_doubt, Cond.code yX0_doubt cX0_doubt 2 none, Cond.methodLink RX0 120 yX0_pay, Cond.instanceMethod yX0_pay, Cond.selects RX0 yX0_pay yX0_pay, Cond.code yX0_pay cX0_pay 4 none, Cond.methodLink RX0 101 yX0_chargeFees, Cond.instanceMethod yX0_chargeFees, Cond.selects RX0 yX0_chargeFees yX0_chargeFees, Cond.code yX0_chargeFees cX0_chargeFees 4 none, Cond.methodLink RL 41 yX6_pass, Cond.instanceMethod yX6_pass, Cond.selects RX6 yX6_pass yX6_pass, Cond.code yX6_pass cX6_pass 3 (some .int)]
def wsL_law_r15 : List Cond := [Cond.methodLink RX6 102 yX6_barPass, Cond.instanceMethod yX6_barPass, Cond.selects RX6 yX6_barPass yX6_barPass, Cond.code yX6_barPass cX6_barPass 2 (some .int), Cond.methodLink RX6 105 yX6_passes, Cond.instanceMethod yX6_passes, Cond.selects RX6 yX6_passes yX6_passes, Cond.code yX6_passes cX6_passes 4 (some .int), Cond.methodLink RX6 96 yX6_inState, Cond.instanceMethod yX6_inState, Cond.selects RX6 yX6_inState yX6_inState, Cond.code yX6_inState cX6_inState 4 (some .int), Cond.methodLink RX6 99 yX6_round, Cond.instanceMethod yX6_round, Cond.selects RX6 yX6_round yX6_round, Cond.code yX6_round cX6_round 5 none, Cond.methodLink RX6 93 yX6_takes, Cond.instanceMethod yX6_takes, Cond.selects RX6 yX6_takes yX6_takes, Cond.code yX6_takes cX6_takes 6 none, Cond.methodLink RX6 76 yX6_refuses, Cond.instanceMethod yX6_refuses, Cond.selects RX6 yX6_refuses yX6_refuses, Cond.code yX6_refuses cX6_refuses 3 none]
def wsL_law_r16 : List Cond := [Cond.methodLink RX6 80 yX6_tells, Cond.instanceMethod yX6_tells, Cond.selects RX6 yX6_tells yX6_tells, Cond.code yX6_tells cX6_tells 4 (some .int), Cond.methodLink RX6 83 yX6_drifts, Cond.instanceMethod yX6_drifts, Cond.selects RX6 yX6_drifts yX6_drifts, Cond.code yX6_drifts cX6_drifts 4 none, Cond.methodLink RX6 86 yX6_payment, Cond.instanceMethod yX6_payment, Cond.selects RX6 yX6_payment yX6_payment, Cond.code yX6_payment cX6_payment 4 (some .int), Cond.methodLink RX6 89 yX6_canPay, Cond.instanceMethod yX6_canPay, Cond.selects RX6 yX6_canPay yX6_canPay, Cond.code yX6_canPay cX6_canPay 4 (some .boolean), Cond.methodLink RL 42 yX5_type, Cond.instanceMethod yX5_type, Cond.selects RX5 yX5_type yX5_type, Cond.code yX5_type cX5_type 2 (some .int), Cond.methodLink RX5 73 yX2_addCharacter, Cond.instanceMethod yX2_addCharacter, Cond.selects RX2 yX2_addCharacter yX2_addCharacter, Cond.code yX2_addCharacter cX2_addCharacter 2 (some .int)]
def wsL_law_r17 : List Cond := [Cond.fieldLink RX2 24 "RiddleTrade$Offers" "length" "I", Cond.methodLink RL 46 yX6_type, Cond.instanceMethod yX6_type, Cond.selects RX6 yX6_type yX6_type, Cond.code yX6_type cX6_type 2 (some .int), Cond.fieldLink RX6 108 "RiddleTradeModel" "length" "I", Cond.methodLink RL 47 yX5_clearText, Cond.instanceMethod yX5_clearText, Cond.selects RX5 yX5_clearText yX5_clearText, Cond.code yX5_clearText cX5_clearText 1 (some .int), Cond.methodLink RX5 77 yX2_emptyText, Cond.instanceMethod yX2_emptyText, Cond.selects RX2 yX2_emptyText yX2_emptyText, Cond.code yX2_emptyText cX2_emptyText 2 (some .int), Cond.methodLink RL 50 yX6_clearText, Cond.instanceMethod yX6_clearText, Cond.selects RX6 yX6_clearText yX6_clearText, Cond.code yX6_clearText cX6_clearText 2 (some .int), Cond.methodLink RL 51 yX5_perform, Cond.instanceMethod yX5_perform, Cond.selects RX5 yX5_perform yX5_perform, Cond.code yX5_perform cX5_perform 5 (some .int), Cond.methodLink RX5 80 yX2_read, Cond.instanceMethod yX2_read]
def wsL_law_r18 : List Cond := [Cond.selects RX2 yX2_read yX2_read, Cond.code yX2_read cX2_read 2 (some .int), Cond.fieldLink RX2 39 "RiddleTrade$Offers" "position" "I", Cond.fieldLink RX2 42 "RiddleTrade$Offers" "faulty" "Z", Cond.methodLink RX2 36 yX4_dropRows, Cond.instanceMethod yX4_dropRows, Cond.selects RX4 yX4_dropRows yX4_dropRows, Cond.code yX4_dropRows cX4_dropRows 1 none, Cond.methodLink RX2 46 yX4_addRow, Cond.methodLink RX2 49 yX2_readThing, Cond.instanceMethod yX2_readThing, Cond.selects RX2 yX2_readThing yX2_readThing, Cond.code yX2_readThing cX2_readThing 2 none, Cond.methodLink RX2 56 yX2_here, Cond.instanceMethod yX2_here, Cond.selects RX2 yX2_here yX2_here, Cond.code yX2_here cX2_here 2 (some .int), Cond.methodLink RX2 59 yX4_put, Cond.methodLink RX2 63 yX2_readNumber, Cond.instanceMethod yX2_readNumber, Cond.selects RX2 yX2_readNumber yX2_readNumber, Cond.code yX2_readNumber cX2_readNumber 7 none, Cond.methodLink RX2 67 yX2_digitHere, Cond.instanceMethod yX2_digitHere]
def wsL_law_r19 : List Cond := [Cond.selects RX2 yX2_digitHere yX2_digitHere, Cond.code yX2_digitHere cX2_digitHere 2 (some .int), Cond.methodLink RX2 53 yX2_expect, Cond.instanceMethod yX2_expect, Cond.selects RX2 yX2_expect yX2_expect, Cond.code yX2_expect cX2_expect 2 none, Cond.methodLink RX5 83 yX2_thingCount, Cond.instanceMethod yX2_thingCount, Cond.selects RX2 yX2_thingCount yX2_thingCount, Cond.code yX2_thingCount cX2_thingCount 1 (some .int), Cond.methodLink RX2 28 yX4_rows, Cond.methodLink RX5 86 yX5_doThing, Cond.instanceMethod yX5_doThing, Cond.selects RX5 yX5_doThing yX5_doThing, Cond.code yX5_doThing cX5_doThing 5 (some .int), Cond.methodLink RX5 145 yX2_numberOf, Cond.instanceMethod yX2_numberOf, Cond.selects RX2 yX2_numberOf yX2_numberOf, Cond.code yX2_numberOf cX2_numberOf 3 (some .int), Cond.methodLink RX2 32 yX4_get, Cond.methodLink RL 54 yX6_perform, Cond.instanceMethod yX6_perform, Cond.selects RX6 yX6_perform yX6_perform, Cond.code yX6_perform cX6_perform 6 (some .int)]
def wsL_law_r20 : List Cond := [Cond.fieldLink RX6 111 "RiddleTradeModel" "spot" "I", Cond.fieldLink RX6 158 "RiddleTradeModel" "hasStop" "Z", Cond.fieldLink RX6 161 "RiddleTradeModel" "stopAt" "I", Cond.fieldLink RX6 164 "RiddleTradeModel" "stopWhy" "I", Cond.methodLink RX6 146 yX6_things, Cond.instanceMethod yX6_things, Cond.selects RX6 yX6_things yX6_things, Cond.code yX6_things cX6_things 3 (some .int), Cond.fieldLink RX6 114 "RiddleTradeModel" "isWrong" "Z", Cond.methodLink RX6 143 yX6_thing, Cond.instanceMethod yX6_thing, Cond.selects RX6 yX6_thing yX6_thing, Cond.code yX6_thing cX6_thing 1 none, Cond.fieldLink RX6 122 "RiddleTradeModel" "kind" "I", Cond.fieldLink RX6 128 "RiddleTradeModel" "first" "I", Cond.fieldLink RX6 134 "RiddleTradeModel" "second" "I", Cond.fieldLink RX6 137 "RiddleTradeModel" "third" "I", Cond.fieldLink RX6 140 "RiddleTradeModel" "fourth" "I", Cond.methodLink RX6 118 yX6_next, Cond.instanceMethod yX6_next, Cond.selects RX6 yX6_next yX6_next, Cond.code yX6_next cX6_next 1 (some .int), Cond.methodLink RX6 125 yX6_number, Cond.instanceMethod yX6_number]
def wsL_law_r21 : List Cond := [Cond.selects RX6 yX6_number yX6_number, Cond.code yX6_number cX6_number 5 (some .int), Cond.methodLink RX6 131 yX6_sign, Cond.instanceMethod yX6_sign, Cond.selects RX6 yX6_sign yX6_sign, Cond.code yX6_sign cX6_sign 2 none, Cond.methodLink RX6 149 yX6_putAside, Cond.instanceMethod yX6_putAside, Cond.selects RX6 yX6_putAside yX6_putAside, Cond.code yX6_putAside cX6_putAside 2 none, Cond.methodLink RX6 152 yX6_does, Cond.instanceMethod yX6_does, Cond.selects RX6 yX6_does yX6_does, Cond.code yX6_does cX6_does 3 (some .int), Cond.methodLink RX6 155 yX6_putBack, Cond.instanceMethod yX6_putBack, Cond.selects RX6 yX6_putBack yX6_putBack, Cond.code yX6_putBack cX6_putBack 2 none, Cond.methodLink RL 55 yX5_stopped, Cond.instanceMethod yX5_stopped, Cond.selects RX5 yX5_stopped yX5_stopped, Cond.code yX5_stopped cX5_stopped 2 (some .int), Cond.methodLink RL 58 yX6_stopped, Cond.instanceMethod yX6_stopped]
def wsL_law_r22 : List Cond := [Cond.selects RX6 yX6_stopped yX6_stopped, Cond.code yX6_stopped cX6_stopped 2 (some .int), Cond.methodLink RL 59 yX5_undo, Cond.instanceMethod yX5_undo, Cond.selects RX5 yX5_undo yX5_undo, Cond.code yX5_undo cX5_undo 1 (some .int), Cond.methodLink RX5 89 yX1_takeBackInto, Cond.instanceMethod yX1_takeBackInto, Cond.selects RX1 yX1_takeBackInto yX1_takeBackInto, Cond.code yX1_takeBackInto cX1_takeBackInto 3 (some .int), Cond.methodLink RL 62 yX6_undo, Cond.instanceMethod yX6_undo, Cond.selects RX6 yX6_undo yX6_undo, Cond.code yX6_undo cX6_undo 2 (some .int), Cond.methodLink RL 63 yX5_keep, Cond.instanceMethod yX5_keep, Cond.selects RX5 yX5_keep yX5_keep, Cond.code yX5_keep cX5_keep 1 (some .int), Cond.fieldLink RX5 93 "RiddleTrade" "hasSnapshot" "Z", Cond.methodLink RX5 97 yX0_waiting, Cond.instanceMethod yX0_waiting, Cond.selects RX0 yX0_waiting yX0_waiting, Cond.code yX0_waiting cX0_waiting 1 (some .int), Cond.methodLink RL 66 yX6_keep]
def wsL_law_r23 : List Cond := [Cond.instanceMethod yX6_keep, Cond.selects RX6 yX6_keep yX6_keep, Cond.code yX6_keep cX6_keep 2 (some .int), Cond.fieldLink RX6 167 "RiddleTradeModel" "isKept" "Z", Cond.methodLink RL 67 yX5_restore, Cond.instanceMethod yX5_restore, Cond.selects RX5 yX5_restore yX5_restore, Cond.code yX5_restore cX5_restore 1 (some .int), Cond.methodLink RL 70 yX6_restore, Cond.instanceMethod yX6_restore, Cond.selects RX6 yX6_restore yX6_restore, Cond.code yX6_restore cX6_restore 2 (some .int), Cond.methodLink RL 71 yX5_trader, Cond.instanceMethod yX5_trader, Cond.selects RX5 yX5_trader yX5_trader, Cond.code yX5_trader cX5_trader 3 (some .int), Cond.methodLink RX5 100 yX0_tellTrader, Cond.instanceMethod yX0_tellTrader, Cond.selects RX0 yX0_tellTrader yX0_tellTrader, Cond.code yX0_tellTrader cX0_tellTrader 3 (some .int), Cond.methodLink RX0 135 yX4_countOf, Cond.instanceMethod yX4_countOf, Cond.selects RX4 yX4_countOf yX4_countOf, Cond.code yX4_countOf cX4_countOf 5 (some .int)]
def wsL_law_r24 : List Cond := [Cond.methodLink RL 74 yX6_trader, Cond.instanceMethod yX6_trader, Cond.selects RX6 yX6_trader yX6_trader, Cond.code yX6_trader cX6_trader 4 (some .int), Cond.methodLink RX6 170 yX6_riddlesOf, Cond.instanceMethod yX6_riddlesOf, Cond.selects RX6 yX6_riddlesOf yX6_riddlesOf, Cond.code yX6_riddlesOf cX6_riddlesOf 5 (some .int), Cond.methodLink RX6 173 yX6_answersOf, Cond.instanceMethod yX6_answersOf, Cond.selects RX6 yX6_answersOf yX6_answersOf, Cond.code yX6_answersOf cX6_answersOf 5 (some .int), Cond.methodLink RL 75 yX5_riddle, Cond.instanceMethod yX5_riddle, Cond.selects RX5 yX5_riddle yX5_riddle, Cond.code yX5_riddle cX5_riddle 3 (some .int), Cond.methodLink RX5 103 yX0_tellRiddle, Cond.instanceMethod yX0_tellRiddle, Cond.selects RX0 yX0_tellRiddle yX0_tellRiddle, Cond.code yX0_tellRiddle cX0_tellRiddle 3 (some .int), Cond.methodLink RX0 138 yX4_rowOfBoth, Cond.instanceMethod yX4_rowOfBoth, Cond.selects RX4 yX4_rowOfBoth yX4_rowOfBoth, Cond.code yX4_rowOfBoth cX4_rowOfBoth 6 (some .int)]
def wsL_law_r25 : List Cond := [Cond.methodLink RL 78 yX6_riddle, Cond.instanceMethod yX6_riddle, Cond.selects RX6 yX6_riddle yX6_riddle, Cond.code yX6_riddle cX6_riddle 3 (some .int), Cond.methodLink RX6 176 yX6_answersTo, Cond.instanceMethod yX6_answersTo, Cond.selects RX6 yX6_answersTo yX6_answersTo, Cond.code yX6_answersTo cX6_answersTo 4 (some .int), Cond.methodLink RL 79 yX5_answer, Cond.instanceMethod yX5_answer, Cond.selects RX5 yX5_answer yX5_answer, Cond.code yX5_answer cX5_answer 3 (some .int), Cond.methodLink RX5 106 yX0_tellAnswer, Cond.instanceMethod yX0_tellAnswer, Cond.selects RX0 yX0_tellAnswer yX0_tellAnswer, Cond.code yX0_tellAnswer cX0_tellAnswer 3 (some .int), Cond.methodLink RX0 141 yX3_placeOf, Cond.instanceMethod yX3_placeOf, Cond.selects RX3 yX3_placeOf yX3_placeOf, Cond.code yX3_placeOf cX3_placeOf 3 (some .int), Cond.methodLink RL 82 yX6_answer, Cond.instanceMethod yX6_answer, Cond.selects RX6 yX6_answer yX6_answer, Cond.code yX6_answer cX6_answer 3 (some .int)]
def wsL_law_r26 : List Cond := [Cond.methodLink RX6 179 yX6_isAnswer, Cond.instanceMethod yX6_isAnswer, Cond.selects RX6 yX6_isAnswer yX6_isAnswer, Cond.code yX6_isAnswer cX6_isAnswer 2 (some .boolean), Cond.methodLink RX6 182 yX6_place, Cond.instanceMethod yX6_place, Cond.selects RX6 yX6_place yX6_place, Cond.code yX6_place cX6_place 4 (some .int), Cond.methodLink RL 83 yX5_waits, Cond.instanceMethod yX5_waits, Cond.selects RX5 yX5_waits yX5_waits, Cond.code yX5_waits cX5_waits 2 (some .int), Cond.methodLink RX5 109 yX0_waitingAt, Cond.instanceMethod yX0_waitingAt, Cond.selects RX0 yX0_waitingAt yX0_waitingAt, Cond.code yX0_waitingAt cX0_waitingAt 2 (some .int), Cond.methodLink RX0 132 yX3_at, Cond.methodLink RL 86 yX6_waits, Cond.instanceMethod yX6_waits, Cond.selects RX6 yX6_waits yX6_waits, Cond.code yX6_waits cX6_waits 2 (some .int), Cond.methodLink RL 87 yX5_weigh, Cond.instanceMethod yX5_weigh, Cond.selects RX5 yX5_weigh yX5_weigh]
def wsL_law_r27 : List Cond := [Cond.code yX5_weigh cX5_weigh 3 (some .int), Cond.methodLink RX5 112 yX0_told, Cond.methodLink RL 90 yX6_weigh, Cond.instanceMethod yX6_weigh, Cond.selects RX6 yX6_weigh yX6_weigh, Cond.code yX6_weigh cX6_weigh 3 (some .int), Cond.methodLink RL 91 yX5_reason, Cond.instanceMethod yX5_reason, Cond.selects RX5 yX5_reason yX5_reason, Cond.code yX5_reason cX5_reason 3 (some .int), Cond.methodLink RX5 115 yX0_errorIfNotWaiting, Cond.instanceMethod yX0_errorIfNotWaiting, Cond.selects RX0 yX0_errorIfNotWaiting yX0_errorIfNotWaiting, Cond.code yX0_errorIfNotWaiting cX0_errorIfNotWaiting 2 (some .int), Cond.methodLink RX5 118 yX0_paymentFor, Cond.methodLink RX5 121 yX0_hindrance, Cond.methodLink RL 94 yX6_reason, Cond.instanceMethod yX6_reason, Cond.selects RX6 yX6_reason yX6_reason, Cond.code yX6_reason cX6_reason 5 (some .int), Cond.methodLink RL 95 yX5_settledIn, Cond.instanceMethod yX5_settledIn, Cond.selects RX5 yX5_settledIn yX5_settledIn, Cond.code yX5_settledIn cX5_settledIn 4 (some .int)]
def wsL_law_r28 : List Cond := [Cond.methodLink RX5 124 yX0_playRound, Cond.methodLink RL 98 yX6_settledIn, Cond.instanceMethod yX6_settledIn, Cond.selects RX6 yX6_settledIn yX6_settledIn, Cond.code yX6_settledIn cX6_settledIn 4 (some .int), Cond.methodLink RL 99 yX5_ifRounds, Cond.instanceMethod yX5_ifRounds, Cond.selects RX5 yX5_ifRounds yX5_ifRounds, Cond.code yX5_ifRounds cX5_ifRounds 5 (some .int), Cond.methodLink RL 103 yX6_ifRounds, Cond.instanceMethod yX6_ifRounds, Cond.selects RX6 yX6_ifRounds yX6_ifRounds, Cond.code yX6_ifRounds cX6_ifRounds 4 (some .int), Cond.methodLink RL 104 yX5_richest, Cond.instanceMethod yX5_richest, Cond.selects RX5 yX5_richest yX5_richest, Cond.code yX5_richest cX5_richest 1 (some .int), Cond.methodLink RX5 127 yX0_richestTrader, Cond.instanceMethod yX0_richestTrader, Cond.selects RX0 yX0_richestTrader yX0_richestTrader, Cond.code yX0_richestTrader cX0_richestTrader 3 (some .int), Cond.methodLink RL 107 yX6_richest, Cond.instanceMethod yX6_richest, Cond.selects RX6 yX6_richest yX6_richest]
def wsL_law_r29 : List Cond := [Cond.code yX6_richest cX6_richest 3 (some .int), Cond.methodLink RL 108 yX5_account, Cond.instanceMethod yX5_account, Cond.selects RX5 yX5_account yX5_account, Cond.code yX5_account cX5_account 2 (some .int), Cond.methodLink RX5 130 yX0_tellAccount, Cond.instanceMethod yX0_tellAccount, Cond.selects RX0 yX0_tellAccount yX0_tellAccount, Cond.code yX0_tellAccount cX0_tellAccount 5 (some .int), Cond.constant RX0 144 (100000), Cond.methodLink RL 111 yX6_account, Cond.instanceMethod yX6_account, Cond.selects RX6 yX6_account yX6_account, Cond.code yX6_account cX6_account 4 (some .int), Cond.constant RX6 185 (100100), Cond.methodLink RL 112 yX5_count, Cond.instanceMethod yX5_count, Cond.selects RX5 yX5_count yX5_count, Cond.code yX5_count cX5_count 2 (some .int), Cond.methodLink RX5 133 yX1_size, Cond.instanceMethod yX1_size, Cond.selects RX1 yX1_size yX1_size, Cond.code yX1_size cX1_size 1 (some .int), Cond.methodLink RX5 136 yX2_textLength]
def wsL_law_r30 : List Cond := [Cond.instanceMethod yX2_textLength, Cond.selects RX2 yX2_textLength yX2_textLength, Cond.code yX2_textLength cX2_textLength 1 (some .int), Cond.methodLink RX5 139 yX0_tellCount, Cond.instanceMethod yX0_tellCount, Cond.selects RX0 yX0_tellCount yX0_tellCount, Cond.code yX0_tellCount cX0_tellCount 2 (some .int), Cond.methodLink RX0 145 yX4_sumOf, Cond.instanceMethod yX4_sumOf, Cond.selects RX4 yX4_sumOf yX4_sumOf, Cond.code yX4_sumOf cX4_sumOf 4 (some .int), Cond.methodLink RX0 148 yX0_tradersInDebt, Cond.instanceMethod yX0_tradersInDebt, Cond.selects RX0 yX0_tradersInDebt yX0_tradersInDebt, Cond.code yX0_tradersInDebt cX0_tradersInDebt 3 (some .int), Cond.methodLink RL 115 yX6_count, Cond.instanceMethod yX6_count, Cond.selects RX6 yX6_count yX6_count, Cond.code yX6_count cX6_count 2 (some .int), Cond.methodLink RX6 186 yX6_open, Cond.instanceMethod yX6_open, Cond.selects RX6 yX6_open yX6_open, Cond.code yX6_open cX6_open 3 (some .int), Cond.methodLink RX6 189 yX6_debtors]
def wsL_law_r31 : List Cond := [Cond.instanceMethod yX6_debtors, Cond.selects RX6 yX6_debtors yX6_debtors, Cond.code yX6_debtors cX6_debtors 3 (some .int)]
def wsL_law : List Cond := (wsL_law_r1 ++ (wsL_law_r2 ++ (wsL_law_r3 ++ (wsL_law_r4 ++ (wsL_law_r5 ++ (wsL_law_r6 ++ (wsL_law_r7 ++ (wsL_law_r8 ++ (wsL_law_r9 ++ (wsL_law_r10 ++ (wsL_law_r11 ++ (wsL_law_r12 ++ (wsL_law_r13 ++ (wsL_law_r14 ++ (wsL_law_r15 ++ (wsL_law_r16 ++ (wsL_law_r17 ++ (wsL_law_r18 ++ (wsL_law_r19 ++ (wsL_law_r20 ++ (wsL_law_r21 ++ (wsL_law_r22 ++ (wsL_law_r23 ++ (wsL_law_r24 ++ (wsL_law_r25 ++ (wsL_law_r26 ++ (wsL_law_r27 ++ (wsL_law_r28 ++ (wsL_law_r29 ++ (wsL_law_r30 ++ wsL_law_r31)))))))))))))))))))))))))))))) ++ wsX50 ++ wsX60 ++ wsX00 ++ wsX10 ++ wsX20 ++ wsX40 ++ wsX30 ++ ([] : List Cond)
abbrev vwCl : List vw_C := [(RX0, TX0, 7), (RX1, TX1, 3), (RX2, TX2, 5), (RX3, TX3, 3), (RX4, TX4, 3), (RX5, TX5, 8), (RX6, TX6, 18)]
end
section
set_option maxRecDepth 20000 in
theorem ggX0_init_X4_init : GoodIn wsX0_init wsX4_init := goodIn_r _ [19, 20, 2, 3, 21, 22, 41, 42, 43] (by decide +kernel) (by decide +kernel)
set_option maxRecDepth 20000 in
theorem gX0_init_X4_init : GoodIn wsX0_init (wsX4_init) := ggX0_init_X4_init
set_option maxRecDepth 20000 in
theorem ggX0_init_X3_init : GoodIn wsX0_init wsX3_init := goodIn_r _ [24, 25, 2, 3, 7, 26, 51, 52, 53] (by decide +kernel) (by decide +kernel)
set_option maxRecDepth 20000 in
theorem gX0_init_X3_init_n34 : GoodIn wsX0_init (wsX3_init) := ggX0_init_X3_init
set_option maxRecDepth 20000 in
theorem ggX0_init_X4_addRow : GoodIn wsX0_init wsX4_addRow := goodIn_r _ [30, 31, 41, 42, 43] (by decide +kernel) (by decide +kernel)
set_option maxRecDepth 20000 in
theorem gX0_init_X4_addRow : GoodIn wsX0_init (wsV RX0 39 RX4 yX4_addRow wsX4_addRow) := goodIn_app (goodIn_of _ (by decide +kernel)) ggX0_init_X4_addRow
set_option maxRecDepth 20000 in
theorem ggX0_init_X4_put : GoodIn wsX0_init wsX4_put := goodIn_r _ [35, 22, 21, 41, 42, 43] (by decide +kernel) (by decide +kernel)
set_option maxRecDepth 20000 in
theorem gX0_init_X4_put : GoodIn wsX0_init (wsV RX0 43 RX4 yX4_put wsX4_put) := goodIn_app (goodIn_of _ (by decide +kernel)) ggX0_init_X4_put
set_option maxRecDepth 20000 in
theorem ggX0_init_X0_addSetting : GoodIn wsX0_init wsX0_addSetting := goodIn_r _ [40, 12, 27, 28, 29, 6, 30, 31, 32, 33, 34, 35, 22, 21, 44, 45, 46, 47, 48, 49, 50, 41, 42, 43] (by decide +kernel) (by decide +kernel)
set_option maxRecDepth 20000 in
theorem gX0_init_X0_addSetting : GoodIn wsX0_init (wsV RX0 47 RX0 yX0_addSetting wsX0_addSetting) := goodIn_app (goodIn_of _ (by decide +kernel)) ggX0_init_X0_addSetting
theorem dX0_init_0 : decode cX0_init 0 = .ok (.aload_n 0, 1) := by decide +kernel
theorem dX0_init_1 : decode cX0_init 1 = .ok (.invokespecial 3, 3) := by decide +kernel
theorem dX0_init_4 : decode cX0_init 4 = .ok (.aload_n 0, 1) := by decide +kernel
theorem dX0_init_5 : decode cX0_init 5 = .ok (.new 9, 3) := by decide +kernel
theorem dX0_init_8 : decode cX0_init 8 = .ok (.dup, 1) := by decide +kernel
theorem dX0_init_9 : decode cX0_init 9 = .ok (.bipush 16, 2) := by decide +kernel
theorem dX0_init_11 : decode cX0_init 11 = .ok (.newarray .int, 2) := by decide +kernel
theorem dX0_init_13 : decode cX0_init 13 = .ok (.iconst 2, 1) := by decide +kernel
theorem dX0_init_14 : decode cX0_init 14 = .ok (.invokespecial 13, 3) := by decide +kernel
theorem dX0_init_17 : decode cX0_init 17 = .ok (.putfield 16, 3) := by decide +kernel
theorem dX0_init_20 : decode cX0_init 20 = .ok (.aload_n 0, 1) := by decide +kernel
theorem dX0_init_21 : decode cX0_init 21 = .ok (.new 9, 3) := by decide +kernel
theorem dX0_init_24 : decode cX0_init 24 = .ok (.dup, 1) := by decide +kernel
theorem dX0_init_25 : decode cX0_init 25 = .ok (.bipush 80, 2) := by decide +kernel
theorem dX0_init_27 : decode cX0_init 27 = .ok (.newarray .int, 2) := by decide +kernel
theorem dX0_init_29 : decode cX0_init 29 = .ok (.iconst 4, 1) := by decide +kernel
theorem dX0_init_30 : decode cX0_init 30 = .ok (.invokespecial 13, 3) := by decide +kernel
theorem dX0_init_33 : decode cX0_init 33 = .ok (.putfield 20, 3) := by decide +kernel
theorem dX0_init_36 : decode cX0_init 36 = .ok (.aload_n 0, 1) := by decide +kernel
theorem dX0_init_37 : decode cX0_init 37 = .ok (.new 9, 3) := by decide +kernel
theorem dX0_init_40 : decode cX0_init 40 = .ok (.dup, 1) := by decide +kernel
theorem dX0_init_41 : decode cX0_init 41 = .ok (.sipush 320, 3) := by decide +kernel
theorem dX0_init_44 : decode cX0_init 44 = .ok (.newarray .int, 2) := by decide +kernel
theorem dX0_init_46 : decode cX0_init 46 = .ok (.bipush 8, 2) := by decide +kernel
theorem dX0_init_48 : decode cX0_init 48 = .ok (.invokespecial 13, 3) := by decide +kernel
theorem dX0_init_51 : decode cX0_init 51 = .ok (.putfield 23, 3) := by decide +kernel
theorem dX0_init_54 : decode cX0_init 54 = .ok (.aload_n 0, 1) := by decide +kernel
theorem dX0_init_55 : decode cX0_init 55 = .ok (.new 9, 3) := by decide +kernel
theorem dX0_init_58 : decode cX0_init 58 = .ok (.dup, 1) := by decide +kernel
theorem dX0_init_59 : decode cX0_init 59 = .ok (.iconst 4, 1) := by decide +kernel
theorem dX0_init_60 : decode cX0_init 60 = .ok (.newarray .int, 2) := by decide +kernel
theorem dX0_init_62 : decode cX0_init 62 = .ok (.iconst 2, 1) := by decide +kernel
theorem dX0_init_63 : decode cX0_init 63 = .ok (.invokespecial 13, 3) := by decide +kernel
theorem dX0_init_66 : decode cX0_init 66 = .ok (.putfield 26, 3) := by decide +kernel
theorem dX0_init_69 : decode cX0_init 69 = .ok (.aload_n 0, 1) := by decide +kernel
theorem dX0_init_70 : decode cX0_init 70 = .ok (.new 9, 3) := by decide +kernel
theorem dX0_init_73 : decode cX0_init 73 = .ok (.dup, 1) := by decide +kernel
theorem dX0_init_74 : decode cX0_init 74 = .ok (.bipush 12, 2) := by decide +kernel
theorem dX0_init_76 : decode cX0_init 76 = .ok (.newarray .int, 2) := by decide +kernel
theorem dX0_init_78 : decode cX0_init 78 = .ok (.iconst 3, 1) := by decide +kernel
theorem dX0_init_79 : decode cX0_init 79 = .ok (.invokespecial 13, 3) := by decide +kernel
theorem dX0_init_82 : decode cX0_init 82 = .ok (.putfield 29, 3) := by decide +kernel
theorem dX0_init_85 : decode cX0_init 85 = .ok (.aload_n 0, 1) := by decide +kernel
theorem dX0_init_86 : decode cX0_init 86 = .ok (.new 32, 3) := by decide +kernel
theorem dX0_init_89 : decode cX0_init 89 = .ok (.dup, 1) := by decide +kernel
theorem dX0_init_90 : decode cX0_init 90 = .ok (.invokespecial 34, 3) := by decide +kernel
theorem dX0_init_93 : decode cX0_init 93 = .ok (.putfield 35, 3) := by decide +kernel
theorem dX0_init_96 : decode cX0_init 96 = .ok (.iconst 0, 1) := by decide +kernel
theorem dX0_init_97 : decode cX0_init 97 = .ok (.istore_n 1, 1) := by decide +kernel
theorem dX0_init_98 : decode cX0_init 98 = .ok (.iload_n 1, 1) := by decide +kernel
theorem dX0_init_99 : decode cX0_init 99 = .ok (.bipush 8, 2) := by decide +kernel
theorem dX0_init_101 : decode cX0_init 101 = .ok (.if_icmp .ge 26, 3) := by decide +kernel
theorem dX0_init_104 : decode cX0_init 104 = .ok (.aload_n 0, 1) := by decide +kernel
theorem dX0_init_105 : decode cX0_init 105 = .ok (.getfield 16, 3) := by decide +kernel
theorem dX0_init_108 : decode cX0_init 108 = .ok (.aload_n 0, 1) := by decide +kernel
theorem dX0_init_109 : decode cX0_init 109 = .ok (.getfield 16, 3) := by decide +kernel
theorem dX0_init_112 : decode cX0_init 112 = .ok (.invokevirtual 39, 3) := by decide +kernel
theorem dX0_init_115 : decode cX0_init 115 = .ok (.iconst 0, 1) := by decide +kernel
theorem dX0_init_116 : decode cX0_init 116 = .ok (.bipush 100, 2) := by decide +kernel
theorem dX0_init_118 : decode cX0_init 118 = .ok (.invokevirtual 43, 3) := by decide +kernel
theorem dX0_init_121 : decode cX0_init 121 = .ok (.iinc 1 1, 3) := by decide +kernel
theorem dX0_init_124 : decode cX0_init 124 = .ok (.goto (-26), 3) := by decide +kernel
theorem dX0_init_127 : decode cX0_init 127 = .ok (.iconst 0, 1) := by decide +kernel
theorem dX0_init_128 : decode cX0_init 128 = .ok (.istore_n 1, 1) := by decide +kernel
theorem dX0_init_129 : decode cX0_init 129 = .ok (.iload_n 1, 1) := by decide +kernel
theorem dX0_init_130 : decode cX0_init 130 = .ok (.iconst 2, 1) := by decide +kernel
theorem dX0_init_131 : decode cX0_init 131 = .ok (.if_icmp .ge 17, 3) := by decide +kernel
theorem dX0_init_134 : decode cX0_init 134 = .ok (.aload_n 0, 1) := by decide +kernel
theorem dX0_init_135 : decode cX0_init 135 = .ok (.getfield 26, 3) := by decide +kernel
theorem dX0_init_138 : decode cX0_init 138 = .ok (.invokevirtual 39, 3) := by decide +kernel
theorem dX0_init_141 : decode cX0_init 141 = .ok (.pop, 1) := by decide +kernel
theorem dX0_init_142 : decode cX0_init 142 = .ok (.iinc 1 1, 3) := by decide +kernel
theorem dX0_init_145 : decode cX0_init 145 = .ok (.goto (-16), 3) := by decide +kernel
theorem dX0_init_148 : decode cX0_init 148 = .ok (.aload_n 0, 1) := by decide +kernel
theorem dX0_init_149 : decode cX0_init 149 = .ok (.iconst 2, 1) := by decide +kernel
theorem dX0_init_150 : decode cX0_init 150 = .ok (.iconst 0, 1) := by decide +kernel
theorem dX0_init_151 : decode cX0_init 151 = .ok (.bipush 9, 2) := by decide +kernel
theorem dX0_init_153 : decode cX0_init 153 = .ok (.invokevirtual 47, 3) := by decide +kernel
theorem dX0_init_156 : decode cX0_init 156 = .ok (.aload_n 0, 1) := by decide +kernel
theorem dX0_init_157 : decode cX0_init 157 = .ok (.iconst 4, 1) := by decide +kernel
theorem dX0_init_158 : decode cX0_init 158 = .ok (.iconst 0, 1) := by decide +kernel
theorem dX0_init_159 : decode cX0_init 159 = .ok (.bipush 9, 2) := by decide +kernel
theorem dX0_init_161 : decode cX0_init 161 = .ok (.invokevirtual 47, 3) := by decide +kernel
theorem dX0_init_164 : decode cX0_init 164 = .ok (.aload_n 0, 1) := by decide +kernel
theorem dX0_init_165 : decode cX0_init 165 = .ok (.iconst 3, 1) := by decide +kernel
theorem dX0_init_166 : decode cX0_init 166 = .ok (.iconst 1, 1) := by decide +kernel
theorem dX0_init_167 : decode cX0_init 167 = .ok (.bipush 9, 2) := by decide +kernel
theorem dX0_init_169 : decode cX0_init 169 = .ok (.invokevirtual 47, 3) := by decide +kernel
theorem dX0_init_172 : decode cX0_init 172 = .ok (.aload_n 0, 1) := by decide +kernel
theorem dX0_init_173 : decode cX0_init 173 = .ok (.bipush 50, 2) := by decide +kernel
theorem dX0_init_175 : decode cX0_init 175 = .ok (.iconst 0, 1) := by decide +kernel
theorem dX0_init_176 : decode cX0_init 176 = .ok (.sipush 500, 3) := by decide +kernel
theorem dX0_init_179 : decode cX0_init 179 = .ok (.invokevirtual 47, 3) := by decide +kernel
theorem dX0_init_182 : decode cX0_init 182 = .ok (.return_, 1) := by decide +kernel
set_option maxRecDepth 20000 in
theorem ggX0_addSetting_X4_addRow : GoodIn wsX0_addSetting wsX4_addRow := goodIn_r _ [6, 7, 21, 22, 23] (by decide +kernel) (by decide +kernel)
set_option maxRecDepth 20000 in
theorem gX0_addSetting_X4_addRow : GoodIn wsX0_addSetting (wsV RX0 39 RX4 yX4_addRow wsX4_addRow) := goodIn_app (goodIn_of _ (by decide +kernel)) ggX0_addSetting_X4_addRow
set_option maxRecDepth 20000 in
theorem ggX0_addSetting_X4_put : GoodIn wsX0_addSetting wsX4_put := goodIn_r _ [11, 12, 13, 21, 22, 23] (by decide +kernel) (by decide +kernel)
set_option maxRecDepth 20000 in
theorem gX0_addSetting_X4_put : GoodIn wsX0_addSetting (wsV RX0 43 RX4 yX4_put wsX4_put) := goodIn_app (goodIn_of _ (by decide +kernel)) ggX0_addSetting_X4_put
theorem dX0_addSetting_0 : decode cX0_addSetting 0 = .ok (.aload_n 0, 1) := by decide +kernel
theorem dX0_addSetting_1 : decode cX0_addSetting 1 = .ok (.getfield 29, 3) := by decide +kernel
theorem dX0_addSetting_4 : decode cX0_addSetting 4 = .ok (.invokevirtual 39, 3) := by decide +kernel
theorem dX0_addSetting_7 : decode cX0_addSetting 7 = .ok (.istore 4, 2) := by decide +kernel
theorem dX0_addSetting_9 : decode cX0_addSetting 9 = .ok (.aload_n 0, 1) := by decide +kernel
theorem dX0_addSetting_10 : decode cX0_addSetting 10 = .ok (.getfield 29, 3) := by decide +kernel
theorem dX0_addSetting_13 : decode cX0_addSetting 13 = .ok (.iload 4, 2) := by decide +kernel
theorem dX0_addSetting_15 : decode cX0_addSetting 15 = .ok (.iconst 0, 1) := by decide +kernel
theorem dX0_addSetting_16 : decode cX0_addSetting 16 = .ok (.iload_n 1, 1) := by decide +kernel
theorem dX0_addSetting_17 : decode cX0_addSetting 17 = .ok (.invokevirtual 43, 3) := by decide +kernel
theorem dX0_addSetting_20 : decode cX0_addSetting 20 = .ok (.aload_n 0, 1) := by decide +kernel
theorem dX0_addSetting_21 : decode cX0_addSetting 21 = .ok (.getfield 29, 3) := by decide +kernel
theorem dX0_addSetting_24 : decode cX0_addSetting 24 = .ok (.iload 4, 2) := by decide +kernel
theorem dX0_addSetting_26 : decode cX0_addSetting 26 = .ok (.iconst 1, 1) := by decide +kernel
theorem dX0_addSetting_27 : decode cX0_addSetting 27 = .ok (.iload_n 2, 1) := by decide +kernel
theorem dX0_addSetting_28 : decode cX0_addSetting 28 = .ok (.invokevirtual 43, 3) := by decide +kernel
theorem dX0_addSetting_31 : decode cX0_addSetting 31 = .ok (.aload_n 0, 1) := by decide +kernel
theorem dX0_addSetting_32 : decode cX0_addSetting 32 = .ok (.getfield 29, 3) := by decide +kernel
theorem dX0_addSetting_35 : decode cX0_addSetting 35 = .ok (.iload 4, 2) := by decide +kernel
theorem dX0_addSetting_37 : decode cX0_addSetting 37 = .ok (.iconst 2, 1) := by decide +kernel
theorem dX0_addSetting_38 : decode cX0_addSetting 38 = .ok (.iload_n 3, 1) := by decide +kernel
theorem dX0_addSetting_39 : decode cX0_addSetting 39 = .ok (.invokevirtual 43, 3) := by decide +kernel
theorem dX0_addSetting_42 : decode cX0_addSetting 42 = .ok (.return_, 1) := by decide +kernel
set_option maxRecDepth 20000 in
theorem ggX0_copyFrom_X4_copyFrom : GoodIn wsX0_copyFrom wsX4_copyFrom := goodIn_r _ [12, 13, 14, 15, 16, 17, 18, 19, 20, 21, 22, 40, 41, 42] (by decide +kernel) (by decide +kernel)
set_option maxRecDepth 20000 in
theorem gX0_copyFrom_X4_copyFrom : GoodIn wsX0_copyFrom (wsV RX0 50 RX4 yX4_copyFrom wsX4_copyFrom) := goodIn_app (goodIn_of _ (by decide +kernel)) ggX0_copyFrom_X4_copyFrom
set_option maxRecDepth 20000 in
theorem ggX0_copyFrom_X3_copyFrom : GoodIn wsX0_copyFrom wsX3_copyFrom := goodIn_r _ [27, 28, 29, 30, 31, 16, 17, 18, 32, 20, 21, 22, 43, 44, 45] (by decide +kernel) (by decide +kernel)
set_option maxRecDepth 20000 in
theorem gX0_copyFrom_X3_copyFrom : GoodIn wsX0_copyFrom (wsV RX0 54 RX3 yX3_copyFrom wsX3_copyFrom) := goodIn_app (goodIn_of _ (by decide +kernel)) ggX0_copyFrom_X3_copyFrom
theorem dX0_copyFrom_0 : decode cX0_copyFrom 0 = .ok (.aload_n 0, 1) := by decide +kernel
theorem dX0_copyFrom_1 : decode cX0_copyFrom 1 = .ok (.getfield 16, 3) := by decide +kernel
theorem dX0_copyFrom_4 : decode cX0_copyFrom 4 = .ok (.aload_n 1, 1) := by decide +kernel
theorem dX0_copyFrom_5 : decode cX0_copyFrom 5 = .ok (.getfield 16, 3) := by decide +kernel
theorem dX0_copyFrom_8 : decode cX0_copyFrom 8 = .ok (.invokevirtual 50, 3) := by decide +kernel
theorem dX0_copyFrom_11 : decode cX0_copyFrom 11 = .ok (.aload_n 0, 1) := by decide +kernel
theorem dX0_copyFrom_12 : decode cX0_copyFrom 12 = .ok (.getfield 20, 3) := by decide +kernel
theorem dX0_copyFrom_15 : decode cX0_copyFrom 15 = .ok (.aload_n 1, 1) := by decide +kernel
theorem dX0_copyFrom_16 : decode cX0_copyFrom 16 = .ok (.getfield 20, 3) := by decide +kernel
theorem dX0_copyFrom_19 : decode cX0_copyFrom 19 = .ok (.invokevirtual 50, 3) := by decide +kernel
theorem dX0_copyFrom_22 : decode cX0_copyFrom 22 = .ok (.aload_n 0, 1) := by decide +kernel
theorem dX0_copyFrom_23 : decode cX0_copyFrom 23 = .ok (.getfield 23, 3) := by decide +kernel
theorem dX0_copyFrom_26 : decode cX0_copyFrom 26 = .ok (.aload_n 1, 1) := by decide +kernel
theorem dX0_copyFrom_27 : decode cX0_copyFrom 27 = .ok (.getfield 23, 3) := by decide +kernel
theorem dX0_copyFrom_30 : decode cX0_copyFrom 30 = .ok (.invokevirtual 50, 3) := by decide +kernel
theorem dX0_copyFrom_33 : decode cX0_copyFrom 33 = .ok (.aload_n 0, 1) := by decide +kernel
theorem dX0_copyFrom_34 : decode cX0_copyFrom 34 = .ok (.getfield 26, 3) := by decide +kernel
theorem dX0_copyFrom_37 : decode cX0_copyFrom 37 = .ok (.aload_n 1, 1) := by decide +kernel
theorem dX0_copyFrom_38 : decode cX0_copyFrom 38 = .ok (.getfield 26, 3) := by decide +kernel
theorem dX0_copyFrom_41 : decode cX0_copyFrom 41 = .ok (.invokevirtual 50, 3) := by decide +kernel
theorem dX0_copyFrom_44 : decode cX0_copyFrom 44 = .ok (.aload_n 0, 1) := by decide +kernel
theorem dX0_copyFrom_45 : decode cX0_copyFrom 45 = .ok (.getfield 29, 3) := by decide +kernel
theorem dX0_copyFrom_48 : decode cX0_copyFrom 48 = .ok (.aload_n 1, 1) := by decide +kernel
theorem dX0_copyFrom_49 : decode cX0_copyFrom 49 = .ok (.getfield 29, 3) := by decide +kernel
theorem dX0_copyFrom_52 : decode cX0_copyFrom 52 = .ok (.invokevirtual 50, 3) := by decide +kernel
theorem dX0_copyFrom_55 : decode cX0_copyFrom 55 = .ok (.aload_n 0, 1) := by decide +kernel
theorem dX0_copyFrom_56 : decode cX0_copyFrom 56 = .ok (.getfield 35, 3) := by decide +kernel
theorem dX0_copyFrom_59 : decode cX0_copyFrom 59 = .ok (.aload_n 1, 1) := by decide +kernel
theorem dX0_copyFrom_60 : decode cX0_copyFrom 60 = .ok (.getfield 35, 3) := by decide +kernel
theorem dX0_copyFrom_63 : decode cX0_copyFrom 63 = .ok (.invokevirtual 54, 3) := by decide +kernel
theorem dX0_copyFrom_66 : decode cX0_copyFrom 66 = .ok (.aload_n 0, 1) := by decide +kernel
theorem dX0_copyFrom_67 : decode cX0_copyFrom 67 = .ok (.aload_n 1, 1) := by decide +kernel
theorem dX0_copyFrom_68 : decode cX0_copyFrom 68 = .ok (.getfield 57, 3) := by decide +kernel
theorem dX0_copyFrom_71 : decode cX0_copyFrom 71 = .ok (.putfield 57, 3) := by decide +kernel
theorem dX0_copyFrom_74 : decode cX0_copyFrom 74 = .ok (.return_, 1) := by decide +kernel
set_option maxRecDepth 20000 in
theorem ggX0_addRiddle_X4_has : GoodIn wsX0_addRiddle wsX4_has := goodIn_r _ [7, 8, 30, 31, 32] (by decide +kernel) (by decide +kernel)
set_option maxRecDepth 20000 in
theorem gX0_addRiddle_X4_has : GoodIn wsX0_addRiddle (wsV RX0 61 RX4 yX4_has wsX4_has) := goodIn_app (goodIn_of _ (by decide +kernel)) ggX0_addRiddle_X4_has
set_option maxRecDepth 20000 in
theorem ggX0_addRiddle_X4_rows : GoodIn wsX0_addRiddle wsX4_rows := goodIn_r _ [12, 8, 30, 31, 32] (by decide +kernel) (by decide +kernel)
set_option maxRecDepth 20000 in
theorem gX0_addRiddle_X4_rows : GoodIn wsX0_addRiddle (wsV RX0 65 RX4 yX4_rows wsX4_rows) := goodIn_app (goodIn_of _ (by decide +kernel)) ggX0_addRiddle_X4_rows
set_option maxRecDepth 20000 in
theorem ggX0_addRiddle_X4_addRow : GoodIn wsX0_addRiddle wsX4_addRow := goodIn_r _ [16, 8, 30, 31, 32] (by decide +kernel) (by decide +kernel)
set_option maxRecDepth 20000 in
theorem gX0_addRiddle_X4_addRow : GoodIn wsX0_addRiddle (wsV RX0 39 RX4 yX4_addRow wsX4_addRow) := goodIn_app (goodIn_of _ (by decide +kernel)) ggX0_addRiddle_X4_addRow
set_option maxRecDepth 20000 in
theorem ggX0_addRiddle_X4_put : GoodIn wsX0_addRiddle wsX4_put := goodIn_r _ [20, 21, 22, 30, 31, 32] (by decide +kernel) (by decide +kernel)
set_option maxRecDepth 20000 in
theorem gX0_addRiddle_X4_put : GoodIn wsX0_addRiddle (wsV RX0 43 RX4 yX4_put wsX4_put) := goodIn_app (goodIn_of _ (by decide +kernel)) ggX0_addRiddle_X4_put
theorem dX0_addRiddle_0 : decode cX0_addRiddle 0 = .ok (.aload_n 0, 1) := by decide +kernel
theorem dX0_addRiddle_1 : decode cX0_addRiddle 1 = .ok (.getfield 16, 3) := by decide +kernel
theorem dX0_addRiddle_4 : decode cX0_addRiddle 4 = .ok (.iload_n 1, 1) := by decide +kernel
theorem dX0_addRiddle_5 : decode cX0_addRiddle 5 = .ok (.invokevirtual 61, 3) := by decide +kernel
theorem dX0_addRiddle_8 : decode cX0_addRiddle 8 = .ok (.ifCond .ne 5, 3) := by decide +kernel
theorem dX0_addRiddle_11 : decode cX0_addRiddle 11 = .ok (.iconst (-1), 1) := by decide +kernel
theorem dX0_addRiddle_12 : decode cX0_addRiddle 12 = .ok (.ireturn, 1) := by decide +kernel
theorem dX0_addRiddle_13 : decode cX0_addRiddle 13 = .ok (.iload_n 2, 1) := by decide +kernel
theorem dX0_addRiddle_14 : decode cX0_addRiddle 14 = .ok (.iconst 1, 1) := by decide +kernel
theorem dX0_addRiddle_15 : decode cX0_addRiddle 15 = .ok (.if_icmp .lt 19, 3) := by decide +kernel
theorem dX0_addRiddle_18 : decode cX0_addRiddle 18 = .ok (.iload_n 2, 1) := by decide +kernel
theorem dX0_addRiddle_19 : decode cX0_addRiddle 19 = .ok (.bipush 50, 2) := by decide +kernel
theorem dX0_addRiddle_21 : decode cX0_addRiddle 21 = .ok (.if_icmp .gt 13, 3) := by decide +kernel
theorem dX0_addRiddle_24 : decode cX0_addRiddle 24 = .ok (.iload_n 3, 1) := by decide +kernel
theorem dX0_addRiddle_25 : decode cX0_addRiddle 25 = .ok (.ifCond .lt 9, 3) := by decide +kernel
theorem dX0_addRiddle_28 : decode cX0_addRiddle 28 = .ok (.iload_n 3, 1) := by decide +kernel
theorem dX0_addRiddle_29 : decode cX0_addRiddle 29 = .ok (.bipush 99, 2) := by decide +kernel
theorem dX0_addRiddle_31 : decode cX0_addRiddle 31 = .ok (.if_icmp .le 6, 3) := by decide +kernel
theorem dX0_addRiddle_34 : decode cX0_addRiddle 34 = .ok (.bipush (-2), 2) := by decide +kernel
theorem dX0_addRiddle_36 : decode cX0_addRiddle 36 = .ok (.ireturn, 1) := by decide +kernel
theorem dX0_addRiddle_37 : decode cX0_addRiddle 37 = .ok (.aload_n 0, 1) := by decide +kernel
theorem dX0_addRiddle_38 : decode cX0_addRiddle 38 = .ok (.getfield 20, 3) := by decide +kernel
theorem dX0_addRiddle_41 : decode cX0_addRiddle 41 = .ok (.invokevirtual 65, 3) := by decide +kernel
theorem dX0_addRiddle_44 : decode cX0_addRiddle 44 = .ok (.bipush 20, 2) := by decide +kernel
theorem dX0_addRiddle_46 : decode cX0_addRiddle 46 = .ok (.if_icmp .lt 6, 3) := by decide +kernel
theorem dX0_addRiddle_49 : decode cX0_addRiddle 49 = .ok (.bipush (-3), 2) := by decide +kernel
theorem dX0_addRiddle_51 : decode cX0_addRiddle 51 = .ok (.ireturn, 1) := by decide +kernel
theorem dX0_addRiddle_52 : decode cX0_addRiddle 52 = .ok (.aload_n 0, 1) := by decide +kernel
theorem dX0_addRiddle_53 : decode cX0_addRiddle 53 = .ok (.getfield 20, 3) := by decide +kernel
theorem dX0_addRiddle_56 : decode cX0_addRiddle 56 = .ok (.invokevirtual 39, 3) := by decide +kernel
theorem dX0_addRiddle_59 : decode cX0_addRiddle 59 = .ok (.istore 4, 2) := by decide +kernel
theorem dX0_addRiddle_61 : decode cX0_addRiddle 61 = .ok (.aload_n 0, 1) := by decide +kernel
theorem dX0_addRiddle_62 : decode cX0_addRiddle 62 = .ok (.getfield 20, 3) := by decide +kernel
theorem dX0_addRiddle_65 : decode cX0_addRiddle 65 = .ok (.iload 4, 2) := by decide +kernel
theorem dX0_addRiddle_67 : decode cX0_addRiddle 67 = .ok (.iconst 0, 1) := by decide +kernel
theorem dX0_addRiddle_68 : decode cX0_addRiddle 68 = .ok (.iload_n 1, 1) := by decide +kernel
theorem dX0_addRiddle_69 : decode cX0_addRiddle 69 = .ok (.invokevirtual 43, 3) := by decide +kernel
theorem dX0_addRiddle_72 : decode cX0_addRiddle 72 = .ok (.aload_n 0, 1) := by decide +kernel
theorem dX0_addRiddle_73 : decode cX0_addRiddle 73 = .ok (.getfield 20, 3) := by decide +kernel
theorem dX0_addRiddle_76 : decode cX0_addRiddle 76 = .ok (.iload 4, 2) := by decide +kernel
theorem dX0_addRiddle_78 : decode cX0_addRiddle 78 = .ok (.iconst 1, 1) := by decide +kernel
theorem dX0_addRiddle_79 : decode cX0_addRiddle 79 = .ok (.iload_n 2, 1) := by decide +kernel
theorem dX0_addRiddle_80 : decode cX0_addRiddle 80 = .ok (.invokevirtual 43, 3) := by decide +kernel
theorem dX0_addRiddle_83 : decode cX0_addRiddle 83 = .ok (.aload_n 0, 1) := by decide +kernel
theorem dX0_addRiddle_84 : decode cX0_addRiddle 84 = .ok (.getfield 20, 3) := by decide +kernel
theorem dX0_addRiddle_87 : decode cX0_addRiddle 87 = .ok (.iload 4, 2) := by decide +kernel
theorem dX0_addRiddle_89 : decode cX0_addRiddle 89 = .ok (.iconst 2, 1) := by decide +kernel
theorem dX0_addRiddle_90 : decode cX0_addRiddle 90 = .ok (.iload_n 3, 1) := by decide +kernel
theorem dX0_addRiddle_91 : decode cX0_addRiddle 91 = .ok (.invokevirtual 43, 3) := by decide +kernel
theorem dX0_addRiddle_94 : decode cX0_addRiddle 94 = .ok (.aload_n 0, 1) := by decide +kernel
theorem dX0_addRiddle_95 : decode cX0_addRiddle 95 = .ok (.getfield 20, 3) := by decide +kernel
theorem dX0_addRiddle_98 : decode cX0_addRiddle 98 = .ok (.iload 4, 2) := by decide +kernel
theorem dX0_addRiddle_100 : decode cX0_addRiddle 100 = .ok (.iconst 3, 1) := by decide +kernel
theorem dX0_addRiddle_101 : decode cX0_addRiddle 101 = .ok (.iconst 0, 1) := by decide +kernel
theorem dX0_addRiddle_102 : decode cX0_addRiddle 102 = .ok (.invokevirtual 43, 3) := by decide +kernel
theorem dX0_addRiddle_105 : decode cX0_addRiddle 105 = .ok (.iload 4, 2) := by decide +kernel
theorem dX0_addRiddle_107 : decode cX0_addRiddle 107 = .ok (.ireturn, 1) := by decide +kernel
set_option maxRecDepth 20000 in
theorem ggX0_closeRiddle_X4_has : GoodIn wsX0_closeRiddle wsX4_has := goodIn_r _ [7, 8, 31, 32, 33] (by decide +kernel) (by decide +kernel)
set_option maxRecDepth 20000 in
theorem gX0_closeRiddle_X4_has : GoodIn wsX0_closeRiddle (wsV RX0 61 RX4 yX4_has wsX4_has) := goodIn_app (goodIn_of _ (by decide +kernel)) ggX0_closeRiddle_X4_has
set_option maxRecDepth 20000 in
theorem ggX0_closeRiddle_X4_get : GoodIn wsX0_closeRiddle wsX4_get := goodIn_r _ [12, 13, 14, 31, 32, 33] (by decide +kernel) (by decide +kernel)
set_option maxRecDepth 20000 in
theorem gX0_closeRiddle_X4_get : GoodIn wsX0_closeRiddle (wsV RX0 68 RX4 yX4_get wsX4_get) := goodIn_app (goodIn_of _ (by decide +kernel)) ggX0_closeRiddle_X4_get
set_option maxRecDepth 20000 in
theorem ggX0_closeRiddle_X4_put : GoodIn wsX0_closeRiddle wsX4_put := goodIn_r _ [18, 13, 14, 31, 32, 33] (by decide +kernel) (by decide +kernel)
set_option maxRecDepth 20000 in
theorem gX0_closeRiddle_X4_put : GoodIn wsX0_closeRiddle (wsV RX0 43 RX4 yX4_put wsX4_put) := goodIn_app (goodIn_of _ (by decide +kernel)) ggX0_closeRiddle_X4_put
set_option maxRecDepth 20000 in
theorem ggX0_closeRiddle_X4_countOfBoth : GoodIn wsX0_closeRiddle wsX4_countOfBoth := goodIn_r _ [22, 8, 23, 10, 11, 6, 12, 13, 14, 31, 32, 33] (by decide +kernel) (by decide +kernel)
set_option maxRecDepth 20000 in
theorem gX0_closeRiddle_X4_countOfBoth : GoodIn wsX0_closeRiddle (wsV RX0 72 RX4 yX4_countOfBoth wsX4_countOfBoth) := goodIn_app (goodIn_of _ (by decide +kernel)) ggX0_closeRiddle_X4_countOfBoth
theorem dX0_closeRiddle_0 : decode cX0_closeRiddle 0 = .ok (.aload_n 0, 1) := by decide +kernel
theorem dX0_closeRiddle_1 : decode cX0_closeRiddle 1 = .ok (.getfield 20, 3) := by decide +kernel
theorem dX0_closeRiddle_4 : decode cX0_closeRiddle 4 = .ok (.iload_n 1, 1) := by decide +kernel
theorem dX0_closeRiddle_5 : decode cX0_closeRiddle 5 = .ok (.invokevirtual 61, 3) := by decide +kernel
theorem dX0_closeRiddle_8 : decode cX0_closeRiddle 8 = .ok (.ifCond .ne 5, 3) := by decide +kernel
theorem dX0_closeRiddle_11 : decode cX0_closeRiddle 11 = .ok (.iconst (-1), 1) := by decide +kernel
theorem dX0_closeRiddle_12 : decode cX0_closeRiddle 12 = .ok (.ireturn, 1) := by decide +kernel
theorem dX0_closeRiddle_13 : decode cX0_closeRiddle 13 = .ok (.aload_n 0, 1) := by decide +kernel
theorem dX0_closeRiddle_14 : decode cX0_closeRiddle 14 = .ok (.getfield 20, 3) := by decide +kernel
theorem dX0_closeRiddle_17 : decode cX0_closeRiddle 17 = .ok (.iload_n 1, 1) := by decide +kernel
theorem dX0_closeRiddle_18 : decode cX0_closeRiddle 18 = .ok (.iconst 3, 1) := by decide +kernel
theorem dX0_closeRiddle_19 : decode cX0_closeRiddle 19 = .ok (.invokevirtual 68, 3) := by decide +kernel
theorem dX0_closeRiddle_22 : decode cX0_closeRiddle 22 = .ok (.ifCond .eq 6, 3) := by decide +kernel
theorem dX0_closeRiddle_25 : decode cX0_closeRiddle 25 = .ok (.bipush (-4), 2) := by decide +kernel
theorem dX0_closeRiddle_27 : decode cX0_closeRiddle 27 = .ok (.ireturn, 1) := by decide +kernel
theorem dX0_closeRiddle_28 : decode cX0_closeRiddle 28 = .ok (.aload_n 0, 1) := by decide +kernel
theorem dX0_closeRiddle_29 : decode cX0_closeRiddle 29 = .ok (.getfield 20, 3) := by decide +kernel
theorem dX0_closeRiddle_32 : decode cX0_closeRiddle 32 = .ok (.iload_n 1, 1) := by decide +kernel
theorem dX0_closeRiddle_33 : decode cX0_closeRiddle 33 = .ok (.iconst 3, 1) := by decide +kernel
theorem dX0_closeRiddle_34 : decode cX0_closeRiddle 34 = .ok (.iconst 2, 1) := by decide +kernel
theorem dX0_closeRiddle_35 : decode cX0_closeRiddle 35 = .ok (.invokevirtual 43, 3) := by decide +kernel
theorem dX0_closeRiddle_38 : decode cX0_closeRiddle 38 = .ok (.aload_n 0, 1) := by decide +kernel
theorem dX0_closeRiddle_39 : decode cX0_closeRiddle 39 = .ok (.getfield 23, 3) := by decide +kernel
theorem dX0_closeRiddle_42 : decode cX0_closeRiddle 42 = .ok (.iconst 1, 1) := by decide +kernel
theorem dX0_closeRiddle_43 : decode cX0_closeRiddle 43 = .ok (.iload_n 1, 1) := by decide +kernel
theorem dX0_closeRiddle_44 : decode cX0_closeRiddle 44 = .ok (.iconst 4, 1) := by decide +kernel
theorem dX0_closeRiddle_45 : decode cX0_closeRiddle 45 = .ok (.iconst 0, 1) := by decide +kernel
theorem dX0_closeRiddle_46 : decode cX0_closeRiddle 46 = .ok (.invokevirtual 72, 3) := by decide +kernel
theorem dX0_closeRiddle_49 : decode cX0_closeRiddle 49 = .ok (.ireturn, 1) := by decide +kernel
set_option maxRecDepth 20000 in
theorem ggX0_addAnswer_X4_has : GoodIn wsX0_addAnswer wsX4_has := goodIn_r _ [9, 10, 44, 45, 46] (by decide +kernel) (by decide +kernel)
set_option maxRecDepth 20000 in
theorem gX0_addAnswer_X4_has : GoodIn wsX0_addAnswer (wsV RX0 61 RX4 yX4_has wsX4_has) := goodIn_app (goodIn_of _ (by decide +kernel)) ggX0_addAnswer_X4_has
set_option maxRecDepth 20000 in
theorem ggX0_addAnswer_X4_get : GoodIn wsX0_addAnswer wsX4_get := goodIn_r _ [14, 15, 16, 44, 45, 46] (by decide +kernel) (by decide +kernel)
set_option maxRecDepth 20000 in
theorem gX0_addAnswer_X4_get : GoodIn wsX0_addAnswer (wsV RX0 68 RX4 yX4_get wsX4_get) := goodIn_app (goodIn_of _ (by decide +kernel)) ggX0_addAnswer_X4_get
set_option maxRecDepth 20000 in
theorem ggX0_addAnswer_X4_rows : GoodIn wsX0_addAnswer wsX4_rows := goodIn_r _ [20, 10, 44, 45, 46] (by decide +kernel) (by decide +kernel)
set_option maxRecDepth 20000 in
theorem gX0_addAnswer_X4_rows : GoodIn wsX0_addAnswer (wsV RX0 65 RX4 yX4_rows wsX4_rows) := goodIn_app (goodIn_of _ (by decide +kernel)) ggX0_addAnswer_X4_rows
set_option maxRecDepth 20000 in
theorem ggX0_addAnswer_X4_addRow : GoodIn wsX0_addAnswer wsX4_addRow := goodIn_r _ [24, 10, 44, 45, 46] (by decide +kernel) (by decide +kernel)
set_option maxRecDepth 20000 in
theorem gX0_addAnswer_X4_addRow : GoodIn wsX0_addAnswer (wsV RX0 39 RX4 yX4_addRow wsX4_addRow) := goodIn_app (goodIn_of _ (by decide +kernel)) ggX0_addAnswer_X4_addRow
set_option maxRecDepth 20000 in
theorem ggX0_addAnswer_X4_put : GoodIn wsX0_addAnswer wsX4_put := goodIn_r _ [28, 15, 16, 44, 45, 46] (by decide +kernel) (by decide +kernel)
set_option maxRecDepth 20000 in
theorem gX0_addAnswer_X4_put : GoodIn wsX0_addAnswer (wsV RX0 43 RX4 yX4_put wsX4_put) := goodIn_app (goodIn_of _ (by decide +kernel)) ggX0_addAnswer_X4_put
set_option maxRecDepth 20000 in
theorem ggX0_addAnswer_X3_addLast : GoodIn wsX0_addAnswer wsX3_addLast := goodIn_r _ [33, 34, 35, 36, 47, 48, 49] (by decide +kernel) (by decide +kernel)
set_option maxRecDepth 20000 in
theorem gX0_addAnswer_X3_addLast : GoodIn wsX0_addAnswer (wsV RX0 76 RX3 yX3_addLast wsX3_addLast) := goodIn_app (goodIn_of _ (by decide +kernel)) ggX0_addAnswer_X3_addLast
theorem dX0_addAnswer_0 : decode cX0_addAnswer 0 = .ok (.aload_n 0, 1) := by decide +kernel
theorem dX0_addAnswer_1 : decode cX0_addAnswer 1 = .ok (.getfield 16, 3) := by decide +kernel
theorem dX0_addAnswer_4 : decode cX0_addAnswer 4 = .ok (.iload_n 1, 1) := by decide +kernel
theorem dX0_addAnswer_5 : decode cX0_addAnswer 5 = .ok (.invokevirtual 61, 3) := by decide +kernel
theorem dX0_addAnswer_8 : decode cX0_addAnswer 8 = .ok (.ifCond .eq 14, 3) := by decide +kernel
theorem dX0_addAnswer_11 : decode cX0_addAnswer 11 = .ok (.aload_n 0, 1) := by decide +kernel
theorem dX0_addAnswer_12 : decode cX0_addAnswer 12 = .ok (.getfield 20, 3) := by decide +kernel
theorem dX0_addAnswer_15 : decode cX0_addAnswer 15 = .ok (.iload_n 2, 1) := by decide +kernel
theorem dX0_addAnswer_16 : decode cX0_addAnswer 16 = .ok (.invokevirtual 61, 3) := by decide +kernel
theorem dX0_addAnswer_19 : decode cX0_addAnswer 19 = .ok (.ifCond .ne 5, 3) := by decide +kernel
theorem dX0_addAnswer_22 : decode cX0_addAnswer 22 = .ok (.iconst (-1), 1) := by decide +kernel
theorem dX0_addAnswer_23 : decode cX0_addAnswer 23 = .ok (.ireturn, 1) := by decide +kernel
theorem dX0_addAnswer_24 : decode cX0_addAnswer 24 = .ok (.iload_n 3, 1) := by decide +kernel
theorem dX0_addAnswer_25 : decode cX0_addAnswer 25 = .ok (.ifCond .lt 22, 3) := by decide +kernel
theorem dX0_addAnswer_28 : decode cX0_addAnswer 28 = .ok (.iload_n 3, 1) := by decide +kernel
theorem dX0_addAnswer_29 : decode cX0_addAnswer 29 = .ok (.bipush 99, 2) := by decide +kernel
theorem dX0_addAnswer_31 : decode cX0_addAnswer 31 = .ok (.if_icmp .gt 16, 3) := by decide +kernel
theorem dX0_addAnswer_34 : decode cX0_addAnswer 34 = .ok (.iload 4, 2) := by decide +kernel
theorem dX0_addAnswer_36 : decode cX0_addAnswer 36 = .ok (.iconst 1, 1) := by decide +kernel
theorem dX0_addAnswer_37 : decode cX0_addAnswer 37 = .ok (.if_icmp .lt 10, 3) := by decide +kernel
theorem dX0_addAnswer_40 : decode cX0_addAnswer 40 = .ok (.iload 4, 2) := by decide +kernel
theorem dX0_addAnswer_42 : decode cX0_addAnswer 42 = .ok (.bipush 99, 2) := by decide +kernel
theorem dX0_addAnswer_44 : decode cX0_addAnswer 44 = .ok (.if_icmp .le 6, 3) := by decide +kernel
theorem dX0_addAnswer_47 : decode cX0_addAnswer 47 = .ok (.bipush (-2), 2) := by decide +kernel
theorem dX0_addAnswer_49 : decode cX0_addAnswer 49 = .ok (.ireturn, 1) := by decide +kernel
theorem dX0_addAnswer_50 : decode cX0_addAnswer 50 = .ok (.aload_n 0, 1) := by decide +kernel
theorem dX0_addAnswer_51 : decode cX0_addAnswer 51 = .ok (.getfield 20, 3) := by decide +kernel
theorem dX0_addAnswer_54 : decode cX0_addAnswer 54 = .ok (.iload_n 2, 1) := by decide +kernel
theorem dX0_addAnswer_55 : decode cX0_addAnswer 55 = .ok (.iconst 3, 1) := by decide +kernel
theorem dX0_addAnswer_56 : decode cX0_addAnswer 56 = .ok (.invokevirtual 68, 3) := by decide +kernel
theorem dX0_addAnswer_59 : decode cX0_addAnswer 59 = .ok (.ifCond .ne 16, 3) := by decide +kernel
theorem dX0_addAnswer_62 : decode cX0_addAnswer 62 = .ok (.aload_n 0, 1) := by decide +kernel
theorem dX0_addAnswer_63 : decode cX0_addAnswer 63 = .ok (.getfield 20, 3) := by decide +kernel
theorem dX0_addAnswer_66 : decode cX0_addAnswer 66 = .ok (.iload_n 2, 1) := by decide +kernel
theorem dX0_addAnswer_67 : decode cX0_addAnswer 67 = .ok (.iconst 0, 1) := by decide +kernel
theorem dX0_addAnswer_68 : decode cX0_addAnswer 68 = .ok (.invokevirtual 68, 3) := by decide +kernel
theorem dX0_addAnswer_71 : decode cX0_addAnswer 71 = .ok (.iload_n 1, 1) := by decide +kernel
theorem dX0_addAnswer_72 : decode cX0_addAnswer 72 = .ok (.if_icmp .ne 6, 3) := by decide +kernel
theorem dX0_addAnswer_75 : decode cX0_addAnswer 75 = .ok (.bipush (-4), 2) := by decide +kernel
theorem dX0_addAnswer_77 : decode cX0_addAnswer 77 = .ok (.ireturn, 1) := by decide +kernel
theorem dX0_addAnswer_78 : decode cX0_addAnswer 78 = .ok (.aload_n 0, 1) := by decide +kernel
theorem dX0_addAnswer_79 : decode cX0_addAnswer 79 = .ok (.getfield 23, 3) := by decide +kernel
theorem dX0_addAnswer_82 : decode cX0_addAnswer 82 = .ok (.invokevirtual 65, 3) := by decide +kernel
theorem dX0_addAnswer_85 : decode cX0_addAnswer 85 = .ok (.bipush 40, 2) := by decide +kernel
theorem dX0_addAnswer_87 : decode cX0_addAnswer 87 = .ok (.if_icmp .lt 6, 3) := by decide +kernel
theorem dX0_addAnswer_90 : decode cX0_addAnswer 90 = .ok (.bipush (-3), 2) := by decide +kernel
theorem dX0_addAnswer_92 : decode cX0_addAnswer 92 = .ok (.ireturn, 1) := by decide +kernel
theorem dX0_addAnswer_93 : decode cX0_addAnswer 93 = .ok (.aload_n 0, 1) := by decide +kernel
theorem dX0_addAnswer_94 : decode cX0_addAnswer 94 = .ok (.getfield 23, 3) := by decide +kernel
theorem dX0_addAnswer_97 : decode cX0_addAnswer 97 = .ok (.invokevirtual 39, 3) := by decide +kernel
theorem dX0_addAnswer_100 : decode cX0_addAnswer 100 = .ok (.istore 5, 2) := by decide +kernel
theorem dX0_addAnswer_102 : decode cX0_addAnswer 102 = .ok (.aload_n 0, 1) := by decide +kernel
theorem dX0_addAnswer_103 : decode cX0_addAnswer 103 = .ok (.getfield 23, 3) := by decide +kernel
theorem dX0_addAnswer_106 : decode cX0_addAnswer 106 = .ok (.iload 5, 2) := by decide +kernel
theorem dX0_addAnswer_108 : decode cX0_addAnswer 108 = .ok (.iconst 0, 1) := by decide +kernel
theorem dX0_addAnswer_109 : decode cX0_addAnswer 109 = .ok (.iload_n 1, 1) := by decide +kernel
theorem dX0_addAnswer_110 : decode cX0_addAnswer 110 = .ok (.invokevirtual 43, 3) := by decide +kernel
theorem dX0_addAnswer_113 : decode cX0_addAnswer 113 = .ok (.aload_n 0, 1) := by decide +kernel
theorem dX0_addAnswer_114 : decode cX0_addAnswer 114 = .ok (.getfield 23, 3) := by decide +kernel
theorem dX0_addAnswer_117 : decode cX0_addAnswer 117 = .ok (.iload 5, 2) := by decide +kernel
theorem dX0_addAnswer_119 : decode cX0_addAnswer 119 = .ok (.iconst 1, 1) := by decide +kernel
theorem dX0_addAnswer_120 : decode cX0_addAnswer 120 = .ok (.iload_n 2, 1) := by decide +kernel
theorem dX0_addAnswer_121 : decode cX0_addAnswer 121 = .ok (.invokevirtual 43, 3) := by decide +kernel
theorem dX0_addAnswer_124 : decode cX0_addAnswer 124 = .ok (.aload_n 0, 1) := by decide +kernel
theorem dX0_addAnswer_125 : decode cX0_addAnswer 125 = .ok (.getfield 23, 3) := by decide +kernel
theorem dX0_addAnswer_128 : decode cX0_addAnswer 128 = .ok (.iload 5, 2) := by decide +kernel
theorem dX0_addAnswer_130 : decode cX0_addAnswer 130 = .ok (.iconst 2, 1) := by decide +kernel
theorem dX0_addAnswer_131 : decode cX0_addAnswer 131 = .ok (.iload_n 3, 1) := by decide +kernel
theorem dX0_addAnswer_132 : decode cX0_addAnswer 132 = .ok (.invokevirtual 43, 3) := by decide +kernel
theorem dX0_addAnswer_135 : decode cX0_addAnswer 135 = .ok (.aload_n 0, 1) := by decide +kernel
theorem dX0_addAnswer_136 : decode cX0_addAnswer 136 = .ok (.getfield 23, 3) := by decide +kernel
theorem dX0_addAnswer_139 : decode cX0_addAnswer 139 = .ok (.iload 5, 2) := by decide +kernel
theorem dX0_addAnswer_141 : decode cX0_addAnswer 141 = .ok (.iconst 3, 1) := by decide +kernel
theorem dX0_addAnswer_142 : decode cX0_addAnswer 142 = .ok (.iload 4, 2) := by decide +kernel
theorem dX0_addAnswer_144 : decode cX0_addAnswer 144 = .ok (.invokevirtual 43, 3) := by decide +kernel
theorem dX0_addAnswer_147 : decode cX0_addAnswer 147 = .ok (.aload_n 0, 1) := by decide +kernel
theorem dX0_addAnswer_148 : decode cX0_addAnswer 148 = .ok (.getfield 23, 3) := by decide +kernel
theorem dX0_addAnswer_151 : decode cX0_addAnswer 151 = .ok (.iload 5, 2) := by decide +kernel
theorem dX0_addAnswer_153 : decode cX0_addAnswer 153 = .ok (.iconst 4, 1) := by decide +kernel
theorem dX0_addAnswer_154 : decode cX0_addAnswer 154 = .ok (.iconst 0, 1) := by decide +kernel
theorem dX0_addAnswer_155 : decode cX0_addAnswer 155 = .ok (.invokevirtual 43, 3) := by decide +kernel
theorem dX0_addAnswer_158 : decode cX0_addAnswer 158 = .ok (.aload_n 0, 1) := by decide +kernel
theorem dX0_addAnswer_159 : decode cX0_addAnswer 159 = .ok (.getfield 23, 3) := by decide +kernel
theorem dX0_addAnswer_162 : decode cX0_addAnswer 162 = .ok (.iload 5, 2) := by decide +kernel
theorem dX0_addAnswer_164 : decode cX0_addAnswer 164 = .ok (.iconst 5, 1) := by decide +kernel
theorem dX0_addAnswer_165 : decode cX0_addAnswer 165 = .ok (.iconst 0, 1) := by decide +kernel
theorem dX0_addAnswer_166 : decode cX0_addAnswer 166 = .ok (.invokevirtual 43, 3) := by decide +kernel
theorem dX0_addAnswer_169 : decode cX0_addAnswer 169 = .ok (.aload_n 0, 1) := by decide +kernel
theorem dX0_addAnswer_170 : decode cX0_addAnswer 170 = .ok (.getfield 23, 3) := by decide +kernel
theorem dX0_addAnswer_173 : decode cX0_addAnswer 173 = .ok (.iload 5, 2) := by decide +kernel
theorem dX0_addAnswer_175 : decode cX0_addAnswer 175 = .ok (.bipush 6, 2) := by decide +kernel
theorem dX0_addAnswer_177 : decode cX0_addAnswer 177 = .ok (.iconst 0, 1) := by decide +kernel
theorem dX0_addAnswer_178 : decode cX0_addAnswer 178 = .ok (.invokevirtual 43, 3) := by decide +kernel
theorem dX0_addAnswer_181 : decode cX0_addAnswer 181 = .ok (.aload_n 0, 1) := by decide +kernel
theorem dX0_addAnswer_182 : decode cX0_addAnswer 182 = .ok (.getfield 23, 3) := by decide +kernel
theorem dX0_addAnswer_185 : decode cX0_addAnswer 185 = .ok (.iload 5, 2) := by decide +kernel
theorem dX0_addAnswer_187 : decode cX0_addAnswer 187 = .ok (.bipush 7, 2) := by decide +kernel
theorem dX0_addAnswer_189 : decode cX0_addAnswer 189 = .ok (.iconst 0, 1) := by decide +kernel
theorem dX0_addAnswer_190 : decode cX0_addAnswer 190 = .ok (.invokevirtual 43, 3) := by decide +kernel
theorem dX0_addAnswer_193 : decode cX0_addAnswer 193 = .ok (.aload_n 0, 1) := by decide +kernel
theorem dX0_addAnswer_194 : decode cX0_addAnswer 194 = .ok (.getfield 35, 3) := by decide +kernel
theorem dX0_addAnswer_197 : decode cX0_addAnswer 197 = .ok (.iload 5, 2) := by decide +kernel
theorem dX0_addAnswer_199 : decode cX0_addAnswer 199 = .ok (.invokevirtual 76, 3) := by decide +kernel
theorem dX0_addAnswer_202 : decode cX0_addAnswer 202 = .ok (.iload 5, 2) := by decide +kernel
theorem dX0_addAnswer_204 : decode cX0_addAnswer 204 = .ok (.ireturn, 1) := by decide +kernel
set_option maxRecDepth 20000 in
theorem ggX0_setScalesRight_X4_get : GoodIn wsX0_setScalesRight wsX4_get := goodIn_r _ [10, 11, 12, 24, 25, 26] (by decide +kernel) (by decide +kernel)
set_option maxRecDepth 20000 in
theorem gX0_setScalesRight_X4_get : GoodIn wsX0_setScalesRight (wsV RX0 68 RX4 yX4_get wsX4_get) := goodIn_app (goodIn_of _ (by decide +kernel)) ggX0_setScalesRight_X4_get
set_option maxRecDepth 20000 in
theorem ggX0_setScalesRight_X4_put : GoodIn wsX0_setScalesRight wsX4_put := goodIn_r _ [16, 11, 12, 24, 25, 26] (by decide +kernel) (by decide +kernel)
set_option maxRecDepth 20000 in
theorem gX0_setScalesRight_X4_put : GoodIn wsX0_setScalesRight (wsV RX0 43 RX4 yX4_put wsX4_put) := goodIn_app (goodIn_of _ (by decide +kernel)) ggX0_setScalesRight_X4_put
theorem dX0_setScalesRight_0 : decode cX0_setScalesRight 0 = .ok (.iconst 0, 1) := by decide +kernel
theorem dX0_setScalesRight_1 : decode cX0_setScalesRight 1 = .ok (.istore_n 1, 1) := by decide +kernel
theorem dX0_setScalesRight_2 : decode cX0_setScalesRight 2 = .ok (.iconst 0, 1) := by decide +kernel
theorem dX0_setScalesRight_3 : decode cX0_setScalesRight 3 = .ok (.istore_n 2, 1) := by decide +kernel
theorem dX0_setScalesRight_4 : decode cX0_setScalesRight 4 = .ok (.iload_n 2, 1) := by decide +kernel
theorem dX0_setScalesRight_5 : decode cX0_setScalesRight 5 = .ok (.iconst 2, 1) := by decide +kernel
theorem dX0_setScalesRight_6 : decode cX0_setScalesRight 6 = .ok (.if_icmp .ge 34, 3) := by decide +kernel
theorem dX0_setScalesRight_9 : decode cX0_setScalesRight 9 = .ok (.iload_n 1, 1) := by decide +kernel
theorem dX0_setScalesRight_10 : decode cX0_setScalesRight 10 = .ok (.aload_n 0, 1) := by decide +kernel
theorem dX0_setScalesRight_11 : decode cX0_setScalesRight 11 = .ok (.getfield 26, 3) := by decide +kernel
theorem dX0_setScalesRight_14 : decode cX0_setScalesRight 14 = .ok (.iload_n 2, 1) := by decide +kernel
theorem dX0_setScalesRight_15 : decode cX0_setScalesRight 15 = .ok (.iconst 0, 1) := by decide +kernel
theorem dX0_setScalesRight_16 : decode cX0_setScalesRight 16 = .ok (.invokevirtual 68, 3) := by decide +kernel
theorem dX0_setScalesRight_19 : decode cX0_setScalesRight 19 = .ok (.invokestatic 80, 3) := by decide +kernel
theorem dX0_setScalesRight_22 : decode cX0_setScalesRight 22 = .ok (.iadd, 1) := by decide +kernel
theorem dX0_setScalesRight_23 : decode cX0_setScalesRight 23 = .ok (.istore_n 1, 1) := by decide +kernel
theorem dX0_setScalesRight_24 : decode cX0_setScalesRight 24 = .ok (.aload_n 0, 1) := by decide +kernel
theorem dX0_setScalesRight_25 : decode cX0_setScalesRight 25 = .ok (.getfield 26, 3) := by decide +kernel
theorem dX0_setScalesRight_28 : decode cX0_setScalesRight 28 = .ok (.iload_n 2, 1) := by decide +kernel
theorem dX0_setScalesRight_29 : decode cX0_setScalesRight 29 = .ok (.iconst 0, 1) := by decide +kernel
theorem dX0_setScalesRight_30 : decode cX0_setScalesRight 30 = .ok (.iconst 0, 1) := by decide +kernel
theorem dX0_setScalesRight_31 : decode cX0_setScalesRight 31 = .ok (.invokevirtual 43, 3) := by decide +kernel
theorem dX0_setScalesRight_34 : decode cX0_setScalesRight 34 = .ok (.iinc 2 1, 3) := by decide +kernel
theorem dX0_setScalesRight_37 : decode cX0_setScalesRight 37 = .ok (.goto (-33), 3) := by decide +kernel
theorem dX0_setScalesRight_40 : decode cX0_setScalesRight 40 = .ok (.iload_n 1, 1) := by decide +kernel
theorem dX0_setScalesRight_41 : decode cX0_setScalesRight 41 = .ok (.ifCond .ne 8, 3) := by decide +kernel
theorem dX0_setScalesRight_44 : decode cX0_setScalesRight 44 = .ok (.bipush (-5), 2) := by decide +kernel
theorem dX0_setScalesRight_46 : decode cX0_setScalesRight 46 = .ok (.goto 4, 3) := by decide +kernel
theorem dX0_setScalesRight_49 : decode cX0_setScalesRight 49 = .ok (.iload_n 1, 1) := by decide +kernel
theorem dX0_setScalesRight_50 : decode cX0_setScalesRight 50 = .ok (.ireturn, 1) := by decide +kernel
set_option maxRecDepth 20000 in
theorem ggX0_changeSetting_X4_has : GoodIn wsX0_changeSetting wsX4_has := goodIn_r _ [6, 7, 25, 26, 27] (by decide +kernel) (by decide +kernel)
set_option maxRecDepth 20000 in
theorem gX0_changeSetting_X4_has : GoodIn wsX0_changeSetting (wsV RX0 61 RX4 yX4_has wsX4_has) := goodIn_app (goodIn_of _ (by decide +kernel)) ggX0_changeSetting_X4_has
set_option maxRecDepth 20000 in
theorem ggX0_changeSetting_X4_get : GoodIn wsX0_changeSetting wsX4_get := goodIn_r _ [11, 12, 13, 25, 26, 27] (by decide +kernel) (by decide +kernel)
set_option maxRecDepth 20000 in
theorem gX0_changeSetting_X4_get : GoodIn wsX0_changeSetting (wsV RX0 68 RX4 yX4_get wsX4_get) := goodIn_app (goodIn_of _ (by decide +kernel)) ggX0_changeSetting_X4_get
set_option maxRecDepth 20000 in
theorem ggX0_changeSetting_X4_put : GoodIn wsX0_changeSetting wsX4_put := goodIn_r _ [17, 12, 13, 25, 26, 27] (by decide +kernel) (by decide +kernel)
set_option maxRecDepth 20000 in
theorem gX0_changeSetting_X4_put : GoodIn wsX0_changeSetting (wsV RX0 43 RX4 yX4_put wsX4_put) := goodIn_app (goodIn_of _ (by decide +kernel)) ggX0_changeSetting_X4_put
theorem dX0_changeSetting_0 : decode cX0_changeSetting 0 = .ok (.aload_n 0, 1) := by decide +kernel
theorem dX0_changeSetting_1 : decode cX0_changeSetting 1 = .ok (.getfield 29, 3) := by decide +kernel
theorem dX0_changeSetting_4 : decode cX0_changeSetting 4 = .ok (.iload_n 1, 1) := by decide +kernel
theorem dX0_changeSetting_5 : decode cX0_changeSetting 5 = .ok (.invokevirtual 61, 3) := by decide +kernel
theorem dX0_changeSetting_8 : decode cX0_changeSetting 8 = .ok (.ifCond .ne 5, 3) := by decide +kernel
theorem dX0_changeSetting_11 : decode cX0_changeSetting 11 = .ok (.iconst (-1), 1) := by decide +kernel
theorem dX0_changeSetting_12 : decode cX0_changeSetting 12 = .ok (.ireturn, 1) := by decide +kernel
theorem dX0_changeSetting_13 : decode cX0_changeSetting 13 = .ok (.iload_n 2, 1) := by decide +kernel
theorem dX0_changeSetting_14 : decode cX0_changeSetting 14 = .ok (.aload_n 0, 1) := by decide +kernel
theorem dX0_changeSetting_15 : decode cX0_changeSetting 15 = .ok (.getfield 29, 3) := by decide +kernel
theorem dX0_changeSetting_18 : decode cX0_changeSetting 18 = .ok (.iload_n 1, 1) := by decide +kernel
theorem dX0_changeSetting_19 : decode cX0_changeSetting 19 = .ok (.iconst 1, 1) := by decide +kernel
theorem dX0_changeSetting_20 : decode cX0_changeSetting 20 = .ok (.invokevirtual 68, 3) := by decide +kernel
theorem dX0_changeSetting_23 : decode cX0_changeSetting 23 = .ok (.if_icmp .lt 16, 3) := by decide +kernel
theorem dX0_changeSetting_26 : decode cX0_changeSetting 26 = .ok (.iload_n 2, 1) := by decide +kernel
theorem dX0_changeSetting_27 : decode cX0_changeSetting 27 = .ok (.aload_n 0, 1) := by decide +kernel
theorem dX0_changeSetting_28 : decode cX0_changeSetting 28 = .ok (.getfield 29, 3) := by decide +kernel
theorem dX0_changeSetting_31 : decode cX0_changeSetting 31 = .ok (.iload_n 1, 1) := by decide +kernel
theorem dX0_changeSetting_32 : decode cX0_changeSetting 32 = .ok (.iconst 2, 1) := by decide +kernel
theorem dX0_changeSetting_33 : decode cX0_changeSetting 33 = .ok (.invokevirtual 68, 3) := by decide +kernel
theorem dX0_changeSetting_36 : decode cX0_changeSetting 36 = .ok (.if_icmp .le 6, 3) := by decide +kernel
theorem dX0_changeSetting_39 : decode cX0_changeSetting 39 = .ok (.bipush (-2), 2) := by decide +kernel
theorem dX0_changeSetting_41 : decode cX0_changeSetting 41 = .ok (.ireturn, 1) := by decide +kernel
theorem dX0_changeSetting_42 : decode cX0_changeSetting 42 = .ok (.aload_n 0, 1) := by decide +kernel
theorem dX0_changeSetting_43 : decode cX0_changeSetting 43 = .ok (.getfield 29, 3) := by decide +kernel
theorem dX0_changeSetting_46 : decode cX0_changeSetting 46 = .ok (.iload_n 1, 1) := by decide +kernel
theorem dX0_changeSetting_47 : decode cX0_changeSetting 47 = .ok (.iconst 0, 1) := by decide +kernel
theorem dX0_changeSetting_48 : decode cX0_changeSetting 48 = .ok (.invokevirtual 68, 3) := by decide +kernel
theorem dX0_changeSetting_51 : decode cX0_changeSetting 51 = .ok (.istore_n 3, 1) := by decide +kernel
theorem dX0_changeSetting_52 : decode cX0_changeSetting 52 = .ok (.iload_n 3, 1) := by decide +kernel
theorem dX0_changeSetting_53 : decode cX0_changeSetting 53 = .ok (.iload_n 2, 1) := by decide +kernel
theorem dX0_changeSetting_54 : decode cX0_changeSetting 54 = .ok (.if_icmp .ne 6, 3) := by decide +kernel
theorem dX0_changeSetting_57 : decode cX0_changeSetting 57 = .ok (.bipush (-5), 2) := by decide +kernel
theorem dX0_changeSetting_59 : decode cX0_changeSetting 59 = .ok (.ireturn, 1) := by decide +kernel
theorem dX0_changeSetting_60 : decode cX0_changeSetting 60 = .ok (.aload_n 0, 1) := by decide +kernel
theorem dX0_changeSetting_61 : decode cX0_changeSetting 61 = .ok (.getfield 29, 3) := by decide +kernel
theorem dX0_changeSetting_64 : decode cX0_changeSetting 64 = .ok (.iload_n 1, 1) := by decide +kernel
theorem dX0_changeSetting_65 : decode cX0_changeSetting 65 = .ok (.iconst 0, 1) := by decide +kernel
theorem dX0_changeSetting_66 : decode cX0_changeSetting 66 = .ok (.iload_n 2, 1) := by decide +kernel
theorem dX0_changeSetting_67 : decode cX0_changeSetting 67 = .ok (.invokevirtual 43, 3) := by decide +kernel
theorem dX0_changeSetting_70 : decode cX0_changeSetting 70 = .ok (.iload_n 3, 1) := by decide +kernel
theorem dX0_changeSetting_71 : decode cX0_changeSetting 71 = .ok (.ireturn, 1) := by decide +kernel
set_option maxRecDepth 20000 in
theorem ggX0_playRounds_X0_playRound : GoodIn wsX0_playRounds wsX0_playRound := goodIn_r _ [6, 7, 8, 9, 10, 11, 12, 1, 13, 14, 15, 16, 17, 18, 19, 20, 21, 22, 23, 24, 25, 26, 27, 28, 29, 30, 31, 32, 33, 34, 35, 36, 37, 38, 5, 39, 40, 41, 42, 43, 44, 45, 46, 47, 48, 49, 50, 51, 52, 53, 54, 55, 56, 57, 58, 59, 60, 61, 62, 63, 64, 65, 66, 67, 68, 69, 70, 71, 72, 73, 74, 75, 76, 77, 78, 79, 80, 81, 82, 83, 84, 85, 86, 87, 88, 89, 90, 91, 92, 93, 94, 95, 96, 97, 98, 99, 100, 101, 102, 103, 104, 105, 106] (by decide +kernel) (by decide +kernel)
set_option maxRecDepth 20000 in
theorem gX0_playRounds_X0_playRound : GoodIn wsX0_playRounds (wsV RX0 86 RX0 yX0_playRound wsX0_playRound) := goodIn_app (goodIn_of _ (by decide +kernel)) ggX0_playRounds_X0_playRound
theorem dX0_playRounds_0 : decode cX0_playRounds 0 = .ok (.iload_n 1, 1) := by decide +kernel
theorem dX0_playRounds_1 : decode cX0_playRounds 1 = .ok (.iconst 1, 1) := by decide +kernel
theorem dX0_playRounds_2 : decode cX0_playRounds 2 = .ok (.if_icmp .lt 9, 3) := by decide +kernel
theorem dX0_playRounds_5 : decode cX0_playRounds 5 = .ok (.iload_n 1, 1) := by decide +kernel
theorem dX0_playRounds_6 : decode cX0_playRounds 6 = .ok (.bipush 99, 2) := by decide +kernel
theorem dX0_playRounds_8 : decode cX0_playRounds 8 = .ok (.if_icmp .le 6, 3) := by decide +kernel
theorem dX0_playRounds_11 : decode cX0_playRounds 11 = .ok (.bipush (-2), 2) := by decide +kernel
theorem dX0_playRounds_13 : decode cX0_playRounds 13 = .ok (.ireturn, 1) := by decide +kernel
theorem dX0_playRounds_14 : decode cX0_playRounds 14 = .ok (.aload_n 0, 1) := by decide +kernel
theorem dX0_playRounds_15 : decode cX0_playRounds 15 = .ok (.getfield 57, 3) := by decide +kernel
theorem dX0_playRounds_18 : decode cX0_playRounds 18 = .ok (.iload_n 1, 1) := by decide +kernel
theorem dX0_playRounds_19 : decode cX0_playRounds 19 = .ok (.iadd, 1) := by decide +kernel
theorem dX0_playRounds_20 : decode cX0_playRounds 20 = .ok (.sipush 9999, 3) := by decide +kernel
theorem dX0_playRounds_23 : decode cX0_playRounds 23 = .ok (.if_icmp .le 6, 3) := by decide +kernel
theorem dX0_playRounds_26 : decode cX0_playRounds 26 = .ok (.bipush (-3), 2) := by decide +kernel
theorem dX0_playRounds_28 : decode cX0_playRounds 28 = .ok (.ireturn, 1) := by decide +kernel
theorem dX0_playRounds_29 : decode cX0_playRounds 29 = .ok (.iconst 0, 1) := by decide +kernel
theorem dX0_playRounds_30 : decode cX0_playRounds 30 = .ok (.istore_n 2, 1) := by decide +kernel
theorem dX0_playRounds_31 : decode cX0_playRounds 31 = .ok (.iconst 0, 1) := by decide +kernel
theorem dX0_playRounds_32 : decode cX0_playRounds 32 = .ok (.istore_n 3, 1) := by decide +kernel
theorem dX0_playRounds_33 : decode cX0_playRounds 33 = .ok (.iload_n 3, 1) := by decide +kernel
theorem dX0_playRounds_34 : decode cX0_playRounds 34 = .ok (.iload_n 1, 1) := by decide +kernel
theorem dX0_playRounds_35 : decode cX0_playRounds 35 = .ok (.if_icmp .ge 16, 3) := by decide +kernel
theorem dX0_playRounds_38 : decode cX0_playRounds 38 = .ok (.iload_n 2, 1) := by decide +kernel
theorem dX0_playRounds_39 : decode cX0_playRounds 39 = .ok (.aload_n 0, 1) := by decide +kernel
theorem dX0_playRounds_40 : decode cX0_playRounds 40 = .ok (.invokevirtual 86, 3) := by decide +kernel
theorem dX0_playRounds_43 : decode cX0_playRounds 43 = .ok (.iadd, 1) := by decide +kernel
theorem dX0_playRounds_44 : decode cX0_playRounds 44 = .ok (.istore_n 2, 1) := by decide +kernel
theorem dX0_playRounds_45 : decode cX0_playRounds 45 = .ok (.iinc 3 1, 3) := by decide +kernel
theorem dX0_playRounds_48 : decode cX0_playRounds 48 = .ok (.goto (-15), 3) := by decide +kernel
theorem dX0_playRounds_51 : decode cX0_playRounds 51 = .ok (.iload_n 2, 1) := by decide +kernel
theorem dX0_playRounds_52 : decode cX0_playRounds 52 = .ok (.ireturn, 1) := by decide +kernel
set_option maxRecDepth 20000 in
theorem ggX0_playRound_X4_get : GoodIn wsX0_playRound wsX4_get := goodIn_r _ [12, 13, 14, 97, 98, 99] (by decide +kernel) (by decide +kernel)
set_option maxRecDepth 20000 in
theorem gX0_playRound_X4_get : GoodIn wsX0_playRound (wsV RX0 68 RX4 yX4_get wsX4_get) := goodIn_app (goodIn_of _ (by decide +kernel)) ggX0_playRound_X4_get
set_option maxRecDepth 20000 in
theorem ggX0_playRound_X3_length : GoodIn wsX0_playRound wsX3_length := goodIn_r _ [19, 20, 100, 101, 102] (by decide +kernel) (by decide +kernel)
set_option maxRecDepth 20000 in
theorem gX0_playRound_X3_length : GoodIn wsX0_playRound (wsV RX0 89 RX3 yX3_length wsX3_length) := goodIn_app (goodIn_of _ (by decide +kernel)) ggX0_playRound_X3_length
set_option maxRecDepth 20000 in
theorem ggX0_playRound_X3_takeFirst : GoodIn wsX0_playRound wsX3_takeFirst := goodIn_r _ [24, 20, 25, 26, 27, 28, 18, 29, 30, 100, 101, 102] (by decide +kernel) (by decide +kernel)
set_option maxRecDepth 20000 in
theorem gX0_playRound_X3_takeFirst : GoodIn wsX0_playRound (wsV RX0 95 RX3 yX3_takeFirst wsX3_takeFirst) := goodIn_app (goodIn_of _ (by decide +kernel)) ggX0_playRound_X3_takeFirst
set_option maxRecDepth 20000 in
theorem ggX0_playRound_X0_takeOne : GoodIn wsX0_playRound wsX0_takeOne := goodIn_r _ [35, 2, 36, 37, 38, 34, 39, 40, 41, 8, 9, 10, 11, 12, 13, 14, 42, 43, 44, 45, 46, 47, 48, 5, 49, 50, 51, 52, 53, 54, 55, 56, 1, 57, 58, 59, 60, 61, 62, 63, 64, 65, 66, 67, 68, 69, 70, 71, 72, 73, 74, 75, 76, 77, 78, 79, 80, 18, 81, 25, 20, 30, 82, 83, 84, 85, 90, 91, 92, 93, 94, 95, 96, 97, 98, 99, 100, 101, 102] (by decide +kernel) (by decide +kernel)
set_option maxRecDepth 20000 in
theorem gX0_playRound_X0_takeOne : GoodIn wsX0_playRound (wsV RX0 98 RX0 yX0_takeOne wsX0_takeOne) := goodIn_app (goodIn_of _ (by decide +kernel)) ggX0_playRound_X0_takeOne
set_option maxRecDepth 20000 in
theorem ggX0_playRound_X0_chargeFees : GoodIn wsX0_playRound wsX0_chargeFees := goodIn_r _ [89, 57, 3, 4, 5, 6, 8, 9, 10, 11, 12, 13, 14, 70, 71, 72, 73, 90, 91, 92, 93, 94, 95, 96, 97, 98, 99] (by decide +kernel) (by decide +kernel)
set_option maxRecDepth 20000 in
theorem gX0_playRound_X0_chargeFees : GoodIn wsX0_playRound (wsV RX0 101 RX0 yX0_chargeFees wsX0_chargeFees) := goodIn_app (goodIn_of _ (by decide +kernel)) ggX0_playRound_X0_chargeFees
theorem dX0_playRound_0 : decode cX0_playRound 0 = .ok (.aload_n 0, 1) := by decide +kernel
theorem dX0_playRound_1 : decode cX0_playRound 1 = .ok (.getfield 29, 3) := by decide +kernel
theorem dX0_playRound_4 : decode cX0_playRound 4 = .ok (.iconst 2, 1) := by decide +kernel
theorem dX0_playRound_5 : decode cX0_playRound 5 = .ok (.iconst 0, 1) := by decide +kernel
theorem dX0_playRound_6 : decode cX0_playRound 6 = .ok (.invokevirtual 68, 3) := by decide +kernel
theorem dX0_playRound_9 : decode cX0_playRound 9 = .ok (.aload_n 0, 1) := by decide +kernel
theorem dX0_playRound_10 : decode cX0_playRound 10 = .ok (.getfield 35, 3) := by decide +kernel
theorem dX0_playRound_13 : decode cX0_playRound 13 = .ok (.invokevirtual 89, 3) := by decide +kernel
theorem dX0_playRound_16 : decode cX0_playRound 16 = .ok (.invokestatic 92, 3) := by decide +kernel
theorem dX0_playRound_19 : decode cX0_playRound 19 = .ok (.istore_n 1, 1) := by decide +kernel
theorem dX0_playRound_20 : decode cX0_playRound 20 = .ok (.iconst 0, 1) := by decide +kernel
theorem dX0_playRound_21 : decode cX0_playRound 21 = .ok (.istore_n 2, 1) := by decide +kernel
theorem dX0_playRound_22 : decode cX0_playRound 22 = .ok (.iconst 0, 1) := by decide +kernel
theorem dX0_playRound_23 : decode cX0_playRound 23 = .ok (.istore_n 3, 1) := by decide +kernel
theorem dX0_playRound_24 : decode cX0_playRound 24 = .ok (.iload_n 3, 1) := by decide +kernel
theorem dX0_playRound_25 : decode cX0_playRound 25 = .ok (.iload_n 1, 1) := by decide +kernel
theorem dX0_playRound_26 : decode cX0_playRound 26 = .ok (.if_icmp .ge 26, 3) := by decide +kernel
theorem dX0_playRound_29 : decode cX0_playRound 29 = .ok (.aload_n 0, 1) := by decide +kernel
theorem dX0_playRound_30 : decode cX0_playRound 30 = .ok (.aload_n 0, 1) := by decide +kernel
theorem dX0_playRound_31 : decode cX0_playRound 31 = .ok (.getfield 35, 3) := by decide +kernel
theorem dX0_playRound_34 : decode cX0_playRound 34 = .ok (.invokevirtual 95, 3) := by decide +kernel
theorem dX0_playRound_37 : decode cX0_playRound 37 = .ok (.invokevirtual 98, 3) := by decide +kernel
theorem dX0_playRound_40 : decode cX0_playRound 40 = .ok (.ifCond .eq 6, 3) := by decide +kernel
theorem dX0_playRound_43 : decode cX0_playRound 43 = .ok (.iinc 2 1, 3) := by decide +kernel
theorem dX0_playRound_46 : decode cX0_playRound 46 = .ok (.iinc 3 1, 3) := by decide +kernel
theorem dX0_playRound_49 : decode cX0_playRound 49 = .ok (.goto (-25), 3) := by decide +kernel
theorem dX0_playRound_52 : decode cX0_playRound 52 = .ok (.aload_n 0, 1) := by decide +kernel
theorem dX0_playRound_53 : decode cX0_playRound 53 = .ok (.invokevirtual 101, 3) := by decide +kernel
theorem dX0_playRound_56 : decode cX0_playRound 56 = .ok (.aload_n 0, 1) := by decide +kernel
theorem dX0_playRound_57 : decode cX0_playRound 57 = .ok (.dup, 1) := by decide +kernel
theorem dX0_playRound_58 : decode cX0_playRound 58 = .ok (.getfield 57, 3) := by decide +kernel
theorem dX0_playRound_61 : decode cX0_playRound 61 = .ok (.iconst 1, 1) := by decide +kernel
theorem dX0_playRound_62 : decode cX0_playRound 62 = .ok (.iadd, 1) := by decide +kernel
theorem dX0_playRound_63 : decode cX0_playRound 63 = .ok (.putfield 57, 3) := by decide +kernel
theorem dX0_playRound_66 : decode cX0_playRound 66 = .ok (.iload_n 2, 1) := by decide +kernel
theorem dX0_playRound_67 : decode cX0_playRound 67 = .ok (.ireturn, 1) := by decide +kernel
set_option maxRecDepth 20000 in
theorem ggX0_takeOne_X0_paymentFor : GoodIn wsX0_takeOne wsX0_paymentFor := goodIn_r _ [6, 7, 8, 9, 10, 11, 12, 13, 14, 15, 16, 17, 18, 5, 19, 20, 21, 22, 23, 24, 66, 67, 68, 69, 70, 71, 72, 73, 74, 75] (by decide +kernel) (by decide +kernel)
set_option maxRecDepth 20000 in
theorem gX0_takeOne_X0_paymentFor : GoodIn wsX0_takeOne (wsV RX0 104 RX0 yX0_paymentFor wsX0_paymentFor) := goodIn_app (goodIn_of _ (by decide +kernel)) ggX0_takeOne_X0_paymentFor
set_option maxRecDepth 20000 in
theorem ggX0_takeOne_X0_hindrance : GoodIn wsX0_takeOne wsX0_hindrance := goodIn_r _ [28, 7, 8, 29, 30, 23, 31, 32, 33, 9, 10, 11, 12, 13, 14, 15, 16, 17, 18, 5, 19, 20, 21, 22, 24, 66, 67, 68, 69, 70, 71, 72, 73, 74, 75] (by decide +kernel) (by decide +kernel)
set_option maxRecDepth 20000 in
theorem gX0_takeOne_X0_hindrance : GoodIn wsX0_takeOne (wsV RX0 107 RX0 yX0_hindrance wsX0_hindrance) := goodIn_app (goodIn_of _ (by decide +kernel)) ggX0_takeOne_X0_hindrance
set_option maxRecDepth 20000 in
theorem ggX0_takeOne_X0_refuse : GoodIn wsX0_takeOne wsX0_refuse := goodIn_r _ [37, 7, 38, 39, 40, 12, 41, 14, 15, 66, 67, 68, 69, 70, 71, 72, 73, 74, 75] (by decide +kernel) (by decide +kernel)
set_option maxRecDepth 20000 in
theorem gX0_takeOne_X0_refuse : GoodIn wsX0_takeOne (wsV RX0 110 RX0 yX0_refuse wsX0_refuse) := goodIn_app (goodIn_of _ (by decide +kernel)) ggX0_takeOne_X0_refuse
set_option maxRecDepth 20000 in
theorem ggX0_takeOne_X0_driftOn : GoodIn wsX0_takeOne wsX0_driftOn := goodIn_r _ [45, 20, 32, 29, 30, 23, 31, 9, 10, 11, 12, 13, 14, 15, 38, 39, 40, 41, 46, 47, 48, 49, 66, 67, 68, 69, 70, 71, 72, 73, 74, 75] (by decide +kernel) (by decide +kernel)
set_option maxRecDepth 20000 in
theorem gX0_takeOne_X0_driftOn : GoodIn wsX0_takeOne (wsV RX0 114 RX0 yX0_driftOn wsX0_driftOn) := goodIn_app (goodIn_of _ (by decide +kernel)) ggX0_takeOne_X0_driftOn
set_option maxRecDepth 20000 in
theorem ggX0_takeOne_X0_doubt : GoodIn wsX0_takeOne wsX0_doubt := goodIn_r _ [53, 7, 1, 46, 47, 48, 12, 49, 14, 15, 9, 10, 11, 13, 34, 35, 36, 5, 37, 38, 39, 40, 41, 54, 55, 56, 57, 58, 59, 60, 61, 66, 67, 68, 69, 70, 71, 72, 73, 74, 75, 76, 77, 78] (by decide +kernel) (by decide +kernel)
set_option maxRecDepth 20000 in
theorem gX0_takeOne_X0_doubt : GoodIn wsX0_takeOne (wsV RX0 117 RX0 yX0_doubt wsX0_doubt) := goodIn_app (goodIn_of _ (by decide +kernel)) ggX0_takeOne_X0_doubt
set_option maxRecDepth 20000 in
theorem ggX0_takeOne_X3_addLast : GoodIn wsX0_takeOne wsX3_addLast := goodIn_r _ [58, 59, 60, 61, 76, 77, 78] (by decide +kernel) (by decide +kernel)
set_option maxRecDepth 20000 in
theorem gX0_takeOne_X3_addLast : GoodIn wsX0_takeOne (wsV RX0 76 RX3 yX3_addLast wsX3_addLast) := goodIn_app (goodIn_of _ (by decide +kernel)) ggX0_takeOne_X3_addLast
set_option maxRecDepth 20000 in
theorem ggX0_takeOne_X0_pay : GoodIn wsX0_takeOne wsX0_pay := goodIn_r _ [65, 7, 33, 8, 9, 10, 11, 12, 13, 14, 15, 46, 47, 48, 49, 38, 39, 40, 41, 66, 67, 68, 69, 70, 71, 72, 73, 74, 75] (by decide +kernel) (by decide +kernel)
set_option maxRecDepth 20000 in
theorem gX0_takeOne_X0_pay : GoodIn wsX0_takeOne (wsV RX0 120 RX0 yX0_pay wsX0_pay) := goodIn_app (goodIn_of _ (by decide +kernel)) ggX0_takeOne_X0_pay
theorem dX0_takeOne_0 : decode cX0_takeOne 0 = .ok (.aload_n 0, 1) := by decide +kernel
theorem dX0_takeOne_1 : decode cX0_takeOne 1 = .ok (.iload_n 1, 1) := by decide +kernel
theorem dX0_takeOne_2 : decode cX0_takeOne 2 = .ok (.invokevirtual 104, 3) := by decide +kernel
theorem dX0_takeOne_5 : decode cX0_takeOne 5 = .ok (.istore_n 2, 1) := by decide +kernel
theorem dX0_takeOne_6 : decode cX0_takeOne 6 = .ok (.aload_n 0, 1) := by decide +kernel
theorem dX0_takeOne_7 : decode cX0_takeOne 7 = .ok (.iload_n 1, 1) := by decide +kernel
theorem dX0_takeOne_8 : decode cX0_takeOne 8 = .ok (.iload_n 2, 1) := by decide +kernel
theorem dX0_takeOne_9 : decode cX0_takeOne 9 = .ok (.invokevirtual 107, 3) := by decide +kernel
theorem dX0_takeOne_12 : decode cX0_takeOne 12 = .ok (.istore_n 3, 1) := by decide +kernel
theorem dX0_takeOne_13 : decode cX0_takeOne 13 = .ok (.iload_n 3, 1) := by decide +kernel
theorem dX0_takeOne_14 : decode cX0_takeOne 14 = .ok (.iconst 1, 1) := by decide +kernel
theorem dX0_takeOne_15 : decode cX0_takeOne 15 = .ok (.if_icmp .eq 8, 3) := by decide +kernel
theorem dX0_takeOne_18 : decode cX0_takeOne 18 = .ok (.iload_n 3, 1) := by decide +kernel
theorem dX0_takeOne_19 : decode cX0_takeOne 19 = .ok (.iconst 2, 1) := by decide +kernel
theorem dX0_takeOne_20 : decode cX0_takeOne 20 = .ok (.if_icmp .ne 11, 3) := by decide +kernel
theorem dX0_takeOne_23 : decode cX0_takeOne 23 = .ok (.aload_n 0, 1) := by decide +kernel
theorem dX0_takeOne_24 : decode cX0_takeOne 24 = .ok (.iload_n 1, 1) := by decide +kernel
theorem dX0_takeOne_25 : decode cX0_takeOne 25 = .ok (.iload_n 3, 1) := by decide +kernel
theorem dX0_takeOne_26 : decode cX0_takeOne 26 = .ok (.invokevirtual 110, 3) := by decide +kernel
theorem dX0_takeOne_29 : decode cX0_takeOne 29 = .ok (.iconst 0, 1) := by decide +kernel
theorem dX0_takeOne_30 : decode cX0_takeOne 30 = .ok (.ireturn, 1) := by decide +kernel
theorem dX0_takeOne_31 : decode cX0_takeOne 31 = .ok (.aload_n 0, 1) := by decide +kernel
theorem dX0_takeOne_32 : decode cX0_takeOne 32 = .ok (.iconst 0, 1) := by decide +kernel
theorem dX0_takeOne_33 : decode cX0_takeOne 33 = .ok (.iconst 1, 1) := by decide +kernel
theorem dX0_takeOne_34 : decode cX0_takeOne 34 = .ok (.invokevirtual 114, 3) := by decide +kernel
theorem dX0_takeOne_37 : decode cX0_takeOne 37 = .ok (.aload_n 0, 1) := by decide +kernel
theorem dX0_takeOne_38 : decode cX0_takeOne 38 = .ok (.iconst 1, 1) := by decide +kernel
theorem dX0_takeOne_39 : decode cX0_takeOne 39 = .ok (.iconst (-1), 1) := by decide +kernel
theorem dX0_takeOne_40 : decode cX0_takeOne 40 = .ok (.invokevirtual 114, 3) := by decide +kernel
theorem dX0_takeOne_43 : decode cX0_takeOne 43 = .ok (.iload_n 3, 1) := by decide +kernel
theorem dX0_takeOne_44 : decode cX0_takeOne 44 = .ok (.lookupswitch 45 #[(3, 28), (4, 35)], 28) := by decide +kernel
theorem dX0_takeOne_72 : decode cX0_takeOne 72 = .ok (.aload_n 0, 1) := by decide +kernel
theorem dX0_takeOne_73 : decode cX0_takeOne 73 = .ok (.iload_n 1, 1) := by decide +kernel
theorem dX0_takeOne_74 : decode cX0_takeOne 74 = .ok (.invokevirtual 117, 3) := by decide +kernel
theorem dX0_takeOne_77 : decode cX0_takeOne 77 = .ok (.iconst 0, 1) := by decide +kernel
theorem dX0_takeOne_78 : decode cX0_takeOne 78 = .ok (.ireturn, 1) := by decide +kernel
theorem dX0_takeOne_79 : decode cX0_takeOne 79 = .ok (.aload_n 0, 1) := by decide +kernel
theorem dX0_takeOne_80 : decode cX0_takeOne 80 = .ok (.getfield 35, 3) := by decide +kernel
theorem dX0_takeOne_83 : decode cX0_takeOne 83 = .ok (.iload_n 1, 1) := by decide +kernel
theorem dX0_takeOne_84 : decode cX0_takeOne 84 = .ok (.invokevirtual 76, 3) := by decide +kernel
theorem dX0_takeOne_87 : decode cX0_takeOne 87 = .ok (.iconst 0, 1) := by decide +kernel
theorem dX0_takeOne_88 : decode cX0_takeOne 88 = .ok (.ireturn, 1) := by decide +kernel
theorem dX0_takeOne_89 : decode cX0_takeOne 89 = .ok (.aload_n 0, 1) := by decide +kernel
theorem dX0_takeOne_90 : decode cX0_takeOne 90 = .ok (.iload_n 1, 1) := by decide +kernel
theorem dX0_takeOne_91 : decode cX0_takeOne 91 = .ok (.iload_n 2, 1) := by decide +kernel
theorem dX0_takeOne_92 : decode cX0_takeOne 92 = .ok (.invokevirtual 120, 3) := by decide +kernel
theorem dX0_takeOne_95 : decode cX0_takeOne 95 = .ok (.iconst 1, 1) := by decide +kernel
theorem dX0_takeOne_96 : decode cX0_takeOne 96 = .ok (.ireturn, 1) := by decide +kernel
set_option maxRecDepth 20000 in
theorem ggX0_refuse_X4_put : GoodIn wsX0_refuse wsX4_put := goodIn_r _ [6, 7, 8, 16, 17, 18] (by decide +kernel) (by decide +kernel)
set_option maxRecDepth 20000 in
theorem gX0_refuse_X4_put : GoodIn wsX0_refuse (wsV RX0 43 RX4 yX4_put wsX4_put) := goodIn_app (goodIn_of _ (by decide +kernel)) ggX0_refuse_X4_put
theorem dX0_refuse_0 : decode cX0_refuse 0 = .ok (.aload_n 0, 1) := by decide +kernel
theorem dX0_refuse_1 : decode cX0_refuse 1 = .ok (.getfield 23, 3) := by decide +kernel
theorem dX0_refuse_4 : decode cX0_refuse 4 = .ok (.iload_n 1, 1) := by decide +kernel
theorem dX0_refuse_5 : decode cX0_refuse 5 = .ok (.iconst 4, 1) := by decide +kernel
theorem dX0_refuse_6 : decode cX0_refuse 6 = .ok (.iconst 2, 1) := by decide +kernel
theorem dX0_refuse_7 : decode cX0_refuse 7 = .ok (.invokevirtual 43, 3) := by decide +kernel
theorem dX0_refuse_10 : decode cX0_refuse 10 = .ok (.aload_n 0, 1) := by decide +kernel
theorem dX0_refuse_11 : decode cX0_refuse 11 = .ok (.getfield 23, 3) := by decide +kernel
theorem dX0_refuse_14 : decode cX0_refuse 14 = .ok (.iload_n 1, 1) := by decide +kernel
theorem dX0_refuse_15 : decode cX0_refuse 15 = .ok (.iconst 5, 1) := by decide +kernel
theorem dX0_refuse_16 : decode cX0_refuse 16 = .ok (.iload_n 2, 1) := by decide +kernel
theorem dX0_refuse_17 : decode cX0_refuse 17 = .ok (.invokevirtual 43, 3) := by decide +kernel
theorem dX0_refuse_20 : decode cX0_refuse 20 = .ok (.return_, 1) := by decide +kernel
set_option maxRecDepth 20000 in
theorem ggX0_doubt_X4_increase : GoodIn wsX0_doubt wsX4_increase := goodIn_r _ [7, 8, 9, 38, 39, 40] (by decide +kernel) (by decide +kernel)
set_option maxRecDepth 20000 in
theorem gX0_doubt_X4_increase : GoodIn wsX0_doubt (wsV RX0 123 RX4 yX4_increase wsX4_increase) := goodIn_app (goodIn_of _ (by decide +kernel)) ggX0_doubt_X4_increase
set_option maxRecDepth 20000 in
theorem ggX0_doubt_X4_get : GoodIn wsX0_doubt wsX4_get := goodIn_r _ [13, 8, 9, 38, 39, 40] (by decide +kernel) (by decide +kernel)
set_option maxRecDepth 20000 in
theorem gX0_doubt_X4_get : GoodIn wsX0_doubt (wsV RX0 68 RX4 yX4_get wsX4_get) := goodIn_app (goodIn_of _ (by decide +kernel)) ggX0_doubt_X4_get
set_option maxRecDepth 20000 in
theorem ggX0_doubt_X0_refuse : GoodIn wsX0_doubt wsX0_refuse := goodIn_r _ [18, 1, 19, 20, 21, 6, 22, 8, 9, 31, 32, 33, 34, 35, 36, 37, 38, 39, 40] (by decide +kernel) (by decide +kernel)
set_option maxRecDepth 20000 in
theorem gX0_doubt_X0_refuse : GoodIn wsX0_doubt (wsV RX0 110 RX0 yX0_refuse wsX0_refuse) := goodIn_app (goodIn_of _ (by decide +kernel)) ggX0_doubt_X0_refuse
set_option maxRecDepth 20000 in
theorem ggX0_doubt_X3_addLast : GoodIn wsX0_doubt wsX3_addLast := goodIn_r _ [27, 28, 29, 30, 41, 42, 43] (by decide +kernel) (by decide +kernel)
set_option maxRecDepth 20000 in
theorem gX0_doubt_X3_addLast : GoodIn wsX0_doubt (wsV RX0 76 RX3 yX3_addLast wsX3_addLast) := goodIn_app (goodIn_of _ (by decide +kernel)) ggX0_doubt_X3_addLast
theorem dX0_doubt_0 : decode cX0_doubt 0 = .ok (.aload_n 0, 1) := by decide +kernel
theorem dX0_doubt_1 : decode cX0_doubt 1 = .ok (.getfield 23, 3) := by decide +kernel
theorem dX0_doubt_4 : decode cX0_doubt 4 = .ok (.iload_n 1, 1) := by decide +kernel
theorem dX0_doubt_5 : decode cX0_doubt 5 = .ok (.bipush 6, 2) := by decide +kernel
theorem dX0_doubt_7 : decode cX0_doubt 7 = .ok (.iconst 1, 1) := by decide +kernel
theorem dX0_doubt_8 : decode cX0_doubt 8 = .ok (.invokevirtual 123, 3) := by decide +kernel
theorem dX0_doubt_11 : decode cX0_doubt 11 = .ok (.aload_n 0, 1) := by decide +kernel
theorem dX0_doubt_12 : decode cX0_doubt 12 = .ok (.getfield 23, 3) := by decide +kernel
theorem dX0_doubt_15 : decode cX0_doubt 15 = .ok (.iload_n 1, 1) := by decide +kernel
theorem dX0_doubt_16 : decode cX0_doubt 16 = .ok (.bipush 6, 2) := by decide +kernel
theorem dX0_doubt_18 : decode cX0_doubt 18 = .ok (.invokevirtual 68, 3) := by decide +kernel
theorem dX0_doubt_21 : decode cX0_doubt 21 = .ok (.iconst 3, 1) := by decide +kernel
theorem dX0_doubt_22 : decode cX0_doubt 22 = .ok (.if_icmp .lt 12, 3) := by decide +kernel
theorem dX0_doubt_25 : decode cX0_doubt 25 = .ok (.aload_n 0, 1) := by decide +kernel
theorem dX0_doubt_26 : decode cX0_doubt 26 = .ok (.iload_n 1, 1) := by decide +kernel
theorem dX0_doubt_27 : decode cX0_doubt 27 = .ok (.iconst 3, 1) := by decide +kernel
theorem dX0_doubt_28 : decode cX0_doubt 28 = .ok (.invokevirtual 110, 3) := by decide +kernel
theorem dX0_doubt_31 : decode cX0_doubt 31 = .ok (.goto 11, 3) := by decide +kernel
theorem dX0_doubt_34 : decode cX0_doubt 34 = .ok (.aload_n 0, 1) := by decide +kernel
theorem dX0_doubt_35 : decode cX0_doubt 35 = .ok (.getfield 35, 3) := by decide +kernel
theorem dX0_doubt_38 : decode cX0_doubt 38 = .ok (.iload_n 1, 1) := by decide +kernel
theorem dX0_doubt_39 : decode cX0_doubt 39 = .ok (.invokevirtual 76, 3) := by decide +kernel
theorem dX0_doubt_42 : decode cX0_doubt 42 = .ok (.return_, 1) := by decide +kernel
set_option maxRecDepth 20000 in
theorem ggX0_pay_X4_get : GoodIn wsX0_pay wsX4_get := goodIn_r _ [8, 9, 10, 26, 27, 28] (by decide +kernel) (by decide +kernel)
set_option maxRecDepth 20000 in
theorem gX0_pay_X4_get : GoodIn wsX0_pay (wsV RX0 68 RX4 yX4_get wsX4_get) := goodIn_app (goodIn_of _ (by decide +kernel)) ggX0_pay_X4_get
set_option maxRecDepth 20000 in
theorem ggX0_pay_X4_increase : GoodIn wsX0_pay wsX4_increase := goodIn_r _ [14, 9, 10, 26, 27, 28] (by decide +kernel) (by decide +kernel)
set_option maxRecDepth 20000 in
theorem gX0_pay_X4_increase : GoodIn wsX0_pay (wsV RX0 123 RX4 yX4_increase wsX4_increase) := goodIn_app (goodIn_of _ (by decide +kernel)) ggX0_pay_X4_increase
set_option maxRecDepth 20000 in
theorem ggX0_pay_X4_put : GoodIn wsX0_pay wsX4_put := goodIn_r _ [18, 9, 10, 26, 27, 28] (by decide +kernel) (by decide +kernel)
set_option maxRecDepth 20000 in
theorem gX0_pay_X4_put : GoodIn wsX0_pay (wsV RX0 43 RX4 yX4_put wsX4_put) := goodIn_app (goodIn_of _ (by decide +kernel)) ggX0_pay_X4_put
theorem dX0_pay_0 : decode cX0_pay 0 = .ok (.aload_n 0, 1) := by decide +kernel
theorem dX0_pay_1 : decode cX0_pay 1 = .ok (.getfield 23, 3) := by decide +kernel
theorem dX0_pay_4 : decode cX0_pay 4 = .ok (.iload_n 1, 1) := by decide +kernel
theorem dX0_pay_5 : decode cX0_pay 5 = .ok (.iconst 1, 1) := by decide +kernel
theorem dX0_pay_6 : decode cX0_pay 6 = .ok (.invokevirtual 68, 3) := by decide +kernel
theorem dX0_pay_9 : decode cX0_pay 9 = .ok (.istore_n 3, 1) := by decide +kernel
theorem dX0_pay_10 : decode cX0_pay 10 = .ok (.aload_n 0, 1) := by decide +kernel
theorem dX0_pay_11 : decode cX0_pay 11 = .ok (.getfield 16, 3) := by decide +kernel
theorem dX0_pay_14 : decode cX0_pay 14 = .ok (.aload_n 0, 1) := by decide +kernel
theorem dX0_pay_15 : decode cX0_pay 15 = .ok (.getfield 20, 3) := by decide +kernel
theorem dX0_pay_18 : decode cX0_pay 18 = .ok (.iload_n 3, 1) := by decide +kernel
theorem dX0_pay_19 : decode cX0_pay 19 = .ok (.iconst 0, 1) := by decide +kernel
theorem dX0_pay_20 : decode cX0_pay 20 = .ok (.invokevirtual 68, 3) := by decide +kernel
theorem dX0_pay_23 : decode cX0_pay 23 = .ok (.iconst 0, 1) := by decide +kernel
theorem dX0_pay_24 : decode cX0_pay 24 = .ok (.iload_n 2, 1) := by decide +kernel
theorem dX0_pay_25 : decode cX0_pay 25 = .ok (.ineg, 1) := by decide +kernel
theorem dX0_pay_26 : decode cX0_pay 26 = .ok (.invokevirtual 123, 3) := by decide +kernel
theorem dX0_pay_29 : decode cX0_pay 29 = .ok (.aload_n 0, 1) := by decide +kernel
theorem dX0_pay_30 : decode cX0_pay 30 = .ok (.getfield 16, 3) := by decide +kernel
theorem dX0_pay_33 : decode cX0_pay 33 = .ok (.aload_n 0, 1) := by decide +kernel
theorem dX0_pay_34 : decode cX0_pay 34 = .ok (.getfield 23, 3) := by decide +kernel
theorem dX0_pay_37 : decode cX0_pay 37 = .ok (.iload_n 1, 1) := by decide +kernel
theorem dX0_pay_38 : decode cX0_pay 38 = .ok (.iconst 0, 1) := by decide +kernel
theorem dX0_pay_39 : decode cX0_pay 39 = .ok (.invokevirtual 68, 3) := by decide +kernel
theorem dX0_pay_42 : decode cX0_pay 42 = .ok (.iconst 0, 1) := by decide +kernel
theorem dX0_pay_43 : decode cX0_pay 43 = .ok (.iload_n 2, 1) := by decide +kernel
theorem dX0_pay_44 : decode cX0_pay 44 = .ok (.invokevirtual 123, 3) := by decide +kernel
theorem dX0_pay_47 : decode cX0_pay 47 = .ok (.aload_n 0, 1) := by decide +kernel
theorem dX0_pay_48 : decode cX0_pay 48 = .ok (.getfield 23, 3) := by decide +kernel
theorem dX0_pay_51 : decode cX0_pay 51 = .ok (.iload_n 1, 1) := by decide +kernel
theorem dX0_pay_52 : decode cX0_pay 52 = .ok (.iconst 4, 1) := by decide +kernel
theorem dX0_pay_53 : decode cX0_pay 53 = .ok (.iconst 1, 1) := by decide +kernel
theorem dX0_pay_54 : decode cX0_pay 54 = .ok (.invokevirtual 43, 3) := by decide +kernel
theorem dX0_pay_57 : decode cX0_pay 57 = .ok (.aload_n 0, 1) := by decide +kernel
theorem dX0_pay_58 : decode cX0_pay 58 = .ok (.getfield 23, 3) := by decide +kernel
theorem dX0_pay_61 : decode cX0_pay 61 = .ok (.iload_n 1, 1) := by decide +kernel
theorem dX0_pay_62 : decode cX0_pay 62 = .ok (.bipush 7, 2) := by decide +kernel
theorem dX0_pay_64 : decode cX0_pay 64 = .ok (.iload_n 2, 1) := by decide +kernel
theorem dX0_pay_65 : decode cX0_pay 65 = .ok (.invokevirtual 43, 3) := by decide +kernel
theorem dX0_pay_68 : decode cX0_pay 68 = .ok (.aload_n 0, 1) := by decide +kernel
theorem dX0_pay_69 : decode cX0_pay 69 = .ok (.getfield 20, 3) := by decide +kernel
theorem dX0_pay_72 : decode cX0_pay 72 = .ok (.iload_n 3, 1) := by decide +kernel
theorem dX0_pay_73 : decode cX0_pay 73 = .ok (.iconst 3, 1) := by decide +kernel
theorem dX0_pay_74 : decode cX0_pay 74 = .ok (.iconst 1, 1) := by decide +kernel
theorem dX0_pay_75 : decode cX0_pay 75 = .ok (.invokevirtual 43, 3) := by decide +kernel
theorem dX0_pay_78 : decode cX0_pay 78 = .ok (.return_, 1) := by decide +kernel
set_option maxRecDepth 20000 in
theorem ggX0_driftOn_X4_get : GoodIn wsX0_driftOn wsX4_get := goodIn_r _ [11, 12, 13, 29, 30, 31] (by decide +kernel) (by decide +kernel)
set_option maxRecDepth 20000 in
theorem gX0_driftOn_X4_get : GoodIn wsX0_driftOn (wsV RX0 68 RX4 yX4_get wsX4_get) := goodIn_app (goodIn_of _ (by decide +kernel)) ggX0_driftOn_X4_get
set_option maxRecDepth 20000 in
theorem ggX0_driftOn_X4_put : GoodIn wsX0_driftOn wsX4_put := goodIn_r _ [17, 12, 13, 29, 30, 31] (by decide +kernel) (by decide +kernel)
set_option maxRecDepth 20000 in
theorem gX0_driftOn_X4_put : GoodIn wsX0_driftOn (wsV RX0 43 RX4 yX4_put wsX4_put) := goodIn_app (goodIn_of _ (by decide +kernel)) ggX0_driftOn_X4_put
set_option maxRecDepth 20000 in
theorem ggX0_driftOn_X4_increase : GoodIn wsX0_driftOn wsX4_increase := goodIn_r _ [21, 12, 13, 29, 30, 31] (by decide +kernel) (by decide +kernel)
set_option maxRecDepth 20000 in
theorem gX0_driftOn_X4_increase : GoodIn wsX0_driftOn (wsV RX0 123 RX4 yX4_increase wsX4_increase) := goodIn_app (goodIn_of _ (by decide +kernel)) ggX0_driftOn_X4_increase
theorem dX0_driftOn_0 : decode cX0_driftOn 0 = .ok (.aload_n 0, 1) := by decide +kernel
theorem dX0_driftOn_1 : decode cX0_driftOn 1 = .ok (.getfield 26, 3) := by decide +kernel
theorem dX0_driftOn_4 : decode cX0_driftOn 4 = .ok (.iload_n 1, 1) := by decide +kernel
theorem dX0_driftOn_5 : decode cX0_driftOn 5 = .ok (.iconst 0, 1) := by decide +kernel
theorem dX0_driftOn_6 : decode cX0_driftOn 6 = .ok (.invokevirtual 68, 3) := by decide +kernel
theorem dX0_driftOn_9 : decode cX0_driftOn 9 = .ok (.iload_n 2, 1) := by decide +kernel
theorem dX0_driftOn_10 : decode cX0_driftOn 10 = .ok (.iadd, 1) := by decide +kernel
theorem dX0_driftOn_11 : decode cX0_driftOn 11 = .ok (.istore_n 3, 1) := by decide +kernel
theorem dX0_driftOn_12 : decode cX0_driftOn 12 = .ok (.aload_n 0, 1) := by decide +kernel
theorem dX0_driftOn_13 : decode cX0_driftOn 13 = .ok (.getfield 29, 3) := by decide +kernel
theorem dX0_driftOn_16 : decode cX0_driftOn 16 = .ok (.iconst 1, 1) := by decide +kernel
theorem dX0_driftOn_17 : decode cX0_driftOn 17 = .ok (.iconst 0, 1) := by decide +kernel
theorem dX0_driftOn_18 : decode cX0_driftOn 18 = .ok (.invokevirtual 68, 3) := by decide +kernel
theorem dX0_driftOn_21 : decode cX0_driftOn 21 = .ok (.istore 4, 2) := by decide +kernel
theorem dX0_driftOn_23 : decode cX0_driftOn 23 = .ok (.iload_n 3, 1) := by decide +kernel
theorem dX0_driftOn_24 : decode cX0_driftOn 24 = .ok (.invokestatic 80, 3) := by decide +kernel
theorem dX0_driftOn_27 : decode cX0_driftOn 27 = .ok (.iload 4, 2) := by decide +kernel
theorem dX0_driftOn_29 : decode cX0_driftOn 29 = .ok (.if_icmp .le 16, 3) := by decide +kernel
theorem dX0_driftOn_32 : decode cX0_driftOn 32 = .ok (.iload_n 3, 1) := by decide +kernel
theorem dX0_driftOn_33 : decode cX0_driftOn 33 = .ok (.ifCond .le 9, 3) := by decide +kernel
theorem dX0_driftOn_36 : decode cX0_driftOn 36 = .ok (.iload 4, 2) := by decide +kernel
theorem dX0_driftOn_38 : decode cX0_driftOn 38 = .ok (.ineg, 1) := by decide +kernel
theorem dX0_driftOn_39 : decode cX0_driftOn 39 = .ok (.goto 5, 3) := by decide +kernel
theorem dX0_driftOn_42 : decode cX0_driftOn 42 = .ok (.iload 4, 2) := by decide +kernel
theorem dX0_driftOn_44 : decode cX0_driftOn 44 = .ok (.istore_n 3, 1) := by decide +kernel
theorem dX0_driftOn_45 : decode cX0_driftOn 45 = .ok (.aload_n 0, 1) := by decide +kernel
theorem dX0_driftOn_46 : decode cX0_driftOn 46 = .ok (.getfield 26, 3) := by decide +kernel
theorem dX0_driftOn_49 : decode cX0_driftOn 49 = .ok (.iload_n 1, 1) := by decide +kernel
theorem dX0_driftOn_50 : decode cX0_driftOn 50 = .ok (.iconst 0, 1) := by decide +kernel
theorem dX0_driftOn_51 : decode cX0_driftOn 51 = .ok (.iload_n 3, 1) := by decide +kernel
theorem dX0_driftOn_52 : decode cX0_driftOn 52 = .ok (.invokevirtual 43, 3) := by decide +kernel
theorem dX0_driftOn_55 : decode cX0_driftOn 55 = .ok (.aload_n 0, 1) := by decide +kernel
theorem dX0_driftOn_56 : decode cX0_driftOn 56 = .ok (.getfield 26, 3) := by decide +kernel
theorem dX0_driftOn_59 : decode cX0_driftOn 59 = .ok (.iload_n 1, 1) := by decide +kernel
theorem dX0_driftOn_60 : decode cX0_driftOn 60 = .ok (.iconst 1, 1) := by decide +kernel
theorem dX0_driftOn_61 : decode cX0_driftOn 61 = .ok (.iconst 1, 1) := by decide +kernel
theorem dX0_driftOn_62 : decode cX0_driftOn 62 = .ok (.invokevirtual 123, 3) := by decide +kernel
theorem dX0_driftOn_65 : decode cX0_driftOn 65 = .ok (.return_, 1) := by decide +kernel
set_option maxRecDepth 20000 in
theorem ggX0_chargeFees_X4_get : GoodIn wsX0_chargeFees wsX4_get := goodIn_r _ [10, 11, 12, 24, 25, 26] (by decide +kernel) (by decide +kernel)
set_option maxRecDepth 20000 in
theorem gX0_chargeFees_X4_get : GoodIn wsX0_chargeFees (wsV RX0 68 RX4 yX4_get wsX4_get) := goodIn_app (goodIn_of _ (by decide +kernel)) ggX0_chargeFees_X4_get
set_option maxRecDepth 20000 in
theorem ggX0_chargeFees_X4_increase : GoodIn wsX0_chargeFees wsX4_increase := goodIn_r _ [16, 11, 12, 24, 25, 26] (by decide +kernel) (by decide +kernel)
set_option maxRecDepth 20000 in
theorem gX0_chargeFees_X4_increase : GoodIn wsX0_chargeFees (wsV RX0 123 RX4 yX4_increase wsX4_increase) := goodIn_app (goodIn_of _ (by decide +kernel)) ggX0_chargeFees_X4_increase
theorem dX0_chargeFees_0 : decode cX0_chargeFees 0 = .ok (.iconst 0, 1) := by decide +kernel
theorem dX0_chargeFees_1 : decode cX0_chargeFees 1 = .ok (.istore_n 1, 1) := by decide +kernel
theorem dX0_chargeFees_2 : decode cX0_chargeFees 2 = .ok (.iload_n 1, 1) := by decide +kernel
theorem dX0_chargeFees_3 : decode cX0_chargeFees 3 = .ok (.bipush 8, 2) := by decide +kernel
theorem dX0_chargeFees_5 : decode cX0_chargeFees 5 = .ok (.if_icmp .ge 54, 3) := by decide +kernel
theorem dX0_chargeFees_8 : decode cX0_chargeFees 8 = .ok (.aload_n 0, 1) := by decide +kernel
theorem dX0_chargeFees_9 : decode cX0_chargeFees 9 = .ok (.getfield 16, 3) := by decide +kernel
theorem dX0_chargeFees_12 : decode cX0_chargeFees 12 = .ok (.iload_n 1, 1) := by decide +kernel
theorem dX0_chargeFees_13 : decode cX0_chargeFees 13 = .ok (.iconst 0, 1) := by decide +kernel
theorem dX0_chargeFees_14 : decode cX0_chargeFees 14 = .ok (.invokevirtual 68, 3) := by decide +kernel
theorem dX0_chargeFees_17 : decode cX0_chargeFees 17 = .ok (.ineg, 1) := by decide +kernel
theorem dX0_chargeFees_18 : decode cX0_chargeFees 18 = .ok (.istore_n 2, 1) := by decide +kernel
theorem dX0_chargeFees_19 : decode cX0_chargeFees 19 = .ok (.iload_n 2, 1) := by decide +kernel
theorem dX0_chargeFees_20 : decode cX0_chargeFees 20 = .ok (.ifCond .le 33, 3) := by decide +kernel
theorem dX0_chargeFees_23 : decode cX0_chargeFees 23 = .ok (.iload_n 2, 1) := by decide +kernel
theorem dX0_chargeFees_24 : decode cX0_chargeFees 24 = .ok (.bipush 20, 2) := by decide +kernel
theorem dX0_chargeFees_26 : decode cX0_chargeFees 26 = .ok (.idiv, 1) := by decide +kernel
theorem dX0_chargeFees_27 : decode cX0_chargeFees 27 = .ok (.iconst 5, 1) := by decide +kernel
theorem dX0_chargeFees_28 : decode cX0_chargeFees 28 = .ok (.invokestatic 92, 3) := by decide +kernel
theorem dX0_chargeFees_31 : decode cX0_chargeFees 31 = .ok (.istore_n 3, 1) := by decide +kernel
theorem dX0_chargeFees_32 : decode cX0_chargeFees 32 = .ok (.aload_n 0, 1) := by decide +kernel
theorem dX0_chargeFees_33 : decode cX0_chargeFees 33 = .ok (.getfield 16, 3) := by decide +kernel
theorem dX0_chargeFees_36 : decode cX0_chargeFees 36 = .ok (.iload_n 1, 1) := by decide +kernel
theorem dX0_chargeFees_37 : decode cX0_chargeFees 37 = .ok (.iconst 0, 1) := by decide +kernel
theorem dX0_chargeFees_38 : decode cX0_chargeFees 38 = .ok (.iload_n 3, 1) := by decide +kernel
theorem dX0_chargeFees_39 : decode cX0_chargeFees 39 = .ok (.ineg, 1) := by decide +kernel
theorem dX0_chargeFees_40 : decode cX0_chargeFees 40 = .ok (.invokevirtual 123, 3) := by decide +kernel
theorem dX0_chargeFees_43 : decode cX0_chargeFees 43 = .ok (.aload_n 0, 1) := by decide +kernel
theorem dX0_chargeFees_44 : decode cX0_chargeFees 44 = .ok (.getfield 16, 3) := by decide +kernel
theorem dX0_chargeFees_47 : decode cX0_chargeFees 47 = .ok (.iload_n 1, 1) := by decide +kernel
theorem dX0_chargeFees_48 : decode cX0_chargeFees 48 = .ok (.iconst 1, 1) := by decide +kernel
theorem dX0_chargeFees_49 : decode cX0_chargeFees 49 = .ok (.iload_n 3, 1) := by decide +kernel
theorem dX0_chargeFees_50 : decode cX0_chargeFees 50 = .ok (.invokevirtual 123, 3) := by decide +kernel
theorem dX0_chargeFees_53 : decode cX0_chargeFees 53 = .ok (.iinc 1 1, 3) := by decide +kernel
theorem dX0_chargeFees_56 : decode cX0_chargeFees 56 = .ok (.goto (-54), 3) := by decide +kernel
theorem dX0_chargeFees_59 : decode cX0_chargeFees 59 = .ok (.return_, 1) := by decide +kernel
set_option maxRecDepth 20000 in
theorem ggX0_told_X4_get : GoodIn wsX0_told wsX4_get := goodIn_r _ [10, 11, 12, 20, 21, 22] (by decide +kernel) (by decide +kernel)
set_option maxRecDepth 20000 in
theorem gX0_told_X4_get : GoodIn wsX0_told (wsV RX0 68 RX4 yX4_get wsX4_get) := goodIn_app (goodIn_of _ (by decide +kernel)) ggX0_told_X4_get
theorem dX0_told_0 : decode cX0_told 0 = .ok (.iconst 0, 1) := by decide +kernel
theorem dX0_told_1 : decode cX0_told 1 = .ok (.iload_n 2, 1) := by decide +kernel
theorem dX0_told_2 : decode cX0_told 2 = .ok (.aload_n 0, 1) := by decide +kernel
theorem dX0_told_3 : decode cX0_told 3 = .ok (.getfield 26, 3) := by decide +kernel
theorem dX0_told_6 : decode cX0_told 6 = .ok (.iload_n 1, 1) := by decide +kernel
theorem dX0_told_7 : decode cX0_told 7 = .ok (.iconst 0, 1) := by decide +kernel
theorem dX0_told_8 : decode cX0_told 8 = .ok (.invokevirtual 68, 3) := by decide +kernel
theorem dX0_told_11 : decode cX0_told 11 = .ok (.iadd, 1) := by decide +kernel
theorem dX0_told_12 : decode cX0_told 12 = .ok (.invokestatic 126, 3) := by decide +kernel
theorem dX0_told_15 : decode cX0_told 15 = .ok (.ireturn, 1) := by decide +kernel
set_option maxRecDepth 20000 in
theorem ggX0_paymentFor_X4_get : GoodIn wsX0_paymentFor wsX4_get := goodIn_r _ [7, 8, 9, 27, 28, 29] (by decide +kernel) (by decide +kernel)
set_option maxRecDepth 20000 in
theorem gX0_paymentFor_X4_get : GoodIn wsX0_paymentFor (wsV RX0 68 RX4 yX4_get wsX4_get) := goodIn_app (goodIn_of _ (by decide +kernel)) ggX0_paymentFor_X4_get
set_option maxRecDepth 20000 in
theorem ggX0_paymentFor_X0_told : GoodIn wsX0_paymentFor wsX0_told := goodIn_r _ [14, 15, 16, 17, 18, 19, 3, 4, 5, 6, 7, 8, 9, 20, 21, 22, 23, 24, 25, 26, 27, 28, 29] (by decide +kernel) (by decide +kernel)
set_option maxRecDepth 20000 in
theorem gX0_paymentFor_X0_told : GoodIn wsX0_paymentFor (wsV RX0 129 RX0 yX0_told wsX0_told) := goodIn_app (goodIn_of _ (by decide +kernel)) ggX0_paymentFor_X0_told
theorem dX0_paymentFor_0 : decode cX0_paymentFor 0 = .ok (.aload_n 0, 1) := by decide +kernel
theorem dX0_paymentFor_1 : decode cX0_paymentFor 1 = .ok (.getfield 23, 3) := by decide +kernel
theorem dX0_paymentFor_4 : decode cX0_paymentFor 4 = .ok (.iload_n 1, 1) := by decide +kernel
theorem dX0_paymentFor_5 : decode cX0_paymentFor 5 = .ok (.iconst 3, 1) := by decide +kernel
theorem dX0_paymentFor_6 : decode cX0_paymentFor 6 = .ok (.invokevirtual 68, 3) := by decide +kernel
theorem dX0_paymentFor_9 : decode cX0_paymentFor 9 = .ok (.istore_n 2, 1) := by decide +kernel
theorem dX0_paymentFor_10 : decode cX0_paymentFor 10 = .ok (.aload_n 0, 1) := by decide +kernel
theorem dX0_paymentFor_11 : decode cX0_paymentFor 11 = .ok (.getfield 20, 3) := by decide +kernel
theorem dX0_paymentFor_14 : decode cX0_paymentFor 14 = .ok (.aload_n 0, 1) := by decide +kernel
theorem dX0_paymentFor_15 : decode cX0_paymentFor 15 = .ok (.getfield 23, 3) := by decide +kernel
theorem dX0_paymentFor_18 : decode cX0_paymentFor 18 = .ok (.iload_n 1, 1) := by decide +kernel
theorem dX0_paymentFor_19 : decode cX0_paymentFor 19 = .ok (.iconst 1, 1) := by decide +kernel
theorem dX0_paymentFor_20 : decode cX0_paymentFor 20 = .ok (.invokevirtual 68, 3) := by decide +kernel
theorem dX0_paymentFor_23 : decode cX0_paymentFor 23 = .ok (.iconst 1, 1) := by decide +kernel
theorem dX0_paymentFor_24 : decode cX0_paymentFor 24 = .ok (.invokevirtual 68, 3) := by decide +kernel
theorem dX0_paymentFor_27 : decode cX0_paymentFor 27 = .ok (.istore_n 3, 1) := by decide +kernel
theorem dX0_paymentFor_28 : decode cX0_paymentFor 28 = .ok (.iload_n 3, 1) := by decide +kernel
theorem dX0_paymentFor_29 : decode cX0_paymentFor 29 = .ok (.aload_n 0, 1) := by decide +kernel
theorem dX0_paymentFor_30 : decode cX0_paymentFor 30 = .ok (.iconst 0, 1) := by decide +kernel
theorem dX0_paymentFor_31 : decode cX0_paymentFor 31 = .ok (.iload_n 2, 1) := by decide +kernel
theorem dX0_paymentFor_32 : decode cX0_paymentFor 32 = .ok (.invokevirtual 129, 3) := by decide +kernel
theorem dX0_paymentFor_35 : decode cX0_paymentFor 35 = .ok (.aload_n 0, 1) := by decide +kernel
theorem dX0_paymentFor_36 : decode cX0_paymentFor 36 = .ok (.iconst 1, 1) := by decide +kernel
theorem dX0_paymentFor_37 : decode cX0_paymentFor 37 = .ok (.iload_n 2, 1) := by decide +kernel
theorem dX0_paymentFor_38 : decode cX0_paymentFor 38 = .ok (.invokevirtual 129, 3) := by decide +kernel
theorem dX0_paymentFor_41 : decode cX0_paymentFor 41 = .ok (.iadd, 1) := by decide +kernel
theorem dX0_paymentFor_42 : decode cX0_paymentFor 42 = .ok (.bipush 10, 2) := by decide +kernel
theorem dX0_paymentFor_44 : decode cX0_paymentFor 44 = .ok (.idiv, 1) := by decide +kernel
theorem dX0_paymentFor_45 : decode cX0_paymentFor 45 = .ok (.iadd, 1) := by decide +kernel
theorem dX0_paymentFor_46 : decode cX0_paymentFor 46 = .ok (.ireturn, 1) := by decide +kernel
set_option maxRecDepth 20000 in
theorem ggX0_hindrance_X4_get : GoodIn wsX0_hindrance wsX4_get := goodIn_r _ [13, 14, 15, 32, 33, 34] (by decide +kernel) (by decide +kernel)
set_option maxRecDepth 20000 in
theorem gX0_hindrance_X4_get : GoodIn wsX0_hindrance (wsV RX0 68 RX4 yX4_get wsX4_get) := goodIn_app (goodIn_of _ (by decide +kernel)) ggX0_hindrance_X4_get
set_option maxRecDepth 20000 in
theorem ggX0_hindrance_X0_told : GoodIn wsX0_hindrance wsX0_told := goodIn_r _ [20, 21, 22, 23, 5, 24, 9, 10, 11, 12, 13, 14, 15, 25, 26, 27, 28, 29, 30, 31, 32, 33, 34] (by decide +kernel) (by decide +kernel)
set_option maxRecDepth 20000 in
theorem gX0_hindrance_X0_told : GoodIn wsX0_hindrance (wsV RX0 129 RX0 yX0_told wsX0_told) := goodIn_app (goodIn_of _ (by decide +kernel)) ggX0_hindrance_X0_told
theorem dX0_hindrance_0 : decode cX0_hindrance 0 = .ok (.aload_n 0, 1) := by decide +kernel
theorem dX0_hindrance_1 : decode cX0_hindrance 1 = .ok (.getfield 23, 3) := by decide +kernel
theorem dX0_hindrance_4 : decode cX0_hindrance 4 = .ok (.iload_n 1, 1) := by decide +kernel
theorem dX0_hindrance_5 : decode cX0_hindrance 5 = .ok (.iconst 1, 1) := by decide +kernel
theorem dX0_hindrance_6 : decode cX0_hindrance 6 = .ok (.invokevirtual 68, 3) := by decide +kernel
theorem dX0_hindrance_9 : decode cX0_hindrance 9 = .ok (.istore_n 3, 1) := by decide +kernel
theorem dX0_hindrance_10 : decode cX0_hindrance 10 = .ok (.aload_n 0, 1) := by decide +kernel
theorem dX0_hindrance_11 : decode cX0_hindrance 11 = .ok (.getfield 20, 3) := by decide +kernel
theorem dX0_hindrance_14 : decode cX0_hindrance 14 = .ok (.iload_n 3, 1) := by decide +kernel
theorem dX0_hindrance_15 : decode cX0_hindrance 15 = .ok (.iconst 3, 1) := by decide +kernel
theorem dX0_hindrance_16 : decode cX0_hindrance 16 = .ok (.invokevirtual 68, 3) := by decide +kernel
theorem dX0_hindrance_19 : decode cX0_hindrance 19 = .ok (.ifCond .eq 5, 3) := by decide +kernel
theorem dX0_hindrance_22 : decode cX0_hindrance 22 = .ok (.iconst 1, 1) := by decide +kernel
theorem dX0_hindrance_23 : decode cX0_hindrance 23 = .ok (.ireturn, 1) := by decide +kernel
theorem dX0_hindrance_24 : decode cX0_hindrance 24 = .ok (.aload_n 0, 1) := by decide +kernel
theorem dX0_hindrance_25 : decode cX0_hindrance 25 = .ok (.getfield 20, 3) := by decide +kernel
theorem dX0_hindrance_28 : decode cX0_hindrance 28 = .ok (.iload_n 3, 1) := by decide +kernel
theorem dX0_hindrance_29 : decode cX0_hindrance 29 = .ok (.iconst 2, 1) := by decide +kernel
theorem dX0_hindrance_30 : decode cX0_hindrance 30 = .ok (.invokevirtual 68, 3) := by decide +kernel
theorem dX0_hindrance_33 : decode cX0_hindrance 33 = .ok (.aload_n 0, 1) := by decide +kernel
theorem dX0_hindrance_34 : decode cX0_hindrance 34 = .ok (.getfield 23, 3) := by decide +kernel
theorem dX0_hindrance_37 : decode cX0_hindrance 37 = .ok (.iload_n 1, 1) := by decide +kernel
theorem dX0_hindrance_38 : decode cX0_hindrance 38 = .ok (.iconst 2, 1) := by decide +kernel
theorem dX0_hindrance_39 : decode cX0_hindrance 39 = .ok (.invokevirtual 68, 3) := by decide +kernel
theorem dX0_hindrance_42 : decode cX0_hindrance 42 = .ok (.if_icmp .eq 5, 3) := by decide +kernel
theorem dX0_hindrance_45 : decode cX0_hindrance 45 = .ok (.iconst 2, 1) := by decide +kernel
theorem dX0_hindrance_46 : decode cX0_hindrance 46 = .ok (.ireturn, 1) := by decide +kernel
theorem dX0_hindrance_47 : decode cX0_hindrance 47 = .ok (.aload_n 0, 1) := by decide +kernel
theorem dX0_hindrance_48 : decode cX0_hindrance 48 = .ok (.getfield 23, 3) := by decide +kernel
theorem dX0_hindrance_51 : decode cX0_hindrance 51 = .ok (.iload_n 1, 1) := by decide +kernel
theorem dX0_hindrance_52 : decode cX0_hindrance 52 = .ok (.iconst 3, 1) := by decide +kernel
theorem dX0_hindrance_53 : decode cX0_hindrance 53 = .ok (.invokevirtual 68, 3) := by decide +kernel
theorem dX0_hindrance_56 : decode cX0_hindrance 56 = .ok (.istore 4, 2) := by decide +kernel
theorem dX0_hindrance_58 : decode cX0_hindrance 58 = .ok (.aload_n 0, 1) := by decide +kernel
theorem dX0_hindrance_59 : decode cX0_hindrance 59 = .ok (.iconst 0, 1) := by decide +kernel
theorem dX0_hindrance_60 : decode cX0_hindrance 60 = .ok (.iload 4, 2) := by decide +kernel
theorem dX0_hindrance_62 : decode cX0_hindrance 62 = .ok (.invokevirtual 129, 3) := by decide +kernel
theorem dX0_hindrance_65 : decode cX0_hindrance 65 = .ok (.aload_n 0, 1) := by decide +kernel
theorem dX0_hindrance_66 : decode cX0_hindrance 66 = .ok (.iconst 1, 1) := by decide +kernel
theorem dX0_hindrance_67 : decode cX0_hindrance 67 = .ok (.iload 4, 2) := by decide +kernel
theorem dX0_hindrance_69 : decode cX0_hindrance 69 = .ok (.invokevirtual 129, 3) := by decide +kernel
theorem dX0_hindrance_72 : decode cX0_hindrance 72 = .ok (.isub, 1) := by decide +kernel
theorem dX0_hindrance_73 : decode cX0_hindrance 73 = .ok (.invokestatic 80, 3) := by decide +kernel
theorem dX0_hindrance_76 : decode cX0_hindrance 76 = .ok (.aload_n 0, 1) := by decide +kernel
theorem dX0_hindrance_77 : decode cX0_hindrance 77 = .ok (.getfield 29, 3) := by decide +kernel
theorem dX0_hindrance_80 : decode cX0_hindrance 80 = .ok (.iconst 0, 1) := by decide +kernel
theorem dX0_hindrance_81 : decode cX0_hindrance 81 = .ok (.iconst 0, 1) := by decide +kernel
theorem dX0_hindrance_82 : decode cX0_hindrance 82 = .ok (.invokevirtual 68, 3) := by decide +kernel
theorem dX0_hindrance_85 : decode cX0_hindrance 85 = .ok (.if_icmp .le 5, 3) := by decide +kernel
theorem dX0_hindrance_88 : decode cX0_hindrance 88 = .ok (.iconst 3, 1) := by decide +kernel
theorem dX0_hindrance_89 : decode cX0_hindrance 89 = .ok (.ireturn, 1) := by decide +kernel
theorem dX0_hindrance_90 : decode cX0_hindrance 90 = .ok (.aload_n 0, 1) := by decide +kernel
theorem dX0_hindrance_91 : decode cX0_hindrance 91 = .ok (.getfield 16, 3) := by decide +kernel
theorem dX0_hindrance_94 : decode cX0_hindrance 94 = .ok (.aload_n 0, 1) := by decide +kernel
theorem dX0_hindrance_95 : decode cX0_hindrance 95 = .ok (.getfield 20, 3) := by decide +kernel
theorem dX0_hindrance_98 : decode cX0_hindrance 98 = .ok (.iload_n 3, 1) := by decide +kernel
theorem dX0_hindrance_99 : decode cX0_hindrance 99 = .ok (.iconst 0, 1) := by decide +kernel
theorem dX0_hindrance_100 : decode cX0_hindrance 100 = .ok (.invokevirtual 68, 3) := by decide +kernel
theorem dX0_hindrance_103 : decode cX0_hindrance 103 = .ok (.iconst 0, 1) := by decide +kernel
theorem dX0_hindrance_104 : decode cX0_hindrance 104 = .ok (.invokevirtual 68, 3) := by decide +kernel
theorem dX0_hindrance_107 : decode cX0_hindrance 107 = .ok (.istore 5, 2) := by decide +kernel
theorem dX0_hindrance_109 : decode cX0_hindrance 109 = .ok (.iload 5, 2) := by decide +kernel
theorem dX0_hindrance_111 : decode cX0_hindrance 111 = .ok (.iload_n 2, 1) := by decide +kernel
theorem dX0_hindrance_112 : decode cX0_hindrance 112 = .ok (.isub, 1) := by decide +kernel
theorem dX0_hindrance_113 : decode cX0_hindrance 113 = .ok (.aload_n 0, 1) := by decide +kernel
theorem dX0_hindrance_114 : decode cX0_hindrance 114 = .ok (.getfield 29, 3) := by decide +kernel
theorem dX0_hindrance_117 : decode cX0_hindrance 117 = .ok (.iconst 3, 1) := by decide +kernel
theorem dX0_hindrance_118 : decode cX0_hindrance 118 = .ok (.iconst 0, 1) := by decide +kernel
theorem dX0_hindrance_119 : decode cX0_hindrance 119 = .ok (.invokevirtual 68, 3) := by decide +kernel
theorem dX0_hindrance_122 : decode cX0_hindrance 122 = .ok (.ineg, 1) := by decide +kernel
theorem dX0_hindrance_123 : decode cX0_hindrance 123 = .ok (.if_icmp .ge 7, 3) := by decide +kernel
theorem dX0_hindrance_126 : decode cX0_hindrance 126 = .ok (.iconst 4, 1) := by decide +kernel
theorem dX0_hindrance_127 : decode cX0_hindrance 127 = .ok (.goto 4, 3) := by decide +kernel
theorem dX0_hindrance_130 : decode cX0_hindrance 130 = .ok (.iconst 0, 1) := by decide +kernel
theorem dX0_hindrance_131 : decode cX0_hindrance 131 = .ok (.ireturn, 1) := by decide +kernel
set_option maxRecDepth 20000 in
theorem ggX0_errorIfNotWaiting_X4_has : GoodIn wsX0_errorIfNotWaiting wsX4_has := goodIn_r _ [6, 7, 21, 22, 23] (by decide +kernel) (by decide +kernel)
set_option maxRecDepth 20000 in
theorem gX0_errorIfNotWaiting_X4_has : GoodIn wsX0_errorIfNotWaiting (wsV RX0 61 RX4 yX4_has wsX4_has) := goodIn_app (goodIn_of _ (by decide +kernel)) ggX0_errorIfNotWaiting_X4_has
set_option maxRecDepth 20000 in
theorem ggX0_errorIfNotWaiting_X4_get : GoodIn wsX0_errorIfNotWaiting wsX4_get := goodIn_r _ [11, 12, 13, 21, 22, 23] (by decide +kernel) (by decide +kernel)
set_option maxRecDepth 20000 in
theorem gX0_errorIfNotWaiting_X4_get : GoodIn wsX0_errorIfNotWaiting (wsV RX0 68 RX4 yX4_get wsX4_get) := goodIn_app (goodIn_of _ (by decide +kernel)) ggX0_errorIfNotWaiting_X4_get
theorem dX0_errorIfNotWaiting_0 : decode cX0_errorIfNotWaiting 0 = .ok (.aload_n 0, 1) := by decide +kernel
theorem dX0_errorIfNotWaiting_1 : decode cX0_errorIfNotWaiting 1 = .ok (.getfield 23, 3) := by decide +kernel
theorem dX0_errorIfNotWaiting_4 : decode cX0_errorIfNotWaiting 4 = .ok (.iload_n 1, 1) := by decide +kernel
theorem dX0_errorIfNotWaiting_5 : decode cX0_errorIfNotWaiting 5 = .ok (.invokevirtual 61, 3) := by decide +kernel
theorem dX0_errorIfNotWaiting_8 : decode cX0_errorIfNotWaiting 8 = .ok (.ifCond .ne 5, 3) := by decide +kernel
theorem dX0_errorIfNotWaiting_11 : decode cX0_errorIfNotWaiting 11 = .ok (.iconst (-1), 1) := by decide +kernel
theorem dX0_errorIfNotWaiting_12 : decode cX0_errorIfNotWaiting 12 = .ok (.ireturn, 1) := by decide +kernel
theorem dX0_errorIfNotWaiting_13 : decode cX0_errorIfNotWaiting 13 = .ok (.aload_n 0, 1) := by decide +kernel
theorem dX0_errorIfNotWaiting_14 : decode cX0_errorIfNotWaiting 14 = .ok (.getfield 23, 3) := by decide +kernel
theorem dX0_errorIfNotWaiting_17 : decode cX0_errorIfNotWaiting 17 = .ok (.iload_n 1, 1) := by decide +kernel
theorem dX0_errorIfNotWaiting_18 : decode cX0_errorIfNotWaiting 18 = .ok (.iconst 4, 1) := by decide +kernel
theorem dX0_errorIfNotWaiting_19 : decode cX0_errorIfNotWaiting 19 = .ok (.invokevirtual 68, 3) := by decide +kernel
theorem dX0_errorIfNotWaiting_22 : decode cX0_errorIfNotWaiting 22 = .ok (.ifCond .ne 7, 3) := by decide +kernel
theorem dX0_errorIfNotWaiting_25 : decode cX0_errorIfNotWaiting 25 = .ok (.iconst 0, 1) := by decide +kernel
theorem dX0_errorIfNotWaiting_26 : decode cX0_errorIfNotWaiting 26 = .ok (.goto 5, 3) := by decide +kernel
theorem dX0_errorIfNotWaiting_29 : decode cX0_errorIfNotWaiting 29 = .ok (.bipush (-4), 2) := by decide +kernel
theorem dX0_errorIfNotWaiting_31 : decode cX0_errorIfNotWaiting 31 = .ok (.ireturn, 1) := by decide +kernel
set_option maxRecDepth 20000 in
theorem ggX0_waiting_X3_length : GoodIn wsX0_waiting wsX3_length := goodIn_r _ [6, 7, 15, 16, 17] (by decide +kernel) (by decide +kernel)
set_option maxRecDepth 20000 in
theorem gX0_waiting_X3_length : GoodIn wsX0_waiting (wsV RX0 89 RX3 yX3_length wsX3_length) := goodIn_app (goodIn_of _ (by decide +kernel)) ggX0_waiting_X3_length
theorem dX0_waiting_0 : decode cX0_waiting 0 = .ok (.aload_n 0, 1) := by decide +kernel
theorem dX0_waiting_1 : decode cX0_waiting 1 = .ok (.getfield 35, 3) := by decide +kernel
theorem dX0_waiting_4 : decode cX0_waiting 4 = .ok (.invokevirtual 89, 3) := by decide +kernel
theorem dX0_waiting_7 : decode cX0_waiting 7 = .ok (.ireturn, 1) := by decide +kernel
set_option maxRecDepth 20000 in
theorem ggX0_waitingAt_X3_at : GoodIn wsX0_waitingAt wsX3_at := goodIn_r _ [6, 7, 8, 9, 17, 18, 19] (by decide +kernel) (by decide +kernel)
set_option maxRecDepth 20000 in
theorem gX0_waitingAt_X3_at : GoodIn wsX0_waitingAt (wsV RX0 132 RX3 yX3_at wsX3_at) := goodIn_app (goodIn_of _ (by decide +kernel)) ggX0_waitingAt_X3_at
theorem dX0_waitingAt_0 : decode cX0_waitingAt 0 = .ok (.aload_n 0, 1) := by decide +kernel
theorem dX0_waitingAt_1 : decode cX0_waitingAt 1 = .ok (.getfield 35, 3) := by decide +kernel
theorem dX0_waitingAt_4 : decode cX0_waitingAt 4 = .ok (.iload_n 1, 1) := by decide +kernel
theorem dX0_waitingAt_5 : decode cX0_waitingAt 5 = .ok (.invokevirtual 132, 3) := by decide +kernel
theorem dX0_waitingAt_8 : decode cX0_waitingAt 8 = .ok (.ireturn, 1) := by decide +kernel
set_option maxRecDepth 20000 in
theorem ggX0_tellTrader_X4_has : GoodIn wsX0_tellTrader wsX4_has := goodIn_r _ [12, 13, 36, 37, 38] (by decide +kernel) (by decide +kernel)
set_option maxRecDepth 20000 in
theorem gX0_tellTrader_X4_has : GoodIn wsX0_tellTrader (wsV RX0 61 RX4 yX4_has wsX4_has) := goodIn_app (goodIn_of _ (by decide +kernel)) ggX0_tellTrader_X4_has
set_option maxRecDepth 20000 in
theorem ggX0_tellTrader_X4_get : GoodIn wsX0_tellTrader wsX4_get := goodIn_r _ [17, 18, 19, 36, 37, 38] (by decide +kernel) (by decide +kernel)
set_option maxRecDepth 20000 in
theorem gX0_tellTrader_X4_get : GoodIn wsX0_tellTrader (wsV RX0 68 RX4 yX4_get wsX4_get) := goodIn_app (goodIn_of _ (by decide +kernel)) ggX0_tellTrader_X4_get
set_option maxRecDepth 20000 in
theorem ggX0_tellTrader_X4_countOf : GoodIn wsX0_tellTrader wsX4_countOf := goodIn_r _ [23, 13, 24, 15, 16, 11, 17, 18, 19, 36, 37, 38] (by decide +kernel) (by decide +kernel)
set_option maxRecDepth 20000 in
theorem gX0_tellTrader_X4_countOf : GoodIn wsX0_tellTrader (wsV RX0 135 RX4 yX4_countOf wsX4_countOf) := goodIn_app (goodIn_of _ (by decide +kernel)) ggX0_tellTrader_X4_countOf
set_option maxRecDepth 20000 in
theorem ggX0_tellTrader_X4_countOfBoth : GoodIn wsX0_tellTrader wsX4_countOfBoth := goodIn_r _ [28, 13, 24, 15, 16, 11, 17, 18, 19, 36, 37, 38] (by decide +kernel) (by decide +kernel)
set_option maxRecDepth 20000 in
theorem gX0_tellTrader_X4_countOfBoth : GoodIn wsX0_tellTrader (wsV RX0 72 RX4 yX4_countOfBoth wsX4_countOfBoth) := goodIn_app (goodIn_of _ (by decide +kernel)) ggX0_tellTrader_X4_countOfBoth
theorem dX0_tellTrader_0 : decode cX0_tellTrader 0 = .ok (.aload_n 0, 1) := by decide +kernel
theorem dX0_tellTrader_1 : decode cX0_tellTrader 1 = .ok (.getfield 16, 3) := by decide +kernel
theorem dX0_tellTrader_4 : decode cX0_tellTrader 4 = .ok (.iload_n 1, 1) := by decide +kernel
theorem dX0_tellTrader_5 : decode cX0_tellTrader 5 = .ok (.invokevirtual 61, 3) := by decide +kernel
theorem dX0_tellTrader_8 : decode cX0_tellTrader 8 = .ok (.ifCond .ne 5, 3) := by decide +kernel
theorem dX0_tellTrader_11 : decode cX0_tellTrader 11 = .ok (.iconst (-1), 1) := by decide +kernel
theorem dX0_tellTrader_12 : decode cX0_tellTrader 12 = .ok (.ireturn, 1) := by decide +kernel
theorem dX0_tellTrader_13 : decode cX0_tellTrader 13 = .ok (.iload_n 2, 1) := by decide +kernel
theorem dX0_tellTrader_14 : decode cX0_tellTrader 14 = .ok (.tableswitch 141 0 7 #[46, 61, 75, 85, 97, 107, 119, 131], 46) := by decide +kernel
theorem dX0_tellTrader_60 : decode cX0_tellTrader 60 = .ok (.iconst 0, 1) := by decide +kernel
theorem dX0_tellTrader_61 : decode cX0_tellTrader 61 = .ok (.aload_n 0, 1) := by decide +kernel
theorem dX0_tellTrader_62 : decode cX0_tellTrader 62 = .ok (.getfield 16, 3) := by decide +kernel
theorem dX0_tellTrader_65 : decode cX0_tellTrader 65 = .ok (.iload_n 1, 1) := by decide +kernel
theorem dX0_tellTrader_66 : decode cX0_tellTrader 66 = .ok (.iconst 0, 1) := by decide +kernel
theorem dX0_tellTrader_67 : decode cX0_tellTrader 67 = .ok (.invokevirtual 68, 3) := by decide +kernel
theorem dX0_tellTrader_70 : decode cX0_tellTrader 70 = .ok (.ineg, 1) := by decide +kernel
theorem dX0_tellTrader_71 : decode cX0_tellTrader 71 = .ok (.invokestatic 126, 3) := by decide +kernel
theorem dX0_tellTrader_74 : decode cX0_tellTrader 74 = .ok (.ireturn, 1) := by decide +kernel
theorem dX0_tellTrader_75 : decode cX0_tellTrader 75 = .ok (.iconst 0, 1) := by decide +kernel
theorem dX0_tellTrader_76 : decode cX0_tellTrader 76 = .ok (.aload_n 0, 1) := by decide +kernel
theorem dX0_tellTrader_77 : decode cX0_tellTrader 77 = .ok (.getfield 16, 3) := by decide +kernel
theorem dX0_tellTrader_80 : decode cX0_tellTrader 80 = .ok (.iload_n 1, 1) := by decide +kernel
theorem dX0_tellTrader_81 : decode cX0_tellTrader 81 = .ok (.iconst 0, 1) := by decide +kernel
theorem dX0_tellTrader_82 : decode cX0_tellTrader 82 = .ok (.invokevirtual 68, 3) := by decide +kernel
theorem dX0_tellTrader_85 : decode cX0_tellTrader 85 = .ok (.invokestatic 126, 3) := by decide +kernel
theorem dX0_tellTrader_88 : decode cX0_tellTrader 88 = .ok (.ireturn, 1) := by decide +kernel
theorem dX0_tellTrader_89 : decode cX0_tellTrader 89 = .ok (.aload_n 0, 1) := by decide +kernel
theorem dX0_tellTrader_90 : decode cX0_tellTrader 90 = .ok (.getfield 20, 3) := by decide +kernel
theorem dX0_tellTrader_93 : decode cX0_tellTrader 93 = .ok (.iconst 0, 1) := by decide +kernel
theorem dX0_tellTrader_94 : decode cX0_tellTrader 94 = .ok (.iload_n 1, 1) := by decide +kernel
theorem dX0_tellTrader_95 : decode cX0_tellTrader 95 = .ok (.invokevirtual 135, 3) := by decide +kernel
theorem dX0_tellTrader_98 : decode cX0_tellTrader 98 = .ok (.ireturn, 1) := by decide +kernel
theorem dX0_tellTrader_99 : decode cX0_tellTrader 99 = .ok (.aload_n 0, 1) := by decide +kernel
theorem dX0_tellTrader_100 : decode cX0_tellTrader 100 = .ok (.getfield 20, 3) := by decide +kernel
theorem dX0_tellTrader_103 : decode cX0_tellTrader 103 = .ok (.iconst 0, 1) := by decide +kernel
theorem dX0_tellTrader_104 : decode cX0_tellTrader 104 = .ok (.iload_n 1, 1) := by decide +kernel
theorem dX0_tellTrader_105 : decode cX0_tellTrader 105 = .ok (.iconst 3, 1) := by decide +kernel
theorem dX0_tellTrader_106 : decode cX0_tellTrader 106 = .ok (.iconst 1, 1) := by decide +kernel
theorem dX0_tellTrader_107 : decode cX0_tellTrader 107 = .ok (.invokevirtual 72, 3) := by decide +kernel
theorem dX0_tellTrader_110 : decode cX0_tellTrader 110 = .ok (.ireturn, 1) := by decide +kernel
theorem dX0_tellTrader_111 : decode cX0_tellTrader 111 = .ok (.aload_n 0, 1) := by decide +kernel
theorem dX0_tellTrader_112 : decode cX0_tellTrader 112 = .ok (.getfield 23, 3) := by decide +kernel
theorem dX0_tellTrader_115 : decode cX0_tellTrader 115 = .ok (.iconst 0, 1) := by decide +kernel
theorem dX0_tellTrader_116 : decode cX0_tellTrader 116 = .ok (.iload_n 1, 1) := by decide +kernel
theorem dX0_tellTrader_117 : decode cX0_tellTrader 117 = .ok (.invokevirtual 135, 3) := by decide +kernel
theorem dX0_tellTrader_120 : decode cX0_tellTrader 120 = .ok (.ireturn, 1) := by decide +kernel
theorem dX0_tellTrader_121 : decode cX0_tellTrader 121 = .ok (.aload_n 0, 1) := by decide +kernel
theorem dX0_tellTrader_122 : decode cX0_tellTrader 122 = .ok (.getfield 23, 3) := by decide +kernel
theorem dX0_tellTrader_125 : decode cX0_tellTrader 125 = .ok (.iconst 0, 1) := by decide +kernel
theorem dX0_tellTrader_126 : decode cX0_tellTrader 126 = .ok (.iload_n 1, 1) := by decide +kernel
theorem dX0_tellTrader_127 : decode cX0_tellTrader 127 = .ok (.iconst 4, 1) := by decide +kernel
theorem dX0_tellTrader_128 : decode cX0_tellTrader 128 = .ok (.iconst 1, 1) := by decide +kernel
theorem dX0_tellTrader_129 : decode cX0_tellTrader 129 = .ok (.invokevirtual 72, 3) := by decide +kernel
theorem dX0_tellTrader_132 : decode cX0_tellTrader 132 = .ok (.ireturn, 1) := by decide +kernel
theorem dX0_tellTrader_133 : decode cX0_tellTrader 133 = .ok (.aload_n 0, 1) := by decide +kernel
theorem dX0_tellTrader_134 : decode cX0_tellTrader 134 = .ok (.getfield 23, 3) := by decide +kernel
theorem dX0_tellTrader_137 : decode cX0_tellTrader 137 = .ok (.iconst 0, 1) := by decide +kernel
theorem dX0_tellTrader_138 : decode cX0_tellTrader 138 = .ok (.iload_n 1, 1) := by decide +kernel
theorem dX0_tellTrader_139 : decode cX0_tellTrader 139 = .ok (.iconst 4, 1) := by decide +kernel
theorem dX0_tellTrader_140 : decode cX0_tellTrader 140 = .ok (.iconst 2, 1) := by decide +kernel
theorem dX0_tellTrader_141 : decode cX0_tellTrader 141 = .ok (.invokevirtual 72, 3) := by decide +kernel
theorem dX0_tellTrader_144 : decode cX0_tellTrader 144 = .ok (.ireturn, 1) := by decide +kernel
theorem dX0_tellTrader_145 : decode cX0_tellTrader 145 = .ok (.aload_n 0, 1) := by decide +kernel
theorem dX0_tellTrader_146 : decode cX0_tellTrader 146 = .ok (.getfield 16, 3) := by decide +kernel
theorem dX0_tellTrader_149 : decode cX0_tellTrader 149 = .ok (.iload_n 1, 1) := by decide +kernel
theorem dX0_tellTrader_150 : decode cX0_tellTrader 150 = .ok (.iconst 1, 1) := by decide +kernel
theorem dX0_tellTrader_151 : decode cX0_tellTrader 151 = .ok (.invokevirtual 68, 3) := by decide +kernel
theorem dX0_tellTrader_154 : decode cX0_tellTrader 154 = .ok (.ireturn, 1) := by decide +kernel
theorem dX0_tellTrader_155 : decode cX0_tellTrader 155 = .ok (.bipush (-2), 2) := by decide +kernel
theorem dX0_tellTrader_157 : decode cX0_tellTrader 157 = .ok (.ireturn, 1) := by decide +kernel
set_option maxRecDepth 20000 in
theorem ggX0_tellRiddle_X4_has : GoodIn wsX0_tellRiddle wsX4_has := goodIn_r _ [7, 8, 35, 36, 37] (by decide +kernel) (by decide +kernel)
set_option maxRecDepth 20000 in
theorem gX0_tellRiddle_X4_has : GoodIn wsX0_tellRiddle (wsV RX0 61 RX4 yX4_has wsX4_has) := goodIn_app (goodIn_of _ (by decide +kernel)) ggX0_tellRiddle_X4_has
set_option maxRecDepth 20000 in
theorem ggX0_tellRiddle_X4_get : GoodIn wsX0_tellRiddle wsX4_get := goodIn_r _ [12, 13, 14, 35, 36, 37] (by decide +kernel) (by decide +kernel)
set_option maxRecDepth 20000 in
theorem gX0_tellRiddle_X4_get : GoodIn wsX0_tellRiddle (wsV RX0 68 RX4 yX4_get wsX4_get) := goodIn_app (goodIn_of _ (by decide +kernel)) ggX0_tellRiddle_X4_get
set_option maxRecDepth 20000 in
theorem ggX0_tellRiddle_X4_countOf : GoodIn wsX0_tellRiddle wsX4_countOf := goodIn_r _ [18, 8, 19, 10, 11, 6, 12, 13, 14, 35, 36, 37] (by decide +kernel) (by decide +kernel)
set_option maxRecDepth 20000 in
theorem gX0_tellRiddle_X4_countOf : GoodIn wsX0_tellRiddle (wsV RX0 135 RX4 yX4_countOf wsX4_countOf) := goodIn_app (goodIn_of _ (by decide +kernel)) ggX0_tellRiddle_X4_countOf
set_option maxRecDepth 20000 in
theorem ggX0_tellRiddle_X4_countOfBoth : GoodIn wsX0_tellRiddle wsX4_countOfBoth := goodIn_r _ [23, 8, 19, 10, 11, 6, 12, 13, 14, 35, 36, 37] (by decide +kernel) (by decide +kernel)
set_option maxRecDepth 20000 in
theorem gX0_tellRiddle_X4_countOfBoth : GoodIn wsX0_tellRiddle (wsV RX0 72 RX4 yX4_countOfBoth wsX4_countOfBoth) := goodIn_app (goodIn_of _ (by decide +kernel)) ggX0_tellRiddle_X4_countOfBoth
set_option maxRecDepth 20000 in
theorem ggX0_tellRiddle_X4_rowOfBoth : GoodIn wsX0_tellRiddle wsX4_rowOfBoth := goodIn_r _ [27, 8, 19, 10, 11, 6, 12, 13, 14, 35, 36, 37] (by decide +kernel) (by decide +kernel)
set_option maxRecDepth 20000 in
theorem gX0_tellRiddle_X4_rowOfBoth : GoodIn wsX0_tellRiddle (wsV RX0 138 RX4 yX4_rowOfBoth wsX4_rowOfBoth) := goodIn_app (goodIn_of _ (by decide +kernel)) ggX0_tellRiddle_X4_rowOfBoth
theorem dX0_tellRiddle_0 : decode cX0_tellRiddle 0 = .ok (.aload_n 0, 1) := by decide +kernel
theorem dX0_tellRiddle_1 : decode cX0_tellRiddle 1 = .ok (.getfield 20, 3) := by decide +kernel
theorem dX0_tellRiddle_4 : decode cX0_tellRiddle 4 = .ok (.iload_n 1, 1) := by decide +kernel
theorem dX0_tellRiddle_5 : decode cX0_tellRiddle 5 = .ok (.invokevirtual 61, 3) := by decide +kernel
theorem dX0_tellRiddle_8 : decode cX0_tellRiddle 8 = .ok (.ifCond .ne 5, 3) := by decide +kernel
theorem dX0_tellRiddle_11 : decode cX0_tellRiddle 11 = .ok (.iconst (-1), 1) := by decide +kernel
theorem dX0_tellRiddle_12 : decode cX0_tellRiddle 12 = .ok (.ireturn, 1) := by decide +kernel
theorem dX0_tellRiddle_13 : decode cX0_tellRiddle 13 = .ok (.iload_n 2, 1) := by decide +kernel
theorem dX0_tellRiddle_14 : decode cX0_tellRiddle 14 = .ok (.tableswitch 86 0 6 #[42, 42, 42, 42, 52, 62, 74], 42) := by decide +kernel
theorem dX0_tellRiddle_56 : decode cX0_tellRiddle 56 = .ok (.aload_n 0, 1) := by decide +kernel
theorem dX0_tellRiddle_57 : decode cX0_tellRiddle 57 = .ok (.getfield 20, 3) := by decide +kernel
theorem dX0_tellRiddle_60 : decode cX0_tellRiddle 60 = .ok (.iload_n 1, 1) := by decide +kernel
theorem dX0_tellRiddle_61 : decode cX0_tellRiddle 61 = .ok (.iload_n 2, 1) := by decide +kernel
theorem dX0_tellRiddle_62 : decode cX0_tellRiddle 62 = .ok (.invokevirtual 68, 3) := by decide +kernel
theorem dX0_tellRiddle_65 : decode cX0_tellRiddle 65 = .ok (.ireturn, 1) := by decide +kernel
theorem dX0_tellRiddle_66 : decode cX0_tellRiddle 66 = .ok (.aload_n 0, 1) := by decide +kernel
theorem dX0_tellRiddle_67 : decode cX0_tellRiddle 67 = .ok (.getfield 23, 3) := by decide +kernel
theorem dX0_tellRiddle_70 : decode cX0_tellRiddle 70 = .ok (.iconst 1, 1) := by decide +kernel
theorem dX0_tellRiddle_71 : decode cX0_tellRiddle 71 = .ok (.iload_n 1, 1) := by decide +kernel
theorem dX0_tellRiddle_72 : decode cX0_tellRiddle 72 = .ok (.invokevirtual 135, 3) := by decide +kernel
theorem dX0_tellRiddle_75 : decode cX0_tellRiddle 75 = .ok (.ireturn, 1) := by decide +kernel
theorem dX0_tellRiddle_76 : decode cX0_tellRiddle 76 = .ok (.aload_n 0, 1) := by decide +kernel
theorem dX0_tellRiddle_77 : decode cX0_tellRiddle 77 = .ok (.getfield 23, 3) := by decide +kernel
theorem dX0_tellRiddle_80 : decode cX0_tellRiddle 80 = .ok (.iconst 1, 1) := by decide +kernel
theorem dX0_tellRiddle_81 : decode cX0_tellRiddle 81 = .ok (.iload_n 1, 1) := by decide +kernel
theorem dX0_tellRiddle_82 : decode cX0_tellRiddle 82 = .ok (.iconst 4, 1) := by decide +kernel
theorem dX0_tellRiddle_83 : decode cX0_tellRiddle 83 = .ok (.iconst 0, 1) := by decide +kernel
theorem dX0_tellRiddle_84 : decode cX0_tellRiddle 84 = .ok (.invokevirtual 72, 3) := by decide +kernel
theorem dX0_tellRiddle_87 : decode cX0_tellRiddle 87 = .ok (.ireturn, 1) := by decide +kernel
theorem dX0_tellRiddle_88 : decode cX0_tellRiddle 88 = .ok (.aload_n 0, 1) := by decide +kernel
theorem dX0_tellRiddle_89 : decode cX0_tellRiddle 89 = .ok (.getfield 23, 3) := by decide +kernel
theorem dX0_tellRiddle_92 : decode cX0_tellRiddle 92 = .ok (.iconst 1, 1) := by decide +kernel
theorem dX0_tellRiddle_93 : decode cX0_tellRiddle 93 = .ok (.iload_n 1, 1) := by decide +kernel
theorem dX0_tellRiddle_94 : decode cX0_tellRiddle 94 = .ok (.iconst 4, 1) := by decide +kernel
theorem dX0_tellRiddle_95 : decode cX0_tellRiddle 95 = .ok (.iconst 1, 1) := by decide +kernel
theorem dX0_tellRiddle_96 : decode cX0_tellRiddle 96 = .ok (.invokevirtual 138, 3) := by decide +kernel
theorem dX0_tellRiddle_99 : decode cX0_tellRiddle 99 = .ok (.ireturn, 1) := by decide +kernel
theorem dX0_tellRiddle_100 : decode cX0_tellRiddle 100 = .ok (.bipush (-2), 2) := by decide +kernel
theorem dX0_tellRiddle_102 : decode cX0_tellRiddle 102 = .ok (.ireturn, 1) := by decide +kernel
set_option maxRecDepth 20000 in
theorem ggX0_tellAnswer_X4_has : GoodIn wsX0_tellAnswer wsX4_has := goodIn_r _ [7, 8, 34, 35, 36] (by decide +kernel) (by decide +kernel)
set_option maxRecDepth 20000 in
theorem gX0_tellAnswer_X4_has : GoodIn wsX0_tellAnswer (wsV RX0 61 RX4 yX4_has wsX4_has) := goodIn_app (goodIn_of _ (by decide +kernel)) ggX0_tellAnswer_X4_has
set_option maxRecDepth 20000 in
theorem ggX0_tellAnswer_X3_placeOf : GoodIn wsX0_tellAnswer wsX3_placeOf := goodIn_r _ [13, 14, 15, 16, 17, 12, 18, 19, 20, 37, 38, 39] (by decide +kernel) (by decide +kernel)
set_option maxRecDepth 20000 in
theorem gX0_tellAnswer_X3_placeOf : GoodIn wsX0_tellAnswer (wsV RX0 141 RX3 yX3_placeOf wsX3_placeOf) := goodIn_app (goodIn_of _ (by decide +kernel)) ggX0_tellAnswer_X3_placeOf
set_option maxRecDepth 20000 in
theorem ggX0_tellAnswer_X4_get : GoodIn wsX0_tellAnswer wsX4_get := goodIn_r _ [24, 25, 26, 34, 35, 36] (by decide +kernel) (by decide +kernel)
set_option maxRecDepth 20000 in
theorem gX0_tellAnswer_X4_get : GoodIn wsX0_tellAnswer (wsV RX0 68 RX4 yX4_get wsX4_get) := goodIn_app (goodIn_of _ (by decide +kernel)) ggX0_tellAnswer_X4_get
theorem dX0_tellAnswer_0 : decode cX0_tellAnswer 0 = .ok (.aload_n 0, 1) := by decide +kernel
theorem dX0_tellAnswer_1 : decode cX0_tellAnswer 1 = .ok (.getfield 23, 3) := by decide +kernel
theorem dX0_tellAnswer_4 : decode cX0_tellAnswer 4 = .ok (.iload_n 1, 1) := by decide +kernel
theorem dX0_tellAnswer_5 : decode cX0_tellAnswer 5 = .ok (.invokevirtual 61, 3) := by decide +kernel
theorem dX0_tellAnswer_8 : decode cX0_tellAnswer 8 = .ok (.ifCond .ne 5, 3) := by decide +kernel
theorem dX0_tellAnswer_11 : decode cX0_tellAnswer 11 = .ok (.iconst (-1), 1) := by decide +kernel
theorem dX0_tellAnswer_12 : decode cX0_tellAnswer 12 = .ok (.ireturn, 1) := by decide +kernel
theorem dX0_tellAnswer_13 : decode cX0_tellAnswer 13 = .ok (.iload_n 2, 1) := by decide +kernel
theorem dX0_tellAnswer_14 : decode cX0_tellAnswer 14 = .ok (.bipush 8, 2) := by decide +kernel
theorem dX0_tellAnswer_16 : decode cX0_tellAnswer 16 = .ok (.if_icmp .ne 12, 3) := by decide +kernel
theorem dX0_tellAnswer_19 : decode cX0_tellAnswer 19 = .ok (.aload_n 0, 1) := by decide +kernel
theorem dX0_tellAnswer_20 : decode cX0_tellAnswer 20 = .ok (.getfield 35, 3) := by decide +kernel
theorem dX0_tellAnswer_23 : decode cX0_tellAnswer 23 = .ok (.iload_n 1, 1) := by decide +kernel
theorem dX0_tellAnswer_24 : decode cX0_tellAnswer 24 = .ok (.invokevirtual 141, 3) := by decide +kernel
theorem dX0_tellAnswer_27 : decode cX0_tellAnswer 27 = .ok (.ireturn, 1) := by decide +kernel
theorem dX0_tellAnswer_28 : decode cX0_tellAnswer 28 = .ok (.iload_n 2, 1) := by decide +kernel
theorem dX0_tellAnswer_29 : decode cX0_tellAnswer 29 = .ok (.ifCond .lt 9, 3) := by decide +kernel
theorem dX0_tellAnswer_32 : decode cX0_tellAnswer 32 = .ok (.iload_n 2, 1) := by decide +kernel
theorem dX0_tellAnswer_33 : decode cX0_tellAnswer 33 = .ok (.bipush 8, 2) := by decide +kernel
theorem dX0_tellAnswer_35 : decode cX0_tellAnswer 35 = .ok (.if_icmp .le 8, 3) := by decide +kernel
theorem dX0_tellAnswer_38 : decode cX0_tellAnswer 38 = .ok (.bipush (-2), 2) := by decide +kernel
theorem dX0_tellAnswer_40 : decode cX0_tellAnswer 40 = .ok (.goto 12, 3) := by decide +kernel
theorem dX0_tellAnswer_43 : decode cX0_tellAnswer 43 = .ok (.aload_n 0, 1) := by decide +kernel
theorem dX0_tellAnswer_44 : decode cX0_tellAnswer 44 = .ok (.getfield 23, 3) := by decide +kernel
theorem dX0_tellAnswer_47 : decode cX0_tellAnswer 47 = .ok (.iload_n 1, 1) := by decide +kernel
theorem dX0_tellAnswer_48 : decode cX0_tellAnswer 48 = .ok (.iload_n 2, 1) := by decide +kernel
theorem dX0_tellAnswer_49 : decode cX0_tellAnswer 49 = .ok (.invokevirtual 68, 3) := by decide +kernel
theorem dX0_tellAnswer_52 : decode cX0_tellAnswer 52 = .ok (.ireturn, 1) := by decide +kernel
set_option maxRecDepth 20000 in
theorem ggX0_richestTrader_X4_get : GoodIn wsX0_richestTrader wsX4_get := goodIn_r _ [6, 7, 8, 16, 17, 18] (by decide +kernel) (by decide +kernel)
set_option maxRecDepth 20000 in
theorem gX0_richestTrader_X4_get : GoodIn wsX0_richestTrader (wsV RX0 68 RX4 yX4_get wsX4_get) := goodIn_app (goodIn_of _ (by decide +kernel)) ggX0_richestTrader_X4_get
theorem dX0_richestTrader_0 : decode cX0_richestTrader 0 = .ok (.iconst 0, 1) := by decide +kernel
theorem dX0_richestTrader_1 : decode cX0_richestTrader 1 = .ok (.istore_n 1, 1) := by decide +kernel
theorem dX0_richestTrader_2 : decode cX0_richestTrader 2 = .ok (.iconst 1, 1) := by decide +kernel
theorem dX0_richestTrader_3 : decode cX0_richestTrader 3 = .ok (.istore_n 2, 1) := by decide +kernel
theorem dX0_richestTrader_4 : decode cX0_richestTrader 4 = .ok (.iload_n 2, 1) := by decide +kernel
theorem dX0_richestTrader_5 : decode cX0_richestTrader 5 = .ok (.bipush 8, 2) := by decide +kernel
theorem dX0_richestTrader_7 : decode cX0_richestTrader 7 = .ok (.if_icmp .ge 32, 3) := by decide +kernel
theorem dX0_richestTrader_10 : decode cX0_richestTrader 10 = .ok (.aload_n 0, 1) := by decide +kernel
theorem dX0_richestTrader_11 : decode cX0_richestTrader 11 = .ok (.getfield 16, 3) := by decide +kernel
theorem dX0_richestTrader_14 : decode cX0_richestTrader 14 = .ok (.iload_n 2, 1) := by decide +kernel
theorem dX0_richestTrader_15 : decode cX0_richestTrader 15 = .ok (.iconst 0, 1) := by decide +kernel
theorem dX0_richestTrader_16 : decode cX0_richestTrader 16 = .ok (.invokevirtual 68, 3) := by decide +kernel
theorem dX0_richestTrader_19 : decode cX0_richestTrader 19 = .ok (.aload_n 0, 1) := by decide +kernel
theorem dX0_richestTrader_20 : decode cX0_richestTrader 20 = .ok (.getfield 16, 3) := by decide +kernel
theorem dX0_richestTrader_23 : decode cX0_richestTrader 23 = .ok (.iload_n 1, 1) := by decide +kernel
theorem dX0_richestTrader_24 : decode cX0_richestTrader 24 = .ok (.iconst 0, 1) := by decide +kernel
theorem dX0_richestTrader_25 : decode cX0_richestTrader 25 = .ok (.invokevirtual 68, 3) := by decide +kernel
theorem dX0_richestTrader_28 : decode cX0_richestTrader 28 = .ok (.if_icmp .le 5, 3) := by decide +kernel
theorem dX0_richestTrader_31 : decode cX0_richestTrader 31 = .ok (.iload_n 2, 1) := by decide +kernel
theorem dX0_richestTrader_32 : decode cX0_richestTrader 32 = .ok (.istore_n 1, 1) := by decide +kernel
theorem dX0_richestTrader_33 : decode cX0_richestTrader 33 = .ok (.iinc 2 1, 3) := by decide +kernel
theorem dX0_richestTrader_36 : decode cX0_richestTrader 36 = .ok (.goto (-32), 3) := by decide +kernel
theorem dX0_richestTrader_39 : decode cX0_richestTrader 39 = .ok (.iload_n 1, 1) := by decide +kernel
theorem dX0_richestTrader_40 : decode cX0_richestTrader 40 = .ok (.ireturn, 1) := by decide +kernel
set_option maxRecDepth 20000 in
theorem ggX0_tellAccount_X4_has : GoodIn wsX0_tellAccount wsX4_has := goodIn_r _ [9, 10, 28, 29, 30] (by decide +kernel) (by decide +kernel)
set_option maxRecDepth 20000 in
theorem gX0_tellAccount_X4_has : GoodIn wsX0_tellAccount (wsV RX0 61 RX4 yX4_has wsX4_has) := goodIn_app (goodIn_of _ (by decide +kernel)) ggX0_tellAccount_X4_has
set_option maxRecDepth 20000 in
theorem ggX0_tellAccount_X4_get : GoodIn wsX0_tellAccount wsX4_get := goodIn_r _ [14, 15, 16, 28, 29, 30] (by decide +kernel) (by decide +kernel)
set_option maxRecDepth 20000 in
theorem gX0_tellAccount_X4_get : GoodIn wsX0_tellAccount (wsV RX0 68 RX4 yX4_get wsX4_get) := goodIn_app (goodIn_of _ (by decide +kernel)) ggX0_tellAccount_X4_get
set_option maxRecDepth 20000 in
theorem ggX0_tellAccount_X4_rows : GoodIn wsX0_tellAccount wsX4_rows := goodIn_r _ [20, 10, 28, 29, 30] (by decide +kernel) (by decide +kernel)
set_option maxRecDepth 20000 in
theorem gX0_tellAccount_X4_rows : GoodIn wsX0_tellAccount (wsV RX0 65 RX4 yX4_rows wsX4_rows) := goodIn_app (goodIn_of _ (by decide +kernel)) ggX0_tellAccount_X4_rows
theorem dX0_tellAccount_0 : decode cX0_tellAccount 0 = .ok (.aload_n 0, 1) := by decide +kernel
theorem dX0_tellAccount_1 : decode cX0_tellAccount 1 = .ok (.getfield 16, 3) := by decide +kernel
theorem dX0_tellAccount_4 : decode cX0_tellAccount 4 = .ok (.iload_n 1, 1) := by decide +kernel
theorem dX0_tellAccount_5 : decode cX0_tellAccount 5 = .ok (.invokevirtual 61, 3) := by decide +kernel
theorem dX0_tellAccount_8 : decode cX0_tellAccount 8 = .ok (.ifCond .ne 5, 3) := by decide +kernel
theorem dX0_tellAccount_11 : decode cX0_tellAccount 11 = .ok (.iconst (-1), 1) := by decide +kernel
theorem dX0_tellAccount_12 : decode cX0_tellAccount 12 = .ok (.ireturn, 1) := by decide +kernel
theorem dX0_tellAccount_13 : decode cX0_tellAccount 13 = .ok (.bipush 100, 2) := by decide +kernel
theorem dX0_tellAccount_15 : decode cX0_tellAccount 15 = .ok (.aload_n 0, 1) := by decide +kernel
theorem dX0_tellAccount_16 : decode cX0_tellAccount 16 = .ok (.getfield 16, 3) := by decide +kernel
theorem dX0_tellAccount_19 : decode cX0_tellAccount 19 = .ok (.iload_n 1, 1) := by decide +kernel
theorem dX0_tellAccount_20 : decode cX0_tellAccount 20 = .ok (.iconst 1, 1) := by decide +kernel
theorem dX0_tellAccount_21 : decode cX0_tellAccount 21 = .ok (.invokevirtual 68, 3) := by decide +kernel
theorem dX0_tellAccount_24 : decode cX0_tellAccount 24 = .ok (.isub, 1) := by decide +kernel
theorem dX0_tellAccount_25 : decode cX0_tellAccount 25 = .ok (.istore_n 2, 1) := by decide +kernel
theorem dX0_tellAccount_26 : decode cX0_tellAccount 26 = .ok (.iconst 0, 1) := by decide +kernel
theorem dX0_tellAccount_27 : decode cX0_tellAccount 27 = .ok (.istore_n 3, 1) := by decide +kernel
theorem dX0_tellAccount_28 : decode cX0_tellAccount 28 = .ok (.iload_n 3, 1) := by decide +kernel
theorem dX0_tellAccount_29 : decode cX0_tellAccount 29 = .ok (.aload_n 0, 1) := by decide +kernel
theorem dX0_tellAccount_30 : decode cX0_tellAccount 30 = .ok (.getfield 23, 3) := by decide +kernel
theorem dX0_tellAccount_33 : decode cX0_tellAccount 33 = .ok (.invokevirtual 65, 3) := by decide +kernel
theorem dX0_tellAccount_36 : decode cX0_tellAccount 36 = .ok (.if_icmp .ge 65, 3) := by decide +kernel
theorem dX0_tellAccount_39 : decode cX0_tellAccount 39 = .ok (.aload_n 0, 1) := by decide +kernel
theorem dX0_tellAccount_40 : decode cX0_tellAccount 40 = .ok (.getfield 23, 3) := by decide +kernel
theorem dX0_tellAccount_43 : decode cX0_tellAccount 43 = .ok (.iload_n 3, 1) := by decide +kernel
theorem dX0_tellAccount_44 : decode cX0_tellAccount 44 = .ok (.bipush 7, 2) := by decide +kernel
theorem dX0_tellAccount_46 : decode cX0_tellAccount 46 = .ok (.invokevirtual 68, 3) := by decide +kernel
theorem dX0_tellAccount_49 : decode cX0_tellAccount 49 = .ok (.istore 4, 2) := by decide +kernel
theorem dX0_tellAccount_51 : decode cX0_tellAccount 51 = .ok (.aload_n 0, 1) := by decide +kernel
theorem dX0_tellAccount_52 : decode cX0_tellAccount 52 = .ok (.getfield 23, 3) := by decide +kernel
theorem dX0_tellAccount_55 : decode cX0_tellAccount 55 = .ok (.iload_n 3, 1) := by decide +kernel
theorem dX0_tellAccount_56 : decode cX0_tellAccount 56 = .ok (.iconst 0, 1) := by decide +kernel
theorem dX0_tellAccount_57 : decode cX0_tellAccount 57 = .ok (.invokevirtual 68, 3) := by decide +kernel
theorem dX0_tellAccount_60 : decode cX0_tellAccount 60 = .ok (.iload_n 1, 1) := by decide +kernel
theorem dX0_tellAccount_61 : decode cX0_tellAccount 61 = .ok (.if_icmp .ne 8, 3) := by decide +kernel
theorem dX0_tellAccount_64 : decode cX0_tellAccount 64 = .ok (.iload_n 2, 1) := by decide +kernel
theorem dX0_tellAccount_65 : decode cX0_tellAccount 65 = .ok (.iload 4, 2) := by decide +kernel
theorem dX0_tellAccount_67 : decode cX0_tellAccount 67 = .ok (.iadd, 1) := by decide +kernel
theorem dX0_tellAccount_68 : decode cX0_tellAccount 68 = .ok (.istore_n 2, 1) := by decide +kernel
theorem dX0_tellAccount_69 : decode cX0_tellAccount 69 = .ok (.aload_n 0, 1) := by decide +kernel
theorem dX0_tellAccount_70 : decode cX0_tellAccount 70 = .ok (.getfield 20, 3) := by decide +kernel
theorem dX0_tellAccount_73 : decode cX0_tellAccount 73 = .ok (.aload_n 0, 1) := by decide +kernel
theorem dX0_tellAccount_74 : decode cX0_tellAccount 74 = .ok (.getfield 23, 3) := by decide +kernel
theorem dX0_tellAccount_77 : decode cX0_tellAccount 77 = .ok (.iload_n 3, 1) := by decide +kernel
theorem dX0_tellAccount_78 : decode cX0_tellAccount 78 = .ok (.iconst 1, 1) := by decide +kernel
theorem dX0_tellAccount_79 : decode cX0_tellAccount 79 = .ok (.invokevirtual 68, 3) := by decide +kernel
theorem dX0_tellAccount_82 : decode cX0_tellAccount 82 = .ok (.iconst 0, 1) := by decide +kernel
theorem dX0_tellAccount_83 : decode cX0_tellAccount 83 = .ok (.invokevirtual 68, 3) := by decide +kernel
theorem dX0_tellAccount_86 : decode cX0_tellAccount 86 = .ok (.iload_n 1, 1) := by decide +kernel
theorem dX0_tellAccount_87 : decode cX0_tellAccount 87 = .ok (.if_icmp .ne 8, 3) := by decide +kernel
theorem dX0_tellAccount_90 : decode cX0_tellAccount 90 = .ok (.iload_n 2, 1) := by decide +kernel
theorem dX0_tellAccount_91 : decode cX0_tellAccount 91 = .ok (.iload 4, 2) := by decide +kernel
theorem dX0_tellAccount_93 : decode cX0_tellAccount 93 = .ok (.isub, 1) := by decide +kernel
theorem dX0_tellAccount_94 : decode cX0_tellAccount 94 = .ok (.istore_n 2, 1) := by decide +kernel
theorem dX0_tellAccount_95 : decode cX0_tellAccount 95 = .ok (.iinc 3 1, 3) := by decide +kernel
theorem dX0_tellAccount_98 : decode cX0_tellAccount 98 = .ok (.goto (-70), 3) := by decide +kernel
theorem dX0_tellAccount_101 : decode cX0_tellAccount 101 = .ok (.iload_n 2, 1) := by decide +kernel
theorem dX0_tellAccount_102 : decode cX0_tellAccount 102 = .ok (.ldc 144, 2) := by decide +kernel
theorem dX0_tellAccount_104 : decode cX0_tellAccount 104 = .ok (.iadd, 1) := by decide +kernel
theorem dX0_tellAccount_105 : decode cX0_tellAccount 105 = .ok (.ireturn, 1) := by decide +kernel
set_option maxRecDepth 20000 in
theorem ggX0_tellCount_X4_rows : GoodIn wsX0_tellCount wsX4_rows := goodIn_r _ [12, 13, 47, 48, 49] (by decide +kernel) (by decide +kernel)
set_option maxRecDepth 20000 in
theorem gX0_tellCount_X4_rows : GoodIn wsX0_tellCount (wsV RX0 65 RX4 yX4_rows wsX4_rows) := goodIn_app (goodIn_of _ (by decide +kernel)) ggX0_tellCount_X4_rows
set_option maxRecDepth 20000 in
theorem ggX0_tellCount_X4_countOf : GoodIn wsX0_tellCount wsX4_countOf := goodIn_r _ [17, 13, 18, 19, 20, 11, 21, 22, 23, 47, 48, 49] (by decide +kernel) (by decide +kernel)
set_option maxRecDepth 20000 in
theorem gX0_tellCount_X4_countOf : GoodIn wsX0_tellCount (wsV RX0 135 RX4 yX4_countOf wsX4_countOf) := goodIn_app (goodIn_of _ (by decide +kernel)) ggX0_tellCount_X4_countOf
set_option maxRecDepth 20000 in
theorem ggX0_tellCount_X3_length : GoodIn wsX0_tellCount wsX3_length := goodIn_r _ [28, 29, 50, 51, 52] (by decide +kernel) (by decide +kernel)
set_option maxRecDepth 20000 in
theorem gX0_tellCount_X3_length : GoodIn wsX0_tellCount (wsV RX0 89 RX3 yX3_length wsX3_length) := goodIn_app (goodIn_of _ (by decide +kernel)) ggX0_tellCount_X3_length
set_option maxRecDepth 20000 in
theorem ggX0_tellCount_X4_sumOf : GoodIn wsX0_tellCount wsX4_sumOf := goodIn_r _ [33, 13, 18, 19, 20, 11, 21, 22, 23, 47, 48, 49] (by decide +kernel) (by decide +kernel)
set_option maxRecDepth 20000 in
theorem gX0_tellCount_X4_sumOf : GoodIn wsX0_tellCount (wsV RX0 145 RX4 yX4_sumOf wsX4_sumOf) := goodIn_app (goodIn_of _ (by decide +kernel)) ggX0_tellCount_X4_sumOf
set_option maxRecDepth 20000 in
theorem ggX0_tellCount_X0_tradersInDebt : GoodIn wsX0_tellCount wsX0_tradersInDebt := goodIn_r _ [38, 6, 39, 19, 20, 11, 21, 22, 23, 40, 41, 42, 43, 44, 45, 46, 47, 48, 49] (by decide +kernel) (by decide +kernel)
set_option maxRecDepth 20000 in
theorem gX0_tellCount_X0_tradersInDebt : GoodIn wsX0_tellCount (wsV RX0 148 RX0 yX0_tradersInDebt wsX0_tradersInDebt) := goodIn_app (goodIn_of _ (by decide +kernel)) ggX0_tellCount_X0_tradersInDebt
set_option maxRecDepth 20000 in
theorem ggX0_tellCount_X4_get : GoodIn wsX0_tellCount wsX4_get := goodIn_r _ [21, 22, 23, 47, 48, 49] (by decide +kernel) (by decide +kernel)
set_option maxRecDepth 20000 in
theorem gX0_tellCount_X4_get : GoodIn wsX0_tellCount (wsV RX0 68 RX4 yX4_get wsX4_get) := goodIn_app (goodIn_of _ (by decide +kernel)) ggX0_tellCount_X4_get
theorem dX0_tellCount_0 : decode cX0_tellCount 0 = .ok (.iload_n 1, 1) := by decide +kernel
theorem dX0_tellCount_1 : decode cX0_tellCount 1 = .ok (.tableswitch 218 0 17 #[87, 92, 100, 110, 118, 126, 136, 146, 156, 165, 174, 179, 189, 189, 205, 205, 205, 205], 87) := by decide +kernel
theorem dX0_tellCount_88 : decode cX0_tellCount 88 = .ok (.aload_n 0, 1) := by decide +kernel
theorem dX0_tellCount_89 : decode cX0_tellCount 89 = .ok (.getfield 57, 3) := by decide +kernel
theorem dX0_tellCount_92 : decode cX0_tellCount 92 = .ok (.ireturn, 1) := by decide +kernel
theorem dX0_tellCount_93 : decode cX0_tellCount 93 = .ok (.aload_n 0, 1) := by decide +kernel
theorem dX0_tellCount_94 : decode cX0_tellCount 94 = .ok (.getfield 20, 3) := by decide +kernel
theorem dX0_tellCount_97 : decode cX0_tellCount 97 = .ok (.invokevirtual 65, 3) := by decide +kernel
theorem dX0_tellCount_100 : decode cX0_tellCount 100 = .ok (.ireturn, 1) := by decide +kernel
theorem dX0_tellCount_101 : decode cX0_tellCount 101 = .ok (.aload_n 0, 1) := by decide +kernel
theorem dX0_tellCount_102 : decode cX0_tellCount 102 = .ok (.getfield 20, 3) := by decide +kernel
theorem dX0_tellCount_105 : decode cX0_tellCount 105 = .ok (.iconst 3, 1) := by decide +kernel
theorem dX0_tellCount_106 : decode cX0_tellCount 106 = .ok (.iconst 0, 1) := by decide +kernel
theorem dX0_tellCount_107 : decode cX0_tellCount 107 = .ok (.invokevirtual 135, 3) := by decide +kernel
theorem dX0_tellCount_110 : decode cX0_tellCount 110 = .ok (.ireturn, 1) := by decide +kernel
theorem dX0_tellCount_111 : decode cX0_tellCount 111 = .ok (.aload_n 0, 1) := by decide +kernel
theorem dX0_tellCount_112 : decode cX0_tellCount 112 = .ok (.getfield 23, 3) := by decide +kernel
theorem dX0_tellCount_115 : decode cX0_tellCount 115 = .ok (.invokevirtual 65, 3) := by decide +kernel
theorem dX0_tellCount_118 : decode cX0_tellCount 118 = .ok (.ireturn, 1) := by decide +kernel
theorem dX0_tellCount_119 : decode cX0_tellCount 119 = .ok (.aload_n 0, 1) := by decide +kernel
theorem dX0_tellCount_120 : decode cX0_tellCount 120 = .ok (.getfield 35, 3) := by decide +kernel
theorem dX0_tellCount_123 : decode cX0_tellCount 123 = .ok (.invokevirtual 89, 3) := by decide +kernel
theorem dX0_tellCount_126 : decode cX0_tellCount 126 = .ok (.ireturn, 1) := by decide +kernel
theorem dX0_tellCount_127 : decode cX0_tellCount 127 = .ok (.aload_n 0, 1) := by decide +kernel
theorem dX0_tellCount_128 : decode cX0_tellCount 128 = .ok (.getfield 23, 3) := by decide +kernel
theorem dX0_tellCount_131 : decode cX0_tellCount 131 = .ok (.iconst 4, 1) := by decide +kernel
theorem dX0_tellCount_132 : decode cX0_tellCount 132 = .ok (.iconst 1, 1) := by decide +kernel
theorem dX0_tellCount_133 : decode cX0_tellCount 133 = .ok (.invokevirtual 135, 3) := by decide +kernel
theorem dX0_tellCount_136 : decode cX0_tellCount 136 = .ok (.ireturn, 1) := by decide +kernel
theorem dX0_tellCount_137 : decode cX0_tellCount 137 = .ok (.aload_n 0, 1) := by decide +kernel
theorem dX0_tellCount_138 : decode cX0_tellCount 138 = .ok (.getfield 23, 3) := by decide +kernel
theorem dX0_tellCount_141 : decode cX0_tellCount 141 = .ok (.iconst 4, 1) := by decide +kernel
theorem dX0_tellCount_142 : decode cX0_tellCount 142 = .ok (.iconst 2, 1) := by decide +kernel
theorem dX0_tellCount_143 : decode cX0_tellCount 143 = .ok (.invokevirtual 135, 3) := by decide +kernel
theorem dX0_tellCount_146 : decode cX0_tellCount 146 = .ok (.ireturn, 1) := by decide +kernel
theorem dX0_tellCount_147 : decode cX0_tellCount 147 = .ok (.aload_n 0, 1) := by decide +kernel
theorem dX0_tellCount_148 : decode cX0_tellCount 148 = .ok (.getfield 23, 3) := by decide +kernel
theorem dX0_tellCount_151 : decode cX0_tellCount 151 = .ok (.bipush 6, 2) := by decide +kernel
theorem dX0_tellCount_153 : decode cX0_tellCount 153 = .ok (.invokevirtual 145, 3) := by decide +kernel
theorem dX0_tellCount_156 : decode cX0_tellCount 156 = .ok (.ireturn, 1) := by decide +kernel
theorem dX0_tellCount_157 : decode cX0_tellCount 157 = .ok (.aload_n 0, 1) := by decide +kernel
theorem dX0_tellCount_158 : decode cX0_tellCount 158 = .ok (.getfield 26, 3) := by decide +kernel
theorem dX0_tellCount_161 : decode cX0_tellCount 161 = .ok (.iconst 1, 1) := by decide +kernel
theorem dX0_tellCount_162 : decode cX0_tellCount 162 = .ok (.invokevirtual 145, 3) := by decide +kernel
theorem dX0_tellCount_165 : decode cX0_tellCount 165 = .ok (.ireturn, 1) := by decide +kernel
theorem dX0_tellCount_166 : decode cX0_tellCount 166 = .ok (.aload_n 0, 1) := by decide +kernel
theorem dX0_tellCount_167 : decode cX0_tellCount 167 = .ok (.getfield 16, 3) := by decide +kernel
theorem dX0_tellCount_170 : decode cX0_tellCount 170 = .ok (.iconst 1, 1) := by decide +kernel
theorem dX0_tellCount_171 : decode cX0_tellCount 171 = .ok (.invokevirtual 145, 3) := by decide +kernel
theorem dX0_tellCount_174 : decode cX0_tellCount 174 = .ok (.ireturn, 1) := by decide +kernel
theorem dX0_tellCount_175 : decode cX0_tellCount 175 = .ok (.aload_n 0, 1) := by decide +kernel
theorem dX0_tellCount_176 : decode cX0_tellCount 176 = .ok (.invokevirtual 148, 3) := by decide +kernel
theorem dX0_tellCount_179 : decode cX0_tellCount 179 = .ok (.ireturn, 1) := by decide +kernel
theorem dX0_tellCount_180 : decode cX0_tellCount 180 = .ok (.aload_n 0, 1) := by decide +kernel
theorem dX0_tellCount_181 : decode cX0_tellCount 181 = .ok (.getfield 23, 3) := by decide +kernel
theorem dX0_tellCount_184 : decode cX0_tellCount 184 = .ok (.bipush 7, 2) := by decide +kernel
theorem dX0_tellCount_186 : decode cX0_tellCount 186 = .ok (.invokevirtual 145, 3) := by decide +kernel
theorem dX0_tellCount_189 : decode cX0_tellCount 189 = .ok (.ireturn, 1) := by decide +kernel
theorem dX0_tellCount_190 : decode cX0_tellCount 190 = .ok (.aload_n 0, 1) := by decide +kernel
theorem dX0_tellCount_191 : decode cX0_tellCount 191 = .ok (.getfield 26, 3) := by decide +kernel
theorem dX0_tellCount_194 : decode cX0_tellCount 194 = .ok (.iload_n 1, 1) := by decide +kernel
theorem dX0_tellCount_195 : decode cX0_tellCount 195 = .ok (.bipush 12, 2) := by decide +kernel
theorem dX0_tellCount_197 : decode cX0_tellCount 197 = .ok (.isub, 1) := by decide +kernel
theorem dX0_tellCount_198 : decode cX0_tellCount 198 = .ok (.iconst 0, 1) := by decide +kernel
theorem dX0_tellCount_199 : decode cX0_tellCount 199 = .ok (.invokevirtual 68, 3) := by decide +kernel
theorem dX0_tellCount_202 : decode cX0_tellCount 202 = .ok (.bipush 9, 2) := by decide +kernel
theorem dX0_tellCount_204 : decode cX0_tellCount 204 = .ok (.iadd, 1) := by decide +kernel
theorem dX0_tellCount_205 : decode cX0_tellCount 205 = .ok (.ireturn, 1) := by decide +kernel
theorem dX0_tellCount_206 : decode cX0_tellCount 206 = .ok (.aload_n 0, 1) := by decide +kernel
theorem dX0_tellCount_207 : decode cX0_tellCount 207 = .ok (.getfield 29, 3) := by decide +kernel
theorem dX0_tellCount_210 : decode cX0_tellCount 210 = .ok (.iload_n 1, 1) := by decide +kernel
theorem dX0_tellCount_211 : decode cX0_tellCount 211 = .ok (.bipush 14, 2) := by decide +kernel
theorem dX0_tellCount_213 : decode cX0_tellCount 213 = .ok (.isub, 1) := by decide +kernel
theorem dX0_tellCount_214 : decode cX0_tellCount 214 = .ok (.iconst 0, 1) := by decide +kernel
theorem dX0_tellCount_215 : decode cX0_tellCount 215 = .ok (.invokevirtual 68, 3) := by decide +kernel
theorem dX0_tellCount_218 : decode cX0_tellCount 218 = .ok (.ireturn, 1) := by decide +kernel
theorem dX0_tellCount_219 : decode cX0_tellCount 219 = .ok (.bipush (-2), 2) := by decide +kernel
theorem dX0_tellCount_221 : decode cX0_tellCount 221 = .ok (.ireturn, 1) := by decide +kernel
set_option maxRecDepth 20000 in
theorem ggX0_tradersInDebt_X4_get : GoodIn wsX0_tradersInDebt wsX4_get := goodIn_r _ [6, 7, 8, 16, 17, 18] (by decide +kernel) (by decide +kernel)
set_option maxRecDepth 20000 in
theorem gX0_tradersInDebt_X4_get : GoodIn wsX0_tradersInDebt (wsV RX0 68 RX4 yX4_get wsX4_get) := goodIn_app (goodIn_of _ (by decide +kernel)) ggX0_tradersInDebt_X4_get
theorem dX0_tradersInDebt_0 : decode cX0_tradersInDebt 0 = .ok (.iconst 0, 1) := by decide +kernel
theorem dX0_tradersInDebt_1 : decode cX0_tradersInDebt 1 = .ok (.istore_n 1, 1) := by decide +kernel
theorem dX0_tradersInDebt_2 : decode cX0_tradersInDebt 2 = .ok (.iconst 0, 1) := by decide +kernel
theorem dX0_tradersInDebt_3 : decode cX0_tradersInDebt 3 = .ok (.istore_n 2, 1) := by decide +kernel
theorem dX0_tradersInDebt_4 : decode cX0_tradersInDebt 4 = .ok (.iload_n 2, 1) := by decide +kernel
theorem dX0_tradersInDebt_5 : decode cX0_tradersInDebt 5 = .ok (.bipush 8, 2) := by decide +kernel
theorem dX0_tradersInDebt_7 : decode cX0_tradersInDebt 7 = .ok (.if_icmp .ge 24, 3) := by decide +kernel
theorem dX0_tradersInDebt_10 : decode cX0_tradersInDebt 10 = .ok (.aload_n 0, 1) := by decide +kernel
theorem dX0_tradersInDebt_11 : decode cX0_tradersInDebt 11 = .ok (.getfield 16, 3) := by decide +kernel
theorem dX0_tradersInDebt_14 : decode cX0_tradersInDebt 14 = .ok (.iload_n 2, 1) := by decide +kernel
theorem dX0_tradersInDebt_15 : decode cX0_tradersInDebt 15 = .ok (.iconst 0, 1) := by decide +kernel
theorem dX0_tradersInDebt_16 : decode cX0_tradersInDebt 16 = .ok (.invokevirtual 68, 3) := by decide +kernel
theorem dX0_tradersInDebt_19 : decode cX0_tradersInDebt 19 = .ok (.ifCond .ge 6, 3) := by decide +kernel
theorem dX0_tradersInDebt_22 : decode cX0_tradersInDebt 22 = .ok (.iinc 1 1, 3) := by decide +kernel
theorem dX0_tradersInDebt_25 : decode cX0_tradersInDebt 25 = .ok (.iinc 2 1, 3) := by decide +kernel
theorem dX0_tradersInDebt_28 : decode cX0_tradersInDebt 28 = .ok (.goto (-24), 3) := by decide +kernel
theorem dX0_tradersInDebt_31 : decode cX0_tradersInDebt 31 = .ok (.iload_n 1, 1) := by decide +kernel
theorem dX0_tradersInDebt_32 : decode cX0_tradersInDebt 32 = .ok (.ireturn, 1) := by decide +kernel
end
section
set_option maxRecDepth 20000 in
theorem ggX1_init_X0_init : GoodIn wsX1_init wsX0_init := goodIn_r _ [10, 11, 2, 3, 12, 13, 14, 15, 16, 17, 18, 19, 20, 21, 22, 23, 24, 25, 26, 27, 28, 29, 30, 31, 32, 33, 34, 35, 36, 37, 38, 39, 40, 41, 42, 43, 44, 45, 46, 7, 47, 58, 59, 60, 51, 52, 53, 54, 55, 56, 57, 61, 62, 63] (by decide +kernel) (by decide +kernel)
set_option maxRecDepth 20000 in
theorem gX1_init_X0_init : GoodIn wsX1_init (wsX0_init) := ggX1_init_X0_init
theorem dX1_init_0 : decode cX1_init 0 = .ok (.aload_n 0, 1) := by decide +kernel
theorem dX1_init_1 : decode cX1_init 1 = .ok (.invokespecial 3, 3) := by decide +kernel
theorem dX1_init_4 : decode cX1_init 4 = .ok (.aload_n 0, 1) := by decide +kernel
theorem dX1_init_5 : decode cX1_init 5 = .ok (.iconst 4, 1) := by decide +kernel
theorem dX1_init_6 : decode cX1_init 6 = .ok (.anewarray 9, 3) := by decide +kernel
theorem dX1_init_9 : decode cX1_init 9 = .ok (.putfield 11, 3) := by decide +kernel
theorem dX1_init_12 : decode cX1_init 12 = .ok (.iconst 0, 1) := by decide +kernel
theorem dX1_init_13 : decode cX1_init 13 = .ok (.istore_n 1, 1) := by decide +kernel
theorem dX1_init_14 : decode cX1_init 14 = .ok (.iload_n 1, 1) := by decide +kernel
theorem dX1_init_15 : decode cX1_init 15 = .ok (.aload_n 0, 1) := by decide +kernel
theorem dX1_init_16 : decode cX1_init 16 = .ok (.getfield 11, 3) := by decide +kernel
theorem dX1_init_19 : decode cX1_init 19 = .ok (.arraylength, 1) := by decide +kernel
theorem dX1_init_20 : decode cX1_init 20 = .ok (.if_icmp .ge 22, 3) := by decide +kernel
theorem dX1_init_23 : decode cX1_init 23 = .ok (.aload_n 0, 1) := by decide +kernel
theorem dX1_init_24 : decode cX1_init 24 = .ok (.getfield 11, 3) := by decide +kernel
theorem dX1_init_27 : decode cX1_init 27 = .ok (.iload_n 1, 1) := by decide +kernel
theorem dX1_init_28 : decode cX1_init 28 = .ok (.new 9, 3) := by decide +kernel
theorem dX1_init_31 : decode cX1_init 31 = .ok (.dup, 1) := by decide +kernel
theorem dX1_init_32 : decode cX1_init 32 = .ok (.invokespecial 17, 3) := by decide +kernel
theorem dX1_init_35 : decode cX1_init 35 = .ok (.aastore, 1) := by decide +kernel
theorem dX1_init_36 : decode cX1_init 36 = .ok (.iinc 1 1, 3) := by decide +kernel
theorem dX1_init_39 : decode cX1_init 39 = .ok (.goto (-25), 3) := by decide +kernel
theorem dX1_init_42 : decode cX1_init 42 = .ok (.return_, 1) := by decide +kernel
theorem dX1_size_0 : decode cX1_size 0 = .ok (.aload_n 0, 1) := by decide +kernel
theorem dX1_size_1 : decode cX1_size 1 = .ok (.getfield 18, 3) := by decide +kernel
theorem dX1_size_4 : decode cX1_size 4 = .ok (.ireturn, 1) := by decide +kernel
set_option maxRecDepth 20000 in
theorem ggX1_record_X1_stateAt : GoodIn wsX1_record wsX1_stateAt := goodIn_r _ [7, 2, 8, 46, 47, 48] (by decide +kernel) (by decide +kernel)
set_option maxRecDepth 20000 in
theorem gX1_record_X1_stateAt : GoodIn wsX1_record (wsV RX1 25 RX1 yX1_stateAt wsX1_stateAt) := goodIn_app (goodIn_of _ (by decide +kernel)) ggX1_record_X1_stateAt
set_option maxRecDepth 20000 in
theorem ggX1_record_X0_copyFrom : GoodIn wsX1_record wsX0_copyFrom := goodIn_r _ [13, 14, 15, 16, 17, 18, 19, 20, 21, 22, 23, 24, 25, 26, 27, 28, 29, 30, 31, 32, 33, 34, 35, 36, 37, 38, 39, 40, 41, 42, 43, 44, 45, 49, 50, 51, 52, 53, 54, 55, 56, 57, 58, 59, 60, 61] (by decide +kernel) (by decide +kernel)
set_option maxRecDepth 20000 in
theorem gX1_record_X0_copyFrom : GoodIn wsX1_record (wsV RX1 29 RX0 yX0_copyFrom wsX0_copyFrom) := goodIn_app (goodIn_of _ (by decide +kernel)) ggX1_record_X0_copyFrom
theorem dX1_record_0 : decode cX1_record 0 = .ok (.aload_n 0, 1) := by decide +kernel
theorem dX1_record_1 : decode cX1_record 1 = .ok (.getfield 18, 3) := by decide +kernel
theorem dX1_record_4 : decode cX1_record 4 = .ok (.iconst 4, 1) := by decide +kernel
theorem dX1_record_5 : decode cX1_record 5 = .ok (.if_icmp .lt 25, 3) := by decide +kernel
theorem dX1_record_8 : decode cX1_record 8 = .ok (.aload_n 0, 1) := by decide +kernel
theorem dX1_record_9 : decode cX1_record 9 = .ok (.aload_n 0, 1) := by decide +kernel
theorem dX1_record_10 : decode cX1_record 10 = .ok (.getfield 22, 3) := by decide +kernel
theorem dX1_record_13 : decode cX1_record 13 = .ok (.iconst 1, 1) := by decide +kernel
theorem dX1_record_14 : decode cX1_record 14 = .ok (.iadd, 1) := by decide +kernel
theorem dX1_record_15 : decode cX1_record 15 = .ok (.iconst 4, 1) := by decide +kernel
theorem dX1_record_16 : decode cX1_record 16 = .ok (.irem, 1) := by decide +kernel
theorem dX1_record_17 : decode cX1_record 17 = .ok (.putfield 22, 3) := by decide +kernel
theorem dX1_record_20 : decode cX1_record 20 = .ok (.aload_n 0, 1) := by decide +kernel
theorem dX1_record_21 : decode cX1_record 21 = .ok (.dup, 1) := by decide +kernel
theorem dX1_record_22 : decode cX1_record 22 = .ok (.getfield 18, 3) := by decide +kernel
theorem dX1_record_25 : decode cX1_record 25 = .ok (.iconst 1, 1) := by decide +kernel
theorem dX1_record_26 : decode cX1_record 26 = .ok (.isub, 1) := by decide +kernel
theorem dX1_record_27 : decode cX1_record 27 = .ok (.putfield 18, 3) := by decide +kernel
theorem dX1_record_30 : decode cX1_record 30 = .ok (.aload_n 0, 1) := by decide +kernel
theorem dX1_record_31 : decode cX1_record 31 = .ok (.aload_n 0, 1) := by decide +kernel
theorem dX1_record_32 : decode cX1_record 32 = .ok (.getfield 18, 3) := by decide +kernel
theorem dX1_record_35 : decode cX1_record 35 = .ok (.invokevirtual 25, 3) := by decide +kernel
theorem dX1_record_38 : decode cX1_record 38 = .ok (.astore_n 2, 1) := by decide +kernel
theorem dX1_record_39 : decode cX1_record 39 = .ok (.aload_n 2, 1) := by decide +kernel
theorem dX1_record_40 : decode cX1_record 40 = .ok (.ifnull 18, 3) := by decide +kernel
theorem dX1_record_43 : decode cX1_record 43 = .ok (.aload_n 2, 1) := by decide +kernel
theorem dX1_record_44 : decode cX1_record 44 = .ok (.aload_n 1, 1) := by decide +kernel
theorem dX1_record_45 : decode cX1_record 45 = .ok (.invokevirtual 29, 3) := by decide +kernel
theorem dX1_record_48 : decode cX1_record 48 = .ok (.aload_n 0, 1) := by decide +kernel
theorem dX1_record_49 : decode cX1_record 49 = .ok (.dup, 1) := by decide +kernel
theorem dX1_record_50 : decode cX1_record 50 = .ok (.getfield 18, 3) := by decide +kernel
theorem dX1_record_53 : decode cX1_record 53 = .ok (.iconst 1, 1) := by decide +kernel
theorem dX1_record_54 : decode cX1_record 54 = .ok (.iadd, 1) := by decide +kernel
theorem dX1_record_55 : decode cX1_record 55 = .ok (.putfield 18, 3) := by decide +kernel
theorem dX1_record_58 : decode cX1_record 58 = .ok (.return_, 1) := by decide +kernel
set_option maxRecDepth 20000 in
theorem ggX1_takeBackInto_X1_stateAt : GoodIn wsX1_takeBackInto wsX1_stateAt := goodIn_r _ [6, 7, 8, 46, 47, 48] (by decide +kernel) (by decide +kernel)
set_option maxRecDepth 20000 in
theorem gX1_takeBackInto_X1_stateAt : GoodIn wsX1_takeBackInto (wsV RX1 25 RX1 yX1_stateAt wsX1_stateAt) := goodIn_app (goodIn_of _ (by decide +kernel)) ggX1_takeBackInto_X1_stateAt
set_option maxRecDepth 20000 in
theorem ggX1_takeBackInto_X0_copyFrom : GoodIn wsX1_takeBackInto wsX0_copyFrom := goodIn_r _ [13, 14, 15, 16, 17, 18, 19, 20, 21, 22, 23, 24, 25, 26, 27, 28, 29, 30, 31, 32, 33, 34, 35, 36, 37, 38, 39, 40, 41, 42, 43, 44, 45, 49, 50, 51, 52, 53, 54, 55, 56, 57, 58, 59, 60, 61] (by decide +kernel) (by decide +kernel)
set_option maxRecDepth 20000 in
theorem gX1_takeBackInto_X0_copyFrom : GoodIn wsX1_takeBackInto (wsV RX1 29 RX0 yX0_copyFrom wsX0_copyFrom) := goodIn_app (goodIn_of _ (by decide +kernel)) ggX1_takeBackInto_X0_copyFrom
theorem dX1_takeBackInto_0 : decode cX1_takeBackInto 0 = .ok (.aload_n 0, 1) := by decide +kernel
theorem dX1_takeBackInto_1 : decode cX1_takeBackInto 1 = .ok (.aload_n 0, 1) := by decide +kernel
theorem dX1_takeBackInto_2 : decode cX1_takeBackInto 2 = .ok (.getfield 18, 3) := by decide +kernel
theorem dX1_takeBackInto_5 : decode cX1_takeBackInto 5 = .ok (.iconst 1, 1) := by decide +kernel
theorem dX1_takeBackInto_6 : decode cX1_takeBackInto 6 = .ok (.isub, 1) := by decide +kernel
theorem dX1_takeBackInto_7 : decode cX1_takeBackInto 7 = .ok (.invokevirtual 25, 3) := by decide +kernel
theorem dX1_takeBackInto_10 : decode cX1_takeBackInto 10 = .ok (.astore_n 2, 1) := by decide +kernel
theorem dX1_takeBackInto_11 : decode cX1_takeBackInto 11 = .ok (.aload_n 0, 1) := by decide +kernel
theorem dX1_takeBackInto_12 : decode cX1_takeBackInto 12 = .ok (.getfield 18, 3) := by decide +kernel
theorem dX1_takeBackInto_15 : decode cX1_takeBackInto 15 = .ok (.ifCond .le 7, 3) := by decide +kernel
theorem dX1_takeBackInto_18 : decode cX1_takeBackInto 18 = .ok (.aload_n 2, 1) := by decide +kernel
theorem dX1_takeBackInto_19 : decode cX1_takeBackInto 19 = .ok (.ifnonnull 6, 3) := by decide +kernel
theorem dX1_takeBackInto_22 : decode cX1_takeBackInto 22 = .ok (.bipush (-5), 2) := by decide +kernel
theorem dX1_takeBackInto_24 : decode cX1_takeBackInto 24 = .ok (.ireturn, 1) := by decide +kernel
theorem dX1_takeBackInto_25 : decode cX1_takeBackInto 25 = .ok (.aload_n 1, 1) := by decide +kernel
theorem dX1_takeBackInto_26 : decode cX1_takeBackInto 26 = .ok (.aload_n 2, 1) := by decide +kernel
theorem dX1_takeBackInto_27 : decode cX1_takeBackInto 27 = .ok (.invokevirtual 29, 3) := by decide +kernel
theorem dX1_takeBackInto_30 : decode cX1_takeBackInto 30 = .ok (.aload_n 0, 1) := by decide +kernel
theorem dX1_takeBackInto_31 : decode cX1_takeBackInto 31 = .ok (.dup, 1) := by decide +kernel
theorem dX1_takeBackInto_32 : decode cX1_takeBackInto 32 = .ok (.getfield 18, 3) := by decide +kernel
theorem dX1_takeBackInto_35 : decode cX1_takeBackInto 35 = .ok (.iconst 1, 1) := by decide +kernel
theorem dX1_takeBackInto_36 : decode cX1_takeBackInto 36 = .ok (.isub, 1) := by decide +kernel
theorem dX1_takeBackInto_37 : decode cX1_takeBackInto 37 = .ok (.putfield 18, 3) := by decide +kernel
theorem dX1_takeBackInto_40 : decode cX1_takeBackInto 40 = .ok (.aload_n 0, 1) := by decide +kernel
theorem dX1_takeBackInto_41 : decode cX1_takeBackInto 41 = .ok (.getfield 18, 3) := by decide +kernel
theorem dX1_takeBackInto_44 : decode cX1_takeBackInto 44 = .ok (.ireturn, 1) := by decide +kernel
theorem dX1_stateAt_0 : decode cX1_stateAt 0 = .ok (.aload_n 0, 1) := by decide +kernel
theorem dX1_stateAt_1 : decode cX1_stateAt 1 = .ok (.getfield 22, 3) := by decide +kernel
theorem dX1_stateAt_4 : decode cX1_stateAt 4 = .ok (.iload_n 1, 1) := by decide +kernel
theorem dX1_stateAt_5 : decode cX1_stateAt 5 = .ok (.iadd, 1) := by decide +kernel
theorem dX1_stateAt_6 : decode cX1_stateAt 6 = .ok (.iconst 4, 1) := by decide +kernel
theorem dX1_stateAt_7 : decode cX1_stateAt 7 = .ok (.irem, 1) := by decide +kernel
theorem dX1_stateAt_8 : decode cX1_stateAt 8 = .ok (.istore_n 2, 1) := by decide +kernel
theorem dX1_stateAt_9 : decode cX1_stateAt 9 = .ok (.iload_n 2, 1) := by decide +kernel
theorem dX1_stateAt_10 : decode cX1_stateAt 10 = .ok (.ifCond .lt 21, 3) := by decide +kernel
theorem dX1_stateAt_13 : decode cX1_stateAt 13 = .ok (.iload_n 2, 1) := by decide +kernel
theorem dX1_stateAt_14 : decode cX1_stateAt 14 = .ok (.aload_n 0, 1) := by decide +kernel
theorem dX1_stateAt_15 : decode cX1_stateAt 15 = .ok (.getfield 11, 3) := by decide +kernel
theorem dX1_stateAt_18 : decode cX1_stateAt 18 = .ok (.arraylength, 1) := by decide +kernel
theorem dX1_stateAt_19 : decode cX1_stateAt 19 = .ok (.if_icmp .ge 12, 3) := by decide +kernel
theorem dX1_stateAt_22 : decode cX1_stateAt 22 = .ok (.aload_n 0, 1) := by decide +kernel
theorem dX1_stateAt_23 : decode cX1_stateAt 23 = .ok (.getfield 11, 3) := by decide +kernel
theorem dX1_stateAt_26 : decode cX1_stateAt 26 = .ok (.iload_n 2, 1) := by decide +kernel
theorem dX1_stateAt_27 : decode cX1_stateAt 27 = .ok (.aaload, 1) := by decide +kernel
theorem dX1_stateAt_28 : decode cX1_stateAt 28 = .ok (.goto 4, 3) := by decide +kernel
theorem dX1_stateAt_31 : decode cX1_stateAt 31 = .ok (.aconst_null, 1) := by decide +kernel
theorem dX1_stateAt_32 : decode cX1_stateAt 32 = .ok (.areturn, 1) := by decide +kernel
set_option maxRecDepth 20000 in
theorem ggX2_init_X4_init : GoodIn wsX2_init wsX4_init := goodIn_r _ [13, 14, 2, 3, 15, 16, 22, 23, 24] (by decide +kernel) (by decide +kernel)
set_option maxRecDepth 20000 in
theorem gX2_init_X4_init : GoodIn wsX2_init (wsX4_init) := ggX2_init_X4_init
theorem dX2_init_0 : decode cX2_init 0 = .ok (.aload_n 0, 1) := by decide +kernel
theorem dX2_init_1 : decode cX2_init 1 = .ok (.invokespecial 3, 3) := by decide +kernel
theorem dX2_init_4 : decode cX2_init 4 = .ok (.aload_n 0, 1) := by decide +kernel
theorem dX2_init_5 : decode cX2_init 5 = .ok (.bipush 60, 2) := by decide +kernel
theorem dX2_init_7 : decode cX2_init 7 = .ok (.newarray .char, 2) := by decide +kernel
theorem dX2_init_9 : decode cX2_init 9 = .ok (.putfield 9, 3) := by decide +kernel
theorem dX2_init_12 : decode cX2_init 12 = .ok (.aload_n 0, 1) := by decide +kernel
theorem dX2_init_13 : decode cX2_init 13 = .ok (.new 15, 3) := by decide +kernel
theorem dX2_init_16 : decode cX2_init 16 = .ok (.dup, 1) := by decide +kernel
theorem dX2_init_17 : decode cX2_init 17 = .ok (.sipush 150, 3) := by decide +kernel
theorem dX2_init_20 : decode cX2_init 20 = .ok (.newarray .int, 2) := by decide +kernel
theorem dX2_init_22 : decode cX2_init 22 = .ok (.iconst 5, 1) := by decide +kernel
theorem dX2_init_23 : decode cX2_init 23 = .ok (.invokespecial 17, 3) := by decide +kernel
theorem dX2_init_26 : decode cX2_init 26 = .ok (.putfield 20, 3) := by decide +kernel
theorem dX2_init_29 : decode cX2_init 29 = .ok (.return_, 1) := by decide +kernel
theorem dX2_textLength_0 : decode cX2_textLength 0 = .ok (.aload_n 0, 1) := by decide +kernel
theorem dX2_textLength_1 : decode cX2_textLength 1 = .ok (.getfield 24, 3) := by decide +kernel
theorem dX2_textLength_4 : decode cX2_textLength 4 = .ok (.ireturn, 1) := by decide +kernel
theorem dX2_addCharacter_0 : decode cX2_addCharacter 0 = .ok (.aload_n 0, 1) := by decide +kernel
theorem dX2_addCharacter_1 : decode cX2_addCharacter 1 = .ok (.getfield 24, 3) := by decide +kernel
theorem dX2_addCharacter_4 : decode cX2_addCharacter 4 = .ok (.ifCond .lt 15, 3) := by decide +kernel
theorem dX2_addCharacter_7 : decode cX2_addCharacter 7 = .ok (.aload_n 0, 1) := by decide +kernel
theorem dX2_addCharacter_8 : decode cX2_addCharacter 8 = .ok (.getfield 24, 3) := by decide +kernel
theorem dX2_addCharacter_11 : decode cX2_addCharacter 11 = .ok (.aload_n 0, 1) := by decide +kernel
theorem dX2_addCharacter_12 : decode cX2_addCharacter 12 = .ok (.getfield 9, 3) := by decide +kernel
theorem dX2_addCharacter_15 : decode cX2_addCharacter 15 = .ok (.arraylength, 1) := by decide +kernel
theorem dX2_addCharacter_16 : decode cX2_addCharacter 16 = .ok (.if_icmp .lt 6, 3) := by decide +kernel
theorem dX2_addCharacter_19 : decode cX2_addCharacter 19 = .ok (.bipush (-3), 2) := by decide +kernel
theorem dX2_addCharacter_21 : decode cX2_addCharacter 21 = .ok (.ireturn, 1) := by decide +kernel
theorem dX2_addCharacter_22 : decode cX2_addCharacter 22 = .ok (.aload_n 0, 1) := by decide +kernel
theorem dX2_addCharacter_23 : decode cX2_addCharacter 23 = .ok (.getfield 9, 3) := by decide +kernel
theorem dX2_addCharacter_26 : decode cX2_addCharacter 26 = .ok (.aload_n 0, 1) := by decide +kernel
theorem dX2_addCharacter_27 : decode cX2_addCharacter 27 = .ok (.getfield 24, 3) := by decide +kernel
theorem dX2_addCharacter_30 : decode cX2_addCharacter 30 = .ok (.iload_n 1, 1) := by decide +kernel
theorem dX2_addCharacter_31 : decode cX2_addCharacter 31 = .ok (.castore, 1) := by decide +kernel
theorem dX2_addCharacter_32 : decode cX2_addCharacter 32 = .ok (.aload_n 0, 1) := by decide +kernel
theorem dX2_addCharacter_33 : decode cX2_addCharacter 33 = .ok (.dup, 1) := by decide +kernel
theorem dX2_addCharacter_34 : decode cX2_addCharacter 34 = .ok (.getfield 24, 3) := by decide +kernel
theorem dX2_addCharacter_37 : decode cX2_addCharacter 37 = .ok (.iconst 1, 1) := by decide +kernel
theorem dX2_addCharacter_38 : decode cX2_addCharacter 38 = .ok (.iadd, 1) := by decide +kernel
theorem dX2_addCharacter_39 : decode cX2_addCharacter 39 = .ok (.putfield 24, 3) := by decide +kernel
theorem dX2_addCharacter_42 : decode cX2_addCharacter 42 = .ok (.aload_n 0, 1) := by decide +kernel
theorem dX2_addCharacter_43 : decode cX2_addCharacter 43 = .ok (.getfield 24, 3) := by decide +kernel
theorem dX2_addCharacter_46 : decode cX2_addCharacter 46 = .ok (.ireturn, 1) := by decide +kernel
theorem dX2_emptyText_0 : decode cX2_emptyText 0 = .ok (.aload_n 0, 1) := by decide +kernel
theorem dX2_emptyText_1 : decode cX2_emptyText 1 = .ok (.getfield 24, 3) := by decide +kernel
theorem dX2_emptyText_4 : decode cX2_emptyText 4 = .ok (.istore_n 1, 1) := by decide +kernel
theorem dX2_emptyText_5 : decode cX2_emptyText 5 = .ok (.aload_n 0, 1) := by decide +kernel
theorem dX2_emptyText_6 : decode cX2_emptyText 6 = .ok (.iconst 0, 1) := by decide +kernel
theorem dX2_emptyText_7 : decode cX2_emptyText 7 = .ok (.putfield 24, 3) := by decide +kernel
theorem dX2_emptyText_10 : decode cX2_emptyText 10 = .ok (.iload_n 1, 1) := by decide +kernel
theorem dX2_emptyText_11 : decode cX2_emptyText 11 = .ok (.ireturn, 1) := by decide +kernel
set_option maxRecDepth 20000 in
theorem ggX2_thingCount_X4_rows : GoodIn wsX2_thingCount wsX4_rows := goodIn_r _ [6, 7, 13, 14, 15] (by decide +kernel) (by decide +kernel)
set_option maxRecDepth 20000 in
theorem gX2_thingCount_X4_rows : GoodIn wsX2_thingCount (wsV RX2 28 RX4 yX4_rows wsX4_rows) := goodIn_app (goodIn_of _ (by decide +kernel)) ggX2_thingCount_X4_rows
theorem dX2_thingCount_0 : decode cX2_thingCount 0 = .ok (.aload_n 0, 1) := by decide +kernel
theorem dX2_thingCount_1 : decode cX2_thingCount 1 = .ok (.getfield 20, 3) := by decide +kernel
theorem dX2_thingCount_4 : decode cX2_thingCount 4 = .ok (.invokevirtual 28, 3) := by decide +kernel
theorem dX2_thingCount_7 : decode cX2_thingCount 7 = .ok (.ireturn, 1) := by decide +kernel
set_option maxRecDepth 20000 in
theorem ggX2_numberOf_X4_get : GoodIn wsX2_numberOf wsX4_get := goodIn_r _ [6, 7, 8, 14, 15, 16] (by decide +kernel) (by decide +kernel)
set_option maxRecDepth 20000 in
theorem gX2_numberOf_X4_get : GoodIn wsX2_numberOf (wsV RX2 32 RX4 yX4_get wsX4_get) := goodIn_app (goodIn_of _ (by decide +kernel)) ggX2_numberOf_X4_get
theorem dX2_numberOf_0 : decode cX2_numberOf 0 = .ok (.aload_n 0, 1) := by decide +kernel
theorem dX2_numberOf_1 : decode cX2_numberOf 1 = .ok (.getfield 20, 3) := by decide +kernel
theorem dX2_numberOf_4 : decode cX2_numberOf 4 = .ok (.iload_n 1, 1) := by decide +kernel
theorem dX2_numberOf_5 : decode cX2_numberOf 5 = .ok (.iload_n 2, 1) := by decide +kernel
theorem dX2_numberOf_6 : decode cX2_numberOf 6 = .ok (.invokevirtual 32, 3) := by decide +kernel
theorem dX2_numberOf_9 : decode cX2_numberOf 9 = .ok (.ireturn, 1) := by decide +kernel
set_option maxRecDepth 20000 in
theorem ggX2_read_X4_dropRows : GoodIn wsX2_read wsX4_dropRows := goodIn_r _ [9, 10, 48, 49, 50] (by decide +kernel) (by decide +kernel)
set_option maxRecDepth 20000 in
theorem gX2_read_X4_dropRows : GoodIn wsX2_read (wsV RX2 36 RX4 yX4_dropRows wsX4_dropRows) := goodIn_app (goodIn_of _ (by decide +kernel)) ggX2_read_X4_dropRows
set_option maxRecDepth 20000 in
theorem ggX2_read_X4_addRow : GoodIn wsX2_read wsX4_addRow := goodIn_r _ [14, 10, 48, 49, 50] (by decide +kernel) (by decide +kernel)
set_option maxRecDepth 20000 in
theorem gX2_read_X4_addRow : GoodIn wsX2_read (wsV RX2 46 RX4 yX4_addRow wsX4_addRow) := goodIn_app (goodIn_of _ (by decide +kernel)) ggX2_read_X4_addRow
set_option maxRecDepth 20000 in
theorem ggX2_read_X2_readThing : GoodIn wsX2_read wsX2_readThing := goodIn_r _ [19, 2, 1, 3, 20, 21, 22, 18, 23, 4, 24, 25, 26, 27, 8, 28, 29, 30, 31, 32, 33, 34, 35, 36, 37, 38, 39, 40, 41, 42, 43, 44, 45, 46, 47, 48, 49, 50] (by decide +kernel) (by decide +kernel)
set_option maxRecDepth 20000 in
theorem gX2_read_X2_readThing : GoodIn wsX2_read (wsV RX2 49 RX2 yX2_readThing wsX2_readThing) := goodIn_app (goodIn_of _ (by decide +kernel)) ggX2_read_X2_readThing
set_option maxRecDepth 20000 in
theorem ggX2_read_X2_expect : GoodIn wsX2_read wsX2_expect := goodIn_r _ [42, 2, 3, 20, 21, 22, 18, 23, 4, 24, 43, 44, 45, 46, 47] (by decide +kernel) (by decide +kernel)
set_option maxRecDepth 20000 in
theorem gX2_read_X2_expect : GoodIn wsX2_read (wsV RX2 53 RX2 yX2_expect wsX2_expect) := goodIn_app (goodIn_of _ (by decide +kernel)) ggX2_read_X2_expect
theorem dX2_read_0 : decode cX2_read 0 = .ok (.aload_n 0, 1) := by decide +kernel
theorem dX2_read_1 : decode cX2_read 1 = .ok (.getfield 20, 3) := by decide +kernel
theorem dX2_read_4 : decode cX2_read 4 = .ok (.invokevirtual 36, 3) := by decide +kernel
theorem dX2_read_7 : decode cX2_read 7 = .ok (.aload_n 0, 1) := by decide +kernel
theorem dX2_read_8 : decode cX2_read 8 = .ok (.iconst 0, 1) := by decide +kernel
theorem dX2_read_9 : decode cX2_read 9 = .ok (.putfield 39, 3) := by decide +kernel
theorem dX2_read_12 : decode cX2_read 12 = .ok (.aload_n 0, 1) := by decide +kernel
theorem dX2_read_13 : decode cX2_read 13 = .ok (.iconst 0, 1) := by decide +kernel
theorem dX2_read_14 : decode cX2_read 14 = .ok (.putfield 42, 3) := by decide +kernel
theorem dX2_read_17 : decode cX2_read 17 = .ok (.iconst 0, 1) := by decide +kernel
theorem dX2_read_18 : decode cX2_read 18 = .ok (.istore_n 1, 1) := by decide +kernel
theorem dX2_read_19 : decode cX2_read 19 = .ok (.iload_n 1, 1) := by decide +kernel
theorem dX2_read_20 : decode cX2_read 20 = .ok (.bipush 30, 2) := by decide +kernel
theorem dX2_read_22 : decode cX2_read 22 = .ok (.if_icmp .ge 51, 3) := by decide +kernel
theorem dX2_read_25 : decode cX2_read 25 = .ok (.aload_n 0, 1) := by decide +kernel
theorem dX2_read_26 : decode cX2_read 26 = .ok (.aload_n 0, 1) := by decide +kernel
theorem dX2_read_27 : decode cX2_read 27 = .ok (.getfield 20, 3) := by decide +kernel
theorem dX2_read_30 : decode cX2_read 30 = .ok (.invokevirtual 46, 3) := by decide +kernel
theorem dX2_read_33 : decode cX2_read 33 = .ok (.invokevirtual 49, 3) := by decide +kernel
theorem dX2_read_36 : decode cX2_read 36 = .ok (.aload_n 0, 1) := by decide +kernel
theorem dX2_read_37 : decode cX2_read 37 = .ok (.getfield 42, 3) := by decide +kernel
theorem dX2_read_40 : decode cX2_read 40 = .ok (.ifCond .eq 8, 3) := by decide +kernel
theorem dX2_read_43 : decode cX2_read 43 = .ok (.aload_n 0, 1) := by decide +kernel
theorem dX2_read_44 : decode cX2_read 44 = .ok (.getfield 39, 3) := by decide +kernel
theorem dX2_read_47 : decode cX2_read 47 = .ok (.ireturn, 1) := by decide +kernel
theorem dX2_read_48 : decode cX2_read 48 = .ok (.aload_n 0, 1) := by decide +kernel
theorem dX2_read_49 : decode cX2_read 49 = .ok (.getfield 39, 3) := by decide +kernel
theorem dX2_read_52 : decode cX2_read 52 = .ok (.aload_n 0, 1) := by decide +kernel
theorem dX2_read_53 : decode cX2_read 53 = .ok (.getfield 24, 3) := by decide +kernel
theorem dX2_read_56 : decode cX2_read 56 = .ok (.if_icmp .ne 5, 3) := by decide +kernel
theorem dX2_read_59 : decode cX2_read 59 = .ok (.iconst (-1), 1) := by decide +kernel
theorem dX2_read_60 : decode cX2_read 60 = .ok (.ireturn, 1) := by decide +kernel
theorem dX2_read_61 : decode cX2_read 61 = .ok (.aload_n 0, 1) := by decide +kernel
theorem dX2_read_62 : decode cX2_read 62 = .ok (.bipush 59, 2) := by decide +kernel
theorem dX2_read_64 : decode cX2_read 64 = .ok (.invokevirtual 53, 3) := by decide +kernel
theorem dX2_read_67 : decode cX2_read 67 = .ok (.iinc 1 1, 3) := by decide +kernel
theorem dX2_read_70 : decode cX2_read 70 = .ok (.goto (-51), 3) := by decide +kernel
theorem dX2_read_73 : decode cX2_read 73 = .ok (.aload_n 0, 1) := by decide +kernel
theorem dX2_read_74 : decode cX2_read 74 = .ok (.getfield 39, 3) := by decide +kernel
theorem dX2_read_77 : decode cX2_read 77 = .ok (.ireturn, 1) := by decide +kernel
set_option maxRecDepth 20000 in
theorem ggX2_readThing_X2_here : GoodIn wsX2_readThing wsX2_here := goodIn_r _ [8, 1, 9, 10, 3, 30, 31, 32, 33, 34] (by decide +kernel) (by decide +kernel)
set_option maxRecDepth 20000 in
theorem gX2_readThing_X2_here : GoodIn wsX2_readThing (wsV RX2 56 RX2 yX2_here wsX2_here) := goodIn_app (goodIn_of _ (by decide +kernel)) ggX2_readThing_X2_here
set_option maxRecDepth 20000 in
theorem ggX2_readThing_X4_put : GoodIn wsX2_readThing wsX4_put := goodIn_r _ [15, 16, 17, 35, 36, 37] (by decide +kernel) (by decide +kernel)
set_option maxRecDepth 20000 in
theorem gX2_readThing_X4_put : GoodIn wsX2_readThing (wsV RX2 59 RX4 yX4_put wsX4_put) := goodIn_app (goodIn_of _ (by decide +kernel)) ggX2_readThing_X4_put
set_option maxRecDepth 20000 in
theorem ggX2_readThing_X2_readNumber : GoodIn wsX2_readThing wsX2_readNumber := goodIn_r _ [21, 3, 1, 2, 22, 23, 24, 7, 25, 4, 5, 6, 8, 9, 10, 11, 12, 13, 14, 15, 16, 17, 30, 31, 32, 33, 34, 35, 36, 37] (by decide +kernel) (by decide +kernel)
set_option maxRecDepth 20000 in
theorem gX2_readThing_X2_readNumber : GoodIn wsX2_readThing (wsV RX2 63 RX2 yX2_readNumber wsX2_readNumber) := goodIn_app (goodIn_of _ (by decide +kernel)) ggX2_readThing_X2_readNumber
set_option maxRecDepth 20000 in
theorem ggX2_readThing_X2_expect : GoodIn wsX2_readThing wsX2_expect := goodIn_r _ [29, 1, 3, 4, 5, 6, 7, 8, 9, 10, 30, 31, 32, 33, 34] (by decide +kernel) (by decide +kernel)
set_option maxRecDepth 20000 in
theorem gX2_readThing_X2_expect : GoodIn wsX2_readThing (wsV RX2 53 RX2 yX2_expect wsX2_expect) := goodIn_app (goodIn_of _ (by decide +kernel)) ggX2_readThing_X2_expect
theorem dX2_readThing_0 : decode cX2_readThing 0 = .ok (.aload_n 0, 1) := by decide +kernel
theorem dX2_readThing_1 : decode cX2_readThing 1 = .ok (.invokevirtual 56, 3) := by decide +kernel
theorem dX2_readThing_4 : decode cX2_readThing 4 = .ok (.lookupswitch 207 #[(46, 175), (97, 98), (114, 36)], 36) := by decide +kernel
theorem dX2_readThing_40 : decode cX2_readThing 40 = .ok (.aload_n 0, 1) := by decide +kernel
theorem dX2_readThing_41 : decode cX2_readThing 41 = .ok (.dup, 1) := by decide +kernel
theorem dX2_readThing_42 : decode cX2_readThing 42 = .ok (.getfield 39, 3) := by decide +kernel
theorem dX2_readThing_45 : decode cX2_readThing 45 = .ok (.iconst 1, 1) := by decide +kernel
theorem dX2_readThing_46 : decode cX2_readThing 46 = .ok (.iadd, 1) := by decide +kernel
theorem dX2_readThing_47 : decode cX2_readThing 47 = .ok (.putfield 39, 3) := by decide +kernel
theorem dX2_readThing_50 : decode cX2_readThing 50 = .ok (.aload_n 0, 1) := by decide +kernel
theorem dX2_readThing_51 : decode cX2_readThing 51 = .ok (.getfield 20, 3) := by decide +kernel
theorem dX2_readThing_54 : decode cX2_readThing 54 = .ok (.iload_n 1, 1) := by decide +kernel
theorem dX2_readThing_55 : decode cX2_readThing 55 = .ok (.iconst 0, 1) := by decide +kernel
theorem dX2_readThing_56 : decode cX2_readThing 56 = .ok (.iconst 0, 1) := by decide +kernel
theorem dX2_readThing_57 : decode cX2_readThing 57 = .ok (.invokevirtual 59, 3) := by decide +kernel
theorem dX2_readThing_60 : decode cX2_readThing 60 = .ok (.aload_n 0, 1) := by decide +kernel
theorem dX2_readThing_61 : decode cX2_readThing 61 = .ok (.iload_n 1, 1) := by decide +kernel
theorem dX2_readThing_62 : decode cX2_readThing 62 = .ok (.iconst 1, 1) := by decide +kernel
theorem dX2_readThing_63 : decode cX2_readThing 63 = .ok (.iconst 0, 1) := by decide +kernel
theorem dX2_readThing_64 : decode cX2_readThing 64 = .ok (.bipush 7, 2) := by decide +kernel
theorem dX2_readThing_66 : decode cX2_readThing 66 = .ok (.invokevirtual 63, 3) := by decide +kernel
theorem dX2_readThing_69 : decode cX2_readThing 69 = .ok (.aload_n 0, 1) := by decide +kernel
theorem dX2_readThing_70 : decode cX2_readThing 70 = .ok (.bipush 58, 2) := by decide +kernel
theorem dX2_readThing_72 : decode cX2_readThing 72 = .ok (.invokevirtual 53, 3) := by decide +kernel
theorem dX2_readThing_75 : decode cX2_readThing 75 = .ok (.aload_n 0, 1) := by decide +kernel
theorem dX2_readThing_76 : decode cX2_readThing 76 = .ok (.iload_n 1, 1) := by decide +kernel
theorem dX2_readThing_77 : decode cX2_readThing 77 = .ok (.iconst 2, 1) := by decide +kernel
theorem dX2_readThing_78 : decode cX2_readThing 78 = .ok (.iconst 1, 1) := by decide +kernel
theorem dX2_readThing_79 : decode cX2_readThing 79 = .ok (.bipush 50, 2) := by decide +kernel
theorem dX2_readThing_81 : decode cX2_readThing 81 = .ok (.invokevirtual 63, 3) := by decide +kernel
theorem dX2_readThing_84 : decode cX2_readThing 84 = .ok (.aload_n 0, 1) := by decide +kernel
theorem dX2_readThing_85 : decode cX2_readThing 85 = .ok (.bipush 61, 2) := by decide +kernel
theorem dX2_readThing_87 : decode cX2_readThing 87 = .ok (.invokevirtual 53, 3) := by decide +kernel
theorem dX2_readThing_90 : decode cX2_readThing 90 = .ok (.aload_n 0, 1) := by decide +kernel
theorem dX2_readThing_91 : decode cX2_readThing 91 = .ok (.iload_n 1, 1) := by decide +kernel
theorem dX2_readThing_92 : decode cX2_readThing 92 = .ok (.iconst 3, 1) := by decide +kernel
theorem dX2_readThing_93 : decode cX2_readThing 93 = .ok (.iconst 0, 1) := by decide +kernel
theorem dX2_readThing_94 : decode cX2_readThing 94 = .ok (.bipush 99, 2) := by decide +kernel
theorem dX2_readThing_96 : decode cX2_readThing 96 = .ok (.invokevirtual 63, 3) := by decide +kernel
theorem dX2_readThing_99 : decode cX2_readThing 99 = .ok (.goto 117, 3) := by decide +kernel
theorem dX2_readThing_102 : decode cX2_readThing 102 = .ok (.aload_n 0, 1) := by decide +kernel
theorem dX2_readThing_103 : decode cX2_readThing 103 = .ok (.dup, 1) := by decide +kernel
theorem dX2_readThing_104 : decode cX2_readThing 104 = .ok (.getfield 39, 3) := by decide +kernel
theorem dX2_readThing_107 : decode cX2_readThing 107 = .ok (.iconst 1, 1) := by decide +kernel
theorem dX2_readThing_108 : decode cX2_readThing 108 = .ok (.iadd, 1) := by decide +kernel
theorem dX2_readThing_109 : decode cX2_readThing 109 = .ok (.putfield 39, 3) := by decide +kernel
theorem dX2_readThing_112 : decode cX2_readThing 112 = .ok (.aload_n 0, 1) := by decide +kernel
theorem dX2_readThing_113 : decode cX2_readThing 113 = .ok (.getfield 20, 3) := by decide +kernel
theorem dX2_readThing_116 : decode cX2_readThing 116 = .ok (.iload_n 1, 1) := by decide +kernel
theorem dX2_readThing_117 : decode cX2_readThing 117 = .ok (.iconst 0, 1) := by decide +kernel
theorem dX2_readThing_118 : decode cX2_readThing 118 = .ok (.iconst 1, 1) := by decide +kernel
theorem dX2_readThing_119 : decode cX2_readThing 119 = .ok (.invokevirtual 59, 3) := by decide +kernel
theorem dX2_readThing_122 : decode cX2_readThing 122 = .ok (.aload_n 0, 1) := by decide +kernel
theorem dX2_readThing_123 : decode cX2_readThing 123 = .ok (.iload_n 1, 1) := by decide +kernel
theorem dX2_readThing_124 : decode cX2_readThing 124 = .ok (.iconst 1, 1) := by decide +kernel
theorem dX2_readThing_125 : decode cX2_readThing 125 = .ok (.iconst 0, 1) := by decide +kernel
theorem dX2_readThing_126 : decode cX2_readThing 126 = .ok (.bipush 7, 2) := by decide +kernel
theorem dX2_readThing_128 : decode cX2_readThing 128 = .ok (.invokevirtual 63, 3) := by decide +kernel
theorem dX2_readThing_131 : decode cX2_readThing 131 = .ok (.aload_n 0, 1) := by decide +kernel
theorem dX2_readThing_132 : decode cX2_readThing 132 = .ok (.bipush 58, 2) := by decide +kernel
theorem dX2_readThing_134 : decode cX2_readThing 134 = .ok (.invokevirtual 53, 3) := by decide +kernel
theorem dX2_readThing_137 : decode cX2_readThing 137 = .ok (.aload_n 0, 1) := by decide +kernel
theorem dX2_readThing_138 : decode cX2_readThing 138 = .ok (.iload_n 1, 1) := by decide +kernel
theorem dX2_readThing_139 : decode cX2_readThing 139 = .ok (.iconst 2, 1) := by decide +kernel
theorem dX2_readThing_140 : decode cX2_readThing 140 = .ok (.iconst 0, 1) := by decide +kernel
theorem dX2_readThing_141 : decode cX2_readThing 141 = .ok (.bipush 19, 2) := by decide +kernel
theorem dX2_readThing_143 : decode cX2_readThing 143 = .ok (.invokevirtual 63, 3) := by decide +kernel
theorem dX2_readThing_146 : decode cX2_readThing 146 = .ok (.aload_n 0, 1) := by decide +kernel
theorem dX2_readThing_147 : decode cX2_readThing 147 = .ok (.bipush 61, 2) := by decide +kernel
theorem dX2_readThing_149 : decode cX2_readThing 149 = .ok (.invokevirtual 53, 3) := by decide +kernel
theorem dX2_readThing_152 : decode cX2_readThing 152 = .ok (.aload_n 0, 1) := by decide +kernel
theorem dX2_readThing_153 : decode cX2_readThing 153 = .ok (.iload_n 1, 1) := by decide +kernel
theorem dX2_readThing_154 : decode cX2_readThing 154 = .ok (.iconst 3, 1) := by decide +kernel
theorem dX2_readThing_155 : decode cX2_readThing 155 = .ok (.iconst 0, 1) := by decide +kernel
theorem dX2_readThing_156 : decode cX2_readThing 156 = .ok (.bipush 99, 2) := by decide +kernel
theorem dX2_readThing_158 : decode cX2_readThing 158 = .ok (.invokevirtual 63, 3) := by decide +kernel
theorem dX2_readThing_161 : decode cX2_readThing 161 = .ok (.aload_n 0, 1) := by decide +kernel
theorem dX2_readThing_162 : decode cX2_readThing 162 = .ok (.bipush 42, 2) := by decide +kernel
theorem dX2_readThing_164 : decode cX2_readThing 164 = .ok (.invokevirtual 53, 3) := by decide +kernel
theorem dX2_readThing_167 : decode cX2_readThing 167 = .ok (.aload_n 0, 1) := by decide +kernel
theorem dX2_readThing_168 : decode cX2_readThing 168 = .ok (.iload_n 1, 1) := by decide +kernel
theorem dX2_readThing_169 : decode cX2_readThing 169 = .ok (.iconst 4, 1) := by decide +kernel
theorem dX2_readThing_170 : decode cX2_readThing 170 = .ok (.iconst 1, 1) := by decide +kernel
theorem dX2_readThing_171 : decode cX2_readThing 171 = .ok (.bipush 99, 2) := by decide +kernel
theorem dX2_readThing_173 : decode cX2_readThing 173 = .ok (.invokevirtual 63, 3) := by decide +kernel
theorem dX2_readThing_176 : decode cX2_readThing 176 = .ok (.goto 40, 3) := by decide +kernel
theorem dX2_readThing_179 : decode cX2_readThing 179 = .ok (.aload_n 0, 1) := by decide +kernel
theorem dX2_readThing_180 : decode cX2_readThing 180 = .ok (.dup, 1) := by decide +kernel
theorem dX2_readThing_181 : decode cX2_readThing 181 = .ok (.getfield 39, 3) := by decide +kernel
theorem dX2_readThing_184 : decode cX2_readThing 184 = .ok (.iconst 1, 1) := by decide +kernel
theorem dX2_readThing_185 : decode cX2_readThing 185 = .ok (.iadd, 1) := by decide +kernel
theorem dX2_readThing_186 : decode cX2_readThing 186 = .ok (.putfield 39, 3) := by decide +kernel
theorem dX2_readThing_189 : decode cX2_readThing 189 = .ok (.aload_n 0, 1) := by decide +kernel
theorem dX2_readThing_190 : decode cX2_readThing 190 = .ok (.getfield 20, 3) := by decide +kernel
theorem dX2_readThing_193 : decode cX2_readThing 193 = .ok (.iload_n 1, 1) := by decide +kernel
theorem dX2_readThing_194 : decode cX2_readThing 194 = .ok (.iconst 0, 1) := by decide +kernel
theorem dX2_readThing_195 : decode cX2_readThing 195 = .ok (.iconst 2, 1) := by decide +kernel
theorem dX2_readThing_196 : decode cX2_readThing 196 = .ok (.invokevirtual 59, 3) := by decide +kernel
theorem dX2_readThing_199 : decode cX2_readThing 199 = .ok (.aload_n 0, 1) := by decide +kernel
theorem dX2_readThing_200 : decode cX2_readThing 200 = .ok (.iload_n 1, 1) := by decide +kernel
theorem dX2_readThing_201 : decode cX2_readThing 201 = .ok (.iconst 1, 1) := by decide +kernel
theorem dX2_readThing_202 : decode cX2_readThing 202 = .ok (.iconst 1, 1) := by decide +kernel
theorem dX2_readThing_203 : decode cX2_readThing 203 = .ok (.bipush 99, 2) := by decide +kernel
theorem dX2_readThing_205 : decode cX2_readThing 205 = .ok (.invokevirtual 63, 3) := by decide +kernel
theorem dX2_readThing_208 : decode cX2_readThing 208 = .ok (.goto 8, 3) := by decide +kernel
theorem dX2_readThing_211 : decode cX2_readThing 211 = .ok (.aload_n 0, 1) := by decide +kernel
theorem dX2_readThing_212 : decode cX2_readThing 212 = .ok (.iconst 1, 1) := by decide +kernel
theorem dX2_readThing_213 : decode cX2_readThing 213 = .ok (.putfield 42, 3) := by decide +kernel
theorem dX2_readThing_216 : decode cX2_readThing 216 = .ok (.return_, 1) := by decide +kernel
set_option maxRecDepth 20000 in
theorem ggX2_readNumber_X2_digitHere : GoodIn wsX2_readNumber wsX2_digitHere := goodIn_r _ [8, 9, 10, 11, 7, 12, 2, 13, 14, 1, 22, 23, 24, 25, 26] (by decide +kernel) (by decide +kernel)
set_option maxRecDepth 20000 in
theorem gX2_readNumber_X2_digitHere : GoodIn wsX2_readNumber (wsV RX2 67 RX2 yX2_digitHere wsX2_digitHere) := goodIn_app (goodIn_of _ (by decide +kernel)) ggX2_readNumber_X2_digitHere
set_option maxRecDepth 20000 in
theorem ggX2_readNumber_X4_put : GoodIn wsX2_readNumber wsX4_put := goodIn_r _ [19, 20, 21, 27, 28, 29] (by decide +kernel) (by decide +kernel)
set_option maxRecDepth 20000 in
theorem gX2_readNumber_X4_put : GoodIn wsX2_readNumber (wsV RX2 59 RX4 yX4_put wsX4_put) := goodIn_app (goodIn_of _ (by decide +kernel)) ggX2_readNumber_X4_put
theorem dX2_readNumber_0 : decode cX2_readNumber 0 = .ok (.aload_n 0, 1) := by decide +kernel
theorem dX2_readNumber_1 : decode cX2_readNumber 1 = .ok (.invokevirtual 67, 3) := by decide +kernel
theorem dX2_readNumber_4 : decode cX2_readNumber 4 = .ok (.istore 5, 2) := by decide +kernel
theorem dX2_readNumber_6 : decode cX2_readNumber 6 = .ok (.iload 5, 2) := by decide +kernel
theorem dX2_readNumber_8 : decode cX2_readNumber 8 = .ok (.iload_n 3, 1) := by decide +kernel
theorem dX2_readNumber_9 : decode cX2_readNumber 9 = .ok (.if_icmp .lt 10, 3) := by decide +kernel
theorem dX2_readNumber_12 : decode cX2_readNumber 12 = .ok (.iload 5, 2) := by decide +kernel
theorem dX2_readNumber_14 : decode cX2_readNumber 14 = .ok (.iload 4, 2) := by decide +kernel
theorem dX2_readNumber_16 : decode cX2_readNumber 16 = .ok (.if_icmp .le 9, 3) := by decide +kernel
theorem dX2_readNumber_19 : decode cX2_readNumber 19 = .ok (.aload_n 0, 1) := by decide +kernel
theorem dX2_readNumber_20 : decode cX2_readNumber 20 = .ok (.iconst 1, 1) := by decide +kernel
theorem dX2_readNumber_21 : decode cX2_readNumber 21 = .ok (.putfield 42, 3) := by decide +kernel
theorem dX2_readNumber_24 : decode cX2_readNumber 24 = .ok (.return_, 1) := by decide +kernel
theorem dX2_readNumber_25 : decode cX2_readNumber 25 = .ok (.aload_n 0, 1) := by decide +kernel
theorem dX2_readNumber_26 : decode cX2_readNumber 26 = .ok (.dup, 1) := by decide +kernel
theorem dX2_readNumber_27 : decode cX2_readNumber 27 = .ok (.getfield 39, 3) := by decide +kernel
theorem dX2_readNumber_30 : decode cX2_readNumber 30 = .ok (.iconst 1, 1) := by decide +kernel
theorem dX2_readNumber_31 : decode cX2_readNumber 31 = .ok (.iadd, 1) := by decide +kernel
theorem dX2_readNumber_32 : decode cX2_readNumber 32 = .ok (.putfield 39, 3) := by decide +kernel
theorem dX2_readNumber_35 : decode cX2_readNumber 35 = .ok (.aload_n 0, 1) := by decide +kernel
theorem dX2_readNumber_36 : decode cX2_readNumber 36 = .ok (.invokevirtual 67, 3) := by decide +kernel
theorem dX2_readNumber_39 : decode cX2_readNumber 39 = .ok (.istore 6, 2) := by decide +kernel
theorem dX2_readNumber_41 : decode cX2_readNumber 41 = .ok (.iload 5, 2) := by decide +kernel
theorem dX2_readNumber_43 : decode cX2_readNumber 43 = .ok (.ifCond .le 42, 3) := by decide +kernel
theorem dX2_readNumber_46 : decode cX2_readNumber 46 = .ok (.iload 6, 2) := by decide +kernel
theorem dX2_readNumber_48 : decode cX2_readNumber 48 = .ok (.iconst (-1), 1) := by decide +kernel
theorem dX2_readNumber_49 : decode cX2_readNumber 49 = .ok (.if_icmp .eq 36, 3) := by decide +kernel
theorem dX2_readNumber_52 : decode cX2_readNumber 52 = .ok (.iload 5, 2) := by decide +kernel
theorem dX2_readNumber_54 : decode cX2_readNumber 54 = .ok (.bipush 10, 2) := by decide +kernel
theorem dX2_readNumber_56 : decode cX2_readNumber 56 = .ok (.imul, 1) := by decide +kernel
theorem dX2_readNumber_57 : decode cX2_readNumber 57 = .ok (.iload 6, 2) := by decide +kernel
theorem dX2_readNumber_59 : decode cX2_readNumber 59 = .ok (.iadd, 1) := by decide +kernel
theorem dX2_readNumber_60 : decode cX2_readNumber 60 = .ok (.iload 4, 2) := by decide +kernel
theorem dX2_readNumber_62 : decode cX2_readNumber 62 = .ok (.if_icmp .gt 23, 3) := by decide +kernel
theorem dX2_readNumber_65 : decode cX2_readNumber 65 = .ok (.iload 5, 2) := by decide +kernel
theorem dX2_readNumber_67 : decode cX2_readNumber 67 = .ok (.bipush 10, 2) := by decide +kernel
theorem dX2_readNumber_69 : decode cX2_readNumber 69 = .ok (.imul, 1) := by decide +kernel
theorem dX2_readNumber_70 : decode cX2_readNumber 70 = .ok (.iload 6, 2) := by decide +kernel
theorem dX2_readNumber_72 : decode cX2_readNumber 72 = .ok (.iadd, 1) := by decide +kernel
theorem dX2_readNumber_73 : decode cX2_readNumber 73 = .ok (.istore 5, 2) := by decide +kernel
theorem dX2_readNumber_75 : decode cX2_readNumber 75 = .ok (.aload_n 0, 1) := by decide +kernel
theorem dX2_readNumber_76 : decode cX2_readNumber 76 = .ok (.dup, 1) := by decide +kernel
theorem dX2_readNumber_77 : decode cX2_readNumber 77 = .ok (.getfield 39, 3) := by decide +kernel
theorem dX2_readNumber_80 : decode cX2_readNumber 80 = .ok (.iconst 1, 1) := by decide +kernel
theorem dX2_readNumber_81 : decode cX2_readNumber 81 = .ok (.iadd, 1) := by decide +kernel
theorem dX2_readNumber_82 : decode cX2_readNumber 82 = .ok (.putfield 39, 3) := by decide +kernel
theorem dX2_readNumber_85 : decode cX2_readNumber 85 = .ok (.aload_n 0, 1) := by decide +kernel
theorem dX2_readNumber_86 : decode cX2_readNumber 86 = .ok (.getfield 20, 3) := by decide +kernel
theorem dX2_readNumber_89 : decode cX2_readNumber 89 = .ok (.iload_n 1, 1) := by decide +kernel
theorem dX2_readNumber_90 : decode cX2_readNumber 90 = .ok (.iload_n 2, 1) := by decide +kernel
theorem dX2_readNumber_91 : decode cX2_readNumber 91 = .ok (.iload 5, 2) := by decide +kernel
theorem dX2_readNumber_93 : decode cX2_readNumber 93 = .ok (.invokevirtual 59, 3) := by decide +kernel
theorem dX2_readNumber_96 : decode cX2_readNumber 96 = .ok (.return_, 1) := by decide +kernel
set_option maxRecDepth 20000 in
theorem ggX2_expect_X2_here : GoodIn wsX2_expect wsX2_here := goodIn_r _ [7, 1, 8, 9, 2, 10, 11, 12, 13, 14] (by decide +kernel) (by decide +kernel)
set_option maxRecDepth 20000 in
theorem gX2_expect_X2_here : GoodIn wsX2_expect (wsV RX2 56 RX2 yX2_here wsX2_here) := goodIn_app (goodIn_of _ (by decide +kernel)) ggX2_expect_X2_here
theorem dX2_expect_0 : decode cX2_expect 0 = .ok (.aload_n 0, 1) := by decide +kernel
theorem dX2_expect_1 : decode cX2_expect 1 = .ok (.invokevirtual 56, 3) := by decide +kernel
theorem dX2_expect_4 : decode cX2_expect 4 = .ok (.iload_n 1, 1) := by decide +kernel
theorem dX2_expect_5 : decode cX2_expect 5 = .ok (.if_icmp .ne 16, 3) := by decide +kernel
theorem dX2_expect_8 : decode cX2_expect 8 = .ok (.aload_n 0, 1) := by decide +kernel
theorem dX2_expect_9 : decode cX2_expect 9 = .ok (.dup, 1) := by decide +kernel
theorem dX2_expect_10 : decode cX2_expect 10 = .ok (.getfield 39, 3) := by decide +kernel
theorem dX2_expect_13 : decode cX2_expect 13 = .ok (.iconst 1, 1) := by decide +kernel
theorem dX2_expect_14 : decode cX2_expect 14 = .ok (.iadd, 1) := by decide +kernel
theorem dX2_expect_15 : decode cX2_expect 15 = .ok (.putfield 39, 3) := by decide +kernel
theorem dX2_expect_18 : decode cX2_expect 18 = .ok (.goto 8, 3) := by decide +kernel
theorem dX2_expect_21 : decode cX2_expect 21 = .ok (.aload_n 0, 1) := by decide +kernel
theorem dX2_expect_22 : decode cX2_expect 22 = .ok (.iconst 1, 1) := by decide +kernel
theorem dX2_expect_23 : decode cX2_expect 23 = .ok (.putfield 42, 3) := by decide +kernel
theorem dX2_expect_26 : decode cX2_expect 26 = .ok (.return_, 1) := by decide +kernel
set_option maxRecDepth 20000 in
theorem ggX2_digitHere_X2_here : GoodIn wsX2_digitHere wsX2_here := goodIn_r _ [5, 6, 7, 8, 9, 10, 11, 12, 13, 14] (by decide +kernel) (by decide +kernel)
set_option maxRecDepth 20000 in
theorem gX2_digitHere_X2_here : GoodIn wsX2_digitHere (wsV RX2 56 RX2 yX2_here wsX2_here) := goodIn_app (goodIn_of _ (by decide +kernel)) ggX2_digitHere_X2_here
theorem dX2_digitHere_0 : decode cX2_digitHere 0 = .ok (.aload_n 0, 1) := by decide +kernel
theorem dX2_digitHere_1 : decode cX2_digitHere 1 = .ok (.invokevirtual 56, 3) := by decide +kernel
theorem dX2_digitHere_4 : decode cX2_digitHere 4 = .ok (.istore_n 1, 1) := by decide +kernel
theorem dX2_digitHere_5 : decode cX2_digitHere 5 = .ok (.iload_n 1, 1) := by decide +kernel
theorem dX2_digitHere_6 : decode cX2_digitHere 6 = .ok (.bipush 48, 2) := by decide +kernel
theorem dX2_digitHere_8 : decode cX2_digitHere 8 = .ok (.if_icmp .lt 16, 3) := by decide +kernel
theorem dX2_digitHere_11 : decode cX2_digitHere 11 = .ok (.iload_n 1, 1) := by decide +kernel
theorem dX2_digitHere_12 : decode cX2_digitHere 12 = .ok (.bipush 57, 2) := by decide +kernel
theorem dX2_digitHere_14 : decode cX2_digitHere 14 = .ok (.if_icmp .gt 10, 3) := by decide +kernel
theorem dX2_digitHere_17 : decode cX2_digitHere 17 = .ok (.iload_n 1, 1) := by decide +kernel
theorem dX2_digitHere_18 : decode cX2_digitHere 18 = .ok (.bipush 48, 2) := by decide +kernel
theorem dX2_digitHere_20 : decode cX2_digitHere 20 = .ok (.isub, 1) := by decide +kernel
theorem dX2_digitHere_21 : decode cX2_digitHere 21 = .ok (.goto 4, 3) := by decide +kernel
theorem dX2_digitHere_24 : decode cX2_digitHere 24 = .ok (.iconst (-1), 1) := by decide +kernel
theorem dX2_digitHere_25 : decode cX2_digitHere 25 = .ok (.ireturn, 1) := by decide +kernel
theorem dX2_here_0 : decode cX2_here 0 = .ok (.aload_n 0, 1) := by decide +kernel
theorem dX2_here_1 : decode cX2_here 1 = .ok (.getfield 39, 3) := by decide +kernel
theorem dX2_here_4 : decode cX2_here 4 = .ok (.ifCond .lt 30, 3) := by decide +kernel
theorem dX2_here_7 : decode cX2_here 7 = .ok (.aload_n 0, 1) := by decide +kernel
theorem dX2_here_8 : decode cX2_here 8 = .ok (.getfield 39, 3) := by decide +kernel
theorem dX2_here_11 : decode cX2_here 11 = .ok (.aload_n 0, 1) := by decide +kernel
theorem dX2_here_12 : decode cX2_here 12 = .ok (.getfield 24, 3) := by decide +kernel
theorem dX2_here_15 : decode cX2_here 15 = .ok (.if_icmp .ge 19, 3) := by decide +kernel
theorem dX2_here_18 : decode cX2_here 18 = .ok (.aload_n 0, 1) := by decide +kernel
theorem dX2_here_19 : decode cX2_here 19 = .ok (.getfield 39, 3) := by decide +kernel
theorem dX2_here_22 : decode cX2_here 22 = .ok (.aload_n 0, 1) := by decide +kernel
theorem dX2_here_23 : decode cX2_here 23 = .ok (.getfield 9, 3) := by decide +kernel
theorem dX2_here_26 : decode cX2_here 26 = .ok (.arraylength, 1) := by decide +kernel
theorem dX2_here_27 : decode cX2_here 27 = .ok (.if_icmp .ge 7, 3) := by decide +kernel
theorem dX2_here_30 : decode cX2_here 30 = .ok (.iconst 1, 1) := by decide +kernel
theorem dX2_here_31 : decode cX2_here 31 = .ok (.goto 4, 3) := by decide +kernel
theorem dX2_here_34 : decode cX2_here 34 = .ok (.iconst 0, 1) := by decide +kernel
theorem dX2_here_35 : decode cX2_here 35 = .ok (.istore_n 1, 1) := by decide +kernel
theorem dX2_here_36 : decode cX2_here 36 = .ok (.iload_n 1, 1) := by decide +kernel
theorem dX2_here_37 : decode cX2_here 37 = .ok (.ifCond .eq 22, 3) := by decide +kernel
theorem dX2_here_40 : decode cX2_here 40 = .ok (.aload_n 0, 1) := by decide +kernel
theorem dX2_here_41 : decode cX2_here 41 = .ok (.getfield 42, 3) := by decide +kernel
theorem dX2_here_44 : decode cX2_here 44 = .ok (.ifCond .ne 15, 3) := by decide +kernel
theorem dX2_here_47 : decode cX2_here 47 = .ok (.aload_n 0, 1) := by decide +kernel
theorem dX2_here_48 : decode cX2_here 48 = .ok (.getfield 9, 3) := by decide +kernel
theorem dX2_here_51 : decode cX2_here 51 = .ok (.aload_n 0, 1) := by decide +kernel
theorem dX2_here_52 : decode cX2_here 52 = .ok (.getfield 39, 3) := by decide +kernel
theorem dX2_here_55 : decode cX2_here 55 = .ok (.caload, 1) := by decide +kernel
theorem dX2_here_56 : decode cX2_here 56 = .ok (.goto 4, 3) := by decide +kernel
theorem dX2_here_59 : decode cX2_here 59 = .ok (.iconst (-1), 1) := by decide +kernel
theorem dX2_here_60 : decode cX2_here 60 = .ok (.ireturn, 1) := by decide +kernel
theorem dX3_init_0 : decode cX3_init 0 = .ok (.aload_n 0, 1) := by decide +kernel
theorem dX3_init_1 : decode cX3_init 1 = .ok (.invokespecial 3, 3) := by decide +kernel
theorem dX3_init_4 : decode cX3_init 4 = .ok (.aload_n 0, 1) := by decide +kernel
theorem dX3_init_5 : decode cX3_init 5 = .ok (.bipush 40, 2) := by decide +kernel
theorem dX3_init_7 : decode cX3_init 7 = .ok (.newarray .int, 2) := by decide +kernel
theorem dX3_init_9 : decode cX3_init 9 = .ok (.putfield 9, 3) := by decide +kernel
theorem dX3_init_12 : decode cX3_init 12 = .ok (.return_, 1) := by decide +kernel
theorem dX3_length_0 : decode cX3_length 0 = .ok (.aload_n 0, 1) := by decide +kernel
theorem dX3_length_1 : decode cX3_length 1 = .ok (.getfield 15, 3) := by decide +kernel
theorem dX3_length_4 : decode cX3_length 4 = .ok (.ireturn, 1) := by decide +kernel
theorem dX3_at_0 : decode cX3_at 0 = .ok (.iload_n 1, 1) := by decide +kernel
theorem dX3_at_1 : decode cX3_at 1 = .ok (.ifCond .lt 11, 3) := by decide +kernel
theorem dX3_at_4 : decode cX3_at 4 = .ok (.iload_n 1, 1) := by decide +kernel
theorem dX3_at_5 : decode cX3_at 5 = .ok (.aload_n 0, 1) := by decide +kernel
theorem dX3_at_6 : decode cX3_at 6 = .ok (.getfield 15, 3) := by decide +kernel
theorem dX3_at_9 : decode cX3_at 9 = .ok (.if_icmp .lt 6, 3) := by decide +kernel
theorem dX3_at_12 : decode cX3_at 12 = .ok (.bipush (-5), 2) := by decide +kernel
theorem dX3_at_14 : decode cX3_at 14 = .ok (.ireturn, 1) := by decide +kernel
theorem dX3_at_15 : decode cX3_at 15 = .ok (.aload_n 0, 1) := by decide +kernel
theorem dX3_at_16 : decode cX3_at 16 = .ok (.getfield 19, 3) := by decide +kernel
theorem dX3_at_19 : decode cX3_at 19 = .ok (.iload_n 1, 1) := by decide +kernel
theorem dX3_at_20 : decode cX3_at 20 = .ok (.iadd, 1) := by decide +kernel
theorem dX3_at_21 : decode cX3_at 21 = .ok (.bipush 40, 2) := by decide +kernel
theorem dX3_at_23 : decode cX3_at 23 = .ok (.irem, 1) := by decide +kernel
theorem dX3_at_24 : decode cX3_at 24 = .ok (.istore_n 2, 1) := by decide +kernel
theorem dX3_at_25 : decode cX3_at 25 = .ok (.iload_n 2, 1) := by decide +kernel
theorem dX3_at_26 : decode cX3_at 26 = .ok (.ifCond .lt 21, 3) := by decide +kernel
theorem dX3_at_29 : decode cX3_at 29 = .ok (.iload_n 2, 1) := by decide +kernel
theorem dX3_at_30 : decode cX3_at 30 = .ok (.aload_n 0, 1) := by decide +kernel
theorem dX3_at_31 : decode cX3_at 31 = .ok (.getfield 9, 3) := by decide +kernel
theorem dX3_at_34 : decode cX3_at 34 = .ok (.arraylength, 1) := by decide +kernel
theorem dX3_at_35 : decode cX3_at 35 = .ok (.if_icmp .ge 12, 3) := by decide +kernel
theorem dX3_at_38 : decode cX3_at 38 = .ok (.aload_n 0, 1) := by decide +kernel
theorem dX3_at_39 : decode cX3_at 39 = .ok (.getfield 9, 3) := by decide +kernel
theorem dX3_at_42 : decode cX3_at 42 = .ok (.iload_n 2, 1) := by decide +kernel
theorem dX3_at_43 : decode cX3_at 43 = .ok (.iaload, 1) := by decide +kernel
theorem dX3_at_44 : decode cX3_at 44 = .ok (.goto 5, 3) := by decide +kernel
theorem dX3_at_47 : decode cX3_at 47 = .ok (.bipush (-5), 2) := by decide +kernel
theorem dX3_at_49 : decode cX3_at 49 = .ok (.ireturn, 1) := by decide +kernel
set_option maxRecDepth 20000 in
theorem ggX3_placeOf_X3_at : GoodIn wsX3_placeOf wsX3_at := goodIn_r _ [6, 1, 7, 8, 9, 10, 11] (by decide +kernel) (by decide +kernel)
set_option maxRecDepth 20000 in
theorem gX3_placeOf_X3_at : GoodIn wsX3_placeOf (wsV RX3 22 RX3 yX3_at wsX3_at) := goodIn_app (goodIn_of _ (by decide +kernel)) ggX3_placeOf_X3_at
theorem dX3_placeOf_0 : decode cX3_placeOf 0 = .ok (.iconst 0, 1) := by decide +kernel
theorem dX3_placeOf_1 : decode cX3_placeOf 1 = .ok (.istore_n 2, 1) := by decide +kernel
theorem dX3_placeOf_2 : decode cX3_placeOf 2 = .ok (.iload_n 2, 1) := by decide +kernel
theorem dX3_placeOf_3 : decode cX3_placeOf 3 = .ok (.aload_n 0, 1) := by decide +kernel
theorem dX3_placeOf_4 : decode cX3_placeOf 4 = .ok (.getfield 15, 3) := by decide +kernel
theorem dX3_placeOf_7 : decode cX3_placeOf 7 = .ok (.if_icmp .ge 20, 3) := by decide +kernel
theorem dX3_placeOf_10 : decode cX3_placeOf 10 = .ok (.aload_n 0, 1) := by decide +kernel
theorem dX3_placeOf_11 : decode cX3_placeOf 11 = .ok (.iload_n 2, 1) := by decide +kernel
theorem dX3_placeOf_12 : decode cX3_placeOf 12 = .ok (.invokevirtual 22, 3) := by decide +kernel
theorem dX3_placeOf_15 : decode cX3_placeOf 15 = .ok (.iload_n 1, 1) := by decide +kernel
theorem dX3_placeOf_16 : decode cX3_placeOf 16 = .ok (.if_icmp .ne 5, 3) := by decide +kernel
theorem dX3_placeOf_19 : decode cX3_placeOf 19 = .ok (.iload_n 2, 1) := by decide +kernel
theorem dX3_placeOf_20 : decode cX3_placeOf 20 = .ok (.ireturn, 1) := by decide +kernel
theorem dX3_placeOf_21 : decode cX3_placeOf 21 = .ok (.iinc 2 1, 3) := by decide +kernel
theorem dX3_placeOf_24 : decode cX3_placeOf 24 = .ok (.goto (-22), 3) := by decide +kernel
theorem dX3_placeOf_27 : decode cX3_placeOf 27 = .ok (.bipush (-5), 2) := by decide +kernel
theorem dX3_placeOf_29 : decode cX3_placeOf 29 = .ok (.ireturn, 1) := by decide +kernel
theorem dX3_addLast_0 : decode cX3_addLast 0 = .ok (.aload_n 0, 1) := by decide +kernel
theorem dX3_addLast_1 : decode cX3_addLast 1 = .ok (.getfield 19, 3) := by decide +kernel
theorem dX3_addLast_4 : decode cX3_addLast 4 = .ok (.aload_n 0, 1) := by decide +kernel
theorem dX3_addLast_5 : decode cX3_addLast 5 = .ok (.getfield 15, 3) := by decide +kernel
theorem dX3_addLast_8 : decode cX3_addLast 8 = .ok (.iadd, 1) := by decide +kernel
theorem dX3_addLast_9 : decode cX3_addLast 9 = .ok (.bipush 40, 2) := by decide +kernel
theorem dX3_addLast_11 : decode cX3_addLast 11 = .ok (.irem, 1) := by decide +kernel
theorem dX3_addLast_12 : decode cX3_addLast 12 = .ok (.istore_n 2, 1) := by decide +kernel
theorem dX3_addLast_13 : decode cX3_addLast 13 = .ok (.aload_n 0, 1) := by decide +kernel
theorem dX3_addLast_14 : decode cX3_addLast 14 = .ok (.getfield 15, 3) := by decide +kernel
theorem dX3_addLast_17 : decode cX3_addLast 17 = .ok (.bipush 40, 2) := by decide +kernel
theorem dX3_addLast_19 : decode cX3_addLast 19 = .ok (.if_icmp .ge 33, 3) := by decide +kernel
theorem dX3_addLast_22 : decode cX3_addLast 22 = .ok (.iload_n 2, 1) := by decide +kernel
theorem dX3_addLast_23 : decode cX3_addLast 23 = .ok (.ifCond .lt 29, 3) := by decide +kernel
theorem dX3_addLast_26 : decode cX3_addLast 26 = .ok (.iload_n 2, 1) := by decide +kernel
theorem dX3_addLast_27 : decode cX3_addLast 27 = .ok (.aload_n 0, 1) := by decide +kernel
theorem dX3_addLast_28 : decode cX3_addLast 28 = .ok (.getfield 9, 3) := by decide +kernel
theorem dX3_addLast_31 : decode cX3_addLast 31 = .ok (.arraylength, 1) := by decide +kernel
theorem dX3_addLast_32 : decode cX3_addLast 32 = .ok (.if_icmp .ge 20, 3) := by decide +kernel
theorem dX3_addLast_35 : decode cX3_addLast 35 = .ok (.aload_n 0, 1) := by decide +kernel
theorem dX3_addLast_36 : decode cX3_addLast 36 = .ok (.getfield 9, 3) := by decide +kernel
theorem dX3_addLast_39 : decode cX3_addLast 39 = .ok (.iload_n 2, 1) := by decide +kernel
theorem dX3_addLast_40 : decode cX3_addLast 40 = .ok (.iload_n 1, 1) := by decide +kernel
theorem dX3_addLast_41 : decode cX3_addLast 41 = .ok (.iastore, 1) := by decide +kernel
theorem dX3_addLast_42 : decode cX3_addLast 42 = .ok (.aload_n 0, 1) := by decide +kernel
theorem dX3_addLast_43 : decode cX3_addLast 43 = .ok (.dup, 1) := by decide +kernel
theorem dX3_addLast_44 : decode cX3_addLast 44 = .ok (.getfield 15, 3) := by decide +kernel
theorem dX3_addLast_47 : decode cX3_addLast 47 = .ok (.iconst 1, 1) := by decide +kernel
theorem dX3_addLast_48 : decode cX3_addLast 48 = .ok (.iadd, 1) := by decide +kernel
theorem dX3_addLast_49 : decode cX3_addLast 49 = .ok (.putfield 15, 3) := by decide +kernel
theorem dX3_addLast_52 : decode cX3_addLast 52 = .ok (.return_, 1) := by decide +kernel
set_option maxRecDepth 20000 in
theorem ggX3_takeFirst_X3_at : GoodIn wsX3_takeFirst wsX3_at := goodIn_r _ [7, 1, 2, 8, 9, 10, 11] (by decide +kernel) (by decide +kernel)
set_option maxRecDepth 20000 in
theorem gX3_takeFirst_X3_at : GoodIn wsX3_takeFirst (wsV RX3 22 RX3 yX3_at wsX3_at) := goodIn_app (goodIn_of _ (by decide +kernel)) ggX3_takeFirst_X3_at
theorem dX3_takeFirst_0 : decode cX3_takeFirst 0 = .ok (.aload_n 0, 1) := by decide +kernel
theorem dX3_takeFirst_1 : decode cX3_takeFirst 1 = .ok (.iconst 0, 1) := by decide +kernel
theorem dX3_takeFirst_2 : decode cX3_takeFirst 2 = .ok (.invokevirtual 22, 3) := by decide +kernel
theorem dX3_takeFirst_5 : decode cX3_takeFirst 5 = .ok (.istore_n 1, 1) := by decide +kernel
theorem dX3_takeFirst_6 : decode cX3_takeFirst 6 = .ok (.aload_n 0, 1) := by decide +kernel
theorem dX3_takeFirst_7 : decode cX3_takeFirst 7 = .ok (.getfield 15, 3) := by decide +kernel
theorem dX3_takeFirst_10 : decode cX3_takeFirst 10 = .ok (.ifCond .le 26, 3) := by decide +kernel
theorem dX3_takeFirst_13 : decode cX3_takeFirst 13 = .ok (.aload_n 0, 1) := by decide +kernel
theorem dX3_takeFirst_14 : decode cX3_takeFirst 14 = .ok (.aload_n 0, 1) := by decide +kernel
theorem dX3_takeFirst_15 : decode cX3_takeFirst 15 = .ok (.getfield 19, 3) := by decide +kernel
theorem dX3_takeFirst_18 : decode cX3_takeFirst 18 = .ok (.iconst 1, 1) := by decide +kernel
theorem dX3_takeFirst_19 : decode cX3_takeFirst 19 = .ok (.iadd, 1) := by decide +kernel
theorem dX3_takeFirst_20 : decode cX3_takeFirst 20 = .ok (.bipush 40, 2) := by decide +kernel
theorem dX3_takeFirst_22 : decode cX3_takeFirst 22 = .ok (.irem, 1) := by decide +kernel
theorem dX3_takeFirst_23 : decode cX3_takeFirst 23 = .ok (.putfield 19, 3) := by decide +kernel
theorem dX3_takeFirst_26 : decode cX3_takeFirst 26 = .ok (.aload_n 0, 1) := by decide +kernel
theorem dX3_takeFirst_27 : decode cX3_takeFirst 27 = .ok (.dup, 1) := by decide +kernel
theorem dX3_takeFirst_28 : decode cX3_takeFirst 28 = .ok (.getfield 15, 3) := by decide +kernel
theorem dX3_takeFirst_31 : decode cX3_takeFirst 31 = .ok (.iconst 1, 1) := by decide +kernel
theorem dX3_takeFirst_32 : decode cX3_takeFirst 32 = .ok (.isub, 1) := by decide +kernel
theorem dX3_takeFirst_33 : decode cX3_takeFirst 33 = .ok (.putfield 15, 3) := by decide +kernel
theorem dX3_takeFirst_36 : decode cX3_takeFirst 36 = .ok (.iload_n 1, 1) := by decide +kernel
theorem dX3_takeFirst_37 : decode cX3_takeFirst 37 = .ok (.ireturn, 1) := by decide +kernel
theorem dX3_copyFrom_0 : decode cX3_copyFrom 0 = .ok (.aload_n 0, 1) := by decide +kernel
theorem dX3_copyFrom_1 : decode cX3_copyFrom 1 = .ok (.aload_n 1, 1) := by decide +kernel
theorem dX3_copyFrom_2 : decode cX3_copyFrom 2 = .ok (.getfield 19, 3) := by decide +kernel
theorem dX3_copyFrom_5 : decode cX3_copyFrom 5 = .ok (.putfield 19, 3) := by decide +kernel
theorem dX3_copyFrom_8 : decode cX3_copyFrom 8 = .ok (.aload_n 0, 1) := by decide +kernel
theorem dX3_copyFrom_9 : decode cX3_copyFrom 9 = .ok (.aload_n 1, 1) := by decide +kernel
theorem dX3_copyFrom_10 : decode cX3_copyFrom 10 = .ok (.getfield 15, 3) := by decide +kernel
theorem dX3_copyFrom_13 : decode cX3_copyFrom 13 = .ok (.putfield 15, 3) := by decide +kernel
theorem dX3_copyFrom_16 : decode cX3_copyFrom 16 = .ok (.aload_n 1, 1) := by decide +kernel
theorem dX3_copyFrom_17 : decode cX3_copyFrom 17 = .ok (.getfield 9, 3) := by decide +kernel
theorem dX3_copyFrom_20 : decode cX3_copyFrom 20 = .ok (.iconst 0, 1) := by decide +kernel
theorem dX3_copyFrom_21 : decode cX3_copyFrom 21 = .ok (.aload_n 0, 1) := by decide +kernel
theorem dX3_copyFrom_22 : decode cX3_copyFrom 22 = .ok (.getfield 9, 3) := by decide +kernel
theorem dX3_copyFrom_25 : decode cX3_copyFrom 25 = .ok (.iconst 0, 1) := by decide +kernel
theorem dX3_copyFrom_26 : decode cX3_copyFrom 26 = .ok (.aload_n 0, 1) := by decide +kernel
theorem dX3_copyFrom_27 : decode cX3_copyFrom 27 = .ok (.getfield 9, 3) := by decide +kernel
theorem dX3_copyFrom_30 : decode cX3_copyFrom 30 = .ok (.arraylength, 1) := by decide +kernel
theorem dX3_copyFrom_31 : decode cX3_copyFrom 31 = .ok (.aload_n 1, 1) := by decide +kernel
theorem dX3_copyFrom_32 : decode cX3_copyFrom 32 = .ok (.getfield 9, 3) := by decide +kernel
theorem dX3_copyFrom_35 : decode cX3_copyFrom 35 = .ok (.arraylength, 1) := by decide +kernel
theorem dX3_copyFrom_36 : decode cX3_copyFrom 36 = .ok (.invokestatic 26, 3) := by decide +kernel
theorem dX3_copyFrom_39 : decode cX3_copyFrom 39 = .ok (.invokestatic 32, 3) := by decide +kernel
theorem dX3_copyFrom_42 : decode cX3_copyFrom 42 = .ok (.return_, 1) := by decide +kernel
theorem dX4_init_0 : decode cX4_init 0 = .ok (.aload_n 0, 1) := by decide +kernel
theorem dX4_init_1 : decode cX4_init 1 = .ok (.invokespecial 3, 3) := by decide +kernel
theorem dX4_init_4 : decode cX4_init 4 = .ok (.aload_n 0, 1) := by decide +kernel
theorem dX4_init_5 : decode cX4_init 5 = .ok (.aload_n 1, 1) := by decide +kernel
theorem dX4_init_6 : decode cX4_init 6 = .ok (.putfield 9, 3) := by decide +kernel
theorem dX4_init_9 : decode cX4_init 9 = .ok (.aload_n 0, 1) := by decide +kernel
theorem dX4_init_10 : decode cX4_init 10 = .ok (.iload_n 2, 1) := by decide +kernel
theorem dX4_init_11 : decode cX4_init 11 = .ok (.putfield 15, 3) := by decide +kernel
theorem dX4_init_14 : decode cX4_init 14 = .ok (.return_, 1) := by decide +kernel
theorem dX4_rows_0 : decode cX4_rows 0 = .ok (.aload_n 0, 1) := by decide +kernel
theorem dX4_rows_1 : decode cX4_rows 1 = .ok (.getfield 19, 3) := by decide +kernel
theorem dX4_rows_4 : decode cX4_rows 4 = .ok (.ireturn, 1) := by decide +kernel
theorem dX4_has_0 : decode cX4_has 0 = .ok (.iload_n 1, 1) := by decide +kernel
theorem dX4_has_1 : decode cX4_has 1 = .ok (.ifCond .lt 15, 3) := by decide +kernel
theorem dX4_has_4 : decode cX4_has 4 = .ok (.iload_n 1, 1) := by decide +kernel
theorem dX4_has_5 : decode cX4_has 5 = .ok (.aload_n 0, 1) := by decide +kernel
theorem dX4_has_6 : decode cX4_has 6 = .ok (.getfield 19, 3) := by decide +kernel
theorem dX4_has_9 : decode cX4_has 9 = .ok (.if_icmp .ge 7, 3) := by decide +kernel
theorem dX4_has_12 : decode cX4_has 12 = .ok (.iconst 1, 1) := by decide +kernel
theorem dX4_has_13 : decode cX4_has 13 = .ok (.goto 4, 3) := by decide +kernel
theorem dX4_has_16 : decode cX4_has 16 = .ok (.iconst 0, 1) := by decide +kernel
theorem dX4_has_17 : decode cX4_has 17 = .ok (.ireturn, 1) := by decide +kernel
theorem dX4_addRow_0 : decode cX4_addRow 0 = .ok (.aload_n 0, 1) := by decide +kernel
theorem dX4_addRow_1 : decode cX4_addRow 1 = .ok (.dup, 1) := by decide +kernel
theorem dX4_addRow_2 : decode cX4_addRow 2 = .ok (.getfield 19, 3) := by decide +kernel
theorem dX4_addRow_5 : decode cX4_addRow 5 = .ok (.iconst 1, 1) := by decide +kernel
theorem dX4_addRow_6 : decode cX4_addRow 6 = .ok (.iadd, 1) := by decide +kernel
theorem dX4_addRow_7 : decode cX4_addRow 7 = .ok (.putfield 19, 3) := by decide +kernel
theorem dX4_addRow_10 : decode cX4_addRow 10 = .ok (.aload_n 0, 1) := by decide +kernel
theorem dX4_addRow_11 : decode cX4_addRow 11 = .ok (.getfield 19, 3) := by decide +kernel
theorem dX4_addRow_14 : decode cX4_addRow 14 = .ok (.iconst 1, 1) := by decide +kernel
theorem dX4_addRow_15 : decode cX4_addRow 15 = .ok (.isub, 1) := by decide +kernel
theorem dX4_addRow_16 : decode cX4_addRow 16 = .ok (.ireturn, 1) := by decide +kernel
theorem dX4_dropRows_0 : decode cX4_dropRows 0 = .ok (.aload_n 0, 1) := by decide +kernel
theorem dX4_dropRows_1 : decode cX4_dropRows 1 = .ok (.iconst 0, 1) := by decide +kernel
theorem dX4_dropRows_2 : decode cX4_dropRows 2 = .ok (.putfield 19, 3) := by decide +kernel
theorem dX4_dropRows_5 : decode cX4_dropRows 5 = .ok (.return_, 1) := by decide +kernel
theorem dX4_get_0 : decode cX4_get 0 = .ok (.iload_n 1, 1) := by decide +kernel
theorem dX4_get_1 : decode cX4_get 1 = .ok (.aload_n 0, 1) := by decide +kernel
theorem dX4_get_2 : decode cX4_get 2 = .ok (.getfield 15, 3) := by decide +kernel
theorem dX4_get_5 : decode cX4_get 5 = .ok (.imul, 1) := by decide +kernel
theorem dX4_get_6 : decode cX4_get 6 = .ok (.iload_n 2, 1) := by decide +kernel
theorem dX4_get_7 : decode cX4_get 7 = .ok (.iadd, 1) := by decide +kernel
theorem dX4_get_8 : decode cX4_get 8 = .ok (.istore_n 3, 1) := by decide +kernel
theorem dX4_get_9 : decode cX4_get 9 = .ok (.iload_n 3, 1) := by decide +kernel
theorem dX4_get_10 : decode cX4_get 10 = .ok (.ifCond .lt 21, 3) := by decide +kernel
theorem dX4_get_13 : decode cX4_get 13 = .ok (.iload_n 3, 1) := by decide +kernel
theorem dX4_get_14 : decode cX4_get 14 = .ok (.aload_n 0, 1) := by decide +kernel
theorem dX4_get_15 : decode cX4_get 15 = .ok (.getfield 9, 3) := by decide +kernel
theorem dX4_get_18 : decode cX4_get 18 = .ok (.arraylength, 1) := by decide +kernel
theorem dX4_get_19 : decode cX4_get 19 = .ok (.if_icmp .ge 12, 3) := by decide +kernel
theorem dX4_get_22 : decode cX4_get 22 = .ok (.aload_n 0, 1) := by decide +kernel
theorem dX4_get_23 : decode cX4_get 23 = .ok (.getfield 9, 3) := by decide +kernel
theorem dX4_get_26 : decode cX4_get 26 = .ok (.iload_n 3, 1) := by decide +kernel
theorem dX4_get_27 : decode cX4_get 27 = .ok (.iaload, 1) := by decide +kernel
theorem dX4_get_28 : decode cX4_get 28 = .ok (.goto 4, 3) := by decide +kernel
theorem dX4_get_31 : decode cX4_get 31 = .ok (.iconst 0, 1) := by decide +kernel
theorem dX4_get_32 : decode cX4_get 32 = .ok (.ireturn, 1) := by decide +kernel
theorem dX4_put_0 : decode cX4_put 0 = .ok (.iload_n 1, 1) := by decide +kernel
theorem dX4_put_1 : decode cX4_put 1 = .ok (.aload_n 0, 1) := by decide +kernel
theorem dX4_put_2 : decode cX4_put 2 = .ok (.getfield 15, 3) := by decide +kernel
theorem dX4_put_5 : decode cX4_put 5 = .ok (.imul, 1) := by decide +kernel
theorem dX4_put_6 : decode cX4_put 6 = .ok (.iload_n 2, 1) := by decide +kernel
theorem dX4_put_7 : decode cX4_put 7 = .ok (.iadd, 1) := by decide +kernel
theorem dX4_put_8 : decode cX4_put 8 = .ok (.istore 4, 2) := by decide +kernel
theorem dX4_put_10 : decode cX4_put 10 = .ok (.iload 4, 2) := by decide +kernel
theorem dX4_put_12 : decode cX4_put 12 = .ok (.ifCond .lt 21, 3) := by decide +kernel
theorem dX4_put_15 : decode cX4_put 15 = .ok (.iload 4, 2) := by decide +kernel
theorem dX4_put_17 : decode cX4_put 17 = .ok (.aload_n 0, 1) := by decide +kernel
theorem dX4_put_18 : decode cX4_put 18 = .ok (.getfield 9, 3) := by decide +kernel
theorem dX4_put_21 : decode cX4_put 21 = .ok (.arraylength, 1) := by decide +kernel
theorem dX4_put_22 : decode cX4_put 22 = .ok (.if_icmp .ge 11, 3) := by decide +kernel
theorem dX4_put_25 : decode cX4_put 25 = .ok (.aload_n 0, 1) := by decide +kernel
theorem dX4_put_26 : decode cX4_put 26 = .ok (.getfield 9, 3) := by decide +kernel
theorem dX4_put_29 : decode cX4_put 29 = .ok (.iload 4, 2) := by decide +kernel
theorem dX4_put_31 : decode cX4_put 31 = .ok (.iload_n 3, 1) := by decide +kernel
theorem dX4_put_32 : decode cX4_put 32 = .ok (.iastore, 1) := by decide +kernel
theorem dX4_put_33 : decode cX4_put 33 = .ok (.return_, 1) := by decide +kernel
theorem dX4_increase_0 : decode cX4_increase 0 = .ok (.iload_n 1, 1) := by decide +kernel
theorem dX4_increase_1 : decode cX4_increase 1 = .ok (.aload_n 0, 1) := by decide +kernel
theorem dX4_increase_2 : decode cX4_increase 2 = .ok (.getfield 15, 3) := by decide +kernel
theorem dX4_increase_5 : decode cX4_increase 5 = .ok (.imul, 1) := by decide +kernel
theorem dX4_increase_6 : decode cX4_increase 6 = .ok (.iload_n 2, 1) := by decide +kernel
theorem dX4_increase_7 : decode cX4_increase 7 = .ok (.iadd, 1) := by decide +kernel
theorem dX4_increase_8 : decode cX4_increase 8 = .ok (.istore 4, 2) := by decide +kernel
theorem dX4_increase_10 : decode cX4_increase 10 = .ok (.iload 4, 2) := by decide +kernel
theorem dX4_increase_12 : decode cX4_increase 12 = .ok (.ifCond .lt 24, 3) := by decide +kernel
theorem dX4_increase_15 : decode cX4_increase 15 = .ok (.iload 4, 2) := by decide +kernel
theorem dX4_increase_17 : decode cX4_increase 17 = .ok (.aload_n 0, 1) := by decide +kernel
theorem dX4_increase_18 : decode cX4_increase 18 = .ok (.getfield 9, 3) := by decide +kernel
theorem dX4_increase_21 : decode cX4_increase 21 = .ok (.arraylength, 1) := by decide +kernel
theorem dX4_increase_22 : decode cX4_increase 22 = .ok (.if_icmp .ge 14, 3) := by decide +kernel
theorem dX4_increase_25 : decode cX4_increase 25 = .ok (.aload_n 0, 1) := by decide +kernel
theorem dX4_increase_26 : decode cX4_increase 26 = .ok (.getfield 9, 3) := by decide +kernel
theorem dX4_increase_29 : decode cX4_increase 29 = .ok (.iload 4, 2) := by decide +kernel
theorem dX4_increase_31 : decode cX4_increase 31 = .ok (.dup2, 1) := by decide +kernel
theorem dX4_increase_32 : decode cX4_increase 32 = .ok (.iaload, 1) := by decide +kernel
theorem dX4_increase_33 : decode cX4_increase 33 = .ok (.iload_n 3, 1) := by decide +kernel
theorem dX4_increase_34 : decode cX4_increase 34 = .ok (.iadd, 1) := by decide +kernel
theorem dX4_increase_35 : decode cX4_increase 35 = .ok (.iastore, 1) := by decide +kernel
theorem dX4_increase_36 : decode cX4_increase 36 = .ok (.return_, 1) := by decide +kernel
set_option maxRecDepth 20000 in
theorem ggX4_countOf_X4_get : GoodIn wsX4_countOf wsX4_get := goodIn_r _ [6, 7, 8, 9, 10, 11] (by decide +kernel) (by decide +kernel)
set_option maxRecDepth 20000 in
theorem gX4_countOf_X4_get : GoodIn wsX4_countOf (wsV RX4 22 RX4 yX4_get wsX4_get) := goodIn_app (goodIn_of _ (by decide +kernel)) ggX4_countOf_X4_get
theorem dX4_countOf_0 : decode cX4_countOf 0 = .ok (.iconst 0, 1) := by decide +kernel
theorem dX4_countOf_1 : decode cX4_countOf 1 = .ok (.istore_n 3, 1) := by decide +kernel
theorem dX4_countOf_2 : decode cX4_countOf 2 = .ok (.iconst 0, 1) := by decide +kernel
theorem dX4_countOf_3 : decode cX4_countOf 3 = .ok (.istore 4, 2) := by decide +kernel
theorem dX4_countOf_5 : decode cX4_countOf 5 = .ok (.iload 4, 2) := by decide +kernel
theorem dX4_countOf_7 : decode cX4_countOf 7 = .ok (.aload_n 0, 1) := by decide +kernel
theorem dX4_countOf_8 : decode cX4_countOf 8 = .ok (.getfield 19, 3) := by decide +kernel
theorem dX4_countOf_11 : decode cX4_countOf 11 = .ok (.if_icmp .ge 23, 3) := by decide +kernel
theorem dX4_countOf_14 : decode cX4_countOf 14 = .ok (.aload_n 0, 1) := by decide +kernel
theorem dX4_countOf_15 : decode cX4_countOf 15 = .ok (.iload 4, 2) := by decide +kernel
theorem dX4_countOf_17 : decode cX4_countOf 17 = .ok (.iload_n 1, 1) := by decide +kernel
theorem dX4_countOf_18 : decode cX4_countOf 18 = .ok (.invokevirtual 22, 3) := by decide +kernel
theorem dX4_countOf_21 : decode cX4_countOf 21 = .ok (.iload_n 2, 1) := by decide +kernel
theorem dX4_countOf_22 : decode cX4_countOf 22 = .ok (.if_icmp .ne 6, 3) := by decide +kernel
theorem dX4_countOf_25 : decode cX4_countOf 25 = .ok (.iinc 3 1, 3) := by decide +kernel
theorem dX4_countOf_28 : decode cX4_countOf 28 = .ok (.iinc 4 1, 3) := by decide +kernel
theorem dX4_countOf_31 : decode cX4_countOf 31 = .ok (.goto (-26), 3) := by decide +kernel
theorem dX4_countOf_34 : decode cX4_countOf 34 = .ok (.iload_n 3, 1) := by decide +kernel
theorem dX4_countOf_35 : decode cX4_countOf 35 = .ok (.ireturn, 1) := by decide +kernel
set_option maxRecDepth 20000 in
theorem ggX4_countOfBoth_X4_get : GoodIn wsX4_countOfBoth wsX4_get := goodIn_r _ [6, 7, 8, 9, 10, 11] (by decide +kernel) (by decide +kernel)
set_option maxRecDepth 20000 in
theorem gX4_countOfBoth_X4_get : GoodIn wsX4_countOfBoth (wsV RX4 22 RX4 yX4_get wsX4_get) := goodIn_app (goodIn_of _ (by decide +kernel)) ggX4_countOfBoth_X4_get
theorem dX4_countOfBoth_0 : decode cX4_countOfBoth 0 = .ok (.iconst 0, 1) := by decide +kernel
theorem dX4_countOfBoth_1 : decode cX4_countOfBoth 1 = .ok (.istore 5, 2) := by decide +kernel
theorem dX4_countOfBoth_3 : decode cX4_countOfBoth 3 = .ok (.iconst 0, 1) := by decide +kernel
theorem dX4_countOfBoth_4 : decode cX4_countOfBoth 4 = .ok (.istore 6, 2) := by decide +kernel
theorem dX4_countOfBoth_6 : decode cX4_countOfBoth 6 = .ok (.iload 6, 2) := by decide +kernel
theorem dX4_countOfBoth_8 : decode cX4_countOfBoth 8 = .ok (.aload_n 0, 1) := by decide +kernel
theorem dX4_countOfBoth_9 : decode cX4_countOfBoth 9 = .ok (.getfield 19, 3) := by decide +kernel
theorem dX4_countOfBoth_12 : decode cX4_countOfBoth 12 = .ok (.if_icmp .ge 35, 3) := by decide +kernel
theorem dX4_countOfBoth_15 : decode cX4_countOfBoth 15 = .ok (.aload_n 0, 1) := by decide +kernel
theorem dX4_countOfBoth_16 : decode cX4_countOfBoth 16 = .ok (.iload 6, 2) := by decide +kernel
theorem dX4_countOfBoth_18 : decode cX4_countOfBoth 18 = .ok (.iload_n 1, 1) := by decide +kernel
theorem dX4_countOfBoth_19 : decode cX4_countOfBoth 19 = .ok (.invokevirtual 22, 3) := by decide +kernel
theorem dX4_countOfBoth_22 : decode cX4_countOfBoth 22 = .ok (.iload_n 2, 1) := by decide +kernel
theorem dX4_countOfBoth_23 : decode cX4_countOfBoth 23 = .ok (.if_icmp .ne 18, 3) := by decide +kernel
theorem dX4_countOfBoth_26 : decode cX4_countOfBoth 26 = .ok (.aload_n 0, 1) := by decide +kernel
theorem dX4_countOfBoth_27 : decode cX4_countOfBoth 27 = .ok (.iload 6, 2) := by decide +kernel
theorem dX4_countOfBoth_29 : decode cX4_countOfBoth 29 = .ok (.iload_n 3, 1) := by decide +kernel
theorem dX4_countOfBoth_30 : decode cX4_countOfBoth 30 = .ok (.invokevirtual 22, 3) := by decide +kernel
theorem dX4_countOfBoth_33 : decode cX4_countOfBoth 33 = .ok (.iload 4, 2) := by decide +kernel
theorem dX4_countOfBoth_35 : decode cX4_countOfBoth 35 = .ok (.if_icmp .ne 6, 3) := by decide +kernel
theorem dX4_countOfBoth_38 : decode cX4_countOfBoth 38 = .ok (.iinc 5 1, 3) := by decide +kernel
theorem dX4_countOfBoth_41 : decode cX4_countOfBoth 41 = .ok (.iinc 6 1, 3) := by decide +kernel
theorem dX4_countOfBoth_44 : decode cX4_countOfBoth 44 = .ok (.goto (-38), 3) := by decide +kernel
theorem dX4_countOfBoth_47 : decode cX4_countOfBoth 47 = .ok (.iload 5, 2) := by decide +kernel
theorem dX4_countOfBoth_49 : decode cX4_countOfBoth 49 = .ok (.ireturn, 1) := by decide +kernel
set_option maxRecDepth 20000 in
theorem ggX4_rowOfBoth_X4_get : GoodIn wsX4_rowOfBoth wsX4_get := goodIn_r _ [6, 7, 8, 9, 10, 11] (by decide +kernel) (by decide +kernel)
set_option maxRecDepth 20000 in
theorem gX4_rowOfBoth_X4_get : GoodIn wsX4_rowOfBoth (wsV RX4 22 RX4 yX4_get wsX4_get) := goodIn_app (goodIn_of _ (by decide +kernel)) ggX4_rowOfBoth_X4_get
theorem dX4_rowOfBoth_0 : decode cX4_rowOfBoth 0 = .ok (.iconst 0, 1) := by decide +kernel
theorem dX4_rowOfBoth_1 : decode cX4_rowOfBoth 1 = .ok (.istore 5, 2) := by decide +kernel
theorem dX4_rowOfBoth_3 : decode cX4_rowOfBoth 3 = .ok (.iload 5, 2) := by decide +kernel
theorem dX4_rowOfBoth_5 : decode cX4_rowOfBoth 5 = .ok (.aload_n 0, 1) := by decide +kernel
theorem dX4_rowOfBoth_6 : decode cX4_rowOfBoth 6 = .ok (.getfield 19, 3) := by decide +kernel
theorem dX4_rowOfBoth_9 : decode cX4_rowOfBoth 9 = .ok (.if_icmp .ge 35, 3) := by decide +kernel
theorem dX4_rowOfBoth_12 : decode cX4_rowOfBoth 12 = .ok (.aload_n 0, 1) := by decide +kernel
theorem dX4_rowOfBoth_13 : decode cX4_rowOfBoth 13 = .ok (.iload 5, 2) := by decide +kernel
theorem dX4_rowOfBoth_15 : decode cX4_rowOfBoth 15 = .ok (.iload_n 1, 1) := by decide +kernel
theorem dX4_rowOfBoth_16 : decode cX4_rowOfBoth 16 = .ok (.invokevirtual 22, 3) := by decide +kernel
theorem dX4_rowOfBoth_19 : decode cX4_rowOfBoth 19 = .ok (.iload_n 2, 1) := by decide +kernel
theorem dX4_rowOfBoth_20 : decode cX4_rowOfBoth 20 = .ok (.if_icmp .ne 18, 3) := by decide +kernel
theorem dX4_rowOfBoth_23 : decode cX4_rowOfBoth 23 = .ok (.aload_n 0, 1) := by decide +kernel
theorem dX4_rowOfBoth_24 : decode cX4_rowOfBoth 24 = .ok (.iload 5, 2) := by decide +kernel
theorem dX4_rowOfBoth_26 : decode cX4_rowOfBoth 26 = .ok (.iload_n 3, 1) := by decide +kernel
theorem dX4_rowOfBoth_27 : decode cX4_rowOfBoth 27 = .ok (.invokevirtual 22, 3) := by decide +kernel
theorem dX4_rowOfBoth_30 : decode cX4_rowOfBoth 30 = .ok (.iload 4, 2) := by decide +kernel
theorem dX4_rowOfBoth_32 : decode cX4_rowOfBoth 32 = .ok (.if_icmp .ne 6, 3) := by decide +kernel
theorem dX4_rowOfBoth_35 : decode cX4_rowOfBoth 35 = .ok (.iload 5, 2) := by decide +kernel
theorem dX4_rowOfBoth_37 : decode cX4_rowOfBoth 37 = .ok (.ireturn, 1) := by decide +kernel
theorem dX4_rowOfBoth_38 : decode cX4_rowOfBoth 38 = .ok (.iinc 5 1, 3) := by decide +kernel
theorem dX4_rowOfBoth_41 : decode cX4_rowOfBoth 41 = .ok (.goto (-38), 3) := by decide +kernel
theorem dX4_rowOfBoth_44 : decode cX4_rowOfBoth 44 = .ok (.bipush (-5), 2) := by decide +kernel
theorem dX4_rowOfBoth_46 : decode cX4_rowOfBoth 46 = .ok (.ireturn, 1) := by decide +kernel
set_option maxRecDepth 20000 in
theorem ggX4_sumOf_X4_get : GoodIn wsX4_sumOf wsX4_get := goodIn_r _ [6, 7, 8, 9, 10, 11] (by decide +kernel) (by decide +kernel)
set_option maxRecDepth 20000 in
theorem gX4_sumOf_X4_get : GoodIn wsX4_sumOf (wsV RX4 22 RX4 yX4_get wsX4_get) := goodIn_app (goodIn_of _ (by decide +kernel)) ggX4_sumOf_X4_get
theorem dX4_sumOf_0 : decode cX4_sumOf 0 = .ok (.iconst 0, 1) := by decide +kernel
theorem dX4_sumOf_1 : decode cX4_sumOf 1 = .ok (.istore_n 2, 1) := by decide +kernel
theorem dX4_sumOf_2 : decode cX4_sumOf 2 = .ok (.iconst 0, 1) := by decide +kernel
theorem dX4_sumOf_3 : decode cX4_sumOf 3 = .ok (.istore_n 3, 1) := by decide +kernel
theorem dX4_sumOf_4 : decode cX4_sumOf 4 = .ok (.iload_n 3, 1) := by decide +kernel
theorem dX4_sumOf_5 : decode cX4_sumOf 5 = .ok (.aload_n 0, 1) := by decide +kernel
theorem dX4_sumOf_6 : decode cX4_sumOf 6 = .ok (.getfield 19, 3) := by decide +kernel
theorem dX4_sumOf_9 : decode cX4_sumOf 9 = .ok (.if_icmp .ge 18, 3) := by decide +kernel
theorem dX4_sumOf_12 : decode cX4_sumOf 12 = .ok (.iload_n 2, 1) := by decide +kernel
theorem dX4_sumOf_13 : decode cX4_sumOf 13 = .ok (.aload_n 0, 1) := by decide +kernel
theorem dX4_sumOf_14 : decode cX4_sumOf 14 = .ok (.iload_n 3, 1) := by decide +kernel
theorem dX4_sumOf_15 : decode cX4_sumOf 15 = .ok (.iload_n 1, 1) := by decide +kernel
theorem dX4_sumOf_16 : decode cX4_sumOf 16 = .ok (.invokevirtual 22, 3) := by decide +kernel
theorem dX4_sumOf_19 : decode cX4_sumOf 19 = .ok (.iadd, 1) := by decide +kernel
theorem dX4_sumOf_20 : decode cX4_sumOf 20 = .ok (.istore_n 2, 1) := by decide +kernel
theorem dX4_sumOf_21 : decode cX4_sumOf 21 = .ok (.iinc 3 1, 3) := by decide +kernel
theorem dX4_sumOf_24 : decode cX4_sumOf 24 = .ok (.goto (-20), 3) := by decide +kernel
theorem dX4_sumOf_27 : decode cX4_sumOf 27 = .ok (.iload_n 2, 1) := by decide +kernel
theorem dX4_sumOf_28 : decode cX4_sumOf 28 = .ok (.ireturn, 1) := by decide +kernel
theorem dX4_copyFrom_0 : decode cX4_copyFrom 0 = .ok (.aload_n 0, 1) := by decide +kernel
theorem dX4_copyFrom_1 : decode cX4_copyFrom 1 = .ok (.aload_n 1, 1) := by decide +kernel
theorem dX4_copyFrom_2 : decode cX4_copyFrom 2 = .ok (.getfield 19, 3) := by decide +kernel
theorem dX4_copyFrom_5 : decode cX4_copyFrom 5 = .ok (.putfield 19, 3) := by decide +kernel
theorem dX4_copyFrom_8 : decode cX4_copyFrom 8 = .ok (.aload_n 1, 1) := by decide +kernel
theorem dX4_copyFrom_9 : decode cX4_copyFrom 9 = .ok (.getfield 9, 3) := by decide +kernel
theorem dX4_copyFrom_12 : decode cX4_copyFrom 12 = .ok (.iconst 0, 1) := by decide +kernel
theorem dX4_copyFrom_13 : decode cX4_copyFrom 13 = .ok (.aload_n 0, 1) := by decide +kernel
theorem dX4_copyFrom_14 : decode cX4_copyFrom 14 = .ok (.getfield 9, 3) := by decide +kernel
theorem dX4_copyFrom_17 : decode cX4_copyFrom 17 = .ok (.iconst 0, 1) := by decide +kernel
theorem dX4_copyFrom_18 : decode cX4_copyFrom 18 = .ok (.aload_n 0, 1) := by decide +kernel
theorem dX4_copyFrom_19 : decode cX4_copyFrom 19 = .ok (.getfield 9, 3) := by decide +kernel
theorem dX4_copyFrom_22 : decode cX4_copyFrom 22 = .ok (.arraylength, 1) := by decide +kernel
theorem dX4_copyFrom_23 : decode cX4_copyFrom 23 = .ok (.aload_n 1, 1) := by decide +kernel
theorem dX4_copyFrom_24 : decode cX4_copyFrom 24 = .ok (.getfield 9, 3) := by decide +kernel
theorem dX4_copyFrom_27 : decode cX4_copyFrom 27 = .ok (.arraylength, 1) := by decide +kernel
theorem dX4_copyFrom_28 : decode cX4_copyFrom 28 = .ok (.invokestatic 26, 3) := by decide +kernel
theorem dX4_copyFrom_31 : decode cX4_copyFrom 31 = .ok (.invokestatic 31, 3) := by decide +kernel
theorem dX4_copyFrom_34 : decode cX4_copyFrom 34 = .ok (.return_, 1) := by decide +kernel
set_option maxRecDepth 20000 in
theorem ggX5_init_X0_init : GoodIn wsX5_init wsX0_init := goodIn_r _ [22, 23, 2, 3, 24, 25, 26, 27, 28, 29, 30, 31, 32, 33, 34, 35, 36, 37, 38, 39, 40, 41, 42, 43, 44, 45, 46, 47, 48, 49, 50, 51, 52, 53, 54, 55, 56, 57, 58, 6, 59, 98, 99, 100, 75, 76, 77, 78, 79, 80, 81, 101, 102, 103] (by decide +kernel) (by decide +kernel)
set_option maxRecDepth 20000 in
theorem gX5_init_X0_init : GoodIn wsX5_init (wsX0_init) := ggX5_init_X0_init
set_option maxRecDepth 20000 in
theorem ggX5_init_X1_init : GoodIn wsX5_init wsX1_init := goodIn_r _ [62, 63, 2, 3, 64, 65, 5, 6, 66, 21, 22, 23, 24, 25, 26, 27, 28, 29, 30, 31, 32, 33, 34, 35, 36, 37, 38, 39, 40, 41, 42, 43, 44, 45, 46, 47, 48, 49, 50, 51, 52, 53, 54, 55, 56, 57, 58, 59, 90, 91, 92, 75, 76, 77, 78, 79, 80, 81, 98, 99, 100, 101, 102, 103] (by decide +kernel) (by decide +kernel)
set_option maxRecDepth 20000 in
theorem gX5_init_X1_init : GoodIn wsX5_init (wsX1_init) := ggX5_init_X1_init
set_option maxRecDepth 20000 in
theorem ggX5_init_X2_init : GoodIn wsX5_init wsX2_init := goodIn_r _ [68, 69, 2, 3, 70, 71, 72, 25, 26, 27, 73, 74, 38, 39, 40, 41, 42, 93, 94, 95, 96, 97, 98, 99, 100] (by decide +kernel) (by decide +kernel)
set_option maxRecDepth 20000 in
theorem gX5_init_X2_init_n31 : GoodIn wsX5_init (wsX2_init) := ggX5_init_X2_init
theorem dX5_init_0 : decode cX5_init 0 = .ok (.aload_n 0, 1) := by decide +kernel
theorem dX5_init_1 : decode cX5_init 1 = .ok (.invokespecial 1, 3) := by decide +kernel
theorem dX5_init_4 : decode cX5_init 4 = .ok (.aload_n 0, 1) := by decide +kernel
theorem dX5_init_5 : decode cX5_init 5 = .ok (.new 7, 3) := by decide +kernel
theorem dX5_init_8 : decode cX5_init 8 = .ok (.dup, 1) := by decide +kernel
theorem dX5_init_9 : decode cX5_init 9 = .ok (.invokespecial 9, 3) := by decide +kernel
theorem dX5_init_12 : decode cX5_init 12 = .ok (.putfield 10, 3) := by decide +kernel
theorem dX5_init_15 : decode cX5_init 15 = .ok (.aload_n 0, 1) := by decide +kernel
theorem dX5_init_16 : decode cX5_init 16 = .ok (.new 7, 3) := by decide +kernel
theorem dX5_init_19 : decode cX5_init 19 = .ok (.dup, 1) := by decide +kernel
theorem dX5_init_20 : decode cX5_init 20 = .ok (.invokespecial 9, 3) := by decide +kernel
theorem dX5_init_23 : decode cX5_init 23 = .ok (.putfield 16, 3) := by decide +kernel
theorem dX5_init_26 : decode cX5_init 26 = .ok (.aload_n 0, 1) := by decide +kernel
theorem dX5_init_27 : decode cX5_init 27 = .ok (.new 7, 3) := by decide +kernel
theorem dX5_init_30 : decode cX5_init 30 = .ok (.dup, 1) := by decide +kernel
theorem dX5_init_31 : decode cX5_init 31 = .ok (.invokespecial 9, 3) := by decide +kernel
theorem dX5_init_34 : decode cX5_init 34 = .ok (.putfield 19, 3) := by decide +kernel
theorem dX5_init_37 : decode cX5_init 37 = .ok (.aload_n 0, 1) := by decide +kernel
theorem dX5_init_38 : decode cX5_init 38 = .ok (.new 22, 3) := by decide +kernel
theorem dX5_init_41 : decode cX5_init 41 = .ok (.dup, 1) := by decide +kernel
theorem dX5_init_42 : decode cX5_init 42 = .ok (.invokespecial 24, 3) := by decide +kernel
theorem dX5_init_45 : decode cX5_init 45 = .ok (.putfield 25, 3) := by decide +kernel
theorem dX5_init_48 : decode cX5_init 48 = .ok (.aload_n 0, 1) := by decide +kernel
theorem dX5_init_49 : decode cX5_init 49 = .ok (.new 29, 3) := by decide +kernel
theorem dX5_init_52 : decode cX5_init 52 = .ok (.dup, 1) := by decide +kernel
theorem dX5_init_53 : decode cX5_init 53 = .ok (.invokespecial 31, 3) := by decide +kernel
theorem dX5_init_56 : decode cX5_init 56 = .ok (.putfield 32, 3) := by decide +kernel
theorem dX5_init_59 : decode cX5_init 59 = .ok (.aload_n 0, 1) := by decide +kernel
theorem dX5_init_60 : decode cX5_init 60 = .ok (.bipush (-5), 2) := by decide +kernel
theorem dX5_init_62 : decode cX5_init 62 = .ok (.putfield 36, 3) := by decide +kernel
theorem dX5_init_65 : decode cX5_init 65 = .ok (.aload_n 0, 1) := by decide +kernel
theorem dX5_init_66 : decode cX5_init 66 = .ok (.bipush (-5), 2) := by decide +kernel
theorem dX5_init_68 : decode cX5_init 68 = .ok (.putfield 40, 3) := by decide +kernel
theorem dX5_init_71 : decode cX5_init 71 = .ok (.return_, 1) := by decide +kernel
set_option maxRecDepth 20000 in
theorem ggX5_ask_X0_copyFrom : GoodIn wsX5_ask wsX0_copyFrom := goodIn_r _ [7, 8, 9, 10, 11, 12, 13, 14, 15, 16, 17, 18, 19, 20, 21, 22, 23, 24, 25, 26, 27, 28, 29, 30, 31, 32, 33, 34, 35, 36, 37, 38, 39, 88, 89, 90, 91, 92, 93, 94, 95, 96, 97, 98, 99, 100] (by decide +kernel) (by decide +kernel)
set_option maxRecDepth 20000 in
theorem gX5_ask_X0_copyFrom : GoodIn wsX5_ask (wsV RX5 43 RX0 yX0_copyFrom wsX0_copyFrom) := goodIn_app (goodIn_of _ (by decide +kernel)) ggX5_ask_X0_copyFrom
set_option maxRecDepth 20000 in
theorem ggX5_ask_X0_addRiddle : GoodIn wsX5_ask wsX0_addRiddle := goodIn_r _ [43, 8, 9, 44, 45, 46, 18, 47, 20, 48, 49, 50, 51, 52, 53, 54, 55, 56, 57, 58, 59, 60, 21, 88, 89, 90, 91, 92, 93, 94, 95, 96, 97] (by decide +kernel) (by decide +kernel)
set_option maxRecDepth 20000 in
theorem gX5_ask_X0_addRiddle : GoodIn wsX5_ask (wsV RX5 47 RX0 yX0_addRiddle wsX0_addRiddle) := goodIn_app (goodIn_of _ (by decide +kernel)) ggX5_ask_X0_addRiddle
set_option maxRecDepth 20000 in
theorem ggX5_ask_X5_finishAct : GoodIn wsX5_ask wsX5_finishAct := goodIn_r _ [65, 66, 2, 1, 67, 68, 69, 70, 71, 72, 73, 74, 75, 76, 77, 78, 79, 4, 5, 6, 7, 8, 9, 10, 11, 12, 13, 14, 15, 16, 17, 18, 19, 20, 21, 22, 23, 24, 25, 26, 27, 28, 29, 30, 31, 32, 33, 34, 35, 36, 37, 38, 39, 3, 80, 81, 82, 83, 84, 85, 86, 87, 101, 102, 103, 88, 89, 90, 91, 92, 93, 94, 95, 96, 97, 98, 99, 100] (by decide +kernel) (by decide +kernel)
set_option maxRecDepth 20000 in
theorem gX5_ask_X5_finishAct : GoodIn wsX5_ask (wsV RX5 51 RX5 yX5_finishAct wsX5_finishAct) := goodIn_app (goodIn_of _ (by decide +kernel)) ggX5_ask_X5_finishAct
theorem dX5_ask_0 : decode cX5_ask 0 = .ok (.aload_n 0, 1) := by decide +kernel
theorem dX5_ask_1 : decode cX5_ask 1 = .ok (.getfield 16, 3) := by decide +kernel
theorem dX5_ask_4 : decode cX5_ask 4 = .ok (.aload_n 0, 1) := by decide +kernel
theorem dX5_ask_5 : decode cX5_ask 5 = .ok (.getfield 10, 3) := by decide +kernel
theorem dX5_ask_8 : decode cX5_ask 8 = .ok (.invokevirtual 43, 3) := by decide +kernel
theorem dX5_ask_11 : decode cX5_ask 11 = .ok (.aload_n 0, 1) := by decide +kernel
theorem dX5_ask_12 : decode cX5_ask 12 = .ok (.aload_n 0, 1) := by decide +kernel
theorem dX5_ask_13 : decode cX5_ask 13 = .ok (.getfield 16, 3) := by decide +kernel
theorem dX5_ask_16 : decode cX5_ask 16 = .ok (.iload_n 1, 1) := by decide +kernel
theorem dX5_ask_17 : decode cX5_ask 17 = .ok (.iload_n 2, 1) := by decide +kernel
theorem dX5_ask_18 : decode cX5_ask 18 = .ok (.iload_n 3, 1) := by decide +kernel
theorem dX5_ask_19 : decode cX5_ask 19 = .ok (.invokevirtual 47, 3) := by decide +kernel
theorem dX5_ask_22 : decode cX5_ask 22 = .ok (.invokevirtual 51, 3) := by decide +kernel
theorem dX5_ask_25 : decode cX5_ask 25 = .ok (.ireturn, 1) := by decide +kernel
set_option maxRecDepth 20000 in
theorem ggX5_withdraw_X0_copyFrom : GoodIn wsX5_withdraw wsX0_copyFrom := goodIn_r _ [7, 8, 9, 10, 11, 12, 13, 14, 15, 16, 17, 18, 19, 20, 21, 22, 23, 24, 25, 26, 27, 28, 29, 30, 31, 32, 33, 34, 35, 36, 37, 38, 39, 89, 90, 91, 92, 93, 94, 95, 96, 97, 98, 99, 100, 101] (by decide +kernel) (by decide +kernel)
set_option maxRecDepth 20000 in
theorem gX5_withdraw_X0_copyFrom : GoodIn wsX5_withdraw (wsV RX5 43 RX0 yX0_copyFrom wsX0_copyFrom) := goodIn_app (goodIn_of _ (by decide +kernel)) ggX5_withdraw_X0_copyFrom
set_option maxRecDepth 20000 in
theorem ggX5_withdraw_X0_closeRiddle : GoodIn wsX5_withdraw wsX0_closeRiddle := goodIn_r _ [43, 9, 10, 44, 45, 46, 18, 47, 20, 48, 49, 50, 51, 52, 21, 53, 54, 55, 56, 57, 58, 59, 60, 61, 89, 90, 91, 92, 93, 94, 95, 96, 97, 98] (by decide +kernel) (by decide +kernel)
set_option maxRecDepth 20000 in
theorem gX5_withdraw_X0_closeRiddle : GoodIn wsX5_withdraw (wsV RX5 55 RX0 yX0_closeRiddle wsX0_closeRiddle) := goodIn_app (goodIn_of _ (by decide +kernel)) ggX5_withdraw_X0_closeRiddle
set_option maxRecDepth 20000 in
theorem ggX5_withdraw_X5_finishAct : GoodIn wsX5_withdraw wsX5_finishAct := goodIn_r _ [66, 67, 2, 1, 68, 69, 70, 71, 72, 73, 74, 75, 76, 77, 78, 79, 80, 4, 5, 6, 7, 8, 9, 10, 11, 12, 13, 14, 15, 16, 17, 18, 19, 20, 21, 22, 23, 24, 25, 26, 27, 28, 29, 30, 31, 32, 33, 34, 35, 36, 37, 38, 39, 3, 81, 82, 83, 84, 85, 86, 87, 88, 102, 103, 104, 89, 90, 91, 92, 93, 94, 95, 96, 97, 98, 99, 100, 101] (by decide +kernel) (by decide +kernel)
set_option maxRecDepth 20000 in
theorem gX5_withdraw_X5_finishAct : GoodIn wsX5_withdraw (wsV RX5 51 RX5 yX5_finishAct wsX5_finishAct) := goodIn_app (goodIn_of _ (by decide +kernel)) ggX5_withdraw_X5_finishAct
theorem dX5_withdraw_0 : decode cX5_withdraw 0 = .ok (.aload_n 0, 1) := by decide +kernel
theorem dX5_withdraw_1 : decode cX5_withdraw 1 = .ok (.getfield 16, 3) := by decide +kernel
theorem dX5_withdraw_4 : decode cX5_withdraw 4 = .ok (.aload_n 0, 1) := by decide +kernel
theorem dX5_withdraw_5 : decode cX5_withdraw 5 = .ok (.getfield 10, 3) := by decide +kernel
theorem dX5_withdraw_8 : decode cX5_withdraw 8 = .ok (.invokevirtual 43, 3) := by decide +kernel
theorem dX5_withdraw_11 : decode cX5_withdraw 11 = .ok (.aload_n 0, 1) := by decide +kernel
theorem dX5_withdraw_12 : decode cX5_withdraw 12 = .ok (.aload_n 0, 1) := by decide +kernel
theorem dX5_withdraw_13 : decode cX5_withdraw 13 = .ok (.getfield 16, 3) := by decide +kernel
theorem dX5_withdraw_16 : decode cX5_withdraw 16 = .ok (.iload_n 1, 1) := by decide +kernel
theorem dX5_withdraw_17 : decode cX5_withdraw 17 = .ok (.invokevirtual 55, 3) := by decide +kernel
theorem dX5_withdraw_20 : decode cX5_withdraw 20 = .ok (.invokevirtual 51, 3) := by decide +kernel
theorem dX5_withdraw_23 : decode cX5_withdraw 23 = .ok (.ireturn, 1) := by decide +kernel
set_option maxRecDepth 20000 in
theorem ggX5_deliver_X0_copyFrom : GoodIn wsX5_deliver wsX0_copyFrom := goodIn_r _ [7, 8, 9, 10, 11, 12, 13, 14, 15, 16, 17, 18, 19, 20, 21, 22, 23, 24, 25, 26, 27, 28, 29, 30, 31, 32, 33, 34, 35, 36, 37, 38, 39, 96, 97, 98, 99, 100, 101, 102, 103, 104, 105, 106, 107, 108] (by decide +kernel) (by decide +kernel)
set_option maxRecDepth 20000 in
theorem gX5_deliver_X0_copyFrom : GoodIn wsX5_deliver (wsV RX5 43 RX0 yX0_copyFrom wsX0_copyFrom) := goodIn_app (goodIn_of _ (by decide +kernel)) ggX5_deliver_X0_copyFrom
set_option maxRecDepth 20000 in
theorem ggX5_deliver_X0_addAnswer : GoodIn wsX5_deliver wsX0_addAnswer := goodIn_r _ [43, 8, 9, 10, 13, 44, 45, 46, 18, 47, 20, 48, 49, 50, 51, 52, 21, 53, 54, 55, 56, 57, 58, 59, 60, 61, 62, 63, 64, 65, 66, 67, 33, 68, 35, 36, 37, 96, 97, 98, 99, 100, 101, 102, 103, 104, 105, 106, 107, 108] (by decide +kernel) (by decide +kernel)
set_option maxRecDepth 20000 in
theorem gX5_deliver_X0_addAnswer : GoodIn wsX5_deliver (wsV RX5 58 RX0 yX0_addAnswer wsX0_addAnswer) := goodIn_app (goodIn_of _ (by decide +kernel)) ggX5_deliver_X0_addAnswer
set_option maxRecDepth 20000 in
theorem ggX5_deliver_X5_finishAct : GoodIn wsX5_deliver wsX5_finishAct := goodIn_r _ [73, 74, 2, 1, 75, 76, 77, 78, 79, 80, 81, 82, 83, 84, 85, 86, 87, 4, 5, 6, 7, 8, 9, 10, 11, 12, 13, 14, 15, 16, 17, 18, 19, 20, 21, 22, 23, 24, 25, 26, 27, 28, 29, 30, 31, 32, 33, 34, 35, 36, 37, 38, 39, 3, 88, 89, 90, 91, 92, 93, 94, 95, 109, 110, 111, 96, 97, 98, 99, 100, 101, 102, 103, 104, 105, 106, 107, 108] (by decide +kernel) (by decide +kernel)
set_option maxRecDepth 20000 in
theorem gX5_deliver_X5_finishAct : GoodIn wsX5_deliver (wsV RX5 51 RX5 yX5_finishAct wsX5_finishAct) := goodIn_app (goodIn_of _ (by decide +kernel)) ggX5_deliver_X5_finishAct
theorem dX5_deliver_0 : decode cX5_deliver 0 = .ok (.aload_n 0, 1) := by decide +kernel
theorem dX5_deliver_1 : decode cX5_deliver 1 = .ok (.getfield 16, 3) := by decide +kernel
theorem dX5_deliver_4 : decode cX5_deliver 4 = .ok (.aload_n 0, 1) := by decide +kernel
theorem dX5_deliver_5 : decode cX5_deliver 5 = .ok (.getfield 10, 3) := by decide +kernel
theorem dX5_deliver_8 : decode cX5_deliver 8 = .ok (.invokevirtual 43, 3) := by decide +kernel
theorem dX5_deliver_11 : decode cX5_deliver 11 = .ok (.aload_n 0, 1) := by decide +kernel
theorem dX5_deliver_12 : decode cX5_deliver 12 = .ok (.aload_n 0, 1) := by decide +kernel
theorem dX5_deliver_13 : decode cX5_deliver 13 = .ok (.getfield 16, 3) := by decide +kernel
theorem dX5_deliver_16 : decode cX5_deliver 16 = .ok (.iload_n 1, 1) := by decide +kernel
theorem dX5_deliver_17 : decode cX5_deliver 17 = .ok (.iload_n 2, 1) := by decide +kernel
theorem dX5_deliver_18 : decode cX5_deliver 18 = .ok (.iload_n 3, 1) := by decide +kernel
theorem dX5_deliver_19 : decode cX5_deliver 19 = .ok (.iload 4, 2) := by decide +kernel
theorem dX5_deliver_21 : decode cX5_deliver 21 = .ok (.invokevirtual 58, 3) := by decide +kernel
theorem dX5_deliver_24 : decode cX5_deliver 24 = .ok (.invokevirtual 51, 3) := by decide +kernel
theorem dX5_deliver_27 : decode cX5_deliver 27 = .ok (.ireturn, 1) := by decide +kernel
set_option maxRecDepth 20000 in
theorem ggX5_adjust_X0_copyFrom : GoodIn wsX5_adjust wsX0_copyFrom := goodIn_r _ [7, 8, 9, 10, 11, 12, 13, 14, 15, 16, 17, 18, 19, 20, 21, 22, 23, 24, 25, 26, 27, 28, 29, 30, 31, 32, 33, 34, 35, 36, 37, 38, 39, 83, 84, 85, 86, 87, 88, 89, 90, 91, 92, 93, 94, 95] (by decide +kernel) (by decide +kernel)
set_option maxRecDepth 20000 in
theorem gX5_adjust_X0_copyFrom : GoodIn wsX5_adjust (wsV RX5 43 RX0 yX0_copyFrom wsX0_copyFrom) := goodIn_app (goodIn_of _ (by decide +kernel)) ggX5_adjust_X0_copyFrom
set_option maxRecDepth 20000 in
theorem ggX5_adjust_X0_setScalesRight : GoodIn wsX5_adjust wsX0_setScalesRight := goodIn_r _ [43, 11, 44, 45, 24, 46, 47, 48, 49, 18, 50, 51, 21, 52, 53, 54, 55, 83, 84, 85, 86, 87, 88, 89, 90, 91, 92] (by decide +kernel) (by decide +kernel)
set_option maxRecDepth 20000 in
theorem gX5_adjust_X0_setScalesRight : GoodIn wsX5_adjust (wsV RX5 62 RX0 yX0_setScalesRight wsX0_setScalesRight) := goodIn_app (goodIn_of _ (by decide +kernel)) ggX5_adjust_X0_setScalesRight
set_option maxRecDepth 20000 in
theorem ggX5_adjust_X5_finishAct : GoodIn wsX5_adjust wsX5_finishAct := goodIn_r _ [60, 61, 2, 1, 62, 63, 64, 65, 66, 67, 68, 69, 70, 71, 72, 73, 74, 4, 5, 6, 7, 8, 9, 10, 11, 12, 13, 14, 15, 16, 17, 18, 19, 20, 21, 22, 23, 24, 25, 26, 27, 28, 29, 30, 31, 32, 33, 34, 35, 36, 37, 38, 39, 3, 75, 76, 77, 78, 79, 80, 81, 82, 96, 97, 98, 83, 84, 85, 86, 87, 88, 89, 90, 91, 92, 93, 94, 95] (by decide +kernel) (by decide +kernel)
set_option maxRecDepth 20000 in
theorem gX5_adjust_X5_finishAct : GoodIn wsX5_adjust (wsV RX5 51 RX5 yX5_finishAct wsX5_finishAct) := goodIn_app (goodIn_of _ (by decide +kernel)) ggX5_adjust_X5_finishAct
theorem dX5_adjust_0 : decode cX5_adjust 0 = .ok (.aload_n 0, 1) := by decide +kernel
theorem dX5_adjust_1 : decode cX5_adjust 1 = .ok (.getfield 16, 3) := by decide +kernel
theorem dX5_adjust_4 : decode cX5_adjust 4 = .ok (.aload_n 0, 1) := by decide +kernel
theorem dX5_adjust_5 : decode cX5_adjust 5 = .ok (.getfield 10, 3) := by decide +kernel
theorem dX5_adjust_8 : decode cX5_adjust 8 = .ok (.invokevirtual 43, 3) := by decide +kernel
theorem dX5_adjust_11 : decode cX5_adjust 11 = .ok (.aload_n 0, 1) := by decide +kernel
theorem dX5_adjust_12 : decode cX5_adjust 12 = .ok (.aload_n 0, 1) := by decide +kernel
theorem dX5_adjust_13 : decode cX5_adjust 13 = .ok (.getfield 16, 3) := by decide +kernel
theorem dX5_adjust_16 : decode cX5_adjust 16 = .ok (.invokevirtual 62, 3) := by decide +kernel
theorem dX5_adjust_19 : decode cX5_adjust 19 = .ok (.invokevirtual 51, 3) := by decide +kernel
theorem dX5_adjust_22 : decode cX5_adjust 22 = .ok (.ireturn, 1) := by decide +kernel
set_option maxRecDepth 20000 in
theorem ggX5_set_X0_copyFrom : GoodIn wsX5_set wsX0_copyFrom := goodIn_r _ [7, 8, 9, 10, 11, 12, 13, 14, 15, 16, 17, 18, 19, 20, 21, 22, 23, 24, 25, 26, 27, 28, 29, 30, 31, 32, 33, 34, 35, 36, 37, 38, 39, 84, 85, 86, 87, 88, 89, 90, 91, 92, 93, 94, 95, 96] (by decide +kernel) (by decide +kernel)
set_option maxRecDepth 20000 in
theorem gX5_set_X0_copyFrom : GoodIn wsX5_set (wsV RX5 43 RX0 yX0_copyFrom wsX0_copyFrom) := goodIn_app (goodIn_of _ (by decide +kernel)) ggX5_set_X0_copyFrom
set_option maxRecDepth 20000 in
theorem ggX5_set_X0_changeSetting : GoodIn wsX5_set wsX0_changeSetting := goodIn_r _ [43, 12, 44, 45, 46, 18, 47, 20, 48, 49, 50, 51, 52, 21, 53, 54, 55, 56, 84, 85, 86, 87, 88, 89, 90, 91, 92, 93] (by decide +kernel) (by decide +kernel)
set_option maxRecDepth 20000 in
theorem gX5_set_X0_changeSetting : GoodIn wsX5_set (wsV RX5 66 RX0 yX0_changeSetting wsX0_changeSetting) := goodIn_app (goodIn_of _ (by decide +kernel)) ggX5_set_X0_changeSetting
set_option maxRecDepth 20000 in
theorem ggX5_set_X5_finishAct : GoodIn wsX5_set wsX5_finishAct := goodIn_r _ [61, 62, 2, 1, 63, 64, 65, 66, 67, 68, 69, 70, 71, 72, 73, 74, 75, 4, 5, 6, 7, 8, 9, 10, 11, 12, 13, 14, 15, 16, 17, 18, 19, 20, 21, 22, 23, 24, 25, 26, 27, 28, 29, 30, 31, 32, 33, 34, 35, 36, 37, 38, 39, 3, 76, 77, 78, 79, 80, 81, 82, 83, 97, 98, 99, 84, 85, 86, 87, 88, 89, 90, 91, 92, 93, 94, 95, 96] (by decide +kernel) (by decide +kernel)
set_option maxRecDepth 20000 in
theorem gX5_set_X5_finishAct : GoodIn wsX5_set (wsV RX5 51 RX5 yX5_finishAct wsX5_finishAct) := goodIn_app (goodIn_of _ (by decide +kernel)) ggX5_set_X5_finishAct
theorem dX5_set_0 : decode cX5_set 0 = .ok (.aload_n 0, 1) := by decide +kernel
theorem dX5_set_1 : decode cX5_set 1 = .ok (.getfield 16, 3) := by decide +kernel
theorem dX5_set_4 : decode cX5_set 4 = .ok (.aload_n 0, 1) := by decide +kernel
theorem dX5_set_5 : decode cX5_set 5 = .ok (.getfield 10, 3) := by decide +kernel
theorem dX5_set_8 : decode cX5_set 8 = .ok (.invokevirtual 43, 3) := by decide +kernel
theorem dX5_set_11 : decode cX5_set 11 = .ok (.aload_n 0, 1) := by decide +kernel
theorem dX5_set_12 : decode cX5_set 12 = .ok (.aload_n 0, 1) := by decide +kernel
theorem dX5_set_13 : decode cX5_set 13 = .ok (.getfield 16, 3) := by decide +kernel
theorem dX5_set_16 : decode cX5_set 16 = .ok (.iload_n 1, 1) := by decide +kernel
theorem dX5_set_17 : decode cX5_set 17 = .ok (.iload_n 2, 1) := by decide +kernel
theorem dX5_set_18 : decode cX5_set 18 = .ok (.invokevirtual 66, 3) := by decide +kernel
theorem dX5_set_21 : decode cX5_set 21 = .ok (.invokevirtual 51, 3) := by decide +kernel
theorem dX5_set_24 : decode cX5_set 24 = .ok (.ireturn, 1) := by decide +kernel
set_option maxRecDepth 20000 in
theorem ggX5_pass_X0_copyFrom : GoodIn wsX5_pass wsX0_copyFrom := goodIn_r _ [7, 8, 9, 10, 11, 12, 13, 14, 15, 16, 17, 18, 19, 20, 21, 22, 23, 24, 25, 26, 27, 28, 29, 30, 31, 32, 33, 34, 35, 36, 37, 38, 39, 147, 148, 149, 150, 151, 152, 153, 154, 155, 156, 157, 158, 159] (by decide +kernel) (by decide +kernel)
set_option maxRecDepth 20000 in
theorem gX5_pass_X0_copyFrom : GoodIn wsX5_pass (wsV RX5 43 RX0 yX0_copyFrom wsX0_copyFrom) := goodIn_app (goodIn_of _ (by decide +kernel)) ggX5_pass_X0_copyFrom
set_option maxRecDepth 20000 in
theorem ggX5_pass_X0_playRounds : GoodIn wsX5_pass wsX0_playRounds := goodIn_r _ [43, 14, 44, 45, 46, 6, 47, 12, 13, 48, 23, 24, 25, 49, 50, 51, 18, 52, 53, 21, 54, 55, 56, 33, 57, 36, 58, 59, 60, 61, 35, 62, 63, 64, 65, 37, 66, 67, 68, 69, 70, 71, 72, 73, 10, 9, 74, 75, 76, 77, 11, 78, 79, 80, 81, 82, 83, 84, 85, 86, 87, 8, 88, 89, 90, 91, 92, 93, 94, 95, 96, 97, 98, 99, 100, 101, 102, 103, 104, 105, 106, 107, 108, 109, 110, 111, 112, 113, 114, 115, 116, 117, 118, 119, 147, 148, 149, 150, 151, 152, 153, 154, 155, 156, 157, 158, 159] (by decide +kernel) (by decide +kernel)
set_option maxRecDepth 20000 in
theorem gX5_pass_X0_playRounds : GoodIn wsX5_pass (wsV RX5 70 RX0 yX0_playRounds wsX0_playRounds) := goodIn_app (goodIn_of _ (by decide +kernel)) ggX5_pass_X0_playRounds
set_option maxRecDepth 20000 in
theorem ggX5_pass_X5_finishAct : GoodIn wsX5_pass wsX5_finishAct := goodIn_r _ [124, 125, 2, 1, 126, 127, 128, 129, 130, 131, 132, 133, 134, 135, 136, 137, 138, 4, 5, 6, 7, 8, 9, 10, 11, 12, 13, 14, 15, 16, 17, 18, 19, 20, 21, 22, 23, 24, 25, 26, 27, 28, 29, 30, 31, 32, 33, 34, 35, 36, 37, 38, 39, 3, 139, 140, 141, 142, 143, 144, 145, 146, 160, 161, 162, 147, 148, 149, 150, 151, 152, 153, 154, 155, 156, 157, 158, 159] (by decide +kernel) (by decide +kernel)
set_option maxRecDepth 20000 in
theorem gX5_pass_X5_finishAct : GoodIn wsX5_pass (wsV RX5 51 RX5 yX5_finishAct wsX5_finishAct) := goodIn_app (goodIn_of _ (by decide +kernel)) ggX5_pass_X5_finishAct
theorem dX5_pass_0 : decode cX5_pass 0 = .ok (.aload_n 0, 1) := by decide +kernel
theorem dX5_pass_1 : decode cX5_pass 1 = .ok (.getfield 16, 3) := by decide +kernel
theorem dX5_pass_4 : decode cX5_pass 4 = .ok (.aload_n 0, 1) := by decide +kernel
theorem dX5_pass_5 : decode cX5_pass 5 = .ok (.getfield 10, 3) := by decide +kernel
theorem dX5_pass_8 : decode cX5_pass 8 = .ok (.invokevirtual 43, 3) := by decide +kernel
theorem dX5_pass_11 : decode cX5_pass 11 = .ok (.aload_n 0, 1) := by decide +kernel
theorem dX5_pass_12 : decode cX5_pass 12 = .ok (.aload_n 0, 1) := by decide +kernel
theorem dX5_pass_13 : decode cX5_pass 13 = .ok (.getfield 16, 3) := by decide +kernel
theorem dX5_pass_16 : decode cX5_pass 16 = .ok (.iload_n 1, 1) := by decide +kernel
theorem dX5_pass_17 : decode cX5_pass 17 = .ok (.invokevirtual 70, 3) := by decide +kernel
theorem dX5_pass_20 : decode cX5_pass 20 = .ok (.invokevirtual 51, 3) := by decide +kernel
theorem dX5_pass_23 : decode cX5_pass 23 = .ok (.ireturn, 1) := by decide +kernel
set_option maxRecDepth 20000 in
theorem ggX5_type_X2_addCharacter : GoodIn wsX5_type wsX2_addCharacter := goodIn_r _ [6, 7, 8, 17, 18, 19, 20, 21] (by decide +kernel) (by decide +kernel)
set_option maxRecDepth 20000 in
theorem gX5_type_X2_addCharacter : GoodIn wsX5_type (wsV RX5 73 RX2 yX2_addCharacter wsX2_addCharacter) := goodIn_app (goodIn_of _ (by decide +kernel)) ggX5_type_X2_addCharacter
theorem dX5_type_0 : decode cX5_type 0 = .ok (.aload_n 0, 1) := by decide +kernel
theorem dX5_type_1 : decode cX5_type 1 = .ok (.getfield 32, 3) := by decide +kernel
theorem dX5_type_4 : decode cX5_type 4 = .ok (.iload_n 1, 1) := by decide +kernel
theorem dX5_type_5 : decode cX5_type 5 = .ok (.invokevirtual 73, 3) := by decide +kernel
theorem dX5_type_8 : decode cX5_type 8 = .ok (.ireturn, 1) := by decide +kernel
set_option maxRecDepth 20000 in
theorem ggX5_clearText_X2_emptyText : GoodIn wsX5_clearText wsX2_emptyText := goodIn_r _ [6, 7, 16, 17, 18, 19, 20] (by decide +kernel) (by decide +kernel)
set_option maxRecDepth 20000 in
theorem gX5_clearText_X2_emptyText : GoodIn wsX5_clearText (wsV RX5 77 RX2 yX2_emptyText wsX2_emptyText) := goodIn_app (goodIn_of _ (by decide +kernel)) ggX5_clearText_X2_emptyText
theorem dX5_clearText_0 : decode cX5_clearText 0 = .ok (.aload_n 0, 1) := by decide +kernel
theorem dX5_clearText_1 : decode cX5_clearText 1 = .ok (.getfield 32, 3) := by decide +kernel
theorem dX5_clearText_4 : decode cX5_clearText 4 = .ok (.invokevirtual 77, 3) := by decide +kernel
theorem dX5_clearText_7 : decode cX5_clearText 7 = .ok (.ireturn, 1) := by decide +kernel
set_option maxRecDepth 20000 in
theorem ggX5_perform_X2_read : GoodIn wsX5_perform wsX2_read := goodIn_r _ [10, 11, 12, 13, 14, 15, 16, 17, 18, 19, 20, 21, 22, 23, 24, 25, 26, 27, 9, 28, 29, 30, 31, 32, 33, 34, 35, 36, 37, 38, 39, 40, 41, 42, 43, 44, 45, 46, 47, 48, 49, 50, 51, 220, 221, 222, 223, 224, 225, 226, 227] (by decide +kernel) (by decide +kernel)
set_option maxRecDepth 20000 in
theorem gX5_perform_X2_read : GoodIn wsX5_perform (wsV RX5 80 RX2 yX2_read wsX2_read) := goodIn_app (goodIn_of _ (by decide +kernel)) ggX5_perform_X2_read
set_option maxRecDepth 20000 in
theorem ggX5_perform_X0_copyFrom : GoodIn wsX5_perform wsX0_copyFrom := goodIn_r _ [56, 57, 58, 59, 60, 61, 62, 63, 64, 65, 66, 18, 67, 20, 39, 68, 69, 70, 71, 72, 73, 74, 75, 76, 77, 78, 79, 80, 81, 82, 83, 84, 85, 228, 229, 230, 231, 232, 233, 234, 225, 226, 227, 235, 236, 237] (by decide +kernel) (by decide +kernel)
set_option maxRecDepth 20000 in
theorem gX5_perform_X0_copyFrom : GoodIn wsX5_perform (wsV RX5 43 RX0 yX0_copyFrom wsX0_copyFrom) := goodIn_app (goodIn_of _ (by decide +kernel)) ggX5_perform_X0_copyFrom
set_option maxRecDepth 20000 in
theorem ggX5_perform_X2_thingCount : GoodIn wsX5_perform wsX2_thingCount := goodIn_r _ [89, 11, 90, 91, 92, 18, 93, 20, 220, 221, 222, 223, 224, 225, 226, 227] (by decide +kernel) (by decide +kernel)
set_option maxRecDepth 20000 in
theorem gX5_perform_X2_thingCount : GoodIn wsX5_perform (wsV RX5 83 RX2 yX2_thingCount wsX2_thingCount) := goodIn_app (goodIn_of _ (by decide +kernel)) ggX5_perform_X2_thingCount
set_option maxRecDepth 20000 in
theorem ggX5_perform_X5_doThing : GoodIn wsX5_perform wsX5_doThing := goodIn_r _ [98, 1, 2, 99, 100, 101, 9, 102, 11, 103, 104, 105, 18, 106, 38, 39, 107, 108, 109, 55, 110, 57, 58, 111, 112, 113, 114, 20, 115, 91, 92, 93, 116, 22, 23, 24, 117, 35, 36, 37, 118, 119, 120, 121, 59, 62, 122, 123, 124, 125, 79, 126, 81, 82, 83, 127, 128, 129, 130, 63, 131, 132, 133, 134, 61, 135, 69, 70, 71, 136, 137, 138, 139, 140, 141, 142, 143, 144, 145, 146, 147, 148, 149, 150, 151, 152, 153, 154, 155, 156, 157, 158, 159, 60, 160, 161, 162, 163, 164, 165, 166, 167, 168, 169, 170, 171, 172, 173, 174, 175, 176, 177, 178, 179, 180, 181, 182, 183, 184, 185, 186, 187, 188, 189, 190, 191, 192, 193, 212, 213, 214, 215, 216, 217, 218, 219, 220, 221, 222, 223, 224, 225, 226, 227, 228, 229, 230, 231, 232, 233, 234, 235, 236, 237] (by decide +kernel) (by decide +kernel)
set_option maxRecDepth 20000 in
theorem gX5_perform_X5_doThing : GoodIn wsX5_perform (wsV RX5 86 RX5 yX5_doThing wsX5_doThing) := goodIn_app (goodIn_of _ (by decide +kernel)) ggX5_perform_X5_doThing
set_option maxRecDepth 20000 in
theorem ggX5_perform_X5_finishAct : GoodIn wsX5_perform wsX5_finishAct := goodIn_r _ [197, 198, 3, 2, 199, 200, 201, 202, 203, 204, 205, 206, 207, 208, 209, 210, 211, 53, 54, 55, 56, 57, 58, 59, 60, 61, 62, 63, 64, 65, 66, 18, 67, 20, 39, 68, 69, 70, 71, 72, 73, 74, 75, 76, 77, 78, 79, 80, 81, 82, 83, 84, 85, 52, 212, 213, 214, 215, 216, 217, 218, 219, 238, 239, 240, 228, 229, 230, 231, 232, 233, 234, 225, 226, 227, 235, 236, 237] (by decide +kernel) (by decide +kernel)
set_option maxRecDepth 20000 in
theorem gX5_perform_X5_finishAct : GoodIn wsX5_perform (wsV RX5 51 RX5 yX5_finishAct wsX5_finishAct) := goodIn_app (goodIn_of _ (by decide +kernel)) ggX5_perform_X5_finishAct
theorem dX5_perform_0 : decode cX5_perform 0 = .ok (.aload_n 0, 1) := by decide +kernel
theorem dX5_perform_1 : decode cX5_perform 1 = .ok (.getfield 32, 3) := by decide +kernel
theorem dX5_perform_4 : decode cX5_perform 4 = .ok (.invokevirtual 80, 3) := by decide +kernel
theorem dX5_perform_7 : decode cX5_perform 7 = .ok (.istore_n 1, 1) := by decide +kernel
theorem dX5_perform_8 : decode cX5_perform 8 = .ok (.iload_n 1, 1) := by decide +kernel
theorem dX5_perform_9 : decode cX5_perform 9 = .ok (.ifCond .lt 8, 3) := by decide +kernel
theorem dX5_perform_12 : decode cX5_perform 12 = .ok (.bipush (-100), 2) := by decide +kernel
theorem dX5_perform_14 : decode cX5_perform 14 = .ok (.iload_n 1, 1) := by decide +kernel
theorem dX5_perform_15 : decode cX5_perform 15 = .ok (.isub, 1) := by decide +kernel
theorem dX5_perform_16 : decode cX5_perform 16 = .ok (.ireturn, 1) := by decide +kernel
theorem dX5_perform_17 : decode cX5_perform 17 = .ok (.aload_n 0, 1) := by decide +kernel
theorem dX5_perform_18 : decode cX5_perform 18 = .ok (.getfield 16, 3) := by decide +kernel
theorem dX5_perform_21 : decode cX5_perform 21 = .ok (.aload_n 0, 1) := by decide +kernel
theorem dX5_perform_22 : decode cX5_perform 22 = .ok (.getfield 10, 3) := by decide +kernel
theorem dX5_perform_25 : decode cX5_perform 25 = .ok (.invokevirtual 43, 3) := by decide +kernel
theorem dX5_perform_28 : decode cX5_perform 28 = .ok (.aload_n 0, 1) := by decide +kernel
theorem dX5_perform_29 : decode cX5_perform 29 = .ok (.getfield 32, 3) := by decide +kernel
theorem dX5_perform_32 : decode cX5_perform 32 = .ok (.invokevirtual 83, 3) := by decide +kernel
theorem dX5_perform_35 : decode cX5_perform 35 = .ok (.istore_n 2, 1) := by decide +kernel
theorem dX5_perform_36 : decode cX5_perform 36 = .ok (.iconst 0, 1) := by decide +kernel
theorem dX5_perform_37 : decode cX5_perform 37 = .ok (.istore_n 3, 1) := by decide +kernel
theorem dX5_perform_38 : decode cX5_perform 38 = .ok (.iload_n 3, 1) := by decide +kernel
theorem dX5_perform_39 : decode cX5_perform 39 = .ok (.iload_n 2, 1) := by decide +kernel
theorem dX5_perform_40 : decode cX5_perform 40 = .ok (.if_icmp .ge 35, 3) := by decide +kernel
theorem dX5_perform_43 : decode cX5_perform 43 = .ok (.aload_n 0, 1) := by decide +kernel
theorem dX5_perform_44 : decode cX5_perform 44 = .ok (.iload_n 3, 1) := by decide +kernel
theorem dX5_perform_45 : decode cX5_perform 45 = .ok (.invokevirtual 86, 3) := by decide +kernel
theorem dX5_perform_48 : decode cX5_perform 48 = .ok (.istore 4, 2) := by decide +kernel
theorem dX5_perform_50 : decode cX5_perform 50 = .ok (.iload 4, 2) := by decide +kernel
theorem dX5_perform_52 : decode cX5_perform 52 = .ok (.ifCond .ge 17, 3) := by decide +kernel
theorem dX5_perform_55 : decode cX5_perform 55 = .ok (.aload_n 0, 1) := by decide +kernel
theorem dX5_perform_56 : decode cX5_perform 56 = .ok (.iload_n 3, 1) := by decide +kernel
theorem dX5_perform_57 : decode cX5_perform 57 = .ok (.putfield 36, 3) := by decide +kernel
theorem dX5_perform_60 : decode cX5_perform 60 = .ok (.aload_n 0, 1) := by decide +kernel
theorem dX5_perform_61 : decode cX5_perform 61 = .ok (.iload 4, 2) := by decide +kernel
theorem dX5_perform_63 : decode cX5_perform 63 = .ok (.putfield 40, 3) := by decide +kernel
theorem dX5_perform_66 : decode cX5_perform 66 = .ok (.bipush (-4), 2) := by decide +kernel
theorem dX5_perform_68 : decode cX5_perform 68 = .ok (.ireturn, 1) := by decide +kernel
theorem dX5_perform_69 : decode cX5_perform 69 = .ok (.iinc 3 1, 3) := by decide +kernel
theorem dX5_perform_72 : decode cX5_perform 72 = .ok (.goto (-34), 3) := by decide +kernel
theorem dX5_perform_75 : decode cX5_perform 75 = .ok (.aload_n 0, 1) := by decide +kernel
theorem dX5_perform_76 : decode cX5_perform 76 = .ok (.iload_n 2, 1) := by decide +kernel
theorem dX5_perform_77 : decode cX5_perform 77 = .ok (.invokevirtual 51, 3) := by decide +kernel
theorem dX5_perform_80 : decode cX5_perform 80 = .ok (.ireturn, 1) := by decide +kernel
theorem dX5_stopped_0 : decode cX5_stopped 0 = .ok (.iload_n 1, 1) := by decide +kernel
theorem dX5_stopped_1 : decode cX5_stopped 1 = .ok (.lookupswitch 37 #[(0, 27), (1, 32)], 27) := by decide +kernel
theorem dX5_stopped_28 : decode cX5_stopped 28 = .ok (.aload_n 0, 1) := by decide +kernel
theorem dX5_stopped_29 : decode cX5_stopped 29 = .ok (.getfield 36, 3) := by decide +kernel
theorem dX5_stopped_32 : decode cX5_stopped 32 = .ok (.ireturn, 1) := by decide +kernel
theorem dX5_stopped_33 : decode cX5_stopped 33 = .ok (.aload_n 0, 1) := by decide +kernel
theorem dX5_stopped_34 : decode cX5_stopped 34 = .ok (.getfield 40, 3) := by decide +kernel
theorem dX5_stopped_37 : decode cX5_stopped 37 = .ok (.ireturn, 1) := by decide +kernel
theorem dX5_stopped_38 : decode cX5_stopped 38 = .ok (.bipush (-2), 2) := by decide +kernel
theorem dX5_stopped_40 : decode cX5_stopped 40 = .ok (.ireturn, 1) := by decide +kernel
set_option maxRecDepth 20000 in
theorem ggX5_undo_X1_takeBackInto : GoodIn wsX5_undo wsX1_takeBackInto := goodIn_r _ [7, 8, 9, 10, 11, 6, 12, 13, 14, 15, 16, 17, 18, 19, 20, 21, 22, 23, 24, 25, 26, 27, 28, 29, 30, 31, 32, 33, 34, 35, 36, 37, 38, 39, 40, 41, 42, 43, 44, 45, 46, 47, 48, 49, 50, 51, 60, 61, 62, 63, 64, 65, 66, 67, 68, 69, 70, 71, 72, 73, 74, 75] (by decide +kernel) (by decide +kernel)
set_option maxRecDepth 20000 in
theorem gX5_undo_X1_takeBackInto : GoodIn wsX5_undo (wsV RX5 89 RX1 yX1_takeBackInto wsX1_takeBackInto) := goodIn_app (goodIn_of _ (by decide +kernel)) ggX5_undo_X1_takeBackInto
theorem dX5_undo_0 : decode cX5_undo 0 = .ok (.aload_n 0, 1) := by decide +kernel
theorem dX5_undo_1 : decode cX5_undo 1 = .ok (.getfield 25, 3) := by decide +kernel
theorem dX5_undo_4 : decode cX5_undo 4 = .ok (.aload_n 0, 1) := by decide +kernel
theorem dX5_undo_5 : decode cX5_undo 5 = .ok (.getfield 10, 3) := by decide +kernel
theorem dX5_undo_8 : decode cX5_undo 8 = .ok (.invokevirtual 89, 3) := by decide +kernel
theorem dX5_undo_11 : decode cX5_undo 11 = .ok (.ireturn, 1) := by decide +kernel
set_option maxRecDepth 20000 in
theorem ggX5_keep_X0_copyFrom : GoodIn wsX5_keep wsX0_copyFrom := goodIn_r _ [8, 9, 10, 11, 12, 13, 14, 15, 16, 17, 18, 19, 20, 21, 22, 23, 24, 25, 26, 27, 28, 29, 30, 31, 32, 33, 34, 35, 36, 37, 38, 39, 40, 57, 58, 59, 60, 61, 62, 63, 64, 65, 66, 67, 68, 69] (by decide +kernel) (by decide +kernel)
set_option maxRecDepth 20000 in
theorem gX5_keep_X0_copyFrom : GoodIn wsX5_keep (wsV RX5 43 RX0 yX0_copyFrom wsX0_copyFrom) := goodIn_app (goodIn_of _ (by decide +kernel)) ggX5_keep_X0_copyFrom
set_option maxRecDepth 20000 in
theorem ggX5_keep_X0_waiting : GoodIn wsX5_keep wsX0_waiting := goodIn_r _ [44, 14, 45, 46, 47, 34, 48, 37, 57, 58, 59, 60, 61, 62, 63, 67, 68, 69] (by decide +kernel) (by decide +kernel)
set_option maxRecDepth 20000 in
theorem gX5_keep_X0_waiting : GoodIn wsX5_keep (wsV RX5 97 RX0 yX0_waiting wsX0_waiting) := goodIn_app (goodIn_of _ (by decide +kernel)) ggX5_keep_X0_waiting
theorem dX5_keep_0 : decode cX5_keep 0 = .ok (.aload_n 0, 1) := by decide +kernel
theorem dX5_keep_1 : decode cX5_keep 1 = .ok (.getfield 19, 3) := by decide +kernel
theorem dX5_keep_4 : decode cX5_keep 4 = .ok (.aload_n 0, 1) := by decide +kernel
theorem dX5_keep_5 : decode cX5_keep 5 = .ok (.getfield 10, 3) := by decide +kernel
theorem dX5_keep_8 : decode cX5_keep 8 = .ok (.invokevirtual 43, 3) := by decide +kernel
theorem dX5_keep_11 : decode cX5_keep 11 = .ok (.aload_n 0, 1) := by decide +kernel
theorem dX5_keep_12 : decode cX5_keep 12 = .ok (.iconst 1, 1) := by decide +kernel
theorem dX5_keep_13 : decode cX5_keep 13 = .ok (.putfield 93, 3) := by decide +kernel
theorem dX5_keep_16 : decode cX5_keep 16 = .ok (.aload_n 0, 1) := by decide +kernel
theorem dX5_keep_17 : decode cX5_keep 17 = .ok (.getfield 10, 3) := by decide +kernel
theorem dX5_keep_20 : decode cX5_keep 20 = .ok (.invokevirtual 97, 3) := by decide +kernel
theorem dX5_keep_23 : decode cX5_keep 23 = .ok (.ireturn, 1) := by decide +kernel
set_option maxRecDepth 20000 in
theorem ggX5_restore_X0_copyFrom : GoodIn wsX5_restore wsX0_copyFrom := goodIn_r _ [8, 9, 10, 11, 12, 13, 14, 15, 16, 17, 18, 19, 20, 21, 22, 23, 24, 25, 26, 27, 28, 29, 30, 31, 32, 33, 34, 35, 36, 37, 38, 39, 40, 77, 78, 79, 80, 81, 82, 83, 84, 85, 86, 87, 88, 89] (by decide +kernel) (by decide +kernel)
set_option maxRecDepth 20000 in
theorem gX5_restore_X0_copyFrom : GoodIn wsX5_restore (wsV RX5 43 RX0 yX0_copyFrom wsX0_copyFrom) := goodIn_app (goodIn_of _ (by decide +kernel)) ggX5_restore_X0_copyFrom
set_option maxRecDepth 20000 in
theorem ggX5_restore_X0_waiting : GoodIn wsX5_restore wsX0_waiting := goodIn_r _ [44, 14, 45, 46, 47, 34, 48, 37, 77, 78, 79, 80, 81, 82, 83, 87, 88, 89] (by decide +kernel) (by decide +kernel)
set_option maxRecDepth 20000 in
theorem gX5_restore_X0_waiting : GoodIn wsX5_restore (wsV RX5 97 RX0 yX0_waiting wsX0_waiting) := goodIn_app (goodIn_of _ (by decide +kernel)) ggX5_restore_X0_waiting
set_option maxRecDepth 20000 in
theorem ggX5_restore_X5_finishAct : GoodIn wsX5_restore wsX5_finishAct := goodIn_r _ [53, 54, 55, 2, 56, 57, 58, 59, 60, 61, 62, 63, 64, 65, 66, 67, 68, 5, 6, 7, 8, 9, 10, 11, 12, 13, 14, 15, 16, 17, 18, 19, 20, 21, 22, 23, 24, 25, 26, 27, 28, 29, 30, 31, 32, 33, 34, 35, 36, 37, 38, 39, 40, 4, 69, 70, 71, 72, 73, 74, 75, 76, 90, 91, 92, 77, 78, 79, 80, 81, 82, 83, 84, 85, 86, 87, 88, 89] (by decide +kernel) (by decide +kernel)
set_option maxRecDepth 20000 in
theorem gX5_restore_X5_finishAct : GoodIn wsX5_restore (wsV RX5 51 RX5 yX5_finishAct wsX5_finishAct) := goodIn_app (goodIn_of _ (by decide +kernel)) ggX5_restore_X5_finishAct
theorem dX5_restore_0 : decode cX5_restore 0 = .ok (.aload_n 0, 1) := by decide +kernel
theorem dX5_restore_1 : decode cX5_restore 1 = .ok (.getfield 93, 3) := by decide +kernel
theorem dX5_restore_4 : decode cX5_restore 4 = .ok (.ifCond .ne 6, 3) := by decide +kernel
theorem dX5_restore_7 : decode cX5_restore 7 = .ok (.bipush (-5), 2) := by decide +kernel
theorem dX5_restore_9 : decode cX5_restore 9 = .ok (.ireturn, 1) := by decide +kernel
theorem dX5_restore_10 : decode cX5_restore 10 = .ok (.aload_n 0, 1) := by decide +kernel
theorem dX5_restore_11 : decode cX5_restore 11 = .ok (.getfield 16, 3) := by decide +kernel
theorem dX5_restore_14 : decode cX5_restore 14 = .ok (.aload_n 0, 1) := by decide +kernel
theorem dX5_restore_15 : decode cX5_restore 15 = .ok (.getfield 19, 3) := by decide +kernel
theorem dX5_restore_18 : decode cX5_restore 18 = .ok (.invokevirtual 43, 3) := by decide +kernel
theorem dX5_restore_21 : decode cX5_restore 21 = .ok (.aload_n 0, 1) := by decide +kernel
theorem dX5_restore_22 : decode cX5_restore 22 = .ok (.aload_n 0, 1) := by decide +kernel
theorem dX5_restore_23 : decode cX5_restore 23 = .ok (.getfield 16, 3) := by decide +kernel
theorem dX5_restore_26 : decode cX5_restore 26 = .ok (.invokevirtual 97, 3) := by decide +kernel
theorem dX5_restore_29 : decode cX5_restore 29 = .ok (.invokevirtual 51, 3) := by decide +kernel
theorem dX5_restore_32 : decode cX5_restore 32 = .ok (.ireturn, 1) := by decide +kernel
set_option maxRecDepth 20000 in
theorem ggX5_trader_X0_tellTrader : GoodIn wsX5_trader wsX0_tellTrader := goodIn_r _ [6, 7, 8, 9, 10, 11, 12, 13, 14, 15, 16, 17, 18, 19, 20, 21, 22, 23, 24, 25, 26, 27, 28, 29, 30, 31, 32, 33, 34, 43, 44, 45, 46, 47, 48, 49, 50, 51, 52] (by decide +kernel) (by decide +kernel)
set_option maxRecDepth 20000 in
theorem gX5_trader_X0_tellTrader : GoodIn wsX5_trader (wsV RX5 100 RX0 yX0_tellTrader wsX0_tellTrader) := goodIn_app (goodIn_of _ (by decide +kernel)) ggX5_trader_X0_tellTrader
theorem dX5_trader_0 : decode cX5_trader 0 = .ok (.aload_n 0, 1) := by decide +kernel
theorem dX5_trader_1 : decode cX5_trader 1 = .ok (.getfield 10, 3) := by decide +kernel
theorem dX5_trader_4 : decode cX5_trader 4 = .ok (.iload_n 1, 1) := by decide +kernel
theorem dX5_trader_5 : decode cX5_trader 5 = .ok (.iload_n 2, 1) := by decide +kernel
theorem dX5_trader_6 : decode cX5_trader 6 = .ok (.invokevirtual 100, 3) := by decide +kernel
theorem dX5_trader_9 : decode cX5_trader 9 = .ok (.ireturn, 1) := by decide +kernel
set_option maxRecDepth 20000 in
theorem ggX5_riddle_X0_tellRiddle : GoodIn wsX5_riddle wsX0_tellRiddle := goodIn_r _ [6, 7, 8, 9, 10, 11, 12, 13, 14, 15, 16, 17, 18, 19, 20, 21, 22, 23, 24, 25, 26, 27, 28, 29, 30, 31, 32, 33, 42, 43, 44, 45, 46, 47, 48, 49, 50, 51] (by decide +kernel) (by decide +kernel)
set_option maxRecDepth 20000 in
theorem gX5_riddle_X0_tellRiddle : GoodIn wsX5_riddle (wsV RX5 103 RX0 yX0_tellRiddle wsX0_tellRiddle) := goodIn_app (goodIn_of _ (by decide +kernel)) ggX5_riddle_X0_tellRiddle
theorem dX5_riddle_0 : decode cX5_riddle 0 = .ok (.aload_n 0, 1) := by decide +kernel
theorem dX5_riddle_1 : decode cX5_riddle 1 = .ok (.getfield 10, 3) := by decide +kernel
theorem dX5_riddle_4 : decode cX5_riddle 4 = .ok (.iload_n 1, 1) := by decide +kernel
theorem dX5_riddle_5 : decode cX5_riddle 5 = .ok (.iload_n 2, 1) := by decide +kernel
theorem dX5_riddle_6 : decode cX5_riddle 6 = .ok (.invokevirtual 103, 3) := by decide +kernel
theorem dX5_riddle_9 : decode cX5_riddle 9 = .ok (.ireturn, 1) := by decide +kernel
set_option maxRecDepth 20000 in
theorem ggX5_answer_X0_tellAnswer : GoodIn wsX5_answer wsX0_tellAnswer := goodIn_r _ [6, 7, 8, 9, 10, 11, 12, 13, 14, 15, 16, 17, 18, 19, 20, 21, 22, 23, 24, 25, 26, 27, 28, 29, 30, 31, 32, 41, 42, 43, 44, 45, 46, 47, 48, 49, 50, 51, 52, 53] (by decide +kernel) (by decide +kernel)
set_option maxRecDepth 20000 in
theorem gX5_answer_X0_tellAnswer : GoodIn wsX5_answer (wsV RX5 106 RX0 yX0_tellAnswer wsX0_tellAnswer) := goodIn_app (goodIn_of _ (by decide +kernel)) ggX5_answer_X0_tellAnswer
theorem dX5_answer_0 : decode cX5_answer 0 = .ok (.aload_n 0, 1) := by decide +kernel
theorem dX5_answer_1 : decode cX5_answer 1 = .ok (.getfield 10, 3) := by decide +kernel
theorem dX5_answer_4 : decode cX5_answer 4 = .ok (.iload_n 1, 1) := by decide +kernel
theorem dX5_answer_5 : decode cX5_answer 5 = .ok (.iload_n 2, 1) := by decide +kernel
theorem dX5_answer_6 : decode cX5_answer 6 = .ok (.invokevirtual 106, 3) := by decide +kernel
theorem dX5_answer_9 : decode cX5_answer 9 = .ok (.ireturn, 1) := by decide +kernel
set_option maxRecDepth 20000 in
theorem ggX5_waits_X0_waitingAt : GoodIn wsX5_waits wsX0_waitingAt := goodIn_r _ [6, 7, 8, 9, 10, 11, 12, 13, 14, 15, 24, 25, 26, 27, 28, 29, 30, 31, 32, 33] (by decide +kernel) (by decide +kernel)
set_option maxRecDepth 20000 in
theorem gX5_waits_X0_waitingAt : GoodIn wsX5_waits (wsV RX5 109 RX0 yX0_waitingAt wsX0_waitingAt) := goodIn_app (goodIn_of _ (by decide +kernel)) ggX5_waits_X0_waitingAt
theorem dX5_waits_0 : decode cX5_waits 0 = .ok (.iload_n 1, 1) := by decide +kernel
theorem dX5_waits_1 : decode cX5_waits 1 = .ok (.ifCond .ge 8, 3) := by decide +kernel
theorem dX5_waits_4 : decode cX5_waits 4 = .ok (.bipush (-2), 2) := by decide +kernel
theorem dX5_waits_6 : decode cX5_waits 6 = .ok (.goto 11, 3) := by decide +kernel
theorem dX5_waits_9 : decode cX5_waits 9 = .ok (.aload_n 0, 1) := by decide +kernel
theorem dX5_waits_10 : decode cX5_waits 10 = .ok (.getfield 10, 3) := by decide +kernel
theorem dX5_waits_13 : decode cX5_waits 13 = .ok (.iload_n 1, 1) := by decide +kernel
theorem dX5_waits_14 : decode cX5_waits 14 = .ok (.invokevirtual 109, 3) := by decide +kernel
theorem dX5_waits_17 : decode cX5_waits 17 = .ok (.ireturn, 1) := by decide +kernel
set_option maxRecDepth 20000 in
theorem ggX5_weigh_X0_told : GoodIn wsX5_weigh wsX0_told := goodIn_r _ [6, 7, 8, 9, 10, 11, 12, 13, 14, 15, 16, 17, 18, 27, 28, 29, 30, 31, 32, 33, 34, 35, 36] (by decide +kernel) (by decide +kernel)
set_option maxRecDepth 20000 in
theorem gX5_weigh_X0_told : GoodIn wsX5_weigh (wsV RX5 112 RX0 yX0_told wsX0_told) := goodIn_app (goodIn_of _ (by decide +kernel)) ggX5_weigh_X0_told
theorem dX5_weigh_0 : decode cX5_weigh 0 = .ok (.iload_n 1, 1) := by decide +kernel
theorem dX5_weigh_1 : decode cX5_weigh 1 = .ok (.ifCond .lt 8, 3) := by decide +kernel
theorem dX5_weigh_4 : decode cX5_weigh 4 = .ok (.iload_n 1, 1) := by decide +kernel
theorem dX5_weigh_5 : decode cX5_weigh 5 = .ok (.iconst 1, 1) := by decide +kernel
theorem dX5_weigh_6 : decode cX5_weigh 6 = .ok (.if_icmp .le 5, 3) := by decide +kernel
theorem dX5_weigh_9 : decode cX5_weigh 9 = .ok (.iconst (-1), 1) := by decide +kernel
theorem dX5_weigh_10 : decode cX5_weigh 10 = .ok (.ireturn, 1) := by decide +kernel
theorem dX5_weigh_11 : decode cX5_weigh 11 = .ok (.iload_n 2, 1) := by decide +kernel
theorem dX5_weigh_12 : decode cX5_weigh 12 = .ok (.iconst 1, 1) := by decide +kernel
theorem dX5_weigh_13 : decode cX5_weigh 13 = .ok (.if_icmp .lt 9, 3) := by decide +kernel
theorem dX5_weigh_16 : decode cX5_weigh 16 = .ok (.iload_n 2, 1) := by decide +kernel
theorem dX5_weigh_17 : decode cX5_weigh 17 = .ok (.bipush 99, 2) := by decide +kernel
theorem dX5_weigh_19 : decode cX5_weigh 19 = .ok (.if_icmp .le 6, 3) := by decide +kernel
theorem dX5_weigh_22 : decode cX5_weigh 22 = .ok (.bipush (-2), 2) := by decide +kernel
theorem dX5_weigh_24 : decode cX5_weigh 24 = .ok (.ireturn, 1) := by decide +kernel
theorem dX5_weigh_25 : decode cX5_weigh 25 = .ok (.aload_n 0, 1) := by decide +kernel
theorem dX5_weigh_26 : decode cX5_weigh 26 = .ok (.getfield 10, 3) := by decide +kernel
theorem dX5_weigh_29 : decode cX5_weigh 29 = .ok (.iload_n 1, 1) := by decide +kernel
theorem dX5_weigh_30 : decode cX5_weigh 30 = .ok (.iload_n 2, 1) := by decide +kernel
theorem dX5_weigh_31 : decode cX5_weigh 31 = .ok (.invokevirtual 112, 3) := by decide +kernel
theorem dX5_weigh_34 : decode cX5_weigh 34 = .ok (.ireturn, 1) := by decide +kernel
set_option maxRecDepth 20000 in
theorem ggX5_reason_X0_errorIfNotWaiting : GoodIn wsX5_reason wsX0_errorIfNotWaiting := goodIn_r _ [6, 7, 8, 9, 10, 11, 12, 13, 14, 15, 16, 17, 18, 19, 51, 52, 53, 54, 55, 56, 57, 58, 59, 60] (by decide +kernel) (by decide +kernel)
set_option maxRecDepth 20000 in
theorem gX5_reason_X0_errorIfNotWaiting : GoodIn wsX5_reason (wsV RX5 115 RX0 yX0_errorIfNotWaiting wsX0_errorIfNotWaiting) := goodIn_app (goodIn_of _ (by decide +kernel)) ggX5_reason_X0_errorIfNotWaiting
set_option maxRecDepth 20000 in
theorem ggX5_reason_X0_paymentFor : GoodIn wsX5_reason wsX0_paymentFor := goodIn_r _ [23, 7, 24, 14, 15, 16, 11, 17, 18, 19, 25, 26, 27, 5, 28, 29, 30, 31, 32, 33, 51, 52, 53, 54, 55, 56, 57, 58, 59, 60] (by decide +kernel) (by decide +kernel)
set_option maxRecDepth 20000 in
theorem gX5_reason_X0_paymentFor : GoodIn wsX5_reason (wsV RX5 118 RX0 yX0_paymentFor wsX0_paymentFor) := goodIn_app (goodIn_of _ (by decide +kernel)) ggX5_reason_X0_paymentFor
set_option maxRecDepth 20000 in
theorem ggX5_reason_X0_hindrance : GoodIn wsX5_reason wsX0_hindrance := goodIn_r _ [37, 7, 24, 38, 39, 32, 40, 41, 42, 14, 15, 16, 11, 17, 18, 19, 25, 26, 27, 5, 28, 29, 30, 31, 33, 51, 52, 53, 54, 55, 56, 57, 58, 59, 60] (by decide +kernel) (by decide +kernel)
set_option maxRecDepth 20000 in
theorem gX5_reason_X0_hindrance : GoodIn wsX5_reason (wsV RX5 121 RX0 yX0_hindrance wsX0_hindrance) := goodIn_app (goodIn_of _ (by decide +kernel)) ggX5_reason_X0_hindrance
theorem dX5_reason_0 : decode cX5_reason 0 = .ok (.aload_n 0, 1) := by decide +kernel
theorem dX5_reason_1 : decode cX5_reason 1 = .ok (.getfield 10, 3) := by decide +kernel
theorem dX5_reason_4 : decode cX5_reason 4 = .ok (.iload_n 1, 1) := by decide +kernel
theorem dX5_reason_5 : decode cX5_reason 5 = .ok (.invokevirtual 115, 3) := by decide +kernel
theorem dX5_reason_8 : decode cX5_reason 8 = .ok (.istore_n 2, 1) := by decide +kernel
theorem dX5_reason_9 : decode cX5_reason 9 = .ok (.iload_n 2, 1) := by decide +kernel
theorem dX5_reason_10 : decode cX5_reason 10 = .ok (.ifCond .ge 7, 3) := by decide +kernel
theorem dX5_reason_13 : decode cX5_reason 13 = .ok (.iload_n 2, 1) := by decide +kernel
theorem dX5_reason_14 : decode cX5_reason 14 = .ok (.goto 19, 3) := by decide +kernel
theorem dX5_reason_17 : decode cX5_reason 17 = .ok (.aload_n 0, 1) := by decide +kernel
theorem dX5_reason_18 : decode cX5_reason 18 = .ok (.getfield 10, 3) := by decide +kernel
theorem dX5_reason_21 : decode cX5_reason 21 = .ok (.iload_n 1, 1) := by decide +kernel
theorem dX5_reason_22 : decode cX5_reason 22 = .ok (.aload_n 0, 1) := by decide +kernel
theorem dX5_reason_23 : decode cX5_reason 23 = .ok (.getfield 10, 3) := by decide +kernel
theorem dX5_reason_26 : decode cX5_reason 26 = .ok (.iload_n 1, 1) := by decide +kernel
theorem dX5_reason_27 : decode cX5_reason 27 = .ok (.invokevirtual 118, 3) := by decide +kernel
theorem dX5_reason_30 : decode cX5_reason 30 = .ok (.invokevirtual 121, 3) := by decide +kernel
theorem dX5_reason_33 : decode cX5_reason 33 = .ok (.ireturn, 1) := by decide +kernel
set_option maxRecDepth 20000 in
theorem ggX5_settledIn_X0_errorIfNotWaiting : GoodIn wsX5_settledIn wsX0_errorIfNotWaiting := goodIn_r _ [7, 8, 9, 10, 11, 12, 13, 14, 15, 16, 17, 18, 19, 20, 132, 133, 134, 135, 136, 137, 138, 139, 140, 141] (by decide +kernel) (by decide +kernel)
set_option maxRecDepth 20000 in
theorem gX5_settledIn_X0_errorIfNotWaiting : GoodIn wsX5_settledIn (wsV RX5 115 RX0 yX0_errorIfNotWaiting wsX0_errorIfNotWaiting) := goodIn_app (goodIn_of _ (by decide +kernel)) ggX5_settledIn_X0_errorIfNotWaiting
set_option maxRecDepth 20000 in
theorem ggX5_settledIn_X0_copyFrom : GoodIn wsX5_settledIn wsX0_copyFrom := goodIn_r _ [24, 25, 26, 8, 27, 28, 29, 30, 31, 32, 33, 12, 34, 14, 20, 35, 36, 37, 38, 39, 40, 41, 42, 43, 44, 45, 46, 47, 48, 49, 50, 51, 52, 132, 133, 134, 135, 136, 137, 138, 139, 140, 141, 142, 143, 144] (by decide +kernel) (by decide +kernel)
set_option maxRecDepth 20000 in
theorem gX5_settledIn_X0_copyFrom : GoodIn wsX5_settledIn (wsV RX5 43 RX0 yX0_copyFrom wsX0_copyFrom) := goodIn_app (goodIn_of _ (by decide +kernel)) ggX5_settledIn_X0_copyFrom
set_option maxRecDepth 20000 in
theorem ggX5_settledIn_X0_playRound : GoodIn wsX5_settledIn wsX0_playRound := goodIn_r _ [56, 28, 29, 57, 36, 37, 38, 30, 15, 16, 17, 12, 18, 19, 20, 58, 59, 60, 46, 61, 49, 62, 63, 64, 65, 48, 66, 67, 68, 69, 50, 70, 71, 72, 6, 73, 74, 75, 76, 77, 8, 26, 78, 79, 80, 81, 27, 82, 83, 84, 85, 86, 87, 88, 89, 90, 91, 25, 92, 93, 94, 95, 96, 97, 98, 99, 100, 101, 102, 103, 104, 105, 106, 107, 108, 109, 110, 111, 112, 113, 114, 115, 116, 117, 118, 119, 120, 121, 122, 123, 132, 133, 134, 135, 136, 137, 138, 139, 140, 141, 142, 143, 144] (by decide +kernel) (by decide +kernel)
set_option maxRecDepth 20000 in
theorem gX5_settledIn_X0_playRound : GoodIn wsX5_settledIn (wsV RX5 124 RX0 yX0_playRound wsX0_playRound) := goodIn_app (goodIn_of _ (by decide +kernel)) ggX5_settledIn_X0_playRound
theorem dX5_settledIn_0 : decode cX5_settledIn 0 = .ok (.aload_n 0, 1) := by decide +kernel
theorem dX5_settledIn_1 : decode cX5_settledIn 1 = .ok (.getfield 10, 3) := by decide +kernel
theorem dX5_settledIn_4 : decode cX5_settledIn 4 = .ok (.iload_n 1, 1) := by decide +kernel
theorem dX5_settledIn_5 : decode cX5_settledIn 5 = .ok (.invokevirtual 115, 3) := by decide +kernel
theorem dX5_settledIn_8 : decode cX5_settledIn 8 = .ok (.istore_n 2, 1) := by decide +kernel
theorem dX5_settledIn_9 : decode cX5_settledIn 9 = .ok (.iload_n 2, 1) := by decide +kernel
theorem dX5_settledIn_10 : decode cX5_settledIn 10 = .ok (.ifCond .ge 5, 3) := by decide +kernel
theorem dX5_settledIn_13 : decode cX5_settledIn 13 = .ok (.iload_n 2, 1) := by decide +kernel
theorem dX5_settledIn_14 : decode cX5_settledIn 14 = .ok (.ireturn, 1) := by decide +kernel
theorem dX5_settledIn_15 : decode cX5_settledIn 15 = .ok (.aload_n 0, 1) := by decide +kernel
theorem dX5_settledIn_16 : decode cX5_settledIn 16 = .ok (.getfield 16, 3) := by decide +kernel
theorem dX5_settledIn_19 : decode cX5_settledIn 19 = .ok (.aload_n 0, 1) := by decide +kernel
theorem dX5_settledIn_20 : decode cX5_settledIn 20 = .ok (.getfield 10, 3) := by decide +kernel
theorem dX5_settledIn_23 : decode cX5_settledIn 23 = .ok (.invokevirtual 43, 3) := by decide +kernel
theorem dX5_settledIn_26 : decode cX5_settledIn 26 = .ok (.iconst 1, 1) := by decide +kernel
theorem dX5_settledIn_27 : decode cX5_settledIn 27 = .ok (.istore_n 3, 1) := by decide +kernel
theorem dX5_settledIn_28 : decode cX5_settledIn 28 = .ok (.iload_n 3, 1) := by decide +kernel
theorem dX5_settledIn_29 : decode cX5_settledIn 29 = .ok (.sipush 300, 3) := by decide +kernel
theorem dX5_settledIn_32 : decode cX5_settledIn 32 = .ok (.if_icmp .gt 30, 3) := by decide +kernel
theorem dX5_settledIn_35 : decode cX5_settledIn 35 = .ok (.aload_n 0, 1) := by decide +kernel
theorem dX5_settledIn_36 : decode cX5_settledIn 36 = .ok (.getfield 16, 3) := by decide +kernel
theorem dX5_settledIn_39 : decode cX5_settledIn 39 = .ok (.invokevirtual 124, 3) := by decide +kernel
theorem dX5_settledIn_42 : decode cX5_settledIn 42 = .ok (.pop, 1) := by decide +kernel
theorem dX5_settledIn_43 : decode cX5_settledIn 43 = .ok (.aload_n 0, 1) := by decide +kernel
theorem dX5_settledIn_44 : decode cX5_settledIn 44 = .ok (.getfield 16, 3) := by decide +kernel
theorem dX5_settledIn_47 : decode cX5_settledIn 47 = .ok (.iload_n 1, 1) := by decide +kernel
theorem dX5_settledIn_48 : decode cX5_settledIn 48 = .ok (.invokevirtual 115, 3) := by decide +kernel
theorem dX5_settledIn_51 : decode cX5_settledIn 51 = .ok (.ifCond .ge 5, 3) := by decide +kernel
theorem dX5_settledIn_54 : decode cX5_settledIn 54 = .ok (.iload_n 3, 1) := by decide +kernel
theorem dX5_settledIn_55 : decode cX5_settledIn 55 = .ok (.ireturn, 1) := by decide +kernel
theorem dX5_settledIn_56 : decode cX5_settledIn 56 = .ok (.iinc 3 1, 3) := by decide +kernel
theorem dX5_settledIn_59 : decode cX5_settledIn 59 = .ok (.goto (-31), 3) := by decide +kernel
theorem dX5_settledIn_62 : decode cX5_settledIn 62 = .ok (.bipush (-5), 2) := by decide +kernel
theorem dX5_settledIn_64 : decode cX5_settledIn 64 = .ok (.ireturn, 1) := by decide +kernel
set_option maxRecDepth 20000 in
theorem ggX5_ifRounds_X0_copyFrom : GoodIn wsX5_ifRounds wsX0_copyFrom := goodIn_r _ [7, 8, 9, 10, 11, 12, 13, 14, 15, 16, 17, 18, 19, 20, 21, 22, 23, 24, 25, 26, 27, 28, 29, 30, 31, 32, 33, 34, 35, 36, 37, 38, 39, 128, 129, 130, 131, 132, 133, 134, 135, 136, 137, 138, 139, 140] (by decide +kernel) (by decide +kernel)
set_option maxRecDepth 20000 in
theorem gX5_ifRounds_X0_copyFrom : GoodIn wsX5_ifRounds (wsV RX5 43 RX0 yX0_copyFrom wsX0_copyFrom) := goodIn_app (goodIn_of _ (by decide +kernel)) ggX5_ifRounds_X0_copyFrom
set_option maxRecDepth 20000 in
theorem ggX5_ifRounds_X0_setScalesRight : GoodIn wsX5_ifRounds wsX0_setScalesRight := goodIn_r _ [43, 11, 44, 45, 24, 46, 47, 48, 49, 18, 50, 51, 21, 52, 53, 54, 55, 128, 129, 130, 131, 132, 133, 134, 135, 136, 137] (by decide +kernel) (by decide +kernel)
set_option maxRecDepth 20000 in
theorem gX5_ifRounds_X0_setScalesRight : GoodIn wsX5_ifRounds (wsV RX5 62 RX0 yX0_setScalesRight wsX0_setScalesRight) := goodIn_app (goodIn_of _ (by decide +kernel)) ggX5_ifRounds_X0_setScalesRight
set_option maxRecDepth 20000 in
theorem ggX5_ifRounds_X0_playRound : GoodIn wsX5_ifRounds wsX0_playRound := goodIn_r _ [59, 12, 13, 60, 23, 24, 25, 14, 47, 48, 49, 18, 50, 51, 21, 61, 62, 63, 33, 64, 36, 65, 66, 67, 68, 35, 69, 70, 71, 72, 37, 73, 74, 75, 6, 76, 77, 78, 79, 80, 10, 9, 81, 82, 83, 84, 11, 85, 86, 87, 88, 89, 90, 91, 44, 45, 46, 8, 92, 93, 94, 95, 52, 53, 54, 55, 96, 97, 98, 99, 100, 101, 102, 103, 104, 105, 106, 107, 108, 109, 110, 111, 112, 113, 114, 115, 116, 117, 118, 119, 128, 129, 130, 131, 132, 133, 134, 135, 136, 137, 138, 139, 140] (by decide +kernel) (by decide +kernel)
set_option maxRecDepth 20000 in
theorem gX5_ifRounds_X0_playRound : GoodIn wsX5_ifRounds (wsV RX5 124 RX0 yX0_playRound wsX0_playRound) := goodIn_app (goodIn_of _ (by decide +kernel)) ggX5_ifRounds_X0_playRound
theorem dX5_ifRounds_0 : decode cX5_ifRounds 0 = .ok (.iload_n 1, 1) := by decide +kernel
theorem dX5_ifRounds_1 : decode cX5_ifRounds 1 = .ok (.iconst 1, 1) := by decide +kernel
theorem dX5_ifRounds_2 : decode cX5_ifRounds 2 = .ok (.if_icmp .lt 9, 3) := by decide +kernel
theorem dX5_ifRounds_5 : decode cX5_ifRounds 5 = .ok (.iload_n 1, 1) := by decide +kernel
theorem dX5_ifRounds_6 : decode cX5_ifRounds 6 = .ok (.bipush 99, 2) := by decide +kernel
theorem dX5_ifRounds_8 : decode cX5_ifRounds 8 = .ok (.if_icmp .le 6, 3) := by decide +kernel
theorem dX5_ifRounds_11 : decode cX5_ifRounds 11 = .ok (.bipush (-2), 2) := by decide +kernel
theorem dX5_ifRounds_13 : decode cX5_ifRounds 13 = .ok (.ireturn, 1) := by decide +kernel
theorem dX5_ifRounds_14 : decode cX5_ifRounds 14 = .ok (.aload_n 0, 1) := by decide +kernel
theorem dX5_ifRounds_15 : decode cX5_ifRounds 15 = .ok (.getfield 16, 3) := by decide +kernel
theorem dX5_ifRounds_18 : decode cX5_ifRounds 18 = .ok (.aload_n 0, 1) := by decide +kernel
theorem dX5_ifRounds_19 : decode cX5_ifRounds 19 = .ok (.getfield 10, 3) := by decide +kernel
theorem dX5_ifRounds_22 : decode cX5_ifRounds 22 = .ok (.invokevirtual 43, 3) := by decide +kernel
theorem dX5_ifRounds_25 : decode cX5_ifRounds 25 = .ok (.iload_n 2, 1) := by decide +kernel
theorem dX5_ifRounds_26 : decode cX5_ifRounds 26 = .ok (.ifCond .eq 11, 3) := by decide +kernel
theorem dX5_ifRounds_29 : decode cX5_ifRounds 29 = .ok (.aload_n 0, 1) := by decide +kernel
theorem dX5_ifRounds_30 : decode cX5_ifRounds 30 = .ok (.getfield 16, 3) := by decide +kernel
theorem dX5_ifRounds_33 : decode cX5_ifRounds 33 = .ok (.invokevirtual 62, 3) := by decide +kernel
theorem dX5_ifRounds_36 : decode cX5_ifRounds 36 = .ok (.pop, 1) := by decide +kernel
theorem dX5_ifRounds_37 : decode cX5_ifRounds 37 = .ok (.iconst 0, 1) := by decide +kernel
theorem dX5_ifRounds_38 : decode cX5_ifRounds 38 = .ok (.istore_n 3, 1) := by decide +kernel
theorem dX5_ifRounds_39 : decode cX5_ifRounds 39 = .ok (.iconst 0, 1) := by decide +kernel
theorem dX5_ifRounds_40 : decode cX5_ifRounds 40 = .ok (.istore 4, 2) := by decide +kernel
theorem dX5_ifRounds_42 : decode cX5_ifRounds 42 = .ok (.iload 4, 2) := by decide +kernel
theorem dX5_ifRounds_44 : decode cX5_ifRounds 44 = .ok (.iload_n 1, 1) := by decide +kernel
theorem dX5_ifRounds_45 : decode cX5_ifRounds 45 = .ok (.if_icmp .ge 19, 3) := by decide +kernel
theorem dX5_ifRounds_48 : decode cX5_ifRounds 48 = .ok (.iload_n 3, 1) := by decide +kernel
theorem dX5_ifRounds_49 : decode cX5_ifRounds 49 = .ok (.aload_n 0, 1) := by decide +kernel
theorem dX5_ifRounds_50 : decode cX5_ifRounds 50 = .ok (.getfield 16, 3) := by decide +kernel
theorem dX5_ifRounds_53 : decode cX5_ifRounds 53 = .ok (.invokevirtual 124, 3) := by decide +kernel
theorem dX5_ifRounds_56 : decode cX5_ifRounds 56 = .ok (.iadd, 1) := by decide +kernel
theorem dX5_ifRounds_57 : decode cX5_ifRounds 57 = .ok (.istore_n 3, 1) := by decide +kernel
theorem dX5_ifRounds_58 : decode cX5_ifRounds 58 = .ok (.iinc 4 1, 3) := by decide +kernel
theorem dX5_ifRounds_61 : decode cX5_ifRounds 61 = .ok (.goto (-19), 3) := by decide +kernel
theorem dX5_ifRounds_64 : decode cX5_ifRounds 64 = .ok (.iload_n 3, 1) := by decide +kernel
theorem dX5_ifRounds_65 : decode cX5_ifRounds 65 = .ok (.ireturn, 1) := by decide +kernel
set_option maxRecDepth 20000 in
theorem ggX5_richest_X0_richestTrader : GoodIn wsX5_richest wsX0_richestTrader := goodIn_r _ [6, 7, 8, 9, 10, 11, 12, 13, 14, 23, 24, 25, 26, 27, 28, 29, 30, 31, 32] (by decide +kernel) (by decide +kernel)
set_option maxRecDepth 20000 in
theorem gX5_richest_X0_richestTrader : GoodIn wsX5_richest (wsV RX5 127 RX0 yX0_richestTrader wsX0_richestTrader) := goodIn_app (goodIn_of _ (by decide +kernel)) ggX5_richest_X0_richestTrader
theorem dX5_richest_0 : decode cX5_richest 0 = .ok (.aload_n 0, 1) := by decide +kernel
theorem dX5_richest_1 : decode cX5_richest 1 = .ok (.getfield 10, 3) := by decide +kernel
theorem dX5_richest_4 : decode cX5_richest 4 = .ok (.invokevirtual 127, 3) := by decide +kernel
theorem dX5_richest_7 : decode cX5_richest 7 = .ok (.ireturn, 1) := by decide +kernel
set_option maxRecDepth 20000 in
theorem ggX5_account_X0_tellAccount : GoodIn wsX5_account wsX0_tellAccount := goodIn_r _ [6, 7, 8, 9, 10, 11, 12, 13, 14, 15, 16, 17, 18, 19, 20, 21, 22, 23, 24, 25, 26, 35, 36, 37, 38, 39, 40, 41, 42, 43, 44] (by decide +kernel) (by decide +kernel)
set_option maxRecDepth 20000 in
theorem gX5_account_X0_tellAccount : GoodIn wsX5_account (wsV RX5 130 RX0 yX0_tellAccount wsX0_tellAccount) := goodIn_app (goodIn_of _ (by decide +kernel)) ggX5_account_X0_tellAccount
theorem dX5_account_0 : decode cX5_account 0 = .ok (.aload_n 0, 1) := by decide +kernel
theorem dX5_account_1 : decode cX5_account 1 = .ok (.getfield 10, 3) := by decide +kernel
theorem dX5_account_4 : decode cX5_account 4 = .ok (.iload_n 1, 1) := by decide +kernel
theorem dX5_account_5 : decode cX5_account 5 = .ok (.invokevirtual 130, 3) := by decide +kernel
theorem dX5_account_8 : decode cX5_account 8 = .ok (.ireturn, 1) := by decide +kernel
set_option maxRecDepth 20000 in
theorem ggX5_count_X1_size : GoodIn wsX5_count wsX1_size := goodIn_r _ [8, 9, 67, 68, 69] (by decide +kernel) (by decide +kernel)
set_option maxRecDepth 20000 in
theorem gX5_count_X1_size : GoodIn wsX5_count (wsV RX5 133 RX1 yX1_size wsX1_size) := goodIn_app (goodIn_of _ (by decide +kernel)) ggX5_count_X1_size
set_option maxRecDepth 20000 in
theorem ggX5_count_X2_textLength : GoodIn wsX5_count wsX2_textLength := goodIn_r _ [14, 15, 70, 71, 72, 73, 74] (by decide +kernel) (by decide +kernel)
set_option maxRecDepth 20000 in
theorem gX5_count_X2_textLength : GoodIn wsX5_count (wsV RX5 136 RX2 yX2_textLength wsX2_textLength) := goodIn_app (goodIn_of _ (by decide +kernel)) ggX5_count_X2_textLength
set_option maxRecDepth 20000 in
theorem ggX5_count_X0_tellCount : GoodIn wsX5_count wsX0_tellCount := goodIn_r _ [20, 21, 22, 23, 24, 25, 26, 27, 28, 29, 30, 31, 32, 33, 34, 35, 36, 37, 38, 39, 40, 41, 42, 43, 44, 45, 46, 47, 48, 49, 50, 51, 52, 53, 54, 55, 56, 19, 57, 58, 75, 76, 77, 78, 79, 80, 81, 82, 83, 84, 85, 86, 87] (by decide +kernel) (by decide +kernel)
set_option maxRecDepth 20000 in
theorem gX5_count_X0_tellCount : GoodIn wsX5_count (wsV RX5 139 RX0 yX0_tellCount wsX0_tellCount) := goodIn_app (goodIn_of _ (by decide +kernel)) ggX5_count_X0_tellCount
theorem dX5_count_0 : decode cX5_count 0 = .ok (.iload_n 1, 1) := by decide +kernel
theorem dX5_count_1 : decode cX5_count 1 = .ok (.lookupswitch 43 #[(18, 27), (19, 35)], 27) := by decide +kernel
theorem dX5_count_28 : decode cX5_count 28 = .ok (.aload_n 0, 1) := by decide +kernel
theorem dX5_count_29 : decode cX5_count 29 = .ok (.getfield 25, 3) := by decide +kernel
theorem dX5_count_32 : decode cX5_count 32 = .ok (.invokevirtual 133, 3) := by decide +kernel
theorem dX5_count_35 : decode cX5_count 35 = .ok (.ireturn, 1) := by decide +kernel
theorem dX5_count_36 : decode cX5_count 36 = .ok (.aload_n 0, 1) := by decide +kernel
theorem dX5_count_37 : decode cX5_count 37 = .ok (.getfield 32, 3) := by decide +kernel
theorem dX5_count_40 : decode cX5_count 40 = .ok (.invokevirtual 136, 3) := by decide +kernel
theorem dX5_count_43 : decode cX5_count 43 = .ok (.ireturn, 1) := by decide +kernel
theorem dX5_count_44 : decode cX5_count 44 = .ok (.aload_n 0, 1) := by decide +kernel
theorem dX5_count_45 : decode cX5_count 45 = .ok (.getfield 10, 3) := by decide +kernel
theorem dX5_count_48 : decode cX5_count 48 = .ok (.iload_n 1, 1) := by decide +kernel
theorem dX5_count_49 : decode cX5_count 49 = .ok (.invokevirtual 139, 3) := by decide +kernel
theorem dX5_count_52 : decode cX5_count 52 = .ok (.ireturn, 1) := by decide +kernel
set_option maxRecDepth 20000 in
theorem ggX5_finishAct_X1_record : GoodIn wsX5_finishAct wsX1_record := goodIn_r _ [8, 9, 10, 11, 12, 13, 7, 14, 15, 16, 17, 18, 19, 20, 21, 22, 23, 24, 25, 26, 27, 28, 29, 30, 31, 32, 33, 34, 35, 36, 37, 38, 39, 40, 41, 42, 43, 44, 45, 46, 47, 48, 49, 50, 51, 52, 62, 63, 64, 65, 66, 67, 68, 69, 70, 71, 72, 73, 74, 75, 76, 77] (by decide +kernel) (by decide +kernel)
set_option maxRecDepth 20000 in
theorem gX5_finishAct_X1_record : GoodIn wsX5_finishAct (wsV RX5 142 RX1 yX1_record wsX1_record) := goodIn_app (goodIn_of _ (by decide +kernel)) ggX5_finishAct_X1_record
set_option maxRecDepth 20000 in
theorem ggX5_finishAct_X0_copyFrom : GoodIn wsX5_finishAct wsX0_copyFrom := goodIn_r _ [20, 21, 22, 23, 24, 25, 26, 27, 28, 29, 30, 31, 32, 33, 34, 35, 36, 37, 38, 39, 40, 41, 42, 43, 44, 45, 46, 47, 48, 49, 50, 51, 52, 65, 66, 67, 68, 69, 70, 71, 72, 73, 74, 75, 76, 77] (by decide +kernel) (by decide +kernel)
set_option maxRecDepth 20000 in
theorem gX5_finishAct_X0_copyFrom : GoodIn wsX5_finishAct (wsV RX5 43 RX0 yX0_copyFrom wsX0_copyFrom) := goodIn_app (goodIn_of _ (by decide +kernel)) ggX5_finishAct_X0_copyFrom
theorem dX5_finishAct_0 : decode cX5_finishAct 0 = .ok (.iload_n 1, 1) := by decide +kernel
theorem dX5_finishAct_1 : decode cX5_finishAct 1 = .ok (.ifCond .lt 25, 3) := by decide +kernel
theorem dX5_finishAct_4 : decode cX5_finishAct 4 = .ok (.aload_n 0, 1) := by decide +kernel
theorem dX5_finishAct_5 : decode cX5_finishAct 5 = .ok (.getfield 25, 3) := by decide +kernel
theorem dX5_finishAct_8 : decode cX5_finishAct 8 = .ok (.aload_n 0, 1) := by decide +kernel
theorem dX5_finishAct_9 : decode cX5_finishAct 9 = .ok (.getfield 10, 3) := by decide +kernel
theorem dX5_finishAct_12 : decode cX5_finishAct 12 = .ok (.invokevirtual 142, 3) := by decide +kernel
theorem dX5_finishAct_15 : decode cX5_finishAct 15 = .ok (.aload_n 0, 1) := by decide +kernel
theorem dX5_finishAct_16 : decode cX5_finishAct 16 = .ok (.getfield 10, 3) := by decide +kernel
theorem dX5_finishAct_19 : decode cX5_finishAct 19 = .ok (.aload_n 0, 1) := by decide +kernel
theorem dX5_finishAct_20 : decode cX5_finishAct 20 = .ok (.getfield 16, 3) := by decide +kernel
theorem dX5_finishAct_23 : decode cX5_finishAct 23 = .ok (.invokevirtual 43, 3) := by decide +kernel
theorem dX5_finishAct_26 : decode cX5_finishAct 26 = .ok (.iload_n 1, 1) := by decide +kernel
theorem dX5_finishAct_27 : decode cX5_finishAct 27 = .ok (.ireturn, 1) := by decide +kernel
set_option maxRecDepth 20000 in
theorem ggX5_doThing_X2_numberOf : GoodIn wsX5_doThing wsX2_numberOf := goodIn_r _ [7, 8, 9, 10, 11, 12, 13, 14, 15, 136, 137, 138, 139, 140, 141, 142, 143] (by decide +kernel) (by decide +kernel)
set_option maxRecDepth 20000 in
theorem gX5_doThing_X2_numberOf : GoodIn wsX5_doThing (wsV RX5 145 RX2 yX2_numberOf wsX2_numberOf) := goodIn_app (goodIn_of _ (by decide +kernel)) ggX5_doThing_X2_numberOf
set_option maxRecDepth 20000 in
theorem ggX5_doThing_X0_addRiddle : GoodIn wsX5_doThing wsX0_addRiddle := goodIn_r _ [20, 21, 22, 23, 24, 25, 12, 26, 27, 28, 29, 30, 31, 32, 33, 34, 35, 36, 37, 38, 39, 14, 15, 144, 145, 146, 147, 148, 149, 150, 141, 142, 143] (by decide +kernel) (by decide +kernel)
set_option maxRecDepth 20000 in
theorem gX5_doThing_X0_addRiddle : GoodIn wsX5_doThing (wsV RX5 47 RX0 yX0_addRiddle wsX0_addRiddle) := goodIn_app (goodIn_of _ (by decide +kernel)) ggX5_doThing_X0_addRiddle
set_option maxRecDepth 20000 in
theorem ggX5_doThing_X0_addAnswer : GoodIn wsX5_doThing wsX0_addAnswer := goodIn_r _ [43, 21, 22, 44, 45, 23, 24, 25, 12, 26, 27, 46, 10, 11, 13, 14, 15, 28, 29, 30, 31, 32, 33, 34, 35, 36, 37, 38, 39, 47, 48, 49, 50, 51, 52, 53, 54, 144, 145, 146, 147, 148, 149, 150, 141, 142, 143, 151, 152, 153] (by decide +kernel) (by decide +kernel)
set_option maxRecDepth 20000 in
theorem gX5_doThing_X0_addAnswer : GoodIn wsX5_doThing (wsV RX5 58 RX0 yX0_addAnswer wsX0_addAnswer) := goodIn_app (goodIn_of _ (by decide +kernel)) ggX5_doThing_X0_addAnswer
set_option maxRecDepth 20000 in
theorem ggX5_doThing_X0_playRounds : GoodIn wsX5_doThing wsX0_playRounds := goodIn_r _ [58, 59, 60, 61, 62, 19, 63, 64, 45, 65, 66, 67, 68, 46, 10, 11, 12, 13, 14, 15, 69, 70, 71, 50, 72, 53, 73, 74, 75, 76, 52, 77, 78, 79, 80, 54, 81, 82, 83, 84, 85, 86, 87, 88, 44, 22, 89, 90, 91, 92, 93, 94, 95, 96, 97, 98, 99, 100, 101, 102, 103, 21, 104, 105, 106, 107, 36, 37, 38, 39, 108, 109, 110, 111, 112, 113, 114, 115, 116, 117, 118, 119, 47, 48, 49, 51, 120, 121, 122, 123, 124, 125, 126, 127, 144, 145, 146, 147, 148, 149, 150, 141, 142, 143, 151, 152, 153] (by decide +kernel) (by decide +kernel)
set_option maxRecDepth 20000 in
theorem gX5_doThing_X0_playRounds : GoodIn wsX5_doThing (wsV RX5 70 RX0 yX0_playRounds wsX0_playRounds) := goodIn_app (goodIn_of _ (by decide +kernel)) ggX5_doThing_X0_playRounds
theorem dX5_doThing_0 : decode cX5_doThing 0 = .ok (.aload_n 0, 1) := by decide +kernel
theorem dX5_doThing_1 : decode cX5_doThing 1 = .ok (.getfield 32, 3) := by decide +kernel
theorem dX5_doThing_4 : decode cX5_doThing 4 = .ok (.iload_n 1, 1) := by decide +kernel
theorem dX5_doThing_5 : decode cX5_doThing 5 = .ok (.iconst 1, 1) := by decide +kernel
theorem dX5_doThing_6 : decode cX5_doThing 6 = .ok (.invokevirtual 145, 3) := by decide +kernel
theorem dX5_doThing_9 : decode cX5_doThing 9 = .ok (.istore_n 2, 1) := by decide +kernel
theorem dX5_doThing_10 : decode cX5_doThing 10 = .ok (.aload_n 0, 1) := by decide +kernel
theorem dX5_doThing_11 : decode cX5_doThing 11 = .ok (.getfield 32, 3) := by decide +kernel
theorem dX5_doThing_14 : decode cX5_doThing 14 = .ok (.iload_n 1, 1) := by decide +kernel
theorem dX5_doThing_15 : decode cX5_doThing 15 = .ok (.iconst 2, 1) := by decide +kernel
theorem dX5_doThing_16 : decode cX5_doThing 16 = .ok (.invokevirtual 145, 3) := by decide +kernel
theorem dX5_doThing_19 : decode cX5_doThing 19 = .ok (.istore_n 3, 1) := by decide +kernel
theorem dX5_doThing_20 : decode cX5_doThing 20 = .ok (.aload_n 0, 1) := by decide +kernel
theorem dX5_doThing_21 : decode cX5_doThing 21 = .ok (.getfield 32, 3) := by decide +kernel
theorem dX5_doThing_24 : decode cX5_doThing 24 = .ok (.iload_n 1, 1) := by decide +kernel
theorem dX5_doThing_25 : decode cX5_doThing 25 = .ok (.iconst 3, 1) := by decide +kernel
theorem dX5_doThing_26 : decode cX5_doThing 26 = .ok (.invokevirtual 145, 3) := by decide +kernel
theorem dX5_doThing_29 : decode cX5_doThing 29 = .ok (.istore 4, 2) := by decide +kernel
theorem dX5_doThing_31 : decode cX5_doThing 31 = .ok (.aload_n 0, 1) := by decide +kernel
theorem dX5_doThing_32 : decode cX5_doThing 32 = .ok (.getfield 32, 3) := by decide +kernel
theorem dX5_doThing_35 : decode cX5_doThing 35 = .ok (.iload_n 1, 1) := by decide +kernel
theorem dX5_doThing_36 : decode cX5_doThing 36 = .ok (.iconst 0, 1) := by decide +kernel
theorem dX5_doThing_37 : decode cX5_doThing 37 = .ok (.invokevirtual 145, 3) := by decide +kernel
theorem dX5_doThing_40 : decode cX5_doThing 40 = .ok (.lookupswitch 61 #[(0, 28), (1, 40)], 28) := by decide +kernel
theorem dX5_doThing_68 : decode cX5_doThing 68 = .ok (.aload_n 0, 1) := by decide +kernel
theorem dX5_doThing_69 : decode cX5_doThing 69 = .ok (.getfield 16, 3) := by decide +kernel
theorem dX5_doThing_72 : decode cX5_doThing 72 = .ok (.iload_n 2, 1) := by decide +kernel
theorem dX5_doThing_73 : decode cX5_doThing 73 = .ok (.iload_n 3, 1) := by decide +kernel
theorem dX5_doThing_74 : decode cX5_doThing 74 = .ok (.iload 4, 2) := by decide +kernel
theorem dX5_doThing_76 : decode cX5_doThing 76 = .ok (.invokevirtual 47, 3) := by decide +kernel
theorem dX5_doThing_79 : decode cX5_doThing 79 = .ok (.ireturn, 1) := by decide +kernel
theorem dX5_doThing_80 : decode cX5_doThing 80 = .ok (.aload_n 0, 1) := by decide +kernel
theorem dX5_doThing_81 : decode cX5_doThing 81 = .ok (.getfield 16, 3) := by decide +kernel
theorem dX5_doThing_84 : decode cX5_doThing 84 = .ok (.iload_n 2, 1) := by decide +kernel
theorem dX5_doThing_85 : decode cX5_doThing 85 = .ok (.iload_n 3, 1) := by decide +kernel
theorem dX5_doThing_86 : decode cX5_doThing 86 = .ok (.iload 4, 2) := by decide +kernel
theorem dX5_doThing_88 : decode cX5_doThing 88 = .ok (.aload_n 0, 1) := by decide +kernel
theorem dX5_doThing_89 : decode cX5_doThing 89 = .ok (.getfield 32, 3) := by decide +kernel
theorem dX5_doThing_92 : decode cX5_doThing 92 = .ok (.iload_n 1, 1) := by decide +kernel
theorem dX5_doThing_93 : decode cX5_doThing 93 = .ok (.iconst 4, 1) := by decide +kernel
theorem dX5_doThing_94 : decode cX5_doThing 94 = .ok (.invokevirtual 145, 3) := by decide +kernel
theorem dX5_doThing_97 : decode cX5_doThing 97 = .ok (.invokevirtual 58, 3) := by decide +kernel
theorem dX5_doThing_100 : decode cX5_doThing 100 = .ok (.ireturn, 1) := by decide +kernel
theorem dX5_doThing_101 : decode cX5_doThing 101 = .ok (.aload_n 0, 1) := by decide +kernel
theorem dX5_doThing_102 : decode cX5_doThing 102 = .ok (.getfield 16, 3) := by decide +kernel
theorem dX5_doThing_105 : decode cX5_doThing 105 = .ok (.iload_n 2, 1) := by decide +kernel
theorem dX5_doThing_106 : decode cX5_doThing 106 = .ok (.invokevirtual 70, 3) := by decide +kernel
theorem dX5_doThing_109 : decode cX5_doThing 109 = .ok (.ireturn, 1) := by decide +kernel
end
section
/-! part 02: pure words for what methods do, and one row a call, one row a method's start -/
def rd (n : Nat) (f : Nat → Int32) (i : Int32) : Option Int32 := if i < 0 ∨ n ≤ i.toNatClampNeg then none else some (f i.toNatClampNeg)
def wr (n : Nat) (f : Nat → Int32) (i x : Int32) : Option (Nat → Int32) := if i < 0 ∨ n ≤ i.toNatClampNeg then none else some (upd f i.toNatClampNeg x)
def cpy (n0 n1 : Nat) (f g : Nat → Int32) (sp dp n : Int32) : Option (Nat → Int32) := if sp < 0 ∨ dp < 0 ∨ n < 0 ∨ n0 < sp.toNatClampNeg + n.toNatClampNeg ∨ n1 < dp.toNatClampNeg + n.toNatClampNeg then none else some (va_cpy f g sp.toNatClampNeg dp.toNatClampNeg n.toNatClampNeg)
def fuel : Nat := 2147483648
theorem rd_el {n : Nat} {f : Nat → Int32} {i v : Int32} (h : rd n f i = some v) : vp_in i n ∧ f i.toNatClampNeg = v := by
  unfold rd at h
  by_cases c : i < 0 ∨ n ≤ i.toNatClampNeg
  · rw [if_pos c] at h; cases h
  · rw [if_neg c] at h; exact ⟨c, Option.some.inj h⟩
theorem wr_el {n : Nat} {f g : Nat → Int32} {i x : Int32} (h : wr n f i x = some g) : vp_in i n ∧ upd f i.toNatClampNeg x = g := by
  unfold wr at h
  by_cases c : i < 0 ∨ n ≤ i.toNatClampNeg
  · rw [if_pos c] at h; cases h
  · rw [if_neg c] at h; exact ⟨c, Option.some.inj h⟩
theorem cpy_el {n0 n1 : Nat} {f g r : Nat → Int32} {sp dp n : Int32} (h : cpy n0 n1 f g sp dp n = some r) : ¬ sp < 0 ∧ ¬ dp < 0 ∧ ¬ n < 0 ∧ sp.toNatClampNeg + n.toNatClampNeg ≤ n0 ∧ dp.toNatClampNeg + n.toNatClampNeg ≤ n1 ∧ va_cpy f g sp.toNatClampNeg dp.toNatClampNeg n.toNatClampNeg = r := by
  unfold cpy at h
  by_cases c : sp < 0 ∨ dp < 0 ∨ n < 0 ∨ n0 < sp.toNatClampNeg + n.toNatClampNeg ∨ n1 < dp.toNatClampNeg + n.toNatClampNeg
  · rw [if_pos c] at h; cases h
  · rw [if_neg c] at h
    exact ⟨fun q => c (Or.inl q), fun q => c (Or.inr (Or.inl q)), fun q => c (Or.inr (Or.inr (Or.inl q))), Nat.le_of_not_lt fun q => c (Or.inr (Or.inr (Or.inr (Or.inl q)))), Nat.le_of_not_lt fun q => c (Or.inr (Or.inr (Or.inr (Or.inr q)))), Option.some.inj h⟩

def ob1 {A1 B : Type} (o : Option (A1)) (k : A1 → Option B) : Option B := match o with | none => none | some a1 => k a1
theorem ob1_el {A1 B : Type} {o : Option (A1)} {k : A1 → Option B} {z : B} (h : ob1 o k = some z) : ∃ (a1 : A1), o = some a1 ∧ k a1 = some z := by
  cases o with
  | none => cases h
  | some u => exact ⟨u, rfl, h⟩
def tb1 {A1 B : Type} (o : A1) (k : A1 → B) : B := k o
theorem tb1_el {A1 B : Type} {o : A1} {k : A1 → B} {z : B} (h : tb1 o k = z) : ∃ (a1 : A1), o = a1 ∧ k a1 = z := ⟨o, rfl, h⟩
def ob2 {A1 A2 B : Type} (o : Option (A1 × A2)) (k : A1 → A2 → Option B) : Option B := match o with | none => none | some (a1, a2) => k a1 a2
theorem ob2_el {A1 A2 B : Type} {o : Option (A1 × A2)} {k : A1 → A2 → Option B} {z : B} (h : ob2 o k = some z) : ∃ (a1 : A1) (a2 : A2), o = some (a1, a2) ∧ k a1 a2 = some z := by
  cases o with
  | none => cases h
  | some u => exact ⟨u.1, u.2, rfl, h⟩
def tb2 {A1 A2 B : Type} (o : A1 × A2) (k : A1 → A2 → B) : B := k o.1 o.2
theorem tb2_el {A1 A2 B : Type} {o : A1 × A2} {k : A1 → A2 → B} {z : B} (h : tb2 o k = z) : ∃ (a1 : A1) (a2 : A2), o = (a1, a2) ∧ k a1 a2 = z := ⟨o.1, o.2, rfl, h⟩
def ob3 {A1 A2 A3 B : Type} (o : Option (A1 × A2 × A3)) (k : A1 → A2 → A3 → Option B) : Option B := match o with | none => none | some (a1, a2, a3) => k a1 a2 a3
theorem ob3_el {A1 A2 A3 B : Type} {o : Option (A1 × A2 × A3)} {k : A1 → A2 → A3 → Option B} {z : B} (h : ob3 o k = some z) : ∃ (a1 : A1) (a2 : A2) (a3 : A3), o = some (a1, a2, a3) ∧ k a1 a2 a3 = some z := by
  cases o with
  | none => cases h
  | some u => exact ⟨u.1, u.2.1, u.2.2, rfl, h⟩
def tb3 {A1 A2 A3 B : Type} (o : A1 × A2 × A3) (k : A1 → A2 → A3 → B) : B := k o.1 o.2.1 o.2.2
theorem tb3_el {A1 A2 A3 B : Type} {o : A1 × A2 × A3} {k : A1 → A2 → A3 → B} {z : B} (h : tb3 o k = z) : ∃ (a1 : A1) (a2 : A2) (a3 : A3), o = (a1, a2, a3) ∧ k a1 a2 a3 = z := ⟨o.1, o.2.1, o.2.2, rfl, h⟩
def ob4 {A1 A2 A3 A4 B : Type} (o : Option (A1 × A2 × A3 × A4)) (k : A1 → A2 → A3 → A4 → Option B) : Option B := match o with | none => none | some (a1, a2, a3, a4) => k a1 a2 a3 a4
theorem ob4_el {A1 A2 A3 A4 B : Type} {o : Option (A1 × A2 × A3 × A4)} {k : A1 → A2 → A3 → A4 → Option B} {z : B} (h : ob4 o k = some z) : ∃ (a1 : A1) (a2 : A2) (a3 : A3) (a4 : A4), o = some (a1, a2, a3, a4) ∧ k a1 a2 a3 a4 = some z := by
  cases o with
  | none => cases h
  | some u => exact ⟨u.1, u.2.1, u.2.2.1, u.2.2.2, rfl, h⟩
def tb4 {A1 A2 A3 A4 B : Type} (o : A1 × A2 × A3 × A4) (k : A1 → A2 → A3 → A4 → B) : B := k o.1 o.2.1 o.2.2.1 o.2.2.2
theorem tb4_el {A1 A2 A3 A4 B : Type} {o : A1 × A2 × A3 × A4} {k : A1 → A2 → A3 → A4 → B} {z : B} (h : tb4 o k = z) : ∃ (a1 : A1) (a2 : A2) (a3 : A3) (a4 : A4), o = (a1, a2, a3, a4) ∧ k a1 a2 a3 a4 = z := ⟨o.1, o.2.1, o.2.2.1, o.2.2.2, rfl, h⟩
def ob5 {A1 A2 A3 A4 A5 B : Type} (o : Option (A1 × A2 × A3 × A4 × A5)) (k : A1 → A2 → A3 → A4 → A5 → Option B) : Option B := match o with | none => none | some (a1, a2, a3, a4, a5) => k a1 a2 a3 a4 a5
theorem ob5_el {A1 A2 A3 A4 A5 B : Type} {o : Option (A1 × A2 × A3 × A4 × A5)} {k : A1 → A2 → A3 → A4 → A5 → Option B} {z : B} (h : ob5 o k = some z) : ∃ (a1 : A1) (a2 : A2) (a3 : A3) (a4 : A4) (a5 : A5), o = some (a1, a2, a3, a4, a5) ∧ k a1 a2 a3 a4 a5 = some z := by
  cases o with
  | none => cases h
  | some u => exact ⟨u.1, u.2.1, u.2.2.1, u.2.2.2.1, u.2.2.2.2, rfl, h⟩
def tb5 {A1 A2 A3 A4 A5 B : Type} (o : A1 × A2 × A3 × A4 × A5) (k : A1 → A2 → A3 → A4 → A5 → B) : B := k o.1 o.2.1 o.2.2.1 o.2.2.2.1 o.2.2.2.2
theorem tb5_el {A1 A2 A3 A4 A5 B : Type} {o : A1 × A2 × A3 × A4 × A5} {k : A1 → A2 → A3 → A4 → A5 → B} {z : B} (h : tb5 o k = z) : ∃ (a1 : A1) (a2 : A2) (a3 : A3) (a4 : A4) (a5 : A5), o = (a1, a2, a3, a4, a5) ∧ k a1 a2 a3 a4 a5 = z := ⟨o.1, o.2.1, o.2.2.1, o.2.2.2.1, o.2.2.2.2, rfl, h⟩
def ob6 {A1 A2 A3 A4 A5 A6 B : Type} (o : Option (A1 × A2 × A3 × A4 × A5 × A6)) (k : A1 → A2 → A3 → A4 → A5 → A6 → Option B) : Option B := match o with | none => none | some (a1, a2, a3, a4, a5, a6) => k a1 a2 a3 a4 a5 a6
theorem ob6_el {A1 A2 A3 A4 A5 A6 B : Type} {o : Option (A1 × A2 × A3 × A4 × A5 × A6)} {k : A1 → A2 → A3 → A4 → A5 → A6 → Option B} {z : B} (h : ob6 o k = some z) : ∃ (a1 : A1) (a2 : A2) (a3 : A3) (a4 : A4) (a5 : A5) (a6 : A6), o = some (a1, a2, a3, a4, a5, a6) ∧ k a1 a2 a3 a4 a5 a6 = some z := by
  cases o with
  | none => cases h
  | some u => exact ⟨u.1, u.2.1, u.2.2.1, u.2.2.2.1, u.2.2.2.2.1, u.2.2.2.2.2, rfl, h⟩
def tb6 {A1 A2 A3 A4 A5 A6 B : Type} (o : A1 × A2 × A3 × A4 × A5 × A6) (k : A1 → A2 → A3 → A4 → A5 → A6 → B) : B := k o.1 o.2.1 o.2.2.1 o.2.2.2.1 o.2.2.2.2.1 o.2.2.2.2.2
theorem tb6_el {A1 A2 A3 A4 A5 A6 B : Type} {o : A1 × A2 × A3 × A4 × A5 × A6} {k : A1 → A2 → A3 → A4 → A5 → A6 → B} {z : B} (h : tb6 o k = z) : ∃ (a1 : A1) (a2 : A2) (a3 : A3) (a4 : A4) (a5 : A5) (a6 : A6), o = (a1, a2, a3, a4, a5, a6) ∧ k a1 a2 a3 a4 a5 a6 = z := ⟨o.1, o.2.1, o.2.2.1, o.2.2.2.1, o.2.2.2.2.1, o.2.2.2.2.2, rfl, h⟩
def ob7 {A1 A2 A3 A4 A5 A6 A7 B : Type} (o : Option (A1 × A2 × A3 × A4 × A5 × A6 × A7)) (k : A1 → A2 → A3 → A4 → A5 → A6 → A7 → Option B) : Option B := match o with | none => none | some (a1, a2, a3, a4, a5, a6, a7) => k a1 a2 a3 a4 a5 a6 a7
theorem ob7_el {A1 A2 A3 A4 A5 A6 A7 B : Type} {o : Option (A1 × A2 × A3 × A4 × A5 × A6 × A7)} {k : A1 → A2 → A3 → A4 → A5 → A6 → A7 → Option B} {z : B} (h : ob7 o k = some z) : ∃ (a1 : A1) (a2 : A2) (a3 : A3) (a4 : A4) (a5 : A5) (a6 : A6) (a7 : A7), o = some (a1, a2, a3, a4, a5, a6, a7) ∧ k a1 a2 a3 a4 a5 a6 a7 = some z := by
  cases o with
  | none => cases h
  | some u => exact ⟨u.1, u.2.1, u.2.2.1, u.2.2.2.1, u.2.2.2.2.1, u.2.2.2.2.2.1, u.2.2.2.2.2.2, rfl, h⟩
def tb7 {A1 A2 A3 A4 A5 A6 A7 B : Type} (o : A1 × A2 × A3 × A4 × A5 × A6 × A7) (k : A1 → A2 → A3 → A4 → A5 → A6 → A7 → B) : B := k o.1 o.2.1 o.2.2.1 o.2.2.2.1 o.2.2.2.2.1 o.2.2.2.2.2.1 o.2.2.2.2.2.2
theorem tb7_el {A1 A2 A3 A4 A5 A6 A7 B : Type} {o : A1 × A2 × A3 × A4 × A5 × A6 × A7} {k : A1 → A2 → A3 → A4 → A5 → A6 → A7 → B} {z : B} (h : tb7 o k = z) : ∃ (a1 : A1) (a2 : A2) (a3 : A3) (a4 : A4) (a5 : A5) (a6 : A6) (a7 : A7), o = (a1, a2, a3, a4, a5, a6, a7) ∧ k a1 a2 a3 a4 a5 a6 a7 = z := ⟨o.1, o.2.1, o.2.2.1, o.2.2.2.1, o.2.2.2.2.1, o.2.2.2.2.2.1, o.2.2.2.2.2.2, rfl, h⟩
def ob8 {A1 A2 A3 A4 A5 A6 A7 A8 B : Type} (o : Option (A1 × A2 × A3 × A4 × A5 × A6 × A7 × A8)) (k : A1 → A2 → A3 → A4 → A5 → A6 → A7 → A8 → Option B) : Option B := match o with | none => none | some (a1, a2, a3, a4, a5, a6, a7, a8) => k a1 a2 a3 a4 a5 a6 a7 a8
theorem ob8_el {A1 A2 A3 A4 A5 A6 A7 A8 B : Type} {o : Option (A1 × A2 × A3 × A4 × A5 × A6 × A7 × A8)} {k : A1 → A2 → A3 → A4 → A5 → A6 → A7 → A8 → Option B} {z : B} (h : ob8 o k = some z) : ∃ (a1 : A1) (a2 : A2) (a3 : A3) (a4 : A4) (a5 : A5) (a6 : A6) (a7 : A7) (a8 : A8), o = some (a1, a2, a3, a4, a5, a6, a7, a8) ∧ k a1 a2 a3 a4 a5 a6 a7 a8 = some z := by
  cases o with
  | none => cases h
  | some u => exact ⟨u.1, u.2.1, u.2.2.1, u.2.2.2.1, u.2.2.2.2.1, u.2.2.2.2.2.1, u.2.2.2.2.2.2.1, u.2.2.2.2.2.2.2, rfl, h⟩
def tb8 {A1 A2 A3 A4 A5 A6 A7 A8 B : Type} (o : A1 × A2 × A3 × A4 × A5 × A6 × A7 × A8) (k : A1 → A2 → A3 → A4 → A5 → A6 → A7 → A8 → B) : B := k o.1 o.2.1 o.2.2.1 o.2.2.2.1 o.2.2.2.2.1 o.2.2.2.2.2.1 o.2.2.2.2.2.2.1 o.2.2.2.2.2.2.2
theorem tb8_el {A1 A2 A3 A4 A5 A6 A7 A8 B : Type} {o : A1 × A2 × A3 × A4 × A5 × A6 × A7 × A8} {k : A1 → A2 → A3 → A4 → A5 → A6 → A7 → A8 → B} {z : B} (h : tb8 o k = z) : ∃ (a1 : A1) (a2 : A2) (a3 : A3) (a4 : A4) (a5 : A5) (a6 : A6) (a7 : A7) (a8 : A8), o = (a1, a2, a3, a4, a5, a6, a7, a8) ∧ k a1 a2 a3 a4 a5 a6 a7 a8 = z := ⟨o.1, o.2.1, o.2.2.1, o.2.2.2.1, o.2.2.2.2.1, o.2.2.2.2.2.1, o.2.2.2.2.2.2.1, o.2.2.2.2.2.2.2, rfl, h⟩
def ob9 {A1 A2 A3 A4 A5 A6 A7 A8 A9 B : Type} (o : Option (A1 × A2 × A3 × A4 × A5 × A6 × A7 × A8 × A9)) (k : A1 → A2 → A3 → A4 → A5 → A6 → A7 → A8 → A9 → Option B) : Option B := match o with | none => none | some (a1, a2, a3, a4, a5, a6, a7, a8, a9) => k a1 a2 a3 a4 a5 a6 a7 a8 a9
theorem ob9_el {A1 A2 A3 A4 A5 A6 A7 A8 A9 B : Type} {o : Option (A1 × A2 × A3 × A4 × A5 × A6 × A7 × A8 × A9)} {k : A1 → A2 → A3 → A4 → A5 → A6 → A7 → A8 → A9 → Option B} {z : B} (h : ob9 o k = some z) : ∃ (a1 : A1) (a2 : A2) (a3 : A3) (a4 : A4) (a5 : A5) (a6 : A6) (a7 : A7) (a8 : A8) (a9 : A9), o = some (a1, a2, a3, a4, a5, a6, a7, a8, a9) ∧ k a1 a2 a3 a4 a5 a6 a7 a8 a9 = some z := by
  cases o with
  | none => cases h
  | some u => exact ⟨u.1, u.2.1, u.2.2.1, u.2.2.2.1, u.2.2.2.2.1, u.2.2.2.2.2.1, u.2.2.2.2.2.2.1, u.2.2.2.2.2.2.2.1, u.2.2.2.2.2.2.2.2, rfl, h⟩
def tb9 {A1 A2 A3 A4 A5 A6 A7 A8 A9 B : Type} (o : A1 × A2 × A3 × A4 × A5 × A6 × A7 × A8 × A9) (k : A1 → A2 → A3 → A4 → A5 → A6 → A7 → A8 → A9 → B) : B := k o.1 o.2.1 o.2.2.1 o.2.2.2.1 o.2.2.2.2.1 o.2.2.2.2.2.1 o.2.2.2.2.2.2.1 o.2.2.2.2.2.2.2.1 o.2.2.2.2.2.2.2.2
theorem tb9_el {A1 A2 A3 A4 A5 A6 A7 A8 A9 B : Type} {o : A1 × A2 × A3 × A4 × A5 × A6 × A7 × A8 × A9} {k : A1 → A2 → A3 → A4 → A5 → A6 → A7 → A8 → A9 → B} {z : B} (h : tb9 o k = z) : ∃ (a1 : A1) (a2 : A2) (a3 : A3) (a4 : A4) (a5 : A5) (a6 : A6) (a7 : A7) (a8 : A8) (a9 : A9), o = (a1, a2, a3, a4, a5, a6, a7, a8, a9) ∧ k a1 a2 a3 a4 a5 a6 a7 a8 a9 = z := ⟨o.1, o.2.1, o.2.2.1, o.2.2.2.1, o.2.2.2.2.1, o.2.2.2.2.2.1, o.2.2.2.2.2.2.1, o.2.2.2.2.2.2.2.1, o.2.2.2.2.2.2.2.2, rfl, h⟩
def ob10 {A1 A2 A3 A4 A5 A6 A7 A8 A9 A10 B : Type} (o : Option (A1 × A2 × A3 × A4 × A5 × A6 × A7 × A8 × A9 × A10)) (k : A1 → A2 → A3 → A4 → A5 → A6 → A7 → A8 → A9 → A10 → Option B) : Option B := match o with | none => none | some (a1, a2, a3, a4, a5, a6, a7, a8, a9, a10) => k a1 a2 a3 a4 a5 a6 a7 a8 a9 a10
theorem ob10_el {A1 A2 A3 A4 A5 A6 A7 A8 A9 A10 B : Type} {o : Option (A1 × A2 × A3 × A4 × A5 × A6 × A7 × A8 × A9 × A10)} {k : A1 → A2 → A3 → A4 → A5 → A6 → A7 → A8 → A9 → A10 → Option B} {z : B} (h : ob10 o k = some z) : ∃ (a1 : A1) (a2 : A2) (a3 : A3) (a4 : A4) (a5 : A5) (a6 : A6) (a7 : A7) (a8 : A8) (a9 : A9) (a10 : A10), o = some (a1, a2, a3, a4, a5, a6, a7, a8, a9, a10) ∧ k a1 a2 a3 a4 a5 a6 a7 a8 a9 a10 = some z := by
  cases o with
  | none => cases h
  | some u => exact ⟨u.1, u.2.1, u.2.2.1, u.2.2.2.1, u.2.2.2.2.1, u.2.2.2.2.2.1, u.2.2.2.2.2.2.1, u.2.2.2.2.2.2.2.1, u.2.2.2.2.2.2.2.2.1, u.2.2.2.2.2.2.2.2.2, rfl, h⟩
def tb10 {A1 A2 A3 A4 A5 A6 A7 A8 A9 A10 B : Type} (o : A1 × A2 × A3 × A4 × A5 × A6 × A7 × A8 × A9 × A10) (k : A1 → A2 → A3 → A4 → A5 → A6 → A7 → A8 → A9 → A10 → B) : B := k o.1 o.2.1 o.2.2.1 o.2.2.2.1 o.2.2.2.2.1 o.2.2.2.2.2.1 o.2.2.2.2.2.2.1 o.2.2.2.2.2.2.2.1 o.2.2.2.2.2.2.2.2.1 o.2.2.2.2.2.2.2.2.2
theorem tb10_el {A1 A2 A3 A4 A5 A6 A7 A8 A9 A10 B : Type} {o : A1 × A2 × A3 × A4 × A5 × A6 × A7 × A8 × A9 × A10} {k : A1 → A2 → A3 → A4 → A5 → A6 → A7 → A8 → A9 → A10 → B} {z : B} (h : tb10 o k = z) : ∃ (a1 : A1) (a2 : A2) (a3 : A3) (a4 : A4) (a5 : A5) (a6 : A6) (a7 : A7) (a8 : A8) (a9 : A9) (a10 : A10), o = (a1, a2, a3, a4, a5, a6, a7, a8, a9, a10) ∧ k a1 a2 a3 a4 a5 a6 a7 a8 a9 a10 = z := ⟨o.1, o.2.1, o.2.2.1, o.2.2.2.1, o.2.2.2.2.1, o.2.2.2.2.2.1, o.2.2.2.2.2.2.1, o.2.2.2.2.2.2.2.1, o.2.2.2.2.2.2.2.2.1, o.2.2.2.2.2.2.2.2.2, rfl, h⟩
def ob11 {A1 A2 A3 A4 A5 A6 A7 A8 A9 A10 A11 B : Type} (o : Option (A1 × A2 × A3 × A4 × A5 × A6 × A7 × A8 × A9 × A10 × A11)) (k : A1 → A2 → A3 → A4 → A5 → A6 → A7 → A8 → A9 → A10 → A11 → Option B) : Option B := match o with | none => none | some (a1, a2, a3, a4, a5, a6, a7, a8, a9, a10, a11) => k a1 a2 a3 a4 a5 a6 a7 a8 a9 a10 a11
theorem ob11_el {A1 A2 A3 A4 A5 A6 A7 A8 A9 A10 A11 B : Type} {o : Option (A1 × A2 × A3 × A4 × A5 × A6 × A7 × A8 × A9 × A10 × A11)} {k : A1 → A2 → A3 → A4 → A5 → A6 → A7 → A8 → A9 → A10 → A11 → Option B} {z : B} (h : ob11 o k = some z) : ∃ (a1 : A1) (a2 : A2) (a3 : A3) (a4 : A4) (a5 : A5) (a6 : A6) (a7 : A7) (a8 : A8) (a9 : A9) (a10 : A10) (a11 : A11), o = some (a1, a2, a3, a4, a5, a6, a7, a8, a9, a10, a11) ∧ k a1 a2 a3 a4 a5 a6 a7 a8 a9 a10 a11 = some z := by
  cases o with
  | none => cases h
  | some u => exact ⟨u.1, u.2.1, u.2.2.1, u.2.2.2.1, u.2.2.2.2.1, u.2.2.2.2.2.1, u.2.2.2.2.2.2.1, u.2.2.2.2.2.2.2.1, u.2.2.2.2.2.2.2.2.1, u.2.2.2.2.2.2.2.2.2.1, u.2.2.2.2.2.2.2.2.2.2, rfl, h⟩
def tb11 {A1 A2 A3 A4 A5 A6 A7 A8 A9 A10 A11 B : Type} (o : A1 × A2 × A3 × A4 × A5 × A6 × A7 × A8 × A9 × A10 × A11) (k : A1 → A2 → A3 → A4 → A5 → A6 → A7 → A8 → A9 → A10 → A11 → B) : B := k o.1 o.2.1 o.2.2.1 o.2.2.2.1 o.2.2.2.2.1 o.2.2.2.2.2.1 o.2.2.2.2.2.2.1 o.2.2.2.2.2.2.2.1 o.2.2.2.2.2.2.2.2.1 o.2.2.2.2.2.2.2.2.2.1 o.2.2.2.2.2.2.2.2.2.2
theorem tb11_el {A1 A2 A3 A4 A5 A6 A7 A8 A9 A10 A11 B : Type} {o : A1 × A2 × A3 × A4 × A5 × A6 × A7 × A8 × A9 × A10 × A11} {k : A1 → A2 → A3 → A4 → A5 → A6 → A7 → A8 → A9 → A10 → A11 → B} {z : B} (h : tb11 o k = z) : ∃ (a1 : A1) (a2 : A2) (a3 : A3) (a4 : A4) (a5 : A5) (a6 : A6) (a7 : A7) (a8 : A8) (a9 : A9) (a10 : A10) (a11 : A11), o = (a1, a2, a3, a4, a5, a6, a7, a8, a9, a10, a11) ∧ k a1 a2 a3 a4 a5 a6 a7 a8 a9 a10 a11 = z := ⟨o.1, o.2.1, o.2.2.1, o.2.2.2.1, o.2.2.2.2.1, o.2.2.2.2.2.1, o.2.2.2.2.2.2.1, o.2.2.2.2.2.2.2.1, o.2.2.2.2.2.2.2.2.1, o.2.2.2.2.2.2.2.2.2.1, o.2.2.2.2.2.2.2.2.2.2, rfl, h⟩
def ob12 {A1 A2 A3 A4 A5 A6 A7 A8 A9 A10 A11 A12 B : Type} (o : Option (A1 × A2 × A3 × A4 × A5 × A6 × A7 × A8 × A9 × A10 × A11 × A12)) (k : A1 → A2 → A3 → A4 → A5 → A6 → A7 → A8 → A9 → A10 → A11 → A12 → Option B) : Option B := match o with | none => none | some (a1, a2, a3, a4, a5, a6, a7, a8, a9, a10, a11, a12) => k a1 a2 a3 a4 a5 a6 a7 a8 a9 a10 a11 a12
theorem ob12_el {A1 A2 A3 A4 A5 A6 A7 A8 A9 A10 A11 A12 B : Type} {o : Option (A1 × A2 × A3 × A4 × A5 × A6 × A7 × A8 × A9 × A10 × A11 × A12)} {k : A1 → A2 → A3 → A4 → A5 → A6 → A7 → A8 → A9 → A10 → A11 → A12 → Option B} {z : B} (h : ob12 o k = some z) : ∃ (a1 : A1) (a2 : A2) (a3 : A3) (a4 : A4) (a5 : A5) (a6 : A6) (a7 : A7) (a8 : A8) (a9 : A9) (a10 : A10) (a11 : A11) (a12 : A12), o = some (a1, a2, a3, a4, a5, a6, a7, a8, a9, a10, a11, a12) ∧ k a1 a2 a3 a4 a5 a6 a7 a8 a9 a10 a11 a12 = some z := by
  cases o with
  | none => cases h
  | some u => exact ⟨u.1, u.2.1, u.2.2.1, u.2.2.2.1, u.2.2.2.2.1, u.2.2.2.2.2.1, u.2.2.2.2.2.2.1, u.2.2.2.2.2.2.2.1, u.2.2.2.2.2.2.2.2.1, u.2.2.2.2.2.2.2.2.2.1, u.2.2.2.2.2.2.2.2.2.2.1, u.2.2.2.2.2.2.2.2.2.2.2, rfl, h⟩
def tb12 {A1 A2 A3 A4 A5 A6 A7 A8 A9 A10 A11 A12 B : Type} (o : A1 × A2 × A3 × A4 × A5 × A6 × A7 × A8 × A9 × A10 × A11 × A12) (k : A1 → A2 → A3 → A4 → A5 → A6 → A7 → A8 → A9 → A10 → A11 → A12 → B) : B := k o.1 o.2.1 o.2.2.1 o.2.2.2.1 o.2.2.2.2.1 o.2.2.2.2.2.1 o.2.2.2.2.2.2.1 o.2.2.2.2.2.2.2.1 o.2.2.2.2.2.2.2.2.1 o.2.2.2.2.2.2.2.2.2.1 o.2.2.2.2.2.2.2.2.2.2.1 o.2.2.2.2.2.2.2.2.2.2.2
theorem tb12_el {A1 A2 A3 A4 A5 A6 A7 A8 A9 A10 A11 A12 B : Type} {o : A1 × A2 × A3 × A4 × A5 × A6 × A7 × A8 × A9 × A10 × A11 × A12} {k : A1 → A2 → A3 → A4 → A5 → A6 → A7 → A8 → A9 → A10 → A11 → A12 → B} {z : B} (h : tb12 o k = z) : ∃ (a1 : A1) (a2 : A2) (a3 : A3) (a4 : A4) (a5 : A5) (a6 : A6) (a7 : A7) (a8 : A8) (a9 : A9) (a10 : A10) (a11 : A11) (a12 : A12), o = (a1, a2, a3, a4, a5, a6, a7, a8, a9, a10, a11, a12) ∧ k a1 a2 a3 a4 a5 a6 a7 a8 a9 a10 a11 a12 = z := ⟨o.1, o.2.1, o.2.2.1, o.2.2.2.1, o.2.2.2.2.1, o.2.2.2.2.2.1, o.2.2.2.2.2.2.1, o.2.2.2.2.2.2.2.1, o.2.2.2.2.2.2.2.2.1, o.2.2.2.2.2.2.2.2.2.1, o.2.2.2.2.2.2.2.2.2.2.1, o.2.2.2.2.2.2.2.2.2.2.2, rfl, h⟩
def ob13 {A1 A2 A3 A4 A5 A6 A7 A8 A9 A10 A11 A12 A13 B : Type} (o : Option (A1 × A2 × A3 × A4 × A5 × A6 × A7 × A8 × A9 × A10 × A11 × A12 × A13)) (k : A1 → A2 → A3 → A4 → A5 → A6 → A7 → A8 → A9 → A10 → A11 → A12 → A13 → Option B) : Option B := match o with | none => none | some (a1, a2, a3, a4, a5, a6, a7, a8, a9, a10, a11, a12, a13) => k a1 a2 a3 a4 a5 a6 a7 a8 a9 a10 a11 a12 a13
theorem ob13_el {A1 A2 A3 A4 A5 A6 A7 A8 A9 A10 A11 A12 A13 B : Type} {o : Option (A1 × A2 × A3 × A4 × A5 × A6 × A7 × A8 × A9 × A10 × A11 × A12 × A13)} {k : A1 → A2 → A3 → A4 → A5 → A6 → A7 → A8 → A9 → A10 → A11 → A12 → A13 → Option B} {z : B} (h : ob13 o k = some z) : ∃ (a1 : A1) (a2 : A2) (a3 : A3) (a4 : A4) (a5 : A5) (a6 : A6) (a7 : A7) (a8 : A8) (a9 : A9) (a10 : A10) (a11 : A11) (a12 : A12) (a13 : A13), o = some (a1, a2, a3, a4, a5, a6, a7, a8, a9, a10, a11, a12, a13) ∧ k a1 a2 a3 a4 a5 a6 a7 a8 a9 a10 a11 a12 a13 = some z := by
  cases o with
  | none => cases h
  | some u => exact ⟨u.1, u.2.1, u.2.2.1, u.2.2.2.1, u.2.2.2.2.1, u.2.2.2.2.2.1, u.2.2.2.2.2.2.1, u.2.2.2.2.2.2.2.1, u.2.2.2.2.2.2.2.2.1, u.2.2.2.2.2.2.2.2.2.1, u.2.2.2.2.2.2.2.2.2.2.1, u.2.2.2.2.2.2.2.2.2.2.2.1, u.2.2.2.2.2.2.2.2.2.2.2.2, rfl, h⟩
def tb13 {A1 A2 A3 A4 A5 A6 A7 A8 A9 A10 A11 A12 A13 B : Type} (o : A1 × A2 × A3 × A4 × A5 × A6 × A7 × A8 × A9 × A10 × A11 × A12 × A13) (k : A1 → A2 → A3 → A4 → A5 → A6 → A7 → A8 → A9 → A10 → A11 → A12 → A13 → B) : B := k o.1 o.2.1 o.2.2.1 o.2.2.2.1 o.2.2.2.2.1 o.2.2.2.2.2.1 o.2.2.2.2.2.2.1 o.2.2.2.2.2.2.2.1 o.2.2.2.2.2.2.2.2.1 o.2.2.2.2.2.2.2.2.2.1 o.2.2.2.2.2.2.2.2.2.2.1 o.2.2.2.2.2.2.2.2.2.2.2.1 o.2.2.2.2.2.2.2.2.2.2.2.2
theorem tb13_el {A1 A2 A3 A4 A5 A6 A7 A8 A9 A10 A11 A12 A13 B : Type} {o : A1 × A2 × A3 × A4 × A5 × A6 × A7 × A8 × A9 × A10 × A11 × A12 × A13} {k : A1 → A2 → A3 → A4 → A5 → A6 → A7 → A8 → A9 → A10 → A11 → A12 → A13 → B} {z : B} (h : tb13 o k = z) : ∃ (a1 : A1) (a2 : A2) (a3 : A3) (a4 : A4) (a5 : A5) (a6 : A6) (a7 : A7) (a8 : A8) (a9 : A9) (a10 : A10) (a11 : A11) (a12 : A12) (a13 : A13), o = (a1, a2, a3, a4, a5, a6, a7, a8, a9, a10, a11, a12, a13) ∧ k a1 a2 a3 a4 a5 a6 a7 a8 a9 a10 a11 a12 a13 = z := ⟨o.1, o.2.1, o.2.2.1, o.2.2.2.1, o.2.2.2.2.1, o.2.2.2.2.2.1, o.2.2.2.2.2.2.1, o.2.2.2.2.2.2.2.1, o.2.2.2.2.2.2.2.2.1, o.2.2.2.2.2.2.2.2.2.1, o.2.2.2.2.2.2.2.2.2.2.1, o.2.2.2.2.2.2.2.2.2.2.2.1, o.2.2.2.2.2.2.2.2.2.2.2.2, rfl, h⟩
def ob14 {A1 A2 A3 A4 A5 A6 A7 A8 A9 A10 A11 A12 A13 A14 B : Type} (o : Option (A1 × A2 × A3 × A4 × A5 × A6 × A7 × A8 × A9 × A10 × A11 × A12 × A13 × A14)) (k : A1 → A2 → A3 → A4 → A5 → A6 → A7 → A8 → A9 → A10 → A11 → A12 → A13 → A14 → Option B) : Option B := match o with | none => none | some (a1, a2, a3, a4, a5, a6, a7, a8, a9, a10, a11, a12, a13, a14) => k a1 a2 a3 a4 a5 a6 a7 a8 a9 a10 a11 a12 a13 a14
theorem ob14_el {A1 A2 A3 A4 A5 A6 A7 A8 A9 A10 A11 A12 A13 A14 B : Type} {o : Option (A1 × A2 × A3 × A4 × A5 × A6 × A7 × A8 × A9 × A10 × A11 × A12 × A13 × A14)} {k : A1 → A2 → A3 → A4 → A5 → A6 → A7 → A8 → A9 → A10 → A11 → A12 → A13 → A14 → Option B} {z : B} (h : ob14 o k = some z) : ∃ (a1 : A1) (a2 : A2) (a3 : A3) (a4 : A4) (a5 : A5) (a6 : A6) (a7 : A7) (a8 : A8) (a9 : A9) (a10 : A10) (a11 : A11) (a12 : A12) (a13 : A13) (a14 : A14), o = some (a1, a2, a3, a4, a5, a6, a7, a8, a9, a10, a11, a12, a13, a14) ∧ k a1 a2 a3 a4 a5 a6 a7 a8 a9 a10 a11 a12 a13 a14 = some z := by
  cases o with
  | none => cases h
  | some u => exact ⟨u.1, u.2.1, u.2.2.1, u.2.2.2.1, u.2.2.2.2.1, u.2.2.2.2.2.1, u.2.2.2.2.2.2.1, u.2.2.2.2.2.2.2.1, u.2.2.2.2.2.2.2.2.1, u.2.2.2.2.2.2.2.2.2.1, u.2.2.2.2.2.2.2.2.2.2.1, u.2.2.2.2.2.2.2.2.2.2.2.1, u.2.2.2.2.2.2.2.2.2.2.2.2.1, u.2.2.2.2.2.2.2.2.2.2.2.2.2, rfl, h⟩
def tb14 {A1 A2 A3 A4 A5 A6 A7 A8 A9 A10 A11 A12 A13 A14 B : Type} (o : A1 × A2 × A3 × A4 × A5 × A6 × A7 × A8 × A9 × A10 × A11 × A12 × A13 × A14) (k : A1 → A2 → A3 → A4 → A5 → A6 → A7 → A8 → A9 → A10 → A11 → A12 → A13 → A14 → B) : B := k o.1 o.2.1 o.2.2.1 o.2.2.2.1 o.2.2.2.2.1 o.2.2.2.2.2.1 o.2.2.2.2.2.2.1 o.2.2.2.2.2.2.2.1 o.2.2.2.2.2.2.2.2.1 o.2.2.2.2.2.2.2.2.2.1 o.2.2.2.2.2.2.2.2.2.2.1 o.2.2.2.2.2.2.2.2.2.2.2.1 o.2.2.2.2.2.2.2.2.2.2.2.2.1 o.2.2.2.2.2.2.2.2.2.2.2.2.2
theorem tb14_el {A1 A2 A3 A4 A5 A6 A7 A8 A9 A10 A11 A12 A13 A14 B : Type} {o : A1 × A2 × A3 × A4 × A5 × A6 × A7 × A8 × A9 × A10 × A11 × A12 × A13 × A14} {k : A1 → A2 → A3 → A4 → A5 → A6 → A7 → A8 → A9 → A10 → A11 → A12 → A13 → A14 → B} {z : B} (h : tb14 o k = z) : ∃ (a1 : A1) (a2 : A2) (a3 : A3) (a4 : A4) (a5 : A5) (a6 : A6) (a7 : A7) (a8 : A8) (a9 : A9) (a10 : A10) (a11 : A11) (a12 : A12) (a13 : A13) (a14 : A14), o = (a1, a2, a3, a4, a5, a6, a7, a8, a9, a10, a11, a12, a13, a14) ∧ k a1 a2 a3 a4 a5 a6 a7 a8 a9 a10 a11 a12 a13 a14 = z := ⟨o.1, o.2.1, o.2.2.1, o.2.2.2.1, o.2.2.2.2.1, o.2.2.2.2.2.1, o.2.2.2.2.2.2.1, o.2.2.2.2.2.2.2.1, o.2.2.2.2.2.2.2.2.1, o.2.2.2.2.2.2.2.2.2.1, o.2.2.2.2.2.2.2.2.2.2.1, o.2.2.2.2.2.2.2.2.2.2.2.1, o.2.2.2.2.2.2.2.2.2.2.2.2.1, o.2.2.2.2.2.2.2.2.2.2.2.2.2, rfl, h⟩
def ob15 {A1 A2 A3 A4 A5 A6 A7 A8 A9 A10 A11 A12 A13 A14 A15 B : Type} (o : Option (A1 × A2 × A3 × A4 × A5 × A6 × A7 × A8 × A9 × A10 × A11 × A12 × A13 × A14 × A15)) (k : A1 → A2 → A3 → A4 → A5 → A6 → A7 → A8 → A9 → A10 → A11 → A12 → A13 → A14 → A15 → Option B) : Option B := match o with | none => none | some (a1, a2, a3, a4, a5, a6, a7, a8, a9, a10, a11, a12, a13, a14, a15) => k a1 a2 a3 a4 a5 a6 a7 a8 a9 a10 a11 a12 a13 a14 a15
theorem ob15_el {A1 A2 A3 A4 A5 A6 A7 A8 A9 A10 A11 A12 A13 A14 A15 B : Type} {o : Option (A1 × A2 × A3 × A4 × A5 × A6 × A7 × A8 × A9 × A10 × A11 × A12 × A13 × A14 × A15)} {k : A1 → A2 → A3 → A4 → A5 → A6 → A7 → A8 → A9 → A10 → A11 → A12 → A13 → A14 → A15 → Option B} {z : B} (h : ob15 o k = some z) : ∃ (a1 : A1) (a2 : A2) (a3 : A3) (a4 : A4) (a5 : A5) (a6 : A6) (a7 : A7) (a8 : A8) (a9 : A9) (a10 : A10) (a11 : A11) (a12 : A12) (a13 : A13) (a14 : A14) (a15 : A15), o = some (a1, a2, a3, a4, a5, a6, a7, a8, a9, a10, a11, a12, a13, a14, a15) ∧ k a1 a2 a3 a4 a5 a6 a7 a8 a9 a10 a11 a12 a13 a14 a15 = some z := by
  cases o with
  | none => cases h
  | some u => exact ⟨u.1, u.2.1, u.2.2.1, u.2.2.2.1, u.2.2.2.2.1, u.2.2.2.2.2.1, u.2.2.2.2.2.2.1, u.2.2.2.2.2.2.2.1, u.2.2.2.2.2.2.2.2.1, u.2.2.2.2.2.2.2.2.2.1, u.2.2.2.2.2.2.2.2.2.2.1, u.2.2.2.2.2.2.2.2.2.2.2.1, u.2.2.2.2.2.2.2.2.2.2.2.2.1, u.2.2.2.2.2.2.2.2.2.2.2.2.2.1, u.2.2.2.2.2.2.2.2.2.2.2.2.2.2, rfl, h⟩
def tb15 {A1 A2 A3 A4 A5 A6 A7 A8 A9 A10 A11 A12 A13 A14 A15 B : Type} (o : A1 × A2 × A3 × A4 × A5 × A6 × A7 × A8 × A9 × A10 × A11 × A12 × A13 × A14 × A15) (k : A1 → A2 → A3 → A4 → A5 → A6 → A7 → A8 → A9 → A10 → A11 → A12 → A13 → A14 → A15 → B) : B := k o.1 o.2.1 o.2.2.1 o.2.2.2.1 o.2.2.2.2.1 o.2.2.2.2.2.1 o.2.2.2.2.2.2.1 o.2.2.2.2.2.2.2.1 o.2.2.2.2.2.2.2.2.1 o.2.2.2.2.2.2.2.2.2.1 o.2.2.2.2.2.2.2.2.2.2.1 o.2.2.2.2.2.2.2.2.2.2.2.1 o.2.2.2.2.2.2.2.2.2.2.2.2.1 o.2.2.2.2.2.2.2.2.2.2.2.2.2.1 o.2.2.2.2.2.2.2.2.2.2.2.2.2.2
theorem tb15_el {A1 A2 A3 A4 A5 A6 A7 A8 A9 A10 A11 A12 A13 A14 A15 B : Type} {o : A1 × A2 × A3 × A4 × A5 × A6 × A7 × A8 × A9 × A10 × A11 × A12 × A13 × A14 × A15} {k : A1 → A2 → A3 → A4 → A5 → A6 → A7 → A8 → A9 → A10 → A11 → A12 → A13 → A14 → A15 → B} {z : B} (h : tb15 o k = z) : ∃ (a1 : A1) (a2 : A2) (a3 : A3) (a4 : A4) (a5 : A5) (a6 : A6) (a7 : A7) (a8 : A8) (a9 : A9) (a10 : A10) (a11 : A11) (a12 : A12) (a13 : A13) (a14 : A14) (a15 : A15), o = (a1, a2, a3, a4, a5, a6, a7, a8, a9, a10, a11, a12, a13, a14, a15) ∧ k a1 a2 a3 a4 a5 a6 a7 a8 a9 a10 a11 a12 a13 a14 a15 = z := ⟨o.1, o.2.1, o.2.2.1, o.2.2.2.1, o.2.2.2.2.1, o.2.2.2.2.2.1, o.2.2.2.2.2.2.1, o.2.2.2.2.2.2.2.1, o.2.2.2.2.2.2.2.2.1, o.2.2.2.2.2.2.2.2.2.1, o.2.2.2.2.2.2.2.2.2.2.1, o.2.2.2.2.2.2.2.2.2.2.2.1, o.2.2.2.2.2.2.2.2.2.2.2.2.1, o.2.2.2.2.2.2.2.2.2.2.2.2.2.1, o.2.2.2.2.2.2.2.2.2.2.2.2.2.2, rfl, h⟩
def ob16 {A1 A2 A3 A4 A5 A6 A7 A8 A9 A10 A11 A12 A13 A14 A15 A16 B : Type} (o : Option (A1 × A2 × A3 × A4 × A5 × A6 × A7 × A8 × A9 × A10 × A11 × A12 × A13 × A14 × A15 × A16)) (k : A1 → A2 → A3 → A4 → A5 → A6 → A7 → A8 → A9 → A10 → A11 → A12 → A13 → A14 → A15 → A16 → Option B) : Option B := match o with | none => none | some (a1, a2, a3, a4, a5, a6, a7, a8, a9, a10, a11, a12, a13, a14, a15, a16) => k a1 a2 a3 a4 a5 a6 a7 a8 a9 a10 a11 a12 a13 a14 a15 a16
theorem ob16_el {A1 A2 A3 A4 A5 A6 A7 A8 A9 A10 A11 A12 A13 A14 A15 A16 B : Type} {o : Option (A1 × A2 × A3 × A4 × A5 × A6 × A7 × A8 × A9 × A10 × A11 × A12 × A13 × A14 × A15 × A16)} {k : A1 → A2 → A3 → A4 → A5 → A6 → A7 → A8 → A9 → A10 → A11 → A12 → A13 → A14 → A15 → A16 → Option B} {z : B} (h : ob16 o k = some z) : ∃ (a1 : A1) (a2 : A2) (a3 : A3) (a4 : A4) (a5 : A5) (a6 : A6) (a7 : A7) (a8 : A8) (a9 : A9) (a10 : A10) (a11 : A11) (a12 : A12) (a13 : A13) (a14 : A14) (a15 : A15) (a16 : A16), o = some (a1, a2, a3, a4, a5, a6, a7, a8, a9, a10, a11, a12, a13, a14, a15, a16) ∧ k a1 a2 a3 a4 a5 a6 a7 a8 a9 a10 a11 a12 a13 a14 a15 a16 = some z := by
  cases o with
  | none => cases h
  | some u => exact ⟨u.1, u.2.1, u.2.2.1, u.2.2.2.1, u.2.2.2.2.1, u.2.2.2.2.2.1, u.2.2.2.2.2.2.1, u.2.2.2.2.2.2.2.1, u.2.2.2.2.2.2.2.2.1, u.2.2.2.2.2.2.2.2.2.1, u.2.2.2.2.2.2.2.2.2.2.1, u.2.2.2.2.2.2.2.2.2.2.2.1, u.2.2.2.2.2.2.2.2.2.2.2.2.1, u.2.2.2.2.2.2.2.2.2.2.2.2.2.1, u.2.2.2.2.2.2.2.2.2.2.2.2.2.2.1, u.2.2.2.2.2.2.2.2.2.2.2.2.2.2.2, rfl, h⟩
def tb16 {A1 A2 A3 A4 A5 A6 A7 A8 A9 A10 A11 A12 A13 A14 A15 A16 B : Type} (o : A1 × A2 × A3 × A4 × A5 × A6 × A7 × A8 × A9 × A10 × A11 × A12 × A13 × A14 × A15 × A16) (k : A1 → A2 → A3 → A4 → A5 → A6 → A7 → A8 → A9 → A10 → A11 → A12 → A13 → A14 → A15 → A16 → B) : B := k o.1 o.2.1 o.2.2.1 o.2.2.2.1 o.2.2.2.2.1 o.2.2.2.2.2.1 o.2.2.2.2.2.2.1 o.2.2.2.2.2.2.2.1 o.2.2.2.2.2.2.2.2.1 o.2.2.2.2.2.2.2.2.2.1 o.2.2.2.2.2.2.2.2.2.2.1 o.2.2.2.2.2.2.2.2.2.2.2.1 o.2.2.2.2.2.2.2.2.2.2.2.2.1 o.2.2.2.2.2.2.2.2.2.2.2.2.2.1 o.2.2.2.2.2.2.2.2.2.2.2.2.2.2.1 o.2.2.2.2.2.2.2.2.2.2.2.2.2.2.2
theorem tb16_el {A1 A2 A3 A4 A5 A6 A7 A8 A9 A10 A11 A12 A13 A14 A15 A16 B : Type} {o : A1 × A2 × A3 × A4 × A5 × A6 × A7 × A8 × A9 × A10 × A11 × A12 × A13 × A14 × A15 × A16} {k : A1 → A2 → A3 → A4 → A5 → A6 → A7 → A8 → A9 → A10 → A11 → A12 → A13 → A14 → A15 → A16 → B} {z : B} (h : tb16 o k = z) : ∃ (a1 : A1) (a2 : A2) (a3 : A3) (a4 : A4) (a5 : A5) (a6 : A6) (a7 : A7) (a8 : A8) (a9 : A9) (a10 : A10) (a11 : A11) (a12 : A12) (a13 : A13) (a14 : A14) (a15 : A15) (a16 : A16), o = (a1, a2, a3, a4, a5, a6, a7, a8, a9, a10, a11, a12, a13, a14, a15, a16) ∧ k a1 a2 a3 a4 a5 a6 a7 a8 a9 a10 a11 a12 a13 a14 a15 a16 = z := ⟨o.1, o.2.1, o.2.2.1, o.2.2.2.1, o.2.2.2.2.1, o.2.2.2.2.2.1, o.2.2.2.2.2.2.1, o.2.2.2.2.2.2.2.1, o.2.2.2.2.2.2.2.2.1, o.2.2.2.2.2.2.2.2.2.1, o.2.2.2.2.2.2.2.2.2.2.1, o.2.2.2.2.2.2.2.2.2.2.2.1, o.2.2.2.2.2.2.2.2.2.2.2.2.1, o.2.2.2.2.2.2.2.2.2.2.2.2.2.1, o.2.2.2.2.2.2.2.2.2.2.2.2.2.2.1, o.2.2.2.2.2.2.2.2.2.2.2.2.2.2.2, rfl, h⟩
def ob17 {A1 A2 A3 A4 A5 A6 A7 A8 A9 A10 A11 A12 A13 A14 A15 A16 A17 B : Type} (o : Option (A1 × A2 × A3 × A4 × A5 × A6 × A7 × A8 × A9 × A10 × A11 × A12 × A13 × A14 × A15 × A16 × A17)) (k : A1 → A2 → A3 → A4 → A5 → A6 → A7 → A8 → A9 → A10 → A11 → A12 → A13 → A14 → A15 → A16 → A17 → Option B) : Option B := match o with | none => none | some (a1, a2, a3, a4, a5, a6, a7, a8, a9, a10, a11, a12, a13, a14, a15, a16, a17) => k a1 a2 a3 a4 a5 a6 a7 a8 a9 a10 a11 a12 a13 a14 a15 a16 a17
theorem ob17_el {A1 A2 A3 A4 A5 A6 A7 A8 A9 A10 A11 A12 A13 A14 A15 A16 A17 B : Type} {o : Option (A1 × A2 × A3 × A4 × A5 × A6 × A7 × A8 × A9 × A10 × A11 × A12 × A13 × A14 × A15 × A16 × A17)} {k : A1 → A2 → A3 → A4 → A5 → A6 → A7 → A8 → A9 → A10 → A11 → A12 → A13 → A14 → A15 → A16 → A17 → Option B} {z : B} (h : ob17 o k = some z) : ∃ (a1 : A1) (a2 : A2) (a3 : A3) (a4 : A4) (a5 : A5) (a6 : A6) (a7 : A7) (a8 : A8) (a9 : A9) (a10 : A10) (a11 : A11) (a12 : A12) (a13 : A13) (a14 : A14) (a15 : A15) (a16 : A16) (a17 : A17), o = some (a1, a2, a3, a4, a5, a6, a7, a8, a9, a10, a11, a12, a13, a14, a15, a16, a17) ∧ k a1 a2 a3 a4 a5 a6 a7 a8 a9 a10 a11 a12 a13 a14 a15 a16 a17 = some z := by
  cases o with
  | none => cases h
  | some u => exact ⟨u.1, u.2.1, u.2.2.1, u.2.2.2.1, u.2.2.2.2.1, u.2.2.2.2.2.1, u.2.2.2.2.2.2.1, u.2.2.2.2.2.2.2.1, u.2.2.2.2.2.2.2.2.1, u.2.2.2.2.2.2.2.2.2.1, u.2.2.2.2.2.2.2.2.2.2.1, u.2.2.2.2.2.2.2.2.2.2.2.1, u.2.2.2.2.2.2.2.2.2.2.2.2.1, u.2.2.2.2.2.2.2.2.2.2.2.2.2.1, u.2.2.2.2.2.2.2.2.2.2.2.2.2.2.1, u.2.2.2.2.2.2.2.2.2.2.2.2.2.2.2.1, u.2.2.2.2.2.2.2.2.2.2.2.2.2.2.2.2, rfl, h⟩
def tb17 {A1 A2 A3 A4 A5 A6 A7 A8 A9 A10 A11 A12 A13 A14 A15 A16 A17 B : Type} (o : A1 × A2 × A3 × A4 × A5 × A6 × A7 × A8 × A9 × A10 × A11 × A12 × A13 × A14 × A15 × A16 × A17) (k : A1 → A2 → A3 → A4 → A5 → A6 → A7 → A8 → A9 → A10 → A11 → A12 → A13 → A14 → A15 → A16 → A17 → B) : B := k o.1 o.2.1 o.2.2.1 o.2.2.2.1 o.2.2.2.2.1 o.2.2.2.2.2.1 o.2.2.2.2.2.2.1 o.2.2.2.2.2.2.2.1 o.2.2.2.2.2.2.2.2.1 o.2.2.2.2.2.2.2.2.2.1 o.2.2.2.2.2.2.2.2.2.2.1 o.2.2.2.2.2.2.2.2.2.2.2.1 o.2.2.2.2.2.2.2.2.2.2.2.2.1 o.2.2.2.2.2.2.2.2.2.2.2.2.2.1 o.2.2.2.2.2.2.2.2.2.2.2.2.2.2.1 o.2.2.2.2.2.2.2.2.2.2.2.2.2.2.2.1 o.2.2.2.2.2.2.2.2.2.2.2.2.2.2.2.2
theorem tb17_el {A1 A2 A3 A4 A5 A6 A7 A8 A9 A10 A11 A12 A13 A14 A15 A16 A17 B : Type} {o : A1 × A2 × A3 × A4 × A5 × A6 × A7 × A8 × A9 × A10 × A11 × A12 × A13 × A14 × A15 × A16 × A17} {k : A1 → A2 → A3 → A4 → A5 → A6 → A7 → A8 → A9 → A10 → A11 → A12 → A13 → A14 → A15 → A16 → A17 → B} {z : B} (h : tb17 o k = z) : ∃ (a1 : A1) (a2 : A2) (a3 : A3) (a4 : A4) (a5 : A5) (a6 : A6) (a7 : A7) (a8 : A8) (a9 : A9) (a10 : A10) (a11 : A11) (a12 : A12) (a13 : A13) (a14 : A14) (a15 : A15) (a16 : A16) (a17 : A17), o = (a1, a2, a3, a4, a5, a6, a7, a8, a9, a10, a11, a12, a13, a14, a15, a16, a17) ∧ k a1 a2 a3 a4 a5 a6 a7 a8 a9 a10 a11 a12 a13 a14 a15 a16 a17 = z := ⟨o.1, o.2.1, o.2.2.1, o.2.2.2.1, o.2.2.2.2.1, o.2.2.2.2.2.1, o.2.2.2.2.2.2.1, o.2.2.2.2.2.2.2.1, o.2.2.2.2.2.2.2.2.1, o.2.2.2.2.2.2.2.2.2.1, o.2.2.2.2.2.2.2.2.2.2.1, o.2.2.2.2.2.2.2.2.2.2.2.1, o.2.2.2.2.2.2.2.2.2.2.2.2.1, o.2.2.2.2.2.2.2.2.2.2.2.2.2.1, o.2.2.2.2.2.2.2.2.2.2.2.2.2.2.1, o.2.2.2.2.2.2.2.2.2.2.2.2.2.2.2.1, o.2.2.2.2.2.2.2.2.2.2.2.2.2.2.2.2, rfl, h⟩
def ob18 {A1 A2 A3 A4 A5 A6 A7 A8 A9 A10 A11 A12 A13 A14 A15 A16 A17 A18 B : Type} (o : Option (A1 × A2 × A3 × A4 × A5 × A6 × A7 × A8 × A9 × A10 × A11 × A12 × A13 × A14 × A15 × A16 × A17 × A18)) (k : A1 → A2 → A3 → A4 → A5 → A6 → A7 → A8 → A9 → A10 → A11 → A12 → A13 → A14 → A15 → A16 → A17 → A18 → Option B) : Option B := match o with | none => none | some (a1, a2, a3, a4, a5, a6, a7, a8, a9, a10, a11, a12, a13, a14, a15, a16, a17, a18) => k a1 a2 a3 a4 a5 a6 a7 a8 a9 a10 a11 a12 a13 a14 a15 a16 a17 a18
theorem ob18_el {A1 A2 A3 A4 A5 A6 A7 A8 A9 A10 A11 A12 A13 A14 A15 A16 A17 A18 B : Type} {o : Option (A1 × A2 × A3 × A4 × A5 × A6 × A7 × A8 × A9 × A10 × A11 × A12 × A13 × A14 × A15 × A16 × A17 × A18)} {k : A1 → A2 → A3 → A4 → A5 → A6 → A7 → A8 → A9 → A10 → A11 → A12 → A13 → A14 → A15 → A16 → A17 → A18 → Option B} {z : B} (h : ob18 o k = some z) : ∃ (a1 : A1) (a2 : A2) (a3 : A3) (a4 : A4) (a5 : A5) (a6 : A6) (a7 : A7) (a8 : A8) (a9 : A9) (a10 : A10) (a11 : A11) (a12 : A12) (a13 : A13) (a14 : A14) (a15 : A15) (a16 : A16) (a17 : A17) (a18 : A18), o = some (a1, a2, a3, a4, a5, a6, a7, a8, a9, a10, a11, a12, a13, a14, a15, a16, a17, a18) ∧ k a1 a2 a3 a4 a5 a6 a7 a8 a9 a10 a11 a12 a13 a14 a15 a16 a17 a18 = some z := by
  cases o with
  | none => cases h
  | some u => exact ⟨u.1, u.2.1, u.2.2.1, u.2.2.2.1, u.2.2.2.2.1, u.2.2.2.2.2.1, u.2.2.2.2.2.2.1, u.2.2.2.2.2.2.2.1, u.2.2.2.2.2.2.2.2.1, u.2.2.2.2.2.2.2.2.2.1, u.2.2.2.2.2.2.2.2.2.2.1, u.2.2.2.2.2.2.2.2.2.2.2.1, u.2.2.2.2.2.2.2.2.2.2.2.2.1, u.2.2.2.2.2.2.2.2.2.2.2.2.2.1, u.2.2.2.2.2.2.2.2.2.2.2.2.2.2.1, u.2.2.2.2.2.2.2.2.2.2.2.2.2.2.2.1, u.2.2.2.2.2.2.2.2.2.2.2.2.2.2.2.2.1, u.2.2.2.2.2.2.2.2.2.2.2.2.2.2.2.2.2, rfl, h⟩
def tb18 {A1 A2 A3 A4 A5 A6 A7 A8 A9 A10 A11 A12 A13 A14 A15 A16 A17 A18 B : Type} (o : A1 × A2 × A3 × A4 × A5 × A6 × A7 × A8 × A9 × A10 × A11 × A12 × A13 × A14 × A15 × A16 × A17 × A18) (k : A1 → A2 → A3 → A4 → A5 → A6 → A7 → A8 → A9 → A10 → A11 → A12 → A13 → A14 → A15 → A16 → A17 → A18 → B) : B := k o.1 o.2.1 o.2.2.1 o.2.2.2.1 o.2.2.2.2.1 o.2.2.2.2.2.1 o.2.2.2.2.2.2.1 o.2.2.2.2.2.2.2.1 o.2.2.2.2.2.2.2.2.1 o.2.2.2.2.2.2.2.2.2.1 o.2.2.2.2.2.2.2.2.2.2.1 o.2.2.2.2.2.2.2.2.2.2.2.1 o.2.2.2.2.2.2.2.2.2.2.2.2.1 o.2.2.2.2.2.2.2.2.2.2.2.2.2.1 o.2.2.2.2.2.2.2.2.2.2.2.2.2.2.1 o.2.2.2.2.2.2.2.2.2.2.2.2.2.2.2.1 o.2.2.2.2.2.2.2.2.2.2.2.2.2.2.2.2.1 o.2.2.2.2.2.2.2.2.2.2.2.2.2.2.2.2.2
theorem tb18_el {A1 A2 A3 A4 A5 A6 A7 A8 A9 A10 A11 A12 A13 A14 A15 A16 A17 A18 B : Type} {o : A1 × A2 × A3 × A4 × A5 × A6 × A7 × A8 × A9 × A10 × A11 × A12 × A13 × A14 × A15 × A16 × A17 × A18} {k : A1 → A2 → A3 → A4 → A5 → A6 → A7 → A8 → A9 → A10 → A11 → A12 → A13 → A14 → A15 → A16 → A17 → A18 → B} {z : B} (h : tb18 o k = z) : ∃ (a1 : A1) (a2 : A2) (a3 : A3) (a4 : A4) (a5 : A5) (a6 : A6) (a7 : A7) (a8 : A8) (a9 : A9) (a10 : A10) (a11 : A11) (a12 : A12) (a13 : A13) (a14 : A14) (a15 : A15) (a16 : A16) (a17 : A17) (a18 : A18), o = (a1, a2, a3, a4, a5, a6, a7, a8, a9, a10, a11, a12, a13, a14, a15, a16, a17, a18) ∧ k a1 a2 a3 a4 a5 a6 a7 a8 a9 a10 a11 a12 a13 a14 a15 a16 a17 a18 = z := ⟨o.1, o.2.1, o.2.2.1, o.2.2.2.1, o.2.2.2.2.1, o.2.2.2.2.2.1, o.2.2.2.2.2.2.1, o.2.2.2.2.2.2.2.1, o.2.2.2.2.2.2.2.2.1, o.2.2.2.2.2.2.2.2.2.1, o.2.2.2.2.2.2.2.2.2.2.1, o.2.2.2.2.2.2.2.2.2.2.2.1, o.2.2.2.2.2.2.2.2.2.2.2.2.1, o.2.2.2.2.2.2.2.2.2.2.2.2.2.1, o.2.2.2.2.2.2.2.2.2.2.2.2.2.2.1, o.2.2.2.2.2.2.2.2.2.2.2.2.2.2.2.1, o.2.2.2.2.2.2.2.2.2.2.2.2.2.2.2.2.1, o.2.2.2.2.2.2.2.2.2.2.2.2.2.2.2.2.2, rfl, h⟩
theorem k_none {β : Type} {o : β} {P : Prop} (h : (none : Option β) = some o) : P := nomatch h
theorem k_iB {c : Prop} {d : Decidable c} {α : Type} {a b z : α} (h : (@ite α c d a b) = z) : (c → a = z) ∧ (¬ c → b = z) := ⟨fun q => (if_pos q).symm.trans h, fun q => (if_neg q).symm.trans h⟩
abbrev kT (cI cC cE : ClassId) : List (ClassId × FieldType) := [(cI, .int), (cC, .char), (cE, .object "RiddleTrade$Exchange")]
def kP (D : va_G) (tys : List (ClassId × FieldType)) (av : List Value) (wc : va_W) (sz : Nat) : Array Value → State → Prop := va_Pc av (fun U => U.heap.size = sz ∧ va_P D vwCl wc U.heap ∧ va_K D vwCl tys U ∧ va_D (fun _ => True) wc)
def kQi (D : va_G) (tys : List (ClassId × FieldType)) (wc wc' : va_W) (sz : Nat) (r0 : Int32) : Array Value → State → Outcome → State → Prop := va_Qi (S := Unit) (fun r _ => r = r0) (fun _ t => va_P D vwCl wc' t.heap ∧ va_K D vwCl tys t ∧ va_D (va_A wc sz) wc') (va_A wc sz)
def kQv (D : va_G) (tys : List (ClassId × FieldType)) (wc wc' : va_W) (sz : Nat) : Array Value → State → Outcome → State → Prop := va_Qv (S := Unit) (fun _ => True) (fun _ t => va_P D vwCl wc' t.heap ∧ va_K D vwCl tys t ∧ va_D (va_A wc sz) wc') (va_A wc sz)
theorem kP_blind {D : va_G} {tys : List (ClassId × FieldType)} {av : List Value} {wc : va_W} {sz : Nat} : FrameBlind (kP D tys av wc sz) := by
  intro a U g mk q
  obtain ⟨q0, q1, qP, qK, qD⟩ := q
  exact ⟨q0, q1, qP, va_K.moved (u := U) (U := U.calling g mk a) (Vm.Alike.refl U.vm) qK, qD⟩
theorem k_at {ws wc : va_W} {isC : List Nat} (hC : isC.map (fun i => ws[i]?) = wc.map some) (k : Nat) (q : Nat × va_E) (hq : wc[k]? = some q) : ∃ i : Nat, ws[i]? = some q := by
  have h1 : (isC.map (fun i => ws[i]?))[k]? = some (some q) := by rw [hC, List.getElem?_map, hq]; rfl
  rw [List.getElem?_map] at h1
  cases hi : isC[k]? with
  | none => rw [hi] at h1; cases h1
  | some i => rw [hi] at h1; exact ⟨i, Option.some.inj h1⟩
theorem k_sub {D : va_G} {cl : List vw_C} {ws wc : va_W} {H : Heap} {isC : List Nat} (hP : va_P D cl ws H) (hC : isC.map (fun i => ws[i]?) = wc.map some) : va_P D cl wc H := fun k q hq => by
  obtain ⟨i, hi⟩ := k_at hC k q hq
  exact hP i q hi
section KMET
variable {l : Launch} {y : MethodName} {ws0 ws0' : List Cond} {rm : Room} {D : va_G} {tys : List (ClassId × FieldType)} {av : List Value} {wc wc' : va_W} {sz : Nat} {r0 : Int32} {cc : ByteArray} {maxL : Nat} {own : String}
theorem kMetI (hy : plainName y.cls = true) (hw : ws0 = Cond.code y cc maxL (some .int) :: ws0') (hlen : (lg_sl av).length ≤ maxL) (hcl : y.cls = own)
    (body : ∀ (p : Program) (e : Env) (s : State) (m : MethodId) (below : List Frame) (meth : Method) (c : Code) (A : Nat → Prop) (Q : State → Prop), p.tables.exec = Jvm.exec → c.code = cc → c.maxLocals = maxL → s.vm.findClass own = some m.cls → (∀ w ∈ ws0, w.before av.toArray s = true) → va_P D vwCl wc s.heap → va_K D vwCl tys s → va_D A wc → (∀ q, s.heap.size ≤ q → A q) → va_S A s.heap s.heap [] → meth.name = y.name →
      (∀ (pc : Nat) (ls : Array Slot) (H : Heap) (locs : List Loc), decode cc pc = .ok (.ireturn, 1) → va_P D vwCl wc' H → va_D A wc' → va_S A s.heap H locs → W p l e rm s m av.toArray below meth c H locs 0 0 Q (F0 m pc ls [.int r0])) →
      ∀ (ls : Array Slot), lv_has ls maxL (lv_args 0 av) → W p l e rm s m av.toArray below meth c s.heap [] 0 0 Q (F0 m 0 ls [])) : Met l y ws0 rm (kP D tys av wc sz) (kQi D tys wc wc' sz r0) 0 0 (va_A wc sz) := by
  refine Met.ofW (cc := cc) (maxL := maxL) (ret := (some .int)) hy hw ?_
  intro p e s m args below meth c s₁ B hml hv
  obtain ⟨rfl, hsz, hP, hK, hD0⟩ := hv
  have hr := B.returns
  have hlocks := B.notSynchronized
  have hown : s.vm.findClass own = some m.cls := hcl ▸ findClass_of_methodNamed B.named
  subst hsz
  rw [lg_entry_eq]
  refine body p e s m below meth c (va_A wc s.heap.size) _ B.exec B.bytes hml hown (atoms_spec (ws := ws0) B.pre) hP hK hD0.self (fun q h => Or.inr h) va_S.rf (name_of_methodNamed B.named B.method).1 ?_ _ (lv_entry av hlen)
  intro pc ls H locs hdg hP1 hD1 hS1
  exact W.iret B.exec B.bytes hr (fun t ht hW => ⟨⟨r0, (), rfl, rfl, by rw [ht]; exact hP1, va_K.moved hW.alike hK, hD1⟩, hS1.F ht⟩) hS1.2.2 hdg hlocks
theorem kMetZ (hy : plainName y.cls = true) (hw : ws0 = Cond.code y cc maxL (some .boolean) :: ws0') (hlen : (lg_sl av).length ≤ maxL) (hcl : y.cls = own)
    (body : ∀ (p : Program) (e : Env) (s : State) (m : MethodId) (below : List Frame) (meth : Method) (c : Code) (A : Nat → Prop) (Q : State → Prop), p.tables.exec = Jvm.exec → c.code = cc → c.maxLocals = maxL → s.vm.findClass own = some m.cls → (∀ w ∈ ws0, w.before av.toArray s = true) → va_P D vwCl wc s.heap → va_K D vwCl tys s → va_D A wc → (∀ q, s.heap.size ≤ q → A q) → va_S A s.heap s.heap [] → meth.name = y.name →
      (∀ (pc : Nat) (ls : Array Slot) (H : Heap) (locs : List Loc), (narrow .boolean (.int r0) = .int r0) → decode cc pc = .ok (.ireturn, 1) → va_P D vwCl wc' H → va_D A wc' → va_S A s.heap H locs → W p l e rm s m av.toArray below meth c H locs 0 0 Q (F0 m pc ls [.int r0])) →
      ∀ (ls : Array Slot), lv_has ls maxL (lv_args 0 av) → W p l e rm s m av.toArray below meth c s.heap [] 0 0 Q (F0 m 0 ls [])) : Met l y ws0 rm (kP D tys av wc sz) (kQi D tys wc wc' sz r0) 0 0 (va_A wc sz) := by
  refine Met.ofW (cc := cc) (maxL := maxL) (ret := (some .boolean)) hy hw ?_
  intro p e s m args below meth c s₁ B hml hv
  obtain ⟨rfl, hsz, hP, hK, hD0⟩ := hv
  have hr := B.returns
  have hlocks := B.notSynchronized
  have hown : s.vm.findClass own = some m.cls := hcl ▸ findClass_of_methodNamed B.named
  subst hsz
  rw [lg_entry_eq]
  refine body p e s m below meth c (va_A wc s.heap.size) _ B.exec B.bytes hml hown (atoms_spec (ws := ws0) B.pre) hP hK hD0.self (fun q h => Or.inr h) va_S.rf (name_of_methodNamed B.named B.method).1 ?_ _ (lv_entry av hlen)
  intro pc ls H locs hn hdg hP1 hD1 hS1
  exact W.zret B.exec B.bytes hr hn (fun t ht hW => ⟨⟨r0, (), rfl, rfl, by rw [ht]; exact hP1, va_K.moved hW.alike hK, hD1⟩, hS1.F ht⟩) hS1.2.2 hdg hlocks
theorem kMetV (hy : plainName y.cls = true) (hw : ws0 = Cond.code y cc maxL none :: ws0') (hlen : (lg_sl av).length ≤ maxL) (hcl : y.cls = own)
    (body : ∀ (p : Program) (e : Env) (s : State) (m : MethodId) (below : List Frame) (meth : Method) (c : Code) (A : Nat → Prop) (Q : State → Prop), p.tables.exec = Jvm.exec → c.code = cc → c.maxLocals = maxL → s.vm.findClass own = some m.cls → (∀ w ∈ ws0, w.before av.toArray s = true) → va_P D vwCl wc s.heap → va_K D vwCl tys s → va_D A wc → (∀ q, s.heap.size ≤ q → A q) → va_S A s.heap s.heap [] → meth.name = y.name →
      (∀ (pc : Nat) (ls : Array Slot) (H : Heap) (locs : List Loc), decode cc pc = .ok (.return_, 1) → va_P D vwCl wc' H → va_D A wc' → va_S A s.heap H locs → W p l e rm s m av.toArray below meth c H locs 0 0 Q (F0 m pc ls [])) →
      ∀ (ls : Array Slot), lv_has ls maxL (lv_args 0 av) → W p l e rm s m av.toArray below meth c s.heap [] 0 0 Q (F0 m 0 ls [])) : Met l y ws0 rm (kP D tys av wc sz) (kQv D tys wc wc' sz) 0 0 (va_A wc sz) := by
  refine Met.ofW (cc := cc) (maxL := maxL) (ret := none) hy hw ?_
  intro p e s m args below meth c s₁ B hml hv
  obtain ⟨rfl, hsz, hP, hK, hD0⟩ := hv
  have hr := B.returns
  have hlocks := B.notSynchronized
  have hown : s.vm.findClass own = some m.cls := hcl ▸ findClass_of_methodNamed B.named
  subst hsz
  rw [lg_entry_eq]
  refine body p e s m below meth c (va_A wc s.heap.size) _ B.exec B.bytes hml hown (atoms_spec (ws := ws0) B.pre) hP hK hD0.self (fun q h => Or.inr h) va_S.rf (name_of_methodNamed B.named B.method).1 ?_ _ (lv_entry av hlen)
  intro pc ls H locs hdg hP1 hD1 hS1
  exact W.vret B.exec B.bytes hr (fun t ht hW => ⟨⟨(), rfl, trivial, by rw [ht]; exact hP1, va_K.moved hW.alike hK, hD1⟩, hS1.F ht⟩) hS1.2.2 hdg hlocks
end KMET
theorem k_ix {ws : va_W} {wc : va_W} {isC : List Nat} (hC : isC.map (fun i => ws[i]?) = wc.map some) {i : Nat} (hi : i ∈ isC) : ∃ k : Nat, isC[k]? = some i ∧ ws[i]? = wc[k]? := by
  obtain ⟨k, hk⟩ := List.getElem?_of_mem hi
  refine ⟨k, hk, ?_⟩
  have h1 : (isC.map (fun i => ws[i]?))[k]? = some (ws[i]?) := by rw [List.getElem?_map, hk]; rfl
  rw [hC, List.getElem?_map] at h1
  cases hw : wc[k]? with
  | none => rw [hw] at h1; cases h1
  | some x => rw [hw] at h1; exact (Option.some.inj h1).symm
theorem k_back {A0 : Nat → Prop} {D : va_G} {cl : List vw_C} {ws wc wc' ws1 : va_W} {H H1 : Heap} {isC isR : List Nat} (hP : va_P D cl ws H) (hD : va_D A0 ws) (hC : isC.map (fun i => ws[i]?) = wc.map some) (hC' : isC.map (fun i => ws1[i]?) = wc'.map some) (hR : isR.map (fun i => ws[i]?) = isR.map (fun i => ws1[i]?)) (hdis : (isR.all fun i => !isC.contains i) = true) (hcov : ((List.range ws1.length).all fun k => isC.contains k || isR.contains k) = true)
    (hk : ∀ q : Nat, q < H.size → ¬ va_A wc H.size q → H1[q]? = H[q]?) (hF : ∀ q, va_A wc H.size q → A0 q) (hP1 : va_P D cl wc' H1) (hD1 : va_D (va_A wc H.size) wc') : va_P D cl ws1 H1 ∧ va_D A0 ws1 := by
  have hR' : ∀ i ∈ isR, ws1[i]? = ws[i]? := by
    intro i hi
    obtain ⟨k, hk⟩ := List.getElem?_of_mem hi
    have h1 : (isR.map (fun i => ws[i]?))[k]? = some (ws[i]?) := by rw [List.getElem?_map, hk]; rfl
    rw [hR, List.getElem?_map, hk] at h1
    exact Option.some.inj h1
  have nin : ∀ i ∈ isR, i ∉ isC := by
    intro i hi hc
    have := List.all_eq_true.mp hdis i hi
    simp [hc] at this
  have cov : ∀ (k : Nat) (q : Nat × va_E), ws1[k]? = some q → k ∈ isC ∨ k ∈ isR := by
    intro k q hq
    have hlt : k < ws1.length := (List.getElem?_eq_some_iff.mp hq).1
    have := List.all_eq_true.mp hcov k (List.mem_range.mpr hlt)
    simpa using this
  have apart : ∀ (i : Nat) (q : Nat × va_E), i ∈ isR → ws1[i]? = some q → q.1 < H.size ∧ ¬ va_A wc H.size q.1 := by
    intro i q hi hq
    have h2 : ws[i]? = some q := by rw [← hR' i hi]; exact hq
    have hl := (hP i q h2).lt
    refine ⟨hl, fun h => ?_⟩
    rcases h with ⟨k2, e, h⟩ | h
    · have h1 : (isC.map (fun i => ws[i]?))[k2]? = some (some (q.1, e)) := by rw [hC, List.getElem?_map, h]; rfl
      rw [List.getElem?_map] at h1
      cases hi2 : isC[k2]? with
      | none => rw [hi2] at h1; cases h1
      | some j =>
        rw [hi2] at h1
        have hj : ws[j]? = some (q.1, e) := Option.some.inj h1
        have hij := hD.1 i j q (q.1, e) h2 hj rfl
        subst hij
        exact nin i hi (List.mem_of_getElem? hi2)
    · omega
  have inC : ∀ (i : Nat) (q : Nat × va_E), i ∈ isC → ws1[i]? = some q → ∃ k : Nat, isC[k]? = some i ∧ wc'[k]? = some q := by
    intro i q hi hq
    obtain ⟨k, h1, h2⟩ := k_ix hC' hi
    exact ⟨k, h1, by rw [← h2]; exact hq⟩
  refine ⟨fun k q hq => ?_, fun i j x z hx hz hxz => ?_, fun k q hq => ?_⟩
  · rcases cov k q hq with h | h
    · obtain ⟨j, -, h2⟩ := inC k q h hq
      exact hP1 j q h2
    · obtain ⟨g1, g2⟩ := apart k q h hq
      exact (hP k q (by rw [← hR' k h]; exact hq)).kept (hk q.1 g1 g2)
  · rcases cov i x hx with h | h
    · obtain ⟨k1, h1, h2⟩ := inC i x h hx
      rcases cov j z hz with g | g
      · obtain ⟨k2, g1, g2⟩ := inC j z g hz
        have := hD1.1 k1 k2 x z h2 g2 hxz
        subst this
        rw [h1] at g1
        exact Option.some.inj g1
      · exact absurd (by rw [← hxz]; exact hD1.2 k1 x h2) (apart j z g hz).2
    · rcases cov j z hz with g | g
      · obtain ⟨k2, g1, g2⟩ := inC j z g hz
        exact absurd (by rw [hxz]; exact hD1.2 k2 z g2) (apart i x h hx).2
      · exact hD.1 i j x z (by rw [← hR' i h]; exact hx) (by rw [← hR' j g]; exact hz) hxz
  · rcases cov k q hq with h | h
    · obtain ⟨j, -, h2⟩ := inC k q h hq
      exact hF _ (hD1.2 j q h2)
    · exact hD.2 k q (by rw [← hR' k h]; exact hq)
section KCALL
variable {p : Program} {l : Launch} {e : Env} {R : Room} {s : State} {m : MethodId} {args : Array Value} {below : List Frame} {meth : Method} {c : Code} {H : Heap} {locs : List Loc} {cells slots : Nat} {Q : State → Prop}
variable {cc bytes : ByteArray} {pc nL maxL n index : Nat} {ls : Array Slot} {st0 rest As : List Value} {D : va_G} {tys : List (ClassId × FieldType)} {A0 : Nat → Prop} {H0 : Heap} {Ts wsy : List Cond} {own C : String} {y : MethodName} {ret : Option FieldType} {rm : Room} {ws wc wc' ws1 : va_W} {b ci : Nat} {r0 : Int32} {fs : List Value} {q : vw_C}
theorem kcVi (S : CallFix p m c cc nL s args Ts own) (isC isR : List Nat) (hM : Met l y wsy rm (kP D tys (.ref b :: As) wc H.size) (kQi D tys wc wc' H.size r0) 0 0 (va_A wc H.size)) (cw : CallW R s args own C index y bytes maxL ret wsy rm 0 0 n)
    (hK : va_K D vwCl tys s) (hP : va_P D vwCl ws H) (hD : va_D A0 ws) (hS : va_S A0 H0 H locs) (hA : ∀ q, H0.size ≤ q → A0 q) (hC : isC.map (fun i => ws[i]?) = wc.map some) (hC' : isC.map (fun i => ws1[i]?) = wc'.map some) (hR : isR.map (fun i => ws[i]?) = isR.map (fun i => ws1[i]?)) (hdis : (isR.all fun i => !isC.contains i) = true) (hcov : ((List.range ws1.length).all fun k => isC.contains k || isR.contains k) = true) (hn2 : va_nd isC = true)
    (hq : vwCl[ci]? = some (C, q.2)) (hb0 : wc[0]? = some (b, .inr (ci, fs))) (hlen : As.length = n) (hsz : ls.size = nL) (hst : st0 = As.reverse ++ .ref b :: rest) (hroom : (rest.map fun v => v.category).sum ≤ 8) (hdg : decode cc pc = .ok (.invokevirtual index, 3)) (hcell : cells + 0 ≤ R.cells ∧ slots + 0 ≤ R.slots)
    (kk : ∀ (H1 : Heap) (locs1 : List Loc), va_P D vwCl ws1 H1 → va_D A0 ws1 → va_S A0 H0 H1 locs1 → W p l e R s m args below meth c H1 locs1 cells slots Q (F0 m (pc + 3) ls (.int r0 :: rest))) : W p l e R s m args below meth c H locs cells slots Q (F0 m pc ls st0) := by
  have hPc : va_P D vwCl wc H := k_sub hP hC
  have hDc := hD.sub isC hn2 hC
  have hFc := va_free hD hS hA isC hC
  refine va_calli (va_runV S hM cw ⟨kP_blind, va_recv hK hPc hq hb0, fun U hU hW => ⟨rfl, by rw [hU], by rw [hU]; exact hPc, va_K.moved hW.alike hK, hDc.weaken (fun _ _ _ _ => trivial)⟩⟩ rfl hlen hsz hst (lv_room hroom) hdg hcell) hS (fun q _ h => hFc q h) hFc ?_
  intro r u t H1 locs1 ht hvm hw1 hB hz1 hk1 hS1
  obtain ⟨hP1, hK1, hD1⟩ := hB
  rw [ht] at hP1
  obtain ⟨hP2, hD2⟩ := k_back hP hD hC hC' hR hdis hcov hk1 hFc hP1 hD1
  subst hw1
  exact kk H1 locs1 hP2 hD2 hS1
theorem kcVv (S : CallFix p m c cc nL s args Ts own) (isC isR : List Nat) (hM : Met l y wsy rm (kP D tys (.ref b :: As) wc H.size) (kQv D tys wc wc' H.size) 0 0 (va_A wc H.size)) (cw : CallW R s args own C index y bytes maxL ret wsy rm 0 0 n)
    (hK : va_K D vwCl tys s) (hP : va_P D vwCl ws H) (hD : va_D A0 ws) (hS : va_S A0 H0 H locs) (hA : ∀ q, H0.size ≤ q → A0 q) (hC : isC.map (fun i => ws[i]?) = wc.map some) (hC' : isC.map (fun i => ws1[i]?) = wc'.map some) (hR : isR.map (fun i => ws[i]?) = isR.map (fun i => ws1[i]?)) (hdis : (isR.all fun i => !isC.contains i) = true) (hcov : ((List.range ws1.length).all fun k => isC.contains k || isR.contains k) = true) (hn2 : va_nd isC = true)
    (hq : vwCl[ci]? = some (C, q.2)) (hb0 : wc[0]? = some (b, .inr (ci, fs))) (hlen : As.length = n) (hsz : ls.size = nL) (hst : st0 = As.reverse ++ .ref b :: rest) (hroom : (rest.map fun v => v.category).sum ≤ 8) (hdg : decode cc pc = .ok (.invokevirtual index, 3)) (hcell : cells + 0 ≤ R.cells ∧ slots + 0 ≤ R.slots)
    (kk : ∀ (H1 : Heap) (locs1 : List Loc), va_P D vwCl ws1 H1 → va_D A0 ws1 → va_S A0 H0 H1 locs1 → W p l e R s m args below meth c H1 locs1 cells slots Q (F0 m (pc + 3) ls (rest))) : W p l e R s m args below meth c H locs cells slots Q (F0 m pc ls st0) := by
  have hPc : va_P D vwCl wc H := k_sub hP hC
  have hDc := hD.sub isC hn2 hC
  have hFc := va_free hD hS hA isC hC
  refine va_callv (va_runV S hM cw ⟨kP_blind, va_recv hK hPc hq hb0, fun U hU hW => ⟨rfl, by rw [hU], by rw [hU]; exact hPc, va_K.moved hW.alike hK, hDc.weaken (fun _ _ _ _ => trivial)⟩⟩ rfl hlen hsz hst (lv_room hroom) hdg hcell) hS (fun q _ h => hFc q h) hFc ?_
  intro u t H1 locs1 ht hvm hw1 hB hz1 hk1 hS1
  obtain ⟨hP1, hK1, hD1⟩ := hB
  rw [ht] at hP1
  obtain ⟨hP2, hD2⟩ := k_back hP hD hC hC' hR hdis hcov hk1 hFc hP1 hD1
  exact kk H1 locs1 hP2 hD2 hS1
theorem kcSi (S : CallFix p m c cc nL s args Ts own) (isC isR : List Nat) (hM : Met l y wsy rm (kP D tys As wc H.size) (kQi D tys wc wc' H.size r0) 0 0 (va_A wc H.size)) (cw : CallB R s args own index y bytes maxL ret wsy rm 0 0 n ∧ (Cond.static y).before args s = true)
    (hK : va_K D vwCl tys s) (hP : va_P D vwCl ws H) (hD : va_D A0 ws) (hS : va_S A0 H0 H locs) (hA : ∀ q, H0.size ≤ q → A0 q) (hC : isC.map (fun i => ws[i]?) = wc.map some) (hC' : isC.map (fun i => ws1[i]?) = wc'.map some) (hR : isR.map (fun i => ws[i]?) = isR.map (fun i => ws1[i]?)) (hdis : (isR.all fun i => !isC.contains i) = true) (hcov : ((List.range ws1.length).all fun k => isC.contains k || isR.contains k) = true) (hn2 : va_nd isC = true)
    (hlen : As.length = n) (hsz : ls.size = nL) (hst : st0 = As.reverse ++ rest) (hroom : (rest.map fun v => v.category).sum ≤ 8) (hdg : decode cc pc = .ok (.invokestatic index, 3)) (hcell : cells + 0 ≤ R.cells ∧ slots + 0 ≤ R.slots)
    (kk : ∀ (H1 : Heap) (locs1 : List Loc), va_P D vwCl ws1 H1 → va_D A0 ws1 → va_S A0 H0 H1 locs1 → W p l e R s m args below meth c H1 locs1 cells slots Q (F0 m (pc + 3) ls (.int r0 :: rest))) : W p l e R s m args below meth c H locs cells slots Q (F0 m pc ls st0) := by
  have hPc : va_P D vwCl wc H := k_sub hP hC
  have hDc := hD.sub isC hn2 hC
  have hFc := va_free hD hS hA isC hC
  refine va_calli (va_runS S hM cw ⟨kP_blind, fun U hU hW => ⟨rfl, by rw [hU], by rw [hU]; exact hPc, va_K.moved hW.alike hK, hDc.weaken (fun _ _ _ _ => trivial)⟩⟩ rfl hlen hsz hst (lv_room hroom) hdg hcell) hS (fun q _ h => hFc q h) hFc ?_
  intro r u t H1 locs1 ht hvm hw1 hB hz1 hk1 hS1
  obtain ⟨hP1, hK1, hD1⟩ := hB
  rw [ht] at hP1
  obtain ⟨hP2, hD2⟩ := k_back hP hD hC hC' hR hdis hcov hk1 hFc hP1 hD1
  subst hw1
  exact kk H1 locs1 hP2 hD2 hS1
theorem kcSv (S : CallFix p m c cc nL s args Ts own) (isC isR : List Nat) (hM : Met l y wsy rm (kP D tys As wc H.size) (kQv D tys wc wc' H.size) 0 0 (va_A wc H.size)) (cw : CallB R s args own index y bytes maxL ret wsy rm 0 0 n ∧ (Cond.static y).before args s = true)
    (hK : va_K D vwCl tys s) (hP : va_P D vwCl ws H) (hD : va_D A0 ws) (hS : va_S A0 H0 H locs) (hA : ∀ q, H0.size ≤ q → A0 q) (hC : isC.map (fun i => ws[i]?) = wc.map some) (hC' : isC.map (fun i => ws1[i]?) = wc'.map some) (hR : isR.map (fun i => ws[i]?) = isR.map (fun i => ws1[i]?)) (hdis : (isR.all fun i => !isC.contains i) = true) (hcov : ((List.range ws1.length).all fun k => isC.contains k || isR.contains k) = true) (hn2 : va_nd isC = true)
    (hlen : As.length = n) (hsz : ls.size = nL) (hst : st0 = As.reverse ++ rest) (hroom : (rest.map fun v => v.category).sum ≤ 8) (hdg : decode cc pc = .ok (.invokestatic index, 3)) (hcell : cells + 0 ≤ R.cells ∧ slots + 0 ≤ R.slots)
    (kk : ∀ (H1 : Heap) (locs1 : List Loc), va_P D vwCl ws1 H1 → va_D A0 ws1 → va_S A0 H0 H1 locs1 → W p l e R s m args below meth c H1 locs1 cells slots Q (F0 m (pc + 3) ls (rest))) : W p l e R s m args below meth c H locs cells slots Q (F0 m pc ls st0) := by
  have hPc : va_P D vwCl wc H := k_sub hP hC
  have hDc := hD.sub isC hn2 hC
  have hFc := va_free hD hS hA isC hC
  refine va_callv (va_runS S hM cw ⟨kP_blind, fun U hU hW => ⟨rfl, by rw [hU], by rw [hU]; exact hPc, va_K.moved hW.alike hK, hDc.weaken (fun _ _ _ _ => trivial)⟩⟩ rfl hlen hsz hst (lv_room hroom) hdg hcell) hS (fun q _ h => hFc q h) hFc ?_
  intro u t H1 locs1 ht hvm hw1 hB hz1 hk1 hS1
  obtain ⟨hP1, hK1, hD1⟩ := hB
  rw [ht] at hP1
  obtain ⟨hP2, hD2⟩ := k_back hP hD hC hC' hR hdis hcov hk1 hFc hP1 hD1
  exact kk H1 locs1 hP2 hD2 hS1
theorem k_iald {β : Type} {a : Nat} {K : Int32 → Option β} {o : β} (hexec : p.tables.exec = Jvm.exec) (hb : c.code = cc) (hK : va_K D vwCl tys s) (hP : va_P D vwCl ws H) (q0 t0 : Nat) {cA : ClassId} {n : Nat} {f : Nat → Int32} (ha : ws[q0]? = some (a, .inl (cA, n, .inl f))) (ht : tys[t0]? = some (cA, .int)) {i : Int32} (h : ob1 (rd n f i) K = some o) (hdg : decode cc pc = .ok (.iaload, 1))
    (kk : ∀ v : Int32, K v = some o → W p l e R s m args below meth c H locs cells slots Q (F0 m (pc + 1) ls (.int v :: rest))) : W p l e R s m args below meth c H locs cells slots Q (F0 m pc ls (.int i :: .ref a :: rest)) := by
  obtain ⟨v, h1, h2⟩ := ob1_el h
  obtain ⟨h3, h4⟩ := rd_el h1
  exact va_iald hexec hb hK hP q0 t0 ha ht h3 hdg (by rw [h4]; exact kk v h2)
theorem k_cald {β : Type} {a : Nat} {K : Int32 → Option β} {o : β} (hexec : p.tables.exec = Jvm.exec) (hb : c.code = cc) (hK : va_K D vwCl tys s) (hP : va_P D vwCl ws H) (q0 t0 : Nat) {cA : ClassId} {n : Nat} {f : Nat → Int32} (ha : ws[q0]? = some (a, .inl (cA, n, .inl f))) (ht : tys[t0]? = some (cA, .char)) {i : Int32} (h : ob1 (rd n f i) K = some o) (hdg : decode cc pc = .ok (.caload, 1))
    (kk : ∀ v : Int32, K v = some o → W p l e R s m args below meth c H locs cells slots Q (F0 m (pc + 1) ls (.int v :: rest))) : W p l e R s m args below meth c H locs cells slots Q (F0 m pc ls (.int i :: .ref a :: rest)) := by
  obtain ⟨v, h1, h2⟩ := ob1_el h
  obtain ⟨h3, h4⟩ := rd_el h1
  exact va_cald hexec hb hK hP q0 t0 ha ht h3 hdg (by rw [h4]; exact kk v h2)
theorem k_iast {β : Type} {a : Nat} {K : (Nat → Int32) → Option β} {o : β} (hexec : p.tables.exec = Jvm.exec) (hb : c.code = cc) (hK : va_K D vwCl tys s) (hP : va_P D vwCl ws H) (hD : va_D A0 ws) (hS : va_S A0 H0 H locs) (q0 t0 : Nat) {cA : ClassId} {n : Nat} {f : Nat → Int32} (ha : ws[q0]? = some (a, .inl (cA, n, .inl f))) (ht : tys[t0]? = some (cA, .int)) {i x : Int32} (h : ob1 (wr n f i x) K = some o) (hdg : decode cc pc = .ok (.iastore, 1))
    (kk : ∀ (g : Nat → Int32) (H1 : Heap) (locs1 : List Loc), va_P D vwCl (ws.set q0 (a, .inl (cA, n, .inl g))) H1 → va_D A0 (ws.set q0 (a, .inl (cA, n, .inl g))) → va_S A0 H0 H1 locs1 → K g = some o → W p l e R s m args below meth c H1 locs1 cells slots Q (F0 m (pc + 1) ls rest)) : W p l e R s m args below meth c H locs cells slots Q (F0 m pc ls (.int x :: .int i :: .ref a :: rest)) := by
  obtain ⟨v, h1, h2⟩ := ob1_el h
  obtain ⟨h3, h4⟩ := wr_el h1
  exact va_iast hexec hb hK hP hD hS q0 t0 ha ht h3 hdg (by rw [h4]; exact fun H1 locs1 g1 g2 g3 => kk v H1 locs1 g1 g2 g3 h2)
theorem k_cast {β : Type} {a : Nat} {K : (Nat → Int32) → Option β} {o : β} (hexec : p.tables.exec = Jvm.exec) (hb : c.code = cc) (hK : va_K D vwCl tys s) (hP : va_P D vwCl ws H) (hD : va_D A0 ws) (hS : va_S A0 H0 H locs) (q0 t0 : Nat) {cA : ClassId} {n : Nat} {f : Nat → Int32} (ha : ws[q0]? = some (a, .inl (cA, n, .inl f))) (ht : tys[t0]? = some (cA, .char)) {i x : Int32} (h : ob1 (wr n f i (vp_nar .char x)) K = some o) (hdg : decode cc pc = .ok (.castore, 1))
    (kk : ∀ (g : Nat → Int32) (H1 : Heap) (locs1 : List Loc), va_P D vwCl (ws.set q0 (a, .inl (cA, n, .inl g))) H1 → va_D A0 (ws.set q0 (a, .inl (cA, n, .inl g))) → va_S A0 H0 H1 locs1 → K g = some o → W p l e R s m args below meth c H1 locs1 cells slots Q (F0 m (pc + 1) ls rest)) : W p l e R s m args below meth c H locs cells slots Q (F0 m pc ls (.int x :: .int i :: .ref a :: rest)) := by
  obtain ⟨v, h1, h2⟩ := ob1_el h
  obtain ⟨h3, h4⟩ := wr_el h1
  exact va_cast hexec hb hK hP hD hS q0 t0 ha ht h3 hdg (by rw [h4]; exact fun H1 locs1 g1 g2 g3 => kk v H1 locs1 g1 g2 g3 h2)
theorem k_copy {β : Type} {a a0 : Nat} {K : (Nat → Int32) → Option β} {o : β} (S : CallFix p m c cc nL s args Ts own) (hsz : ls.size = nL) (hlink : (Cond.methodLink own index arraycopyName).before args s = true) (hnat : (Cond.native arraycopyName).before args s = true) (hstat : (Cond.static arraycopyName).before args s = true) (hini : (Cond.initialized "java/lang/System").before args s = true)
    (hK : va_K D vwCl tys s) (hP : va_P D vwCl ws H) (hD : va_D A0 ws) (hS : va_S A0 H0 H locs) (q0 q1 t0 : Nat) {cA : ClassId} {n0 n1 : Nat} {f g : Nat → Int32} (ha0 : ws[q0]? = some (a0, .inl (cA, n0, .inl f))) (ha1 : ws[q1]? = some (a, .inl (cA, n1, .inl g))) (ht0 : tys[t0]? = some (cA, .int)) {sp dp n : Int32} (h : ob1 (cpy n0 n1 f g sp dp n) K = some o) (hframes : 1 ≤ R.frames) (hlocals : (rest.map fun v => v.category).sum + (nativeFrameWords "java/lang/System" "arraycopy" 5 + 11) ≤ R.locals) (hdg : decode cc pc = .ok (.invokestatic index, 3))
    (kk : ∀ (r : Nat → Int32) (H1 : Heap) (locs1 : List Loc), va_P D vwCl (ws.set q1 (a, .inl (cA, n1, .inl r))) H1 → va_D A0 (ws.set q1 (a, .inl (cA, n1, .inl r))) → va_S A0 H0 H1 locs1 → K r = some o → W p l e R s m args below meth c H1 locs1 cells slots Q (F0 m (pc + 3) ls rest)) : W p l e R s m args below meth c H locs cells slots Q (F0 m pc ls (.int n :: .int dp :: .ref a :: .int sp :: .ref a0 :: rest)) := by
  obtain ⟨v, h1, h2⟩ := ob1_el h
  obtain ⟨g1, g2, g3, g4, g5, g6⟩ := cpy_el h1
  obtain ⟨hx, hb, hml, hown, -⟩ := S
  exact va_copyi hx hb (hml.trans hsz.symm) hown hlink hnat hstat hini hK hP hD hS q0 q1 t0 t0 ha0 ha1 ht0 ht0 rfl g1 g2 g3 g4 g5 (fun _ _ => rfl) hframes hlocals hdg (by rw [g6]; exact fun H1 locs1 k1 k2 k3 => kk v H1 locs1 k1 k2 k3 h2)
end KCALL
end
section
abbrev w_X4_rows (cI cC : ClassId) (h0 h1 : Nat) (cols : Int32) (rows : Int32) : va_W := [(h0, .inr (4, [.ref h1, .int cols, .int rows]))]
def d_X4_rows (rows : Int32) : Int32 :=
    rows
set_option maxHeartbeats 4000000 in
set_option maxRecDepth 100000 in
theorem c_X4_rows (l : Launch) (D : va_G) (cI cC cE : ClassId) (h0 h1 : Nat) (sz : Nat) (cols : Int32) (rows : Int32) (r0 : Int32) (h : d_X4_rows rows = r0) : Met l yX4_rows wsX4_rows ({ frames := 0, cells := 0, slots := 0, locals := 0 } : Room) (kP D (kT cI cC cE) [.ref h0] (w_X4_rows cI cC h0 h1 cols rows) sz) (kQi D (kT cI cC cE) (w_X4_rows cI cC h0 h1 cols rows) (w_X4_rows cI cC h0 h1 cols rows) sz r0) 0 0 (va_A (w_X4_rows cI cC h0 h1 cols rows) sz) := by
  refine kMetI (cc := cX4_rows) (maxL := 1) (own := RX4) (by decide) rfl (Nat.le_of_ble_eq_true rfl) rfl ?_
  intro p e s m below meth c A Q hx hb hml hown hts hP hK hD hA hS hname fin ls hl
  have hl : lv_has ls 1 [(0, .ref h0)] := hl
  have hiX4 : ∀ w ∈ u_ws RX4 TX4 3, w ∈ wsX4_rows := by decide +kernel
  dsimp only [d_X4_rows] at h
  refine lv_aload_n hx hb dX4_rows_0 rfl (lv_at hl 0 rfl) ?_
  refine va_get (ci := 4) (C := RX4) (T := TX4) (N := 3) hx hb hts hiX4 hown hK hP 0 rfl rfl 2 (by decide) (hts (.fieldLink RX4 19 "RiddleTrade$Table" "rows" "I") (List.mem_of_getElem? (i := 1) rfl)) (fun _ h9 => h9) rfl dX4_rows_1 ?_
  cases h
  exact fin _ _ _ _ dX4_rows_4 hP hD hS
abbrev w_X4_has (cI cC : ClassId) (h0 h1 : Nat) (cols : Int32) (rows : Int32) : va_W := [(h0, .inr (4, [.ref h1, .int cols, .int rows]))]
def d_X4_has (p1 : Int32) (rows : Int32) : Int32 :=
    if p1 < 0 then (0)
    else (if rows ≤ p1 then (0)
    else (1))
set_option maxHeartbeats 4000000 in
set_option maxRecDepth 100000 in
theorem c_X4_has (l : Launch) (D : va_G) (cI cC cE : ClassId) (h0 h1 : Nat) (sz : Nat) (cols : Int32) (rows : Int32) (p1 : Int32) (r0 : Int32) (h : d_X4_has p1 rows = r0) : Met l yX4_has wsX4_has ({ frames := 0, cells := 0, slots := 0, locals := 0 } : Room) (kP D (kT cI cC cE) [.ref h0, .int p1] (w_X4_has cI cC h0 h1 cols rows) sz) (kQi D (kT cI cC cE) (w_X4_has cI cC h0 h1 cols rows) (w_X4_has cI cC h0 h1 cols rows) sz r0) 0 0 (va_A (w_X4_has cI cC h0 h1 cols rows) sz) := by
  refine kMetZ (cc := cX4_has) (maxL := 2) (own := RX4) (by decide) rfl (Nat.le_of_ble_eq_true rfl) rfl ?_
  intro p e s m below meth c A Q hx hb hml hown hts hP hK hD hA hS hname fin ls hl
  have hl : lv_has ls 2 [(0, .ref h0), (1, .int p1)] := hl
  have hiX4 : ∀ w ∈ u_ws RX4 TX4 3, w ∈ wsX4_has := by decide +kernel
  dsimp only [d_X4_has] at h
  refine lv_iload_n hx hb dX4_has_0 rfl (lv_at hl 1 rfl) ?_
  refine lv_if_lt (tgt := 16) hx hb dX4_has_1 (by decide) (fun c1 => ?_) (fun c1 => ?_)
  · have h := (k_iB h).1 c1
    refine lv_iconst (v := 0) hx hb dX4_has_16 (by decide) ?_
    cases h
    exact fin _ _ _ _ rfl dX4_has_17 hP hD hS
  · have h := (k_iB h).2 c1
    refine lv_iload_n hx hb dX4_has_4 rfl (lv_at hl 1 rfl) ?_
    refine lv_aload_n hx hb dX4_has_5 rfl (lv_at hl 0 rfl) ?_
    refine va_get (ci := 4) (C := RX4) (T := TX4) (N := 3) hx hb hts hiX4 hown hK hP 0 rfl rfl 2 (by decide) (hts (.fieldLink RX4 19 "RiddleTrade$Table" "rows" "I") (List.mem_of_getElem? (i := 1) rfl)) (fun _ h9 => h9) rfl dX4_has_6 ?_
    refine lv_icmp_ge (tgt := 16) hx hb dX4_has_9 (by decide) (fun c2 => ?_) (fun c2 => ?_)
    · have h := (k_iB h).1 c2
      refine lv_iconst (v := 0) hx hb dX4_has_16 (by decide) ?_
      cases h
      exact fin _ _ _ _ rfl dX4_has_17 hP hD hS
    · have h := (k_iB h).2 c2
      refine lv_iconst (v := 1) hx hb dX4_has_12 (by decide) ?_
      refine lv_goto (tgt := 17) hx hb dX4_has_13 (by decide) ?_
      cases h
      exact fin _ _ _ _ rfl dX4_has_17 hP hD hS
abbrev w_X4_addRow (cI cC : ClassId) (h0 h1 : Nat) (cols : Int32) (rows : Int32) : va_W := [(h0, .inr (4, [.ref h1, .int cols, .int rows]))]
def d_X4_addRow (rows : Int32) : Int32 × Int32 :=
    (((rows + 1) - 1), (rows + 1))
set_option maxHeartbeats 4000000 in
set_option maxRecDepth 100000 in
theorem c_X4_addRow (l : Launch) (D : va_G) (cI cC cE : ClassId) (h0 h1 : Nat) (sz : Nat) (cols : Int32) (rows : Int32) (r0 : Int32) (o_rows : Int32) (h : d_X4_addRow rows = (r0, o_rows)) : Met l yX4_addRow wsX4_addRow ({ frames := 0, cells := 0, slots := 0, locals := 0 } : Room) (kP D (kT cI cC cE) [.ref h0] (w_X4_addRow cI cC h0 h1 cols rows) sz) (kQi D (kT cI cC cE) (w_X4_addRow cI cC h0 h1 cols rows) (w_X4_addRow cI cC h0 h1 cols o_rows) sz r0) 0 0 (va_A (w_X4_addRow cI cC h0 h1 cols rows) sz) := by
  refine kMetI (cc := cX4_addRow) (maxL := 1) (own := RX4) (by decide) rfl (Nat.le_of_ble_eq_true rfl) rfl ?_
  intro p e s m below meth c A Q hx hb hml hown hts hP hK hD hA hS hname fin ls hl
  have hl : lv_has ls 1 [(0, .ref h0)] := hl
  have hiX4 : ∀ w ∈ u_ws RX4 TX4 3, w ∈ wsX4_addRow := by decide +kernel
  dsimp only [d_X4_addRow] at h
  refine lv_aload_n hx hb dX4_addRow_0 rfl (lv_at hl 0 rfl) ?_
  refine lv_dup hx hb dX4_addRow_1 rfl ?_
  refine va_get (ci := 4) (C := RX4) (T := TX4) (N := 3) hx hb hts hiX4 hown hK hP 0 rfl rfl 2 (by decide) (hts (.fieldLink RX4 19 "RiddleTrade$Table" "rows" "I") (List.mem_of_getElem? (i := 1) rfl)) (fun _ h9 => h9) rfl dX4_addRow_2 ?_
  refine lv_iconst (v := 1) hx hb dX4_addRow_5 (by decide) ?_
  refine lv_iadd hx hb dX4_addRow_6 ?_
  refine va_put (ci := 4) (ty := .int) (C := RX4) (T := TX4) (N := 3) hx hb hts hiX4 tyX4 tyX4_ok nmX4 hown hK hP hD hS 0 rfl rfl 2 (by decide) (hts (.fieldLink RX4 19 "RiddleTrade$Table" "rows" "I") (List.mem_of_getElem? (i := 1) rfl)) (fun _ h9 => h9) rfl (by decide +kernel) rfl rfl (Nat.le_of_ble_eq_true rfl) dX4_addRow_7 (fun H locs hP hD hS => ?_)
  have hP : va_P D vwCl (w_X4_addRow cI cC h0 h1 cols (rows + 1)) H := hP
  have hD : va_D A (w_X4_addRow cI cC h0 h1 cols (rows + 1)) := hD
  refine lv_aload_n hx hb dX4_addRow_10 rfl (lv_at hl 0 rfl) ?_
  refine va_get (ci := 4) (C := RX4) (T := TX4) (N := 3) hx hb hts hiX4 hown hK hP 0 rfl rfl 2 (by decide) (hts (.fieldLink RX4 19 "RiddleTrade$Table" "rows" "I") (List.mem_of_getElem? (i := 1) rfl)) (fun _ h9 => h9) rfl dX4_addRow_11 ?_
  refine lv_iconst (v := 1) hx hb dX4_addRow_14 (by decide) ?_
  refine lv_isub hx hb dX4_addRow_15 ?_
  cases h
  exact fin _ _ _ _ dX4_addRow_16 hP hD hS
abbrev w_X4_dropRows (cI cC : ClassId) (h0 h1 : Nat) (cols : Int32) (rows : Int32) : va_W := [(h0, .inr (4, [.ref h1, .int cols, .int rows]))]
def d_X4_dropRows (rows : Int32) : Int32 :=
    0
set_option maxHeartbeats 4000000 in
set_option maxRecDepth 100000 in
theorem c_X4_dropRows (l : Launch) (D : va_G) (cI cC cE : ClassId) (h0 h1 : Nat) (sz : Nat) (cols : Int32) (rows : Int32) (o_rows : Int32) (h : d_X4_dropRows rows = o_rows) : Met l yX4_dropRows wsX4_dropRows ({ frames := 0, cells := 0, slots := 0, locals := 0 } : Room) (kP D (kT cI cC cE) [.ref h0] (w_X4_dropRows cI cC h0 h1 cols rows) sz) (kQv D (kT cI cC cE) (w_X4_dropRows cI cC h0 h1 cols rows) (w_X4_dropRows cI cC h0 h1 cols o_rows) sz) 0 0 (va_A (w_X4_dropRows cI cC h0 h1 cols rows) sz) := by
  refine kMetV (cc := cX4_dropRows) (maxL := 1) (own := RX4) (by decide) rfl (Nat.le_of_ble_eq_true rfl) rfl ?_
  intro p e s m below meth c A Q hx hb hml hown hts hP hK hD hA hS hname fin ls hl
  have hl : lv_has ls 1 [(0, .ref h0)] := hl
  have hiX4 : ∀ w ∈ u_ws RX4 TX4 3, w ∈ wsX4_dropRows := by decide +kernel
  dsimp only [d_X4_dropRows] at h
  refine lv_aload_n hx hb dX4_dropRows_0 rfl (lv_at hl 0 rfl) ?_
  refine lv_iconst (v := 0) hx hb dX4_dropRows_1 (by decide) ?_
  refine va_put (ci := 4) (ty := .int) (C := RX4) (T := TX4) (N := 3) hx hb hts hiX4 tyX4 tyX4_ok nmX4 hown hK hP hD hS 0 rfl rfl 2 (by decide) (hts (.fieldLink RX4 19 "RiddleTrade$Table" "rows" "I") (List.mem_of_getElem? (i := 1) rfl)) (fun _ h9 => h9) rfl (by decide +kernel) rfl rfl (Nat.le_of_ble_eq_true rfl) dX4_dropRows_2 (fun H locs hP hD hS => ?_)
  have hP : va_P D vwCl (w_X4_dropRows cI cC h0 h1 cols 0) H := hP
  have hD : va_D A (w_X4_dropRows cI cC h0 h1 cols 0) := hD
  cases h
  exact fin _ _ _ _ dX4_dropRows_5 hP hD hS
abbrev w_X4_get (cI cC : ClassId) (h0 h1 : Nat) (n : Nat) (f : Nat → Int32) (cols : Int32) (rows : Int32) : va_W := [(h0, .inr (4, [.ref h1, .int cols, .int rows])), (h1, .inl (cI, n, .inl f))]
def d_X4_get (n : Nat) (p1 : Int32) (p2 : Int32) (f : Nat → Int32) (cols : Int32) : Option (Int32) :=
    if ((p1 * cols) + p2) < 0 then (some 0)
    else (if (nI n) ≤ ((p1 * cols) + p2) then (some 0)
    else (ob1 (rd n f ((p1 * cols) + p2)) fun v3 =>
    some v3))
set_option maxHeartbeats 4000000 in
set_option maxRecDepth 100000 in
theorem c_X4_get (l : Launch) (D : va_G) (cI cC cE : ClassId) (h0 h1 : Nat) (sz : Nat) (n : Nat) (f : Nat → Int32) (cols : Int32) (rows : Int32) (p1 : Int32) (p2 : Int32) (r0 : Int32) (h : d_X4_get n p1 p2 f cols = some r0) : Met l yX4_get wsX4_get ({ frames := 0, cells := 0, slots := 0, locals := 0 } : Room) (kP D (kT cI cC cE) [.ref h0, .int p1, .int p2] (w_X4_get cI cC h0 h1 n f cols rows) sz) (kQi D (kT cI cC cE) (w_X4_get cI cC h0 h1 n f cols rows) (w_X4_get cI cC h0 h1 n f cols rows) sz r0) 0 0 (va_A (w_X4_get cI cC h0 h1 n f cols rows) sz) := by
  refine kMetI (cc := cX4_get) (maxL := 4) (own := RX4) (by decide) rfl (Nat.le_of_ble_eq_true rfl) rfl ?_
  intro p e s m below meth c A Q hx hb hml hown hts hP hK hD hA hS hname fin ls hl
  have hl : lv_has ls 4 [(0, .ref h0), (1, .int p1), (2, .int p2)] := hl
  have hiX4 : ∀ w ∈ u_ws RX4 TX4 3, w ∈ wsX4_get := by decide +kernel
  dsimp only [d_X4_get] at h
  refine lv_iload_n hx hb dX4_get_0 rfl (lv_at hl 1 rfl) ?_
  refine lv_aload_n hx hb dX4_get_1 rfl (lv_at hl 0 rfl) ?_
  refine va_get (ci := 4) (C := RX4) (T := TX4) (N := 3) hx hb hts hiX4 hown hK hP 0 rfl rfl 1 (by decide) (hts (.fieldLink RX4 15 "RiddleTrade$Table" "columns" "I") (List.mem_of_getElem? (i := 1) rfl)) (fun _ h9 => h9) rfl dX4_get_2 ?_
  refine lv_imul hx hb dX4_get_5 ?_
  refine lv_iload_n hx hb dX4_get_6 rfl (lv_at hl 2 rfl) ?_
  refine lv_iadd hx hb dX4_get_7 ?_
  refine lv_istore_n (lv' := [(3, .int ((p1 * cols) + p2)), (0, .ref h0), (1, .int p1), (2, .int p2)]) hx hb dX4_get_8 rfl hl (by decide) rfl (fun ls hl => ?_)
  refine lv_iload_n hx hb dX4_get_9 rfl (lv_at hl 0 rfl) ?_
  refine lv_if_lt (tgt := 31) hx hb dX4_get_10 (by decide) (fun c1 => ?_) (fun c1 => ?_)
  · have h := (k_iB h).1 c1
    refine lv_iconst (v := 0) hx hb dX4_get_31 (by decide) ?_
    cases h
    exact fin _ _ _ _ dX4_get_32 hP hD hS
  · have h := (k_iB h).2 c1
    refine lv_iload_n hx hb dX4_get_13 rfl (lv_at hl 0 rfl) ?_
    refine lv_aload_n hx hb dX4_get_14 rfl (lv_at hl 1 rfl) ?_
    refine va_get (ci := 4) (C := RX4) (T := TX4) (N := 3) hx hb hts hiX4 hown hK hP 0 rfl rfl 0 (by decide) (hts (.fieldLink RX4 9 "RiddleTrade$Table" "cells" "[I") (List.mem_of_getElem? (i := 2) rfl)) (fun _ h9 => h9) rfl dX4_get_15 ?_
    refine va_alen (v := nI n) hx hb hK hP 1 0 rfl rfl rfl dX4_get_18 ?_
    refine lv_icmp_ge (tgt := 31) hx hb dX4_get_19 (by decide) (fun c2 => ?_) (fun c2 => ?_)
    · have h := (k_iB h).1 c2
      refine lv_iconst (v := 0) hx hb dX4_get_31 (by decide) ?_
      cases h
      exact fin _ _ _ _ dX4_get_32 hP hD hS
    · have h := (k_iB h).2 c2
      refine lv_aload_n hx hb dX4_get_22 rfl (lv_at hl 1 rfl) ?_
      refine va_get (ci := 4) (C := RX4) (T := TX4) (N := 3) hx hb hts hiX4 hown hK hP 0 rfl rfl 0 (by decide) (hts (.fieldLink RX4 9 "RiddleTrade$Table" "cells" "[I") (List.mem_of_getElem? (i := 2) rfl)) (fun _ h9 => h9) rfl dX4_get_23 ?_
      refine lv_iload_n hx hb dX4_get_26 rfl (lv_at hl 0 rfl) ?_
      refine k_iald hx hb hK hP 1 0 rfl rfl h dX4_get_27 (fun v3 h => ?_)
      refine lv_goto (tgt := 32) hx hb dX4_get_28 (by decide) ?_
      cases h
      exact fin _ _ _ _ dX4_get_32 hP hD hS
abbrev w_X4_put (cI cC : ClassId) (h0 h1 : Nat) (n : Nat) (f : Nat → Int32) (cols : Int32) (rows : Int32) : va_W := [(h0, .inr (4, [.ref h1, .int cols, .int rows])), (h1, .inl (cI, n, .inl f))]
def d_X4_put (n : Nat) (p1 : Int32) (p2 : Int32) (p3 : Int32) (f : Nat → Int32) (cols : Int32) : Option ((Nat → Int32)) :=
    if ((p1 * cols) + p2) < 0 then (some f)
    else (if (nI n) ≤ ((p1 * cols) + p2) then (some f)
    else (ob1 (wr n f ((p1 * cols) + p2) p3) fun f_3 =>
    some f_3))
set_option maxHeartbeats 4000000 in
set_option maxRecDepth 100000 in
theorem c_X4_put (l : Launch) (D : va_G) (cI cC cE : ClassId) (h0 h1 : Nat) (sz : Nat) (n : Nat) (f : Nat → Int32) (cols : Int32) (rows : Int32) (p1 : Int32) (p2 : Int32) (p3 : Int32) (o_f : Nat → Int32) (h : d_X4_put n p1 p2 p3 f cols = some o_f) : Met l yX4_put wsX4_put ({ frames := 0, cells := 0, slots := 0, locals := 0 } : Room) (kP D (kT cI cC cE) [.ref h0, .int p1, .int p2, .int p3] (w_X4_put cI cC h0 h1 n f cols rows) sz) (kQv D (kT cI cC cE) (w_X4_put cI cC h0 h1 n f cols rows) (w_X4_put cI cC h0 h1 n o_f cols rows) sz) 0 0 (va_A (w_X4_put cI cC h0 h1 n f cols rows) sz) := by
  refine kMetV (cc := cX4_put) (maxL := 5) (own := RX4) (by decide) rfl (Nat.le_of_ble_eq_true rfl) rfl ?_
  intro p e s m below meth c A Q hx hb hml hown hts hP hK hD hA hS hname fin ls hl
  have hl : lv_has ls 5 [(0, .ref h0), (1, .int p1), (2, .int p2), (3, .int p3)] := hl
  have hiX4 : ∀ w ∈ u_ws RX4 TX4 3, w ∈ wsX4_put := by decide +kernel
  dsimp only [d_X4_put] at h
  refine lv_iload_n hx hb dX4_put_0 rfl (lv_at hl 1 rfl) ?_
  refine lv_aload_n hx hb dX4_put_1 rfl (lv_at hl 0 rfl) ?_
  refine va_get (ci := 4) (C := RX4) (T := TX4) (N := 3) hx hb hts hiX4 hown hK hP 0 rfl rfl 1 (by decide) (hts (.fieldLink RX4 15 "RiddleTrade$Table" "columns" "I") (List.mem_of_getElem? (i := 1) rfl)) (fun _ h9 => h9) rfl dX4_put_2 ?_
  refine lv_imul hx hb dX4_put_5 ?_
  refine lv_iload_n hx hb dX4_put_6 rfl (lv_at hl 2 rfl) ?_
  refine lv_iadd hx hb dX4_put_7 ?_
  refine lv_istore (lv' := [(4, .int ((p1 * cols) + p2)), (0, .ref h0), (1, .int p1), (2, .int p2), (3, .int p3)]) hx hb dX4_put_8 hl (by decide) rfl (fun ls hl => ?_)
  refine lv_iload hx hb dX4_put_10 (lv_at hl 0 rfl) ?_
  refine lv_if_lt (tgt := 33) hx hb dX4_put_12 (by decide) (fun c1 => ?_) (fun c1 => ?_)
  · have h := (k_iB h).1 c1
    cases h
    exact fin _ _ _ _ dX4_put_33 hP hD hS
  · have h := (k_iB h).2 c1
    refine lv_iload hx hb dX4_put_15 (lv_at hl 0 rfl) ?_
    refine lv_aload_n hx hb dX4_put_17 rfl (lv_at hl 1 rfl) ?_
    refine va_get (ci := 4) (C := RX4) (T := TX4) (N := 3) hx hb hts hiX4 hown hK hP 0 rfl rfl 0 (by decide) (hts (.fieldLink RX4 9 "RiddleTrade$Table" "cells" "[I") (List.mem_of_getElem? (i := 2) rfl)) (fun _ h9 => h9) rfl dX4_put_18 ?_
    refine va_alen (v := nI n) hx hb hK hP 1 0 rfl rfl rfl dX4_put_21 ?_
    refine lv_icmp_ge (tgt := 33) hx hb dX4_put_22 (by decide) (fun c2 => ?_) (fun c2 => ?_)
    · have h := (k_iB h).1 c2
      cases h
      exact fin _ _ _ _ dX4_put_33 hP hD hS
    · have h := (k_iB h).2 c2
      refine lv_aload_n hx hb dX4_put_25 rfl (lv_at hl 1 rfl) ?_
      refine va_get (ci := 4) (C := RX4) (T := TX4) (N := 3) hx hb hts hiX4 hown hK hP 0 rfl rfl 0 (by decide) (hts (.fieldLink RX4 9 "RiddleTrade$Table" "cells" "[I") (List.mem_of_getElem? (i := 2) rfl)) (fun _ h9 => h9) rfl dX4_put_26 ?_
      refine lv_iload hx hb dX4_put_29 (lv_at hl 0 rfl) ?_
      refine lv_iload_n hx hb dX4_put_31 rfl (lv_at hl 4 rfl) ?_
      refine k_iast hx hb hK hP hD hS 1 0 rfl rfl h dX4_put_32 (fun f_3 H locs hP hD hS h => ?_)
      have hP : va_P D vwCl (w_X4_put cI cC h0 h1 n f_3 cols rows) H := hP
      have hD : va_D A (w_X4_put cI cC h0 h1 n f_3 cols rows) := hD
      cases h
      exact fin _ _ _ _ dX4_put_33 hP hD hS
abbrev w_X4_increase (cI cC : ClassId) (h0 h1 : Nat) (n : Nat) (f : Nat → Int32) (cols : Int32) (rows : Int32) : va_W := [(h0, .inr (4, [.ref h1, .int cols, .int rows])), (h1, .inl (cI, n, .inl f))]
def d_X4_increase (n : Nat) (p1 : Int32) (p2 : Int32) (p3 : Int32) (f : Nat → Int32) (cols : Int32) : Option ((Nat → Int32)) :=
    if ((p1 * cols) + p2) < 0 then (some f)
    else (if (nI n) ≤ ((p1 * cols) + p2) then (some f)
    else (ob1 (rd n f ((p1 * cols) + p2)) fun v3 =>
    ob1 (wr n f ((p1 * cols) + p2) (v3 + p3)) fun f_4 =>
    some f_4))
set_option maxHeartbeats 4000000 in
set_option maxRecDepth 100000 in
theorem c_X4_increase (l : Launch) (D : va_G) (cI cC cE : ClassId) (h0 h1 : Nat) (sz : Nat) (n : Nat) (f : Nat → Int32) (cols : Int32) (rows : Int32) (p1 : Int32) (p2 : Int32) (p3 : Int32) (o_f : Nat → Int32) (h : d_X4_increase n p1 p2 p3 f cols = some o_f) : Met l yX4_increase wsX4_increase ({ frames := 0, cells := 0, slots := 0, locals := 0 } : Room) (kP D (kT cI cC cE) [.ref h0, .int p1, .int p2, .int p3] (w_X4_increase cI cC h0 h1 n f cols rows) sz) (kQv D (kT cI cC cE) (w_X4_increase cI cC h0 h1 n f cols rows) (w_X4_increase cI cC h0 h1 n o_f cols rows) sz) 0 0 (va_A (w_X4_increase cI cC h0 h1 n f cols rows) sz) := by
  refine kMetV (cc := cX4_increase) (maxL := 5) (own := RX4) (by decide) rfl (Nat.le_of_ble_eq_true rfl) rfl ?_
  intro p e s m below meth c A Q hx hb hml hown hts hP hK hD hA hS hname fin ls hl
  have hl : lv_has ls 5 [(0, .ref h0), (1, .int p1), (2, .int p2), (3, .int p3)] := hl
  have hiX4 : ∀ w ∈ u_ws RX4 TX4 3, w ∈ wsX4_increase := by decide +kernel
  dsimp only [d_X4_increase] at h
  refine lv_iload_n hx hb dX4_increase_0 rfl (lv_at hl 1 rfl) ?_
  refine lv_aload_n hx hb dX4_increase_1 rfl (lv_at hl 0 rfl) ?_
  refine va_get (ci := 4) (C := RX4) (T := TX4) (N := 3) hx hb hts hiX4 hown hK hP 0 rfl rfl 1 (by decide) (hts (.fieldLink RX4 15 "RiddleTrade$Table" "columns" "I") (List.mem_of_getElem? (i := 1) rfl)) (fun _ h9 => h9) rfl dX4_increase_2 ?_
  refine lv_imul hx hb dX4_increase_5 ?_
  refine lv_iload_n hx hb dX4_increase_6 rfl (lv_at hl 2 rfl) ?_
  refine lv_iadd hx hb dX4_increase_7 ?_
  refine lv_istore (lv' := [(4, .int ((p1 * cols) + p2)), (0, .ref h0), (1, .int p1), (2, .int p2), (3, .int p3)]) hx hb dX4_increase_8 hl (by decide) rfl (fun ls hl => ?_)
  refine lv_iload hx hb dX4_increase_10 (lv_at hl 0 rfl) ?_
  refine lv_if_lt (tgt := 36) hx hb dX4_increase_12 (by decide) (fun c1 => ?_) (fun c1 => ?_)
  · have h := (k_iB h).1 c1
    cases h
    exact fin _ _ _ _ dX4_increase_36 hP hD hS
  · have h := (k_iB h).2 c1
    refine lv_iload hx hb dX4_increase_15 (lv_at hl 0 rfl) ?_
    refine lv_aload_n hx hb dX4_increase_17 rfl (lv_at hl 1 rfl) ?_
    refine va_get (ci := 4) (C := RX4) (T := TX4) (N := 3) hx hb hts hiX4 hown hK hP 0 rfl rfl 0 (by decide) (hts (.fieldLink RX4 9 "RiddleTrade$Table" "cells" "[I") (List.mem_of_getElem? (i := 2) rfl)) (fun _ h9 => h9) rfl dX4_increase_18 ?_
    refine va_alen (v := nI n) hx hb hK hP 1 0 rfl rfl rfl dX4_increase_21 ?_
    refine lv_icmp_ge (tgt := 36) hx hb dX4_increase_22 (by decide) (fun c2 => ?_) (fun c2 => ?_)
    · have h := (k_iB h).1 c2
      cases h
      exact fin _ _ _ _ dX4_increase_36 hP hD hS
    · have h := (k_iB h).2 c2
      refine lv_aload_n hx hb dX4_increase_25 rfl (lv_at hl 1 rfl) ?_
      refine va_get (ci := 4) (C := RX4) (T := TX4) (N := 3) hx hb hts hiX4 hown hK hP 0 rfl rfl 0 (by decide) (hts (.fieldLink RX4 9 "RiddleTrade$Table" "cells" "[I") (List.mem_of_getElem? (i := 2) rfl)) (fun _ h9 => h9) rfl dX4_increase_26 ?_
      refine lv_iload hx hb dX4_increase_29 (lv_at hl 0 rfl) ?_
      refine lv_dup2_11 hx hb dX4_increase_31 rfl rfl ?_
      refine k_iald hx hb hK hP 1 0 rfl rfl h dX4_increase_32 (fun v3 h => ?_)
      refine lv_iload_n hx hb dX4_increase_33 rfl (lv_at hl 4 rfl) ?_
      refine lv_iadd hx hb dX4_increase_34 ?_
      refine k_iast hx hb hK hP hD hS 1 0 rfl rfl h dX4_increase_35 (fun f_4 H locs hP hD hS h => ?_)
      have hP : va_P D vwCl (w_X4_increase cI cC h0 h1 n f_4 cols rows) H := hP
      have hD : va_D A (w_X4_increase cI cC h0 h1 n f_4 cols rows) := hD
      cases h
      exact fin _ _ _ _ dX4_increase_36 hP hD hS
abbrev w_X4_countOf (cI cC : ClassId) (h0 h1 : Nat) (n : Nat) (f : Nat → Int32) (cols : Int32) (rows : Int32) : va_W := [(h0, .inr (4, [.ref h1, .int cols, .int rows])), (h1, .inl (cI, n, .inl f))]
def lp_X4_countOf_5 (n : Nat) (f : Nat → Int32) (cols : Int32) (rows : Int32) (p1 : Int32) (p2 : Int32) : Nat → Int32 → Int32 → Option (Int32)
  | 0 => fun _ _ => none
  | k + 1 => fun x3 x4 =>
    if rows ≤ x4 then (some x3)
    else (ob1 (d_X4_get n x4 p1 f cols) fun r2 =>
    if r2 = p2 then ((lp_X4_countOf_5  n f cols rows p1 p2 k) (x3 + 1) (x4 + 1))
    else ((lp_X4_countOf_5  n f cols rows p1 p2 k) x3 (x4 + 1)))
def d_X4_countOf (n : Nat) (p1 : Int32) (p2 : Int32) (f : Nat → Int32) (cols : Int32) (rows : Int32) : Option (Int32) :=
    lp_X4_countOf_5  n f cols rows p1 p2 fuel 0 0
set_option maxHeartbeats 4000000 in
set_option maxRecDepth 100000 in
theorem c_X4_countOf (l : Launch) (D : va_G) (cI cC cE : ClassId) (h0 h1 : Nat) (sz : Nat) (n : Nat) (f : Nat → Int32) (cols : Int32) (rows : Int32) (p1 : Int32) (p2 : Int32) (r0 : Int32) (h : d_X4_countOf n p1 p2 f cols rows = some r0) : Met l yX4_countOf wsX4_countOf ({ frames := 1, cells := 0, slots := 0, locals := 23 } : Room) (kP D (kT cI cC cE) [.ref h0, .int p1, .int p2] (w_X4_countOf cI cC h0 h1 n f cols rows) sz) (kQi D (kT cI cC cE) (w_X4_countOf cI cC h0 h1 n f cols rows) (w_X4_countOf cI cC h0 h1 n f cols rows) sz r0) 0 0 (va_A (w_X4_countOf cI cC h0 h1 n f cols rows) sz) := by
  refine kMetI (cc := cX4_countOf) (maxL := 5) (own := RX4) (by decide) rfl (Nat.le_of_ble_eq_true rfl) rfl ?_
  intro p e s m below meth c A Q hx hb hml hown hts hP hK hD hA hS hname fin ls hl
  have hl : lv_has ls 5 [(0, .ref h0), (1, .int p1), (2, .int p2)] := hl
  have hiX4 : ∀ w ∈ u_ws RX4 TX4 3, w ∈ wsX4_countOf := by decide +kernel
  have hL5 : ∀ (k : Nat), ∀ (x3 : Int32) (x4 : Int32) (H : Heap) (locs : List Loc), va_P D vwCl (w_X4_countOf cI cC h0 h1 n f cols rows) H → va_D A (w_X4_countOf cI cC h0 h1 n f cols rows) → va_S A s.heap H locs → ∀ (ls : Array Slot), lv_has ls 5 [(0, .ref h0), (1, .int p1), (2, .int p2), (3, .int x3), (4, .int x4)] → lp_X4_countOf_5  n f cols rows p1 p2 k x3 x4 = some r0 → W p l e ({ frames := 1, cells := 0, slots := 0, locals := 23 } : Room) s m [.ref h0, .int p1, .int p2].toArray below meth c H locs 0 0 Q (F0 m 5 ls []) := by
    intro k
    induction k with
    | zero =>
      intro x3 x4 H locs hP hD hS ls hl h
      exact k_none h
    | succ k ih =>
      intro x3 x4 H locs hP hD hS ls hl h
      dsimp only [lp_X4_countOf_5] at h
      refine lv_iload hx hb dX4_countOf_5 (lv_at hl 4 rfl) ?_
      refine lv_aload_n hx hb dX4_countOf_7 rfl (lv_at hl 0 rfl) ?_
      refine va_get (ci := 4) (C := RX4) (T := TX4) (N := 3) hx hb hts hiX4 hown hK hP 0 rfl rfl 2 (by decide) (hts (.fieldLink RX4 19 "RiddleTrade$Table" "rows" "I") (List.mem_of_getElem? (i := 1) rfl)) (fun _ h9 => h9) rfl dX4_countOf_8 ?_
      refine lv_icmp_ge (tgt := 34) hx hb dX4_countOf_11 (by decide) (fun c1 => ?_) (fun c1 => ?_)
      · have h := (k_iB h).1 c1
        refine lv_iload_n hx hb dX4_countOf_34 rfl (lv_at hl 3 rfl) ?_
        cases h
        exact fin _ _ _ _ dX4_countOf_35 hP hD hS
      · have h := (k_iB h).2 c1
        refine lv_aload_n hx hb dX4_countOf_14 rfl (lv_at hl 0 rfl) ?_
        refine lv_iload hx hb dX4_countOf_15 (lv_at hl 4 rfl) ?_
        refine lv_iload_n hx hb dX4_countOf_17 rfl (lv_at hl 1 rfl) ?_
        obtain ⟨r2, hu3, h⟩ := ob1_el h
        refine kcVi (ci := 4) (q := (RX4, TX4, 3)) (ws1 := (w_X4_countOf cI cC h0 h1 n f cols rows)) ⟨hx, hb, hml, hown, hts⟩ [0, 1] [] (c_X4_get l D cI cC cE h0 h1 _ n f cols rows x4 p1 r2 hu3) (cwV 2 hts gX4_countOf_X4_get rfl rfl rfl (by decide +kernel) ⟨Nat.le_of_ble_eq_true rfl, Nat.le_of_ble_eq_true rfl⟩) hK hP hD hS hA rfl rfl rfl rfl rfl rfl rfl rfl rfl hl.1 rfl (Nat.le_of_ble_eq_true rfl) dX4_countOf_18 ⟨Nat.le_refl 0, Nat.le_refl 0⟩ (fun H locs hP hD hS => ?_)
        refine lv_iload_n hx hb dX4_countOf_21 rfl (lv_at hl 2 rfl) ?_
        refine lv_icmp_ne (tgt := 28) hx hb dX4_countOf_22 (by decide) (fun c4 => ?_) (fun c4 => ?_)
        · have h := (k_iB h).2 c4
          refine lv_iinc (v := (x4 + 1)) (lv' := [(4, .int (x4 + 1)), (0, .ref h0), (1, .int p1), (2, .int p2), (3, .int x3)]) hx hb dX4_countOf_28 hl (k := 4) rfl rfl (by decide) rfl (fun ls hl => ?_)
          refine lv_goto (tgt := 5) hx hb dX4_countOf_31 (by decide) ?_
          exact ih x3 (x4 + 1) _ _ hP hD hS _ (lv_sub hl [1, 2, 3, 4, 0] rfl) h
        · have h := (k_iB h).1 c4
          refine lv_iinc (v := (x3 + 1)) (lv' := [(3, .int (x3 + 1)), (0, .ref h0), (1, .int p1), (2, .int p2), (4, .int x4)]) hx hb dX4_countOf_25 hl (k := 3) rfl rfl (by decide) rfl (fun ls hl => ?_)
          refine lv_iinc (v := (x4 + 1)) (lv' := [(4, .int (x4 + 1)), (3, .int (x3 + 1)), (0, .ref h0), (1, .int p1), (2, .int p2)]) hx hb dX4_countOf_28 hl (k := 4) rfl rfl (by decide) rfl (fun ls hl => ?_)
          refine lv_goto (tgt := 5) hx hb dX4_countOf_31 (by decide) ?_
          exact ih (x3 + 1) (x4 + 1) _ _ hP hD hS _ (lv_sub hl [2, 3, 4, 1, 0] rfl) h
  dsimp only [d_X4_countOf] at h
  refine lv_iconst (v := 0) hx hb dX4_countOf_0 (by decide) ?_
  refine lv_istore_n (lv' := [(3, .int 0), (0, .ref h0), (1, .int p1), (2, .int p2)]) hx hb dX4_countOf_1 rfl hl (by decide) rfl (fun ls hl => ?_)
  refine lv_iconst (v := 0) hx hb dX4_countOf_2 (by decide) ?_
  refine lv_istore (lv' := [(4, .int 0), (3, .int 0), (0, .ref h0), (1, .int p1), (2, .int p2)]) hx hb dX4_countOf_3 hl (by decide) rfl (fun ls hl => ?_)
  exact hL5   fuel 0 0 _ _ hP hD hS _ (lv_sub hl [2, 3, 4, 1, 0] rfl) h
abbrev w_X4_countOfBoth (cI cC : ClassId) (h0 h1 : Nat) (n : Nat) (f : Nat → Int32) (cols : Int32) (rows : Int32) : va_W := [(h0, .inr (4, [.ref h1, .int cols, .int rows])), (h1, .inl (cI, n, .inl f))]
def lp_X4_countOfBoth_6 (n : Nat) (f : Nat → Int32) (cols : Int32) (rows : Int32) (p1 : Int32) (p2 : Int32) (p3 : Int32) (p4 : Int32) : Nat → Int32 → Int32 → Option (Int32)
  | 0 => fun _ _ => none
  | k + 1 => fun x5 x6 =>
    if rows ≤ x6 then (some x5)
    else (ob1 (d_X4_get n x6 p1 f cols) fun r2 =>
    if r2 = p2 then (ob1 (d_X4_get n x6 p3 f cols) fun r5 =>
    if r5 = p4 then ((lp_X4_countOfBoth_6  n f cols rows p1 p2 p3 p4 k) (x5 + 1) (x6 + 1))
    else ((lp_X4_countOfBoth_6  n f cols rows p1 p2 p3 p4 k) x5 (x6 + 1)))
    else ((lp_X4_countOfBoth_6  n f cols rows p1 p2 p3 p4 k) x5 (x6 + 1)))
def d_X4_countOfBoth (n : Nat) (p1 : Int32) (p2 : Int32) (p3 : Int32) (p4 : Int32) (f : Nat → Int32) (cols : Int32) (rows : Int32) : Option (Int32) :=
    lp_X4_countOfBoth_6  n f cols rows p1 p2 p3 p4 fuel 0 0
set_option maxHeartbeats 4000000 in
set_option maxRecDepth 100000 in
theorem c_X4_countOfBoth (l : Launch) (D : va_G) (cI cC cE : ClassId) (h0 h1 : Nat) (sz : Nat) (n : Nat) (f : Nat → Int32) (cols : Int32) (rows : Int32) (p1 : Int32) (p2 : Int32) (p3 : Int32) (p4 : Int32) (r0 : Int32) (h : d_X4_countOfBoth n p1 p2 p3 p4 f cols rows = some r0) : Met l yX4_countOfBoth wsX4_countOfBoth ({ frames := 1, cells := 0, slots := 0, locals := 23 } : Room) (kP D (kT cI cC cE) [.ref h0, .int p1, .int p2, .int p3, .int p4] (w_X4_countOfBoth cI cC h0 h1 n f cols rows) sz) (kQi D (kT cI cC cE) (w_X4_countOfBoth cI cC h0 h1 n f cols rows) (w_X4_countOfBoth cI cC h0 h1 n f cols rows) sz r0) 0 0 (va_A (w_X4_countOfBoth cI cC h0 h1 n f cols rows) sz) := by
  refine kMetI (cc := cX4_countOfBoth) (maxL := 7) (own := RX4) (by decide) rfl (Nat.le_of_ble_eq_true rfl) rfl ?_
  intro p e s m below meth c A Q hx hb hml hown hts hP hK hD hA hS hname fin ls hl
  have hl : lv_has ls 7 [(0, .ref h0), (1, .int p1), (2, .int p2), (3, .int p3), (4, .int p4)] := hl
  have hiX4 : ∀ w ∈ u_ws RX4 TX4 3, w ∈ wsX4_countOfBoth := by decide +kernel
  have hL6 : ∀ (k : Nat), ∀ (x5 : Int32) (x6 : Int32) (H : Heap) (locs : List Loc), va_P D vwCl (w_X4_countOfBoth cI cC h0 h1 n f cols rows) H → va_D A (w_X4_countOfBoth cI cC h0 h1 n f cols rows) → va_S A s.heap H locs → ∀ (ls : Array Slot), lv_has ls 7 [(0, .ref h0), (1, .int p1), (2, .int p2), (3, .int p3), (4, .int p4), (5, .int x5), (6, .int x6)] → lp_X4_countOfBoth_6  n f cols rows p1 p2 p3 p4 k x5 x6 = some r0 → W p l e ({ frames := 1, cells := 0, slots := 0, locals := 23 } : Room) s m [.ref h0, .int p1, .int p2, .int p3, .int p4].toArray below meth c H locs 0 0 Q (F0 m 6 ls []) := by
    intro k
    induction k with
    | zero =>
      intro x5 x6 H locs hP hD hS ls hl h
      exact k_none h
    | succ k ih =>
      intro x5 x6 H locs hP hD hS ls hl h
      dsimp only [lp_X4_countOfBoth_6] at h
      refine lv_iload hx hb dX4_countOfBoth_6 (lv_at hl 6 rfl) ?_
      refine lv_aload_n hx hb dX4_countOfBoth_8 rfl (lv_at hl 0 rfl) ?_
      refine va_get (ci := 4) (C := RX4) (T := TX4) (N := 3) hx hb hts hiX4 hown hK hP 0 rfl rfl 2 (by decide) (hts (.fieldLink RX4 19 "RiddleTrade$Table" "rows" "I") (List.mem_of_getElem? (i := 1) rfl)) (fun _ h9 => h9) rfl dX4_countOfBoth_9 ?_
      refine lv_icmp_ge (tgt := 47) hx hb dX4_countOfBoth_12 (by decide) (fun c1 => ?_) (fun c1 => ?_)
      · have h := (k_iB h).1 c1
        refine lv_iload hx hb dX4_countOfBoth_47 (lv_at hl 5 rfl) ?_
        cases h
        exact fin _ _ _ _ dX4_countOfBoth_49 hP hD hS
      · have h := (k_iB h).2 c1
        refine lv_aload_n hx hb dX4_countOfBoth_15 rfl (lv_at hl 0 rfl) ?_
        refine lv_iload hx hb dX4_countOfBoth_16 (lv_at hl 6 rfl) ?_
        refine lv_iload_n hx hb dX4_countOfBoth_18 rfl (lv_at hl 1 rfl) ?_
        obtain ⟨r2, hu3, h⟩ := ob1_el h
        refine kcVi (ci := 4) (q := (RX4, TX4, 3)) (ws1 := (w_X4_countOfBoth cI cC h0 h1 n f cols rows)) ⟨hx, hb, hml, hown, hts⟩ [0, 1] [] (c_X4_get l D cI cC cE h0 h1 _ n f cols rows x6 p1 r2 hu3) (cwV 2 hts gX4_countOfBoth_X4_get rfl rfl rfl (by decide +kernel) ⟨Nat.le_of_ble_eq_true rfl, Nat.le_of_ble_eq_true rfl⟩) hK hP hD hS hA rfl rfl rfl rfl rfl rfl rfl rfl rfl hl.1 rfl (Nat.le_of_ble_eq_true rfl) dX4_countOfBoth_19 ⟨Nat.le_refl 0, Nat.le_refl 0⟩ (fun H locs hP hD hS => ?_)
        refine lv_iload_n hx hb dX4_countOfBoth_22 rfl (lv_at hl 2 rfl) ?_
        refine lv_icmp_ne (tgt := 41) hx hb dX4_countOfBoth_23 (by decide) (fun c4 => ?_) (fun c4 => ?_)
        · have h := (k_iB h).2 c4
          refine lv_iinc (v := (x6 + 1)) (lv' := [(6, .int (x6 + 1)), (0, .ref h0), (1, .int p1), (2, .int p2), (3, .int p3), (4, .int p4), (5, .int x5)]) hx hb dX4_countOfBoth_41 hl (k := 6) rfl rfl (by decide) rfl (fun ls hl => ?_)
          refine lv_goto (tgt := 6) hx hb dX4_countOfBoth_44 (by decide) ?_
          exact ih x5 (x6 + 1) _ _ hP hD hS _ (lv_sub hl [1, 2, 3, 4, 5, 6, 0] rfl) h
        · have h := (k_iB h).1 c4
          refine lv_aload_n hx hb dX4_countOfBoth_26 rfl (lv_at hl 0 rfl) ?_
          refine lv_iload hx hb dX4_countOfBoth_27 (lv_at hl 6 rfl) ?_
          refine lv_iload_n hx hb dX4_countOfBoth_29 rfl (lv_at hl 3 rfl) ?_
          obtain ⟨r5, hu6, h⟩ := ob1_el h
          refine kcVi (ci := 4) (q := (RX4, TX4, 3)) (ws1 := (w_X4_countOfBoth cI cC h0 h1 n f cols rows)) ⟨hx, hb, hml, hown, hts⟩ [0, 1] [] (c_X4_get l D cI cC cE h0 h1 _ n f cols rows x6 p3 r5 hu6) (cwV 2 hts gX4_countOfBoth_X4_get rfl rfl rfl (by decide +kernel) ⟨Nat.le_of_ble_eq_true rfl, Nat.le_of_ble_eq_true rfl⟩) hK hP hD hS hA rfl rfl rfl rfl rfl rfl rfl rfl rfl hl.1 rfl (Nat.le_of_ble_eq_true rfl) dX4_countOfBoth_30 ⟨Nat.le_refl 0, Nat.le_refl 0⟩ (fun H locs hP hD hS => ?_)
          refine lv_iload hx hb dX4_countOfBoth_33 (lv_at hl 4 rfl) ?_
          refine lv_icmp_ne (tgt := 41) hx hb dX4_countOfBoth_35 (by decide) (fun c7 => ?_) (fun c7 => ?_)
          · have h := (k_iB h).2 c7
            refine lv_iinc (v := (x6 + 1)) (lv' := [(6, .int (x6 + 1)), (0, .ref h0), (1, .int p1), (2, .int p2), (3, .int p3), (4, .int p4), (5, .int x5)]) hx hb dX4_countOfBoth_41 hl (k := 6) rfl rfl (by decide) rfl (fun ls hl => ?_)
            refine lv_goto (tgt := 6) hx hb dX4_countOfBoth_44 (by decide) ?_
            exact ih x5 (x6 + 1) _ _ hP hD hS _ (lv_sub hl [1, 2, 3, 4, 5, 6, 0] rfl) h
          · have h := (k_iB h).1 c7
            refine lv_iinc (v := (x5 + 1)) (lv' := [(5, .int (x5 + 1)), (0, .ref h0), (1, .int p1), (2, .int p2), (3, .int p3), (4, .int p4), (6, .int x6)]) hx hb dX4_countOfBoth_38 hl (k := 5) rfl rfl (by decide) rfl (fun ls hl => ?_)
            refine lv_iinc (v := (x6 + 1)) (lv' := [(6, .int (x6 + 1)), (5, .int (x5 + 1)), (0, .ref h0), (1, .int p1), (2, .int p2), (3, .int p3), (4, .int p4)]) hx hb dX4_countOfBoth_41 hl (k := 6) rfl rfl (by decide) rfl (fun ls hl => ?_)
            refine lv_goto (tgt := 6) hx hb dX4_countOfBoth_44 (by decide) ?_
            exact ih (x5 + 1) (x6 + 1) _ _ hP hD hS _ (lv_sub hl [2, 3, 4, 5, 6, 1, 0] rfl) h
  dsimp only [d_X4_countOfBoth] at h
  refine lv_iconst (v := 0) hx hb dX4_countOfBoth_0 (by decide) ?_
  refine lv_istore (lv' := [(5, .int 0), (0, .ref h0), (1, .int p1), (2, .int p2), (3, .int p3), (4, .int p4)]) hx hb dX4_countOfBoth_1 hl (by decide) rfl (fun ls hl => ?_)
  refine lv_iconst (v := 0) hx hb dX4_countOfBoth_3 (by decide) ?_
  refine lv_istore (lv' := [(6, .int 0), (5, .int 0), (0, .ref h0), (1, .int p1), (2, .int p2), (3, .int p3), (4, .int p4)]) hx hb dX4_countOfBoth_4 hl (by decide) rfl (fun ls hl => ?_)
  exact hL6   fuel 0 0 _ _ hP hD hS _ (lv_sub hl [2, 3, 4, 5, 6, 1, 0] rfl) h
abbrev w_X4_rowOfBoth (cI cC : ClassId) (h0 h1 : Nat) (n : Nat) (f : Nat → Int32) (cols : Int32) (rows : Int32) : va_W := [(h0, .inr (4, [.ref h1, .int cols, .int rows])), (h1, .inl (cI, n, .inl f))]
def lp_X4_rowOfBoth_3 (n : Nat) (f : Nat → Int32) (cols : Int32) (rows : Int32) (p1 : Int32) (p2 : Int32) (p3 : Int32) (p4 : Int32) : Nat → Int32 → Option (Int32)
  | 0 => fun _ => none
  | k + 1 => fun x5 =>
    if rows ≤ x5 then (some (-5))
    else (ob1 (d_X4_get n x5 p1 f cols) fun r2 =>
    if r2 = p2 then (ob1 (d_X4_get n x5 p3 f cols) fun r5 =>
    if r5 = p4 then (some x5)
    else ((lp_X4_rowOfBoth_3  n f cols rows p1 p2 p3 p4 k) (x5 + 1)))
    else ((lp_X4_rowOfBoth_3  n f cols rows p1 p2 p3 p4 k) (x5 + 1)))
def d_X4_rowOfBoth (n : Nat) (p1 : Int32) (p2 : Int32) (p3 : Int32) (p4 : Int32) (f : Nat → Int32) (cols : Int32) (rows : Int32) : Option (Int32) :=
    lp_X4_rowOfBoth_3  n f cols rows p1 p2 p3 p4 fuel 0
set_option maxHeartbeats 4000000 in
set_option maxRecDepth 100000 in
theorem c_X4_rowOfBoth (l : Launch) (D : va_G) (cI cC cE : ClassId) (h0 h1 : Nat) (sz : Nat) (n : Nat) (f : Nat → Int32) (cols : Int32) (rows : Int32) (p1 : Int32) (p2 : Int32) (p3 : Int32) (p4 : Int32) (r0 : Int32) (h : d_X4_rowOfBoth n p1 p2 p3 p4 f cols rows = some r0) : Met l yX4_rowOfBoth wsX4_rowOfBoth ({ frames := 1, cells := 0, slots := 0, locals := 23 } : Room) (kP D (kT cI cC cE) [.ref h0, .int p1, .int p2, .int p3, .int p4] (w_X4_rowOfBoth cI cC h0 h1 n f cols rows) sz) (kQi D (kT cI cC cE) (w_X4_rowOfBoth cI cC h0 h1 n f cols rows) (w_X4_rowOfBoth cI cC h0 h1 n f cols rows) sz r0) 0 0 (va_A (w_X4_rowOfBoth cI cC h0 h1 n f cols rows) sz) := by
  refine kMetI (cc := cX4_rowOfBoth) (maxL := 6) (own := RX4) (by decide) rfl (Nat.le_of_ble_eq_true rfl) rfl ?_
  intro p e s m below meth c A Q hx hb hml hown hts hP hK hD hA hS hname fin ls hl
  have hl : lv_has ls 6 [(0, .ref h0), (1, .int p1), (2, .int p2), (3, .int p3), (4, .int p4)] := hl
  have hiX4 : ∀ w ∈ u_ws RX4 TX4 3, w ∈ wsX4_rowOfBoth := by decide +kernel
  have hL3 : ∀ (k : Nat), ∀ (x5 : Int32) (H : Heap) (locs : List Loc), va_P D vwCl (w_X4_rowOfBoth cI cC h0 h1 n f cols rows) H → va_D A (w_X4_rowOfBoth cI cC h0 h1 n f cols rows) → va_S A s.heap H locs → ∀ (ls : Array Slot), lv_has ls 6 [(0, .ref h0), (1, .int p1), (2, .int p2), (3, .int p3), (4, .int p4), (5, .int x5)] → lp_X4_rowOfBoth_3  n f cols rows p1 p2 p3 p4 k x5 = some r0 → W p l e ({ frames := 1, cells := 0, slots := 0, locals := 23 } : Room) s m [.ref h0, .int p1, .int p2, .int p3, .int p4].toArray below meth c H locs 0 0 Q (F0 m 3 ls []) := by
    intro k
    induction k with
    | zero =>
      intro x5 H locs hP hD hS ls hl h
      exact k_none h
    | succ k ih =>
      intro x5 H locs hP hD hS ls hl h
      dsimp only [lp_X4_rowOfBoth_3] at h
      refine lv_iload hx hb dX4_rowOfBoth_3 (lv_at hl 5 rfl) ?_
      refine lv_aload_n hx hb dX4_rowOfBoth_5 rfl (lv_at hl 0 rfl) ?_
      refine va_get (ci := 4) (C := RX4) (T := TX4) (N := 3) hx hb hts hiX4 hown hK hP 0 rfl rfl 2 (by decide) (hts (.fieldLink RX4 19 "RiddleTrade$Table" "rows" "I") (List.mem_of_getElem? (i := 1) rfl)) (fun _ h9 => h9) rfl dX4_rowOfBoth_6 ?_
      refine lv_icmp_ge (tgt := 44) hx hb dX4_rowOfBoth_9 (by decide) (fun c1 => ?_) (fun c1 => ?_)
      · have h := (k_iB h).1 c1
        refine lv_bipush (v := (-5)) hx hb dX4_rowOfBoth_44 (by decide) ?_
        cases h
        exact fin _ _ _ _ dX4_rowOfBoth_46 hP hD hS
      · have h := (k_iB h).2 c1
        refine lv_aload_n hx hb dX4_rowOfBoth_12 rfl (lv_at hl 0 rfl) ?_
        refine lv_iload hx hb dX4_rowOfBoth_13 (lv_at hl 5 rfl) ?_
        refine lv_iload_n hx hb dX4_rowOfBoth_15 rfl (lv_at hl 1 rfl) ?_
        obtain ⟨r2, hu3, h⟩ := ob1_el h
        refine kcVi (ci := 4) (q := (RX4, TX4, 3)) (ws1 := (w_X4_rowOfBoth cI cC h0 h1 n f cols rows)) ⟨hx, hb, hml, hown, hts⟩ [0, 1] [] (c_X4_get l D cI cC cE h0 h1 _ n f cols rows x5 p1 r2 hu3) (cwV 2 hts gX4_rowOfBoth_X4_get rfl rfl rfl (by decide +kernel) ⟨Nat.le_of_ble_eq_true rfl, Nat.le_of_ble_eq_true rfl⟩) hK hP hD hS hA rfl rfl rfl rfl rfl rfl rfl rfl rfl hl.1 rfl (Nat.le_of_ble_eq_true rfl) dX4_rowOfBoth_16 ⟨Nat.le_refl 0, Nat.le_refl 0⟩ (fun H locs hP hD hS => ?_)
        refine lv_iload_n hx hb dX4_rowOfBoth_19 rfl (lv_at hl 2 rfl) ?_
        refine lv_icmp_ne (tgt := 38) hx hb dX4_rowOfBoth_20 (by decide) (fun c4 => ?_) (fun c4 => ?_)
        · have h := (k_iB h).2 c4
          refine lv_iinc (v := (x5 + 1)) (lv' := [(5, .int (x5 + 1)), (0, .ref h0), (1, .int p1), (2, .int p2), (3, .int p3), (4, .int p4)]) hx hb dX4_rowOfBoth_38 hl (k := 5) rfl rfl (by decide) rfl (fun ls hl => ?_)
          refine lv_goto (tgt := 3) hx hb dX4_rowOfBoth_41 (by decide) ?_
          exact ih (x5 + 1) _ _ hP hD hS _ (lv_sub hl [1, 2, 3, 4, 5, 0] rfl) h
        · have h := (k_iB h).1 c4
          refine lv_aload_n hx hb dX4_rowOfBoth_23 rfl (lv_at hl 0 rfl) ?_
          refine lv_iload hx hb dX4_rowOfBoth_24 (lv_at hl 5 rfl) ?_
          refine lv_iload_n hx hb dX4_rowOfBoth_26 rfl (lv_at hl 3 rfl) ?_
          obtain ⟨r5, hu6, h⟩ := ob1_el h
          refine kcVi (ci := 4) (q := (RX4, TX4, 3)) (ws1 := (w_X4_rowOfBoth cI cC h0 h1 n f cols rows)) ⟨hx, hb, hml, hown, hts⟩ [0, 1] [] (c_X4_get l D cI cC cE h0 h1 _ n f cols rows x5 p3 r5 hu6) (cwV 2 hts gX4_rowOfBoth_X4_get rfl rfl rfl (by decide +kernel) ⟨Nat.le_of_ble_eq_true rfl, Nat.le_of_ble_eq_true rfl⟩) hK hP hD hS hA rfl rfl rfl rfl rfl rfl rfl rfl rfl hl.1 rfl (Nat.le_of_ble_eq_true rfl) dX4_rowOfBoth_27 ⟨Nat.le_refl 0, Nat.le_refl 0⟩ (fun H locs hP hD hS => ?_)
          refine lv_iload hx hb dX4_rowOfBoth_30 (lv_at hl 4 rfl) ?_
          refine lv_icmp_ne (tgt := 38) hx hb dX4_rowOfBoth_32 (by decide) (fun c7 => ?_) (fun c7 => ?_)
          · have h := (k_iB h).2 c7
            refine lv_iinc (v := (x5 + 1)) (lv' := [(5, .int (x5 + 1)), (0, .ref h0), (1, .int p1), (2, .int p2), (3, .int p3), (4, .int p4)]) hx hb dX4_rowOfBoth_38 hl (k := 5) rfl rfl (by decide) rfl (fun ls hl => ?_)
            refine lv_goto (tgt := 3) hx hb dX4_rowOfBoth_41 (by decide) ?_
            exact ih (x5 + 1) _ _ hP hD hS _ (lv_sub hl [1, 2, 3, 4, 5, 0] rfl) h
          · have h := (k_iB h).1 c7
            refine lv_iload hx hb dX4_rowOfBoth_35 (lv_at hl 5 rfl) ?_
            cases h
            exact fin _ _ _ _ dX4_rowOfBoth_37 hP hD hS
  dsimp only [d_X4_rowOfBoth] at h
  refine lv_iconst (v := 0) hx hb dX4_rowOfBoth_0 (by decide) ?_
  refine lv_istore (lv' := [(5, .int 0), (0, .ref h0), (1, .int p1), (2, .int p2), (3, .int p3), (4, .int p4)]) hx hb dX4_rowOfBoth_1 hl (by decide) rfl (fun ls hl => ?_)
  exact hL3   fuel 0 _ _ hP hD hS _ (lv_sub hl [1, 2, 3, 4, 5, 0] rfl) h
abbrev w_X4_sumOf (cI cC : ClassId) (h0 h1 : Nat) (n : Nat) (f : Nat → Int32) (cols : Int32) (rows : Int32) : va_W := [(h0, .inr (4, [.ref h1, .int cols, .int rows])), (h1, .inl (cI, n, .inl f))]
def lp_X4_sumOf_4 (n : Nat) (f : Nat → Int32) (cols : Int32) (rows : Int32) (p1 : Int32) : Nat → Int32 → Int32 → Option (Int32)
  | 0 => fun _ _ => none
  | k + 1 => fun x2 x3 =>
    if rows ≤ x3 then (some x2)
    else (ob1 (d_X4_get n x3 p1 f cols) fun r2 =>
    (lp_X4_sumOf_4  n f cols rows p1 k) (x2 + r2) (x3 + 1))
def d_X4_sumOf (n : Nat) (p1 : Int32) (f : Nat → Int32) (cols : Int32) (rows : Int32) : Option (Int32) :=
    lp_X4_sumOf_4  n f cols rows p1 fuel 0 0
set_option maxHeartbeats 4000000 in
set_option maxRecDepth 100000 in
theorem c_X4_sumOf (l : Launch) (D : va_G) (cI cC cE : ClassId) (h0 h1 : Nat) (sz : Nat) (n : Nat) (f : Nat → Int32) (cols : Int32) (rows : Int32) (p1 : Int32) (r0 : Int32) (h : d_X4_sumOf n p1 f cols rows = some r0) : Met l yX4_sumOf wsX4_sumOf ({ frames := 1, cells := 0, slots := 0, locals := 23 } : Room) (kP D (kT cI cC cE) [.ref h0, .int p1] (w_X4_sumOf cI cC h0 h1 n f cols rows) sz) (kQi D (kT cI cC cE) (w_X4_sumOf cI cC h0 h1 n f cols rows) (w_X4_sumOf cI cC h0 h1 n f cols rows) sz r0) 0 0 (va_A (w_X4_sumOf cI cC h0 h1 n f cols rows) sz) := by
  refine kMetI (cc := cX4_sumOf) (maxL := 4) (own := RX4) (by decide) rfl (Nat.le_of_ble_eq_true rfl) rfl ?_
  intro p e s m below meth c A Q hx hb hml hown hts hP hK hD hA hS hname fin ls hl
  have hl : lv_has ls 4 [(0, .ref h0), (1, .int p1)] := hl
  have hiX4 : ∀ w ∈ u_ws RX4 TX4 3, w ∈ wsX4_sumOf := by decide +kernel
  have hL4 : ∀ (k : Nat), ∀ (x2 : Int32) (x3 : Int32) (H : Heap) (locs : List Loc), va_P D vwCl (w_X4_sumOf cI cC h0 h1 n f cols rows) H → va_D A (w_X4_sumOf cI cC h0 h1 n f cols rows) → va_S A s.heap H locs → ∀ (ls : Array Slot), lv_has ls 4 [(0, .ref h0), (1, .int p1), (2, .int x2), (3, .int x3)] → lp_X4_sumOf_4  n f cols rows p1 k x2 x3 = some r0 → W p l e ({ frames := 1, cells := 0, slots := 0, locals := 23 } : Room) s m [.ref h0, .int p1].toArray below meth c H locs 0 0 Q (F0 m 4 ls []) := by
    intro k
    induction k with
    | zero =>
      intro x2 x3 H locs hP hD hS ls hl h
      exact k_none h
    | succ k ih =>
      intro x2 x3 H locs hP hD hS ls hl h
      dsimp only [lp_X4_sumOf_4] at h
      refine lv_iload_n hx hb dX4_sumOf_4 rfl (lv_at hl 3 rfl) ?_
      refine lv_aload_n hx hb dX4_sumOf_5 rfl (lv_at hl 0 rfl) ?_
      refine va_get (ci := 4) (C := RX4) (T := TX4) (N := 3) hx hb hts hiX4 hown hK hP 0 rfl rfl 2 (by decide) (hts (.fieldLink RX4 19 "RiddleTrade$Table" "rows" "I") (List.mem_of_getElem? (i := 1) rfl)) (fun _ h9 => h9) rfl dX4_sumOf_6 ?_
      refine lv_icmp_ge (tgt := 27) hx hb dX4_sumOf_9 (by decide) (fun c1 => ?_) (fun c1 => ?_)
      · have h := (k_iB h).1 c1
        refine lv_iload_n hx hb dX4_sumOf_27 rfl (lv_at hl 2 rfl) ?_
        cases h
        exact fin _ _ _ _ dX4_sumOf_28 hP hD hS
      · have h := (k_iB h).2 c1
        refine lv_iload_n hx hb dX4_sumOf_12 rfl (lv_at hl 2 rfl) ?_
        refine lv_aload_n hx hb dX4_sumOf_13 rfl (lv_at hl 0 rfl) ?_
        refine lv_iload_n hx hb dX4_sumOf_14 rfl (lv_at hl 3 rfl) ?_
        refine lv_iload_n hx hb dX4_sumOf_15 rfl (lv_at hl 1 rfl) ?_
        obtain ⟨r2, hu3, h⟩ := ob1_el h
        refine kcVi (ci := 4) (q := (RX4, TX4, 3)) (ws1 := (w_X4_sumOf cI cC h0 h1 n f cols rows)) ⟨hx, hb, hml, hown, hts⟩ [0, 1] [] (c_X4_get l D cI cC cE h0 h1 _ n f cols rows x3 p1 r2 hu3) (cwV 2 hts gX4_sumOf_X4_get rfl rfl rfl (by decide +kernel) ⟨Nat.le_of_ble_eq_true rfl, Nat.le_of_ble_eq_true rfl⟩) hK hP hD hS hA rfl rfl rfl rfl rfl rfl rfl rfl rfl hl.1 rfl (Nat.le_of_ble_eq_true rfl) dX4_sumOf_16 ⟨Nat.le_refl 0, Nat.le_refl 0⟩ (fun H locs hP hD hS => ?_)
        refine lv_iadd hx hb dX4_sumOf_19 ?_
        refine lv_istore_n (lv' := [(2, .int (x2 + r2)), (0, .ref h0), (1, .int p1), (3, .int x3)]) hx hb dX4_sumOf_20 rfl hl (by decide) rfl (fun ls hl => ?_)
        refine lv_iinc (v := (x3 + 1)) (lv' := [(3, .int (x3 + 1)), (2, .int (x2 + r2)), (0, .ref h0), (1, .int p1)]) hx hb dX4_sumOf_21 hl (k := 3) rfl rfl (by decide) rfl (fun ls hl => ?_)
        refine lv_goto (tgt := 4) hx hb dX4_sumOf_24 (by decide) ?_
        exact ih (x2 + r2) (x3 + 1) _ _ hP hD hS _ (lv_sub hl [2, 3, 1, 0] rfl) h
  dsimp only [d_X4_sumOf] at h
  refine lv_iconst (v := 0) hx hb dX4_sumOf_0 (by decide) ?_
  refine lv_istore_n (lv' := [(2, .int 0), (0, .ref h0), (1, .int p1)]) hx hb dX4_sumOf_1 rfl hl (by decide) rfl (fun ls hl => ?_)
  refine lv_iconst (v := 0) hx hb dX4_sumOf_2 (by decide) ?_
  refine lv_istore_n (lv' := [(3, .int 0), (2, .int 0), (0, .ref h0), (1, .int p1)]) hx hb dX4_sumOf_3 rfl hl (by decide) rfl (fun ls hl => ?_)
  exact hL4   fuel 0 0 _ _ hP hD hS _ (lv_sub hl [2, 3, 1, 0] rfl) h
end
section
abbrev w_X3_length (cI cC : ClassId) (h0 h1 : Nat) (hd : Int32) (ln : Int32) : va_W := [(h0, .inr (3, [.ref h1, .int hd, .int ln]))]
def d_X3_length (ln : Int32) : Int32 :=
    ln
set_option maxHeartbeats 4000000 in
set_option maxRecDepth 100000 in
theorem c_X3_length (l : Launch) (D : va_G) (cI cC cE : ClassId) (h0 h1 : Nat) (sz : Nat) (hd : Int32) (ln : Int32) (r0 : Int32) (h : d_X3_length ln = r0) : Met l yX3_length wsX3_length ({ frames := 0, cells := 0, slots := 0, locals := 0 } : Room) (kP D (kT cI cC cE) [.ref h0] (w_X3_length cI cC h0 h1 hd ln) sz) (kQi D (kT cI cC cE) (w_X3_length cI cC h0 h1 hd ln) (w_X3_length cI cC h0 h1 hd ln) sz r0) 0 0 (va_A (w_X3_length cI cC h0 h1 hd ln) sz) := by
  refine kMetI (cc := cX3_length) (maxL := 1) (own := RX3) (by decide) rfl (Nat.le_of_ble_eq_true rfl) rfl ?_
  intro p e s m below meth c A Q hx hb hml hown hts hP hK hD hA hS hname fin ls hl
  have hl : lv_has ls 1 [(0, .ref h0)] := hl
  have hiX3 : ∀ w ∈ u_ws RX3 TX3 3, w ∈ wsX3_length := by decide +kernel
  dsimp only [d_X3_length] at h
  refine lv_aload_n hx hb dX3_length_0 rfl (lv_at hl 0 rfl) ?_
  refine va_get (ci := 3) (C := RX3) (T := TX3) (N := 3) hx hb hts hiX3 hown hK hP 0 rfl rfl 2 (by decide) (hts (.fieldLink RX3 15 "RiddleTrade$Row" "length" "I") (List.mem_of_getElem? (i := 1) rfl)) (fun _ h9 => h9) rfl dX3_length_1 ?_
  cases h
  exact fin _ _ _ _ dX3_length_4 hP hD hS
abbrev w_X3_at (cI cC : ClassId) (h0 h1 : Nat) (f : Nat → Int32) (hd : Int32) (ln : Int32) : va_W := [(h0, .inr (3, [.ref h1, .int hd, .int ln])), (h1, .inl (cI, 40, .inl f))]
def d_X3_at (p1 : Int32) (f : Nat → Int32) (hd : Int32) (ln : Int32) : Option (Int32) :=
    if p1 < 0 then (some (-5))
    else (if p1 < ln then (if ((hd + p1) - (hd + p1) / 40 * 40) < 0 then (some (-5))
    else (if 40 ≤ ((hd + p1) - (hd + p1) / 40 * 40) then (some (-5))
    else (ob1 (rd 40 f ((hd + p1) - (hd + p1) / 40 * 40)) fun v5 =>
    some v5)))
    else (some (-5)))
set_option maxHeartbeats 4000000 in
set_option maxRecDepth 100000 in
theorem c_X3_at (l : Launch) (D : va_G) (cI cC cE : ClassId) (h0 h1 : Nat) (sz : Nat) (f : Nat → Int32) (hd : Int32) (ln : Int32) (p1 : Int32) (r0 : Int32) (h : d_X3_at p1 f hd ln = some r0) : Met l yX3_at wsX3_at ({ frames := 0, cells := 0, slots := 0, locals := 0 } : Room) (kP D (kT cI cC cE) [.ref h0, .int p1] (w_X3_at cI cC h0 h1 f hd ln) sz) (kQi D (kT cI cC cE) (w_X3_at cI cC h0 h1 f hd ln) (w_X3_at cI cC h0 h1 f hd ln) sz r0) 0 0 (va_A (w_X3_at cI cC h0 h1 f hd ln) sz) := by
  refine kMetI (cc := cX3_at) (maxL := 3) (own := RX3) (by decide) rfl (Nat.le_of_ble_eq_true rfl) rfl ?_
  intro p e s m below meth c A Q hx hb hml hown hts hP hK hD hA hS hname fin ls hl
  have hl : lv_has ls 3 [(0, .ref h0), (1, .int p1)] := hl
  have hiX3 : ∀ w ∈ u_ws RX3 TX3 3, w ∈ wsX3_at := by decide +kernel
  dsimp only [d_X3_at] at h
  refine lv_iload_n hx hb dX3_at_0 rfl (lv_at hl 1 rfl) ?_
  refine lv_if_lt (tgt := 12) hx hb dX3_at_1 (by decide) (fun c1 => ?_) (fun c1 => ?_)
  · have h := (k_iB h).1 c1
    refine lv_bipush (v := (-5)) hx hb dX3_at_12 (by decide) ?_
    cases h
    exact fin _ _ _ _ dX3_at_14 hP hD hS
  · have h := (k_iB h).2 c1
    refine lv_iload_n hx hb dX3_at_4 rfl (lv_at hl 1 rfl) ?_
    refine lv_aload_n hx hb dX3_at_5 rfl (lv_at hl 0 rfl) ?_
    refine va_get (ci := 3) (C := RX3) (T := TX3) (N := 3) hx hb hts hiX3 hown hK hP 0 rfl rfl 2 (by decide) (hts (.fieldLink RX3 15 "RiddleTrade$Row" "length" "I") (List.mem_of_getElem? (i := 1) rfl)) (fun _ h9 => h9) rfl dX3_at_6 ?_
    refine lv_icmp_lt (tgt := 15) hx hb dX3_at_9 (by decide) (fun c2 => ?_) (fun c2 => ?_)
    · have h := (k_iB h).1 c2
      refine lv_aload_n hx hb dX3_at_15 rfl (lv_at hl 0 rfl) ?_
      refine va_get (ci := 3) (C := RX3) (T := TX3) (N := 3) hx hb hts hiX3 hown hK hP 0 rfl rfl 1 (by decide) (hts (.fieldLink RX3 19 "RiddleTrade$Row" "head" "I") (List.mem_of_getElem? (i := 2) rfl)) (fun _ h9 => h9) rfl dX3_at_16 ?_
      refine lv_iload_n hx hb dX3_at_19 rfl (lv_at hl 1 rfl) ?_
      refine lv_iadd hx hb dX3_at_20 ?_
      refine lv_bipush (v := 40) hx hb dX3_at_21 (by decide) ?_
      refine lv_irem hx hb dX3_at_23 (by decide) ?_
      refine lv_istore_n (lv' := [(2, .int ((hd + p1) - (hd + p1) / 40 * 40)), (0, .ref h0), (1, .int p1)]) hx hb dX3_at_24 rfl hl (by decide) rfl (fun ls hl => ?_)
      refine lv_iload_n hx hb dX3_at_25 rfl (lv_at hl 0 rfl) ?_
      refine lv_if_lt (tgt := 47) hx hb dX3_at_26 (by decide) (fun c3 => ?_) (fun c3 => ?_)
      · have h := (k_iB h).1 c3
        refine lv_bipush (v := (-5)) hx hb dX3_at_47 (by decide) ?_
        cases h
        exact fin _ _ _ _ dX3_at_49 hP hD hS
      · have h := (k_iB h).2 c3
        refine lv_iload_n hx hb dX3_at_29 rfl (lv_at hl 0 rfl) ?_
        refine lv_aload_n hx hb dX3_at_30 rfl (lv_at hl 1 rfl) ?_
        refine va_get (ci := 3) (C := RX3) (T := TX3) (N := 3) hx hb hts hiX3 hown hK hP 0 rfl rfl 0 (by decide) (hts (.fieldLink RX3 9 "RiddleTrade$Row" "ring" "[I") (List.mem_of_getElem? (i := 3) rfl)) (fun _ h9 => h9) rfl dX3_at_31 ?_
        refine va_alen (v := 40) hx hb hK hP 1 0 rfl rfl (show Int32.ofNat 40 = 40 from rfl) dX3_at_34 ?_
        refine lv_icmp_ge (tgt := 47) hx hb dX3_at_35 (by decide) (fun c4 => ?_) (fun c4 => ?_)
        · have h := (k_iB h).1 c4
          refine lv_bipush (v := (-5)) hx hb dX3_at_47 (by decide) ?_
          cases h
          exact fin _ _ _ _ dX3_at_49 hP hD hS
        · have h := (k_iB h).2 c4
          refine lv_aload_n hx hb dX3_at_38 rfl (lv_at hl 1 rfl) ?_
          refine va_get (ci := 3) (C := RX3) (T := TX3) (N := 3) hx hb hts hiX3 hown hK hP 0 rfl rfl 0 (by decide) (hts (.fieldLink RX3 9 "RiddleTrade$Row" "ring" "[I") (List.mem_of_getElem? (i := 3) rfl)) (fun _ h9 => h9) rfl dX3_at_39 ?_
          refine lv_iload_n hx hb dX3_at_42 rfl (lv_at hl 0 rfl) ?_
          refine k_iald hx hb hK hP 1 0 rfl rfl h dX3_at_43 (fun v5 h => ?_)
          refine lv_goto (tgt := 49) hx hb dX3_at_44 (by decide) ?_
          cases h
          exact fin _ _ _ _ dX3_at_49 hP hD hS
    · have h := (k_iB h).2 c2
      refine lv_bipush (v := (-5)) hx hb dX3_at_12 (by decide) ?_
      cases h
      exact fin _ _ _ _ dX3_at_14 hP hD hS
abbrev w_X3_placeOf (cI cC : ClassId) (h0 h1 : Nat) (f : Nat → Int32) (hd : Int32) (ln : Int32) : va_W := [(h0, .inr (3, [.ref h1, .int hd, .int ln])), (h1, .inl (cI, 40, .inl f))]
def lp_X3_placeOf_2 (f : Nat → Int32) (hd : Int32) (ln : Int32) (p1 : Int32) : Nat → Int32 → Option (Int32)
  | 0 => fun _ => none
  | k + 1 => fun x2 =>
    if ln ≤ x2 then (some (-5))
    else (ob1 (d_X3_at x2 f hd ln) fun r2 =>
    if r2 = p1 then (some x2)
    else ((lp_X3_placeOf_2  f hd ln p1 k) (x2 + 1)))
def d_X3_placeOf (p1 : Int32) (f : Nat → Int32) (hd : Int32) (ln : Int32) : Option (Int32) :=
    lp_X3_placeOf_2  f hd ln p1 fuel 0
set_option maxHeartbeats 4000000 in
set_option maxRecDepth 100000 in
theorem c_X3_placeOf (l : Launch) (D : va_G) (cI cC cE : ClassId) (h0 h1 : Nat) (sz : Nat) (f : Nat → Int32) (hd : Int32) (ln : Int32) (p1 : Int32) (r0 : Int32) (h : d_X3_placeOf p1 f hd ln = some r0) : Met l yX3_placeOf wsX3_placeOf ({ frames := 1, cells := 0, slots := 0, locals := 22 } : Room) (kP D (kT cI cC cE) [.ref h0, .int p1] (w_X3_placeOf cI cC h0 h1 f hd ln) sz) (kQi D (kT cI cC cE) (w_X3_placeOf cI cC h0 h1 f hd ln) (w_X3_placeOf cI cC h0 h1 f hd ln) sz r0) 0 0 (va_A (w_X3_placeOf cI cC h0 h1 f hd ln) sz) := by
  refine kMetI (cc := cX3_placeOf) (maxL := 3) (own := RX3) (by decide) rfl (Nat.le_of_ble_eq_true rfl) rfl ?_
  intro p e s m below meth c A Q hx hb hml hown hts hP hK hD hA hS hname fin ls hl
  have hl : lv_has ls 3 [(0, .ref h0), (1, .int p1)] := hl
  have hiX3 : ∀ w ∈ u_ws RX3 TX3 3, w ∈ wsX3_placeOf := by decide +kernel
  have hL2 : ∀ (k : Nat), ∀ (x2 : Int32) (H : Heap) (locs : List Loc), va_P D vwCl (w_X3_placeOf cI cC h0 h1 f hd ln) H → va_D A (w_X3_placeOf cI cC h0 h1 f hd ln) → va_S A s.heap H locs → ∀ (ls : Array Slot), lv_has ls 3 [(0, .ref h0), (1, .int p1), (2, .int x2)] → lp_X3_placeOf_2  f hd ln p1 k x2 = some r0 → W p l e ({ frames := 1, cells := 0, slots := 0, locals := 22 } : Room) s m [.ref h0, .int p1].toArray below meth c H locs 0 0 Q (F0 m 2 ls []) := by
    intro k
    induction k with
    | zero =>
      intro x2 H locs hP hD hS ls hl h
      exact k_none h
    | succ k ih =>
      intro x2 H locs hP hD hS ls hl h
      dsimp only [lp_X3_placeOf_2] at h
      refine lv_iload_n hx hb dX3_placeOf_2 rfl (lv_at hl 2 rfl) ?_
      refine lv_aload_n hx hb dX3_placeOf_3 rfl (lv_at hl 0 rfl) ?_
      refine va_get (ci := 3) (C := RX3) (T := TX3) (N := 3) hx hb hts hiX3 hown hK hP 0 rfl rfl 2 (by decide) (hts (.fieldLink RX3 15 "RiddleTrade$Row" "length" "I") (List.mem_of_getElem? (i := 1) rfl)) (fun _ h9 => h9) rfl dX3_placeOf_4 ?_
      refine lv_icmp_ge (tgt := 27) hx hb dX3_placeOf_7 (by decide) (fun c1 => ?_) (fun c1 => ?_)
      · have h := (k_iB h).1 c1
        refine lv_bipush (v := (-5)) hx hb dX3_placeOf_27 (by decide) ?_
        cases h
        exact fin _ _ _ _ dX3_placeOf_29 hP hD hS
      · have h := (k_iB h).2 c1
        refine lv_aload_n hx hb dX3_placeOf_10 rfl (lv_at hl 0 rfl) ?_
        refine lv_iload_n hx hb dX3_placeOf_11 rfl (lv_at hl 2 rfl) ?_
        obtain ⟨r2, hu3, h⟩ := ob1_el h
        refine kcVi (ci := 3) (q := (RX3, TX3, 3)) (ws1 := (w_X3_placeOf cI cC h0 h1 f hd ln)) ⟨hx, hb, hml, hown, hts⟩ [0, 1] [] (c_X3_at l D cI cC cE h0 h1 _ f hd ln x2 r2 hu3) (cwV 1 hts gX3_placeOf_X3_at rfl rfl rfl (by decide +kernel) ⟨Nat.le_of_ble_eq_true rfl, Nat.le_of_ble_eq_true rfl⟩) hK hP hD hS hA rfl rfl rfl rfl rfl rfl rfl rfl rfl hl.1 rfl (Nat.le_of_ble_eq_true rfl) dX3_placeOf_12 ⟨Nat.le_refl 0, Nat.le_refl 0⟩ (fun H locs hP hD hS => ?_)
        refine lv_iload_n hx hb dX3_placeOf_15 rfl (lv_at hl 1 rfl) ?_
        refine lv_icmp_ne (tgt := 21) hx hb dX3_placeOf_16 (by decide) (fun c4 => ?_) (fun c4 => ?_)
        · have h := (k_iB h).2 c4
          refine lv_iinc (v := (x2 + 1)) (lv' := [(2, .int (x2 + 1)), (0, .ref h0), (1, .int p1)]) hx hb dX3_placeOf_21 hl (k := 2) rfl rfl (by decide) rfl (fun ls hl => ?_)
          refine lv_goto (tgt := 2) hx hb dX3_placeOf_24 (by decide) ?_
          exact ih (x2 + 1) _ _ hP hD hS _ (lv_sub hl [1, 2, 0] rfl) h
        · have h := (k_iB h).1 c4
          refine lv_iload_n hx hb dX3_placeOf_19 rfl (lv_at hl 2 rfl) ?_
          cases h
          exact fin _ _ _ _ dX3_placeOf_20 hP hD hS
  dsimp only [d_X3_placeOf] at h
  refine lv_iconst (v := 0) hx hb dX3_placeOf_0 (by decide) ?_
  refine lv_istore_n (lv' := [(2, .int 0), (0, .ref h0), (1, .int p1)]) hx hb dX3_placeOf_1 rfl hl (by decide) rfl (fun ls hl => ?_)
  exact hL2   fuel 0 _ _ hP hD hS _ (lv_sub hl [1, 2, 0] rfl) h
abbrev w_X3_addLast (cI cC : ClassId) (h0 h1 : Nat) (f : Nat → Int32) (hd : Int32) (ln : Int32) : va_W := [(h0, .inr (3, [.ref h1, .int hd, .int ln])), (h1, .inl (cI, 40, .inl f))]
def d_X3_addLast (p1 : Int32) (f : Nat → Int32) (hd : Int32) (ln : Int32) : Option ((Nat → Int32) × Int32) :=
    if 40 ≤ ln then (some (f, ln))
    else (if ((hd + ln) - (hd + ln) / 40 * 40) < 0 then (some (f, ln))
    else (if 40 ≤ ((hd + ln) - (hd + ln) / 40 * 40) then (some (f, ln))
    else (ob1 (wr 40 f ((hd + ln) - (hd + ln) / 40 * 40) p1) fun f_4 =>
    some (f_4, (ln + 1)))))
set_option maxHeartbeats 4000000 in
set_option maxRecDepth 100000 in
theorem c_X3_addLast (l : Launch) (D : va_G) (cI cC cE : ClassId) (h0 h1 : Nat) (sz : Nat) (f : Nat → Int32) (hd : Int32) (ln : Int32) (p1 : Int32) (o_f : Nat → Int32) (o_ln : Int32) (h : d_X3_addLast p1 f hd ln = some (o_f, o_ln)) : Met l yX3_addLast wsX3_addLast ({ frames := 0, cells := 0, slots := 0, locals := 0 } : Room) (kP D (kT cI cC cE) [.ref h0, .int p1] (w_X3_addLast cI cC h0 h1 f hd ln) sz) (kQv D (kT cI cC cE) (w_X3_addLast cI cC h0 h1 f hd ln) (w_X3_addLast cI cC h0 h1 o_f hd o_ln) sz) 0 0 (va_A (w_X3_addLast cI cC h0 h1 f hd ln) sz) := by
  refine kMetV (cc := cX3_addLast) (maxL := 3) (own := RX3) (by decide) rfl (Nat.le_of_ble_eq_true rfl) rfl ?_
  intro p e s m below meth c A Q hx hb hml hown hts hP hK hD hA hS hname fin ls hl
  have hl : lv_has ls 3 [(0, .ref h0), (1, .int p1)] := hl
  have hiX3 : ∀ w ∈ u_ws RX3 TX3 3, w ∈ wsX3_addLast := by decide +kernel
  dsimp only [d_X3_addLast] at h
  refine lv_aload_n hx hb dX3_addLast_0 rfl (lv_at hl 0 rfl) ?_
  refine va_get (ci := 3) (C := RX3) (T := TX3) (N := 3) hx hb hts hiX3 hown hK hP 0 rfl rfl 1 (by decide) (hts (.fieldLink RX3 19 "RiddleTrade$Row" "head" "I") (List.mem_of_getElem? (i := 1) rfl)) (fun _ h9 => h9) rfl dX3_addLast_1 ?_
  refine lv_aload_n hx hb dX3_addLast_4 rfl (lv_at hl 0 rfl) ?_
  refine va_get (ci := 3) (C := RX3) (T := TX3) (N := 3) hx hb hts hiX3 hown hK hP 0 rfl rfl 2 (by decide) (hts (.fieldLink RX3 15 "RiddleTrade$Row" "length" "I") (List.mem_of_getElem? (i := 2) rfl)) (fun _ h9 => h9) rfl dX3_addLast_5 ?_
  refine lv_iadd hx hb dX3_addLast_8 ?_
  refine lv_bipush (v := 40) hx hb dX3_addLast_9 (by decide) ?_
  refine lv_irem hx hb dX3_addLast_11 (by decide) ?_
  refine lv_istore_n (lv' := [(2, .int ((hd + ln) - (hd + ln) / 40 * 40)), (0, .ref h0), (1, .int p1)]) hx hb dX3_addLast_12 rfl hl (by decide) rfl (fun ls hl => ?_)
  refine lv_aload_n hx hb dX3_addLast_13 rfl (lv_at hl 1 rfl) ?_
  refine va_get (ci := 3) (C := RX3) (T := TX3) (N := 3) hx hb hts hiX3 hown hK hP 0 rfl rfl 2 (by decide) (hts (.fieldLink RX3 15 "RiddleTrade$Row" "length" "I") (List.mem_of_getElem? (i := 2) rfl)) (fun _ h9 => h9) rfl dX3_addLast_14 ?_
  refine lv_bipush (v := 40) hx hb dX3_addLast_17 (by decide) ?_
  refine lv_icmp_ge (tgt := 52) hx hb dX3_addLast_19 (by decide) (fun c1 => ?_) (fun c1 => ?_)
  · have h := (k_iB h).1 c1
    cases h
    exact fin _ _ _ _ dX3_addLast_52 hP hD hS
  · have h := (k_iB h).2 c1
    refine lv_iload_n hx hb dX3_addLast_22 rfl (lv_at hl 0 rfl) ?_
    refine lv_if_lt (tgt := 52) hx hb dX3_addLast_23 (by decide) (fun c2 => ?_) (fun c2 => ?_)
    · have h := (k_iB h).1 c2
      cases h
      exact fin _ _ _ _ dX3_addLast_52 hP hD hS
    · have h := (k_iB h).2 c2
      refine lv_iload_n hx hb dX3_addLast_26 rfl (lv_at hl 0 rfl) ?_
      refine lv_aload_n hx hb dX3_addLast_27 rfl (lv_at hl 1 rfl) ?_
      refine va_get (ci := 3) (C := RX3) (T := TX3) (N := 3) hx hb hts hiX3 hown hK hP 0 rfl rfl 0 (by decide) (hts (.fieldLink RX3 9 "RiddleTrade$Row" "ring" "[I") (List.mem_of_getElem? (i := 3) rfl)) (fun _ h9 => h9) rfl dX3_addLast_28 ?_
      refine va_alen (v := 40) hx hb hK hP 1 0 rfl rfl (show Int32.ofNat 40 = 40 from rfl) dX3_addLast_31 ?_
      refine lv_icmp_ge (tgt := 52) hx hb dX3_addLast_32 (by decide) (fun c3 => ?_) (fun c3 => ?_)
      · have h := (k_iB h).1 c3
        cases h
        exact fin _ _ _ _ dX3_addLast_52 hP hD hS
      · have h := (k_iB h).2 c3
        refine lv_aload_n hx hb dX3_addLast_35 rfl (lv_at hl 1 rfl) ?_
        refine va_get (ci := 3) (C := RX3) (T := TX3) (N := 3) hx hb hts hiX3 hown hK hP 0 rfl rfl 0 (by decide) (hts (.fieldLink RX3 9 "RiddleTrade$Row" "ring" "[I") (List.mem_of_getElem? (i := 3) rfl)) (fun _ h9 => h9) rfl dX3_addLast_36 ?_
        refine lv_iload_n hx hb dX3_addLast_39 rfl (lv_at hl 0 rfl) ?_
        refine lv_iload_n hx hb dX3_addLast_40 rfl (lv_at hl 2 rfl) ?_
        refine k_iast hx hb hK hP hD hS 1 0 rfl rfl h dX3_addLast_41 (fun f_4 H locs hP hD hS h => ?_)
        have hP : va_P D vwCl (w_X3_addLast cI cC h0 h1 f_4 hd ln) H := hP
        have hD : va_D A (w_X3_addLast cI cC h0 h1 f_4 hd ln) := hD
        refine lv_aload_n hx hb dX3_addLast_42 rfl (lv_at hl 1 rfl) ?_
        refine lv_dup hx hb dX3_addLast_43 rfl ?_
        refine va_get (ci := 3) (C := RX3) (T := TX3) (N := 3) hx hb hts hiX3 hown hK hP 0 rfl rfl 2 (by decide) (hts (.fieldLink RX3 15 "RiddleTrade$Row" "length" "I") (List.mem_of_getElem? (i := 2) rfl)) (fun _ h9 => h9) rfl dX3_addLast_44 ?_
        refine lv_iconst (v := 1) hx hb dX3_addLast_47 (by decide) ?_
        refine lv_iadd hx hb dX3_addLast_48 ?_
        refine va_put (ci := 3) (ty := .int) (C := RX3) (T := TX3) (N := 3) hx hb hts hiX3 tyX3 tyX3_ok nmX3 hown hK hP hD hS 0 rfl rfl 2 (by decide) (hts (.fieldLink RX3 15 "RiddleTrade$Row" "length" "I") (List.mem_of_getElem? (i := 2) rfl)) (fun _ h9 => h9) rfl (by decide +kernel) rfl rfl (Nat.le_of_ble_eq_true rfl) dX3_addLast_49 (fun H locs hP hD hS => ?_)
        have hP : va_P D vwCl (w_X3_addLast cI cC h0 h1 f_4 hd (ln + 1)) H := hP
        have hD : va_D A (w_X3_addLast cI cC h0 h1 f_4 hd (ln + 1)) := hD
        cases h
        exact fin _ _ _ _ dX3_addLast_52 hP hD hS
abbrev w_X3_takeFirst (cI cC : ClassId) (h0 h1 : Nat) (f : Nat → Int32) (hd : Int32) (ln : Int32) : va_W := [(h0, .inr (3, [.ref h1, .int hd, .int ln])), (h1, .inl (cI, 40, .inl f))]
def d_X3_takeFirst (f : Nat → Int32) (hd : Int32) (ln : Int32) : Option (Int32 × Int32 × Int32) :=
    ob1 (d_X3_at 0 f hd ln) fun r1 =>
    if ln ≤ 0 then (some (r1, hd, ln))
    else (some (r1, ((hd + 1) - (hd + 1) / 40 * 40), (ln - 1)))
set_option maxHeartbeats 4000000 in
set_option maxRecDepth 100000 in
theorem c_X3_takeFirst (l : Launch) (D : va_G) (cI cC cE : ClassId) (h0 h1 : Nat) (sz : Nat) (f : Nat → Int32) (hd : Int32) (ln : Int32) (r0 : Int32) (o_hd : Int32) (o_ln : Int32) (h : d_X3_takeFirst f hd ln = some (r0, o_hd, o_ln)) : Met l yX3_takeFirst wsX3_takeFirst ({ frames := 1, cells := 0, slots := 0, locals := 22 } : Room) (kP D (kT cI cC cE) [.ref h0] (w_X3_takeFirst cI cC h0 h1 f hd ln) sz) (kQi D (kT cI cC cE) (w_X3_takeFirst cI cC h0 h1 f hd ln) (w_X3_takeFirst cI cC h0 h1 f o_hd o_ln) sz r0) 0 0 (va_A (w_X3_takeFirst cI cC h0 h1 f hd ln) sz) := by
  refine kMetI (cc := cX3_takeFirst) (maxL := 2) (own := RX3) (by decide) rfl (Nat.le_of_ble_eq_true rfl) rfl ?_
  intro p e s m below meth c A Q hx hb hml hown hts hP hK hD hA hS hname fin ls hl
  have hl : lv_has ls 2 [(0, .ref h0)] := hl
  have hiX3 : ∀ w ∈ u_ws RX3 TX3 3, w ∈ wsX3_takeFirst := by decide +kernel
  dsimp only [d_X3_takeFirst] at h
  refine lv_aload_n hx hb dX3_takeFirst_0 rfl (lv_at hl 0 rfl) ?_
  refine lv_iconst (v := 0) hx hb dX3_takeFirst_1 (by decide) ?_
  obtain ⟨r1, hu2, h⟩ := ob1_el h
  refine kcVi (ci := 3) (q := (RX3, TX3, 3)) (ws1 := (w_X3_takeFirst cI cC h0 h1 f hd ln)) ⟨hx, hb, hml, hown, hts⟩ [0, 1] [] (c_X3_at l D cI cC cE h0 h1 _ f hd ln 0 r1 hu2) (cwV 1 hts gX3_takeFirst_X3_at rfl rfl rfl (by decide +kernel) ⟨Nat.le_of_ble_eq_true rfl, Nat.le_of_ble_eq_true rfl⟩) hK hP hD hS hA rfl rfl rfl rfl rfl rfl rfl rfl rfl hl.1 rfl (Nat.le_of_ble_eq_true rfl) dX3_takeFirst_2 ⟨Nat.le_refl 0, Nat.le_refl 0⟩ (fun H locs hP hD hS => ?_)
  refine lv_istore_n (lv' := [(1, .int r1), (0, .ref h0)]) hx hb dX3_takeFirst_5 rfl hl (by decide) rfl (fun ls hl => ?_)
  refine lv_aload_n hx hb dX3_takeFirst_6 rfl (lv_at hl 1 rfl) ?_
  refine va_get (ci := 3) (C := RX3) (T := TX3) (N := 3) hx hb hts hiX3 hown hK hP 0 rfl rfl 2 (by decide) (hts (.fieldLink RX3 15 "RiddleTrade$Row" "length" "I") (List.mem_of_getElem? (i := 1) rfl)) (fun _ h9 => h9) rfl dX3_takeFirst_7 ?_
  refine lv_if_le (tgt := 36) hx hb dX3_takeFirst_10 (by decide) (fun c3 => ?_) (fun c3 => ?_)
  · have h := (k_iB h).1 c3
    refine lv_iload_n hx hb dX3_takeFirst_36 rfl (lv_at hl 0 rfl) ?_
    cases h
    exact fin _ _ _ _ dX3_takeFirst_37 hP hD hS
  · have h := (k_iB h).2 c3
    refine lv_aload_n hx hb dX3_takeFirst_13 rfl (lv_at hl 1 rfl) ?_
    refine lv_aload_n hx hb dX3_takeFirst_14 rfl (lv_at hl 1 rfl) ?_
    refine va_get (ci := 3) (C := RX3) (T := TX3) (N := 3) hx hb hts hiX3 hown hK hP 0 rfl rfl 1 (by decide) (hts (.fieldLink RX3 19 "RiddleTrade$Row" "head" "I") (List.mem_of_getElem? (i := 2) rfl)) (fun _ h9 => h9) rfl dX3_takeFirst_15 ?_
    refine lv_iconst (v := 1) hx hb dX3_takeFirst_18 (by decide) ?_
    refine lv_iadd hx hb dX3_takeFirst_19 ?_
    refine lv_bipush (v := 40) hx hb dX3_takeFirst_20 (by decide) ?_
    refine lv_irem hx hb dX3_takeFirst_22 (by decide) ?_
    refine va_put (ci := 3) (ty := .int) (C := RX3) (T := TX3) (N := 3) hx hb hts hiX3 tyX3 tyX3_ok nmX3 hown hK hP hD hS 0 rfl rfl 1 (by decide) (hts (.fieldLink RX3 19 "RiddleTrade$Row" "head" "I") (List.mem_of_getElem? (i := 2) rfl)) (fun _ h9 => h9) rfl (by decide +kernel) rfl rfl (Nat.le_of_ble_eq_true rfl) dX3_takeFirst_23 (fun H locs hP hD hS => ?_)
    have hP : va_P D vwCl (w_X3_takeFirst cI cC h0 h1 f ((hd + 1) - (hd + 1) / 40 * 40) ln) H := hP
    have hD : va_D A (w_X3_takeFirst cI cC h0 h1 f ((hd + 1) - (hd + 1) / 40 * 40) ln) := hD
    refine lv_aload_n hx hb dX3_takeFirst_26 rfl (lv_at hl 1 rfl) ?_
    refine lv_dup hx hb dX3_takeFirst_27 rfl ?_
    refine va_get (ci := 3) (C := RX3) (T := TX3) (N := 3) hx hb hts hiX3 hown hK hP 0 rfl rfl 2 (by decide) (hts (.fieldLink RX3 15 "RiddleTrade$Row" "length" "I") (List.mem_of_getElem? (i := 1) rfl)) (fun _ h9 => h9) rfl dX3_takeFirst_28 ?_
    refine lv_iconst (v := 1) hx hb dX3_takeFirst_31 (by decide) ?_
    refine lv_isub hx hb dX3_takeFirst_32 ?_
    refine va_put (ci := 3) (ty := .int) (C := RX3) (T := TX3) (N := 3) hx hb hts hiX3 tyX3 tyX3_ok nmX3 hown hK hP hD hS 0 rfl rfl 2 (by decide) (hts (.fieldLink RX3 15 "RiddleTrade$Row" "length" "I") (List.mem_of_getElem? (i := 1) rfl)) (fun _ h9 => h9) rfl (by decide +kernel) rfl rfl (Nat.le_of_ble_eq_true rfl) dX3_takeFirst_33 (fun H locs hP hD hS => ?_)
    have hP : va_P D vwCl (w_X3_takeFirst cI cC h0 h1 f ((hd + 1) - (hd + 1) / 40 * 40) (ln - 1)) H := hP
    have hD : va_D A (w_X3_takeFirst cI cC h0 h1 f ((hd + 1) - (hd + 1) / 40 * 40) (ln - 1)) := hD
    refine lv_iload_n hx hb dX3_takeFirst_36 rfl (lv_at hl 0 rfl) ?_
    cases h
    exact fin _ _ _ _ dX3_takeFirst_37 hP hD hS
end
section
abbrev w_X0_told (cI cC : ClassId) (h0 h1 h3 h5 h7 h9 h11 h8 : Nat) (fS : Nat → Int32) (rnd : Int32) : va_W := [(h0, .inr (0, [.ref h1, .ref h3, .ref h5, .ref h7, .ref h9, .ref h11, .int rnd])), (h7, .inr (4, [.ref h8, .int 2, .int 2])), (h8, .inl (cI, 4, .inl fS))]
def d_X0_told (p1 : Int32) (p2 : Int32) (fS : Nat → Int32) : Option (Int32) :=
    ob1 (d_X4_get 4 p1 0 fS 2) fun r1 =>
    some (if 0 < (p2 + r1) then (p2 + r1) else 0)
set_option maxHeartbeats 4000000 in
set_option maxRecDepth 100000 in
theorem c_X0_told (l : Launch) (D : va_G) (cI cC cE : ClassId) (h0 h1 h3 h5 h7 h9 h11 h8 : Nat) (sz : Nat) (fS : Nat → Int32) (rnd : Int32) (p1 : Int32) (p2 : Int32) (r0 : Int32) (h : d_X0_told p1 p2 fS = some r0) : Met l yX0_told wsX0_told ({ frames := 1, cells := 0, slots := 0, locals := 23 } : Room) (kP D (kT cI cC cE) [.ref h0, .int p1, .int p2] (w_X0_told cI cC h0 h1 h3 h5 h7 h9 h11 h8 fS rnd) sz) (kQi D (kT cI cC cE) (w_X0_told cI cC h0 h1 h3 h5 h7 h9 h11 h8 fS rnd) (w_X0_told cI cC h0 h1 h3 h5 h7 h9 h11 h8 fS rnd) sz r0) 0 0 (va_A (w_X0_told cI cC h0 h1 h3 h5 h7 h9 h11 h8 fS rnd) sz) := by
  refine kMetI (cc := cX0_told) (maxL := 3) (own := RX0) (by decide) rfl (Nat.le_of_ble_eq_true rfl) rfl ?_
  intro p e s m below meth c A Q hx hb hml hown hts hP hK hD hA hS hname fin ls hl
  have hl : lv_has ls 3 [(0, .ref h0), (1, .int p1), (2, .int p2)] := hl
  have hiX0 : ∀ w ∈ u_ws RX0 TX0 7, w ∈ wsX0_told := by decide +kernel
  dsimp only [d_X0_told] at h
  refine lv_iconst (v := 0) hx hb dX0_told_0 (by decide) ?_
  refine lv_iload_n hx hb dX0_told_1 rfl (lv_at hl 2 rfl) ?_
  refine lv_aload_n hx hb dX0_told_2 rfl (lv_at hl 0 rfl) ?_
  refine va_get (ci := 0) (C := RX0) (T := TX0) (N := 7) hx hb hts hiX0 hown hK hP 0 rfl rfl 3 (by decide) (hts (.fieldLink RX0 26 "RiddleTrade$Exchange" "scales" "LRiddleTrade$Table;") (List.mem_of_getElem? (i := 1) rfl)) (fun _ h9 => h9) rfl dX0_told_3 ?_
  refine lv_iload_n hx hb dX0_told_6 rfl (lv_at hl 1 rfl) ?_
  refine lv_iconst (v := 0) hx hb dX0_told_7 (by decide) ?_
  obtain ⟨r1, hu2, h⟩ := ob1_el h
  refine kcVi (ci := 4) (q := (RX4, TX4, 3)) (ws1 := (w_X0_told cI cC h0 h1 h3 h5 h7 h9 h11 h8 fS rnd)) ⟨hx, hb, hml, hown, hts⟩ [1, 2] [0] (c_X4_get l D cI cC cE h7 h8 _ 4 fS 2 2 p1 0 r1 hu2) (cwV 2 hts gX0_told_X4_get rfl rfl rfl (by decide +kernel) ⟨Nat.le_of_ble_eq_true rfl, Nat.le_of_ble_eq_true rfl⟩) hK hP hD hS hA rfl rfl rfl rfl rfl rfl rfl rfl rfl hl.1 rfl (Nat.le_of_ble_eq_true rfl) dX0_told_8 ⟨Nat.le_refl 0, Nat.le_refl 0⟩ (fun H locs hP hD hS => ?_)
  refine lv_iadd hx hb dX0_told_11 ?_
  refine va_mmax hx hb (hml.trans hl.1.symm) hown (hts _ (List.mem_of_getElem? (i := 2) rfl)) (hts _ (List.mem_of_getElem? (i := 3) rfl)) (hts _ (List.mem_of_getElem? (i := 4) rfl)) (hts _ (List.mem_of_getElem? (i := 5) rfl)) (Nat.le_of_ble_eq_true rfl) (Nat.le_of_ble_eq_true rfl) (Nat.le_refl 0) (Nat.le_refl 0) dX0_told_12 ?_
  cases h
  exact fin _ _ _ _ dX0_told_15 hP hD hS
abbrev w_X0_paymentFor (cI cC : ClassId) (h0 h1 h3 h5 h7 h9 h11 h4 h6 h8 : Nat) (fR : Nat → Int32) (rR : Int32) (fA : Nat → Int32) (rA : Int32) (fS : Nat → Int32) (rnd : Int32) : va_W := [(h0, .inr (0, [.ref h1, .ref h3, .ref h5, .ref h7, .ref h9, .ref h11, .int rnd])), (h3, .inr (4, [.ref h4, .int 4, .int rR])), (h4, .inl (cI, 80, .inl fR)), (h5, .inr (4, [.ref h6, .int 8, .int rA])), (h6, .inl (cI, 320, .inl fA)), (h7, .inr (4, [.ref h8, .int 2, .int 2])), (h8, .inl (cI, 4, .inl fS))]
def d_X0_paymentFor (p1 : Int32) (fR : Nat → Int32) (fA : Nat → Int32) (fS : Nat → Int32) : Option (Int32) :=
    ob1 (d_X4_get 320 p1 3 fA 8) fun r1 =>
    ob1 (d_X4_get 320 p1 1 fA 8) fun r3 =>
    ob1 (d_X4_get 80 r3 1 fR 4) fun r5 =>
    ob1 (d_X0_told 0 r1 fS) fun r7 =>
    ob1 (d_X0_told 1 r1 fS) fun r9 =>
    some (r5 + ((r7 + r9) / 10))
set_option maxHeartbeats 4000000 in
set_option maxRecDepth 100000 in
theorem c_X0_paymentFor (l : Launch) (D : va_G) (cI cC cE : ClassId) (h0 h1 h3 h5 h7 h9 h11 h4 h6 h8 : Nat) (sz : Nat) (fR : Nat → Int32) (rR : Int32) (fA : Nat → Int32) (rA : Int32) (fS : Nat → Int32) (rnd : Int32) (p1 : Int32) (r0 : Int32) (h : d_X0_paymentFor p1 fR fA fS = some r0) : Met l yX0_paymentFor wsX0_paymentFor ({ frames := 2, cells := 0, slots := 0, locals := 45 } : Room) (kP D (kT cI cC cE) [.ref h0, .int p1] (w_X0_paymentFor cI cC h0 h1 h3 h5 h7 h9 h11 h4 h6 h8 fR rR fA rA fS rnd) sz) (kQi D (kT cI cC cE) (w_X0_paymentFor cI cC h0 h1 h3 h5 h7 h9 h11 h4 h6 h8 fR rR fA rA fS rnd) (w_X0_paymentFor cI cC h0 h1 h3 h5 h7 h9 h11 h4 h6 h8 fR rR fA rA fS rnd) sz r0) 0 0 (va_A (w_X0_paymentFor cI cC h0 h1 h3 h5 h7 h9 h11 h4 h6 h8 fR rR fA rA fS rnd) sz) := by
  refine kMetI (cc := cX0_paymentFor) (maxL := 4) (own := RX0) (by decide) rfl (Nat.le_of_ble_eq_true rfl) rfl ?_
  intro p e s m below meth c A Q hx hb hml hown hts hP hK hD hA hS hname fin ls hl
  have hl : lv_has ls 4 [(0, .ref h0), (1, .int p1)] := hl
  have hiX0 : ∀ w ∈ u_ws RX0 TX0 7, w ∈ wsX0_paymentFor := by decide +kernel
  dsimp only [d_X0_paymentFor] at h
  refine lv_aload_n hx hb dX0_paymentFor_0 rfl (lv_at hl 0 rfl) ?_
  refine va_get (ci := 0) (C := RX0) (T := TX0) (N := 7) hx hb hts hiX0 hown hK hP 0 rfl rfl 2 (by decide) (hts (.fieldLink RX0 23 "RiddleTrade$Exchange" "answers" "LRiddleTrade$Table;") (List.mem_of_getElem? (i := 1) rfl)) (fun _ h9 => h9) rfl dX0_paymentFor_1 ?_
  refine lv_iload_n hx hb dX0_paymentFor_4 rfl (lv_at hl 1 rfl) ?_
  refine lv_iconst (v := 3) hx hb dX0_paymentFor_5 (by decide) ?_
  obtain ⟨r1, hu2, h⟩ := ob1_el h
  refine kcVi (ci := 4) (q := (RX4, TX4, 3)) (ws1 := (w_X0_paymentFor cI cC h0 h1 h3 h5 h7 h9 h11 h4 h6 h8 fR rR fA rA fS rnd)) ⟨hx, hb, hml, hown, hts⟩ [3, 4] [0, 1, 2, 5, 6] (c_X4_get l D cI cC cE h5 h6 _ 320 fA 8 rA p1 3 r1 hu2) (cwV 2 hts gX0_paymentFor_X4_get rfl rfl rfl (by decide +kernel) ⟨Nat.le_of_ble_eq_true rfl, Nat.le_of_ble_eq_true rfl⟩) hK hP hD hS hA rfl rfl rfl rfl rfl rfl rfl rfl rfl hl.1 rfl (Nat.le_of_ble_eq_true rfl) dX0_paymentFor_6 ⟨Nat.le_refl 0, Nat.le_refl 0⟩ (fun H locs hP hD hS => ?_)
  refine lv_istore_n (lv' := [(2, .int r1), (0, .ref h0), (1, .int p1)]) hx hb dX0_paymentFor_9 rfl hl (by decide) rfl (fun ls hl => ?_)
  refine lv_aload_n hx hb dX0_paymentFor_10 rfl (lv_at hl 1 rfl) ?_
  refine va_get (ci := 0) (C := RX0) (T := TX0) (N := 7) hx hb hts hiX0 hown hK hP 0 rfl rfl 1 (by decide) (hts (.fieldLink RX0 20 "RiddleTrade$Exchange" "riddles" "LRiddleTrade$Table;") (List.mem_of_getElem? (i := 2) rfl)) (fun _ h9 => h9) rfl dX0_paymentFor_11 ?_
  refine lv_aload_n hx hb dX0_paymentFor_14 rfl (lv_at hl 1 rfl) ?_
  refine va_get (ci := 0) (C := RX0) (T := TX0) (N := 7) hx hb hts hiX0 hown hK hP 0 rfl rfl 2 (by decide) (hts (.fieldLink RX0 23 "RiddleTrade$Exchange" "answers" "LRiddleTrade$Table;") (List.mem_of_getElem? (i := 1) rfl)) (fun _ h9 => h9) rfl dX0_paymentFor_15 ?_
  refine lv_iload_n hx hb dX0_paymentFor_18 rfl (lv_at hl 2 rfl) ?_
  refine lv_iconst (v := 1) hx hb dX0_paymentFor_19 (by decide) ?_
  obtain ⟨r3, hu4, h⟩ := ob1_el h
  refine kcVi (ci := 4) (q := (RX4, TX4, 3)) (ws1 := (w_X0_paymentFor cI cC h0 h1 h3 h5 h7 h9 h11 h4 h6 h8 fR rR fA rA fS rnd)) ⟨hx, hb, hml, hown, hts⟩ [3, 4] [0, 1, 2, 5, 6] (c_X4_get l D cI cC cE h5 h6 _ 320 fA 8 rA p1 1 r3 hu4) (cwV 2 hts gX0_paymentFor_X4_get rfl rfl rfl (by decide +kernel) ⟨Nat.le_of_ble_eq_true rfl, Nat.le_of_ble_eq_true rfl⟩) hK hP hD hS hA rfl rfl rfl rfl rfl rfl rfl rfl rfl hl.1 rfl (Nat.le_of_ble_eq_true rfl) dX0_paymentFor_20 ⟨Nat.le_refl 0, Nat.le_refl 0⟩ (fun H locs hP hD hS => ?_)
  refine lv_iconst (v := 1) hx hb dX0_paymentFor_23 (by decide) ?_
  obtain ⟨r5, hu6, h⟩ := ob1_el h
  refine kcVi (ci := 4) (q := (RX4, TX4, 3)) (ws1 := (w_X0_paymentFor cI cC h0 h1 h3 h5 h7 h9 h11 h4 h6 h8 fR rR fA rA fS rnd)) ⟨hx, hb, hml, hown, hts⟩ [1, 2] [0, 3, 4, 5, 6] (c_X4_get l D cI cC cE h3 h4 _ 80 fR 4 rR r3 1 r5 hu6) (cwV 2 hts gX0_paymentFor_X4_get rfl rfl rfl (by decide +kernel) ⟨Nat.le_of_ble_eq_true rfl, Nat.le_of_ble_eq_true rfl⟩) hK hP hD hS hA rfl rfl rfl rfl rfl rfl rfl rfl rfl hl.1 rfl (Nat.le_of_ble_eq_true rfl) dX0_paymentFor_24 ⟨Nat.le_refl 0, Nat.le_refl 0⟩ (fun H locs hP hD hS => ?_)
  refine lv_istore_n (lv' := [(3, .int r5), (2, .int r1), (0, .ref h0), (1, .int p1)]) hx hb dX0_paymentFor_27 rfl hl (by decide) rfl (fun ls hl => ?_)
  refine lv_iload_n hx hb dX0_paymentFor_28 rfl (lv_at hl 0 rfl) ?_
  refine lv_aload_n hx hb dX0_paymentFor_29 rfl (lv_at hl 2 rfl) ?_
  refine lv_iconst (v := 0) hx hb dX0_paymentFor_30 (by decide) ?_
  refine lv_iload_n hx hb dX0_paymentFor_31 rfl (lv_at hl 1 rfl) ?_
  obtain ⟨r7, hu8, h⟩ := ob1_el h
  refine kcVi (ci := 0) (q := (RX0, TX0, 7)) (ws1 := (w_X0_paymentFor cI cC h0 h1 h3 h5 h7 h9 h11 h4 h6 h8 fR rR fA rA fS rnd)) ⟨hx, hb, hml, hown, hts⟩ [0, 5, 6] [1, 2, 3, 4] (c_X0_told l D cI cC cE h0 h1 h3 h5 h7 h9 h11 h8 _ fS rnd 0 r1 r7 hu8) (cwV 2 hts gX0_paymentFor_X0_told rfl rfl rfl (by decide +kernel) ⟨Nat.le_of_ble_eq_true rfl, Nat.le_of_ble_eq_true rfl⟩) hK hP hD hS hA rfl rfl rfl rfl rfl rfl rfl rfl rfl hl.1 rfl (Nat.le_of_ble_eq_true rfl) dX0_paymentFor_32 ⟨Nat.le_refl 0, Nat.le_refl 0⟩ (fun H locs hP hD hS => ?_)
  refine lv_aload_n hx hb dX0_paymentFor_35 rfl (lv_at hl 2 rfl) ?_
  refine lv_iconst (v := 1) hx hb dX0_paymentFor_36 (by decide) ?_
  refine lv_iload_n hx hb dX0_paymentFor_37 rfl (lv_at hl 1 rfl) ?_
  obtain ⟨r9, hu10, h⟩ := ob1_el h
  refine kcVi (ci := 0) (q := (RX0, TX0, 7)) (ws1 := (w_X0_paymentFor cI cC h0 h1 h3 h5 h7 h9 h11 h4 h6 h8 fR rR fA rA fS rnd)) ⟨hx, hb, hml, hown, hts⟩ [0, 5, 6] [1, 2, 3, 4] (c_X0_told l D cI cC cE h0 h1 h3 h5 h7 h9 h11 h8 _ fS rnd 1 r1 r9 hu10) (cwV 2 hts gX0_paymentFor_X0_told rfl rfl rfl (by decide +kernel) ⟨Nat.le_of_ble_eq_true rfl, Nat.le_of_ble_eq_true rfl⟩) hK hP hD hS hA rfl rfl rfl rfl rfl rfl rfl rfl rfl hl.1 rfl (Nat.le_of_ble_eq_true rfl) dX0_paymentFor_38 ⟨Nat.le_refl 0, Nat.le_refl 0⟩ (fun H locs hP hD hS => ?_)
  refine lv_iadd hx hb dX0_paymentFor_41 ?_
  refine lv_bipush (v := 10) hx hb dX0_paymentFor_42 (by decide) ?_
  refine lv_idiv hx hb dX0_paymentFor_44 (by decide) ?_
  refine lv_iadd hx hb dX0_paymentFor_45 ?_
  cases h
  exact fin _ _ _ _ dX0_paymentFor_46 hP hD hS
abbrev w_X0_hindrance (cI cC : ClassId) (h0 h1 h3 h5 h7 h9 h11 h2 h4 h6 h8 h10 : Nat) (fT : Nat → Int32) (fR : Nat → Int32) (rR : Int32) (fA : Nat → Int32) (rA : Int32) (fS : Nat → Int32) (fE : Nat → Int32) (rnd : Int32) : va_W := [(h0, .inr (0, [.ref h1, .ref h3, .ref h5, .ref h7, .ref h9, .ref h11, .int rnd])), (h1, .inr (4, [.ref h2, .int 2, .int 8])), (h2, .inl (cI, 16, .inl fT)), (h3, .inr (4, [.ref h4, .int 4, .int rR])), (h4, .inl (cI, 80, .inl fR)), (h5, .inr (4, [.ref h6, .int 8, .int rA])), (h6, .inl (cI, 320, .inl fA)), (h7, .inr (4, [.ref h8, .int 2, .int 2])), (h8, .inl (cI, 4, .inl fS)), (h9, .inr (4, [.ref h10, .int 3, .int 4])), (h10, .inl (cI, 12, .inl fE))]
def d_X0_hindrance (p1 : Int32) (p2 : Int32) (fT : Nat → Int32) (fR : Nat → Int32) (fA : Nat → Int32) (fS : Nat → Int32) (fE : Nat → Int32) : Option (Int32) :=
    ob1 (d_X4_get 320 p1 1 fA 8) fun r1 =>
    ob1 (d_X4_get 80 r1 3 fR 4) fun r3 =>
    if r3 = 0 then (ob1 (d_X4_get 80 r1 2 fR 4) fun r6 =>
    ob1 (d_X4_get 320 p1 2 fA 8) fun r8 =>
    if r6 = r8 then (ob1 (d_X4_get 320 p1 3 fA 8) fun r11 =>
    ob1 (d_X0_told 0 r11 fS) fun r13 =>
    ob1 (d_X0_told 1 r11 fS) fun r15 =>
    ob1 (d_X4_get 12 0 0 fE 3) fun r17 =>
    if (if 0 ≤ (r13 - r15) then (r13 - r15) else 0 - (r13 - r15)) ≤ r17 then (ob1 (d_X4_get 80 r1 0 fR 4) fun r20 =>
    ob1 (d_X4_get 16 r20 0 fT 2) fun r22 =>
    ob1 (d_X4_get 12 3 0 fE 3) fun r24 =>
    if (-r24) ≤ (r22 - p2) then (some 0)
    else (some 4))
    else (some 3))
    else (some 2))
    else (some 1)
set_option maxHeartbeats 4000000 in
set_option maxRecDepth 100000 in
theorem c_X0_hindrance (l : Launch) (D : va_G) (cI cC cE : ClassId) (h0 h1 h3 h5 h7 h9 h11 h2 h4 h6 h8 h10 : Nat) (sz : Nat) (fT : Nat → Int32) (fR : Nat → Int32) (rR : Int32) (fA : Nat → Int32) (rA : Int32) (fS : Nat → Int32) (fE : Nat → Int32) (rnd : Int32) (p1 : Int32) (p2 : Int32) (r0 : Int32) (h : d_X0_hindrance p1 p2 fT fR fA fS fE = some r0) : Met l yX0_hindrance wsX0_hindrance ({ frames := 2, cells := 0, slots := 0, locals := 45 } : Room) (kP D (kT cI cC cE) [.ref h0, .int p1, .int p2] (w_X0_hindrance cI cC h0 h1 h3 h5 h7 h9 h11 h2 h4 h6 h8 h10 fT fR rR fA rA fS fE rnd) sz) (kQi D (kT cI cC cE) (w_X0_hindrance cI cC h0 h1 h3 h5 h7 h9 h11 h2 h4 h6 h8 h10 fT fR rR fA rA fS fE rnd) (w_X0_hindrance cI cC h0 h1 h3 h5 h7 h9 h11 h2 h4 h6 h8 h10 fT fR rR fA rA fS fE rnd) sz r0) 0 0 (va_A (w_X0_hindrance cI cC h0 h1 h3 h5 h7 h9 h11 h2 h4 h6 h8 h10 fT fR rR fA rA fS fE rnd) sz) := by
  refine kMetI (cc := cX0_hindrance) (maxL := 6) (own := RX0) (by decide) rfl (Nat.le_of_ble_eq_true rfl) rfl ?_
  intro p e s m below meth c A Q hx hb hml hown hts hP hK hD hA hS hname fin ls hl
  have hl : lv_has ls 6 [(0, .ref h0), (1, .int p1), (2, .int p2)] := hl
  have hiX0 : ∀ w ∈ u_ws RX0 TX0 7, w ∈ wsX0_hindrance := by decide +kernel
  dsimp only [d_X0_hindrance] at h
  refine lv_aload_n hx hb dX0_hindrance_0 rfl (lv_at hl 0 rfl) ?_
  refine va_get (ci := 0) (C := RX0) (T := TX0) (N := 7) hx hb hts hiX0 hown hK hP 0 rfl rfl 2 (by decide) (hts (.fieldLink RX0 23 "RiddleTrade$Exchange" "answers" "LRiddleTrade$Table;") (List.mem_of_getElem? (i := 1) rfl)) (fun _ h9 => h9) rfl dX0_hindrance_1 ?_
  refine lv_iload_n hx hb dX0_hindrance_4 rfl (lv_at hl 1 rfl) ?_
  refine lv_iconst (v := 1) hx hb dX0_hindrance_5 (by decide) ?_
  obtain ⟨r1, hu2, h⟩ := ob1_el h
  refine kcVi (ci := 4) (q := (RX4, TX4, 3)) (ws1 := (w_X0_hindrance cI cC h0 h1 h3 h5 h7 h9 h11 h2 h4 h6 h8 h10 fT fR rR fA rA fS fE rnd)) ⟨hx, hb, hml, hown, hts⟩ [5, 6] [0, 1, 2, 3, 4, 7, 8, 9, 10] (c_X4_get l D cI cC cE h5 h6 _ 320 fA 8 rA p1 1 r1 hu2) (cwV 2 hts gX0_hindrance_X4_get rfl rfl rfl (by decide +kernel) ⟨Nat.le_of_ble_eq_true rfl, Nat.le_of_ble_eq_true rfl⟩) hK hP hD hS hA rfl rfl rfl rfl rfl rfl rfl rfl rfl hl.1 rfl (Nat.le_of_ble_eq_true rfl) dX0_hindrance_6 ⟨Nat.le_refl 0, Nat.le_refl 0⟩ (fun H locs hP hD hS => ?_)
  refine lv_istore_n (lv' := [(3, .int r1), (0, .ref h0), (1, .int p1), (2, .int p2)]) hx hb dX0_hindrance_9 rfl hl (by decide) rfl (fun ls hl => ?_)
  refine lv_aload_n hx hb dX0_hindrance_10 rfl (lv_at hl 1 rfl) ?_
  refine va_get (ci := 0) (C := RX0) (T := TX0) (N := 7) hx hb hts hiX0 hown hK hP 0 rfl rfl 1 (by decide) (hts (.fieldLink RX0 20 "RiddleTrade$Exchange" "riddles" "LRiddleTrade$Table;") (List.mem_of_getElem? (i := 2) rfl)) (fun _ h9 => h9) rfl dX0_hindrance_11 ?_
  refine lv_iload_n hx hb dX0_hindrance_14 rfl (lv_at hl 0 rfl) ?_
  refine lv_iconst (v := 3) hx hb dX0_hindrance_15 (by decide) ?_
  obtain ⟨r3, hu4, h⟩ := ob1_el h
  refine kcVi (ci := 4) (q := (RX4, TX4, 3)) (ws1 := (w_X0_hindrance cI cC h0 h1 h3 h5 h7 h9 h11 h2 h4 h6 h8 h10 fT fR rR fA rA fS fE rnd)) ⟨hx, hb, hml, hown, hts⟩ [3, 4] [0, 1, 2, 5, 6, 7, 8, 9, 10] (c_X4_get l D cI cC cE h3 h4 _ 80 fR 4 rR r1 3 r3 hu4) (cwV 2 hts gX0_hindrance_X4_get rfl rfl rfl (by decide +kernel) ⟨Nat.le_of_ble_eq_true rfl, Nat.le_of_ble_eq_true rfl⟩) hK hP hD hS hA rfl rfl rfl rfl rfl rfl rfl rfl rfl hl.1 rfl (Nat.le_of_ble_eq_true rfl) dX0_hindrance_16 ⟨Nat.le_refl 0, Nat.le_refl 0⟩ (fun H locs hP hD hS => ?_)
  refine lv_if_eq (tgt := 24) hx hb dX0_hindrance_19 (by decide) (fun c5 => ?_) (fun c5 => ?_)
  · have h := (k_iB h).1 c5
    refine lv_aload_n hx hb dX0_hindrance_24 rfl (lv_at hl 1 rfl) ?_
    refine va_get (ci := 0) (C := RX0) (T := TX0) (N := 7) hx hb hts hiX0 hown hK hP 0 rfl rfl 1 (by decide) (hts (.fieldLink RX0 20 "RiddleTrade$Exchange" "riddles" "LRiddleTrade$Table;") (List.mem_of_getElem? (i := 2) rfl)) (fun _ h9 => h9) rfl dX0_hindrance_25 ?_
    refine lv_iload_n hx hb dX0_hindrance_28 rfl (lv_at hl 0 rfl) ?_
    refine lv_iconst (v := 2) hx hb dX0_hindrance_29 (by decide) ?_
    obtain ⟨r6, hu7, h⟩ := ob1_el h
    refine kcVi (ci := 4) (q := (RX4, TX4, 3)) (ws1 := (w_X0_hindrance cI cC h0 h1 h3 h5 h7 h9 h11 h2 h4 h6 h8 h10 fT fR rR fA rA fS fE rnd)) ⟨hx, hb, hml, hown, hts⟩ [3, 4] [0, 1, 2, 5, 6, 7, 8, 9, 10] (c_X4_get l D cI cC cE h3 h4 _ 80 fR 4 rR r1 2 r6 hu7) (cwV 2 hts gX0_hindrance_X4_get rfl rfl rfl (by decide +kernel) ⟨Nat.le_of_ble_eq_true rfl, Nat.le_of_ble_eq_true rfl⟩) hK hP hD hS hA rfl rfl rfl rfl rfl rfl rfl rfl rfl hl.1 rfl (Nat.le_of_ble_eq_true rfl) dX0_hindrance_30 ⟨Nat.le_refl 0, Nat.le_refl 0⟩ (fun H locs hP hD hS => ?_)
    refine lv_aload_n hx hb dX0_hindrance_33 rfl (lv_at hl 1 rfl) ?_
    refine va_get (ci := 0) (C := RX0) (T := TX0) (N := 7) hx hb hts hiX0 hown hK hP 0 rfl rfl 2 (by decide) (hts (.fieldLink RX0 23 "RiddleTrade$Exchange" "answers" "LRiddleTrade$Table;") (List.mem_of_getElem? (i := 1) rfl)) (fun _ h9 => h9) rfl dX0_hindrance_34 ?_
    refine lv_iload_n hx hb dX0_hindrance_37 rfl (lv_at hl 2 rfl) ?_
    refine lv_iconst (v := 2) hx hb dX0_hindrance_38 (by decide) ?_
    obtain ⟨r8, hu9, h⟩ := ob1_el h
    refine kcVi (ci := 4) (q := (RX4, TX4, 3)) (ws1 := (w_X0_hindrance cI cC h0 h1 h3 h5 h7 h9 h11 h2 h4 h6 h8 h10 fT fR rR fA rA fS fE rnd)) ⟨hx, hb, hml, hown, hts⟩ [5, 6] [0, 1, 2, 3, 4, 7, 8, 9, 10] (c_X4_get l D cI cC cE h5 h6 _ 320 fA 8 rA p1 2 r8 hu9) (cwV 2 hts gX0_hindrance_X4_get rfl rfl rfl (by decide +kernel) ⟨Nat.le_of_ble_eq_true rfl, Nat.le_of_ble_eq_true rfl⟩) hK hP hD hS hA rfl rfl rfl rfl rfl rfl rfl rfl rfl hl.1 rfl (Nat.le_of_ble_eq_true rfl) dX0_hindrance_39 ⟨Nat.le_refl 0, Nat.le_refl 0⟩ (fun H locs hP hD hS => ?_)
    refine lv_icmp_eq (tgt := 47) hx hb dX0_hindrance_42 (by decide) (fun c10 => ?_) (fun c10 => ?_)
    · have h := (k_iB h).1 c10
      refine lv_aload_n hx hb dX0_hindrance_47 rfl (lv_at hl 1 rfl) ?_
      refine va_get (ci := 0) (C := RX0) (T := TX0) (N := 7) hx hb hts hiX0 hown hK hP 0 rfl rfl 2 (by decide) (hts (.fieldLink RX0 23 "RiddleTrade$Exchange" "answers" "LRiddleTrade$Table;") (List.mem_of_getElem? (i := 1) rfl)) (fun _ h9 => h9) rfl dX0_hindrance_48 ?_
      refine lv_iload_n hx hb dX0_hindrance_51 rfl (lv_at hl 2 rfl) ?_
      refine lv_iconst (v := 3) hx hb dX0_hindrance_52 (by decide) ?_
      obtain ⟨r11, hu12, h⟩ := ob1_el h
      refine kcVi (ci := 4) (q := (RX4, TX4, 3)) (ws1 := (w_X0_hindrance cI cC h0 h1 h3 h5 h7 h9 h11 h2 h4 h6 h8 h10 fT fR rR fA rA fS fE rnd)) ⟨hx, hb, hml, hown, hts⟩ [5, 6] [0, 1, 2, 3, 4, 7, 8, 9, 10] (c_X4_get l D cI cC cE h5 h6 _ 320 fA 8 rA p1 3 r11 hu12) (cwV 2 hts gX0_hindrance_X4_get rfl rfl rfl (by decide +kernel) ⟨Nat.le_of_ble_eq_true rfl, Nat.le_of_ble_eq_true rfl⟩) hK hP hD hS hA rfl rfl rfl rfl rfl rfl rfl rfl rfl hl.1 rfl (Nat.le_of_ble_eq_true rfl) dX0_hindrance_53 ⟨Nat.le_refl 0, Nat.le_refl 0⟩ (fun H locs hP hD hS => ?_)
      refine lv_istore (lv' := [(4, .int r11), (3, .int r1), (0, .ref h0), (1, .int p1), (2, .int p2)]) hx hb dX0_hindrance_56 hl (by decide) rfl (fun ls hl => ?_)
      refine lv_aload_n hx hb dX0_hindrance_58 rfl (lv_at hl 2 rfl) ?_
      refine lv_iconst (v := 0) hx hb dX0_hindrance_59 (by decide) ?_
      refine lv_iload hx hb dX0_hindrance_60 (lv_at hl 0 rfl) ?_
      obtain ⟨r13, hu14, h⟩ := ob1_el h
      refine kcVi (ci := 0) (q := (RX0, TX0, 7)) (ws1 := (w_X0_hindrance cI cC h0 h1 h3 h5 h7 h9 h11 h2 h4 h6 h8 h10 fT fR rR fA rA fS fE rnd)) ⟨hx, hb, hml, hown, hts⟩ [0, 7, 8] [1, 2, 3, 4, 5, 6, 9, 10] (c_X0_told l D cI cC cE h0 h1 h3 h5 h7 h9 h11 h8 _ fS rnd 0 r11 r13 hu14) (cwV 2 hts gX0_hindrance_X0_told rfl rfl rfl (by decide +kernel) ⟨Nat.le_of_ble_eq_true rfl, Nat.le_of_ble_eq_true rfl⟩) hK hP hD hS hA rfl rfl rfl rfl rfl rfl rfl rfl rfl hl.1 rfl (Nat.le_of_ble_eq_true rfl) dX0_hindrance_62 ⟨Nat.le_refl 0, Nat.le_refl 0⟩ (fun H locs hP hD hS => ?_)
      refine lv_aload_n hx hb dX0_hindrance_65 rfl (lv_at hl 2 rfl) ?_
      refine lv_iconst (v := 1) hx hb dX0_hindrance_66 (by decide) ?_
      refine lv_iload hx hb dX0_hindrance_67 (lv_at hl 0 rfl) ?_
      obtain ⟨r15, hu16, h⟩ := ob1_el h
      refine kcVi (ci := 0) (q := (RX0, TX0, 7)) (ws1 := (w_X0_hindrance cI cC h0 h1 h3 h5 h7 h9 h11 h2 h4 h6 h8 h10 fT fR rR fA rA fS fE rnd)) ⟨hx, hb, hml, hown, hts⟩ [0, 7, 8] [1, 2, 3, 4, 5, 6, 9, 10] (c_X0_told l D cI cC cE h0 h1 h3 h5 h7 h9 h11 h8 _ fS rnd 1 r11 r15 hu16) (cwV 2 hts gX0_hindrance_X0_told rfl rfl rfl (by decide +kernel) ⟨Nat.le_of_ble_eq_true rfl, Nat.le_of_ble_eq_true rfl⟩) hK hP hD hS hA rfl rfl rfl rfl rfl rfl rfl rfl rfl hl.1 rfl (Nat.le_of_ble_eq_true rfl) dX0_hindrance_69 ⟨Nat.le_refl 0, Nat.le_refl 0⟩ (fun H locs hP hD hS => ?_)
      refine lv_isub hx hb dX0_hindrance_72 ?_
      refine va_mabs hx hb (hml.trans hl.1.symm) hown (hts _ (List.mem_of_getElem? (i := 3) rfl)) (hts _ (List.mem_of_getElem? (i := 4) rfl)) (hts _ (List.mem_of_getElem? (i := 5) rfl)) (hts _ (List.mem_of_getElem? (i := 6) rfl)) (Nat.le_of_ble_eq_true rfl) (Nat.le_of_ble_eq_true rfl) (Nat.le_refl 0) (Nat.le_refl 0) dX0_hindrance_73 ?_
      refine lv_aload_n hx hb dX0_hindrance_76 rfl (lv_at hl 2 rfl) ?_
      refine va_get (ci := 0) (C := RX0) (T := TX0) (N := 7) hx hb hts hiX0 hown hK hP 0 rfl rfl 4 (by decide) (hts (.fieldLink RX0 29 "RiddleTrade$Exchange" "settings" "LRiddleTrade$Table;") (List.mem_of_getElem? (i := 7) rfl)) (fun _ h9 => h9) rfl dX0_hindrance_77 ?_
      refine lv_iconst (v := 0) hx hb dX0_hindrance_80 (by decide) ?_
      refine lv_iconst (v := 0) hx hb dX0_hindrance_81 (by decide) ?_
      obtain ⟨r17, hu18, h⟩ := ob1_el h
      refine kcVi (ci := 4) (q := (RX4, TX4, 3)) (ws1 := (w_X0_hindrance cI cC h0 h1 h3 h5 h7 h9 h11 h2 h4 h6 h8 h10 fT fR rR fA rA fS fE rnd)) ⟨hx, hb, hml, hown, hts⟩ [9, 10] [0, 1, 2, 3, 4, 5, 6, 7, 8] (c_X4_get l D cI cC cE h9 h10 _ 12 fE 3 4 0 0 r17 hu18) (cwV 2 hts gX0_hindrance_X4_get rfl rfl rfl (by decide +kernel) ⟨Nat.le_of_ble_eq_true rfl, Nat.le_of_ble_eq_true rfl⟩) hK hP hD hS hA rfl rfl rfl rfl rfl rfl rfl rfl rfl hl.1 rfl (Nat.le_of_ble_eq_true rfl) dX0_hindrance_82 ⟨Nat.le_refl 0, Nat.le_refl 0⟩ (fun H locs hP hD hS => ?_)
      refine lv_icmp_le (tgt := 90) hx hb dX0_hindrance_85 (by decide) (fun c19 => ?_) (fun c19 => ?_)
      · have h := (k_iB h).1 c19
        refine lv_aload_n hx hb dX0_hindrance_90 rfl (lv_at hl 2 rfl) ?_
        refine va_get (ci := 0) (C := RX0) (T := TX0) (N := 7) hx hb hts hiX0 hown hK hP 0 rfl rfl 0 (by decide) (hts (.fieldLink RX0 16 "RiddleTrade$Exchange" "traders" "LRiddleTrade$Table;") (List.mem_of_getElem? (i := 8) rfl)) (fun _ h9 => h9) rfl dX0_hindrance_91 ?_
        refine lv_aload_n hx hb dX0_hindrance_94 rfl (lv_at hl 2 rfl) ?_
        refine va_get (ci := 0) (C := RX0) (T := TX0) (N := 7) hx hb hts hiX0 hown hK hP 0 rfl rfl 1 (by decide) (hts (.fieldLink RX0 20 "RiddleTrade$Exchange" "riddles" "LRiddleTrade$Table;") (List.mem_of_getElem? (i := 2) rfl)) (fun _ h9 => h9) rfl dX0_hindrance_95 ?_
        refine lv_iload_n hx hb dX0_hindrance_98 rfl (lv_at hl 1 rfl) ?_
        refine lv_iconst (v := 0) hx hb dX0_hindrance_99 (by decide) ?_
        obtain ⟨r20, hu21, h⟩ := ob1_el h
        refine kcVi (ci := 4) (q := (RX4, TX4, 3)) (ws1 := (w_X0_hindrance cI cC h0 h1 h3 h5 h7 h9 h11 h2 h4 h6 h8 h10 fT fR rR fA rA fS fE rnd)) ⟨hx, hb, hml, hown, hts⟩ [3, 4] [0, 1, 2, 5, 6, 7, 8, 9, 10] (c_X4_get l D cI cC cE h3 h4 _ 80 fR 4 rR r1 0 r20 hu21) (cwV 2 hts gX0_hindrance_X4_get rfl rfl rfl (by decide +kernel) ⟨Nat.le_of_ble_eq_true rfl, Nat.le_of_ble_eq_true rfl⟩) hK hP hD hS hA rfl rfl rfl rfl rfl rfl rfl rfl rfl hl.1 rfl (Nat.le_of_ble_eq_true rfl) dX0_hindrance_100 ⟨Nat.le_refl 0, Nat.le_refl 0⟩ (fun H locs hP hD hS => ?_)
        refine lv_iconst (v := 0) hx hb dX0_hindrance_103 (by decide) ?_
        obtain ⟨r22, hu23, h⟩ := ob1_el h
        refine kcVi (ci := 4) (q := (RX4, TX4, 3)) (ws1 := (w_X0_hindrance cI cC h0 h1 h3 h5 h7 h9 h11 h2 h4 h6 h8 h10 fT fR rR fA rA fS fE rnd)) ⟨hx, hb, hml, hown, hts⟩ [1, 2] [0, 3, 4, 5, 6, 7, 8, 9, 10] (c_X4_get l D cI cC cE h1 h2 _ 16 fT 2 8 r20 0 r22 hu23) (cwV 2 hts gX0_hindrance_X4_get rfl rfl rfl (by decide +kernel) ⟨Nat.le_of_ble_eq_true rfl, Nat.le_of_ble_eq_true rfl⟩) hK hP hD hS hA rfl rfl rfl rfl rfl rfl rfl rfl rfl hl.1 rfl (Nat.le_of_ble_eq_true rfl) dX0_hindrance_104 ⟨Nat.le_refl 0, Nat.le_refl 0⟩ (fun H locs hP hD hS => ?_)
        refine lv_istore (lv' := [(5, .int r22), (4, .int r11), (3, .int r1), (0, .ref h0), (1, .int p1), (2, .int p2)]) hx hb dX0_hindrance_107 hl (by decide) rfl (fun ls hl => ?_)
        refine lv_iload hx hb dX0_hindrance_109 (lv_at hl 0 rfl) ?_
        refine lv_iload_n hx hb dX0_hindrance_111 rfl (lv_at hl 5 rfl) ?_
        refine lv_isub hx hb dX0_hindrance_112 ?_
        refine lv_aload_n hx hb dX0_hindrance_113 rfl (lv_at hl 3 rfl) ?_
        refine va_get (ci := 0) (C := RX0) (T := TX0) (N := 7) hx hb hts hiX0 hown hK hP 0 rfl rfl 4 (by decide) (hts (.fieldLink RX0 29 "RiddleTrade$Exchange" "settings" "LRiddleTrade$Table;") (List.mem_of_getElem? (i := 7) rfl)) (fun _ h9 => h9) rfl dX0_hindrance_114 ?_
        refine lv_iconst (v := 3) hx hb dX0_hindrance_117 (by decide) ?_
        refine lv_iconst (v := 0) hx hb dX0_hindrance_118 (by decide) ?_
        obtain ⟨r24, hu25, h⟩ := ob1_el h
        refine kcVi (ci := 4) (q := (RX4, TX4, 3)) (ws1 := (w_X0_hindrance cI cC h0 h1 h3 h5 h7 h9 h11 h2 h4 h6 h8 h10 fT fR rR fA rA fS fE rnd)) ⟨hx, hb, hml, hown, hts⟩ [9, 10] [0, 1, 2, 3, 4, 5, 6, 7, 8] (c_X4_get l D cI cC cE h9 h10 _ 12 fE 3 4 3 0 r24 hu25) (cwV 2 hts gX0_hindrance_X4_get rfl rfl rfl (by decide +kernel) ⟨Nat.le_of_ble_eq_true rfl, Nat.le_of_ble_eq_true rfl⟩) hK hP hD hS hA rfl rfl rfl rfl rfl rfl rfl rfl rfl hl.1 rfl (Nat.le_of_ble_eq_true rfl) dX0_hindrance_119 ⟨Nat.le_refl 0, Nat.le_refl 0⟩ (fun H locs hP hD hS => ?_)
        refine lv_ineg hx hb dX0_hindrance_122 ?_
        refine lv_icmp_ge (tgt := 130) hx hb dX0_hindrance_123 (by decide) (fun c26 => ?_) (fun c26 => ?_)
        · have h := (k_iB h).1 c26
          refine lv_iconst (v := 0) hx hb dX0_hindrance_130 (by decide) ?_
          cases h
          exact fin _ _ _ _ dX0_hindrance_131 hP hD hS
        · have h := (k_iB h).2 c26
          refine lv_iconst (v := 4) hx hb dX0_hindrance_126 (by decide) ?_
          refine lv_goto (tgt := 131) hx hb dX0_hindrance_127 (by decide) ?_
          cases h
          exact fin _ _ _ _ dX0_hindrance_131 hP hD hS
      · have h := (k_iB h).2 c19
        refine lv_iconst (v := 3) hx hb dX0_hindrance_88 (by decide) ?_
        cases h
        exact fin _ _ _ _ dX0_hindrance_89 hP hD hS
    · have h := (k_iB h).2 c10
      refine lv_iconst (v := 2) hx hb dX0_hindrance_45 (by decide) ?_
      cases h
      exact fin _ _ _ _ dX0_hindrance_46 hP hD hS
  · have h := (k_iB h).2 c5
    refine lv_iconst (v := 1) hx hb dX0_hindrance_22 (by decide) ?_
    cases h
    exact fin _ _ _ _ dX0_hindrance_23 hP hD hS
abbrev w_X0_errorIfNotWaiting (cI cC : ClassId) (h0 h1 h3 h5 h7 h9 h11 h6 : Nat) (fA : Nat → Int32) (rA : Int32) (rnd : Int32) : va_W := [(h0, .inr (0, [.ref h1, .ref h3, .ref h5, .ref h7, .ref h9, .ref h11, .int rnd])), (h5, .inr (4, [.ref h6, .int 8, .int rA])), (h6, .inl (cI, 320, .inl fA))]
def d_X0_errorIfNotWaiting (p1 : Int32) (fA : Nat → Int32) (rA : Int32) : Option (Int32) :=
    if (d_X4_has p1 rA) = 0 then (some (-1))
    else (ob1 (d_X4_get 320 p1 4 fA 8) fun r2 =>
    if r2 = 0 then (some 0)
    else (some (-4)))
set_option maxHeartbeats 4000000 in
set_option maxRecDepth 100000 in
theorem c_X0_errorIfNotWaiting (l : Launch) (D : va_G) (cI cC cE : ClassId) (h0 h1 h3 h5 h7 h9 h11 h6 : Nat) (sz : Nat) (fA : Nat → Int32) (rA : Int32) (rnd : Int32) (p1 : Int32) (r0 : Int32) (h : d_X0_errorIfNotWaiting p1 fA rA = some r0) : Met l yX0_errorIfNotWaiting wsX0_errorIfNotWaiting ({ frames := 1, cells := 0, slots := 0, locals := 23 } : Room) (kP D (kT cI cC cE) [.ref h0, .int p1] (w_X0_errorIfNotWaiting cI cC h0 h1 h3 h5 h7 h9 h11 h6 fA rA rnd) sz) (kQi D (kT cI cC cE) (w_X0_errorIfNotWaiting cI cC h0 h1 h3 h5 h7 h9 h11 h6 fA rA rnd) (w_X0_errorIfNotWaiting cI cC h0 h1 h3 h5 h7 h9 h11 h6 fA rA rnd) sz r0) 0 0 (va_A (w_X0_errorIfNotWaiting cI cC h0 h1 h3 h5 h7 h9 h11 h6 fA rA rnd) sz) := by
  refine kMetI (cc := cX0_errorIfNotWaiting) (maxL := 2) (own := RX0) (by decide) rfl (Nat.le_of_ble_eq_true rfl) rfl ?_
  intro p e s m below meth c A Q hx hb hml hown hts hP hK hD hA hS hname fin ls hl
  have hl : lv_has ls 2 [(0, .ref h0), (1, .int p1)] := hl
  have hiX0 : ∀ w ∈ u_ws RX0 TX0 7, w ∈ wsX0_errorIfNotWaiting := by decide +kernel
  dsimp only [d_X0_errorIfNotWaiting] at h
  refine lv_aload_n hx hb dX0_errorIfNotWaiting_0 rfl (lv_at hl 0 rfl) ?_
  refine va_get (ci := 0) (C := RX0) (T := TX0) (N := 7) hx hb hts hiX0 hown hK hP 0 rfl rfl 2 (by decide) (hts (.fieldLink RX0 23 "RiddleTrade$Exchange" "answers" "LRiddleTrade$Table;") (List.mem_of_getElem? (i := 1) rfl)) (fun _ h9 => h9) rfl dX0_errorIfNotWaiting_1 ?_
  refine lv_iload_n hx hb dX0_errorIfNotWaiting_4 rfl (lv_at hl 1 rfl) ?_
  refine kcVi (ci := 4) (q := (RX4, TX4, 3)) (ws1 := (w_X0_errorIfNotWaiting cI cC h0 h1 h3 h5 h7 h9 h11 h6 fA rA rnd)) ⟨hx, hb, hml, hown, hts⟩ [1] [0, 2] (c_X4_has l D cI cC cE h5 h6 _ 8 rA p1 (d_X4_has p1 rA) rfl) (cwV 1 hts gX0_errorIfNotWaiting_X4_has rfl rfl rfl (by decide +kernel) ⟨Nat.le_of_ble_eq_true rfl, Nat.le_of_ble_eq_true rfl⟩) hK hP hD hS hA rfl rfl rfl rfl rfl rfl rfl rfl rfl hl.1 rfl (Nat.le_of_ble_eq_true rfl) dX0_errorIfNotWaiting_5 ⟨Nat.le_refl 0, Nat.le_refl 0⟩ (fun H locs hP hD hS => ?_)
  refine lv_if_ne (tgt := 13) hx hb dX0_errorIfNotWaiting_8 (by decide) (fun c1 => ?_) (fun c1 => ?_)
  · have h := (k_iB h).2 c1
    refine lv_aload_n hx hb dX0_errorIfNotWaiting_13 rfl (lv_at hl 0 rfl) ?_
    refine va_get (ci := 0) (C := RX0) (T := TX0) (N := 7) hx hb hts hiX0 hown hK hP 0 rfl rfl 2 (by decide) (hts (.fieldLink RX0 23 "RiddleTrade$Exchange" "answers" "LRiddleTrade$Table;") (List.mem_of_getElem? (i := 1) rfl)) (fun _ h9 => h9) rfl dX0_errorIfNotWaiting_14 ?_
    refine lv_iload_n hx hb dX0_errorIfNotWaiting_17 rfl (lv_at hl 1 rfl) ?_
    refine lv_iconst (v := 4) hx hb dX0_errorIfNotWaiting_18 (by decide) ?_
    obtain ⟨r2, hu3, h⟩ := ob1_el h
    refine kcVi (ci := 4) (q := (RX4, TX4, 3)) (ws1 := (w_X0_errorIfNotWaiting cI cC h0 h1 h3 h5 h7 h9 h11 h6 fA rA rnd)) ⟨hx, hb, hml, hown, hts⟩ [1, 2] [0] (c_X4_get l D cI cC cE h5 h6 _ 320 fA 8 rA p1 4 r2 hu3) (cwV 2 hts gX0_errorIfNotWaiting_X4_get rfl rfl rfl (by decide +kernel) ⟨Nat.le_of_ble_eq_true rfl, Nat.le_of_ble_eq_true rfl⟩) hK hP hD hS hA rfl rfl rfl rfl rfl rfl rfl rfl rfl hl.1 rfl (Nat.le_of_ble_eq_true rfl) dX0_errorIfNotWaiting_19 ⟨Nat.le_refl 0, Nat.le_refl 0⟩ (fun H locs hP hD hS => ?_)
    refine lv_if_ne (tgt := 29) hx hb dX0_errorIfNotWaiting_22 (by decide) (fun c4 => ?_) (fun c4 => ?_)
    · have h := (k_iB h).2 c4
      refine lv_bipush (v := (-4)) hx hb dX0_errorIfNotWaiting_29 (by decide) ?_
      cases h
      exact fin _ _ _ _ dX0_errorIfNotWaiting_31 hP hD hS
    · have h := (k_iB h).1 c4
      refine lv_iconst (v := 0) hx hb dX0_errorIfNotWaiting_25 (by decide) ?_
      refine lv_goto (tgt := 31) hx hb dX0_errorIfNotWaiting_26 (by decide) ?_
      cases h
      exact fin _ _ _ _ dX0_errorIfNotWaiting_31 hP hD hS
  · have h := (k_iB h).1 c1
    refine lv_iconst (v := (-1)) hx hb dX0_errorIfNotWaiting_11 (by decide) ?_
    cases h
    exact fin _ _ _ _ dX0_errorIfNotWaiting_12 hP hD hS
abbrev w_X0_waiting (cI cC : ClassId) (h0 h1 h3 h5 h7 h9 h11 h12 : Nat) (hd : Int32) (ln : Int32) (rnd : Int32) : va_W := [(h0, .inr (0, [.ref h1, .ref h3, .ref h5, .ref h7, .ref h9, .ref h11, .int rnd])), (h11, .inr (3, [.ref h12, .int hd, .int ln]))]
def d_X0_waiting (ln : Int32) : Int32 :=
    (d_X3_length ln)
set_option maxHeartbeats 4000000 in
set_option maxRecDepth 100000 in
theorem c_X0_waiting (l : Launch) (D : va_G) (cI cC cE : ClassId) (h0 h1 h3 h5 h7 h9 h11 h12 : Nat) (sz : Nat) (hd : Int32) (ln : Int32) (rnd : Int32) (r0 : Int32) (h : d_X0_waiting ln = r0) : Met l yX0_waiting wsX0_waiting ({ frames := 1, cells := 0, slots := 0, locals := 20 } : Room) (kP D (kT cI cC cE) [.ref h0] (w_X0_waiting cI cC h0 h1 h3 h5 h7 h9 h11 h12 hd ln rnd) sz) (kQi D (kT cI cC cE) (w_X0_waiting cI cC h0 h1 h3 h5 h7 h9 h11 h12 hd ln rnd) (w_X0_waiting cI cC h0 h1 h3 h5 h7 h9 h11 h12 hd ln rnd) sz r0) 0 0 (va_A (w_X0_waiting cI cC h0 h1 h3 h5 h7 h9 h11 h12 hd ln rnd) sz) := by
  refine kMetI (cc := cX0_waiting) (maxL := 1) (own := RX0) (by decide) rfl (Nat.le_of_ble_eq_true rfl) rfl ?_
  intro p e s m below meth c A Q hx hb hml hown hts hP hK hD hA hS hname fin ls hl
  have hl : lv_has ls 1 [(0, .ref h0)] := hl
  have hiX0 : ∀ w ∈ u_ws RX0 TX0 7, w ∈ wsX0_waiting := by decide +kernel
  dsimp only [d_X0_waiting] at h
  refine lv_aload_n hx hb dX0_waiting_0 rfl (lv_at hl 0 rfl) ?_
  refine va_get (ci := 0) (C := RX0) (T := TX0) (N := 7) hx hb hts hiX0 hown hK hP 0 rfl rfl 5 (by decide) (hts (.fieldLink RX0 35 "RiddleTrade$Exchange" "row" "LRiddleTrade$Row;") (List.mem_of_getElem? (i := 1) rfl)) (fun _ h9 => h9) rfl dX0_waiting_1 ?_
  refine kcVi (ci := 3) (q := (RX3, TX3, 3)) (ws1 := (w_X0_waiting cI cC h0 h1 h3 h5 h7 h9 h11 h12 hd ln rnd)) ⟨hx, hb, hml, hown, hts⟩ [1] [0] (c_X3_length l D cI cC cE h11 h12 _ hd ln (d_X3_length ln) rfl) (cwV 0 hts gX0_waiting_X3_length rfl rfl rfl (by decide +kernel) ⟨Nat.le_of_ble_eq_true rfl, Nat.le_of_ble_eq_true rfl⟩) hK hP hD hS hA rfl rfl rfl rfl rfl rfl rfl rfl rfl hl.1 rfl (Nat.le_of_ble_eq_true rfl) dX0_waiting_4 ⟨Nat.le_refl 0, Nat.le_refl 0⟩ (fun H locs hP hD hS => ?_)
  cases h
  exact fin _ _ _ _ dX0_waiting_7 hP hD hS
abbrev w_X0_waitingAt (cI cC : ClassId) (h0 h1 h3 h5 h7 h9 h11 h12 : Nat) (ri : Nat → Int32) (hd : Int32) (ln : Int32) (rnd : Int32) : va_W := [(h0, .inr (0, [.ref h1, .ref h3, .ref h5, .ref h7, .ref h9, .ref h11, .int rnd])), (h11, .inr (3, [.ref h12, .int hd, .int ln])), (h12, .inl (cI, 40, .inl ri))]
def d_X0_waitingAt (p1 : Int32) (ri : Nat → Int32) (hd : Int32) (ln : Int32) : Option (Int32) :=
    ob1 (d_X3_at p1 ri hd ln) fun r1 =>
    some r1
set_option maxHeartbeats 4000000 in
set_option maxRecDepth 100000 in
theorem c_X0_waitingAt (l : Launch) (D : va_G) (cI cC cE : ClassId) (h0 h1 h3 h5 h7 h9 h11 h12 : Nat) (sz : Nat) (ri : Nat → Int32) (hd : Int32) (ln : Int32) (rnd : Int32) (p1 : Int32) (r0 : Int32) (h : d_X0_waitingAt p1 ri hd ln = some r0) : Met l yX0_waitingAt wsX0_waitingAt ({ frames := 1, cells := 0, slots := 0, locals := 22 } : Room) (kP D (kT cI cC cE) [.ref h0, .int p1] (w_X0_waitingAt cI cC h0 h1 h3 h5 h7 h9 h11 h12 ri hd ln rnd) sz) (kQi D (kT cI cC cE) (w_X0_waitingAt cI cC h0 h1 h3 h5 h7 h9 h11 h12 ri hd ln rnd) (w_X0_waitingAt cI cC h0 h1 h3 h5 h7 h9 h11 h12 ri hd ln rnd) sz r0) 0 0 (va_A (w_X0_waitingAt cI cC h0 h1 h3 h5 h7 h9 h11 h12 ri hd ln rnd) sz) := by
  refine kMetI (cc := cX0_waitingAt) (maxL := 2) (own := RX0) (by decide) rfl (Nat.le_of_ble_eq_true rfl) rfl ?_
  intro p e s m below meth c A Q hx hb hml hown hts hP hK hD hA hS hname fin ls hl
  have hl : lv_has ls 2 [(0, .ref h0), (1, .int p1)] := hl
  have hiX0 : ∀ w ∈ u_ws RX0 TX0 7, w ∈ wsX0_waitingAt := by decide +kernel
  dsimp only [d_X0_waitingAt] at h
  refine lv_aload_n hx hb dX0_waitingAt_0 rfl (lv_at hl 0 rfl) ?_
  refine va_get (ci := 0) (C := RX0) (T := TX0) (N := 7) hx hb hts hiX0 hown hK hP 0 rfl rfl 5 (by decide) (hts (.fieldLink RX0 35 "RiddleTrade$Exchange" "row" "LRiddleTrade$Row;") (List.mem_of_getElem? (i := 1) rfl)) (fun _ h9 => h9) rfl dX0_waitingAt_1 ?_
  refine lv_iload_n hx hb dX0_waitingAt_4 rfl (lv_at hl 1 rfl) ?_
  obtain ⟨r1, hu2, h⟩ := ob1_el h
  refine kcVi (ci := 3) (q := (RX3, TX3, 3)) (ws1 := (w_X0_waitingAt cI cC h0 h1 h3 h5 h7 h9 h11 h12 ri hd ln rnd)) ⟨hx, hb, hml, hown, hts⟩ [1, 2] [0] (c_X3_at l D cI cC cE h11 h12 _ ri hd ln p1 r1 hu2) (cwV 1 hts gX0_waitingAt_X3_at rfl rfl rfl (by decide +kernel) ⟨Nat.le_of_ble_eq_true rfl, Nat.le_of_ble_eq_true rfl⟩) hK hP hD hS hA rfl rfl rfl rfl rfl rfl rfl rfl rfl hl.1 rfl (Nat.le_of_ble_eq_true rfl) dX0_waitingAt_5 ⟨Nat.le_refl 0, Nat.le_refl 0⟩ (fun H locs hP hD hS => ?_)
  cases h
  exact fin _ _ _ _ dX0_waitingAt_8 hP hD hS
abbrev w_X0_refuse (cI cC : ClassId) (h0 h1 h3 h5 h7 h9 h11 h6 : Nat) (fA : Nat → Int32) (rA : Int32) (rnd : Int32) : va_W := [(h0, .inr (0, [.ref h1, .ref h3, .ref h5, .ref h7, .ref h9, .ref h11, .int rnd])), (h5, .inr (4, [.ref h6, .int 8, .int rA])), (h6, .inl (cI, 320, .inl fA))]
def d_X0_refuse (p1 : Int32) (p2 : Int32) (fA : Nat → Int32) : Option ((Nat → Int32)) :=
    ob1 (d_X4_put 320 p1 4 2 fA 8) fun fA_1 =>
    ob1 (d_X4_put 320 p1 5 p2 fA_1 8) fun fA_3 =>
    some fA_3
set_option maxHeartbeats 4000000 in
set_option maxRecDepth 100000 in
theorem c_X0_refuse (l : Launch) (D : va_G) (cI cC cE : ClassId) (h0 h1 h3 h5 h7 h9 h11 h6 : Nat) (sz : Nat) (fA : Nat → Int32) (rA : Int32) (rnd : Int32) (p1 : Int32) (p2 : Int32) (o_fA : Nat → Int32) (h : d_X0_refuse p1 p2 fA = some o_fA) : Met l yX0_refuse wsX0_refuse ({ frames := 1, cells := 0, slots := 0, locals := 24 } : Room) (kP D (kT cI cC cE) [.ref h0, .int p1, .int p2] (w_X0_refuse cI cC h0 h1 h3 h5 h7 h9 h11 h6 fA rA rnd) sz) (kQv D (kT cI cC cE) (w_X0_refuse cI cC h0 h1 h3 h5 h7 h9 h11 h6 fA rA rnd) (w_X0_refuse cI cC h0 h1 h3 h5 h7 h9 h11 h6 o_fA rA rnd) sz) 0 0 (va_A (w_X0_refuse cI cC h0 h1 h3 h5 h7 h9 h11 h6 fA rA rnd) sz) := by
  refine kMetV (cc := cX0_refuse) (maxL := 3) (own := RX0) (by decide) rfl (Nat.le_of_ble_eq_true rfl) rfl ?_
  intro p e s m below meth c A Q hx hb hml hown hts hP hK hD hA hS hname fin ls hl
  have hl : lv_has ls 3 [(0, .ref h0), (1, .int p1), (2, .int p2)] := hl
  have hiX0 : ∀ w ∈ u_ws RX0 TX0 7, w ∈ wsX0_refuse := by decide +kernel
  dsimp only [d_X0_refuse] at h
  refine lv_aload_n hx hb dX0_refuse_0 rfl (lv_at hl 0 rfl) ?_
  refine va_get (ci := 0) (C := RX0) (T := TX0) (N := 7) hx hb hts hiX0 hown hK hP 0 rfl rfl 2 (by decide) (hts (.fieldLink RX0 23 "RiddleTrade$Exchange" "answers" "LRiddleTrade$Table;") (List.mem_of_getElem? (i := 1) rfl)) (fun _ h9 => h9) rfl dX0_refuse_1 ?_
  refine lv_iload_n hx hb dX0_refuse_4 rfl (lv_at hl 1 rfl) ?_
  refine lv_iconst (v := 4) hx hb dX0_refuse_5 (by decide) ?_
  refine lv_iconst (v := 2) hx hb dX0_refuse_6 (by decide) ?_
  obtain ⟨fA_1, hu2, h⟩ := ob1_el h
  refine kcVv (ci := 4) (q := (RX4, TX4, 3)) (ws1 := (w_X0_refuse cI cC h0 h1 h3 h5 h7 h9 h11 h6 fA_1 rA rnd)) ⟨hx, hb, hml, hown, hts⟩ [1, 2] [0] (c_X4_put l D cI cC cE h5 h6 _ 320 fA 8 rA p1 4 2 fA_1 hu2) (cwV 3 hts gX0_refuse_X4_put rfl rfl rfl (by decide +kernel) ⟨Nat.le_of_ble_eq_true rfl, Nat.le_of_ble_eq_true rfl⟩) hK hP hD hS hA rfl rfl rfl rfl rfl rfl rfl rfl rfl hl.1 rfl (Nat.le_of_ble_eq_true rfl) dX0_refuse_7 ⟨Nat.le_refl 0, Nat.le_refl 0⟩ (fun H locs hP hD hS => ?_)
  refine lv_aload_n hx hb dX0_refuse_10 rfl (lv_at hl 0 rfl) ?_
  refine va_get (ci := 0) (C := RX0) (T := TX0) (N := 7) hx hb hts hiX0 hown hK hP 0 rfl rfl 2 (by decide) (hts (.fieldLink RX0 23 "RiddleTrade$Exchange" "answers" "LRiddleTrade$Table;") (List.mem_of_getElem? (i := 1) rfl)) (fun _ h9 => h9) rfl dX0_refuse_11 ?_
  refine lv_iload_n hx hb dX0_refuse_14 rfl (lv_at hl 1 rfl) ?_
  refine lv_iconst (v := 5) hx hb dX0_refuse_15 (by decide) ?_
  refine lv_iload_n hx hb dX0_refuse_16 rfl (lv_at hl 2 rfl) ?_
  obtain ⟨fA_3, hu4, h⟩ := ob1_el h
  refine kcVv (ci := 4) (q := (RX4, TX4, 3)) (ws1 := (w_X0_refuse cI cC h0 h1 h3 h5 h7 h9 h11 h6 fA_3 rA rnd)) ⟨hx, hb, hml, hown, hts⟩ [1, 2] [0] (c_X4_put l D cI cC cE h5 h6 _ 320 fA_1 8 rA p1 5 p2 fA_3 hu4) (cwV 3 hts gX0_refuse_X4_put rfl rfl rfl (by decide +kernel) ⟨Nat.le_of_ble_eq_true rfl, Nat.le_of_ble_eq_true rfl⟩) hK hP hD hS hA rfl rfl rfl rfl rfl rfl rfl rfl rfl hl.1 rfl (Nat.le_of_ble_eq_true rfl) dX0_refuse_17 ⟨Nat.le_refl 0, Nat.le_refl 0⟩ (fun H locs hP hD hS => ?_)
  cases h
  exact fin _ _ _ _ dX0_refuse_20 hP hD hS
abbrev w_X0_doubt (cI cC : ClassId) (h0 h1 h3 h5 h7 h9 h11 h6 h12 : Nat) (fA : Nat → Int32) (rA : Int32) (ri : Nat → Int32) (hd : Int32) (ln : Int32) (rnd : Int32) : va_W := [(h0, .inr (0, [.ref h1, .ref h3, .ref h5, .ref h7, .ref h9, .ref h11, .int rnd])), (h5, .inr (4, [.ref h6, .int 8, .int rA])), (h6, .inl (cI, 320, .inl fA)), (h11, .inr (3, [.ref h12, .int hd, .int ln])), (h12, .inl (cI, 40, .inl ri))]
def d_X0_doubt (p1 : Int32) (fA : Nat → Int32) (ri : Nat → Int32) (hd : Int32) (ln : Int32) : Option ((Nat → Int32) × (Nat → Int32) × Int32) :=
    ob1 (d_X4_increase 320 p1 6 1 fA 8) fun fA_1 =>
    ob1 (d_X4_get 320 p1 6 fA_1 8) fun r3 =>
    if r3 < 3 then (ob2 (d_X3_addLast p1 ri hd ln) fun ri_6 ln_7 =>
    some (fA_1, ri_6, ln_7))
    else (ob1 (d_X0_refuse p1 3 fA_1) fun fA_9 =>
    some (fA_9, ri, ln))
set_option maxHeartbeats 4000000 in
set_option maxRecDepth 100000 in
theorem c_X0_doubt (l : Launch) (D : va_G) (cI cC cE : ClassId) (h0 h1 h3 h5 h7 h9 h11 h6 h12 : Nat) (sz : Nat) (fA : Nat → Int32) (rA : Int32) (ri : Nat → Int32) (hd : Int32) (ln : Int32) (rnd : Int32) (p1 : Int32) (o_fA : Nat → Int32) (o_ri : Nat → Int32) (o_ln : Int32) (h : d_X0_doubt p1 fA ri hd ln = some (o_fA, o_ri, o_ln)) : Met l yX0_doubt wsX0_doubt ({ frames := 2, cells := 0, slots := 0, locals := 46 } : Room) (kP D (kT cI cC cE) [.ref h0, .int p1] (w_X0_doubt cI cC h0 h1 h3 h5 h7 h9 h11 h6 h12 fA rA ri hd ln rnd) sz) (kQv D (kT cI cC cE) (w_X0_doubt cI cC h0 h1 h3 h5 h7 h9 h11 h6 h12 fA rA ri hd ln rnd) (w_X0_doubt cI cC h0 h1 h3 h5 h7 h9 h11 h6 h12 o_fA rA o_ri hd o_ln rnd) sz) 0 0 (va_A (w_X0_doubt cI cC h0 h1 h3 h5 h7 h9 h11 h6 h12 fA rA ri hd ln rnd) sz) := by
  refine kMetV (cc := cX0_doubt) (maxL := 2) (own := RX0) (by decide) rfl (Nat.le_of_ble_eq_true rfl) rfl ?_
  intro p e s m below meth c A Q hx hb hml hown hts hP hK hD hA hS hname fin ls hl
  have hl : lv_has ls 2 [(0, .ref h0), (1, .int p1)] := hl
  have hiX0 : ∀ w ∈ u_ws RX0 TX0 7, w ∈ wsX0_doubt := by decide +kernel
  dsimp only [d_X0_doubt] at h
  refine lv_aload_n hx hb dX0_doubt_0 rfl (lv_at hl 0 rfl) ?_
  refine va_get (ci := 0) (C := RX0) (T := TX0) (N := 7) hx hb hts hiX0 hown hK hP 0 rfl rfl 2 (by decide) (hts (.fieldLink RX0 23 "RiddleTrade$Exchange" "answers" "LRiddleTrade$Table;") (List.mem_of_getElem? (i := 1) rfl)) (fun _ h9 => h9) rfl dX0_doubt_1 ?_
  refine lv_iload_n hx hb dX0_doubt_4 rfl (lv_at hl 1 rfl) ?_
  refine lv_bipush (v := 6) hx hb dX0_doubt_5 (by decide) ?_
  refine lv_iconst (v := 1) hx hb dX0_doubt_7 (by decide) ?_
  obtain ⟨fA_1, hu2, h⟩ := ob1_el h
  refine kcVv (ci := 4) (q := (RX4, TX4, 3)) (ws1 := (w_X0_doubt cI cC h0 h1 h3 h5 h7 h9 h11 h6 h12 fA_1 rA ri hd ln rnd)) ⟨hx, hb, hml, hown, hts⟩ [1, 2] [0, 3, 4] (c_X4_increase l D cI cC cE h5 h6 _ 320 fA 8 rA p1 6 1 fA_1 hu2) (cwV 3 hts gX0_doubt_X4_increase rfl rfl rfl (by decide +kernel) ⟨Nat.le_of_ble_eq_true rfl, Nat.le_of_ble_eq_true rfl⟩) hK hP hD hS hA rfl rfl rfl rfl rfl rfl rfl rfl rfl hl.1 rfl (Nat.le_of_ble_eq_true rfl) dX0_doubt_8 ⟨Nat.le_refl 0, Nat.le_refl 0⟩ (fun H locs hP hD hS => ?_)
  refine lv_aload_n hx hb dX0_doubt_11 rfl (lv_at hl 0 rfl) ?_
  refine va_get (ci := 0) (C := RX0) (T := TX0) (N := 7) hx hb hts hiX0 hown hK hP 0 rfl rfl 2 (by decide) (hts (.fieldLink RX0 23 "RiddleTrade$Exchange" "answers" "LRiddleTrade$Table;") (List.mem_of_getElem? (i := 1) rfl)) (fun _ h9 => h9) rfl dX0_doubt_12 ?_
  refine lv_iload_n hx hb dX0_doubt_15 rfl (lv_at hl 1 rfl) ?_
  refine lv_bipush (v := 6) hx hb dX0_doubt_16 (by decide) ?_
  obtain ⟨r3, hu4, h⟩ := ob1_el h
  refine kcVi (ci := 4) (q := (RX4, TX4, 3)) (ws1 := (w_X0_doubt cI cC h0 h1 h3 h5 h7 h9 h11 h6 h12 fA_1 rA ri hd ln rnd)) ⟨hx, hb, hml, hown, hts⟩ [1, 2] [0, 3, 4] (c_X4_get l D cI cC cE h5 h6 _ 320 fA_1 8 rA p1 6 r3 hu4) (cwV 2 hts gX0_doubt_X4_get rfl rfl rfl (by decide +kernel) ⟨Nat.le_of_ble_eq_true rfl, Nat.le_of_ble_eq_true rfl⟩) hK hP hD hS hA rfl rfl rfl rfl rfl rfl rfl rfl rfl hl.1 rfl (Nat.le_of_ble_eq_true rfl) dX0_doubt_18 ⟨Nat.le_refl 0, Nat.le_refl 0⟩ (fun H locs hP hD hS => ?_)
  refine lv_iconst (v := 3) hx hb dX0_doubt_21 (by decide) ?_
  refine lv_icmp_lt (tgt := 34) hx hb dX0_doubt_22 (by decide) (fun c5 => ?_) (fun c5 => ?_)
  · have h := (k_iB h).1 c5
    refine lv_aload_n hx hb dX0_doubt_34 rfl (lv_at hl 0 rfl) ?_
    refine va_get (ci := 0) (C := RX0) (T := TX0) (N := 7) hx hb hts hiX0 hown hK hP 0 rfl rfl 5 (by decide) (hts (.fieldLink RX0 35 "RiddleTrade$Exchange" "row" "LRiddleTrade$Row;") (List.mem_of_getElem? (i := 2) rfl)) (fun _ h9 => h9) rfl dX0_doubt_35 ?_
    refine lv_iload_n hx hb dX0_doubt_38 rfl (lv_at hl 1 rfl) ?_
    obtain ⟨ri_6, ln_7, hu8, h⟩ := ob2_el h
    refine kcVv (ci := 3) (q := (RX3, TX3, 3)) (ws1 := (w_X0_doubt cI cC h0 h1 h3 h5 h7 h9 h11 h6 h12 fA_1 rA ri_6 hd ln_7 rnd)) ⟨hx, hb, hml, hown, hts⟩ [3, 4] [0, 1, 2] (c_X3_addLast l D cI cC cE h11 h12 _ ri hd ln p1 ri_6 ln_7 hu8) (cwV 1 hts gX0_doubt_X3_addLast rfl rfl rfl (by decide +kernel) ⟨Nat.le_of_ble_eq_true rfl, Nat.le_of_ble_eq_true rfl⟩) hK hP hD hS hA rfl rfl rfl rfl rfl rfl rfl rfl rfl hl.1 rfl (Nat.le_of_ble_eq_true rfl) dX0_doubt_39 ⟨Nat.le_refl 0, Nat.le_refl 0⟩ (fun H locs hP hD hS => ?_)
    cases h
    exact fin _ _ _ _ dX0_doubt_42 hP hD hS
  · have h := (k_iB h).2 c5
    refine lv_aload_n hx hb dX0_doubt_25 rfl (lv_at hl 0 rfl) ?_
    refine lv_iload_n hx hb dX0_doubt_26 rfl (lv_at hl 1 rfl) ?_
    refine lv_iconst (v := 3) hx hb dX0_doubt_27 (by decide) ?_
    obtain ⟨fA_9, hu10, h⟩ := ob1_el h
    refine kcVv (ci := 0) (q := (RX0, TX0, 7)) (ws1 := (w_X0_doubt cI cC h0 h1 h3 h5 h7 h9 h11 h6 h12 fA_9 rA ri hd ln rnd)) ⟨hx, hb, hml, hown, hts⟩ [0, 1, 2] [3, 4] (c_X0_refuse l D cI cC cE h0 h1 h3 h5 h7 h9 h11 h6 _ fA_1 rA rnd p1 3 fA_9 hu10) (cwV 2 hts gX0_doubt_X0_refuse rfl rfl rfl (by decide +kernel) ⟨Nat.le_of_ble_eq_true rfl, Nat.le_of_ble_eq_true rfl⟩) hK hP hD hS hA rfl rfl rfl rfl rfl rfl rfl rfl rfl hl.1 rfl (Nat.le_of_ble_eq_true rfl) dX0_doubt_28 ⟨Nat.le_refl 0, Nat.le_refl 0⟩ (fun H locs hP hD hS => ?_)
    refine lv_goto (tgt := 42) hx hb dX0_doubt_31 (by decide) ?_
    cases h
    exact fin _ _ _ _ dX0_doubt_42 hP hD hS
abbrev w_X0_pay (cI cC : ClassId) (h0 h1 h3 h5 h7 h9 h11 h2 h4 h6 : Nat) (fT : Nat → Int32) (fR : Nat → Int32) (rR : Int32) (fA : Nat → Int32) (rA : Int32) (rnd : Int32) : va_W := [(h0, .inr (0, [.ref h1, .ref h3, .ref h5, .ref h7, .ref h9, .ref h11, .int rnd])), (h1, .inr (4, [.ref h2, .int 2, .int 8])), (h2, .inl (cI, 16, .inl fT)), (h3, .inr (4, [.ref h4, .int 4, .int rR])), (h4, .inl (cI, 80, .inl fR)), (h5, .inr (4, [.ref h6, .int 8, .int rA])), (h6, .inl (cI, 320, .inl fA))]
def d_X0_pay (p1 : Int32) (p2 : Int32) (fT : Nat → Int32) (fR : Nat → Int32) (fA : Nat → Int32) : Option ((Nat → Int32) × (Nat → Int32) × (Nat → Int32)) :=
    ob1 (d_X4_get 320 p1 1 fA 8) fun r1 =>
    ob1 (d_X4_get 80 r1 0 fR 4) fun r3 =>
    ob1 (d_X4_increase 16 r3 0 (-p2) fT 2) fun fT_5 =>
    ob1 (d_X4_get 320 p1 0 fA 8) fun r7 =>
    ob1 (d_X4_increase 16 r7 0 p2 fT_5 2) fun fT_9 =>
    ob1 (d_X4_put 320 p1 4 1 fA 8) fun fA_11 =>
    ob1 (d_X4_put 320 p1 7 p2 fA_11 8) fun fA_13 =>
    ob1 (d_X4_put 80 r1 3 1 fR 4) fun fR_15 =>
    some (fT_9, fR_15, fA_13)
set_option maxHeartbeats 4000000 in
set_option maxRecDepth 100000 in
theorem c_X0_pay (l : Launch) (D : va_G) (cI cC cE : ClassId) (h0 h1 h3 h5 h7 h9 h11 h2 h4 h6 : Nat) (sz : Nat) (fT : Nat → Int32) (fR : Nat → Int32) (rR : Int32) (fA : Nat → Int32) (rA : Int32) (rnd : Int32) (p1 : Int32) (p2 : Int32) (o_fT : Nat → Int32) (o_fR : Nat → Int32) (o_fA : Nat → Int32) (h : d_X0_pay p1 p2 fT fR fA = some (o_fT, o_fR, o_fA)) : Met l yX0_pay wsX0_pay ({ frames := 1, cells := 0, slots := 0, locals := 24 } : Room) (kP D (kT cI cC cE) [.ref h0, .int p1, .int p2] (w_X0_pay cI cC h0 h1 h3 h5 h7 h9 h11 h2 h4 h6 fT fR rR fA rA rnd) sz) (kQv D (kT cI cC cE) (w_X0_pay cI cC h0 h1 h3 h5 h7 h9 h11 h2 h4 h6 fT fR rR fA rA rnd) (w_X0_pay cI cC h0 h1 h3 h5 h7 h9 h11 h2 h4 h6 o_fT o_fR rR o_fA rA rnd) sz) 0 0 (va_A (w_X0_pay cI cC h0 h1 h3 h5 h7 h9 h11 h2 h4 h6 fT fR rR fA rA rnd) sz) := by
  refine kMetV (cc := cX0_pay) (maxL := 4) (own := RX0) (by decide) rfl (Nat.le_of_ble_eq_true rfl) rfl ?_
  intro p e s m below meth c A Q hx hb hml hown hts hP hK hD hA hS hname fin ls hl
  have hl : lv_has ls 4 [(0, .ref h0), (1, .int p1), (2, .int p2)] := hl
  have hiX0 : ∀ w ∈ u_ws RX0 TX0 7, w ∈ wsX0_pay := by decide +kernel
  dsimp only [d_X0_pay] at h
  refine lv_aload_n hx hb dX0_pay_0 rfl (lv_at hl 0 rfl) ?_
  refine va_get (ci := 0) (C := RX0) (T := TX0) (N := 7) hx hb hts hiX0 hown hK hP 0 rfl rfl 2 (by decide) (hts (.fieldLink RX0 23 "RiddleTrade$Exchange" "answers" "LRiddleTrade$Table;") (List.mem_of_getElem? (i := 1) rfl)) (fun _ h9 => h9) rfl dX0_pay_1 ?_
  refine lv_iload_n hx hb dX0_pay_4 rfl (lv_at hl 1 rfl) ?_
  refine lv_iconst (v := 1) hx hb dX0_pay_5 (by decide) ?_
  obtain ⟨r1, hu2, h⟩ := ob1_el h
  refine kcVi (ci := 4) (q := (RX4, TX4, 3)) (ws1 := (w_X0_pay cI cC h0 h1 h3 h5 h7 h9 h11 h2 h4 h6 fT fR rR fA rA rnd)) ⟨hx, hb, hml, hown, hts⟩ [5, 6] [0, 1, 2, 3, 4] (c_X4_get l D cI cC cE h5 h6 _ 320 fA 8 rA p1 1 r1 hu2) (cwV 2 hts gX0_pay_X4_get rfl rfl rfl (by decide +kernel) ⟨Nat.le_of_ble_eq_true rfl, Nat.le_of_ble_eq_true rfl⟩) hK hP hD hS hA rfl rfl rfl rfl rfl rfl rfl rfl rfl hl.1 rfl (Nat.le_of_ble_eq_true rfl) dX0_pay_6 ⟨Nat.le_refl 0, Nat.le_refl 0⟩ (fun H locs hP hD hS => ?_)
  refine lv_istore_n (lv' := [(3, .int r1), (0, .ref h0), (1, .int p1), (2, .int p2)]) hx hb dX0_pay_9 rfl hl (by decide) rfl (fun ls hl => ?_)
  refine lv_aload_n hx hb dX0_pay_10 rfl (lv_at hl 1 rfl) ?_
  refine va_get (ci := 0) (C := RX0) (T := TX0) (N := 7) hx hb hts hiX0 hown hK hP 0 rfl rfl 0 (by decide) (hts (.fieldLink RX0 16 "RiddleTrade$Exchange" "traders" "LRiddleTrade$Table;") (List.mem_of_getElem? (i := 2) rfl)) (fun _ h9 => h9) rfl dX0_pay_11 ?_
  refine lv_aload_n hx hb dX0_pay_14 rfl (lv_at hl 1 rfl) ?_
  refine va_get (ci := 0) (C := RX0) (T := TX0) (N := 7) hx hb hts hiX0 hown hK hP 0 rfl rfl 1 (by decide) (hts (.fieldLink RX0 20 "RiddleTrade$Exchange" "riddles" "LRiddleTrade$Table;") (List.mem_of_getElem? (i := 3) rfl)) (fun _ h9 => h9) rfl dX0_pay_15 ?_
  refine lv_iload_n hx hb dX0_pay_18 rfl (lv_at hl 0 rfl) ?_
  refine lv_iconst (v := 0) hx hb dX0_pay_19 (by decide) ?_
  obtain ⟨r3, hu4, h⟩ := ob1_el h
  refine kcVi (ci := 4) (q := (RX4, TX4, 3)) (ws1 := (w_X0_pay cI cC h0 h1 h3 h5 h7 h9 h11 h2 h4 h6 fT fR rR fA rA rnd)) ⟨hx, hb, hml, hown, hts⟩ [3, 4] [0, 1, 2, 5, 6] (c_X4_get l D cI cC cE h3 h4 _ 80 fR 4 rR r1 0 r3 hu4) (cwV 2 hts gX0_pay_X4_get rfl rfl rfl (by decide +kernel) ⟨Nat.le_of_ble_eq_true rfl, Nat.le_of_ble_eq_true rfl⟩) hK hP hD hS hA rfl rfl rfl rfl rfl rfl rfl rfl rfl hl.1 rfl (Nat.le_of_ble_eq_true rfl) dX0_pay_20 ⟨Nat.le_refl 0, Nat.le_refl 0⟩ (fun H locs hP hD hS => ?_)
  refine lv_iconst (v := 0) hx hb dX0_pay_23 (by decide) ?_
  refine lv_iload_n hx hb dX0_pay_24 rfl (lv_at hl 3 rfl) ?_
  refine lv_ineg hx hb dX0_pay_25 ?_
  obtain ⟨fT_5, hu6, h⟩ := ob1_el h
  refine kcVv (ci := 4) (q := (RX4, TX4, 3)) (ws1 := (w_X0_pay cI cC h0 h1 h3 h5 h7 h9 h11 h2 h4 h6 fT_5 fR rR fA rA rnd)) ⟨hx, hb, hml, hown, hts⟩ [1, 2] [0, 3, 4, 5, 6] (c_X4_increase l D cI cC cE h1 h2 _ 16 fT 2 8 r3 0 (-p2) fT_5 hu6) (cwV 3 hts gX0_pay_X4_increase rfl rfl rfl (by decide +kernel) ⟨Nat.le_of_ble_eq_true rfl, Nat.le_of_ble_eq_true rfl⟩) hK hP hD hS hA rfl rfl rfl rfl rfl rfl rfl rfl rfl hl.1 rfl (Nat.le_of_ble_eq_true rfl) dX0_pay_26 ⟨Nat.le_refl 0, Nat.le_refl 0⟩ (fun H locs hP hD hS => ?_)
  refine lv_aload_n hx hb dX0_pay_29 rfl (lv_at hl 1 rfl) ?_
  refine va_get (ci := 0) (C := RX0) (T := TX0) (N := 7) hx hb hts hiX0 hown hK hP 0 rfl rfl 0 (by decide) (hts (.fieldLink RX0 16 "RiddleTrade$Exchange" "traders" "LRiddleTrade$Table;") (List.mem_of_getElem? (i := 2) rfl)) (fun _ h9 => h9) rfl dX0_pay_30 ?_
  refine lv_aload_n hx hb dX0_pay_33 rfl (lv_at hl 1 rfl) ?_
  refine va_get (ci := 0) (C := RX0) (T := TX0) (N := 7) hx hb hts hiX0 hown hK hP 0 rfl rfl 2 (by decide) (hts (.fieldLink RX0 23 "RiddleTrade$Exchange" "answers" "LRiddleTrade$Table;") (List.mem_of_getElem? (i := 1) rfl)) (fun _ h9 => h9) rfl dX0_pay_34 ?_
  refine lv_iload_n hx hb dX0_pay_37 rfl (lv_at hl 2 rfl) ?_
  refine lv_iconst (v := 0) hx hb dX0_pay_38 (by decide) ?_
  obtain ⟨r7, hu8, h⟩ := ob1_el h
  refine kcVi (ci := 4) (q := (RX4, TX4, 3)) (ws1 := (w_X0_pay cI cC h0 h1 h3 h5 h7 h9 h11 h2 h4 h6 fT_5 fR rR fA rA rnd)) ⟨hx, hb, hml, hown, hts⟩ [5, 6] [0, 1, 2, 3, 4] (c_X4_get l D cI cC cE h5 h6 _ 320 fA 8 rA p1 0 r7 hu8) (cwV 2 hts gX0_pay_X4_get rfl rfl rfl (by decide +kernel) ⟨Nat.le_of_ble_eq_true rfl, Nat.le_of_ble_eq_true rfl⟩) hK hP hD hS hA rfl rfl rfl rfl rfl rfl rfl rfl rfl hl.1 rfl (Nat.le_of_ble_eq_true rfl) dX0_pay_39 ⟨Nat.le_refl 0, Nat.le_refl 0⟩ (fun H locs hP hD hS => ?_)
  refine lv_iconst (v := 0) hx hb dX0_pay_42 (by decide) ?_
  refine lv_iload_n hx hb dX0_pay_43 rfl (lv_at hl 3 rfl) ?_
  obtain ⟨fT_9, hu10, h⟩ := ob1_el h
  refine kcVv (ci := 4) (q := (RX4, TX4, 3)) (ws1 := (w_X0_pay cI cC h0 h1 h3 h5 h7 h9 h11 h2 h4 h6 fT_9 fR rR fA rA rnd)) ⟨hx, hb, hml, hown, hts⟩ [1, 2] [0, 3, 4, 5, 6] (c_X4_increase l D cI cC cE h1 h2 _ 16 fT_5 2 8 r7 0 p2 fT_9 hu10) (cwV 3 hts gX0_pay_X4_increase rfl rfl rfl (by decide +kernel) ⟨Nat.le_of_ble_eq_true rfl, Nat.le_of_ble_eq_true rfl⟩) hK hP hD hS hA rfl rfl rfl rfl rfl rfl rfl rfl rfl hl.1 rfl (Nat.le_of_ble_eq_true rfl) dX0_pay_44 ⟨Nat.le_refl 0, Nat.le_refl 0⟩ (fun H locs hP hD hS => ?_)
  refine lv_aload_n hx hb dX0_pay_47 rfl (lv_at hl 1 rfl) ?_
  refine va_get (ci := 0) (C := RX0) (T := TX0) (N := 7) hx hb hts hiX0 hown hK hP 0 rfl rfl 2 (by decide) (hts (.fieldLink RX0 23 "RiddleTrade$Exchange" "answers" "LRiddleTrade$Table;") (List.mem_of_getElem? (i := 1) rfl)) (fun _ h9 => h9) rfl dX0_pay_48 ?_
  refine lv_iload_n hx hb dX0_pay_51 rfl (lv_at hl 2 rfl) ?_
  refine lv_iconst (v := 4) hx hb dX0_pay_52 (by decide) ?_
  refine lv_iconst (v := 1) hx hb dX0_pay_53 (by decide) ?_
  obtain ⟨fA_11, hu12, h⟩ := ob1_el h
  refine kcVv (ci := 4) (q := (RX4, TX4, 3)) (ws1 := (w_X0_pay cI cC h0 h1 h3 h5 h7 h9 h11 h2 h4 h6 fT_9 fR rR fA_11 rA rnd)) ⟨hx, hb, hml, hown, hts⟩ [5, 6] [0, 1, 2, 3, 4] (c_X4_put l D cI cC cE h5 h6 _ 320 fA 8 rA p1 4 1 fA_11 hu12) (cwV 3 hts gX0_pay_X4_put rfl rfl rfl (by decide +kernel) ⟨Nat.le_of_ble_eq_true rfl, Nat.le_of_ble_eq_true rfl⟩) hK hP hD hS hA rfl rfl rfl rfl rfl rfl rfl rfl rfl hl.1 rfl (Nat.le_of_ble_eq_true rfl) dX0_pay_54 ⟨Nat.le_refl 0, Nat.le_refl 0⟩ (fun H locs hP hD hS => ?_)
  refine lv_aload_n hx hb dX0_pay_57 rfl (lv_at hl 1 rfl) ?_
  refine va_get (ci := 0) (C := RX0) (T := TX0) (N := 7) hx hb hts hiX0 hown hK hP 0 rfl rfl 2 (by decide) (hts (.fieldLink RX0 23 "RiddleTrade$Exchange" "answers" "LRiddleTrade$Table;") (List.mem_of_getElem? (i := 1) rfl)) (fun _ h9 => h9) rfl dX0_pay_58 ?_
  refine lv_iload_n hx hb dX0_pay_61 rfl (lv_at hl 2 rfl) ?_
  refine lv_bipush (v := 7) hx hb dX0_pay_62 (by decide) ?_
  refine lv_iload_n hx hb dX0_pay_64 rfl (lv_at hl 3 rfl) ?_
  obtain ⟨fA_13, hu14, h⟩ := ob1_el h
  refine kcVv (ci := 4) (q := (RX4, TX4, 3)) (ws1 := (w_X0_pay cI cC h0 h1 h3 h5 h7 h9 h11 h2 h4 h6 fT_9 fR rR fA_13 rA rnd)) ⟨hx, hb, hml, hown, hts⟩ [5, 6] [0, 1, 2, 3, 4] (c_X4_put l D cI cC cE h5 h6 _ 320 fA_11 8 rA p1 7 p2 fA_13 hu14) (cwV 3 hts gX0_pay_X4_put rfl rfl rfl (by decide +kernel) ⟨Nat.le_of_ble_eq_true rfl, Nat.le_of_ble_eq_true rfl⟩) hK hP hD hS hA rfl rfl rfl rfl rfl rfl rfl rfl rfl hl.1 rfl (Nat.le_of_ble_eq_true rfl) dX0_pay_65 ⟨Nat.le_refl 0, Nat.le_refl 0⟩ (fun H locs hP hD hS => ?_)
  refine lv_aload_n hx hb dX0_pay_68 rfl (lv_at hl 1 rfl) ?_
  refine va_get (ci := 0) (C := RX0) (T := TX0) (N := 7) hx hb hts hiX0 hown hK hP 0 rfl rfl 1 (by decide) (hts (.fieldLink RX0 20 "RiddleTrade$Exchange" "riddles" "LRiddleTrade$Table;") (List.mem_of_getElem? (i := 3) rfl)) (fun _ h9 => h9) rfl dX0_pay_69 ?_
  refine lv_iload_n hx hb dX0_pay_72 rfl (lv_at hl 0 rfl) ?_
  refine lv_iconst (v := 3) hx hb dX0_pay_73 (by decide) ?_
  refine lv_iconst (v := 1) hx hb dX0_pay_74 (by decide) ?_
  obtain ⟨fR_15, hu16, h⟩ := ob1_el h
  refine kcVv (ci := 4) (q := (RX4, TX4, 3)) (ws1 := (w_X0_pay cI cC h0 h1 h3 h5 h7 h9 h11 h2 h4 h6 fT_9 fR_15 rR fA_13 rA rnd)) ⟨hx, hb, hml, hown, hts⟩ [3, 4] [0, 1, 2, 5, 6] (c_X4_put l D cI cC cE h3 h4 _ 80 fR 4 rR r1 3 1 fR_15 hu16) (cwV 3 hts gX0_pay_X4_put rfl rfl rfl (by decide +kernel) ⟨Nat.le_of_ble_eq_true rfl, Nat.le_of_ble_eq_true rfl⟩) hK hP hD hS hA rfl rfl rfl rfl rfl rfl rfl rfl rfl hl.1 rfl (Nat.le_of_ble_eq_true rfl) dX0_pay_75 ⟨Nat.le_refl 0, Nat.le_refl 0⟩ (fun H locs hP hD hS => ?_)
  cases h
  exact fin _ _ _ _ dX0_pay_78 hP hD hS
abbrev w_X0_driftOn (cI cC : ClassId) (h0 h1 h3 h5 h7 h9 h11 h8 h10 : Nat) (fS : Nat → Int32) (fE : Nat → Int32) (rnd : Int32) : va_W := [(h0, .inr (0, [.ref h1, .ref h3, .ref h5, .ref h7, .ref h9, .ref h11, .int rnd])), (h7, .inr (4, [.ref h8, .int 2, .int 2])), (h8, .inl (cI, 4, .inl fS)), (h9, .inr (4, [.ref h10, .int 3, .int 4])), (h10, .inl (cI, 12, .inl fE))]
def j_X0_driftOn_45 (fE : Nat → Int32) (p1 : Int32) (p2 : Int32) (x3 : Int32) (fS : Nat → Int32) : Option ((Nat → Int32)) :=
    ob1 (d_X4_put 4 p1 0 x3 fS 2) fun fS_6 =>
    ob1 (d_X4_increase 4 p1 1 1 fS_6 2) fun fS_8 =>
    some fS_8
def d_X0_driftOn (p1 : Int32) (p2 : Int32) (fS : Nat → Int32) (fE : Nat → Int32) : Option ((Nat → Int32)) :=
    ob1 (d_X4_get 4 p1 0 fS 2) fun r1 =>
    ob1 (d_X4_get 12 1 0 fE 3) fun r3 =>
    if (if 0 ≤ (r1 + p2) then (r1 + p2) else 0 - (r1 + p2)) ≤ r3 then (j_X0_driftOn_45  fE p1 p2 (r1 + p2) fS)
    else (if (r1 + p2) ≤ 0 then (j_X0_driftOn_45  fE p1 p2 r3 fS)
    else (j_X0_driftOn_45  fE p1 p2 (-r3) fS))
set_option maxHeartbeats 4000000 in
set_option maxRecDepth 100000 in
theorem c_X0_driftOn (l : Launch) (D : va_G) (cI cC cE : ClassId) (h0 h1 h3 h5 h7 h9 h11 h8 h10 : Nat) (sz : Nat) (fS : Nat → Int32) (fE : Nat → Int32) (rnd : Int32) (p1 : Int32) (p2 : Int32) (o_fS : Nat → Int32) (h : d_X0_driftOn p1 p2 fS fE = some o_fS) : Met l yX0_driftOn wsX0_driftOn ({ frames := 1, cells := 0, slots := 0, locals := 24 } : Room) (kP D (kT cI cC cE) [.ref h0, .int p1, .int p2] (w_X0_driftOn cI cC h0 h1 h3 h5 h7 h9 h11 h8 h10 fS fE rnd) sz) (kQv D (kT cI cC cE) (w_X0_driftOn cI cC h0 h1 h3 h5 h7 h9 h11 h8 h10 fS fE rnd) (w_X0_driftOn cI cC h0 h1 h3 h5 h7 h9 h11 h8 h10 o_fS fE rnd) sz) 0 0 (va_A (w_X0_driftOn cI cC h0 h1 h3 h5 h7 h9 h11 h8 h10 fS fE rnd) sz) := by
  refine kMetV (cc := cX0_driftOn) (maxL := 5) (own := RX0) (by decide) rfl (Nat.le_of_ble_eq_true rfl) rfl ?_
  intro p e s m below meth c A Q hx hb hml hown hts hP hK hD hA hS hname fin ls hl
  have hl : lv_has ls 5 [(0, .ref h0), (1, .int p1), (2, .int p2)] := hl
  have hiX0 : ∀ w ∈ u_ws RX0 TX0 7, w ∈ wsX0_driftOn := by decide +kernel
  have hJ45 : ∀ (x3 : Int32) (fS : Nat → Int32) (H : Heap) (locs : List Loc), va_P D vwCl (w_X0_driftOn cI cC h0 h1 h3 h5 h7 h9 h11 h8 h10 fS fE rnd) H → va_D A (w_X0_driftOn cI cC h0 h1 h3 h5 h7 h9 h11 h8 h10 fS fE rnd) → va_S A s.heap H locs → ∀ (ls : Array Slot), lv_has ls 5 [(0, .ref h0), (1, .int p1), (3, .int x3)] → j_X0_driftOn_45  fE p1 p2 x3 fS = some o_fS → W p l e ({ frames := 1, cells := 0, slots := 0, locals := 24 } : Room) s m [.ref h0, .int p1, .int p2].toArray below meth c H locs 0 0 Q (F0 m 45 ls []) := by
    intro x3 fS H locs hP hD hS ls hl h
    dsimp only [j_X0_driftOn_45] at h
    refine lv_aload_n hx hb dX0_driftOn_45 rfl (lv_at hl 0 rfl) ?_
    refine va_get (ci := 0) (C := RX0) (T := TX0) (N := 7) hx hb hts hiX0 hown hK hP 0 rfl rfl 3 (by decide) (hts (.fieldLink RX0 26 "RiddleTrade$Exchange" "scales" "LRiddleTrade$Table;") (List.mem_of_getElem? (i := 1) rfl)) (fun _ h9 => h9) rfl dX0_driftOn_46 ?_
    refine lv_iload_n hx hb dX0_driftOn_49 rfl (lv_at hl 1 rfl) ?_
    refine lv_iconst (v := 0) hx hb dX0_driftOn_50 (by decide) ?_
    refine lv_iload_n hx hb dX0_driftOn_51 rfl (lv_at hl 2 rfl) ?_
    obtain ⟨fS_6, hu7, h⟩ := ob1_el h
    refine kcVv (ci := 4) (q := (RX4, TX4, 3)) (ws1 := (w_X0_driftOn cI cC h0 h1 h3 h5 h7 h9 h11 h8 h10 fS_6 fE rnd)) ⟨hx, hb, hml, hown, hts⟩ [1, 2] [0, 3, 4] (c_X4_put l D cI cC cE h7 h8 _ 4 fS 2 2 p1 0 x3 fS_6 hu7) (cwV 3 hts gX0_driftOn_X4_put rfl rfl rfl (by decide +kernel) ⟨Nat.le_of_ble_eq_true rfl, Nat.le_of_ble_eq_true rfl⟩) hK hP hD hS hA rfl rfl rfl rfl rfl rfl rfl rfl rfl hl.1 rfl (Nat.le_of_ble_eq_true rfl) dX0_driftOn_52 ⟨Nat.le_refl 0, Nat.le_refl 0⟩ (fun H locs hP hD hS => ?_)
    refine lv_aload_n hx hb dX0_driftOn_55 rfl (lv_at hl 0 rfl) ?_
    refine va_get (ci := 0) (C := RX0) (T := TX0) (N := 7) hx hb hts hiX0 hown hK hP 0 rfl rfl 3 (by decide) (hts (.fieldLink RX0 26 "RiddleTrade$Exchange" "scales" "LRiddleTrade$Table;") (List.mem_of_getElem? (i := 1) rfl)) (fun _ h9 => h9) rfl dX0_driftOn_56 ?_
    refine lv_iload_n hx hb dX0_driftOn_59 rfl (lv_at hl 1 rfl) ?_
    refine lv_iconst (v := 1) hx hb dX0_driftOn_60 (by decide) ?_
    refine lv_iconst (v := 1) hx hb dX0_driftOn_61 (by decide) ?_
    obtain ⟨fS_8, hu9, h⟩ := ob1_el h
    refine kcVv (ci := 4) (q := (RX4, TX4, 3)) (ws1 := (w_X0_driftOn cI cC h0 h1 h3 h5 h7 h9 h11 h8 h10 fS_8 fE rnd)) ⟨hx, hb, hml, hown, hts⟩ [1, 2] [0, 3, 4] (c_X4_increase l D cI cC cE h7 h8 _ 4 fS_6 2 2 p1 1 1 fS_8 hu9) (cwV 3 hts gX0_driftOn_X4_increase rfl rfl rfl (by decide +kernel) ⟨Nat.le_of_ble_eq_true rfl, Nat.le_of_ble_eq_true rfl⟩) hK hP hD hS hA rfl rfl rfl rfl rfl rfl rfl rfl rfl hl.1 rfl (Nat.le_of_ble_eq_true rfl) dX0_driftOn_62 ⟨Nat.le_refl 0, Nat.le_refl 0⟩ (fun H locs hP hD hS => ?_)
    cases h
    exact fin _ _ _ _ dX0_driftOn_65 hP hD hS
  dsimp only [d_X0_driftOn] at h
  refine lv_aload_n hx hb dX0_driftOn_0 rfl (lv_at hl 0 rfl) ?_
  refine va_get (ci := 0) (C := RX0) (T := TX0) (N := 7) hx hb hts hiX0 hown hK hP 0 rfl rfl 3 (by decide) (hts (.fieldLink RX0 26 "RiddleTrade$Exchange" "scales" "LRiddleTrade$Table;") (List.mem_of_getElem? (i := 1) rfl)) (fun _ h9 => h9) rfl dX0_driftOn_1 ?_
  refine lv_iload_n hx hb dX0_driftOn_4 rfl (lv_at hl 1 rfl) ?_
  refine lv_iconst (v := 0) hx hb dX0_driftOn_5 (by decide) ?_
  obtain ⟨r1, hu2, h⟩ := ob1_el h
  refine kcVi (ci := 4) (q := (RX4, TX4, 3)) (ws1 := (w_X0_driftOn cI cC h0 h1 h3 h5 h7 h9 h11 h8 h10 fS fE rnd)) ⟨hx, hb, hml, hown, hts⟩ [1, 2] [0, 3, 4] (c_X4_get l D cI cC cE h7 h8 _ 4 fS 2 2 p1 0 r1 hu2) (cwV 2 hts gX0_driftOn_X4_get rfl rfl rfl (by decide +kernel) ⟨Nat.le_of_ble_eq_true rfl, Nat.le_of_ble_eq_true rfl⟩) hK hP hD hS hA rfl rfl rfl rfl rfl rfl rfl rfl rfl hl.1 rfl (Nat.le_of_ble_eq_true rfl) dX0_driftOn_6 ⟨Nat.le_refl 0, Nat.le_refl 0⟩ (fun H locs hP hD hS => ?_)
  refine lv_iload_n hx hb dX0_driftOn_9 rfl (lv_at hl 2 rfl) ?_
  refine lv_iadd hx hb dX0_driftOn_10 ?_
  refine lv_istore_n (lv' := [(3, .int (r1 + p2)), (0, .ref h0), (1, .int p1), (2, .int p2)]) hx hb dX0_driftOn_11 rfl hl (by decide) rfl (fun ls hl => ?_)
  refine lv_aload_n hx hb dX0_driftOn_12 rfl (lv_at hl 1 rfl) ?_
  refine va_get (ci := 0) (C := RX0) (T := TX0) (N := 7) hx hb hts hiX0 hown hK hP 0 rfl rfl 4 (by decide) (hts (.fieldLink RX0 29 "RiddleTrade$Exchange" "settings" "LRiddleTrade$Table;") (List.mem_of_getElem? (i := 2) rfl)) (fun _ h9 => h9) rfl dX0_driftOn_13 ?_
  refine lv_iconst (v := 1) hx hb dX0_driftOn_16 (by decide) ?_
  refine lv_iconst (v := 0) hx hb dX0_driftOn_17 (by decide) ?_
  obtain ⟨r3, hu4, h⟩ := ob1_el h
  refine kcVi (ci := 4) (q := (RX4, TX4, 3)) (ws1 := (w_X0_driftOn cI cC h0 h1 h3 h5 h7 h9 h11 h8 h10 fS fE rnd)) ⟨hx, hb, hml, hown, hts⟩ [3, 4] [0, 1, 2] (c_X4_get l D cI cC cE h9 h10 _ 12 fE 3 4 1 0 r3 hu4) (cwV 2 hts gX0_driftOn_X4_get rfl rfl rfl (by decide +kernel) ⟨Nat.le_of_ble_eq_true rfl, Nat.le_of_ble_eq_true rfl⟩) hK hP hD hS hA rfl rfl rfl rfl rfl rfl rfl rfl rfl hl.1 rfl (Nat.le_of_ble_eq_true rfl) dX0_driftOn_18 ⟨Nat.le_refl 0, Nat.le_refl 0⟩ (fun H locs hP hD hS => ?_)
  refine lv_istore (lv' := [(4, .int r3), (3, .int (r1 + p2)), (0, .ref h0), (1, .int p1), (2, .int p2)]) hx hb dX0_driftOn_21 hl (by decide) rfl (fun ls hl => ?_)
  refine lv_iload_n hx hb dX0_driftOn_23 rfl (lv_at hl 1 rfl) ?_
  refine va_mabs hx hb (hml.trans hl.1.symm) hown (hts _ (List.mem_of_getElem? (i := 3) rfl)) (hts _ (List.mem_of_getElem? (i := 4) rfl)) (hts _ (List.mem_of_getElem? (i := 5) rfl)) (hts _ (List.mem_of_getElem? (i := 6) rfl)) (Nat.le_of_ble_eq_true rfl) (Nat.le_of_ble_eq_true rfl) (Nat.le_refl 0) (Nat.le_refl 0) dX0_driftOn_24 ?_
  refine lv_iload hx hb dX0_driftOn_27 (lv_at hl 0 rfl) ?_
  refine lv_icmp_le (tgt := 45) hx hb dX0_driftOn_29 (by decide) (fun c5 => ?_) (fun c5 => ?_)
  · have h := (k_iB h).1 c5
    exact hJ45   (r1 + p2) fS _ _ hP hD hS _ (lv_sub hl [2, 3, 1] rfl) h
  · have h := (k_iB h).2 c5
    refine lv_iload_n hx hb dX0_driftOn_32 rfl (lv_at hl 1 rfl) ?_
    refine lv_if_le (tgt := 42) hx hb dX0_driftOn_33 (by decide) (fun c10 => ?_) (fun c10 => ?_)
    · have h := (k_iB h).1 c10
      refine lv_iload hx hb dX0_driftOn_42 (lv_at hl 0 rfl) ?_
      refine lv_istore_n (lv' := [(3, .int r3), (4, .int r3), (0, .ref h0), (1, .int p1), (2, .int p2)]) hx hb dX0_driftOn_44 rfl hl (by decide) rfl (fun ls hl => ?_)
      exact hJ45   r3 fS _ _ hP hD hS _ (lv_sub hl [2, 3, 0] rfl) h
    · have h := (k_iB h).2 c10
      refine lv_iload hx hb dX0_driftOn_36 (lv_at hl 0 rfl) ?_
      refine lv_ineg hx hb dX0_driftOn_38 ?_
      refine lv_goto (tgt := 44) hx hb dX0_driftOn_39 (by decide) ?_
      refine lv_istore_n (lv' := [(3, .int (-r3)), (4, .int r3), (0, .ref h0), (1, .int p1), (2, .int p2)]) hx hb dX0_driftOn_44 rfl hl (by decide) rfl (fun ls hl => ?_)
      exact hJ45   (-r3) fS _ _ hP hD hS _ (lv_sub hl [2, 3, 0] rfl) h
abbrev w_X0_chargeFees (cI cC : ClassId) (h0 h1 h3 h5 h7 h9 h11 h2 : Nat) (fT : Nat → Int32) (rnd : Int32) : va_W := [(h0, .inr (0, [.ref h1, .ref h3, .ref h5, .ref h7, .ref h9, .ref h11, .int rnd])), (h1, .inr (4, [.ref h2, .int 2, .int 8])), (h2, .inl (cI, 16, .inl fT))]
def lp_X0_chargeFees_2 : Nat → Int32 → (Nat → Int32) → Option ((Nat → Int32))
  | 0 => fun _ _ => none
  | k + 1 => fun x1 fT =>
    if 8 ≤ x1 then (some fT)
    else (ob1 (d_X4_get 16 x1 0 fT 2) fun r2 =>
    if (-r2) ≤ 0 then ((lp_X0_chargeFees_2   k) (x1 + 1) fT)
    else (ob1 (d_X4_increase 16 x1 0 (-(if 5 < ((-r2) / 20) then 5 else ((-r2) / 20))) fT 2) fun fT_5 =>
    ob1 (d_X4_increase 16 x1 1 (if 5 < ((-r2) / 20) then 5 else ((-r2) / 20)) fT_5 2) fun fT_7 =>
    (lp_X0_chargeFees_2   k) (x1 + 1) fT_7))
def d_X0_chargeFees (fT : Nat → Int32) : Option ((Nat → Int32)) :=
    lp_X0_chargeFees_2   fuel 0 fT
set_option maxHeartbeats 4000000 in
set_option maxRecDepth 100000 in
theorem c_X0_chargeFees (l : Launch) (D : va_G) (cI cC cE : ClassId) (h0 h1 h3 h5 h7 h9 h11 h2 : Nat) (sz : Nat) (fT : Nat → Int32) (rnd : Int32) (o_fT : Nat → Int32) (h : d_X0_chargeFees fT = some o_fT) : Met l yX0_chargeFees wsX0_chargeFees ({ frames := 1, cells := 0, slots := 0, locals := 24 } : Room) (kP D (kT cI cC cE) [.ref h0] (w_X0_chargeFees cI cC h0 h1 h3 h5 h7 h9 h11 h2 fT rnd) sz) (kQv D (kT cI cC cE) (w_X0_chargeFees cI cC h0 h1 h3 h5 h7 h9 h11 h2 fT rnd) (w_X0_chargeFees cI cC h0 h1 h3 h5 h7 h9 h11 h2 o_fT rnd) sz) 0 0 (va_A (w_X0_chargeFees cI cC h0 h1 h3 h5 h7 h9 h11 h2 fT rnd) sz) := by
  refine kMetV (cc := cX0_chargeFees) (maxL := 4) (own := RX0) (by decide) rfl (Nat.le_of_ble_eq_true rfl) rfl ?_
  intro p e s m below meth c A Q hx hb hml hown hts hP hK hD hA hS hname fin ls hl
  have hl : lv_has ls 4 [(0, .ref h0)] := hl
  have hiX0 : ∀ w ∈ u_ws RX0 TX0 7, w ∈ wsX0_chargeFees := by decide +kernel
  have hL2 : ∀ (k : Nat), ∀ (x1 : Int32) (fT : Nat → Int32) (H : Heap) (locs : List Loc), va_P D vwCl (w_X0_chargeFees cI cC h0 h1 h3 h5 h7 h9 h11 h2 fT rnd) H → va_D A (w_X0_chargeFees cI cC h0 h1 h3 h5 h7 h9 h11 h2 fT rnd) → va_S A s.heap H locs → ∀ (ls : Array Slot), lv_has ls 4 [(0, .ref h0), (1, .int x1)] → lp_X0_chargeFees_2   k x1 fT = some o_fT → W p l e ({ frames := 1, cells := 0, slots := 0, locals := 24 } : Room) s m [.ref h0].toArray below meth c H locs 0 0 Q (F0 m 2 ls []) := by
    intro k
    induction k with
    | zero =>
      intro x1 fT H locs hP hD hS ls hl h
      exact k_none h
    | succ k ih =>
      intro x1 fT H locs hP hD hS ls hl h
      dsimp only [lp_X0_chargeFees_2] at h
      refine lv_iload_n hx hb dX0_chargeFees_2 rfl (lv_at hl 1 rfl) ?_
      refine lv_bipush (v := 8) hx hb dX0_chargeFees_3 (by decide) ?_
      refine lv_icmp_ge (tgt := 59) hx hb dX0_chargeFees_5 (by decide) (fun c1 => ?_) (fun c1 => ?_)
      · have h := (k_iB h).1 c1
        cases h
        exact fin _ _ _ _ dX0_chargeFees_59 hP hD hS
      · have h := (k_iB h).2 c1
        refine lv_aload_n hx hb dX0_chargeFees_8 rfl (lv_at hl 0 rfl) ?_
        refine va_get (ci := 0) (C := RX0) (T := TX0) (N := 7) hx hb hts hiX0 hown hK hP 0 rfl rfl 0 (by decide) (hts (.fieldLink RX0 16 "RiddleTrade$Exchange" "traders" "LRiddleTrade$Table;") (List.mem_of_getElem? (i := 1) rfl)) (fun _ h9 => h9) rfl dX0_chargeFees_9 ?_
        refine lv_iload_n hx hb dX0_chargeFees_12 rfl (lv_at hl 1 rfl) ?_
        refine lv_iconst (v := 0) hx hb dX0_chargeFees_13 (by decide) ?_
        obtain ⟨r2, hu3, h⟩ := ob1_el h
        refine kcVi (ci := 4) (q := (RX4, TX4, 3)) (ws1 := (w_X0_chargeFees cI cC h0 h1 h3 h5 h7 h9 h11 h2 fT rnd)) ⟨hx, hb, hml, hown, hts⟩ [1, 2] [0] (c_X4_get l D cI cC cE h1 h2 _ 16 fT 2 8 x1 0 r2 hu3) (cwV 2 hts gX0_chargeFees_X4_get rfl rfl rfl (by decide +kernel) ⟨Nat.le_of_ble_eq_true rfl, Nat.le_of_ble_eq_true rfl⟩) hK hP hD hS hA rfl rfl rfl rfl rfl rfl rfl rfl rfl hl.1 rfl (Nat.le_of_ble_eq_true rfl) dX0_chargeFees_14 ⟨Nat.le_refl 0, Nat.le_refl 0⟩ (fun H locs hP hD hS => ?_)
        refine lv_ineg hx hb dX0_chargeFees_17 ?_
        refine lv_istore_n (lv' := [(2, .int (-r2)), (0, .ref h0), (1, .int x1)]) hx hb dX0_chargeFees_18 rfl hl (by decide) rfl (fun ls hl => ?_)
        refine lv_iload_n hx hb dX0_chargeFees_19 rfl (lv_at hl 0 rfl) ?_
        refine lv_if_le (tgt := 53) hx hb dX0_chargeFees_20 (by decide) (fun c4 => ?_) (fun c4 => ?_)
        · have h := (k_iB h).1 c4
          refine lv_iinc (v := (x1 + 1)) (lv' := [(1, .int (x1 + 1)), (2, .int (-r2)), (0, .ref h0)]) hx hb dX0_chargeFees_53 hl (k := 2) rfl rfl (by decide) rfl (fun ls hl => ?_)
          refine lv_goto (tgt := 2) hx hb dX0_chargeFees_56 (by decide) ?_
          exact ih (x1 + 1) fT _ _ hP hD hS _ (lv_sub hl [2, 0] rfl) h
        · have h := (k_iB h).2 c4
          refine lv_iload_n hx hb dX0_chargeFees_23 rfl (lv_at hl 0 rfl) ?_
          refine lv_bipush (v := 20) hx hb dX0_chargeFees_24 (by decide) ?_
          refine lv_idiv hx hb dX0_chargeFees_26 (by decide) ?_
          refine lv_iconst (v := 5) hx hb dX0_chargeFees_27 (by decide) ?_
          refine va_mmin hx hb (hml.trans hl.1.symm) hown (hts _ (List.mem_of_getElem? (i := 2) rfl)) (hts _ (List.mem_of_getElem? (i := 3) rfl)) (hts _ (List.mem_of_getElem? (i := 4) rfl)) (hts _ (List.mem_of_getElem? (i := 5) rfl)) (Nat.le_of_ble_eq_true rfl) (Nat.le_of_ble_eq_true rfl) (Nat.le_refl 0) (Nat.le_refl 0) dX0_chargeFees_28 ?_
          refine lv_istore_n (lv' := [(3, .int (if 5 < ((-r2) / 20) then 5 else ((-r2) / 20))), (2, .int (-r2)), (0, .ref h0), (1, .int x1)]) hx hb dX0_chargeFees_31 rfl hl (by decide) rfl (fun ls hl => ?_)
          refine lv_aload_n hx hb dX0_chargeFees_32 rfl (lv_at hl 2 rfl) ?_
          refine va_get (ci := 0) (C := RX0) (T := TX0) (N := 7) hx hb hts hiX0 hown hK hP 0 rfl rfl 0 (by decide) (hts (.fieldLink RX0 16 "RiddleTrade$Exchange" "traders" "LRiddleTrade$Table;") (List.mem_of_getElem? (i := 1) rfl)) (fun _ h9 => h9) rfl dX0_chargeFees_33 ?_
          refine lv_iload_n hx hb dX0_chargeFees_36 rfl (lv_at hl 3 rfl) ?_
          refine lv_iconst (v := 0) hx hb dX0_chargeFees_37 (by decide) ?_
          refine lv_iload_n hx hb dX0_chargeFees_38 rfl (lv_at hl 0 rfl) ?_
          refine lv_ineg hx hb dX0_chargeFees_39 ?_
          obtain ⟨fT_5, hu6, h⟩ := ob1_el h
          refine kcVv (ci := 4) (q := (RX4, TX4, 3)) (ws1 := (w_X0_chargeFees cI cC h0 h1 h3 h5 h7 h9 h11 h2 fT_5 rnd)) ⟨hx, hb, hml, hown, hts⟩ [1, 2] [0] (c_X4_increase l D cI cC cE h1 h2 _ 16 fT 2 8 x1 0 (-(if 5 < ((-r2) / 20) then 5 else ((-r2) / 20))) fT_5 hu6) (cwV 3 hts gX0_chargeFees_X4_increase rfl rfl rfl (by decide +kernel) ⟨Nat.le_of_ble_eq_true rfl, Nat.le_of_ble_eq_true rfl⟩) hK hP hD hS hA rfl rfl rfl rfl rfl rfl rfl rfl rfl hl.1 rfl (Nat.le_of_ble_eq_true rfl) dX0_chargeFees_40 ⟨Nat.le_refl 0, Nat.le_refl 0⟩ (fun H locs hP hD hS => ?_)
          refine lv_aload_n hx hb dX0_chargeFees_43 rfl (lv_at hl 2 rfl) ?_
          refine va_get (ci := 0) (C := RX0) (T := TX0) (N := 7) hx hb hts hiX0 hown hK hP 0 rfl rfl 0 (by decide) (hts (.fieldLink RX0 16 "RiddleTrade$Exchange" "traders" "LRiddleTrade$Table;") (List.mem_of_getElem? (i := 1) rfl)) (fun _ h9 => h9) rfl dX0_chargeFees_44 ?_
          refine lv_iload_n hx hb dX0_chargeFees_47 rfl (lv_at hl 3 rfl) ?_
          refine lv_iconst (v := 1) hx hb dX0_chargeFees_48 (by decide) ?_
          refine lv_iload_n hx hb dX0_chargeFees_49 rfl (lv_at hl 0 rfl) ?_
          obtain ⟨fT_7, hu8, h⟩ := ob1_el h
          refine kcVv (ci := 4) (q := (RX4, TX4, 3)) (ws1 := (w_X0_chargeFees cI cC h0 h1 h3 h5 h7 h9 h11 h2 fT_7 rnd)) ⟨hx, hb, hml, hown, hts⟩ [1, 2] [0] (c_X4_increase l D cI cC cE h1 h2 _ 16 fT_5 2 8 x1 1 (if 5 < ((-r2) / 20) then 5 else ((-r2) / 20)) fT_7 hu8) (cwV 3 hts gX0_chargeFees_X4_increase rfl rfl rfl (by decide +kernel) ⟨Nat.le_of_ble_eq_true rfl, Nat.le_of_ble_eq_true rfl⟩) hK hP hD hS hA rfl rfl rfl rfl rfl rfl rfl rfl rfl hl.1 rfl (Nat.le_of_ble_eq_true rfl) dX0_chargeFees_50 ⟨Nat.le_refl 0, Nat.le_refl 0⟩ (fun H locs hP hD hS => ?_)
          refine lv_iinc (v := (x1 + 1)) (lv' := [(1, .int (x1 + 1)), (3, .int (if 5 < ((-r2) / 20) then 5 else ((-r2) / 20))), (2, .int (-r2)), (0, .ref h0)]) hx hb dX0_chargeFees_53 hl (k := 3) rfl rfl (by decide) rfl (fun ls hl => ?_)
          refine lv_goto (tgt := 2) hx hb dX0_chargeFees_56 (by decide) ?_
          exact ih (x1 + 1) fT_7 _ _ hP hD hS _ (lv_sub hl [3, 0] rfl) h
  dsimp only [d_X0_chargeFees] at h
  refine lv_iconst (v := 0) hx hb dX0_chargeFees_0 (by decide) ?_
  refine lv_istore_n (lv' := [(1, .int 0), (0, .ref h0)]) hx hb dX0_chargeFees_1 rfl hl (by decide) rfl (fun ls hl => ?_)
  exact hL2   fuel 0 fT _ _ hP hD hS _ (lv_sub hl [1, 0] rfl) h
abbrev w_X0_takeOne (cI cC : ClassId) (h0 h1 h3 h5 h7 h9 h11 h2 h4 h6 h8 h10 h12 : Nat) (fT : Nat → Int32) (fR : Nat → Int32) (rR : Int32) (fA : Nat → Int32) (rA : Int32) (fS : Nat → Int32) (fE : Nat → Int32) (ri : Nat → Int32) (hd : Int32) (ln : Int32) (rnd : Int32) : va_W := [(h0, .inr (0, [.ref h1, .ref h3, .ref h5, .ref h7, .ref h9, .ref h11, .int rnd])), (h1, .inr (4, [.ref h2, .int 2, .int 8])), (h2, .inl (cI, 16, .inl fT)), (h3, .inr (4, [.ref h4, .int 4, .int rR])), (h4, .inl (cI, 80, .inl fR)), (h5, .inr (4, [.ref h6, .int 8, .int rA])), (h6, .inl (cI, 320, .inl fA)), (h7, .inr (4, [.ref h8, .int 2, .int 2])), (h8, .inl (cI, 4, .inl fS)), (h9, .inr (4, [.ref h10, .int 3, .int 4])), (h10, .inl (cI, 12, .inl fE)), (h11, .inr (3, [.ref h12, .int hd, .int ln])), (h12, .inl (cI, 40, .inl ri))]
def j_X0_takeOne_23 (fE : Nat → Int32) (hd : Int32) (p1 : Int32) (x3 : Int32) (fT : Nat → Int32) (fR : Nat → Int32) (fA : Nat → Int32) (fS : Nat → Int32) (ri : Nat → Int32) (ln : Int32) : Option (Int32 × (Nat → Int32) × (Nat → Int32) × (Nat → Int32) × (Nat → Int32) × (Nat → Int32) × Int32) :=
    ob1 (d_X0_refuse p1 x3 fA) fun fA_6 =>
    some (0, fT, fR, fA_6, fS, ri, ln)
def d_X0_takeOne (p1 : Int32) (fT : Nat → Int32) (fR : Nat → Int32) (fA : Nat → Int32) (fS : Nat → Int32) (fE : Nat → Int32) (ri : Nat → Int32) (hd : Int32) (ln : Int32) : Option (Int32 × (Nat → Int32) × (Nat → Int32) × (Nat → Int32) × (Nat → Int32) × (Nat → Int32) × Int32) :=
    ob1 (d_X0_paymentFor p1 fR fA fS) fun r1 =>
    ob1 (d_X0_hindrance p1 r1 fT fR fA fS fE) fun r3 =>
    if r3 = 1 then (j_X0_takeOne_23  fE hd p1 r3 fT fR fA fS ri ln)
    else (if r3 = 2 then (j_X0_takeOne_23  fE hd p1 r3 fT fR fA fS ri ln)
    else (ob1 (d_X0_driftOn 0 1 fS fE) fun fS_9 =>
    ob1 (d_X0_driftOn 1 (-1) fS_9 fE) fun fS_11 =>
    if r3 = 3 then (ob3 (d_X0_doubt p1 fA ri hd ln) fun fA_15 ri_16 ln_17 =>
    some (0, fT, fR, fA_15, fS_11, ri_16, ln_17))
    else (if r3 = 4 then (ob2 (d_X3_addLast p1 ri hd ln) fun ri_20 ln_21 =>
    some (0, fT, fR, fA, fS_11, ri_20, ln_21))
    else (ob3 (d_X0_pay p1 r1 fT fR fA) fun fT_23 fR_24 fA_25 =>
    some (1, fT_23, fR_24, fA_25, fS_11, ri, ln)))))
set_option maxHeartbeats 4000000 in
set_option maxRecDepth 100000 in
theorem c_X0_takeOne (l : Launch) (D : va_G) (cI cC cE : ClassId) (h0 h1 h3 h5 h7 h9 h11 h2 h4 h6 h8 h10 h12 : Nat) (sz : Nat) (fT : Nat → Int32) (fR : Nat → Int32) (rR : Int32) (fA : Nat → Int32) (rA : Int32) (fS : Nat → Int32) (fE : Nat → Int32) (ri : Nat → Int32) (hd : Int32) (ln : Int32) (rnd : Int32) (p1 : Int32) (r0 : Int32) (o_fT : Nat → Int32) (o_fR : Nat → Int32) (o_fA : Nat → Int32) (o_fS : Nat → Int32) (o_ri : Nat → Int32) (o_ln : Int32) (h : d_X0_takeOne p1 fT fR fA fS fE ri hd ln = some (r0, o_fT, o_fR, o_fA, o_fS, o_ri, o_ln)) : Met l yX0_takeOne wsX0_takeOne ({ frames := 3, cells := 0, slots := 0, locals := 70 } : Room) (kP D (kT cI cC cE) [.ref h0, .int p1] (w_X0_takeOne cI cC h0 h1 h3 h5 h7 h9 h11 h2 h4 h6 h8 h10 h12 fT fR rR fA rA fS fE ri hd ln rnd) sz) (kQi D (kT cI cC cE) (w_X0_takeOne cI cC h0 h1 h3 h5 h7 h9 h11 h2 h4 h6 h8 h10 h12 fT fR rR fA rA fS fE ri hd ln rnd) (w_X0_takeOne cI cC h0 h1 h3 h5 h7 h9 h11 h2 h4 h6 h8 h10 h12 o_fT o_fR rR o_fA rA o_fS fE o_ri hd o_ln rnd) sz r0) 0 0 (va_A (w_X0_takeOne cI cC h0 h1 h3 h5 h7 h9 h11 h2 h4 h6 h8 h10 h12 fT fR rR fA rA fS fE ri hd ln rnd) sz) := by
  refine kMetZ (cc := cX0_takeOne) (maxL := 4) (own := RX0) (by decide) rfl (Nat.le_of_ble_eq_true rfl) rfl ?_
  intro p e s m below meth c A Q hx hb hml hown hts hP hK hD hA hS hname fin ls hl
  have hl : lv_has ls 4 [(0, .ref h0), (1, .int p1)] := hl
  have hiX0 : ∀ w ∈ u_ws RX0 TX0 7, w ∈ wsX0_takeOne := by decide +kernel
  have hJ23 : ∀ (x3 : Int32) (fT : Nat → Int32) (fR : Nat → Int32) (fA : Nat → Int32) (fS : Nat → Int32) (ri : Nat → Int32) (ln : Int32) (H : Heap) (locs : List Loc), va_P D vwCl (w_X0_takeOne cI cC h0 h1 h3 h5 h7 h9 h11 h2 h4 h6 h8 h10 h12 fT fR rR fA rA fS fE ri hd ln rnd) H → va_D A (w_X0_takeOne cI cC h0 h1 h3 h5 h7 h9 h11 h2 h4 h6 h8 h10 h12 fT fR rR fA rA fS fE ri hd ln rnd) → va_S A s.heap H locs → ∀ (ls : Array Slot), lv_has ls 4 [(0, .ref h0), (1, .int p1), (3, .int x3)] → j_X0_takeOne_23  fE hd p1 x3 fT fR fA fS ri ln = some (r0, o_fT, o_fR, o_fA, o_fS, o_ri, o_ln) → W p l e ({ frames := 3, cells := 0, slots := 0, locals := 70 } : Room) s m [.ref h0, .int p1].toArray below meth c H locs 0 0 Q (F0 m 23 ls []) := by
    intro x3 fT fR fA fS ri ln H locs hP hD hS ls hl h
    dsimp only [j_X0_takeOne_23] at h
    refine lv_aload_n hx hb dX0_takeOne_23 rfl (lv_at hl 0 rfl) ?_
    refine lv_iload_n hx hb dX0_takeOne_24 rfl (lv_at hl 1 rfl) ?_
    refine lv_iload_n hx hb dX0_takeOne_25 rfl (lv_at hl 2 rfl) ?_
    obtain ⟨fA_6, hu7, h⟩ := ob1_el h
    refine kcVv (ci := 0) (q := (RX0, TX0, 7)) (ws1 := (w_X0_takeOne cI cC h0 h1 h3 h5 h7 h9 h11 h2 h4 h6 h8 h10 h12 fT fR rR fA_6 rA fS fE ri hd ln rnd)) ⟨hx, hb, hml, hown, hts⟩ [0, 5, 6] [1, 2, 3, 4, 7, 8, 9, 10, 11, 12] (c_X0_refuse l D cI cC cE h0 h1 h3 h5 h7 h9 h11 h6 _ fA rA rnd p1 x3 fA_6 hu7) (cwV 2 hts gX0_takeOne_X0_refuse rfl rfl rfl (by decide +kernel) ⟨Nat.le_of_ble_eq_true rfl, Nat.le_of_ble_eq_true rfl⟩) hK hP hD hS hA rfl rfl rfl rfl rfl rfl rfl rfl rfl hl.1 rfl (Nat.le_of_ble_eq_true rfl) dX0_takeOne_26 ⟨Nat.le_refl 0, Nat.le_refl 0⟩ (fun H locs hP hD hS => ?_)
    refine lv_iconst (v := 0) hx hb dX0_takeOne_29 (by decide) ?_
    cases h
    exact fin _ _ _ _ rfl dX0_takeOne_30 hP hD hS
  dsimp only [d_X0_takeOne] at h
  refine lv_aload_n hx hb dX0_takeOne_0 rfl (lv_at hl 0 rfl) ?_
  refine lv_iload_n hx hb dX0_takeOne_1 rfl (lv_at hl 1 rfl) ?_
  obtain ⟨r1, hu2, h⟩ := ob1_el h
  refine kcVi (ci := 0) (q := (RX0, TX0, 7)) (ws1 := (w_X0_takeOne cI cC h0 h1 h3 h5 h7 h9 h11 h2 h4 h6 h8 h10 h12 fT fR rR fA rA fS fE ri hd ln rnd)) ⟨hx, hb, hml, hown, hts⟩ [0, 3, 4, 5, 6, 7, 8] [1, 2, 9, 10, 11, 12] (c_X0_paymentFor l D cI cC cE h0 h1 h3 h5 h7 h9 h11 h4 h6 h8 _ fR rR fA rA fS rnd p1 r1 hu2) (cwV 1 hts gX0_takeOne_X0_paymentFor rfl rfl rfl (by decide +kernel) ⟨Nat.le_of_ble_eq_true rfl, Nat.le_of_ble_eq_true rfl⟩) hK hP hD hS hA rfl rfl rfl rfl rfl rfl rfl rfl rfl hl.1 rfl (Nat.le_of_ble_eq_true rfl) dX0_takeOne_2 ⟨Nat.le_refl 0, Nat.le_refl 0⟩ (fun H locs hP hD hS => ?_)
  refine lv_istore_n (lv' := [(2, .int r1), (0, .ref h0), (1, .int p1)]) hx hb dX0_takeOne_5 rfl hl (by decide) rfl (fun ls hl => ?_)
  refine lv_aload_n hx hb dX0_takeOne_6 rfl (lv_at hl 1 rfl) ?_
  refine lv_iload_n hx hb dX0_takeOne_7 rfl (lv_at hl 2 rfl) ?_
  refine lv_iload_n hx hb dX0_takeOne_8 rfl (lv_at hl 0 rfl) ?_
  obtain ⟨r3, hu4, h⟩ := ob1_el h
  refine kcVi (ci := 0) (q := (RX0, TX0, 7)) (ws1 := (w_X0_takeOne cI cC h0 h1 h3 h5 h7 h9 h11 h2 h4 h6 h8 h10 h12 fT fR rR fA rA fS fE ri hd ln rnd)) ⟨hx, hb, hml, hown, hts⟩ [0, 1, 2, 3, 4, 5, 6, 7, 8, 9, 10] [11, 12] (c_X0_hindrance l D cI cC cE h0 h1 h3 h5 h7 h9 h11 h2 h4 h6 h8 h10 _ fT fR rR fA rA fS fE rnd p1 r1 r3 hu4) (cwV 2 hts gX0_takeOne_X0_hindrance rfl rfl rfl (by decide +kernel) ⟨Nat.le_of_ble_eq_true rfl, Nat.le_of_ble_eq_true rfl⟩) hK hP hD hS hA rfl rfl rfl rfl rfl rfl rfl rfl rfl hl.1 rfl (Nat.le_of_ble_eq_true rfl) dX0_takeOne_9 ⟨Nat.le_refl 0, Nat.le_refl 0⟩ (fun H locs hP hD hS => ?_)
  refine lv_istore_n (lv' := [(3, .int r3), (2, .int r1), (0, .ref h0), (1, .int p1)]) hx hb dX0_takeOne_12 rfl hl (by decide) rfl (fun ls hl => ?_)
  refine lv_iload_n hx hb dX0_takeOne_13 rfl (lv_at hl 0 rfl) ?_
  refine lv_iconst (v := 1) hx hb dX0_takeOne_14 (by decide) ?_
  refine lv_icmp_eq (tgt := 23) hx hb dX0_takeOne_15 (by decide) (fun c5 => ?_) (fun c5 => ?_)
  · have h := (k_iB h).1 c5
    exact hJ23   r3 fT fR fA fS ri ln _ _ hP hD hS _ (lv_sub hl [2, 3, 0] rfl) h
  · have h := (k_iB h).2 c5
    refine lv_iload_n hx hb dX0_takeOne_18 rfl (lv_at hl 0 rfl) ?_
    refine lv_iconst (v := 2) hx hb dX0_takeOne_19 (by decide) ?_
    refine lv_icmp_ne (tgt := 31) hx hb dX0_takeOne_20 (by decide) (fun c8 => ?_) (fun c8 => ?_)
    · have h := (k_iB h).2 c8
      refine lv_aload_n hx hb dX0_takeOne_31 rfl (lv_at hl 2 rfl) ?_
      refine lv_iconst (v := 0) hx hb dX0_takeOne_32 (by decide) ?_
      refine lv_iconst (v := 1) hx hb dX0_takeOne_33 (by decide) ?_
      obtain ⟨fS_9, hu10, h⟩ := ob1_el h
      refine kcVv (ci := 0) (q := (RX0, TX0, 7)) (ws1 := (w_X0_takeOne cI cC h0 h1 h3 h5 h7 h9 h11 h2 h4 h6 h8 h10 h12 fT fR rR fA rA fS_9 fE ri hd ln rnd)) ⟨hx, hb, hml, hown, hts⟩ [0, 7, 8, 9, 10] [1, 2, 3, 4, 5, 6, 11, 12] (c_X0_driftOn l D cI cC cE h0 h1 h3 h5 h7 h9 h11 h8 h10 _ fS fE rnd 0 1 fS_9 hu10) (cwV 2 hts gX0_takeOne_X0_driftOn rfl rfl rfl (by decide +kernel) ⟨Nat.le_of_ble_eq_true rfl, Nat.le_of_ble_eq_true rfl⟩) hK hP hD hS hA rfl rfl rfl rfl rfl rfl rfl rfl rfl hl.1 rfl (Nat.le_of_ble_eq_true rfl) dX0_takeOne_34 ⟨Nat.le_refl 0, Nat.le_refl 0⟩ (fun H locs hP hD hS => ?_)
      refine lv_aload_n hx hb dX0_takeOne_37 rfl (lv_at hl 2 rfl) ?_
      refine lv_iconst (v := 1) hx hb dX0_takeOne_38 (by decide) ?_
      refine lv_iconst (v := (-1)) hx hb dX0_takeOne_39 (by decide) ?_
      obtain ⟨fS_11, hu12, h⟩ := ob1_el h
      refine kcVv (ci := 0) (q := (RX0, TX0, 7)) (ws1 := (w_X0_takeOne cI cC h0 h1 h3 h5 h7 h9 h11 h2 h4 h6 h8 h10 h12 fT fR rR fA rA fS_11 fE ri hd ln rnd)) ⟨hx, hb, hml, hown, hts⟩ [0, 7, 8, 9, 10] [1, 2, 3, 4, 5, 6, 11, 12] (c_X0_driftOn l D cI cC cE h0 h1 h3 h5 h7 h9 h11 h8 h10 _ fS_9 fE rnd 1 (-1) fS_11 hu12) (cwV 2 hts gX0_takeOne_X0_driftOn rfl rfl rfl (by decide +kernel) ⟨Nat.le_of_ble_eq_true rfl, Nat.le_of_ble_eq_true rfl⟩) hK hP hD hS hA rfl rfl rfl rfl rfl rfl rfl rfl rfl hl.1 rfl (Nat.le_of_ble_eq_true rfl) dX0_takeOne_40 ⟨Nat.le_refl 0, Nat.le_refl 0⟩ (fun H locs hP hD hS => ?_)
      refine lv_iload_n hx hb dX0_takeOne_43 rfl (lv_at hl 0 rfl) ?_
      by_cases c14 : r3 = 3
      · have h := (k_iB h).1 c14
        refine lv_lookup (off := 28) (tgt := 72) hx hb dX0_takeOne_44 (by decide) (by show Op.lookupswitch.offset [(3, 28), (4, 35)] (45) _ = _; rw [c14]; rfl) (by decide) ?_
        refine lv_aload_n hx hb dX0_takeOne_72 rfl (lv_at hl 2 rfl) ?_
        refine lv_iload_n hx hb dX0_takeOne_73 rfl (lv_at hl 3 rfl) ?_
        obtain ⟨fA_15, ri_16, ln_17, hu18, h⟩ := ob3_el h
        refine kcVv (ci := 0) (q := (RX0, TX0, 7)) (ws1 := (w_X0_takeOne cI cC h0 h1 h3 h5 h7 h9 h11 h2 h4 h6 h8 h10 h12 fT fR rR fA_15 rA fS_11 fE ri_16 hd ln_17 rnd)) ⟨hx, hb, hml, hown, hts⟩ [0, 5, 6, 11, 12] [1, 2, 3, 4, 7, 8, 9, 10] (c_X0_doubt l D cI cC cE h0 h1 h3 h5 h7 h9 h11 h6 h12 _ fA rA ri hd ln rnd p1 fA_15 ri_16 ln_17 hu18) (cwV 1 hts gX0_takeOne_X0_doubt rfl rfl rfl (by decide +kernel) ⟨Nat.le_of_ble_eq_true rfl, Nat.le_of_ble_eq_true rfl⟩) hK hP hD hS hA rfl rfl rfl rfl rfl rfl rfl rfl rfl hl.1 rfl (Nat.le_of_ble_eq_true rfl) dX0_takeOne_74 ⟨Nat.le_refl 0, Nat.le_refl 0⟩ (fun H locs hP hD hS => ?_)
        refine lv_iconst (v := 0) hx hb dX0_takeOne_77 (by decide) ?_
        cases h
        exact fin _ _ _ _ rfl dX0_takeOne_78 hP hD hS
      · have h := (k_iB h).2 c14
        by_cases c19 : r3 = 4
        · have h := (k_iB h).1 c19
          refine lv_lookup (off := 35) (tgt := 79) hx hb dX0_takeOne_44 (by decide) (by show Op.lookupswitch.offset [(3, 28), (4, 35)] (45) _ = _; rw [lv_osw c14 rfl, c19]; rfl) (by decide) ?_
          refine lv_aload_n hx hb dX0_takeOne_79 rfl (lv_at hl 2 rfl) ?_
          refine va_get (ci := 0) (C := RX0) (T := TX0) (N := 7) hx hb hts hiX0 hown hK hP 0 rfl rfl 5 (by decide) (hts (.fieldLink RX0 35 "RiddleTrade$Exchange" "row" "LRiddleTrade$Row;") (List.mem_of_getElem? (i := 1) rfl)) (fun _ h9 => h9) rfl dX0_takeOne_80 ?_
          refine lv_iload_n hx hb dX0_takeOne_83 rfl (lv_at hl 3 rfl) ?_
          obtain ⟨ri_20, ln_21, hu22, h⟩ := ob2_el h
          refine kcVv (ci := 3) (q := (RX3, TX3, 3)) (ws1 := (w_X0_takeOne cI cC h0 h1 h3 h5 h7 h9 h11 h2 h4 h6 h8 h10 h12 fT fR rR fA rA fS_11 fE ri_20 hd ln_21 rnd)) ⟨hx, hb, hml, hown, hts⟩ [11, 12] [0, 1, 2, 3, 4, 5, 6, 7, 8, 9, 10] (c_X3_addLast l D cI cC cE h11 h12 _ ri hd ln p1 ri_20 ln_21 hu22) (cwV 1 hts gX0_takeOne_X3_addLast rfl rfl rfl (by decide +kernel) ⟨Nat.le_of_ble_eq_true rfl, Nat.le_of_ble_eq_true rfl⟩) hK hP hD hS hA rfl rfl rfl rfl rfl rfl rfl rfl rfl hl.1 rfl (Nat.le_of_ble_eq_true rfl) dX0_takeOne_84 ⟨Nat.le_refl 0, Nat.le_refl 0⟩ (fun H locs hP hD hS => ?_)
          refine lv_iconst (v := 0) hx hb dX0_takeOne_87 (by decide) ?_
          cases h
          exact fin _ _ _ _ rfl dX0_takeOne_88 hP hD hS
        · have h := (k_iB h).2 c19
          refine lv_lookup (off := 45) (tgt := 89) hx hb dX0_takeOne_44 (by decide) (by show Op.lookupswitch.offset [(3, 28), (4, 35)] (45) _ = _; rw [lv_osw c14 rfl, lv_osw c19 rfl]; rfl) (by decide) ?_
          refine lv_aload_n hx hb dX0_takeOne_89 rfl (lv_at hl 2 rfl) ?_
          refine lv_iload_n hx hb dX0_takeOne_90 rfl (lv_at hl 3 rfl) ?_
          refine lv_iload_n hx hb dX0_takeOne_91 rfl (lv_at hl 1 rfl) ?_
          obtain ⟨fT_23, fR_24, fA_25, hu26, h⟩ := ob3_el h
          refine kcVv (ci := 0) (q := (RX0, TX0, 7)) (ws1 := (w_X0_takeOne cI cC h0 h1 h3 h5 h7 h9 h11 h2 h4 h6 h8 h10 h12 fT_23 fR_24 rR fA_25 rA fS_11 fE ri hd ln rnd)) ⟨hx, hb, hml, hown, hts⟩ [0, 1, 2, 3, 4, 5, 6] [7, 8, 9, 10, 11, 12] (c_X0_pay l D cI cC cE h0 h1 h3 h5 h7 h9 h11 h2 h4 h6 _ fT fR rR fA rA rnd p1 r1 fT_23 fR_24 fA_25 hu26) (cwV 2 hts gX0_takeOne_X0_pay rfl rfl rfl (by decide +kernel) ⟨Nat.le_of_ble_eq_true rfl, Nat.le_of_ble_eq_true rfl⟩) hK hP hD hS hA rfl rfl rfl rfl rfl rfl rfl rfl rfl hl.1 rfl (Nat.le_of_ble_eq_true rfl) dX0_takeOne_92 ⟨Nat.le_refl 0, Nat.le_refl 0⟩ (fun H locs hP hD hS => ?_)
          refine lv_iconst (v := 1) hx hb dX0_takeOne_95 (by decide) ?_
          cases h
          exact fin _ _ _ _ rfl dX0_takeOne_96 hP hD hS
    · have h := (k_iB h).1 c8
      exact hJ23   r3 fT fR fA fS ri ln _ _ hP hD hS _ (lv_sub hl [2, 3, 0] rfl) h
abbrev w_X0_playRound (cI cC : ClassId) (h0 h1 h3 h5 h7 h9 h11 h2 h4 h6 h8 h10 h12 : Nat) (fT : Nat → Int32) (fR : Nat → Int32) (rR : Int32) (fA : Nat → Int32) (rA : Int32) (fS : Nat → Int32) (fE : Nat → Int32) (ri : Nat → Int32) (hd : Int32) (ln : Int32) (rnd : Int32) : va_W := [(h0, .inr (0, [.ref h1, .ref h3, .ref h5, .ref h7, .ref h9, .ref h11, .int rnd])), (h1, .inr (4, [.ref h2, .int 2, .int 8])), (h2, .inl (cI, 16, .inl fT)), (h3, .inr (4, [.ref h4, .int 4, .int rR])), (h4, .inl (cI, 80, .inl fR)), (h5, .inr (4, [.ref h6, .int 8, .int rA])), (h6, .inl (cI, 320, .inl fA)), (h7, .inr (4, [.ref h8, .int 2, .int 2])), (h8, .inl (cI, 4, .inl fS)), (h9, .inr (4, [.ref h10, .int 3, .int 4])), (h10, .inl (cI, 12, .inl fE)), (h11, .inr (3, [.ref h12, .int hd, .int ln])), (h12, .inl (cI, 40, .inl ri))]
def lp_X0_playRound_24 (fE : Nat → Int32) : Nat → Int32 → Int32 → Int32 → (Nat → Int32) → (Nat → Int32) → (Nat → Int32) → (Nat → Int32) → (Nat → Int32) → Int32 → Int32 → Int32 → Option (Int32 × (Nat → Int32) × (Nat → Int32) × (Nat → Int32) × (Nat → Int32) × (Nat → Int32) × Int32 × Int32 × Int32)
  | 0 => fun _ _ _ _ _ _ _ _ _ _ _ => none
  | k + 1 => fun x1 x2 x3 fT fR fA fS ri hd ln rnd =>
    if x1 ≤ x3 then (ob1 (d_X0_chargeFees fT) fun fT_4 =>
    some (x2, fT_4, fR, fA, fS, ri, hd, ln, (rnd + 1)))
    else (ob3 (d_X3_takeFirst ri hd ln) fun r6 hd_7 ln_8 =>
    ob7 (d_X0_takeOne r6 fT fR fA fS fE ri hd_7 ln_8) fun r10 fT_11 fR_12 fA_13 fS_14 ri_15 ln_16 =>
    if r10 = 0 then ((lp_X0_playRound_24  fE k) x1 x2 (x3 + 1) fT_11 fR_12 fA_13 fS_14 ri_15 hd_7 ln_16 rnd)
    else ((lp_X0_playRound_24  fE k) x1 (x2 + 1) (x3 + 1) fT_11 fR_12 fA_13 fS_14 ri_15 hd_7 ln_16 rnd))
def d_X0_playRound (fT : Nat → Int32) (fR : Nat → Int32) (fA : Nat → Int32) (fS : Nat → Int32) (fE : Nat → Int32) (ri : Nat → Int32) (hd : Int32) (ln : Int32) (rnd : Int32) : Option (Int32 × (Nat → Int32) × (Nat → Int32) × (Nat → Int32) × (Nat → Int32) × (Nat → Int32) × Int32 × Int32 × Int32) :=
    ob1 (d_X4_get 12 2 0 fE 3) fun r1 =>
    lp_X0_playRound_24  fE fuel (if (d_X3_length ln) < r1 then (d_X3_length ln) else r1) 0 0 fT fR fA fS ri hd ln rnd
set_option maxHeartbeats 4000000 in
set_option maxRecDepth 100000 in
theorem c_X0_playRound (l : Launch) (D : va_G) (cI cC cE : ClassId) (h0 h1 h3 h5 h7 h9 h11 h2 h4 h6 h8 h10 h12 : Nat) (sz : Nat) (fT : Nat → Int32) (fR : Nat → Int32) (rR : Int32) (fA : Nat → Int32) (rA : Int32) (fS : Nat → Int32) (fE : Nat → Int32) (ri : Nat → Int32) (hd : Int32) (ln : Int32) (rnd : Int32) (r0 : Int32) (o_fT : Nat → Int32) (o_fR : Nat → Int32) (o_fA : Nat → Int32) (o_fS : Nat → Int32) (o_ri : Nat → Int32) (o_hd : Int32) (o_ln : Int32) (o_rnd : Int32) (h : d_X0_playRound fT fR fA fS fE ri hd ln rnd = some (r0, o_fT, o_fR, o_fA, o_fS, o_ri, o_hd, o_ln, o_rnd)) : Met l yX0_playRound wsX0_playRound ({ frames := 4, cells := 0, slots := 0, locals := 93 } : Room) (kP D (kT cI cC cE) [.ref h0] (w_X0_playRound cI cC h0 h1 h3 h5 h7 h9 h11 h2 h4 h6 h8 h10 h12 fT fR rR fA rA fS fE ri hd ln rnd) sz) (kQi D (kT cI cC cE) (w_X0_playRound cI cC h0 h1 h3 h5 h7 h9 h11 h2 h4 h6 h8 h10 h12 fT fR rR fA rA fS fE ri hd ln rnd) (w_X0_playRound cI cC h0 h1 h3 h5 h7 h9 h11 h2 h4 h6 h8 h10 h12 o_fT o_fR rR o_fA rA o_fS fE o_ri o_hd o_ln o_rnd) sz r0) 0 0 (va_A (w_X0_playRound cI cC h0 h1 h3 h5 h7 h9 h11 h2 h4 h6 h8 h10 h12 fT fR rR fA rA fS fE ri hd ln rnd) sz) := by
  refine kMetI (cc := cX0_playRound) (maxL := 4) (own := RX0) (by decide) rfl (Nat.le_of_ble_eq_true rfl) rfl ?_
  intro p e s m below meth c A Q hx hb hml hown hts hP hK hD hA hS hname fin ls hl
  have hl : lv_has ls 4 [(0, .ref h0)] := hl
  have hiX0 : ∀ w ∈ u_ws RX0 TX0 7, w ∈ wsX0_playRound := by decide +kernel
  have hL24 : ∀ (k : Nat), ∀ (x1 : Int32) (x2 : Int32) (x3 : Int32) (fT : Nat → Int32) (fR : Nat → Int32) (fA : Nat → Int32) (fS : Nat → Int32) (ri : Nat → Int32) (hd : Int32) (ln : Int32) (rnd : Int32) (H : Heap) (locs : List Loc), va_P D vwCl (w_X0_playRound cI cC h0 h1 h3 h5 h7 h9 h11 h2 h4 h6 h8 h10 h12 fT fR rR fA rA fS fE ri hd ln rnd) H → va_D A (w_X0_playRound cI cC h0 h1 h3 h5 h7 h9 h11 h2 h4 h6 h8 h10 h12 fT fR rR fA rA fS fE ri hd ln rnd) → va_S A s.heap H locs → ∀ (ls : Array Slot), lv_has ls 4 [(0, .ref h0), (1, .int x1), (2, .int x2), (3, .int x3)] → lp_X0_playRound_24  fE k x1 x2 x3 fT fR fA fS ri hd ln rnd = some (r0, o_fT, o_fR, o_fA, o_fS, o_ri, o_hd, o_ln, o_rnd) → W p l e ({ frames := 4, cells := 0, slots := 0, locals := 93 } : Room) s m [.ref h0].toArray below meth c H locs 0 0 Q (F0 m 24 ls []) := by
    intro k
    induction k with
    | zero =>
      intro x1 x2 x3 fT fR fA fS ri hd ln rnd H locs hP hD hS ls hl h
      exact k_none h
    | succ k ih =>
      intro x1 x2 x3 fT fR fA fS ri hd ln rnd H locs hP hD hS ls hl h
      dsimp only [lp_X0_playRound_24] at h
      refine lv_iload_n hx hb dX0_playRound_24 rfl (lv_at hl 3 rfl) ?_
      refine lv_iload_n hx hb dX0_playRound_25 rfl (lv_at hl 1 rfl) ?_
      refine lv_icmp_ge (tgt := 52) hx hb dX0_playRound_26 (by decide) (fun c3 => ?_) (fun c3 => ?_)
      · have h := (k_iB h).1 c3
        refine lv_aload_n hx hb dX0_playRound_52 rfl (lv_at hl 0 rfl) ?_
        obtain ⟨fT_4, hu5, h⟩ := ob1_el h
        refine kcVv (ci := 0) (q := (RX0, TX0, 7)) (ws1 := (w_X0_playRound cI cC h0 h1 h3 h5 h7 h9 h11 h2 h4 h6 h8 h10 h12 fT_4 fR rR fA rA fS fE ri hd ln rnd)) ⟨hx, hb, hml, hown, hts⟩ [0, 1, 2] [3, 4, 5, 6, 7, 8, 9, 10, 11, 12] (c_X0_chargeFees l D cI cC cE h0 h1 h3 h5 h7 h9 h11 h2 _ fT rnd fT_4 hu5) (cwV 0 hts gX0_playRound_X0_chargeFees rfl rfl rfl (by decide +kernel) ⟨Nat.le_of_ble_eq_true rfl, Nat.le_of_ble_eq_true rfl⟩) hK hP hD hS hA rfl rfl rfl rfl rfl rfl rfl rfl rfl hl.1 rfl (Nat.le_of_ble_eq_true rfl) dX0_playRound_53 ⟨Nat.le_refl 0, Nat.le_refl 0⟩ (fun H locs hP hD hS => ?_)
        refine lv_aload_n hx hb dX0_playRound_56 rfl (lv_at hl 0 rfl) ?_
        refine lv_dup hx hb dX0_playRound_57 rfl ?_
        refine va_get (ci := 0) (C := RX0) (T := TX0) (N := 7) hx hb hts hiX0 hown hK hP 0 rfl rfl 6 (by decide) (hts (.fieldLink RX0 57 "RiddleTrade$Exchange" "round" "I") (List.mem_of_getElem? (i := 7) rfl)) (fun _ h9 => h9) rfl dX0_playRound_58 ?_
        refine lv_iconst (v := 1) hx hb dX0_playRound_61 (by decide) ?_
        refine lv_iadd hx hb dX0_playRound_62 ?_
        refine va_put (ci := 0) (ty := .int) (C := RX0) (T := TX0) (N := 7) hx hb hts hiX0 tyX0 tyX0_ok nmX0 hown hK hP hD hS 0 rfl rfl 6 (by decide) (hts (.fieldLink RX0 57 "RiddleTrade$Exchange" "round" "I") (List.mem_of_getElem? (i := 7) rfl)) (fun _ h9 => h9) rfl (by decide +kernel) rfl rfl (Nat.le_of_ble_eq_true rfl) dX0_playRound_63 (fun H locs hP hD hS => ?_)
        have hP : va_P D vwCl (w_X0_playRound cI cC h0 h1 h3 h5 h7 h9 h11 h2 h4 h6 h8 h10 h12 fT_4 fR rR fA rA fS fE ri hd ln (rnd + 1)) H := hP
        have hD : va_D A (w_X0_playRound cI cC h0 h1 h3 h5 h7 h9 h11 h2 h4 h6 h8 h10 h12 fT_4 fR rR fA rA fS fE ri hd ln (rnd + 1)) := hD
        refine lv_iload_n hx hb dX0_playRound_66 rfl (lv_at hl 2 rfl) ?_
        cases h
        exact fin _ _ _ _ dX0_playRound_67 hP hD hS
      · have h := (k_iB h).2 c3
        refine lv_aload_n hx hb dX0_playRound_29 rfl (lv_at hl 0 rfl) ?_
        refine lv_aload_n hx hb dX0_playRound_30 rfl (lv_at hl 0 rfl) ?_
        refine va_get (ci := 0) (C := RX0) (T := TX0) (N := 7) hx hb hts hiX0 hown hK hP 0 rfl rfl 5 (by decide) (hts (.fieldLink RX0 35 "RiddleTrade$Exchange" "row" "LRiddleTrade$Row;") (List.mem_of_getElem? (i := 2) rfl)) (fun _ h9 => h9) rfl dX0_playRound_31 ?_
        obtain ⟨r6, hd_7, ln_8, hu9, h⟩ := ob3_el h
        refine kcVi (ci := 3) (q := (RX3, TX3, 3)) (ws1 := (w_X0_playRound cI cC h0 h1 h3 h5 h7 h9 h11 h2 h4 h6 h8 h10 h12 fT fR rR fA rA fS fE ri hd_7 ln_8 rnd)) ⟨hx, hb, hml, hown, hts⟩ [11, 12] [0, 1, 2, 3, 4, 5, 6, 7, 8, 9, 10] (c_X3_takeFirst l D cI cC cE h11 h12 _ ri hd ln r6 hd_7 ln_8 hu9) (cwV 0 hts gX0_playRound_X3_takeFirst rfl rfl rfl (by decide +kernel) ⟨Nat.le_of_ble_eq_true rfl, Nat.le_of_ble_eq_true rfl⟩) hK hP hD hS hA rfl rfl rfl rfl rfl rfl rfl rfl rfl hl.1 rfl (Nat.le_of_ble_eq_true rfl) dX0_playRound_34 ⟨Nat.le_refl 0, Nat.le_refl 0⟩ (fun H locs hP hD hS => ?_)
        obtain ⟨r10, fT_11, fR_12, fA_13, fS_14, ri_15, ln_16, hu17, h⟩ := ob7_el h
        refine kcVi (ci := 0) (q := (RX0, TX0, 7)) (ws1 := (w_X0_playRound cI cC h0 h1 h3 h5 h7 h9 h11 h2 h4 h6 h8 h10 h12 fT_11 fR_12 rR fA_13 rA fS_14 fE ri_15 hd_7 ln_16 rnd)) ⟨hx, hb, hml, hown, hts⟩ [0, 1, 2, 3, 4, 5, 6, 7, 8, 9, 10, 11, 12] [] (c_X0_takeOne l D cI cC cE h0 h1 h3 h5 h7 h9 h11 h2 h4 h6 h8 h10 h12 _ fT fR rR fA rA fS fE ri hd_7 ln_8 rnd r6 r10 fT_11 fR_12 fA_13 fS_14 ri_15 ln_16 hu17) (cwV 1 hts gX0_playRound_X0_takeOne rfl rfl rfl (by decide +kernel) ⟨Nat.le_of_ble_eq_true rfl, Nat.le_of_ble_eq_true rfl⟩) hK hP hD hS hA rfl rfl rfl rfl rfl rfl rfl rfl rfl hl.1 rfl (Nat.le_of_ble_eq_true rfl) dX0_playRound_37 ⟨Nat.le_refl 0, Nat.le_refl 0⟩ (fun H locs hP hD hS => ?_)
        refine lv_if_eq (tgt := 46) hx hb dX0_playRound_40 (by decide) (fun c18 => ?_) (fun c18 => ?_)
        · have h := (k_iB h).1 c18
          refine lv_iinc (v := (x3 + 1)) (lv' := [(3, .int (x3 + 1)), (0, .ref h0), (1, .int x1), (2, .int x2)]) hx hb dX0_playRound_46 hl (k := 3) rfl rfl (by decide) rfl (fun ls hl => ?_)
          refine lv_goto (tgt := 24) hx hb dX0_playRound_49 (by decide) ?_
          exact ih x1 x2 (x3 + 1) fT_11 fR_12 fA_13 fS_14 ri_15 hd_7 ln_16 rnd _ _ hP hD hS _ (lv_sub hl [1, 2, 3, 0] rfl) h
        · have h := (k_iB h).2 c18
          refine lv_iinc (v := (x2 + 1)) (lv' := [(2, .int (x2 + 1)), (0, .ref h0), (1, .int x1), (3, .int x3)]) hx hb dX0_playRound_43 hl (k := 2) rfl rfl (by decide) rfl (fun ls hl => ?_)
          refine lv_iinc (v := (x3 + 1)) (lv' := [(3, .int (x3 + 1)), (2, .int (x2 + 1)), (0, .ref h0), (1, .int x1)]) hx hb dX0_playRound_46 hl (k := 3) rfl rfl (by decide) rfl (fun ls hl => ?_)
          refine lv_goto (tgt := 24) hx hb dX0_playRound_49 (by decide) ?_
          exact ih x1 (x2 + 1) (x3 + 1) fT_11 fR_12 fA_13 fS_14 ri_15 hd_7 ln_16 rnd _ _ hP hD hS _ (lv_sub hl [2, 3, 1, 0] rfl) h
  dsimp only [d_X0_playRound] at h
  refine lv_aload_n hx hb dX0_playRound_0 rfl (lv_at hl 0 rfl) ?_
  refine va_get (ci := 0) (C := RX0) (T := TX0) (N := 7) hx hb hts hiX0 hown hK hP 0 rfl rfl 4 (by decide) (hts (.fieldLink RX0 29 "RiddleTrade$Exchange" "settings" "LRiddleTrade$Table;") (List.mem_of_getElem? (i := 1) rfl)) (fun _ h9 => h9) rfl dX0_playRound_1 ?_
  refine lv_iconst (v := 2) hx hb dX0_playRound_4 (by decide) ?_
  refine lv_iconst (v := 0) hx hb dX0_playRound_5 (by decide) ?_
  obtain ⟨r1, hu2, h⟩ := ob1_el h
  refine kcVi (ci := 4) (q := (RX4, TX4, 3)) (ws1 := (w_X0_playRound cI cC h0 h1 h3 h5 h7 h9 h11 h2 h4 h6 h8 h10 h12 fT fR rR fA rA fS fE ri hd ln rnd)) ⟨hx, hb, hml, hown, hts⟩ [9, 10] [0, 1, 2, 3, 4, 5, 6, 7, 8, 11, 12] (c_X4_get l D cI cC cE h9 h10 _ 12 fE 3 4 2 0 r1 hu2) (cwV 2 hts gX0_playRound_X4_get rfl rfl rfl (by decide +kernel) ⟨Nat.le_of_ble_eq_true rfl, Nat.le_of_ble_eq_true rfl⟩) hK hP hD hS hA rfl rfl rfl rfl rfl rfl rfl rfl rfl hl.1 rfl (Nat.le_of_ble_eq_true rfl) dX0_playRound_6 ⟨Nat.le_refl 0, Nat.le_refl 0⟩ (fun H locs hP hD hS => ?_)
  refine lv_aload_n hx hb dX0_playRound_9 rfl (lv_at hl 0 rfl) ?_
  refine va_get (ci := 0) (C := RX0) (T := TX0) (N := 7) hx hb hts hiX0 hown hK hP 0 rfl rfl 5 (by decide) (hts (.fieldLink RX0 35 "RiddleTrade$Exchange" "row" "LRiddleTrade$Row;") (List.mem_of_getElem? (i := 2) rfl)) (fun _ h9 => h9) rfl dX0_playRound_10 ?_
  refine kcVi (ci := 3) (q := (RX3, TX3, 3)) (ws1 := (w_X0_playRound cI cC h0 h1 h3 h5 h7 h9 h11 h2 h4 h6 h8 h10 h12 fT fR rR fA rA fS fE ri hd ln rnd)) ⟨hx, hb, hml, hown, hts⟩ [11] [0, 1, 2, 3, 4, 5, 6, 7, 8, 9, 10, 12] (c_X3_length l D cI cC cE h11 h12 _ hd ln (d_X3_length ln) rfl) (cwV 0 hts gX0_playRound_X3_length rfl rfl rfl (by decide +kernel) ⟨Nat.le_of_ble_eq_true rfl, Nat.le_of_ble_eq_true rfl⟩) hK hP hD hS hA rfl rfl rfl rfl rfl rfl rfl rfl rfl hl.1 rfl (Nat.le_of_ble_eq_true rfl) dX0_playRound_13 ⟨Nat.le_refl 0, Nat.le_refl 0⟩ (fun H locs hP hD hS => ?_)
  refine va_mmin hx hb (hml.trans hl.1.symm) hown (hts _ (List.mem_of_getElem? (i := 3) rfl)) (hts _ (List.mem_of_getElem? (i := 4) rfl)) (hts _ (List.mem_of_getElem? (i := 5) rfl)) (hts _ (List.mem_of_getElem? (i := 6) rfl)) (Nat.le_of_ble_eq_true rfl) (Nat.le_of_ble_eq_true rfl) (Nat.le_refl 0) (Nat.le_refl 0) dX0_playRound_16 ?_
  refine lv_istore_n (lv' := [(1, .int (if (d_X3_length ln) < r1 then (d_X3_length ln) else r1)), (0, .ref h0)]) hx hb dX0_playRound_19 rfl hl (by decide) rfl (fun ls hl => ?_)
  refine lv_iconst (v := 0) hx hb dX0_playRound_20 (by decide) ?_
  refine lv_istore_n (lv' := [(2, .int 0), (1, .int (if (d_X3_length ln) < r1 then (d_X3_length ln) else r1)), (0, .ref h0)]) hx hb dX0_playRound_21 rfl hl (by decide) rfl (fun ls hl => ?_)
  refine lv_iconst (v := 0) hx hb dX0_playRound_22 (by decide) ?_
  refine lv_istore_n (lv' := [(3, .int 0), (2, .int 0), (1, .int (if (d_X3_length ln) < r1 then (d_X3_length ln) else r1)), (0, .ref h0)]) hx hb dX0_playRound_23 rfl hl (by decide) rfl (fun ls hl => ?_)
  exact hL24   fuel (if (d_X3_length ln) < r1 then (d_X3_length ln) else r1) 0 0 fT fR fA fS ri hd ln rnd _ _ hP hD hS _ (lv_sub hl [3, 2, 1, 0] rfl) h
abbrev w_X0_playRounds (cI cC : ClassId) (h0 h1 h3 h5 h7 h9 h11 h2 h4 h6 h8 h10 h12 : Nat) (fT : Nat → Int32) (fR : Nat → Int32) (rR : Int32) (fA : Nat → Int32) (rA : Int32) (fS : Nat → Int32) (fE : Nat → Int32) (ri : Nat → Int32) (hd : Int32) (ln : Int32) (rnd : Int32) : va_W := [(h0, .inr (0, [.ref h1, .ref h3, .ref h5, .ref h7, .ref h9, .ref h11, .int rnd])), (h1, .inr (4, [.ref h2, .int 2, .int 8])), (h2, .inl (cI, 16, .inl fT)), (h3, .inr (4, [.ref h4, .int 4, .int rR])), (h4, .inl (cI, 80, .inl fR)), (h5, .inr (4, [.ref h6, .int 8, .int rA])), (h6, .inl (cI, 320, .inl fA)), (h7, .inr (4, [.ref h8, .int 2, .int 2])), (h8, .inl (cI, 4, .inl fS)), (h9, .inr (4, [.ref h10, .int 3, .int 4])), (h10, .inl (cI, 12, .inl fE)), (h11, .inr (3, [.ref h12, .int hd, .int ln])), (h12, .inl (cI, 40, .inl ri))]
def lp_X0_playRounds_33 (fE : Nat → Int32) (p1 : Int32) : Nat → Int32 → Int32 → (Nat → Int32) → (Nat → Int32) → (Nat → Int32) → (Nat → Int32) → (Nat → Int32) → Int32 → Int32 → Int32 → Option (Int32 × (Nat → Int32) × (Nat → Int32) × (Nat → Int32) × (Nat → Int32) × (Nat → Int32) × Int32 × Int32 × Int32)
  | 0 => fun _ _ _ _ _ _ _ _ _ _ => none
  | k + 1 => fun x2 x3 fT fR fA fS ri hd ln rnd =>
    if p1 ≤ x3 then (some (x2, fT, fR, fA, fS, ri, hd, ln, rnd))
    else (ob9 (d_X0_playRound fT fR fA fS fE ri hd ln rnd) fun r5 fT_6 fR_7 fA_8 fS_9 ri_10 hd_11 ln_12 rnd_13 =>
    (lp_X0_playRounds_33  fE p1 k) (x2 + r5) (x3 + 1) fT_6 fR_7 fA_8 fS_9 ri_10 hd_11 ln_12 rnd_13)
def d_X0_playRounds (p1 : Int32) (fT : Nat → Int32) (fR : Nat → Int32) (fA : Nat → Int32) (fS : Nat → Int32) (fE : Nat → Int32) (ri : Nat → Int32) (hd : Int32) (ln : Int32) (rnd : Int32) : Option (Int32 × (Nat → Int32) × (Nat → Int32) × (Nat → Int32) × (Nat → Int32) × (Nat → Int32) × Int32 × Int32 × Int32) :=
    if p1 < 1 then (some ((-2), fT, fR, fA, fS, ri, hd, ln, rnd))
    else (if p1 ≤ 99 then (if (rnd + p1) ≤ 9999 then (lp_X0_playRounds_33  fE p1 fuel 0 0 fT fR fA fS ri hd ln rnd)
    else (some ((-3), fT, fR, fA, fS, ri, hd, ln, rnd)))
    else (some ((-2), fT, fR, fA, fS, ri, hd, ln, rnd)))
set_option maxHeartbeats 4000000 in
set_option maxRecDepth 100000 in
theorem c_X0_playRounds (l : Launch) (D : va_G) (cI cC cE : ClassId) (h0 h1 h3 h5 h7 h9 h11 h2 h4 h6 h8 h10 h12 : Nat) (sz : Nat) (fT : Nat → Int32) (fR : Nat → Int32) (rR : Int32) (fA : Nat → Int32) (rA : Int32) (fS : Nat → Int32) (fE : Nat → Int32) (ri : Nat → Int32) (hd : Int32) (ln : Int32) (rnd : Int32) (p1 : Int32) (r0 : Int32) (o_fT : Nat → Int32) (o_fR : Nat → Int32) (o_fA : Nat → Int32) (o_fS : Nat → Int32) (o_ri : Nat → Int32) (o_hd : Int32) (o_ln : Int32) (o_rnd : Int32) (h : d_X0_playRounds p1 fT fR fA fS fE ri hd ln rnd = some (r0, o_fT, o_fR, o_fA, o_fS, o_ri, o_hd, o_ln, o_rnd)) : Met l yX0_playRounds wsX0_playRounds ({ frames := 5, cells := 0, slots := 0, locals := 116 } : Room) (kP D (kT cI cC cE) [.ref h0, .int p1] (w_X0_playRounds cI cC h0 h1 h3 h5 h7 h9 h11 h2 h4 h6 h8 h10 h12 fT fR rR fA rA fS fE ri hd ln rnd) sz) (kQi D (kT cI cC cE) (w_X0_playRounds cI cC h0 h1 h3 h5 h7 h9 h11 h2 h4 h6 h8 h10 h12 fT fR rR fA rA fS fE ri hd ln rnd) (w_X0_playRounds cI cC h0 h1 h3 h5 h7 h9 h11 h2 h4 h6 h8 h10 h12 o_fT o_fR rR o_fA rA o_fS fE o_ri o_hd o_ln o_rnd) sz r0) 0 0 (va_A (w_X0_playRounds cI cC h0 h1 h3 h5 h7 h9 h11 h2 h4 h6 h8 h10 h12 fT fR rR fA rA fS fE ri hd ln rnd) sz) := by
  refine kMetI (cc := cX0_playRounds) (maxL := 4) (own := RX0) (by decide) rfl (Nat.le_of_ble_eq_true rfl) rfl ?_
  intro p e s m below meth c A Q hx hb hml hown hts hP hK hD hA hS hname fin ls hl
  have hl : lv_has ls 4 [(0, .ref h0), (1, .int p1)] := hl
  have hiX0 : ∀ w ∈ u_ws RX0 TX0 7, w ∈ wsX0_playRounds := by decide +kernel
  have hL33 : ∀ (k : Nat), ∀ (x2 : Int32) (x3 : Int32) (fT : Nat → Int32) (fR : Nat → Int32) (fA : Nat → Int32) (fS : Nat → Int32) (ri : Nat → Int32) (hd : Int32) (ln : Int32) (rnd : Int32) (H : Heap) (locs : List Loc), va_P D vwCl (w_X0_playRounds cI cC h0 h1 h3 h5 h7 h9 h11 h2 h4 h6 h8 h10 h12 fT fR rR fA rA fS fE ri hd ln rnd) H → va_D A (w_X0_playRounds cI cC h0 h1 h3 h5 h7 h9 h11 h2 h4 h6 h8 h10 h12 fT fR rR fA rA fS fE ri hd ln rnd) → va_S A s.heap H locs → ∀ (ls : Array Slot), lv_has ls 4 [(0, .ref h0), (1, .int p1), (2, .int x2), (3, .int x3)] → lp_X0_playRounds_33  fE p1 k x2 x3 fT fR fA fS ri hd ln rnd = some (r0, o_fT, o_fR, o_fA, o_fS, o_ri, o_hd, o_ln, o_rnd) → W p l e ({ frames := 5, cells := 0, slots := 0, locals := 116 } : Room) s m [.ref h0, .int p1].toArray below meth c H locs 0 0 Q (F0 m 33 ls []) := by
    intro k
    induction k with
    | zero =>
      intro x2 x3 fT fR fA fS ri hd ln rnd H locs hP hD hS ls hl h
      exact k_none h
    | succ k ih =>
      intro x2 x3 fT fR fA fS ri hd ln rnd H locs hP hD hS ls hl h
      dsimp only [lp_X0_playRounds_33] at h
      refine lv_iload_n hx hb dX0_playRounds_33 rfl (lv_at hl 3 rfl) ?_
      refine lv_iload_n hx hb dX0_playRounds_34 rfl (lv_at hl 1 rfl) ?_
      refine lv_icmp_ge (tgt := 51) hx hb dX0_playRounds_35 (by decide) (fun c4 => ?_) (fun c4 => ?_)
      · have h := (k_iB h).1 c4
        refine lv_iload_n hx hb dX0_playRounds_51 rfl (lv_at hl 2 rfl) ?_
        cases h
        exact fin _ _ _ _ dX0_playRounds_52 hP hD hS
      · have h := (k_iB h).2 c4
        refine lv_iload_n hx hb dX0_playRounds_38 rfl (lv_at hl 2 rfl) ?_
        refine lv_aload_n hx hb dX0_playRounds_39 rfl (lv_at hl 0 rfl) ?_
        obtain ⟨r5, fT_6, fR_7, fA_8, fS_9, ri_10, hd_11, ln_12, rnd_13, hu14, h⟩ := ob9_el h
        refine kcVi (ci := 0) (q := (RX0, TX0, 7)) (ws1 := (w_X0_playRounds cI cC h0 h1 h3 h5 h7 h9 h11 h2 h4 h6 h8 h10 h12 fT_6 fR_7 rR fA_8 rA fS_9 fE ri_10 hd_11 ln_12 rnd_13)) ⟨hx, hb, hml, hown, hts⟩ [0, 1, 2, 3, 4, 5, 6, 7, 8, 9, 10, 11, 12] [] (c_X0_playRound l D cI cC cE h0 h1 h3 h5 h7 h9 h11 h2 h4 h6 h8 h10 h12 _ fT fR rR fA rA fS fE ri hd ln rnd r5 fT_6 fR_7 fA_8 fS_9 ri_10 hd_11 ln_12 rnd_13 hu14) (cwV 0 hts gX0_playRounds_X0_playRound rfl rfl rfl (by decide +kernel) ⟨Nat.le_of_ble_eq_true rfl, Nat.le_of_ble_eq_true rfl⟩) hK hP hD hS hA rfl rfl rfl rfl rfl rfl rfl rfl rfl hl.1 rfl (Nat.le_of_ble_eq_true rfl) dX0_playRounds_40 ⟨Nat.le_refl 0, Nat.le_refl 0⟩ (fun H locs hP hD hS => ?_)
        refine lv_iadd hx hb dX0_playRounds_43 ?_
        refine lv_istore_n (lv' := [(2, .int (x2 + r5)), (0, .ref h0), (1, .int p1), (3, .int x3)]) hx hb dX0_playRounds_44 rfl hl (by decide) rfl (fun ls hl => ?_)
        refine lv_iinc (v := (x3 + 1)) (lv' := [(3, .int (x3 + 1)), (2, .int (x2 + r5)), (0, .ref h0), (1, .int p1)]) hx hb dX0_playRounds_45 hl (k := 3) rfl rfl (by decide) rfl (fun ls hl => ?_)
        refine lv_goto (tgt := 33) hx hb dX0_playRounds_48 (by decide) ?_
        exact ih (x2 + r5) (x3 + 1) fT_6 fR_7 fA_8 fS_9 ri_10 hd_11 ln_12 rnd_13 _ _ hP hD hS _ (lv_sub hl [2, 3, 1, 0] rfl) h
  dsimp only [d_X0_playRounds] at h
  refine lv_iload_n hx hb dX0_playRounds_0 rfl (lv_at hl 1 rfl) ?_
  refine lv_iconst (v := 1) hx hb dX0_playRounds_1 (by decide) ?_
  refine lv_icmp_lt (tgt := 11) hx hb dX0_playRounds_2 (by decide) (fun c1 => ?_) (fun c1 => ?_)
  · have h := (k_iB h).1 c1
    refine lv_bipush (v := (-2)) hx hb dX0_playRounds_11 (by decide) ?_
    cases h
    exact fin _ _ _ _ dX0_playRounds_13 hP hD hS
  · have h := (k_iB h).2 c1
    refine lv_iload_n hx hb dX0_playRounds_5 rfl (lv_at hl 1 rfl) ?_
    refine lv_bipush (v := 99) hx hb dX0_playRounds_6 (by decide) ?_
    refine lv_icmp_le (tgt := 14) hx hb dX0_playRounds_8 (by decide) (fun c2 => ?_) (fun c2 => ?_)
    · have h := (k_iB h).1 c2
      refine lv_aload_n hx hb dX0_playRounds_14 rfl (lv_at hl 0 rfl) ?_
      refine va_get (ci := 0) (C := RX0) (T := TX0) (N := 7) hx hb hts hiX0 hown hK hP 0 rfl rfl 6 (by decide) (hts (.fieldLink RX0 57 "RiddleTrade$Exchange" "round" "I") (List.mem_of_getElem? (i := 1) rfl)) (fun _ h9 => h9) rfl dX0_playRounds_15 ?_
      refine lv_iload_n hx hb dX0_playRounds_18 rfl (lv_at hl 1 rfl) ?_
      refine lv_iadd hx hb dX0_playRounds_19 ?_
      refine lv_sipush (v := 9999) hx hb dX0_playRounds_20 (by decide) ?_
      refine lv_icmp_le (tgt := 29) hx hb dX0_playRounds_23 (by decide) (fun c3 => ?_) (fun c3 => ?_)
      · have h := (k_iB h).1 c3
        refine lv_iconst (v := 0) hx hb dX0_playRounds_29 (by decide) ?_
        refine lv_istore_n (lv' := [(2, .int 0), (0, .ref h0), (1, .int p1)]) hx hb dX0_playRounds_30 rfl hl (by decide) rfl (fun ls hl => ?_)
        refine lv_iconst (v := 0) hx hb dX0_playRounds_31 (by decide) ?_
        refine lv_istore_n (lv' := [(3, .int 0), (2, .int 0), (0, .ref h0), (1, .int p1)]) hx hb dX0_playRounds_32 rfl hl (by decide) rfl (fun ls hl => ?_)
        exact hL33   fuel 0 0 fT fR fA fS ri hd ln rnd _ _ hP hD hS _ (lv_sub hl [2, 3, 1, 0] rfl) h
      · have h := (k_iB h).2 c3
        refine lv_bipush (v := (-3)) hx hb dX0_playRounds_26 (by decide) ?_
        cases h
        exact fin _ _ _ _ dX0_playRounds_28 hP hD hS
    · have h := (k_iB h).2 c2
      refine lv_bipush (v := (-2)) hx hb dX0_playRounds_11 (by decide) ?_
      cases h
      exact fin _ _ _ _ dX0_playRounds_13 hP hD hS
abbrev w_X0_addRiddle (cI cC : ClassId) (h0 h1 h3 h5 h7 h9 h11 h2 h4 : Nat) (fR : Nat → Int32) (rR : Int32) (rnd : Int32) : va_W := [(h0, .inr (0, [.ref h1, .ref h3, .ref h5, .ref h7, .ref h9, .ref h11, .int rnd])), (h1, .inr (4, [.ref h2, .int 2, .int 8])), (h3, .inr (4, [.ref h4, .int 4, .int rR])), (h4, .inl (cI, 80, .inl fR))]
def d_X0_addRiddle (p1 : Int32) (p2 : Int32) (p3 : Int32) (fR : Nat → Int32) (rR : Int32) : Option (Int32 × (Nat → Int32) × Int32) :=
    if (d_X4_has p1 8) = 0 then (some ((-1), fR, rR))
    else (if p2 < 1 then (some ((-2), fR, rR))
    else (if 50 < p2 then (some ((-2), fR, rR))
    else (if p3 < 0 then (some ((-2), fR, rR))
    else (if p3 ≤ 99 then (if (d_X4_rows rR) < 20 then (tb2 (d_X4_addRow rR) fun r7 rR_8 =>
    ob1 (d_X4_put 80 r7 0 p1 fR 4) fun fR_10 =>
    ob1 (d_X4_put 80 r7 1 p2 fR_10 4) fun fR_12 =>
    ob1 (d_X4_put 80 r7 2 p3 fR_12 4) fun fR_14 =>
    ob1 (d_X4_put 80 r7 3 0 fR_14 4) fun fR_16 =>
    some (r7, fR_16, rR_8))
    else (some ((-3), fR, rR)))
    else (some ((-2), fR, rR))))))
set_option maxHeartbeats 4000000 in
set_option maxRecDepth 100000 in
theorem c_X0_addRiddle (l : Launch) (D : va_G) (cI cC cE : ClassId) (h0 h1 h3 h5 h7 h9 h11 h2 h4 : Nat) (sz : Nat) (fR : Nat → Int32) (rR : Int32) (rnd : Int32) (p1 : Int32) (p2 : Int32) (p3 : Int32) (r0 : Int32) (o_fR : Nat → Int32) (o_rR : Int32) (h : d_X0_addRiddle p1 p2 p3 fR rR = some (r0, o_fR, o_rR)) : Met l yX0_addRiddle wsX0_addRiddle ({ frames := 1, cells := 0, slots := 0, locals := 24 } : Room) (kP D (kT cI cC cE) [.ref h0, .int p1, .int p2, .int p3] (w_X0_addRiddle cI cC h0 h1 h3 h5 h7 h9 h11 h2 h4 fR rR rnd) sz) (kQi D (kT cI cC cE) (w_X0_addRiddle cI cC h0 h1 h3 h5 h7 h9 h11 h2 h4 fR rR rnd) (w_X0_addRiddle cI cC h0 h1 h3 h5 h7 h9 h11 h2 h4 o_fR o_rR rnd) sz r0) 0 0 (va_A (w_X0_addRiddle cI cC h0 h1 h3 h5 h7 h9 h11 h2 h4 fR rR rnd) sz) := by
  refine kMetI (cc := cX0_addRiddle) (maxL := 5) (own := RX0) (by decide) rfl (Nat.le_of_ble_eq_true rfl) rfl ?_
  intro p e s m below meth c A Q hx hb hml hown hts hP hK hD hA hS hname fin ls hl
  have hl : lv_has ls 5 [(0, .ref h0), (1, .int p1), (2, .int p2), (3, .int p3)] := hl
  have hiX0 : ∀ w ∈ u_ws RX0 TX0 7, w ∈ wsX0_addRiddle := by decide +kernel
  dsimp only [d_X0_addRiddle] at h
  refine lv_aload_n hx hb dX0_addRiddle_0 rfl (lv_at hl 0 rfl) ?_
  refine va_get (ci := 0) (C := RX0) (T := TX0) (N := 7) hx hb hts hiX0 hown hK hP 0 rfl rfl 0 (by decide) (hts (.fieldLink RX0 16 "RiddleTrade$Exchange" "traders" "LRiddleTrade$Table;") (List.mem_of_getElem? (i := 1) rfl)) (fun _ h9 => h9) rfl dX0_addRiddle_1 ?_
  refine lv_iload_n hx hb dX0_addRiddle_4 rfl (lv_at hl 1 rfl) ?_
  refine kcVi (ci := 4) (q := (RX4, TX4, 3)) (ws1 := (w_X0_addRiddle cI cC h0 h1 h3 h5 h7 h9 h11 h2 h4 fR rR rnd)) ⟨hx, hb, hml, hown, hts⟩ [1] [0, 2, 3] (c_X4_has l D cI cC cE h1 h2 _ 2 8 p1 (d_X4_has p1 8) rfl) (cwV 1 hts gX0_addRiddle_X4_has rfl rfl rfl (by decide +kernel) ⟨Nat.le_of_ble_eq_true rfl, Nat.le_of_ble_eq_true rfl⟩) hK hP hD hS hA rfl rfl rfl rfl rfl rfl rfl rfl rfl hl.1 rfl (Nat.le_of_ble_eq_true rfl) dX0_addRiddle_5 ⟨Nat.le_refl 0, Nat.le_refl 0⟩ (fun H locs hP hD hS => ?_)
  refine lv_if_ne (tgt := 13) hx hb dX0_addRiddle_8 (by decide) (fun c1 => ?_) (fun c1 => ?_)
  · have h := (k_iB h).2 c1
    refine lv_iload_n hx hb dX0_addRiddle_13 rfl (lv_at hl 2 rfl) ?_
    refine lv_iconst (v := 1) hx hb dX0_addRiddle_14 (by decide) ?_
    refine lv_icmp_lt (tgt := 34) hx hb dX0_addRiddle_15 (by decide) (fun c2 => ?_) (fun c2 => ?_)
    · have h := (k_iB h).1 c2
      refine lv_bipush (v := (-2)) hx hb dX0_addRiddle_34 (by decide) ?_
      cases h
      exact fin _ _ _ _ dX0_addRiddle_36 hP hD hS
    · have h := (k_iB h).2 c2
      refine lv_iload_n hx hb dX0_addRiddle_18 rfl (lv_at hl 2 rfl) ?_
      refine lv_bipush (v := 50) hx hb dX0_addRiddle_19 (by decide) ?_
      refine lv_icmp_gt (tgt := 34) hx hb dX0_addRiddle_21 (by decide) (fun c3 => ?_) (fun c3 => ?_)
      · have h := (k_iB h).1 c3
        refine lv_bipush (v := (-2)) hx hb dX0_addRiddle_34 (by decide) ?_
        cases h
        exact fin _ _ _ _ dX0_addRiddle_36 hP hD hS
      · have h := (k_iB h).2 c3
        refine lv_iload_n hx hb dX0_addRiddle_24 rfl (lv_at hl 3 rfl) ?_
        refine lv_if_lt (tgt := 34) hx hb dX0_addRiddle_25 (by decide) (fun c4 => ?_) (fun c4 => ?_)
        · have h := (k_iB h).1 c4
          refine lv_bipush (v := (-2)) hx hb dX0_addRiddle_34 (by decide) ?_
          cases h
          exact fin _ _ _ _ dX0_addRiddle_36 hP hD hS
        · have h := (k_iB h).2 c4
          refine lv_iload_n hx hb dX0_addRiddle_28 rfl (lv_at hl 3 rfl) ?_
          refine lv_bipush (v := 99) hx hb dX0_addRiddle_29 (by decide) ?_
          refine lv_icmp_le (tgt := 37) hx hb dX0_addRiddle_31 (by decide) (fun c5 => ?_) (fun c5 => ?_)
          · have h := (k_iB h).1 c5
            refine lv_aload_n hx hb dX0_addRiddle_37 rfl (lv_at hl 0 rfl) ?_
            refine va_get (ci := 0) (C := RX0) (T := TX0) (N := 7) hx hb hts hiX0 hown hK hP 0 rfl rfl 1 (by decide) (hts (.fieldLink RX0 20 "RiddleTrade$Exchange" "riddles" "LRiddleTrade$Table;") (List.mem_of_getElem? (i := 2) rfl)) (fun _ h9 => h9) rfl dX0_addRiddle_38 ?_
            refine kcVi (ci := 4) (q := (RX4, TX4, 3)) (ws1 := (w_X0_addRiddle cI cC h0 h1 h3 h5 h7 h9 h11 h2 h4 fR rR rnd)) ⟨hx, hb, hml, hown, hts⟩ [2] [0, 1, 3] (c_X4_rows l D cI cC cE h3 h4 _ 4 rR (d_X4_rows rR) rfl) (cwV 0 hts gX0_addRiddle_X4_rows rfl rfl rfl (by decide +kernel) ⟨Nat.le_of_ble_eq_true rfl, Nat.le_of_ble_eq_true rfl⟩) hK hP hD hS hA rfl rfl rfl rfl rfl rfl rfl rfl rfl hl.1 rfl (Nat.le_of_ble_eq_true rfl) dX0_addRiddle_41 ⟨Nat.le_refl 0, Nat.le_refl 0⟩ (fun H locs hP hD hS => ?_)
            refine lv_bipush (v := 20) hx hb dX0_addRiddle_44 (by decide) ?_
            refine lv_icmp_lt (tgt := 52) hx hb dX0_addRiddle_46 (by decide) (fun c6 => ?_) (fun c6 => ?_)
            · have h := (k_iB h).1 c6
              refine lv_aload_n hx hb dX0_addRiddle_52 rfl (lv_at hl 0 rfl) ?_
              refine va_get (ci := 0) (C := RX0) (T := TX0) (N := 7) hx hb hts hiX0 hown hK hP 0 rfl rfl 1 (by decide) (hts (.fieldLink RX0 20 "RiddleTrade$Exchange" "riddles" "LRiddleTrade$Table;") (List.mem_of_getElem? (i := 2) rfl)) (fun _ h9 => h9) rfl dX0_addRiddle_53 ?_
              obtain ⟨r7, rR_8, hu9, h⟩ := tb2_el h
              refine kcVi (ci := 4) (q := (RX4, TX4, 3)) (ws1 := (w_X0_addRiddle cI cC h0 h1 h3 h5 h7 h9 h11 h2 h4 fR rR_8 rnd)) ⟨hx, hb, hml, hown, hts⟩ [2] [0, 1, 3] (c_X4_addRow l D cI cC cE h3 h4 _ 4 rR r7 rR_8 hu9) (cwV 0 hts gX0_addRiddle_X4_addRow rfl rfl rfl (by decide +kernel) ⟨Nat.le_of_ble_eq_true rfl, Nat.le_of_ble_eq_true rfl⟩) hK hP hD hS hA rfl rfl rfl rfl rfl rfl rfl rfl rfl hl.1 rfl (Nat.le_of_ble_eq_true rfl) dX0_addRiddle_56 ⟨Nat.le_refl 0, Nat.le_refl 0⟩ (fun H locs hP hD hS => ?_)
              refine lv_istore (lv' := [(4, .int r7), (0, .ref h0), (1, .int p1), (2, .int p2), (3, .int p3)]) hx hb dX0_addRiddle_59 hl (by decide) rfl (fun ls hl => ?_)
              refine lv_aload_n hx hb dX0_addRiddle_61 rfl (lv_at hl 1 rfl) ?_
              refine va_get (ci := 0) (C := RX0) (T := TX0) (N := 7) hx hb hts hiX0 hown hK hP 0 rfl rfl 1 (by decide) (hts (.fieldLink RX0 20 "RiddleTrade$Exchange" "riddles" "LRiddleTrade$Table;") (List.mem_of_getElem? (i := 2) rfl)) (fun _ h9 => h9) rfl dX0_addRiddle_62 ?_
              refine lv_iload hx hb dX0_addRiddle_65 (lv_at hl 0 rfl) ?_
              refine lv_iconst (v := 0) hx hb dX0_addRiddle_67 (by decide) ?_
              refine lv_iload_n hx hb dX0_addRiddle_68 rfl (lv_at hl 2 rfl) ?_
              obtain ⟨fR_10, hu11, h⟩ := ob1_el h
              refine kcVv (ci := 4) (q := (RX4, TX4, 3)) (ws1 := (w_X0_addRiddle cI cC h0 h1 h3 h5 h7 h9 h11 h2 h4 fR_10 rR_8 rnd)) ⟨hx, hb, hml, hown, hts⟩ [2, 3] [0, 1] (c_X4_put l D cI cC cE h3 h4 _ 80 fR 4 rR_8 r7 0 p1 fR_10 hu11) (cwV 3 hts gX0_addRiddle_X4_put rfl rfl rfl (by decide +kernel) ⟨Nat.le_of_ble_eq_true rfl, Nat.le_of_ble_eq_true rfl⟩) hK hP hD hS hA rfl rfl rfl rfl rfl rfl rfl rfl rfl hl.1 rfl (Nat.le_of_ble_eq_true rfl) dX0_addRiddle_69 ⟨Nat.le_refl 0, Nat.le_refl 0⟩ (fun H locs hP hD hS => ?_)
              refine lv_aload_n hx hb dX0_addRiddle_72 rfl (lv_at hl 1 rfl) ?_
              refine va_get (ci := 0) (C := RX0) (T := TX0) (N := 7) hx hb hts hiX0 hown hK hP 0 rfl rfl 1 (by decide) (hts (.fieldLink RX0 20 "RiddleTrade$Exchange" "riddles" "LRiddleTrade$Table;") (List.mem_of_getElem? (i := 2) rfl)) (fun _ h9 => h9) rfl dX0_addRiddle_73 ?_
              refine lv_iload hx hb dX0_addRiddle_76 (lv_at hl 0 rfl) ?_
              refine lv_iconst (v := 1) hx hb dX0_addRiddle_78 (by decide) ?_
              refine lv_iload_n hx hb dX0_addRiddle_79 rfl (lv_at hl 3 rfl) ?_
              obtain ⟨fR_12, hu13, h⟩ := ob1_el h
              refine kcVv (ci := 4) (q := (RX4, TX4, 3)) (ws1 := (w_X0_addRiddle cI cC h0 h1 h3 h5 h7 h9 h11 h2 h4 fR_12 rR_8 rnd)) ⟨hx, hb, hml, hown, hts⟩ [2, 3] [0, 1] (c_X4_put l D cI cC cE h3 h4 _ 80 fR_10 4 rR_8 r7 1 p2 fR_12 hu13) (cwV 3 hts gX0_addRiddle_X4_put rfl rfl rfl (by decide +kernel) ⟨Nat.le_of_ble_eq_true rfl, Nat.le_of_ble_eq_true rfl⟩) hK hP hD hS hA rfl rfl rfl rfl rfl rfl rfl rfl rfl hl.1 rfl (Nat.le_of_ble_eq_true rfl) dX0_addRiddle_80 ⟨Nat.le_refl 0, Nat.le_refl 0⟩ (fun H locs hP hD hS => ?_)
              refine lv_aload_n hx hb dX0_addRiddle_83 rfl (lv_at hl 1 rfl) ?_
              refine va_get (ci := 0) (C := RX0) (T := TX0) (N := 7) hx hb hts hiX0 hown hK hP 0 rfl rfl 1 (by decide) (hts (.fieldLink RX0 20 "RiddleTrade$Exchange" "riddles" "LRiddleTrade$Table;") (List.mem_of_getElem? (i := 2) rfl)) (fun _ h9 => h9) rfl dX0_addRiddle_84 ?_
              refine lv_iload hx hb dX0_addRiddle_87 (lv_at hl 0 rfl) ?_
              refine lv_iconst (v := 2) hx hb dX0_addRiddle_89 (by decide) ?_
              refine lv_iload_n hx hb dX0_addRiddle_90 rfl (lv_at hl 4 rfl) ?_
              obtain ⟨fR_14, hu15, h⟩ := ob1_el h
              refine kcVv (ci := 4) (q := (RX4, TX4, 3)) (ws1 := (w_X0_addRiddle cI cC h0 h1 h3 h5 h7 h9 h11 h2 h4 fR_14 rR_8 rnd)) ⟨hx, hb, hml, hown, hts⟩ [2, 3] [0, 1] (c_X4_put l D cI cC cE h3 h4 _ 80 fR_12 4 rR_8 r7 2 p3 fR_14 hu15) (cwV 3 hts gX0_addRiddle_X4_put rfl rfl rfl (by decide +kernel) ⟨Nat.le_of_ble_eq_true rfl, Nat.le_of_ble_eq_true rfl⟩) hK hP hD hS hA rfl rfl rfl rfl rfl rfl rfl rfl rfl hl.1 rfl (Nat.le_of_ble_eq_true rfl) dX0_addRiddle_91 ⟨Nat.le_refl 0, Nat.le_refl 0⟩ (fun H locs hP hD hS => ?_)
              refine lv_aload_n hx hb dX0_addRiddle_94 rfl (lv_at hl 1 rfl) ?_
              refine va_get (ci := 0) (C := RX0) (T := TX0) (N := 7) hx hb hts hiX0 hown hK hP 0 rfl rfl 1 (by decide) (hts (.fieldLink RX0 20 "RiddleTrade$Exchange" "riddles" "LRiddleTrade$Table;") (List.mem_of_getElem? (i := 2) rfl)) (fun _ h9 => h9) rfl dX0_addRiddle_95 ?_
              refine lv_iload hx hb dX0_addRiddle_98 (lv_at hl 0 rfl) ?_
              refine lv_iconst (v := 3) hx hb dX0_addRiddle_100 (by decide) ?_
              refine lv_iconst (v := 0) hx hb dX0_addRiddle_101 (by decide) ?_
              obtain ⟨fR_16, hu17, h⟩ := ob1_el h
              refine kcVv (ci := 4) (q := (RX4, TX4, 3)) (ws1 := (w_X0_addRiddle cI cC h0 h1 h3 h5 h7 h9 h11 h2 h4 fR_16 rR_8 rnd)) ⟨hx, hb, hml, hown, hts⟩ [2, 3] [0, 1] (c_X4_put l D cI cC cE h3 h4 _ 80 fR_14 4 rR_8 r7 3 0 fR_16 hu17) (cwV 3 hts gX0_addRiddle_X4_put rfl rfl rfl (by decide +kernel) ⟨Nat.le_of_ble_eq_true rfl, Nat.le_of_ble_eq_true rfl⟩) hK hP hD hS hA rfl rfl rfl rfl rfl rfl rfl rfl rfl hl.1 rfl (Nat.le_of_ble_eq_true rfl) dX0_addRiddle_102 ⟨Nat.le_refl 0, Nat.le_refl 0⟩ (fun H locs hP hD hS => ?_)
              refine lv_iload hx hb dX0_addRiddle_105 (lv_at hl 0 rfl) ?_
              cases h
              exact fin _ _ _ _ dX0_addRiddle_107 hP hD hS
            · have h := (k_iB h).2 c6
              refine lv_bipush (v := (-3)) hx hb dX0_addRiddle_49 (by decide) ?_
              cases h
              exact fin _ _ _ _ dX0_addRiddle_51 hP hD hS
          · have h := (k_iB h).2 c5
            refine lv_bipush (v := (-2)) hx hb dX0_addRiddle_34 (by decide) ?_
            cases h
            exact fin _ _ _ _ dX0_addRiddle_36 hP hD hS
  · have h := (k_iB h).1 c1
    refine lv_iconst (v := (-1)) hx hb dX0_addRiddle_11 (by decide) ?_
    cases h
    exact fin _ _ _ _ dX0_addRiddle_12 hP hD hS
abbrev w_X0_closeRiddle (cI cC : ClassId) (h0 h1 h3 h5 h7 h9 h11 h4 h6 : Nat) (fR : Nat → Int32) (rR : Int32) (fA : Nat → Int32) (rA : Int32) (rnd : Int32) : va_W := [(h0, .inr (0, [.ref h1, .ref h3, .ref h5, .ref h7, .ref h9, .ref h11, .int rnd])), (h3, .inr (4, [.ref h4, .int 4, .int rR])), (h4, .inl (cI, 80, .inl fR)), (h5, .inr (4, [.ref h6, .int 8, .int rA])), (h6, .inl (cI, 320, .inl fA))]
def d_X0_closeRiddle (p1 : Int32) (fR : Nat → Int32) (rR : Int32) (fA : Nat → Int32) (rA : Int32) : Option (Int32 × (Nat → Int32)) :=
    if (d_X4_has p1 rR) = 0 then (some ((-1), fR))
    else (ob1 (d_X4_get 80 p1 3 fR 4) fun r2 =>
    if r2 = 0 then (ob1 (d_X4_put 80 p1 3 2 fR 4) fun fR_5 =>
    ob1 (d_X4_countOfBoth 320 1 p1 4 0 fA 8 rA) fun r7 =>
    some (r7, fR_5))
    else (some ((-4), fR)))
set_option maxHeartbeats 4000000 in
set_option maxRecDepth 100000 in
theorem c_X0_closeRiddle (l : Launch) (D : va_G) (cI cC cE : ClassId) (h0 h1 h3 h5 h7 h9 h11 h4 h6 : Nat) (sz : Nat) (fR : Nat → Int32) (rR : Int32) (fA : Nat → Int32) (rA : Int32) (rnd : Int32) (p1 : Int32) (r0 : Int32) (o_fR : Nat → Int32) (h : d_X0_closeRiddle p1 fR rR fA rA = some (r0, o_fR)) : Met l yX0_closeRiddle wsX0_closeRiddle ({ frames := 2, cells := 0, slots := 0, locals := 49 } : Room) (kP D (kT cI cC cE) [.ref h0, .int p1] (w_X0_closeRiddle cI cC h0 h1 h3 h5 h7 h9 h11 h4 h6 fR rR fA rA rnd) sz) (kQi D (kT cI cC cE) (w_X0_closeRiddle cI cC h0 h1 h3 h5 h7 h9 h11 h4 h6 fR rR fA rA rnd) (w_X0_closeRiddle cI cC h0 h1 h3 h5 h7 h9 h11 h4 h6 o_fR rR fA rA rnd) sz r0) 0 0 (va_A (w_X0_closeRiddle cI cC h0 h1 h3 h5 h7 h9 h11 h4 h6 fR rR fA rA rnd) sz) := by
  refine kMetI (cc := cX0_closeRiddle) (maxL := 2) (own := RX0) (by decide) rfl (Nat.le_of_ble_eq_true rfl) rfl ?_
  intro p e s m below meth c A Q hx hb hml hown hts hP hK hD hA hS hname fin ls hl
  have hl : lv_has ls 2 [(0, .ref h0), (1, .int p1)] := hl
  have hiX0 : ∀ w ∈ u_ws RX0 TX0 7, w ∈ wsX0_closeRiddle := by decide +kernel
  dsimp only [d_X0_closeRiddle] at h
  refine lv_aload_n hx hb dX0_closeRiddle_0 rfl (lv_at hl 0 rfl) ?_
  refine va_get (ci := 0) (C := RX0) (T := TX0) (N := 7) hx hb hts hiX0 hown hK hP 0 rfl rfl 1 (by decide) (hts (.fieldLink RX0 20 "RiddleTrade$Exchange" "riddles" "LRiddleTrade$Table;") (List.mem_of_getElem? (i := 1) rfl)) (fun _ h9 => h9) rfl dX0_closeRiddle_1 ?_
  refine lv_iload_n hx hb dX0_closeRiddle_4 rfl (lv_at hl 1 rfl) ?_
  refine kcVi (ci := 4) (q := (RX4, TX4, 3)) (ws1 := (w_X0_closeRiddle cI cC h0 h1 h3 h5 h7 h9 h11 h4 h6 fR rR fA rA rnd)) ⟨hx, hb, hml, hown, hts⟩ [1] [0, 2, 3, 4] (c_X4_has l D cI cC cE h3 h4 _ 4 rR p1 (d_X4_has p1 rR) rfl) (cwV 1 hts gX0_closeRiddle_X4_has rfl rfl rfl (by decide +kernel) ⟨Nat.le_of_ble_eq_true rfl, Nat.le_of_ble_eq_true rfl⟩) hK hP hD hS hA rfl rfl rfl rfl rfl rfl rfl rfl rfl hl.1 rfl (Nat.le_of_ble_eq_true rfl) dX0_closeRiddle_5 ⟨Nat.le_refl 0, Nat.le_refl 0⟩ (fun H locs hP hD hS => ?_)
  refine lv_if_ne (tgt := 13) hx hb dX0_closeRiddle_8 (by decide) (fun c1 => ?_) (fun c1 => ?_)
  · have h := (k_iB h).2 c1
    refine lv_aload_n hx hb dX0_closeRiddle_13 rfl (lv_at hl 0 rfl) ?_
    refine va_get (ci := 0) (C := RX0) (T := TX0) (N := 7) hx hb hts hiX0 hown hK hP 0 rfl rfl 1 (by decide) (hts (.fieldLink RX0 20 "RiddleTrade$Exchange" "riddles" "LRiddleTrade$Table;") (List.mem_of_getElem? (i := 1) rfl)) (fun _ h9 => h9) rfl dX0_closeRiddle_14 ?_
    refine lv_iload_n hx hb dX0_closeRiddle_17 rfl (lv_at hl 1 rfl) ?_
    refine lv_iconst (v := 3) hx hb dX0_closeRiddle_18 (by decide) ?_
    obtain ⟨r2, hu3, h⟩ := ob1_el h
    refine kcVi (ci := 4) (q := (RX4, TX4, 3)) (ws1 := (w_X0_closeRiddle cI cC h0 h1 h3 h5 h7 h9 h11 h4 h6 fR rR fA rA rnd)) ⟨hx, hb, hml, hown, hts⟩ [1, 2] [0, 3, 4] (c_X4_get l D cI cC cE h3 h4 _ 80 fR 4 rR p1 3 r2 hu3) (cwV 2 hts gX0_closeRiddle_X4_get rfl rfl rfl (by decide +kernel) ⟨Nat.le_of_ble_eq_true rfl, Nat.le_of_ble_eq_true rfl⟩) hK hP hD hS hA rfl rfl rfl rfl rfl rfl rfl rfl rfl hl.1 rfl (Nat.le_of_ble_eq_true rfl) dX0_closeRiddle_19 ⟨Nat.le_refl 0, Nat.le_refl 0⟩ (fun H locs hP hD hS => ?_)
    refine lv_if_eq (tgt := 28) hx hb dX0_closeRiddle_22 (by decide) (fun c4 => ?_) (fun c4 => ?_)
    · have h := (k_iB h).1 c4
      refine lv_aload_n hx hb dX0_closeRiddle_28 rfl (lv_at hl 0 rfl) ?_
      refine va_get (ci := 0) (C := RX0) (T := TX0) (N := 7) hx hb hts hiX0 hown hK hP 0 rfl rfl 1 (by decide) (hts (.fieldLink RX0 20 "RiddleTrade$Exchange" "riddles" "LRiddleTrade$Table;") (List.mem_of_getElem? (i := 1) rfl)) (fun _ h9 => h9) rfl dX0_closeRiddle_29 ?_
      refine lv_iload_n hx hb dX0_closeRiddle_32 rfl (lv_at hl 1 rfl) ?_
      refine lv_iconst (v := 3) hx hb dX0_closeRiddle_33 (by decide) ?_
      refine lv_iconst (v := 2) hx hb dX0_closeRiddle_34 (by decide) ?_
      obtain ⟨fR_5, hu6, h⟩ := ob1_el h
      refine kcVv (ci := 4) (q := (RX4, TX4, 3)) (ws1 := (w_X0_closeRiddle cI cC h0 h1 h3 h5 h7 h9 h11 h4 h6 fR_5 rR fA rA rnd)) ⟨hx, hb, hml, hown, hts⟩ [1, 2] [0, 3, 4] (c_X4_put l D cI cC cE h3 h4 _ 80 fR 4 rR p1 3 2 fR_5 hu6) (cwV 3 hts gX0_closeRiddle_X4_put rfl rfl rfl (by decide +kernel) ⟨Nat.le_of_ble_eq_true rfl, Nat.le_of_ble_eq_true rfl⟩) hK hP hD hS hA rfl rfl rfl rfl rfl rfl rfl rfl rfl hl.1 rfl (Nat.le_of_ble_eq_true rfl) dX0_closeRiddle_35 ⟨Nat.le_refl 0, Nat.le_refl 0⟩ (fun H locs hP hD hS => ?_)
      refine lv_aload_n hx hb dX0_closeRiddle_38 rfl (lv_at hl 0 rfl) ?_
      refine va_get (ci := 0) (C := RX0) (T := TX0) (N := 7) hx hb hts hiX0 hown hK hP 0 rfl rfl 2 (by decide) (hts (.fieldLink RX0 23 "RiddleTrade$Exchange" "answers" "LRiddleTrade$Table;") (List.mem_of_getElem? (i := 2) rfl)) (fun _ h9 => h9) rfl dX0_closeRiddle_39 ?_
      refine lv_iconst (v := 1) hx hb dX0_closeRiddle_42 (by decide) ?_
      refine lv_iload_n hx hb dX0_closeRiddle_43 rfl (lv_at hl 1 rfl) ?_
      refine lv_iconst (v := 4) hx hb dX0_closeRiddle_44 (by decide) ?_
      refine lv_iconst (v := 0) hx hb dX0_closeRiddle_45 (by decide) ?_
      obtain ⟨r7, hu8, h⟩ := ob1_el h
      refine kcVi (ci := 4) (q := (RX4, TX4, 3)) (ws1 := (w_X0_closeRiddle cI cC h0 h1 h3 h5 h7 h9 h11 h4 h6 fR_5 rR fA rA rnd)) ⟨hx, hb, hml, hown, hts⟩ [3, 4] [0, 1, 2] (c_X4_countOfBoth l D cI cC cE h5 h6 _ 320 fA 8 rA 1 p1 4 0 r7 hu8) (cwV 4 hts gX0_closeRiddle_X4_countOfBoth rfl rfl rfl (by decide +kernel) ⟨Nat.le_of_ble_eq_true rfl, Nat.le_of_ble_eq_true rfl⟩) hK hP hD hS hA rfl rfl rfl rfl rfl rfl rfl rfl rfl hl.1 rfl (Nat.le_of_ble_eq_true rfl) dX0_closeRiddle_46 ⟨Nat.le_refl 0, Nat.le_refl 0⟩ (fun H locs hP hD hS => ?_)
      cases h
      exact fin _ _ _ _ dX0_closeRiddle_49 hP hD hS
    · have h := (k_iB h).2 c4
      refine lv_bipush (v := (-4)) hx hb dX0_closeRiddle_25 (by decide) ?_
      cases h
      exact fin _ _ _ _ dX0_closeRiddle_27 hP hD hS
  · have h := (k_iB h).1 c1
    refine lv_iconst (v := (-1)) hx hb dX0_closeRiddle_11 (by decide) ?_
    cases h
    exact fin _ _ _ _ dX0_closeRiddle_12 hP hD hS
abbrev w_X0_addAnswer (cI cC : ClassId) (h0 h1 h3 h5 h7 h9 h11 h2 h4 h6 h12 : Nat) (fR : Nat → Int32) (rR : Int32) (fA : Nat → Int32) (rA : Int32) (ri : Nat → Int32) (hd : Int32) (ln : Int32) (rnd : Int32) : va_W := [(h0, .inr (0, [.ref h1, .ref h3, .ref h5, .ref h7, .ref h9, .ref h11, .int rnd])), (h1, .inr (4, [.ref h2, .int 2, .int 8])), (h3, .inr (4, [.ref h4, .int 4, .int rR])), (h4, .inl (cI, 80, .inl fR)), (h5, .inr (4, [.ref h6, .int 8, .int rA])), (h6, .inl (cI, 320, .inl fA)), (h11, .inr (3, [.ref h12, .int hd, .int ln])), (h12, .inl (cI, 40, .inl ri))]
def d_X0_addAnswer (p1 : Int32) (p2 : Int32) (p3 : Int32) (p4 : Int32) (fR : Nat → Int32) (rR : Int32) (fA : Nat → Int32) (rA : Int32) (ri : Nat → Int32) (hd : Int32) (ln : Int32) : Option (Int32 × (Nat → Int32) × Int32 × (Nat → Int32) × Int32) :=
    if (d_X4_has p1 8) = 0 then (some ((-1), fA, rA, ri, ln))
    else (if (d_X4_has p2 rR) = 0 then (some ((-1), fA, rA, ri, ln))
    else (if p3 < 0 then (some ((-2), fA, rA, ri, ln))
    else (if 99 < p3 then (some ((-2), fA, rA, ri, ln))
    else (if p4 < 1 then (some ((-2), fA, rA, ri, ln))
    else (if p4 ≤ 99 then (ob1 (d_X4_get 80 p2 3 fR 4) fun r7 =>
    if r7 = 0 then (ob1 (d_X4_get 80 p2 0 fR 4) fun r10 =>
    if r10 = p1 then (some ((-4), fA, rA, ri, ln))
    else (if (d_X4_rows rA) < 40 then (tb2 (d_X4_addRow rA) fun r14 rA_15 =>
    ob1 (d_X4_put 320 r14 0 p1 fA 8) fun fA_17 =>
    ob1 (d_X4_put 320 r14 1 p2 fA_17 8) fun fA_19 =>
    ob1 (d_X4_put 320 r14 2 p3 fA_19 8) fun fA_21 =>
    ob1 (d_X4_put 320 r14 3 p4 fA_21 8) fun fA_23 =>
    ob1 (d_X4_put 320 r14 4 0 fA_23 8) fun fA_25 =>
    ob1 (d_X4_put 320 r14 5 0 fA_25 8) fun fA_27 =>
    ob1 (d_X4_put 320 r14 6 0 fA_27 8) fun fA_29 =>
    ob1 (d_X4_put 320 r14 7 0 fA_29 8) fun fA_31 =>
    ob2 (d_X3_addLast r14 ri hd ln) fun ri_33 ln_34 =>
    some (r14, fA_31, rA_15, ri_33, ln_34))
    else (some ((-3), fA, rA, ri, ln))))
    else (some ((-4), fA, rA, ri, ln)))
    else (some ((-2), fA, rA, ri, ln)))))))
set_option maxHeartbeats 4000000 in
set_option maxRecDepth 100000 in
theorem c_X0_addAnswer (l : Launch) (D : va_G) (cI cC cE : ClassId) (h0 h1 h3 h5 h7 h9 h11 h2 h4 h6 h12 : Nat) (sz : Nat) (fR : Nat → Int32) (rR : Int32) (fA : Nat → Int32) (rA : Int32) (ri : Nat → Int32) (hd : Int32) (ln : Int32) (rnd : Int32) (p1 : Int32) (p2 : Int32) (p3 : Int32) (p4 : Int32) (r0 : Int32) (o_fA : Nat → Int32) (o_rA : Int32) (o_ri : Nat → Int32) (o_ln : Int32) (h : d_X0_addAnswer p1 p2 p3 p4 fR rR fA rA ri hd ln = some (r0, o_fA, o_rA, o_ri, o_ln)) : Met l yX0_addAnswer wsX0_addAnswer ({ frames := 1, cells := 0, slots := 0, locals := 24 } : Room) (kP D (kT cI cC cE) [.ref h0, .int p1, .int p2, .int p3, .int p4] (w_X0_addAnswer cI cC h0 h1 h3 h5 h7 h9 h11 h2 h4 h6 h12 fR rR fA rA ri hd ln rnd) sz) (kQi D (kT cI cC cE) (w_X0_addAnswer cI cC h0 h1 h3 h5 h7 h9 h11 h2 h4 h6 h12 fR rR fA rA ri hd ln rnd) (w_X0_addAnswer cI cC h0 h1 h3 h5 h7 h9 h11 h2 h4 h6 h12 fR rR o_fA o_rA o_ri hd o_ln rnd) sz r0) 0 0 (va_A (w_X0_addAnswer cI cC h0 h1 h3 h5 h7 h9 h11 h2 h4 h6 h12 fR rR fA rA ri hd ln rnd) sz) := by
  refine kMetI (cc := cX0_addAnswer) (maxL := 6) (own := RX0) (by decide) rfl (Nat.le_of_ble_eq_true rfl) rfl ?_
  intro p e s m below meth c A Q hx hb hml hown hts hP hK hD hA hS hname fin ls hl
  have hl : lv_has ls 6 [(0, .ref h0), (1, .int p1), (2, .int p2), (3, .int p3), (4, .int p4)] := hl
  have hiX0 : ∀ w ∈ u_ws RX0 TX0 7, w ∈ wsX0_addAnswer := by decide +kernel
  dsimp only [d_X0_addAnswer] at h
  refine lv_aload_n hx hb dX0_addAnswer_0 rfl (lv_at hl 0 rfl) ?_
  refine va_get (ci := 0) (C := RX0) (T := TX0) (N := 7) hx hb hts hiX0 hown hK hP 0 rfl rfl 0 (by decide) (hts (.fieldLink RX0 16 "RiddleTrade$Exchange" "traders" "LRiddleTrade$Table;") (List.mem_of_getElem? (i := 1) rfl)) (fun _ h9 => h9) rfl dX0_addAnswer_1 ?_
  refine lv_iload_n hx hb dX0_addAnswer_4 rfl (lv_at hl 1 rfl) ?_
  refine kcVi (ci := 4) (q := (RX4, TX4, 3)) (ws1 := (w_X0_addAnswer cI cC h0 h1 h3 h5 h7 h9 h11 h2 h4 h6 h12 fR rR fA rA ri hd ln rnd)) ⟨hx, hb, hml, hown, hts⟩ [1] [0, 2, 3, 4, 5, 6, 7] (c_X4_has l D cI cC cE h1 h2 _ 2 8 p1 (d_X4_has p1 8) rfl) (cwV 1 hts gX0_addAnswer_X4_has rfl rfl rfl (by decide +kernel) ⟨Nat.le_of_ble_eq_true rfl, Nat.le_of_ble_eq_true rfl⟩) hK hP hD hS hA rfl rfl rfl rfl rfl rfl rfl rfl rfl hl.1 rfl (Nat.le_of_ble_eq_true rfl) dX0_addAnswer_5 ⟨Nat.le_refl 0, Nat.le_refl 0⟩ (fun H locs hP hD hS => ?_)
  refine lv_if_eq (tgt := 22) hx hb dX0_addAnswer_8 (by decide) (fun c1 => ?_) (fun c1 => ?_)
  · have h := (k_iB h).1 c1
    refine lv_iconst (v := (-1)) hx hb dX0_addAnswer_22 (by decide) ?_
    cases h
    exact fin _ _ _ _ dX0_addAnswer_23 hP hD hS
  · have h := (k_iB h).2 c1
    refine lv_aload_n hx hb dX0_addAnswer_11 rfl (lv_at hl 0 rfl) ?_
    refine va_get (ci := 0) (C := RX0) (T := TX0) (N := 7) hx hb hts hiX0 hown hK hP 0 rfl rfl 1 (by decide) (hts (.fieldLink RX0 20 "RiddleTrade$Exchange" "riddles" "LRiddleTrade$Table;") (List.mem_of_getElem? (i := 2) rfl)) (fun _ h9 => h9) rfl dX0_addAnswer_12 ?_
    refine lv_iload_n hx hb dX0_addAnswer_15 rfl (lv_at hl 2 rfl) ?_
    refine kcVi (ci := 4) (q := (RX4, TX4, 3)) (ws1 := (w_X0_addAnswer cI cC h0 h1 h3 h5 h7 h9 h11 h2 h4 h6 h12 fR rR fA rA ri hd ln rnd)) ⟨hx, hb, hml, hown, hts⟩ [2] [0, 1, 3, 4, 5, 6, 7] (c_X4_has l D cI cC cE h3 h4 _ 4 rR p2 (d_X4_has p2 rR) rfl) (cwV 1 hts gX0_addAnswer_X4_has rfl rfl rfl (by decide +kernel) ⟨Nat.le_of_ble_eq_true rfl, Nat.le_of_ble_eq_true rfl⟩) hK hP hD hS hA rfl rfl rfl rfl rfl rfl rfl rfl rfl hl.1 rfl (Nat.le_of_ble_eq_true rfl) dX0_addAnswer_16 ⟨Nat.le_refl 0, Nat.le_refl 0⟩ (fun H locs hP hD hS => ?_)
    refine lv_if_ne (tgt := 24) hx hb dX0_addAnswer_19 (by decide) (fun c2 => ?_) (fun c2 => ?_)
    · have h := (k_iB h).2 c2
      refine lv_iload_n hx hb dX0_addAnswer_24 rfl (lv_at hl 3 rfl) ?_
      refine lv_if_lt (tgt := 47) hx hb dX0_addAnswer_25 (by decide) (fun c3 => ?_) (fun c3 => ?_)
      · have h := (k_iB h).1 c3
        refine lv_bipush (v := (-2)) hx hb dX0_addAnswer_47 (by decide) ?_
        cases h
        exact fin _ _ _ _ dX0_addAnswer_49 hP hD hS
      · have h := (k_iB h).2 c3
        refine lv_iload_n hx hb dX0_addAnswer_28 rfl (lv_at hl 3 rfl) ?_
        refine lv_bipush (v := 99) hx hb dX0_addAnswer_29 (by decide) ?_
        refine lv_icmp_gt (tgt := 47) hx hb dX0_addAnswer_31 (by decide) (fun c4 => ?_) (fun c4 => ?_)
        · have h := (k_iB h).1 c4
          refine lv_bipush (v := (-2)) hx hb dX0_addAnswer_47 (by decide) ?_
          cases h
          exact fin _ _ _ _ dX0_addAnswer_49 hP hD hS
        · have h := (k_iB h).2 c4
          refine lv_iload hx hb dX0_addAnswer_34 (lv_at hl 4 rfl) ?_
          refine lv_iconst (v := 1) hx hb dX0_addAnswer_36 (by decide) ?_
          refine lv_icmp_lt (tgt := 47) hx hb dX0_addAnswer_37 (by decide) (fun c5 => ?_) (fun c5 => ?_)
          · have h := (k_iB h).1 c5
            refine lv_bipush (v := (-2)) hx hb dX0_addAnswer_47 (by decide) ?_
            cases h
            exact fin _ _ _ _ dX0_addAnswer_49 hP hD hS
          · have h := (k_iB h).2 c5
            refine lv_iload hx hb dX0_addAnswer_40 (lv_at hl 4 rfl) ?_
            refine lv_bipush (v := 99) hx hb dX0_addAnswer_42 (by decide) ?_
            refine lv_icmp_le (tgt := 50) hx hb dX0_addAnswer_44 (by decide) (fun c6 => ?_) (fun c6 => ?_)
            · have h := (k_iB h).1 c6
              refine lv_aload_n hx hb dX0_addAnswer_50 rfl (lv_at hl 0 rfl) ?_
              refine va_get (ci := 0) (C := RX0) (T := TX0) (N := 7) hx hb hts hiX0 hown hK hP 0 rfl rfl 1 (by decide) (hts (.fieldLink RX0 20 "RiddleTrade$Exchange" "riddles" "LRiddleTrade$Table;") (List.mem_of_getElem? (i := 2) rfl)) (fun _ h9 => h9) rfl dX0_addAnswer_51 ?_
              refine lv_iload_n hx hb dX0_addAnswer_54 rfl (lv_at hl 2 rfl) ?_
              refine lv_iconst (v := 3) hx hb dX0_addAnswer_55 (by decide) ?_
              obtain ⟨r7, hu8, h⟩ := ob1_el h
              refine kcVi (ci := 4) (q := (RX4, TX4, 3)) (ws1 := (w_X0_addAnswer cI cC h0 h1 h3 h5 h7 h9 h11 h2 h4 h6 h12 fR rR fA rA ri hd ln rnd)) ⟨hx, hb, hml, hown, hts⟩ [2, 3] [0, 1, 4, 5, 6, 7] (c_X4_get l D cI cC cE h3 h4 _ 80 fR 4 rR p2 3 r7 hu8) (cwV 2 hts gX0_addAnswer_X4_get rfl rfl rfl (by decide +kernel) ⟨Nat.le_of_ble_eq_true rfl, Nat.le_of_ble_eq_true rfl⟩) hK hP hD hS hA rfl rfl rfl rfl rfl rfl rfl rfl rfl hl.1 rfl (Nat.le_of_ble_eq_true rfl) dX0_addAnswer_56 ⟨Nat.le_refl 0, Nat.le_refl 0⟩ (fun H locs hP hD hS => ?_)
              refine lv_if_ne (tgt := 75) hx hb dX0_addAnswer_59 (by decide) (fun c9 => ?_) (fun c9 => ?_)
              · have h := (k_iB h).2 c9
                refine lv_bipush (v := (-4)) hx hb dX0_addAnswer_75 (by decide) ?_
                cases h
                exact fin _ _ _ _ dX0_addAnswer_77 hP hD hS
              · have h := (k_iB h).1 c9
                refine lv_aload_n hx hb dX0_addAnswer_62 rfl (lv_at hl 0 rfl) ?_
                refine va_get (ci := 0) (C := RX0) (T := TX0) (N := 7) hx hb hts hiX0 hown hK hP 0 rfl rfl 1 (by decide) (hts (.fieldLink RX0 20 "RiddleTrade$Exchange" "riddles" "LRiddleTrade$Table;") (List.mem_of_getElem? (i := 2) rfl)) (fun _ h9 => h9) rfl dX0_addAnswer_63 ?_
                refine lv_iload_n hx hb dX0_addAnswer_66 rfl (lv_at hl 2 rfl) ?_
                refine lv_iconst (v := 0) hx hb dX0_addAnswer_67 (by decide) ?_
                obtain ⟨r10, hu11, h⟩ := ob1_el h
                refine kcVi (ci := 4) (q := (RX4, TX4, 3)) (ws1 := (w_X0_addAnswer cI cC h0 h1 h3 h5 h7 h9 h11 h2 h4 h6 h12 fR rR fA rA ri hd ln rnd)) ⟨hx, hb, hml, hown, hts⟩ [2, 3] [0, 1, 4, 5, 6, 7] (c_X4_get l D cI cC cE h3 h4 _ 80 fR 4 rR p2 0 r10 hu11) (cwV 2 hts gX0_addAnswer_X4_get rfl rfl rfl (by decide +kernel) ⟨Nat.le_of_ble_eq_true rfl, Nat.le_of_ble_eq_true rfl⟩) hK hP hD hS hA rfl rfl rfl rfl rfl rfl rfl rfl rfl hl.1 rfl (Nat.le_of_ble_eq_true rfl) dX0_addAnswer_68 ⟨Nat.le_refl 0, Nat.le_refl 0⟩ (fun H locs hP hD hS => ?_)
                refine lv_iload_n hx hb dX0_addAnswer_71 rfl (lv_at hl 1 rfl) ?_
                refine lv_icmp_ne (tgt := 78) hx hb dX0_addAnswer_72 (by decide) (fun c12 => ?_) (fun c12 => ?_)
                · have h := (k_iB h).2 c12
                  refine lv_aload_n hx hb dX0_addAnswer_78 rfl (lv_at hl 0 rfl) ?_
                  refine va_get (ci := 0) (C := RX0) (T := TX0) (N := 7) hx hb hts hiX0 hown hK hP 0 rfl rfl 2 (by decide) (hts (.fieldLink RX0 23 "RiddleTrade$Exchange" "answers" "LRiddleTrade$Table;") (List.mem_of_getElem? (i := 3) rfl)) (fun _ h9 => h9) rfl dX0_addAnswer_79 ?_
                  refine kcVi (ci := 4) (q := (RX4, TX4, 3)) (ws1 := (w_X0_addAnswer cI cC h0 h1 h3 h5 h7 h9 h11 h2 h4 h6 h12 fR rR fA rA ri hd ln rnd)) ⟨hx, hb, hml, hown, hts⟩ [4] [0, 1, 2, 3, 5, 6, 7] (c_X4_rows l D cI cC cE h5 h6 _ 8 rA (d_X4_rows rA) rfl) (cwV 0 hts gX0_addAnswer_X4_rows rfl rfl rfl (by decide +kernel) ⟨Nat.le_of_ble_eq_true rfl, Nat.le_of_ble_eq_true rfl⟩) hK hP hD hS hA rfl rfl rfl rfl rfl rfl rfl rfl rfl hl.1 rfl (Nat.le_of_ble_eq_true rfl) dX0_addAnswer_82 ⟨Nat.le_refl 0, Nat.le_refl 0⟩ (fun H locs hP hD hS => ?_)
                  refine lv_bipush (v := 40) hx hb dX0_addAnswer_85 (by decide) ?_
                  refine lv_icmp_lt (tgt := 93) hx hb dX0_addAnswer_87 (by decide) (fun c13 => ?_) (fun c13 => ?_)
                  · have h := (k_iB h).1 c13
                    refine lv_aload_n hx hb dX0_addAnswer_93 rfl (lv_at hl 0 rfl) ?_
                    refine va_get (ci := 0) (C := RX0) (T := TX0) (N := 7) hx hb hts hiX0 hown hK hP 0 rfl rfl 2 (by decide) (hts (.fieldLink RX0 23 "RiddleTrade$Exchange" "answers" "LRiddleTrade$Table;") (List.mem_of_getElem? (i := 3) rfl)) (fun _ h9 => h9) rfl dX0_addAnswer_94 ?_
                    obtain ⟨r14, rA_15, hu16, h⟩ := tb2_el h
                    refine kcVi (ci := 4) (q := (RX4, TX4, 3)) (ws1 := (w_X0_addAnswer cI cC h0 h1 h3 h5 h7 h9 h11 h2 h4 h6 h12 fR rR fA rA_15 ri hd ln rnd)) ⟨hx, hb, hml, hown, hts⟩ [4] [0, 1, 2, 3, 5, 6, 7] (c_X4_addRow l D cI cC cE h5 h6 _ 8 rA r14 rA_15 hu16) (cwV 0 hts gX0_addAnswer_X4_addRow rfl rfl rfl (by decide +kernel) ⟨Nat.le_of_ble_eq_true rfl, Nat.le_of_ble_eq_true rfl⟩) hK hP hD hS hA rfl rfl rfl rfl rfl rfl rfl rfl rfl hl.1 rfl (Nat.le_of_ble_eq_true rfl) dX0_addAnswer_97 ⟨Nat.le_refl 0, Nat.le_refl 0⟩ (fun H locs hP hD hS => ?_)
                    refine lv_istore (lv' := [(5, .int r14), (0, .ref h0), (1, .int p1), (2, .int p2), (3, .int p3), (4, .int p4)]) hx hb dX0_addAnswer_100 hl (by decide) rfl (fun ls hl => ?_)
                    refine lv_aload_n hx hb dX0_addAnswer_102 rfl (lv_at hl 1 rfl) ?_
                    refine va_get (ci := 0) (C := RX0) (T := TX0) (N := 7) hx hb hts hiX0 hown hK hP 0 rfl rfl 2 (by decide) (hts (.fieldLink RX0 23 "RiddleTrade$Exchange" "answers" "LRiddleTrade$Table;") (List.mem_of_getElem? (i := 3) rfl)) (fun _ h9 => h9) rfl dX0_addAnswer_103 ?_
                    refine lv_iload hx hb dX0_addAnswer_106 (lv_at hl 0 rfl) ?_
                    refine lv_iconst (v := 0) hx hb dX0_addAnswer_108 (by decide) ?_
                    refine lv_iload_n hx hb dX0_addAnswer_109 rfl (lv_at hl 2 rfl) ?_
                    obtain ⟨fA_17, hu18, h⟩ := ob1_el h
                    refine kcVv (ci := 4) (q := (RX4, TX4, 3)) (ws1 := (w_X0_addAnswer cI cC h0 h1 h3 h5 h7 h9 h11 h2 h4 h6 h12 fR rR fA_17 rA_15 ri hd ln rnd)) ⟨hx, hb, hml, hown, hts⟩ [4, 5] [0, 1, 2, 3, 6, 7] (c_X4_put l D cI cC cE h5 h6 _ 320 fA 8 rA_15 r14 0 p1 fA_17 hu18) (cwV 3 hts gX0_addAnswer_X4_put rfl rfl rfl (by decide +kernel) ⟨Nat.le_of_ble_eq_true rfl, Nat.le_of_ble_eq_true rfl⟩) hK hP hD hS hA rfl rfl rfl rfl rfl rfl rfl rfl rfl hl.1 rfl (Nat.le_of_ble_eq_true rfl) dX0_addAnswer_110 ⟨Nat.le_refl 0, Nat.le_refl 0⟩ (fun H locs hP hD hS => ?_)
                    refine lv_aload_n hx hb dX0_addAnswer_113 rfl (lv_at hl 1 rfl) ?_
                    refine va_get (ci := 0) (C := RX0) (T := TX0) (N := 7) hx hb hts hiX0 hown hK hP 0 rfl rfl 2 (by decide) (hts (.fieldLink RX0 23 "RiddleTrade$Exchange" "answers" "LRiddleTrade$Table;") (List.mem_of_getElem? (i := 3) rfl)) (fun _ h9 => h9) rfl dX0_addAnswer_114 ?_
                    refine lv_iload hx hb dX0_addAnswer_117 (lv_at hl 0 rfl) ?_
                    refine lv_iconst (v := 1) hx hb dX0_addAnswer_119 (by decide) ?_
                    refine lv_iload_n hx hb dX0_addAnswer_120 rfl (lv_at hl 3 rfl) ?_
                    obtain ⟨fA_19, hu20, h⟩ := ob1_el h
                    refine kcVv (ci := 4) (q := (RX4, TX4, 3)) (ws1 := (w_X0_addAnswer cI cC h0 h1 h3 h5 h7 h9 h11 h2 h4 h6 h12 fR rR fA_19 rA_15 ri hd ln rnd)) ⟨hx, hb, hml, hown, hts⟩ [4, 5] [0, 1, 2, 3, 6, 7] (c_X4_put l D cI cC cE h5 h6 _ 320 fA_17 8 rA_15 r14 1 p2 fA_19 hu20) (cwV 3 hts gX0_addAnswer_X4_put rfl rfl rfl (by decide +kernel) ⟨Nat.le_of_ble_eq_true rfl, Nat.le_of_ble_eq_true rfl⟩) hK hP hD hS hA rfl rfl rfl rfl rfl rfl rfl rfl rfl hl.1 rfl (Nat.le_of_ble_eq_true rfl) dX0_addAnswer_121 ⟨Nat.le_refl 0, Nat.le_refl 0⟩ (fun H locs hP hD hS => ?_)
                    refine lv_aload_n hx hb dX0_addAnswer_124 rfl (lv_at hl 1 rfl) ?_
                    refine va_get (ci := 0) (C := RX0) (T := TX0) (N := 7) hx hb hts hiX0 hown hK hP 0 rfl rfl 2 (by decide) (hts (.fieldLink RX0 23 "RiddleTrade$Exchange" "answers" "LRiddleTrade$Table;") (List.mem_of_getElem? (i := 3) rfl)) (fun _ h9 => h9) rfl dX0_addAnswer_125 ?_
                    refine lv_iload hx hb dX0_addAnswer_128 (lv_at hl 0 rfl) ?_
                    refine lv_iconst (v := 2) hx hb dX0_addAnswer_130 (by decide) ?_
                    refine lv_iload_n hx hb dX0_addAnswer_131 rfl (lv_at hl 4 rfl) ?_
                    obtain ⟨fA_21, hu22, h⟩ := ob1_el h
                    refine kcVv (ci := 4) (q := (RX4, TX4, 3)) (ws1 := (w_X0_addAnswer cI cC h0 h1 h3 h5 h7 h9 h11 h2 h4 h6 h12 fR rR fA_21 rA_15 ri hd ln rnd)) ⟨hx, hb, hml, hown, hts⟩ [4, 5] [0, 1, 2, 3, 6, 7] (c_X4_put l D cI cC cE h5 h6 _ 320 fA_19 8 rA_15 r14 2 p3 fA_21 hu22) (cwV 3 hts gX0_addAnswer_X4_put rfl rfl rfl (by decide +kernel) ⟨Nat.le_of_ble_eq_true rfl, Nat.le_of_ble_eq_true rfl⟩) hK hP hD hS hA rfl rfl rfl rfl rfl rfl rfl rfl rfl hl.1 rfl (Nat.le_of_ble_eq_true rfl) dX0_addAnswer_132 ⟨Nat.le_refl 0, Nat.le_refl 0⟩ (fun H locs hP hD hS => ?_)
                    refine lv_aload_n hx hb dX0_addAnswer_135 rfl (lv_at hl 1 rfl) ?_
                    refine va_get (ci := 0) (C := RX0) (T := TX0) (N := 7) hx hb hts hiX0 hown hK hP 0 rfl rfl 2 (by decide) (hts (.fieldLink RX0 23 "RiddleTrade$Exchange" "answers" "LRiddleTrade$Table;") (List.mem_of_getElem? (i := 3) rfl)) (fun _ h9 => h9) rfl dX0_addAnswer_136 ?_
                    refine lv_iload hx hb dX0_addAnswer_139 (lv_at hl 0 rfl) ?_
                    refine lv_iconst (v := 3) hx hb dX0_addAnswer_141 (by decide) ?_
                    refine lv_iload hx hb dX0_addAnswer_142 (lv_at hl 5 rfl) ?_
                    obtain ⟨fA_23, hu24, h⟩ := ob1_el h
                    refine kcVv (ci := 4) (q := (RX4, TX4, 3)) (ws1 := (w_X0_addAnswer cI cC h0 h1 h3 h5 h7 h9 h11 h2 h4 h6 h12 fR rR fA_23 rA_15 ri hd ln rnd)) ⟨hx, hb, hml, hown, hts⟩ [4, 5] [0, 1, 2, 3, 6, 7] (c_X4_put l D cI cC cE h5 h6 _ 320 fA_21 8 rA_15 r14 3 p4 fA_23 hu24) (cwV 3 hts gX0_addAnswer_X4_put rfl rfl rfl (by decide +kernel) ⟨Nat.le_of_ble_eq_true rfl, Nat.le_of_ble_eq_true rfl⟩) hK hP hD hS hA rfl rfl rfl rfl rfl rfl rfl rfl rfl hl.1 rfl (Nat.le_of_ble_eq_true rfl) dX0_addAnswer_144 ⟨Nat.le_refl 0, Nat.le_refl 0⟩ (fun H locs hP hD hS => ?_)
                    refine lv_aload_n hx hb dX0_addAnswer_147 rfl (lv_at hl 1 rfl) ?_
                    refine va_get (ci := 0) (C := RX0) (T := TX0) (N := 7) hx hb hts hiX0 hown hK hP 0 rfl rfl 2 (by decide) (hts (.fieldLink RX0 23 "RiddleTrade$Exchange" "answers" "LRiddleTrade$Table;") (List.mem_of_getElem? (i := 3) rfl)) (fun _ h9 => h9) rfl dX0_addAnswer_148 ?_
                    refine lv_iload hx hb dX0_addAnswer_151 (lv_at hl 0 rfl) ?_
                    refine lv_iconst (v := 4) hx hb dX0_addAnswer_153 (by decide) ?_
                    refine lv_iconst (v := 0) hx hb dX0_addAnswer_154 (by decide) ?_
                    obtain ⟨fA_25, hu26, h⟩ := ob1_el h
                    refine kcVv (ci := 4) (q := (RX4, TX4, 3)) (ws1 := (w_X0_addAnswer cI cC h0 h1 h3 h5 h7 h9 h11 h2 h4 h6 h12 fR rR fA_25 rA_15 ri hd ln rnd)) ⟨hx, hb, hml, hown, hts⟩ [4, 5] [0, 1, 2, 3, 6, 7] (c_X4_put l D cI cC cE h5 h6 _ 320 fA_23 8 rA_15 r14 4 0 fA_25 hu26) (cwV 3 hts gX0_addAnswer_X4_put rfl rfl rfl (by decide +kernel) ⟨Nat.le_of_ble_eq_true rfl, Nat.le_of_ble_eq_true rfl⟩) hK hP hD hS hA rfl rfl rfl rfl rfl rfl rfl rfl rfl hl.1 rfl (Nat.le_of_ble_eq_true rfl) dX0_addAnswer_155 ⟨Nat.le_refl 0, Nat.le_refl 0⟩ (fun H locs hP hD hS => ?_)
                    refine lv_aload_n hx hb dX0_addAnswer_158 rfl (lv_at hl 1 rfl) ?_
                    refine va_get (ci := 0) (C := RX0) (T := TX0) (N := 7) hx hb hts hiX0 hown hK hP 0 rfl rfl 2 (by decide) (hts (.fieldLink RX0 23 "RiddleTrade$Exchange" "answers" "LRiddleTrade$Table;") (List.mem_of_getElem? (i := 3) rfl)) (fun _ h9 => h9) rfl dX0_addAnswer_159 ?_
                    refine lv_iload hx hb dX0_addAnswer_162 (lv_at hl 0 rfl) ?_
                    refine lv_iconst (v := 5) hx hb dX0_addAnswer_164 (by decide) ?_
                    refine lv_iconst (v := 0) hx hb dX0_addAnswer_165 (by decide) ?_
                    obtain ⟨fA_27, hu28, h⟩ := ob1_el h
                    refine kcVv (ci := 4) (q := (RX4, TX4, 3)) (ws1 := (w_X0_addAnswer cI cC h0 h1 h3 h5 h7 h9 h11 h2 h4 h6 h12 fR rR fA_27 rA_15 ri hd ln rnd)) ⟨hx, hb, hml, hown, hts⟩ [4, 5] [0, 1, 2, 3, 6, 7] (c_X4_put l D cI cC cE h5 h6 _ 320 fA_25 8 rA_15 r14 5 0 fA_27 hu28) (cwV 3 hts gX0_addAnswer_X4_put rfl rfl rfl (by decide +kernel) ⟨Nat.le_of_ble_eq_true rfl, Nat.le_of_ble_eq_true rfl⟩) hK hP hD hS hA rfl rfl rfl rfl rfl rfl rfl rfl rfl hl.1 rfl (Nat.le_of_ble_eq_true rfl) dX0_addAnswer_166 ⟨Nat.le_refl 0, Nat.le_refl 0⟩ (fun H locs hP hD hS => ?_)
                    refine lv_aload_n hx hb dX0_addAnswer_169 rfl (lv_at hl 1 rfl) ?_
                    refine va_get (ci := 0) (C := RX0) (T := TX0) (N := 7) hx hb hts hiX0 hown hK hP 0 rfl rfl 2 (by decide) (hts (.fieldLink RX0 23 "RiddleTrade$Exchange" "answers" "LRiddleTrade$Table;") (List.mem_of_getElem? (i := 3) rfl)) (fun _ h9 => h9) rfl dX0_addAnswer_170 ?_
                    refine lv_iload hx hb dX0_addAnswer_173 (lv_at hl 0 rfl) ?_
                    refine lv_bipush (v := 6) hx hb dX0_addAnswer_175 (by decide) ?_
                    refine lv_iconst (v := 0) hx hb dX0_addAnswer_177 (by decide) ?_
                    obtain ⟨fA_29, hu30, h⟩ := ob1_el h
                    refine kcVv (ci := 4) (q := (RX4, TX4, 3)) (ws1 := (w_X0_addAnswer cI cC h0 h1 h3 h5 h7 h9 h11 h2 h4 h6 h12 fR rR fA_29 rA_15 ri hd ln rnd)) ⟨hx, hb, hml, hown, hts⟩ [4, 5] [0, 1, 2, 3, 6, 7] (c_X4_put l D cI cC cE h5 h6 _ 320 fA_27 8 rA_15 r14 6 0 fA_29 hu30) (cwV 3 hts gX0_addAnswer_X4_put rfl rfl rfl (by decide +kernel) ⟨Nat.le_of_ble_eq_true rfl, Nat.le_of_ble_eq_true rfl⟩) hK hP hD hS hA rfl rfl rfl rfl rfl rfl rfl rfl rfl hl.1 rfl (Nat.le_of_ble_eq_true rfl) dX0_addAnswer_178 ⟨Nat.le_refl 0, Nat.le_refl 0⟩ (fun H locs hP hD hS => ?_)
                    refine lv_aload_n hx hb dX0_addAnswer_181 rfl (lv_at hl 1 rfl) ?_
                    refine va_get (ci := 0) (C := RX0) (T := TX0) (N := 7) hx hb hts hiX0 hown hK hP 0 rfl rfl 2 (by decide) (hts (.fieldLink RX0 23 "RiddleTrade$Exchange" "answers" "LRiddleTrade$Table;") (List.mem_of_getElem? (i := 3) rfl)) (fun _ h9 => h9) rfl dX0_addAnswer_182 ?_
                    refine lv_iload hx hb dX0_addAnswer_185 (lv_at hl 0 rfl) ?_
                    refine lv_bipush (v := 7) hx hb dX0_addAnswer_187 (by decide) ?_
                    refine lv_iconst (v := 0) hx hb dX0_addAnswer_189 (by decide) ?_
                    obtain ⟨fA_31, hu32, h⟩ := ob1_el h
                    refine kcVv (ci := 4) (q := (RX4, TX4, 3)) (ws1 := (w_X0_addAnswer cI cC h0 h1 h3 h5 h7 h9 h11 h2 h4 h6 h12 fR rR fA_31 rA_15 ri hd ln rnd)) ⟨hx, hb, hml, hown, hts⟩ [4, 5] [0, 1, 2, 3, 6, 7] (c_X4_put l D cI cC cE h5 h6 _ 320 fA_29 8 rA_15 r14 7 0 fA_31 hu32) (cwV 3 hts gX0_addAnswer_X4_put rfl rfl rfl (by decide +kernel) ⟨Nat.le_of_ble_eq_true rfl, Nat.le_of_ble_eq_true rfl⟩) hK hP hD hS hA rfl rfl rfl rfl rfl rfl rfl rfl rfl hl.1 rfl (Nat.le_of_ble_eq_true rfl) dX0_addAnswer_190 ⟨Nat.le_refl 0, Nat.le_refl 0⟩ (fun H locs hP hD hS => ?_)
                    refine lv_aload_n hx hb dX0_addAnswer_193 rfl (lv_at hl 1 rfl) ?_
                    refine va_get (ci := 0) (C := RX0) (T := TX0) (N := 7) hx hb hts hiX0 hown hK hP 0 rfl rfl 5 (by decide) (hts (.fieldLink RX0 35 "RiddleTrade$Exchange" "row" "LRiddleTrade$Row;") (List.mem_of_getElem? (i := 4) rfl)) (fun _ h9 => h9) rfl dX0_addAnswer_194 ?_
                    refine lv_iload hx hb dX0_addAnswer_197 (lv_at hl 0 rfl) ?_
                    obtain ⟨ri_33, ln_34, hu35, h⟩ := ob2_el h
                    refine kcVv (ci := 3) (q := (RX3, TX3, 3)) (ws1 := (w_X0_addAnswer cI cC h0 h1 h3 h5 h7 h9 h11 h2 h4 h6 h12 fR rR fA_31 rA_15 ri_33 hd ln_34 rnd)) ⟨hx, hb, hml, hown, hts⟩ [6, 7] [0, 1, 2, 3, 4, 5] (c_X3_addLast l D cI cC cE h11 h12 _ ri hd ln r14 ri_33 ln_34 hu35) (cwV 1 hts gX0_addAnswer_X3_addLast rfl rfl rfl (by decide +kernel) ⟨Nat.le_of_ble_eq_true rfl, Nat.le_of_ble_eq_true rfl⟩) hK hP hD hS hA rfl rfl rfl rfl rfl rfl rfl rfl rfl hl.1 rfl (Nat.le_of_ble_eq_true rfl) dX0_addAnswer_199 ⟨Nat.le_refl 0, Nat.le_refl 0⟩ (fun H locs hP hD hS => ?_)
                    refine lv_iload hx hb dX0_addAnswer_202 (lv_at hl 0 rfl) ?_
                    cases h
                    exact fin _ _ _ _ dX0_addAnswer_204 hP hD hS
                  · have h := (k_iB h).2 c13
                    refine lv_bipush (v := (-3)) hx hb dX0_addAnswer_90 (by decide) ?_
                    cases h
                    exact fin _ _ _ _ dX0_addAnswer_92 hP hD hS
                · have h := (k_iB h).1 c12
                  refine lv_bipush (v := (-4)) hx hb dX0_addAnswer_75 (by decide) ?_
                  cases h
                  exact fin _ _ _ _ dX0_addAnswer_77 hP hD hS
            · have h := (k_iB h).2 c6
              refine lv_bipush (v := (-2)) hx hb dX0_addAnswer_47 (by decide) ?_
              cases h
              exact fin _ _ _ _ dX0_addAnswer_49 hP hD hS
    · have h := (k_iB h).1 c2
      refine lv_iconst (v := (-1)) hx hb dX0_addAnswer_22 (by decide) ?_
      cases h
      exact fin _ _ _ _ dX0_addAnswer_23 hP hD hS
abbrev w_X0_setScalesRight (cI cC : ClassId) (h0 h1 h3 h5 h7 h9 h11 h8 : Nat) (fS : Nat → Int32) (rnd : Int32) : va_W := [(h0, .inr (0, [.ref h1, .ref h3, .ref h5, .ref h7, .ref h9, .ref h11, .int rnd])), (h7, .inr (4, [.ref h8, .int 2, .int 2])), (h8, .inl (cI, 4, .inl fS))]
def lp_X0_setScalesRight_4 : Nat → Int32 → Int32 → (Nat → Int32) → Option (Int32 × (Nat → Int32))
  | 0 => fun _ _ _ => none
  | k + 1 => fun x1 x2 fS =>
    if 2 ≤ x2 then (if x1 = 0 then (some ((-5), fS))
    else (some (x1, fS)))
    else (ob1 (d_X4_get 4 x2 0 fS 2) fun r3 =>
    ob1 (d_X4_put 4 x2 0 0 fS 2) fun fS_5 =>
    (lp_X0_setScalesRight_4   k) (x1 + (if 0 ≤ r3 then r3 else 0 - r3)) (x2 + 1) fS_5)
def d_X0_setScalesRight (fS : Nat → Int32) : Option (Int32 × (Nat → Int32)) :=
    lp_X0_setScalesRight_4   fuel 0 0 fS
set_option maxHeartbeats 4000000 in
set_option maxRecDepth 100000 in
theorem c_X0_setScalesRight (l : Launch) (D : va_G) (cI cC cE : ClassId) (h0 h1 h3 h5 h7 h9 h11 h8 : Nat) (sz : Nat) (fS : Nat → Int32) (rnd : Int32) (r0 : Int32) (o_fS : Nat → Int32) (h : d_X0_setScalesRight fS = some (r0, o_fS)) : Met l yX0_setScalesRight wsX0_setScalesRight ({ frames := 1, cells := 0, slots := 0, locals := 24 } : Room) (kP D (kT cI cC cE) [.ref h0] (w_X0_setScalesRight cI cC h0 h1 h3 h5 h7 h9 h11 h8 fS rnd) sz) (kQi D (kT cI cC cE) (w_X0_setScalesRight cI cC h0 h1 h3 h5 h7 h9 h11 h8 fS rnd) (w_X0_setScalesRight cI cC h0 h1 h3 h5 h7 h9 h11 h8 o_fS rnd) sz r0) 0 0 (va_A (w_X0_setScalesRight cI cC h0 h1 h3 h5 h7 h9 h11 h8 fS rnd) sz) := by
  refine kMetI (cc := cX0_setScalesRight) (maxL := 3) (own := RX0) (by decide) rfl (Nat.le_of_ble_eq_true rfl) rfl ?_
  intro p e s m below meth c A Q hx hb hml hown hts hP hK hD hA hS hname fin ls hl
  have hl : lv_has ls 3 [(0, .ref h0)] := hl
  have hiX0 : ∀ w ∈ u_ws RX0 TX0 7, w ∈ wsX0_setScalesRight := by decide +kernel
  have hL4 : ∀ (k : Nat), ∀ (x1 : Int32) (x2 : Int32) (fS : Nat → Int32) (H : Heap) (locs : List Loc), va_P D vwCl (w_X0_setScalesRight cI cC h0 h1 h3 h5 h7 h9 h11 h8 fS rnd) H → va_D A (w_X0_setScalesRight cI cC h0 h1 h3 h5 h7 h9 h11 h8 fS rnd) → va_S A s.heap H locs → ∀ (ls : Array Slot), lv_has ls 3 [(0, .ref h0), (1, .int x1), (2, .int x2)] → lp_X0_setScalesRight_4   k x1 x2 fS = some (r0, o_fS) → W p l e ({ frames := 1, cells := 0, slots := 0, locals := 24 } : Room) s m [.ref h0].toArray below meth c H locs 0 0 Q (F0 m 4 ls []) := by
    intro k
    induction k with
    | zero =>
      intro x1 x2 fS H locs hP hD hS ls hl h
      exact k_none h
    | succ k ih =>
      intro x1 x2 fS H locs hP hD hS ls hl h
      dsimp only [lp_X0_setScalesRight_4] at h
      refine lv_iload_n hx hb dX0_setScalesRight_4 rfl (lv_at hl 2 rfl) ?_
      refine lv_iconst (v := 2) hx hb dX0_setScalesRight_5 (by decide) ?_
      refine lv_icmp_ge (tgt := 40) hx hb dX0_setScalesRight_6 (by decide) (fun c1 => ?_) (fun c1 => ?_)
      · have h := (k_iB h).1 c1
        refine lv_iload_n hx hb dX0_setScalesRight_40 rfl (lv_at hl 1 rfl) ?_
        refine lv_if_ne (tgt := 49) hx hb dX0_setScalesRight_41 (by decide) (fun c2 => ?_) (fun c2 => ?_)
        · have h := (k_iB h).2 c2
          refine lv_iload_n hx hb dX0_setScalesRight_49 rfl (lv_at hl 1 rfl) ?_
          cases h
          exact fin _ _ _ _ dX0_setScalesRight_50 hP hD hS
        · have h := (k_iB h).1 c2
          refine lv_bipush (v := (-5)) hx hb dX0_setScalesRight_44 (by decide) ?_
          refine lv_goto (tgt := 50) hx hb dX0_setScalesRight_46 (by decide) ?_
          cases h
          exact fin _ _ _ _ dX0_setScalesRight_50 hP hD hS
      · have h := (k_iB h).2 c1
        refine lv_iload_n hx hb dX0_setScalesRight_9 rfl (lv_at hl 1 rfl) ?_
        refine lv_aload_n hx hb dX0_setScalesRight_10 rfl (lv_at hl 0 rfl) ?_
        refine va_get (ci := 0) (C := RX0) (T := TX0) (N := 7) hx hb hts hiX0 hown hK hP 0 rfl rfl 3 (by decide) (hts (.fieldLink RX0 26 "RiddleTrade$Exchange" "scales" "LRiddleTrade$Table;") (List.mem_of_getElem? (i := 1) rfl)) (fun _ h9 => h9) rfl dX0_setScalesRight_11 ?_
        refine lv_iload_n hx hb dX0_setScalesRight_14 rfl (lv_at hl 2 rfl) ?_
        refine lv_iconst (v := 0) hx hb dX0_setScalesRight_15 (by decide) ?_
        obtain ⟨r3, hu4, h⟩ := ob1_el h
        refine kcVi (ci := 4) (q := (RX4, TX4, 3)) (ws1 := (w_X0_setScalesRight cI cC h0 h1 h3 h5 h7 h9 h11 h8 fS rnd)) ⟨hx, hb, hml, hown, hts⟩ [1, 2] [0] (c_X4_get l D cI cC cE h7 h8 _ 4 fS 2 2 x2 0 r3 hu4) (cwV 2 hts gX0_setScalesRight_X4_get rfl rfl rfl (by decide +kernel) ⟨Nat.le_of_ble_eq_true rfl, Nat.le_of_ble_eq_true rfl⟩) hK hP hD hS hA rfl rfl rfl rfl rfl rfl rfl rfl rfl hl.1 rfl (Nat.le_of_ble_eq_true rfl) dX0_setScalesRight_16 ⟨Nat.le_refl 0, Nat.le_refl 0⟩ (fun H locs hP hD hS => ?_)
        refine va_mabs hx hb (hml.trans hl.1.symm) hown (hts _ (List.mem_of_getElem? (i := 2) rfl)) (hts _ (List.mem_of_getElem? (i := 3) rfl)) (hts _ (List.mem_of_getElem? (i := 4) rfl)) (hts _ (List.mem_of_getElem? (i := 5) rfl)) (Nat.le_of_ble_eq_true rfl) (Nat.le_of_ble_eq_true rfl) (Nat.le_refl 0) (Nat.le_refl 0) dX0_setScalesRight_19 ?_
        refine lv_iadd hx hb dX0_setScalesRight_22 ?_
        refine lv_istore_n (lv' := [(1, .int (x1 + (if 0 ≤ r3 then r3 else 0 - r3))), (0, .ref h0), (2, .int x2)]) hx hb dX0_setScalesRight_23 rfl hl (by decide) rfl (fun ls hl => ?_)
        refine lv_aload_n hx hb dX0_setScalesRight_24 rfl (lv_at hl 1 rfl) ?_
        refine va_get (ci := 0) (C := RX0) (T := TX0) (N := 7) hx hb hts hiX0 hown hK hP 0 rfl rfl 3 (by decide) (hts (.fieldLink RX0 26 "RiddleTrade$Exchange" "scales" "LRiddleTrade$Table;") (List.mem_of_getElem? (i := 1) rfl)) (fun _ h9 => h9) rfl dX0_setScalesRight_25 ?_
        refine lv_iload_n hx hb dX0_setScalesRight_28 rfl (lv_at hl 2 rfl) ?_
        refine lv_iconst (v := 0) hx hb dX0_setScalesRight_29 (by decide) ?_
        refine lv_iconst (v := 0) hx hb dX0_setScalesRight_30 (by decide) ?_
        obtain ⟨fS_5, hu6, h⟩ := ob1_el h
        refine kcVv (ci := 4) (q := (RX4, TX4, 3)) (ws1 := (w_X0_setScalesRight cI cC h0 h1 h3 h5 h7 h9 h11 h8 fS_5 rnd)) ⟨hx, hb, hml, hown, hts⟩ [1, 2] [0] (c_X4_put l D cI cC cE h7 h8 _ 4 fS 2 2 x2 0 0 fS_5 hu6) (cwV 3 hts gX0_setScalesRight_X4_put rfl rfl rfl (by decide +kernel) ⟨Nat.le_of_ble_eq_true rfl, Nat.le_of_ble_eq_true rfl⟩) hK hP hD hS hA rfl rfl rfl rfl rfl rfl rfl rfl rfl hl.1 rfl (Nat.le_of_ble_eq_true rfl) dX0_setScalesRight_31 ⟨Nat.le_refl 0, Nat.le_refl 0⟩ (fun H locs hP hD hS => ?_)
        refine lv_iinc (v := (x2 + 1)) (lv' := [(2, .int (x2 + 1)), (1, .int (x1 + (if 0 ≤ r3 then r3 else 0 - r3))), (0, .ref h0)]) hx hb dX0_setScalesRight_34 hl (k := 2) rfl rfl (by decide) rfl (fun ls hl => ?_)
        refine lv_goto (tgt := 4) hx hb dX0_setScalesRight_37 (by decide) ?_
        exact ih (x1 + (if 0 ≤ r3 then r3 else 0 - r3)) (x2 + 1) fS_5 _ _ hP hD hS _ (lv_sub hl [2, 1, 0] rfl) h
  dsimp only [d_X0_setScalesRight] at h
  refine lv_iconst (v := 0) hx hb dX0_setScalesRight_0 (by decide) ?_
  refine lv_istore_n (lv' := [(1, .int 0), (0, .ref h0)]) hx hb dX0_setScalesRight_1 rfl hl (by decide) rfl (fun ls hl => ?_)
  refine lv_iconst (v := 0) hx hb dX0_setScalesRight_2 (by decide) ?_
  refine lv_istore_n (lv' := [(2, .int 0), (1, .int 0), (0, .ref h0)]) hx hb dX0_setScalesRight_3 rfl hl (by decide) rfl (fun ls hl => ?_)
  exact hL4   fuel 0 0 fS _ _ hP hD hS _ (lv_sub hl [2, 1, 0] rfl) h
abbrev w_X0_changeSetting (cI cC : ClassId) (h0 h1 h3 h5 h7 h9 h11 h10 : Nat) (fE : Nat → Int32) (rnd : Int32) : va_W := [(h0, .inr (0, [.ref h1, .ref h3, .ref h5, .ref h7, .ref h9, .ref h11, .int rnd])), (h9, .inr (4, [.ref h10, .int 3, .int 4])), (h10, .inl (cI, 12, .inl fE))]
def d_X0_changeSetting (p1 : Int32) (p2 : Int32) (fE : Nat → Int32) : Option (Int32 × (Nat → Int32)) :=
    if (d_X4_has p1 4) = 0 then (some ((-1), fE))
    else (ob1 (d_X4_get 12 p1 1 fE 3) fun r2 =>
    if p2 < r2 then (some ((-2), fE))
    else (ob1 (d_X4_get 12 p1 2 fE 3) fun r5 =>
    if p2 ≤ r5 then (ob1 (d_X4_get 12 p1 0 fE 3) fun r8 =>
    if r8 = p2 then (some ((-5), fE))
    else (ob1 (d_X4_put 12 p1 0 p2 fE 3) fun fE_11 =>
    some (r8, fE_11)))
    else (some ((-2), fE))))
set_option maxHeartbeats 4000000 in
set_option maxRecDepth 100000 in
theorem c_X0_changeSetting (l : Launch) (D : va_G) (cI cC cE : ClassId) (h0 h1 h3 h5 h7 h9 h11 h10 : Nat) (sz : Nat) (fE : Nat → Int32) (rnd : Int32) (p1 : Int32) (p2 : Int32) (r0 : Int32) (o_fE : Nat → Int32) (h : d_X0_changeSetting p1 p2 fE = some (r0, o_fE)) : Met l yX0_changeSetting wsX0_changeSetting ({ frames := 1, cells := 0, slots := 0, locals := 24 } : Room) (kP D (kT cI cC cE) [.ref h0, .int p1, .int p2] (w_X0_changeSetting cI cC h0 h1 h3 h5 h7 h9 h11 h10 fE rnd) sz) (kQi D (kT cI cC cE) (w_X0_changeSetting cI cC h0 h1 h3 h5 h7 h9 h11 h10 fE rnd) (w_X0_changeSetting cI cC h0 h1 h3 h5 h7 h9 h11 h10 o_fE rnd) sz r0) 0 0 (va_A (w_X0_changeSetting cI cC h0 h1 h3 h5 h7 h9 h11 h10 fE rnd) sz) := by
  refine kMetI (cc := cX0_changeSetting) (maxL := 4) (own := RX0) (by decide) rfl (Nat.le_of_ble_eq_true rfl) rfl ?_
  intro p e s m below meth c A Q hx hb hml hown hts hP hK hD hA hS hname fin ls hl
  have hl : lv_has ls 4 [(0, .ref h0), (1, .int p1), (2, .int p2)] := hl
  have hiX0 : ∀ w ∈ u_ws RX0 TX0 7, w ∈ wsX0_changeSetting := by decide +kernel
  dsimp only [d_X0_changeSetting] at h
  refine lv_aload_n hx hb dX0_changeSetting_0 rfl (lv_at hl 0 rfl) ?_
  refine va_get (ci := 0) (C := RX0) (T := TX0) (N := 7) hx hb hts hiX0 hown hK hP 0 rfl rfl 4 (by decide) (hts (.fieldLink RX0 29 "RiddleTrade$Exchange" "settings" "LRiddleTrade$Table;") (List.mem_of_getElem? (i := 1) rfl)) (fun _ h9 => h9) rfl dX0_changeSetting_1 ?_
  refine lv_iload_n hx hb dX0_changeSetting_4 rfl (lv_at hl 1 rfl) ?_
  refine kcVi (ci := 4) (q := (RX4, TX4, 3)) (ws1 := (w_X0_changeSetting cI cC h0 h1 h3 h5 h7 h9 h11 h10 fE rnd)) ⟨hx, hb, hml, hown, hts⟩ [1] [0, 2] (c_X4_has l D cI cC cE h9 h10 _ 3 4 p1 (d_X4_has p1 4) rfl) (cwV 1 hts gX0_changeSetting_X4_has rfl rfl rfl (by decide +kernel) ⟨Nat.le_of_ble_eq_true rfl, Nat.le_of_ble_eq_true rfl⟩) hK hP hD hS hA rfl rfl rfl rfl rfl rfl rfl rfl rfl hl.1 rfl (Nat.le_of_ble_eq_true rfl) dX0_changeSetting_5 ⟨Nat.le_refl 0, Nat.le_refl 0⟩ (fun H locs hP hD hS => ?_)
  refine lv_if_ne (tgt := 13) hx hb dX0_changeSetting_8 (by decide) (fun c1 => ?_) (fun c1 => ?_)
  · have h := (k_iB h).2 c1
    refine lv_iload_n hx hb dX0_changeSetting_13 rfl (lv_at hl 2 rfl) ?_
    refine lv_aload_n hx hb dX0_changeSetting_14 rfl (lv_at hl 0 rfl) ?_
    refine va_get (ci := 0) (C := RX0) (T := TX0) (N := 7) hx hb hts hiX0 hown hK hP 0 rfl rfl 4 (by decide) (hts (.fieldLink RX0 29 "RiddleTrade$Exchange" "settings" "LRiddleTrade$Table;") (List.mem_of_getElem? (i := 1) rfl)) (fun _ h9 => h9) rfl dX0_changeSetting_15 ?_
    refine lv_iload_n hx hb dX0_changeSetting_18 rfl (lv_at hl 1 rfl) ?_
    refine lv_iconst (v := 1) hx hb dX0_changeSetting_19 (by decide) ?_
    obtain ⟨r2, hu3, h⟩ := ob1_el h
    refine kcVi (ci := 4) (q := (RX4, TX4, 3)) (ws1 := (w_X0_changeSetting cI cC h0 h1 h3 h5 h7 h9 h11 h10 fE rnd)) ⟨hx, hb, hml, hown, hts⟩ [1, 2] [0] (c_X4_get l D cI cC cE h9 h10 _ 12 fE 3 4 p1 1 r2 hu3) (cwV 2 hts gX0_changeSetting_X4_get rfl rfl rfl (by decide +kernel) ⟨Nat.le_of_ble_eq_true rfl, Nat.le_of_ble_eq_true rfl⟩) hK hP hD hS hA rfl rfl rfl rfl rfl rfl rfl rfl rfl hl.1 rfl (Nat.le_of_ble_eq_true rfl) dX0_changeSetting_20 ⟨Nat.le_refl 0, Nat.le_refl 0⟩ (fun H locs hP hD hS => ?_)
    refine lv_icmp_lt (tgt := 39) hx hb dX0_changeSetting_23 (by decide) (fun c4 => ?_) (fun c4 => ?_)
    · have h := (k_iB h).1 c4
      refine lv_bipush (v := (-2)) hx hb dX0_changeSetting_39 (by decide) ?_
      cases h
      exact fin _ _ _ _ dX0_changeSetting_41 hP hD hS
    · have h := (k_iB h).2 c4
      refine lv_iload_n hx hb dX0_changeSetting_26 rfl (lv_at hl 2 rfl) ?_
      refine lv_aload_n hx hb dX0_changeSetting_27 rfl (lv_at hl 0 rfl) ?_
      refine va_get (ci := 0) (C := RX0) (T := TX0) (N := 7) hx hb hts hiX0 hown hK hP 0 rfl rfl 4 (by decide) (hts (.fieldLink RX0 29 "RiddleTrade$Exchange" "settings" "LRiddleTrade$Table;") (List.mem_of_getElem? (i := 1) rfl)) (fun _ h9 => h9) rfl dX0_changeSetting_28 ?_
      refine lv_iload_n hx hb dX0_changeSetting_31 rfl (lv_at hl 1 rfl) ?_
      refine lv_iconst (v := 2) hx hb dX0_changeSetting_32 (by decide) ?_
      obtain ⟨r5, hu6, h⟩ := ob1_el h
      refine kcVi (ci := 4) (q := (RX4, TX4, 3)) (ws1 := (w_X0_changeSetting cI cC h0 h1 h3 h5 h7 h9 h11 h10 fE rnd)) ⟨hx, hb, hml, hown, hts⟩ [1, 2] [0] (c_X4_get l D cI cC cE h9 h10 _ 12 fE 3 4 p1 2 r5 hu6) (cwV 2 hts gX0_changeSetting_X4_get rfl rfl rfl (by decide +kernel) ⟨Nat.le_of_ble_eq_true rfl, Nat.le_of_ble_eq_true rfl⟩) hK hP hD hS hA rfl rfl rfl rfl rfl rfl rfl rfl rfl hl.1 rfl (Nat.le_of_ble_eq_true rfl) dX0_changeSetting_33 ⟨Nat.le_refl 0, Nat.le_refl 0⟩ (fun H locs hP hD hS => ?_)
      refine lv_icmp_le (tgt := 42) hx hb dX0_changeSetting_36 (by decide) (fun c7 => ?_) (fun c7 => ?_)
      · have h := (k_iB h).1 c7
        refine lv_aload_n hx hb dX0_changeSetting_42 rfl (lv_at hl 0 rfl) ?_
        refine va_get (ci := 0) (C := RX0) (T := TX0) (N := 7) hx hb hts hiX0 hown hK hP 0 rfl rfl 4 (by decide) (hts (.fieldLink RX0 29 "RiddleTrade$Exchange" "settings" "LRiddleTrade$Table;") (List.mem_of_getElem? (i := 1) rfl)) (fun _ h9 => h9) rfl dX0_changeSetting_43 ?_
        refine lv_iload_n hx hb dX0_changeSetting_46 rfl (lv_at hl 1 rfl) ?_
        refine lv_iconst (v := 0) hx hb dX0_changeSetting_47 (by decide) ?_
        obtain ⟨r8, hu9, h⟩ := ob1_el h
        refine kcVi (ci := 4) (q := (RX4, TX4, 3)) (ws1 := (w_X0_changeSetting cI cC h0 h1 h3 h5 h7 h9 h11 h10 fE rnd)) ⟨hx, hb, hml, hown, hts⟩ [1, 2] [0] (c_X4_get l D cI cC cE h9 h10 _ 12 fE 3 4 p1 0 r8 hu9) (cwV 2 hts gX0_changeSetting_X4_get rfl rfl rfl (by decide +kernel) ⟨Nat.le_of_ble_eq_true rfl, Nat.le_of_ble_eq_true rfl⟩) hK hP hD hS hA rfl rfl rfl rfl rfl rfl rfl rfl rfl hl.1 rfl (Nat.le_of_ble_eq_true rfl) dX0_changeSetting_48 ⟨Nat.le_refl 0, Nat.le_refl 0⟩ (fun H locs hP hD hS => ?_)
        refine lv_istore_n (lv' := [(3, .int r8), (0, .ref h0), (1, .int p1), (2, .int p2)]) hx hb dX0_changeSetting_51 rfl hl (by decide) rfl (fun ls hl => ?_)
        refine lv_iload_n hx hb dX0_changeSetting_52 rfl (lv_at hl 0 rfl) ?_
        refine lv_iload_n hx hb dX0_changeSetting_53 rfl (lv_at hl 3 rfl) ?_
        refine lv_icmp_ne (tgt := 60) hx hb dX0_changeSetting_54 (by decide) (fun c10 => ?_) (fun c10 => ?_)
        · have h := (k_iB h).2 c10
          refine lv_aload_n hx hb dX0_changeSetting_60 rfl (lv_at hl 1 rfl) ?_
          refine va_get (ci := 0) (C := RX0) (T := TX0) (N := 7) hx hb hts hiX0 hown hK hP 0 rfl rfl 4 (by decide) (hts (.fieldLink RX0 29 "RiddleTrade$Exchange" "settings" "LRiddleTrade$Table;") (List.mem_of_getElem? (i := 1) rfl)) (fun _ h9 => h9) rfl dX0_changeSetting_61 ?_
          refine lv_iload_n hx hb dX0_changeSetting_64 rfl (lv_at hl 2 rfl) ?_
          refine lv_iconst (v := 0) hx hb dX0_changeSetting_65 (by decide) ?_
          refine lv_iload_n hx hb dX0_changeSetting_66 rfl (lv_at hl 3 rfl) ?_
          obtain ⟨fE_11, hu12, h⟩ := ob1_el h
          refine kcVv (ci := 4) (q := (RX4, TX4, 3)) (ws1 := (w_X0_changeSetting cI cC h0 h1 h3 h5 h7 h9 h11 h10 fE_11 rnd)) ⟨hx, hb, hml, hown, hts⟩ [1, 2] [0] (c_X4_put l D cI cC cE h9 h10 _ 12 fE 3 4 p1 0 p2 fE_11 hu12) (cwV 3 hts gX0_changeSetting_X4_put rfl rfl rfl (by decide +kernel) ⟨Nat.le_of_ble_eq_true rfl, Nat.le_of_ble_eq_true rfl⟩) hK hP hD hS hA rfl rfl rfl rfl rfl rfl rfl rfl rfl hl.1 rfl (Nat.le_of_ble_eq_true rfl) dX0_changeSetting_67 ⟨Nat.le_refl 0, Nat.le_refl 0⟩ (fun H locs hP hD hS => ?_)
          refine lv_iload_n hx hb dX0_changeSetting_70 rfl (lv_at hl 0 rfl) ?_
          cases h
          exact fin _ _ _ _ dX0_changeSetting_71 hP hD hS
        · have h := (k_iB h).1 c10
          refine lv_bipush (v := (-5)) hx hb dX0_changeSetting_57 (by decide) ?_
          cases h
          exact fin _ _ _ _ dX0_changeSetting_59 hP hD hS
      · have h := (k_iB h).2 c7
        refine lv_bipush (v := (-2)) hx hb dX0_changeSetting_39 (by decide) ?_
        cases h
        exact fin _ _ _ _ dX0_changeSetting_41 hP hD hS
  · have h := (k_iB h).1 c1
    refine lv_iconst (v := (-1)) hx hb dX0_changeSetting_11 (by decide) ?_
    cases h
    exact fin _ _ _ _ dX0_changeSetting_12 hP hD hS
abbrev w_X0_tellTrader (cI cC : ClassId) (h0 h1 h3 h5 h7 h9 h11 h2 h4 h6 : Nat) (fT : Nat → Int32) (fR : Nat → Int32) (rR : Int32) (fA : Nat → Int32) (rA : Int32) (rnd : Int32) : va_W := [(h0, .inr (0, [.ref h1, .ref h3, .ref h5, .ref h7, .ref h9, .ref h11, .int rnd])), (h1, .inr (4, [.ref h2, .int 2, .int 8])), (h2, .inl (cI, 16, .inl fT)), (h3, .inr (4, [.ref h4, .int 4, .int rR])), (h4, .inl (cI, 80, .inl fR)), (h5, .inr (4, [.ref h6, .int 8, .int rA])), (h6, .inl (cI, 320, .inl fA))]
def d_X0_tellTrader (p1 : Int32) (p2 : Int32) (fT : Nat → Int32) (fR : Nat → Int32) (rR : Int32) (fA : Nat → Int32) (rA : Int32) : Option (Int32) :=
    if (d_X4_has p1 8) = 0 then (some (-1))
    else (if p2 = 0 then (ob1 (d_X4_get 16 p1 0 fT 2) fun r4 =>
    some (if 0 < (-r4) then (-r4) else 0))
    else (if p2 = 1 then (ob1 (d_X4_get 16 p1 0 fT 2) fun r7 =>
    some (if 0 < r7 then r7 else 0))
    else (if p2 = 2 then (ob1 (d_X4_countOf 80 0 p1 fR 4 rR) fun r10 =>
    some r10)
    else (if p2 = 3 then (ob1 (d_X4_countOfBoth 80 0 p1 3 1 fR 4 rR) fun r13 =>
    some r13)
    else (if p2 = 4 then (ob1 (d_X4_countOf 320 0 p1 fA 8 rA) fun r16 =>
    some r16)
    else (if p2 = 5 then (ob1 (d_X4_countOfBoth 320 0 p1 4 1 fA 8 rA) fun r19 =>
    some r19)
    else (if p2 = 6 then (ob1 (d_X4_countOfBoth 320 0 p1 4 2 fA 8 rA) fun r22 =>
    some r22)
    else (if p2 = 7 then (ob1 (d_X4_get 16 p1 1 fT 2) fun r25 =>
    some r25)
    else (some (-2))))))))))
set_option maxHeartbeats 4000000 in
set_option maxRecDepth 100000 in
theorem c_X0_tellTrader (l : Launch) (D : va_G) (cI cC cE : ClassId) (h0 h1 h3 h5 h7 h9 h11 h2 h4 h6 : Nat) (sz : Nat) (fT : Nat → Int32) (fR : Nat → Int32) (rR : Int32) (fA : Nat → Int32) (rA : Int32) (rnd : Int32) (p1 : Int32) (p2 : Int32) (r0 : Int32) (h : d_X0_tellTrader p1 p2 fT fR rR fA rA = some r0) : Met l yX0_tellTrader wsX0_tellTrader ({ frames := 2, cells := 0, slots := 0, locals := 49 } : Room) (kP D (kT cI cC cE) [.ref h0, .int p1, .int p2] (w_X0_tellTrader cI cC h0 h1 h3 h5 h7 h9 h11 h2 h4 h6 fT fR rR fA rA rnd) sz) (kQi D (kT cI cC cE) (w_X0_tellTrader cI cC h0 h1 h3 h5 h7 h9 h11 h2 h4 h6 fT fR rR fA rA rnd) (w_X0_tellTrader cI cC h0 h1 h3 h5 h7 h9 h11 h2 h4 h6 fT fR rR fA rA rnd) sz r0) 0 0 (va_A (w_X0_tellTrader cI cC h0 h1 h3 h5 h7 h9 h11 h2 h4 h6 fT fR rR fA rA rnd) sz) := by
  refine kMetI (cc := cX0_tellTrader) (maxL := 3) (own := RX0) (by decide) rfl (Nat.le_of_ble_eq_true rfl) rfl ?_
  intro p e s m below meth c A Q hx hb hml hown hts hP hK hD hA hS hname fin ls hl
  have hl : lv_has ls 3 [(0, .ref h0), (1, .int p1), (2, .int p2)] := hl
  have hiX0 : ∀ w ∈ u_ws RX0 TX0 7, w ∈ wsX0_tellTrader := by decide +kernel
  dsimp only [d_X0_tellTrader] at h
  refine lv_aload_n hx hb dX0_tellTrader_0 rfl (lv_at hl 0 rfl) ?_
  refine va_get (ci := 0) (C := RX0) (T := TX0) (N := 7) hx hb hts hiX0 hown hK hP 0 rfl rfl 0 (by decide) (hts (.fieldLink RX0 16 "RiddleTrade$Exchange" "traders" "LRiddleTrade$Table;") (List.mem_of_getElem? (i := 1) rfl)) (fun _ h9 => h9) rfl dX0_tellTrader_1 ?_
  refine lv_iload_n hx hb dX0_tellTrader_4 rfl (lv_at hl 1 rfl) ?_
  refine kcVi (ci := 4) (q := (RX4, TX4, 3)) (ws1 := (w_X0_tellTrader cI cC h0 h1 h3 h5 h7 h9 h11 h2 h4 h6 fT fR rR fA rA rnd)) ⟨hx, hb, hml, hown, hts⟩ [1] [0, 2, 3, 4, 5, 6] (c_X4_has l D cI cC cE h1 h2 _ 2 8 p1 (d_X4_has p1 8) rfl) (cwV 1 hts gX0_tellTrader_X4_has rfl rfl rfl (by decide +kernel) ⟨Nat.le_of_ble_eq_true rfl, Nat.le_of_ble_eq_true rfl⟩) hK hP hD hS hA rfl rfl rfl rfl rfl rfl rfl rfl rfl hl.1 rfl (Nat.le_of_ble_eq_true rfl) dX0_tellTrader_5 ⟨Nat.le_refl 0, Nat.le_refl 0⟩ (fun H locs hP hD hS => ?_)
  refine lv_if_ne (tgt := 13) hx hb dX0_tellTrader_8 (by decide) (fun c1 => ?_) (fun c1 => ?_)
  · have h := (k_iB h).2 c1
    refine lv_iload_n hx hb dX0_tellTrader_13 rfl (lv_at hl 2 rfl) ?_
    by_cases c3 : p2 = 0
    · have h := (k_iB h).1 c3
      refine lv_tableIn (off := 46) (tgt := 60) hx hb dX0_tellTrader_14 (by rw [c3]; decide) (by rw [c3]; decide) (by rw [c3]; rfl) (by decide) ?_
      refine lv_iconst (v := 0) hx hb dX0_tellTrader_60 (by decide) ?_
      refine lv_aload_n hx hb dX0_tellTrader_61 rfl (lv_at hl 0 rfl) ?_
      refine va_get (ci := 0) (C := RX0) (T := TX0) (N := 7) hx hb hts hiX0 hown hK hP 0 rfl rfl 0 (by decide) (hts (.fieldLink RX0 16 "RiddleTrade$Exchange" "traders" "LRiddleTrade$Table;") (List.mem_of_getElem? (i := 1) rfl)) (fun _ h9 => h9) rfl dX0_tellTrader_62 ?_
      refine lv_iload_n hx hb dX0_tellTrader_65 rfl (lv_at hl 1 rfl) ?_
      refine lv_iconst (v := 0) hx hb dX0_tellTrader_66 (by decide) ?_
      obtain ⟨r4, hu5, h⟩ := ob1_el h
      refine kcVi (ci := 4) (q := (RX4, TX4, 3)) (ws1 := (w_X0_tellTrader cI cC h0 h1 h3 h5 h7 h9 h11 h2 h4 h6 fT fR rR fA rA rnd)) ⟨hx, hb, hml, hown, hts⟩ [1, 2] [0, 3, 4, 5, 6] (c_X4_get l D cI cC cE h1 h2 _ 16 fT 2 8 p1 0 r4 hu5) (cwV 2 hts gX0_tellTrader_X4_get rfl rfl rfl (by decide +kernel) ⟨Nat.le_of_ble_eq_true rfl, Nat.le_of_ble_eq_true rfl⟩) hK hP hD hS hA rfl rfl rfl rfl rfl rfl rfl rfl rfl hl.1 rfl (Nat.le_of_ble_eq_true rfl) dX0_tellTrader_67 ⟨Nat.le_refl 0, Nat.le_refl 0⟩ (fun H locs hP hD hS => ?_)
      refine lv_ineg hx hb dX0_tellTrader_70 ?_
      refine va_mmax hx hb (hml.trans hl.1.symm) hown (hts _ (List.mem_of_getElem? (i := 2) rfl)) (hts _ (List.mem_of_getElem? (i := 3) rfl)) (hts _ (List.mem_of_getElem? (i := 4) rfl)) (hts _ (List.mem_of_getElem? (i := 5) rfl)) (Nat.le_of_ble_eq_true rfl) (Nat.le_of_ble_eq_true rfl) (Nat.le_refl 0) (Nat.le_refl 0) dX0_tellTrader_71 ?_
      cases h
      exact fin _ _ _ _ dX0_tellTrader_74 hP hD hS
    · have h := (k_iB h).2 c3
      by_cases c6 : p2 = 1
      · have h := (k_iB h).1 c6
        refine lv_tableIn (off := 61) (tgt := 75) hx hb dX0_tellTrader_14 (by rw [c6]; decide) (by rw [c6]; decide) (by rw [c6]; rfl) (by decide) ?_
        refine lv_iconst (v := 0) hx hb dX0_tellTrader_75 (by decide) ?_
        refine lv_aload_n hx hb dX0_tellTrader_76 rfl (lv_at hl 0 rfl) ?_
        refine va_get (ci := 0) (C := RX0) (T := TX0) (N := 7) hx hb hts hiX0 hown hK hP 0 rfl rfl 0 (by decide) (hts (.fieldLink RX0 16 "RiddleTrade$Exchange" "traders" "LRiddleTrade$Table;") (List.mem_of_getElem? (i := 1) rfl)) (fun _ h9 => h9) rfl dX0_tellTrader_77 ?_
        refine lv_iload_n hx hb dX0_tellTrader_80 rfl (lv_at hl 1 rfl) ?_
        refine lv_iconst (v := 0) hx hb dX0_tellTrader_81 (by decide) ?_
        obtain ⟨r7, hu8, h⟩ := ob1_el h
        refine kcVi (ci := 4) (q := (RX4, TX4, 3)) (ws1 := (w_X0_tellTrader cI cC h0 h1 h3 h5 h7 h9 h11 h2 h4 h6 fT fR rR fA rA rnd)) ⟨hx, hb, hml, hown, hts⟩ [1, 2] [0, 3, 4, 5, 6] (c_X4_get l D cI cC cE h1 h2 _ 16 fT 2 8 p1 0 r7 hu8) (cwV 2 hts gX0_tellTrader_X4_get rfl rfl rfl (by decide +kernel) ⟨Nat.le_of_ble_eq_true rfl, Nat.le_of_ble_eq_true rfl⟩) hK hP hD hS hA rfl rfl rfl rfl rfl rfl rfl rfl rfl hl.1 rfl (Nat.le_of_ble_eq_true rfl) dX0_tellTrader_82 ⟨Nat.le_refl 0, Nat.le_refl 0⟩ (fun H locs hP hD hS => ?_)
        refine va_mmax hx hb (hml.trans hl.1.symm) hown (hts _ (List.mem_of_getElem? (i := 2) rfl)) (hts _ (List.mem_of_getElem? (i := 3) rfl)) (hts _ (List.mem_of_getElem? (i := 4) rfl)) (hts _ (List.mem_of_getElem? (i := 5) rfl)) (Nat.le_of_ble_eq_true rfl) (Nat.le_of_ble_eq_true rfl) (Nat.le_refl 0) (Nat.le_refl 0) dX0_tellTrader_85 ?_
        cases h
        exact fin _ _ _ _ dX0_tellTrader_88 hP hD hS
      · have h := (k_iB h).2 c6
        by_cases c9 : p2 = 2
        · have h := (k_iB h).1 c9
          refine lv_tableIn (off := 75) (tgt := 89) hx hb dX0_tellTrader_14 (by rw [c9]; decide) (by rw [c9]; decide) (by rw [c9]; rfl) (by decide) ?_
          refine lv_aload_n hx hb dX0_tellTrader_89 rfl (lv_at hl 0 rfl) ?_
          refine va_get (ci := 0) (C := RX0) (T := TX0) (N := 7) hx hb hts hiX0 hown hK hP 0 rfl rfl 1 (by decide) (hts (.fieldLink RX0 20 "RiddleTrade$Exchange" "riddles" "LRiddleTrade$Table;") (List.mem_of_getElem? (i := 6) rfl)) (fun _ h9 => h9) rfl dX0_tellTrader_90 ?_
          refine lv_iconst (v := 0) hx hb dX0_tellTrader_93 (by decide) ?_
          refine lv_iload_n hx hb dX0_tellTrader_94 rfl (lv_at hl 1 rfl) ?_
          obtain ⟨r10, hu11, h⟩ := ob1_el h
          refine kcVi (ci := 4) (q := (RX4, TX4, 3)) (ws1 := (w_X0_tellTrader cI cC h0 h1 h3 h5 h7 h9 h11 h2 h4 h6 fT fR rR fA rA rnd)) ⟨hx, hb, hml, hown, hts⟩ [3, 4] [0, 1, 2, 5, 6] (c_X4_countOf l D cI cC cE h3 h4 _ 80 fR 4 rR 0 p1 r10 hu11) (cwV 2 hts gX0_tellTrader_X4_countOf rfl rfl rfl (by decide +kernel) ⟨Nat.le_of_ble_eq_true rfl, Nat.le_of_ble_eq_true rfl⟩) hK hP hD hS hA rfl rfl rfl rfl rfl rfl rfl rfl rfl hl.1 rfl (Nat.le_of_ble_eq_true rfl) dX0_tellTrader_95 ⟨Nat.le_refl 0, Nat.le_refl 0⟩ (fun H locs hP hD hS => ?_)
          cases h
          exact fin _ _ _ _ dX0_tellTrader_98 hP hD hS
        · have h := (k_iB h).2 c9
          by_cases c12 : p2 = 3
          · have h := (k_iB h).1 c12
            refine lv_tableIn (off := 85) (tgt := 99) hx hb dX0_tellTrader_14 (by rw [c12]; decide) (by rw [c12]; decide) (by rw [c12]; rfl) (by decide) ?_
            refine lv_aload_n hx hb dX0_tellTrader_99 rfl (lv_at hl 0 rfl) ?_
            refine va_get (ci := 0) (C := RX0) (T := TX0) (N := 7) hx hb hts hiX0 hown hK hP 0 rfl rfl 1 (by decide) (hts (.fieldLink RX0 20 "RiddleTrade$Exchange" "riddles" "LRiddleTrade$Table;") (List.mem_of_getElem? (i := 6) rfl)) (fun _ h9 => h9) rfl dX0_tellTrader_100 ?_
            refine lv_iconst (v := 0) hx hb dX0_tellTrader_103 (by decide) ?_
            refine lv_iload_n hx hb dX0_tellTrader_104 rfl (lv_at hl 1 rfl) ?_
            refine lv_iconst (v := 3) hx hb dX0_tellTrader_105 (by decide) ?_
            refine lv_iconst (v := 1) hx hb dX0_tellTrader_106 (by decide) ?_
            obtain ⟨r13, hu14, h⟩ := ob1_el h
            refine kcVi (ci := 4) (q := (RX4, TX4, 3)) (ws1 := (w_X0_tellTrader cI cC h0 h1 h3 h5 h7 h9 h11 h2 h4 h6 fT fR rR fA rA rnd)) ⟨hx, hb, hml, hown, hts⟩ [3, 4] [0, 1, 2, 5, 6] (c_X4_countOfBoth l D cI cC cE h3 h4 _ 80 fR 4 rR 0 p1 3 1 r13 hu14) (cwV 4 hts gX0_tellTrader_X4_countOfBoth rfl rfl rfl (by decide +kernel) ⟨Nat.le_of_ble_eq_true rfl, Nat.le_of_ble_eq_true rfl⟩) hK hP hD hS hA rfl rfl rfl rfl rfl rfl rfl rfl rfl hl.1 rfl (Nat.le_of_ble_eq_true rfl) dX0_tellTrader_107 ⟨Nat.le_refl 0, Nat.le_refl 0⟩ (fun H locs hP hD hS => ?_)
            cases h
            exact fin _ _ _ _ dX0_tellTrader_110 hP hD hS
          · have h := (k_iB h).2 c12
            by_cases c15 : p2 = 4
            · have h := (k_iB h).1 c15
              refine lv_tableIn (off := 97) (tgt := 111) hx hb dX0_tellTrader_14 (by rw [c15]; decide) (by rw [c15]; decide) (by rw [c15]; rfl) (by decide) ?_
              refine lv_aload_n hx hb dX0_tellTrader_111 rfl (lv_at hl 0 rfl) ?_
              refine va_get (ci := 0) (C := RX0) (T := TX0) (N := 7) hx hb hts hiX0 hown hK hP 0 rfl rfl 2 (by decide) (hts (.fieldLink RX0 23 "RiddleTrade$Exchange" "answers" "LRiddleTrade$Table;") (List.mem_of_getElem? (i := 7) rfl)) (fun _ h9 => h9) rfl dX0_tellTrader_112 ?_
              refine lv_iconst (v := 0) hx hb dX0_tellTrader_115 (by decide) ?_
              refine lv_iload_n hx hb dX0_tellTrader_116 rfl (lv_at hl 1 rfl) ?_
              obtain ⟨r16, hu17, h⟩ := ob1_el h
              refine kcVi (ci := 4) (q := (RX4, TX4, 3)) (ws1 := (w_X0_tellTrader cI cC h0 h1 h3 h5 h7 h9 h11 h2 h4 h6 fT fR rR fA rA rnd)) ⟨hx, hb, hml, hown, hts⟩ [5, 6] [0, 1, 2, 3, 4] (c_X4_countOf l D cI cC cE h5 h6 _ 320 fA 8 rA 0 p1 r16 hu17) (cwV 2 hts gX0_tellTrader_X4_countOf rfl rfl rfl (by decide +kernel) ⟨Nat.le_of_ble_eq_true rfl, Nat.le_of_ble_eq_true rfl⟩) hK hP hD hS hA rfl rfl rfl rfl rfl rfl rfl rfl rfl hl.1 rfl (Nat.le_of_ble_eq_true rfl) dX0_tellTrader_117 ⟨Nat.le_refl 0, Nat.le_refl 0⟩ (fun H locs hP hD hS => ?_)
              cases h
              exact fin _ _ _ _ dX0_tellTrader_120 hP hD hS
            · have h := (k_iB h).2 c15
              by_cases c18 : p2 = 5
              · have h := (k_iB h).1 c18
                refine lv_tableIn (off := 107) (tgt := 121) hx hb dX0_tellTrader_14 (by rw [c18]; decide) (by rw [c18]; decide) (by rw [c18]; rfl) (by decide) ?_
                refine lv_aload_n hx hb dX0_tellTrader_121 rfl (lv_at hl 0 rfl) ?_
                refine va_get (ci := 0) (C := RX0) (T := TX0) (N := 7) hx hb hts hiX0 hown hK hP 0 rfl rfl 2 (by decide) (hts (.fieldLink RX0 23 "RiddleTrade$Exchange" "answers" "LRiddleTrade$Table;") (List.mem_of_getElem? (i := 7) rfl)) (fun _ h9 => h9) rfl dX0_tellTrader_122 ?_
                refine lv_iconst (v := 0) hx hb dX0_tellTrader_125 (by decide) ?_
                refine lv_iload_n hx hb dX0_tellTrader_126 rfl (lv_at hl 1 rfl) ?_
                refine lv_iconst (v := 4) hx hb dX0_tellTrader_127 (by decide) ?_
                refine lv_iconst (v := 1) hx hb dX0_tellTrader_128 (by decide) ?_
                obtain ⟨r19, hu20, h⟩ := ob1_el h
                refine kcVi (ci := 4) (q := (RX4, TX4, 3)) (ws1 := (w_X0_tellTrader cI cC h0 h1 h3 h5 h7 h9 h11 h2 h4 h6 fT fR rR fA rA rnd)) ⟨hx, hb, hml, hown, hts⟩ [5, 6] [0, 1, 2, 3, 4] (c_X4_countOfBoth l D cI cC cE h5 h6 _ 320 fA 8 rA 0 p1 4 1 r19 hu20) (cwV 4 hts gX0_tellTrader_X4_countOfBoth rfl rfl rfl (by decide +kernel) ⟨Nat.le_of_ble_eq_true rfl, Nat.le_of_ble_eq_true rfl⟩) hK hP hD hS hA rfl rfl rfl rfl rfl rfl rfl rfl rfl hl.1 rfl (Nat.le_of_ble_eq_true rfl) dX0_tellTrader_129 ⟨Nat.le_refl 0, Nat.le_refl 0⟩ (fun H locs hP hD hS => ?_)
                cases h
                exact fin _ _ _ _ dX0_tellTrader_132 hP hD hS
              · have h := (k_iB h).2 c18
                by_cases c21 : p2 = 6
                · have h := (k_iB h).1 c21
                  refine lv_tableIn (off := 119) (tgt := 133) hx hb dX0_tellTrader_14 (by rw [c21]; decide) (by rw [c21]; decide) (by rw [c21]; rfl) (by decide) ?_
                  refine lv_aload_n hx hb dX0_tellTrader_133 rfl (lv_at hl 0 rfl) ?_
                  refine va_get (ci := 0) (C := RX0) (T := TX0) (N := 7) hx hb hts hiX0 hown hK hP 0 rfl rfl 2 (by decide) (hts (.fieldLink RX0 23 "RiddleTrade$Exchange" "answers" "LRiddleTrade$Table;") (List.mem_of_getElem? (i := 7) rfl)) (fun _ h9 => h9) rfl dX0_tellTrader_134 ?_
                  refine lv_iconst (v := 0) hx hb dX0_tellTrader_137 (by decide) ?_
                  refine lv_iload_n hx hb dX0_tellTrader_138 rfl (lv_at hl 1 rfl) ?_
                  refine lv_iconst (v := 4) hx hb dX0_tellTrader_139 (by decide) ?_
                  refine lv_iconst (v := 2) hx hb dX0_tellTrader_140 (by decide) ?_
                  obtain ⟨r22, hu23, h⟩ := ob1_el h
                  refine kcVi (ci := 4) (q := (RX4, TX4, 3)) (ws1 := (w_X0_tellTrader cI cC h0 h1 h3 h5 h7 h9 h11 h2 h4 h6 fT fR rR fA rA rnd)) ⟨hx, hb, hml, hown, hts⟩ [5, 6] [0, 1, 2, 3, 4] (c_X4_countOfBoth l D cI cC cE h5 h6 _ 320 fA 8 rA 0 p1 4 2 r22 hu23) (cwV 4 hts gX0_tellTrader_X4_countOfBoth rfl rfl rfl (by decide +kernel) ⟨Nat.le_of_ble_eq_true rfl, Nat.le_of_ble_eq_true rfl⟩) hK hP hD hS hA rfl rfl rfl rfl rfl rfl rfl rfl rfl hl.1 rfl (Nat.le_of_ble_eq_true rfl) dX0_tellTrader_141 ⟨Nat.le_refl 0, Nat.le_refl 0⟩ (fun H locs hP hD hS => ?_)
                  cases h
                  exact fin _ _ _ _ dX0_tellTrader_144 hP hD hS
                · have h := (k_iB h).2 c21
                  by_cases c24 : p2 = 7
                  · have h := (k_iB h).1 c24
                    refine lv_tableIn (off := 131) (tgt := 145) hx hb dX0_tellTrader_14 (by rw [c24]; decide) (by rw [c24]; decide) (by rw [c24]; rfl) (by decide) ?_
                    refine lv_aload_n hx hb dX0_tellTrader_145 rfl (lv_at hl 0 rfl) ?_
                    refine va_get (ci := 0) (C := RX0) (T := TX0) (N := 7) hx hb hts hiX0 hown hK hP 0 rfl rfl 0 (by decide) (hts (.fieldLink RX0 16 "RiddleTrade$Exchange" "traders" "LRiddleTrade$Table;") (List.mem_of_getElem? (i := 1) rfl)) (fun _ h9 => h9) rfl dX0_tellTrader_146 ?_
                    refine lv_iload_n hx hb dX0_tellTrader_149 rfl (lv_at hl 1 rfl) ?_
                    refine lv_iconst (v := 1) hx hb dX0_tellTrader_150 (by decide) ?_
                    obtain ⟨r25, hu26, h⟩ := ob1_el h
                    refine kcVi (ci := 4) (q := (RX4, TX4, 3)) (ws1 := (w_X0_tellTrader cI cC h0 h1 h3 h5 h7 h9 h11 h2 h4 h6 fT fR rR fA rA rnd)) ⟨hx, hb, hml, hown, hts⟩ [1, 2] [0, 3, 4, 5, 6] (c_X4_get l D cI cC cE h1 h2 _ 16 fT 2 8 p1 1 r25 hu26) (cwV 2 hts gX0_tellTrader_X4_get rfl rfl rfl (by decide +kernel) ⟨Nat.le_of_ble_eq_true rfl, Nat.le_of_ble_eq_true rfl⟩) hK hP hD hS hA rfl rfl rfl rfl rfl rfl rfl rfl rfl hl.1 rfl (Nat.le_of_ble_eq_true rfl) dX0_tellTrader_151 ⟨Nat.le_refl 0, Nat.le_refl 0⟩ (fun H locs hP hD hS => ?_)
                    cases h
                    exact fin _ _ _ _ dX0_tellTrader_154 hP hD hS
                  · have h := (k_iB h).2 c24
                    refine lv_tableOut (tgt := 155) hx hb dX0_tellTrader_14 (by have zc3 := lv_neT c3 (show ((0 : Int32)).toInt = 0 from rfl); have zc6 := lv_neT c6 (show ((1 : Int32)).toInt = 1 from rfl); have zc9 := lv_neT c9 (show ((2 : Int32)).toInt = 2 from rfl); have zc12 := lv_neT c12 (show ((3 : Int32)).toInt = 3 from rfl); have zc15 := lv_neT c15 (show ((4 : Int32)).toInt = 4 from rfl); have zc18 := lv_neT c18 (show ((5 : Int32)).toInt = 5 from rfl); have zc21 := lv_neT c21 (show ((6 : Int32)).toInt = 6 from rfl); have zc24 := lv_neT c24 (show ((7 : Int32)).toInt = 7 from rfl); omega) (by decide) ?_
                    refine lv_bipush (v := (-2)) hx hb dX0_tellTrader_155 (by decide) ?_
                    cases h
                    exact fin _ _ _ _ dX0_tellTrader_157 hP hD hS
  · have h := (k_iB h).1 c1
    refine lv_iconst (v := (-1)) hx hb dX0_tellTrader_11 (by decide) ?_
    cases h
    exact fin _ _ _ _ dX0_tellTrader_12 hP hD hS
abbrev w_X0_tellRiddle (cI cC : ClassId) (h0 h1 h3 h5 h7 h9 h11 h4 h6 : Nat) (fR : Nat → Int32) (rR : Int32) (fA : Nat → Int32) (rA : Int32) (rnd : Int32) : va_W := [(h0, .inr (0, [.ref h1, .ref h3, .ref h5, .ref h7, .ref h9, .ref h11, .int rnd])), (h3, .inr (4, [.ref h4, .int 4, .int rR])), (h4, .inl (cI, 80, .inl fR)), (h5, .inr (4, [.ref h6, .int 8, .int rA])), (h6, .inl (cI, 320, .inl fA))]
def d_X0_tellRiddle (p1 : Int32) (p2 : Int32) (fR : Nat → Int32) (rR : Int32) (fA : Nat → Int32) (rA : Int32) : Option (Int32) :=
    if (d_X4_has p1 rR) = 0 then (some (-1))
    else (if p2 = 0 then (ob1 (d_X4_get 80 p1 p2 fR 4) fun r4 =>
    some r4)
    else (if p2 = 1 then (ob1 (d_X4_get 80 p1 p2 fR 4) fun r7 =>
    some r7)
    else (if p2 = 2 then (ob1 (d_X4_get 80 p1 p2 fR 4) fun r10 =>
    some r10)
    else (if p2 = 3 then (ob1 (d_X4_get 80 p1 p2 fR 4) fun r13 =>
    some r13)
    else (if p2 = 4 then (ob1 (d_X4_countOf 320 1 p1 fA 8 rA) fun r16 =>
    some r16)
    else (if p2 = 5 then (ob1 (d_X4_countOfBoth 320 1 p1 4 0 fA 8 rA) fun r19 =>
    some r19)
    else (if p2 = 6 then (ob1 (d_X4_rowOfBoth 320 1 p1 4 1 fA 8 rA) fun r22 =>
    some r22)
    else (some (-2)))))))))
set_option maxHeartbeats 4000000 in
set_option maxRecDepth 100000 in
theorem c_X0_tellRiddle (l : Launch) (D : va_G) (cI cC cE : ClassId) (h0 h1 h3 h5 h7 h9 h11 h4 h6 : Nat) (sz : Nat) (fR : Nat → Int32) (rR : Int32) (fA : Nat → Int32) (rA : Int32) (rnd : Int32) (p1 : Int32) (p2 : Int32) (r0 : Int32) (h : d_X0_tellRiddle p1 p2 fR rR fA rA = some r0) : Met l yX0_tellRiddle wsX0_tellRiddle ({ frames := 2, cells := 0, slots := 0, locals := 49 } : Room) (kP D (kT cI cC cE) [.ref h0, .int p1, .int p2] (w_X0_tellRiddle cI cC h0 h1 h3 h5 h7 h9 h11 h4 h6 fR rR fA rA rnd) sz) (kQi D (kT cI cC cE) (w_X0_tellRiddle cI cC h0 h1 h3 h5 h7 h9 h11 h4 h6 fR rR fA rA rnd) (w_X0_tellRiddle cI cC h0 h1 h3 h5 h7 h9 h11 h4 h6 fR rR fA rA rnd) sz r0) 0 0 (va_A (w_X0_tellRiddle cI cC h0 h1 h3 h5 h7 h9 h11 h4 h6 fR rR fA rA rnd) sz) := by
  refine kMetI (cc := cX0_tellRiddle) (maxL := 3) (own := RX0) (by decide) rfl (Nat.le_of_ble_eq_true rfl) rfl ?_
  intro p e s m below meth c A Q hx hb hml hown hts hP hK hD hA hS hname fin ls hl
  have hl : lv_has ls 3 [(0, .ref h0), (1, .int p1), (2, .int p2)] := hl
  have hiX0 : ∀ w ∈ u_ws RX0 TX0 7, w ∈ wsX0_tellRiddle := by decide +kernel
  dsimp only [d_X0_tellRiddle] at h
  refine lv_aload_n hx hb dX0_tellRiddle_0 rfl (lv_at hl 0 rfl) ?_
  refine va_get (ci := 0) (C := RX0) (T := TX0) (N := 7) hx hb hts hiX0 hown hK hP 0 rfl rfl 1 (by decide) (hts (.fieldLink RX0 20 "RiddleTrade$Exchange" "riddles" "LRiddleTrade$Table;") (List.mem_of_getElem? (i := 1) rfl)) (fun _ h9 => h9) rfl dX0_tellRiddle_1 ?_
  refine lv_iload_n hx hb dX0_tellRiddle_4 rfl (lv_at hl 1 rfl) ?_
  refine kcVi (ci := 4) (q := (RX4, TX4, 3)) (ws1 := (w_X0_tellRiddle cI cC h0 h1 h3 h5 h7 h9 h11 h4 h6 fR rR fA rA rnd)) ⟨hx, hb, hml, hown, hts⟩ [1] [0, 2, 3, 4] (c_X4_has l D cI cC cE h3 h4 _ 4 rR p1 (d_X4_has p1 rR) rfl) (cwV 1 hts gX0_tellRiddle_X4_has rfl rfl rfl (by decide +kernel) ⟨Nat.le_of_ble_eq_true rfl, Nat.le_of_ble_eq_true rfl⟩) hK hP hD hS hA rfl rfl rfl rfl rfl rfl rfl rfl rfl hl.1 rfl (Nat.le_of_ble_eq_true rfl) dX0_tellRiddle_5 ⟨Nat.le_refl 0, Nat.le_refl 0⟩ (fun H locs hP hD hS => ?_)
  refine lv_if_ne (tgt := 13) hx hb dX0_tellRiddle_8 (by decide) (fun c1 => ?_) (fun c1 => ?_)
  · have h := (k_iB h).2 c1
    refine lv_iload_n hx hb dX0_tellRiddle_13 rfl (lv_at hl 2 rfl) ?_
    by_cases c3 : p2 = 0
    · have h := (k_iB h).1 c3
      refine lv_tableIn (off := 42) (tgt := 56) hx hb dX0_tellRiddle_14 (by rw [c3]; decide) (by rw [c3]; decide) (by rw [c3]; rfl) (by decide) ?_
      refine lv_aload_n hx hb dX0_tellRiddle_56 rfl (lv_at hl 0 rfl) ?_
      refine va_get (ci := 0) (C := RX0) (T := TX0) (N := 7) hx hb hts hiX0 hown hK hP 0 rfl rfl 1 (by decide) (hts (.fieldLink RX0 20 "RiddleTrade$Exchange" "riddles" "LRiddleTrade$Table;") (List.mem_of_getElem? (i := 1) rfl)) (fun _ h9 => h9) rfl dX0_tellRiddle_57 ?_
      refine lv_iload_n hx hb dX0_tellRiddle_60 rfl (lv_at hl 1 rfl) ?_
      refine lv_iload_n hx hb dX0_tellRiddle_61 rfl (lv_at hl 2 rfl) ?_
      obtain ⟨r4, hu5, h⟩ := ob1_el h
      refine kcVi (ci := 4) (q := (RX4, TX4, 3)) (ws1 := (w_X0_tellRiddle cI cC h0 h1 h3 h5 h7 h9 h11 h4 h6 fR rR fA rA rnd)) ⟨hx, hb, hml, hown, hts⟩ [1, 2] [0, 3, 4] (c_X4_get l D cI cC cE h3 h4 _ 80 fR 4 rR p1 p2 r4 hu5) (cwV 2 hts gX0_tellRiddle_X4_get rfl rfl rfl (by decide +kernel) ⟨Nat.le_of_ble_eq_true rfl, Nat.le_of_ble_eq_true rfl⟩) hK hP hD hS hA rfl rfl rfl rfl rfl rfl rfl rfl rfl hl.1 rfl (Nat.le_of_ble_eq_true rfl) dX0_tellRiddle_62 ⟨Nat.le_refl 0, Nat.le_refl 0⟩ (fun H locs hP hD hS => ?_)
      cases h
      exact fin _ _ _ _ dX0_tellRiddle_65 hP hD hS
    · have h := (k_iB h).2 c3
      by_cases c6 : p2 = 1
      · have h := (k_iB h).1 c6
        refine lv_tableIn (off := 42) (tgt := 56) hx hb dX0_tellRiddle_14 (by rw [c6]; decide) (by rw [c6]; decide) (by rw [c6]; rfl) (by decide) ?_
        refine lv_aload_n hx hb dX0_tellRiddle_56 rfl (lv_at hl 0 rfl) ?_
        refine va_get (ci := 0) (C := RX0) (T := TX0) (N := 7) hx hb hts hiX0 hown hK hP 0 rfl rfl 1 (by decide) (hts (.fieldLink RX0 20 "RiddleTrade$Exchange" "riddles" "LRiddleTrade$Table;") (List.mem_of_getElem? (i := 1) rfl)) (fun _ h9 => h9) rfl dX0_tellRiddle_57 ?_
        refine lv_iload_n hx hb dX0_tellRiddle_60 rfl (lv_at hl 1 rfl) ?_
        refine lv_iload_n hx hb dX0_tellRiddle_61 rfl (lv_at hl 2 rfl) ?_
        obtain ⟨r7, hu8, h⟩ := ob1_el h
        refine kcVi (ci := 4) (q := (RX4, TX4, 3)) (ws1 := (w_X0_tellRiddle cI cC h0 h1 h3 h5 h7 h9 h11 h4 h6 fR rR fA rA rnd)) ⟨hx, hb, hml, hown, hts⟩ [1, 2] [0, 3, 4] (c_X4_get l D cI cC cE h3 h4 _ 80 fR 4 rR p1 p2 r7 hu8) (cwV 2 hts gX0_tellRiddle_X4_get rfl rfl rfl (by decide +kernel) ⟨Nat.le_of_ble_eq_true rfl, Nat.le_of_ble_eq_true rfl⟩) hK hP hD hS hA rfl rfl rfl rfl rfl rfl rfl rfl rfl hl.1 rfl (Nat.le_of_ble_eq_true rfl) dX0_tellRiddle_62 ⟨Nat.le_refl 0, Nat.le_refl 0⟩ (fun H locs hP hD hS => ?_)
        cases h
        exact fin _ _ _ _ dX0_tellRiddle_65 hP hD hS
      · have h := (k_iB h).2 c6
        by_cases c9 : p2 = 2
        · have h := (k_iB h).1 c9
          refine lv_tableIn (off := 42) (tgt := 56) hx hb dX0_tellRiddle_14 (by rw [c9]; decide) (by rw [c9]; decide) (by rw [c9]; rfl) (by decide) ?_
          refine lv_aload_n hx hb dX0_tellRiddle_56 rfl (lv_at hl 0 rfl) ?_
          refine va_get (ci := 0) (C := RX0) (T := TX0) (N := 7) hx hb hts hiX0 hown hK hP 0 rfl rfl 1 (by decide) (hts (.fieldLink RX0 20 "RiddleTrade$Exchange" "riddles" "LRiddleTrade$Table;") (List.mem_of_getElem? (i := 1) rfl)) (fun _ h9 => h9) rfl dX0_tellRiddle_57 ?_
          refine lv_iload_n hx hb dX0_tellRiddle_60 rfl (lv_at hl 1 rfl) ?_
          refine lv_iload_n hx hb dX0_tellRiddle_61 rfl (lv_at hl 2 rfl) ?_
          obtain ⟨r10, hu11, h⟩ := ob1_el h
          refine kcVi (ci := 4) (q := (RX4, TX4, 3)) (ws1 := (w_X0_tellRiddle cI cC h0 h1 h3 h5 h7 h9 h11 h4 h6 fR rR fA rA rnd)) ⟨hx, hb, hml, hown, hts⟩ [1, 2] [0, 3, 4] (c_X4_get l D cI cC cE h3 h4 _ 80 fR 4 rR p1 p2 r10 hu11) (cwV 2 hts gX0_tellRiddle_X4_get rfl rfl rfl (by decide +kernel) ⟨Nat.le_of_ble_eq_true rfl, Nat.le_of_ble_eq_true rfl⟩) hK hP hD hS hA rfl rfl rfl rfl rfl rfl rfl rfl rfl hl.1 rfl (Nat.le_of_ble_eq_true rfl) dX0_tellRiddle_62 ⟨Nat.le_refl 0, Nat.le_refl 0⟩ (fun H locs hP hD hS => ?_)
          cases h
          exact fin _ _ _ _ dX0_tellRiddle_65 hP hD hS
        · have h := (k_iB h).2 c9
          by_cases c12 : p2 = 3
          · have h := (k_iB h).1 c12
            refine lv_tableIn (off := 42) (tgt := 56) hx hb dX0_tellRiddle_14 (by rw [c12]; decide) (by rw [c12]; decide) (by rw [c12]; rfl) (by decide) ?_
            refine lv_aload_n hx hb dX0_tellRiddle_56 rfl (lv_at hl 0 rfl) ?_
            refine va_get (ci := 0) (C := RX0) (T := TX0) (N := 7) hx hb hts hiX0 hown hK hP 0 rfl rfl 1 (by decide) (hts (.fieldLink RX0 20 "RiddleTrade$Exchange" "riddles" "LRiddleTrade$Table;") (List.mem_of_getElem? (i := 1) rfl)) (fun _ h9 => h9) rfl dX0_tellRiddle_57 ?_
            refine lv_iload_n hx hb dX0_tellRiddle_60 rfl (lv_at hl 1 rfl) ?_
            refine lv_iload_n hx hb dX0_tellRiddle_61 rfl (lv_at hl 2 rfl) ?_
            obtain ⟨r13, hu14, h⟩ := ob1_el h
            refine kcVi (ci := 4) (q := (RX4, TX4, 3)) (ws1 := (w_X0_tellRiddle cI cC h0 h1 h3 h5 h7 h9 h11 h4 h6 fR rR fA rA rnd)) ⟨hx, hb, hml, hown, hts⟩ [1, 2] [0, 3, 4] (c_X4_get l D cI cC cE h3 h4 _ 80 fR 4 rR p1 p2 r13 hu14) (cwV 2 hts gX0_tellRiddle_X4_get rfl rfl rfl (by decide +kernel) ⟨Nat.le_of_ble_eq_true rfl, Nat.le_of_ble_eq_true rfl⟩) hK hP hD hS hA rfl rfl rfl rfl rfl rfl rfl rfl rfl hl.1 rfl (Nat.le_of_ble_eq_true rfl) dX0_tellRiddle_62 ⟨Nat.le_refl 0, Nat.le_refl 0⟩ (fun H locs hP hD hS => ?_)
            cases h
            exact fin _ _ _ _ dX0_tellRiddle_65 hP hD hS
          · have h := (k_iB h).2 c12
            by_cases c15 : p2 = 4
            · have h := (k_iB h).1 c15
              refine lv_tableIn (off := 52) (tgt := 66) hx hb dX0_tellRiddle_14 (by rw [c15]; decide) (by rw [c15]; decide) (by rw [c15]; rfl) (by decide) ?_
              refine lv_aload_n hx hb dX0_tellRiddle_66 rfl (lv_at hl 0 rfl) ?_
              refine va_get (ci := 0) (C := RX0) (T := TX0) (N := 7) hx hb hts hiX0 hown hK hP 0 rfl rfl 2 (by decide) (hts (.fieldLink RX0 23 "RiddleTrade$Exchange" "answers" "LRiddleTrade$Table;") (List.mem_of_getElem? (i := 2) rfl)) (fun _ h9 => h9) rfl dX0_tellRiddle_67 ?_
              refine lv_iconst (v := 1) hx hb dX0_tellRiddle_70 (by decide) ?_
              refine lv_iload_n hx hb dX0_tellRiddle_71 rfl (lv_at hl 1 rfl) ?_
              obtain ⟨r16, hu17, h⟩ := ob1_el h
              refine kcVi (ci := 4) (q := (RX4, TX4, 3)) (ws1 := (w_X0_tellRiddle cI cC h0 h1 h3 h5 h7 h9 h11 h4 h6 fR rR fA rA rnd)) ⟨hx, hb, hml, hown, hts⟩ [3, 4] [0, 1, 2] (c_X4_countOf l D cI cC cE h5 h6 _ 320 fA 8 rA 1 p1 r16 hu17) (cwV 2 hts gX0_tellRiddle_X4_countOf rfl rfl rfl (by decide +kernel) ⟨Nat.le_of_ble_eq_true rfl, Nat.le_of_ble_eq_true rfl⟩) hK hP hD hS hA rfl rfl rfl rfl rfl rfl rfl rfl rfl hl.1 rfl (Nat.le_of_ble_eq_true rfl) dX0_tellRiddle_72 ⟨Nat.le_refl 0, Nat.le_refl 0⟩ (fun H locs hP hD hS => ?_)
              cases h
              exact fin _ _ _ _ dX0_tellRiddle_75 hP hD hS
            · have h := (k_iB h).2 c15
              by_cases c18 : p2 = 5
              · have h := (k_iB h).1 c18
                refine lv_tableIn (off := 62) (tgt := 76) hx hb dX0_tellRiddle_14 (by rw [c18]; decide) (by rw [c18]; decide) (by rw [c18]; rfl) (by decide) ?_
                refine lv_aload_n hx hb dX0_tellRiddle_76 rfl (lv_at hl 0 rfl) ?_
                refine va_get (ci := 0) (C := RX0) (T := TX0) (N := 7) hx hb hts hiX0 hown hK hP 0 rfl rfl 2 (by decide) (hts (.fieldLink RX0 23 "RiddleTrade$Exchange" "answers" "LRiddleTrade$Table;") (List.mem_of_getElem? (i := 2) rfl)) (fun _ h9 => h9) rfl dX0_tellRiddle_77 ?_
                refine lv_iconst (v := 1) hx hb dX0_tellRiddle_80 (by decide) ?_
                refine lv_iload_n hx hb dX0_tellRiddle_81 rfl (lv_at hl 1 rfl) ?_
                refine lv_iconst (v := 4) hx hb dX0_tellRiddle_82 (by decide) ?_
                refine lv_iconst (v := 0) hx hb dX0_tellRiddle_83 (by decide) ?_
                obtain ⟨r19, hu20, h⟩ := ob1_el h
                refine kcVi (ci := 4) (q := (RX4, TX4, 3)) (ws1 := (w_X0_tellRiddle cI cC h0 h1 h3 h5 h7 h9 h11 h4 h6 fR rR fA rA rnd)) ⟨hx, hb, hml, hown, hts⟩ [3, 4] [0, 1, 2] (c_X4_countOfBoth l D cI cC cE h5 h6 _ 320 fA 8 rA 1 p1 4 0 r19 hu20) (cwV 4 hts gX0_tellRiddle_X4_countOfBoth rfl rfl rfl (by decide +kernel) ⟨Nat.le_of_ble_eq_true rfl, Nat.le_of_ble_eq_true rfl⟩) hK hP hD hS hA rfl rfl rfl rfl rfl rfl rfl rfl rfl hl.1 rfl (Nat.le_of_ble_eq_true rfl) dX0_tellRiddle_84 ⟨Nat.le_refl 0, Nat.le_refl 0⟩ (fun H locs hP hD hS => ?_)
                cases h
                exact fin _ _ _ _ dX0_tellRiddle_87 hP hD hS
              · have h := (k_iB h).2 c18
                by_cases c21 : p2 = 6
                · have h := (k_iB h).1 c21
                  refine lv_tableIn (off := 74) (tgt := 88) hx hb dX0_tellRiddle_14 (by rw [c21]; decide) (by rw [c21]; decide) (by rw [c21]; rfl) (by decide) ?_
                  refine lv_aload_n hx hb dX0_tellRiddle_88 rfl (lv_at hl 0 rfl) ?_
                  refine va_get (ci := 0) (C := RX0) (T := TX0) (N := 7) hx hb hts hiX0 hown hK hP 0 rfl rfl 2 (by decide) (hts (.fieldLink RX0 23 "RiddleTrade$Exchange" "answers" "LRiddleTrade$Table;") (List.mem_of_getElem? (i := 2) rfl)) (fun _ h9 => h9) rfl dX0_tellRiddle_89 ?_
                  refine lv_iconst (v := 1) hx hb dX0_tellRiddle_92 (by decide) ?_
                  refine lv_iload_n hx hb dX0_tellRiddle_93 rfl (lv_at hl 1 rfl) ?_
                  refine lv_iconst (v := 4) hx hb dX0_tellRiddle_94 (by decide) ?_
                  refine lv_iconst (v := 1) hx hb dX0_tellRiddle_95 (by decide) ?_
                  obtain ⟨r22, hu23, h⟩ := ob1_el h
                  refine kcVi (ci := 4) (q := (RX4, TX4, 3)) (ws1 := (w_X0_tellRiddle cI cC h0 h1 h3 h5 h7 h9 h11 h4 h6 fR rR fA rA rnd)) ⟨hx, hb, hml, hown, hts⟩ [3, 4] [0, 1, 2] (c_X4_rowOfBoth l D cI cC cE h5 h6 _ 320 fA 8 rA 1 p1 4 1 r22 hu23) (cwV 4 hts gX0_tellRiddle_X4_rowOfBoth rfl rfl rfl (by decide +kernel) ⟨Nat.le_of_ble_eq_true rfl, Nat.le_of_ble_eq_true rfl⟩) hK hP hD hS hA rfl rfl rfl rfl rfl rfl rfl rfl rfl hl.1 rfl (Nat.le_of_ble_eq_true rfl) dX0_tellRiddle_96 ⟨Nat.le_refl 0, Nat.le_refl 0⟩ (fun H locs hP hD hS => ?_)
                  cases h
                  exact fin _ _ _ _ dX0_tellRiddle_99 hP hD hS
                · have h := (k_iB h).2 c21
                  refine lv_tableOut (tgt := 100) hx hb dX0_tellRiddle_14 (by have zc3 := lv_neT c3 (show ((0 : Int32)).toInt = 0 from rfl); have zc6 := lv_neT c6 (show ((1 : Int32)).toInt = 1 from rfl); have zc9 := lv_neT c9 (show ((2 : Int32)).toInt = 2 from rfl); have zc12 := lv_neT c12 (show ((3 : Int32)).toInt = 3 from rfl); have zc15 := lv_neT c15 (show ((4 : Int32)).toInt = 4 from rfl); have zc18 := lv_neT c18 (show ((5 : Int32)).toInt = 5 from rfl); have zc21 := lv_neT c21 (show ((6 : Int32)).toInt = 6 from rfl); omega) (by decide) ?_
                  refine lv_bipush (v := (-2)) hx hb dX0_tellRiddle_100 (by decide) ?_
                  cases h
                  exact fin _ _ _ _ dX0_tellRiddle_102 hP hD hS
  · have h := (k_iB h).1 c1
    refine lv_iconst (v := (-1)) hx hb dX0_tellRiddle_11 (by decide) ?_
    cases h
    exact fin _ _ _ _ dX0_tellRiddle_12 hP hD hS
abbrev w_X0_tellAnswer (cI cC : ClassId) (h0 h1 h3 h5 h7 h9 h11 h6 h12 : Nat) (fA : Nat → Int32) (rA : Int32) (ri : Nat → Int32) (hd : Int32) (ln : Int32) (rnd : Int32) : va_W := [(h0, .inr (0, [.ref h1, .ref h3, .ref h5, .ref h7, .ref h9, .ref h11, .int rnd])), (h5, .inr (4, [.ref h6, .int 8, .int rA])), (h6, .inl (cI, 320, .inl fA)), (h11, .inr (3, [.ref h12, .int hd, .int ln])), (h12, .inl (cI, 40, .inl ri))]
def d_X0_tellAnswer (p1 : Int32) (p2 : Int32) (fA : Nat → Int32) (rA : Int32) (ri : Nat → Int32) (hd : Int32) (ln : Int32) : Option (Int32) :=
    if (d_X4_has p1 rA) = 0 then (some (-1))
    else (if p2 = 8 then (ob1 (d_X3_placeOf p1 ri hd ln) fun r7 =>
    some r7)
    else (if p2 < 0 then (some (-2))
    else (if p2 ≤ 8 then (ob1 (d_X4_get 320 p1 p2 fA 8) fun r5 =>
    some r5)
    else (some (-2)))))
set_option maxHeartbeats 4000000 in
set_option maxRecDepth 100000 in
theorem c_X0_tellAnswer (l : Launch) (D : va_G) (cI cC cE : ClassId) (h0 h1 h3 h5 h7 h9 h11 h6 h12 : Nat) (sz : Nat) (fA : Nat → Int32) (rA : Int32) (ri : Nat → Int32) (hd : Int32) (ln : Int32) (rnd : Int32) (p1 : Int32) (p2 : Int32) (r0 : Int32) (h : d_X0_tellAnswer p1 p2 fA rA ri hd ln = some r0) : Met l yX0_tellAnswer wsX0_tellAnswer ({ frames := 2, cells := 0, slots := 0, locals := 44 } : Room) (kP D (kT cI cC cE) [.ref h0, .int p1, .int p2] (w_X0_tellAnswer cI cC h0 h1 h3 h5 h7 h9 h11 h6 h12 fA rA ri hd ln rnd) sz) (kQi D (kT cI cC cE) (w_X0_tellAnswer cI cC h0 h1 h3 h5 h7 h9 h11 h6 h12 fA rA ri hd ln rnd) (w_X0_tellAnswer cI cC h0 h1 h3 h5 h7 h9 h11 h6 h12 fA rA ri hd ln rnd) sz r0) 0 0 (va_A (w_X0_tellAnswer cI cC h0 h1 h3 h5 h7 h9 h11 h6 h12 fA rA ri hd ln rnd) sz) := by
  refine kMetI (cc := cX0_tellAnswer) (maxL := 3) (own := RX0) (by decide) rfl (Nat.le_of_ble_eq_true rfl) rfl ?_
  intro p e s m below meth c A Q hx hb hml hown hts hP hK hD hA hS hname fin ls hl
  have hl : lv_has ls 3 [(0, .ref h0), (1, .int p1), (2, .int p2)] := hl
  have hiX0 : ∀ w ∈ u_ws RX0 TX0 7, w ∈ wsX0_tellAnswer := by decide +kernel
  dsimp only [d_X0_tellAnswer] at h
  refine lv_aload_n hx hb dX0_tellAnswer_0 rfl (lv_at hl 0 rfl) ?_
  refine va_get (ci := 0) (C := RX0) (T := TX0) (N := 7) hx hb hts hiX0 hown hK hP 0 rfl rfl 2 (by decide) (hts (.fieldLink RX0 23 "RiddleTrade$Exchange" "answers" "LRiddleTrade$Table;") (List.mem_of_getElem? (i := 1) rfl)) (fun _ h9 => h9) rfl dX0_tellAnswer_1 ?_
  refine lv_iload_n hx hb dX0_tellAnswer_4 rfl (lv_at hl 1 rfl) ?_
  refine kcVi (ci := 4) (q := (RX4, TX4, 3)) (ws1 := (w_X0_tellAnswer cI cC h0 h1 h3 h5 h7 h9 h11 h6 h12 fA rA ri hd ln rnd)) ⟨hx, hb, hml, hown, hts⟩ [1] [0, 2, 3, 4] (c_X4_has l D cI cC cE h5 h6 _ 8 rA p1 (d_X4_has p1 rA) rfl) (cwV 1 hts gX0_tellAnswer_X4_has rfl rfl rfl (by decide +kernel) ⟨Nat.le_of_ble_eq_true rfl, Nat.le_of_ble_eq_true rfl⟩) hK hP hD hS hA rfl rfl rfl rfl rfl rfl rfl rfl rfl hl.1 rfl (Nat.le_of_ble_eq_true rfl) dX0_tellAnswer_5 ⟨Nat.le_refl 0, Nat.le_refl 0⟩ (fun H locs hP hD hS => ?_)
  refine lv_if_ne (tgt := 13) hx hb dX0_tellAnswer_8 (by decide) (fun c1 => ?_) (fun c1 => ?_)
  · have h := (k_iB h).2 c1
    refine lv_iload_n hx hb dX0_tellAnswer_13 rfl (lv_at hl 2 rfl) ?_
    refine lv_bipush (v := 8) hx hb dX0_tellAnswer_14 (by decide) ?_
    refine lv_icmp_ne (tgt := 28) hx hb dX0_tellAnswer_16 (by decide) (fun c2 => ?_) (fun c2 => ?_)
    · have h := (k_iB h).2 c2
      refine lv_iload_n hx hb dX0_tellAnswer_28 rfl (lv_at hl 2 rfl) ?_
      refine lv_if_lt (tgt := 38) hx hb dX0_tellAnswer_29 (by decide) (fun c3 => ?_) (fun c3 => ?_)
      · have h := (k_iB h).1 c3
        refine lv_bipush (v := (-2)) hx hb dX0_tellAnswer_38 (by decide) ?_
        refine lv_goto (tgt := 52) hx hb dX0_tellAnswer_40 (by decide) ?_
        cases h
        exact fin _ _ _ _ dX0_tellAnswer_52 hP hD hS
      · have h := (k_iB h).2 c3
        refine lv_iload_n hx hb dX0_tellAnswer_32 rfl (lv_at hl 2 rfl) ?_
        refine lv_bipush (v := 8) hx hb dX0_tellAnswer_33 (by decide) ?_
        refine lv_icmp_le (tgt := 43) hx hb dX0_tellAnswer_35 (by decide) (fun c4 => ?_) (fun c4 => ?_)
        · have h := (k_iB h).1 c4
          refine lv_aload_n hx hb dX0_tellAnswer_43 rfl (lv_at hl 0 rfl) ?_
          refine va_get (ci := 0) (C := RX0) (T := TX0) (N := 7) hx hb hts hiX0 hown hK hP 0 rfl rfl 2 (by decide) (hts (.fieldLink RX0 23 "RiddleTrade$Exchange" "answers" "LRiddleTrade$Table;") (List.mem_of_getElem? (i := 1) rfl)) (fun _ h9 => h9) rfl dX0_tellAnswer_44 ?_
          refine lv_iload_n hx hb dX0_tellAnswer_47 rfl (lv_at hl 1 rfl) ?_
          refine lv_iload_n hx hb dX0_tellAnswer_48 rfl (lv_at hl 2 rfl) ?_
          obtain ⟨r5, hu6, h⟩ := ob1_el h
          refine kcVi (ci := 4) (q := (RX4, TX4, 3)) (ws1 := (w_X0_tellAnswer cI cC h0 h1 h3 h5 h7 h9 h11 h6 h12 fA rA ri hd ln rnd)) ⟨hx, hb, hml, hown, hts⟩ [1, 2] [0, 3, 4] (c_X4_get l D cI cC cE h5 h6 _ 320 fA 8 rA p1 p2 r5 hu6) (cwV 2 hts gX0_tellAnswer_X4_get rfl rfl rfl (by decide +kernel) ⟨Nat.le_of_ble_eq_true rfl, Nat.le_of_ble_eq_true rfl⟩) hK hP hD hS hA rfl rfl rfl rfl rfl rfl rfl rfl rfl hl.1 rfl (Nat.le_of_ble_eq_true rfl) dX0_tellAnswer_49 ⟨Nat.le_refl 0, Nat.le_refl 0⟩ (fun H locs hP hD hS => ?_)
          cases h
          exact fin _ _ _ _ dX0_tellAnswer_52 hP hD hS
        · have h := (k_iB h).2 c4
          refine lv_bipush (v := (-2)) hx hb dX0_tellAnswer_38 (by decide) ?_
          refine lv_goto (tgt := 52) hx hb dX0_tellAnswer_40 (by decide) ?_
          cases h
          exact fin _ _ _ _ dX0_tellAnswer_52 hP hD hS
    · have h := (k_iB h).1 c2
      refine lv_aload_n hx hb dX0_tellAnswer_19 rfl (lv_at hl 0 rfl) ?_
      refine va_get (ci := 0) (C := RX0) (T := TX0) (N := 7) hx hb hts hiX0 hown hK hP 0 rfl rfl 5 (by decide) (hts (.fieldLink RX0 35 "RiddleTrade$Exchange" "row" "LRiddleTrade$Row;") (List.mem_of_getElem? (i := 2) rfl)) (fun _ h9 => h9) rfl dX0_tellAnswer_20 ?_
      refine lv_iload_n hx hb dX0_tellAnswer_23 rfl (lv_at hl 1 rfl) ?_
      obtain ⟨r7, hu8, h⟩ := ob1_el h
      refine kcVi (ci := 3) (q := (RX3, TX3, 3)) (ws1 := (w_X0_tellAnswer cI cC h0 h1 h3 h5 h7 h9 h11 h6 h12 fA rA ri hd ln rnd)) ⟨hx, hb, hml, hown, hts⟩ [3, 4] [0, 1, 2] (c_X3_placeOf l D cI cC cE h11 h12 _ ri hd ln p1 r7 hu8) (cwV 1 hts gX0_tellAnswer_X3_placeOf rfl rfl rfl (by decide +kernel) ⟨Nat.le_of_ble_eq_true rfl, Nat.le_of_ble_eq_true rfl⟩) hK hP hD hS hA rfl rfl rfl rfl rfl rfl rfl rfl rfl hl.1 rfl (Nat.le_of_ble_eq_true rfl) dX0_tellAnswer_24 ⟨Nat.le_refl 0, Nat.le_refl 0⟩ (fun H locs hP hD hS => ?_)
      cases h
      exact fin _ _ _ _ dX0_tellAnswer_27 hP hD hS
  · have h := (k_iB h).1 c1
    refine lv_iconst (v := (-1)) hx hb dX0_tellAnswer_11 (by decide) ?_
    cases h
    exact fin _ _ _ _ dX0_tellAnswer_12 hP hD hS
abbrev w_X0_richestTrader (cI cC : ClassId) (h0 h1 h3 h5 h7 h9 h11 h2 : Nat) (fT : Nat → Int32) (rnd : Int32) : va_W := [(h0, .inr (0, [.ref h1, .ref h3, .ref h5, .ref h7, .ref h9, .ref h11, .int rnd])), (h1, .inr (4, [.ref h2, .int 2, .int 8])), (h2, .inl (cI, 16, .inl fT))]
def lp_X0_richestTrader_4 (fT : Nat → Int32) : Nat → Int32 → Int32 → Option (Int32)
  | 0 => fun _ _ => none
  | k + 1 => fun x1 x2 =>
    if 8 ≤ x2 then (some x1)
    else (ob1 (d_X4_get 16 x2 0 fT 2) fun r2 =>
    ob1 (d_X4_get 16 x1 0 fT 2) fun r4 =>
    if r2 ≤ r4 then ((lp_X0_richestTrader_4  fT k) x1 (x2 + 1))
    else ((lp_X0_richestTrader_4  fT k) x2 (x2 + 1)))
def d_X0_richestTrader (fT : Nat → Int32) : Option (Int32) :=
    lp_X0_richestTrader_4  fT fuel 0 1
set_option maxHeartbeats 4000000 in
set_option maxRecDepth 100000 in
theorem c_X0_richestTrader (l : Launch) (D : va_G) (cI cC cE : ClassId) (h0 h1 h3 h5 h7 h9 h11 h2 : Nat) (sz : Nat) (fT : Nat → Int32) (rnd : Int32) (r0 : Int32) (h : d_X0_richestTrader fT = some r0) : Met l yX0_richestTrader wsX0_richestTrader ({ frames := 1, cells := 0, slots := 0, locals := 23 } : Room) (kP D (kT cI cC cE) [.ref h0] (w_X0_richestTrader cI cC h0 h1 h3 h5 h7 h9 h11 h2 fT rnd) sz) (kQi D (kT cI cC cE) (w_X0_richestTrader cI cC h0 h1 h3 h5 h7 h9 h11 h2 fT rnd) (w_X0_richestTrader cI cC h0 h1 h3 h5 h7 h9 h11 h2 fT rnd) sz r0) 0 0 (va_A (w_X0_richestTrader cI cC h0 h1 h3 h5 h7 h9 h11 h2 fT rnd) sz) := by
  refine kMetI (cc := cX0_richestTrader) (maxL := 3) (own := RX0) (by decide) rfl (Nat.le_of_ble_eq_true rfl) rfl ?_
  intro p e s m below meth c A Q hx hb hml hown hts hP hK hD hA hS hname fin ls hl
  have hl : lv_has ls 3 [(0, .ref h0)] := hl
  have hiX0 : ∀ w ∈ u_ws RX0 TX0 7, w ∈ wsX0_richestTrader := by decide +kernel
  have hL4 : ∀ (k : Nat), ∀ (x1 : Int32) (x2 : Int32) (H : Heap) (locs : List Loc), va_P D vwCl (w_X0_richestTrader cI cC h0 h1 h3 h5 h7 h9 h11 h2 fT rnd) H → va_D A (w_X0_richestTrader cI cC h0 h1 h3 h5 h7 h9 h11 h2 fT rnd) → va_S A s.heap H locs → ∀ (ls : Array Slot), lv_has ls 3 [(0, .ref h0), (1, .int x1), (2, .int x2)] → lp_X0_richestTrader_4  fT k x1 x2 = some r0 → W p l e ({ frames := 1, cells := 0, slots := 0, locals := 23 } : Room) s m [.ref h0].toArray below meth c H locs 0 0 Q (F0 m 4 ls []) := by
    intro k
    induction k with
    | zero =>
      intro x1 x2 H locs hP hD hS ls hl h
      exact k_none h
    | succ k ih =>
      intro x1 x2 H locs hP hD hS ls hl h
      dsimp only [lp_X0_richestTrader_4] at h
      refine lv_iload_n hx hb dX0_richestTrader_4 rfl (lv_at hl 2 rfl) ?_
      refine lv_bipush (v := 8) hx hb dX0_richestTrader_5 (by decide) ?_
      refine lv_icmp_ge (tgt := 39) hx hb dX0_richestTrader_7 (by decide) (fun c1 => ?_) (fun c1 => ?_)
      · have h := (k_iB h).1 c1
        refine lv_iload_n hx hb dX0_richestTrader_39 rfl (lv_at hl 1 rfl) ?_
        cases h
        exact fin _ _ _ _ dX0_richestTrader_40 hP hD hS
      · have h := (k_iB h).2 c1
        refine lv_aload_n hx hb dX0_richestTrader_10 rfl (lv_at hl 0 rfl) ?_
        refine va_get (ci := 0) (C := RX0) (T := TX0) (N := 7) hx hb hts hiX0 hown hK hP 0 rfl rfl 0 (by decide) (hts (.fieldLink RX0 16 "RiddleTrade$Exchange" "traders" "LRiddleTrade$Table;") (List.mem_of_getElem? (i := 1) rfl)) (fun _ h9 => h9) rfl dX0_richestTrader_11 ?_
        refine lv_iload_n hx hb dX0_richestTrader_14 rfl (lv_at hl 2 rfl) ?_
        refine lv_iconst (v := 0) hx hb dX0_richestTrader_15 (by decide) ?_
        obtain ⟨r2, hu3, h⟩ := ob1_el h
        refine kcVi (ci := 4) (q := (RX4, TX4, 3)) (ws1 := (w_X0_richestTrader cI cC h0 h1 h3 h5 h7 h9 h11 h2 fT rnd)) ⟨hx, hb, hml, hown, hts⟩ [1, 2] [0] (c_X4_get l D cI cC cE h1 h2 _ 16 fT 2 8 x2 0 r2 hu3) (cwV 2 hts gX0_richestTrader_X4_get rfl rfl rfl (by decide +kernel) ⟨Nat.le_of_ble_eq_true rfl, Nat.le_of_ble_eq_true rfl⟩) hK hP hD hS hA rfl rfl rfl rfl rfl rfl rfl rfl rfl hl.1 rfl (Nat.le_of_ble_eq_true rfl) dX0_richestTrader_16 ⟨Nat.le_refl 0, Nat.le_refl 0⟩ (fun H locs hP hD hS => ?_)
        refine lv_aload_n hx hb dX0_richestTrader_19 rfl (lv_at hl 0 rfl) ?_
        refine va_get (ci := 0) (C := RX0) (T := TX0) (N := 7) hx hb hts hiX0 hown hK hP 0 rfl rfl 0 (by decide) (hts (.fieldLink RX0 16 "RiddleTrade$Exchange" "traders" "LRiddleTrade$Table;") (List.mem_of_getElem? (i := 1) rfl)) (fun _ h9 => h9) rfl dX0_richestTrader_20 ?_
        refine lv_iload_n hx hb dX0_richestTrader_23 rfl (lv_at hl 1 rfl) ?_
        refine lv_iconst (v := 0) hx hb dX0_richestTrader_24 (by decide) ?_
        obtain ⟨r4, hu5, h⟩ := ob1_el h
        refine kcVi (ci := 4) (q := (RX4, TX4, 3)) (ws1 := (w_X0_richestTrader cI cC h0 h1 h3 h5 h7 h9 h11 h2 fT rnd)) ⟨hx, hb, hml, hown, hts⟩ [1, 2] [0] (c_X4_get l D cI cC cE h1 h2 _ 16 fT 2 8 x1 0 r4 hu5) (cwV 2 hts gX0_richestTrader_X4_get rfl rfl rfl (by decide +kernel) ⟨Nat.le_of_ble_eq_true rfl, Nat.le_of_ble_eq_true rfl⟩) hK hP hD hS hA rfl rfl rfl rfl rfl rfl rfl rfl rfl hl.1 rfl (Nat.le_of_ble_eq_true rfl) dX0_richestTrader_25 ⟨Nat.le_refl 0, Nat.le_refl 0⟩ (fun H locs hP hD hS => ?_)
        refine lv_icmp_le (tgt := 33) hx hb dX0_richestTrader_28 (by decide) (fun c6 => ?_) (fun c6 => ?_)
        · have h := (k_iB h).1 c6
          refine lv_iinc (v := (x2 + 1)) (lv' := [(2, .int (x2 + 1)), (0, .ref h0), (1, .int x1)]) hx hb dX0_richestTrader_33 hl (k := 2) rfl rfl (by decide) rfl (fun ls hl => ?_)
          refine lv_goto (tgt := 4) hx hb dX0_richestTrader_36 (by decide) ?_
          exact ih x1 (x2 + 1) _ _ hP hD hS _ (lv_sub hl [1, 2, 0] rfl) h
        · have h := (k_iB h).2 c6
          refine lv_iload_n hx hb dX0_richestTrader_31 rfl (lv_at hl 2 rfl) ?_
          refine lv_istore_n (lv' := [(1, .int x2), (0, .ref h0), (2, .int x2)]) hx hb dX0_richestTrader_32 rfl hl (by decide) rfl (fun ls hl => ?_)
          refine lv_iinc (v := (x2 + 1)) (lv' := [(2, .int (x2 + 1)), (1, .int x2), (0, .ref h0)]) hx hb dX0_richestTrader_33 hl (k := 2) rfl rfl (by decide) rfl (fun ls hl => ?_)
          refine lv_goto (tgt := 4) hx hb dX0_richestTrader_36 (by decide) ?_
          exact ih x2 (x2 + 1) _ _ hP hD hS _ (lv_sub hl [2, 1, 0] rfl) h
  dsimp only [d_X0_richestTrader] at h
  refine lv_iconst (v := 0) hx hb dX0_richestTrader_0 (by decide) ?_
  refine lv_istore_n (lv' := [(1, .int 0), (0, .ref h0)]) hx hb dX0_richestTrader_1 rfl hl (by decide) rfl (fun ls hl => ?_)
  refine lv_iconst (v := 1) hx hb dX0_richestTrader_2 (by decide) ?_
  refine lv_istore_n (lv' := [(2, .int 1), (1, .int 0), (0, .ref h0)]) hx hb dX0_richestTrader_3 rfl hl (by decide) rfl (fun ls hl => ?_)
  exact hL4   fuel 0 1 _ _ hP hD hS _ (lv_sub hl [2, 1, 0] rfl) h
abbrev w_X0_tellAccount (cI cC : ClassId) (h0 h1 h3 h5 h7 h9 h11 h2 h4 h6 : Nat) (fT : Nat → Int32) (fR : Nat → Int32) (rR : Int32) (fA : Nat → Int32) (rA : Int32) (rnd : Int32) : va_W := [(h0, .inr (0, [.ref h1, .ref h3, .ref h5, .ref h7, .ref h9, .ref h11, .int rnd])), (h1, .inr (4, [.ref h2, .int 2, .int 8])), (h2, .inl (cI, 16, .inl fT)), (h3, .inr (4, [.ref h4, .int 4, .int rR])), (h4, .inl (cI, 80, .inl fR)), (h5, .inr (4, [.ref h6, .int 8, .int rA])), (h6, .inl (cI, 320, .inl fA))]
def j_X0_tellAccount_69 (LP28 : Int32 → Int32 → Option (Int32)) (fT : Nat → Int32) (fR : Nat → Int32) (fA : Nat → Int32) (rA : Int32) (p1 : Int32) (x2 : Int32) (x3 : Int32) (x4 : Int32) : Option (Int32) :=
    ob1 (d_X4_get 320 x3 1 fA 8) fun r10 =>
    ob1 (d_X4_get 80 r10 0 fR 4) fun r12 =>
    if r12 = p1 then (LP28 (x2 - x4) (x3 + 1))
    else (LP28 x2 (x3 + 1))
def lp_X0_tellAccount_28 (fT : Nat → Int32) (fR : Nat → Int32) (fA : Nat → Int32) (rA : Int32) (p1 : Int32) : Nat → Int32 → Int32 → Option (Int32)
  | 0 => fun _ _ => none
  | k + 1 => fun x2 x3 =>
    if (d_X4_rows rA) ≤ x3 then (some (x2 + 100000))
    else (ob1 (d_X4_get 320 x3 7 fA 8) fun r5 =>
    ob1 (d_X4_get 320 x3 0 fA 8) fun r7 =>
    if r7 = p1 then (j_X0_tellAccount_69 (lp_X0_tellAccount_28  fT fR fA rA p1 k) fT fR fA rA p1 (x2 + r5) x3 r5)
    else (j_X0_tellAccount_69 (lp_X0_tellAccount_28  fT fR fA rA p1 k) fT fR fA rA p1 x2 x3 r5))
def d_X0_tellAccount (p1 : Int32) (fT : Nat → Int32) (fR : Nat → Int32) (fA : Nat → Int32) (rA : Int32) : Option (Int32) :=
    if (d_X4_has p1 8) = 0 then (some (-1))
    else (ob1 (d_X4_get 16 p1 1 fT 2) fun r2 =>
    lp_X0_tellAccount_28  fT fR fA rA p1 fuel (100 - r2) 0)
set_option maxHeartbeats 4000000 in
set_option maxRecDepth 100000 in
theorem c_X0_tellAccount (l : Launch) (D : va_G) (cI cC cE : ClassId) (h0 h1 h3 h5 h7 h9 h11 h2 h4 h6 : Nat) (sz : Nat) (fT : Nat → Int32) (fR : Nat → Int32) (rR : Int32) (fA : Nat → Int32) (rA : Int32) (rnd : Int32) (p1 : Int32) (r0 : Int32) (h : d_X0_tellAccount p1 fT fR fA rA = some r0) : Met l yX0_tellAccount wsX0_tellAccount ({ frames := 1, cells := 0, slots := 0, locals := 23 } : Room) (kP D (kT cI cC cE) [.ref h0, .int p1] (w_X0_tellAccount cI cC h0 h1 h3 h5 h7 h9 h11 h2 h4 h6 fT fR rR fA rA rnd) sz) (kQi D (kT cI cC cE) (w_X0_tellAccount cI cC h0 h1 h3 h5 h7 h9 h11 h2 h4 h6 fT fR rR fA rA rnd) (w_X0_tellAccount cI cC h0 h1 h3 h5 h7 h9 h11 h2 h4 h6 fT fR rR fA rA rnd) sz r0) 0 0 (va_A (w_X0_tellAccount cI cC h0 h1 h3 h5 h7 h9 h11 h2 h4 h6 fT fR rR fA rA rnd) sz) := by
  refine kMetI (cc := cX0_tellAccount) (maxL := 5) (own := RX0) (by decide) rfl (Nat.le_of_ble_eq_true rfl) rfl ?_
  intro p e s m below meth c A Q hx hb hml hown hts hP hK hD hA hS hname fin ls hl
  have hl : lv_has ls 5 [(0, .ref h0), (1, .int p1)] := hl
  have hiX0 : ∀ w ∈ u_ws RX0 TX0 7, w ∈ wsX0_tellAccount := by decide +kernel
  have hJ69 : ∀ (LP28 : Int32 → Int32 → Option (Int32)), (∀ (x2 : Int32) (x3 : Int32) (H : Heap) (locs : List Loc), va_P D vwCl (w_X0_tellAccount cI cC h0 h1 h3 h5 h7 h9 h11 h2 h4 h6 fT fR rR fA rA rnd) H → va_D A (w_X0_tellAccount cI cC h0 h1 h3 h5 h7 h9 h11 h2 h4 h6 fT fR rR fA rA rnd) → va_S A s.heap H locs → ∀ (ls : Array Slot), lv_has ls 5 [(0, .ref h0), (1, .int p1), (2, .int x2), (3, .int x3)] → LP28 x2 x3 = some r0 → W p l e ({ frames := 1, cells := 0, slots := 0, locals := 23 } : Room) s m [.ref h0, .int p1].toArray below meth c H locs 0 0 Q (F0 m 28 ls [])) → ∀ (x2 : Int32) (x3 : Int32) (x4 : Int32) (H : Heap) (locs : List Loc), va_P D vwCl (w_X0_tellAccount cI cC h0 h1 h3 h5 h7 h9 h11 h2 h4 h6 fT fR rR fA rA rnd) H → va_D A (w_X0_tellAccount cI cC h0 h1 h3 h5 h7 h9 h11 h2 h4 h6 fT fR rR fA rA rnd) → va_S A s.heap H locs → ∀ (ls : Array Slot), lv_has ls 5 [(0, .ref h0), (1, .int p1), (2, .int x2), (3, .int x3), (4, .int x4)] → j_X0_tellAccount_69 LP28 fT fR fA rA p1 x2 x3 x4 = some r0 → W p l e ({ frames := 1, cells := 0, slots := 0, locals := 23 } : Room) s m [.ref h0, .int p1].toArray below meth c H locs 0 0 Q (F0 m 69 ls []) := by
    intro LP28 hLP28
    intro x2 x3 x4 H locs hP hD hS ls hl h
    dsimp only [j_X0_tellAccount_69] at h
    refine lv_aload_n hx hb dX0_tellAccount_69 rfl (lv_at hl 0 rfl) ?_
    refine va_get (ci := 0) (C := RX0) (T := TX0) (N := 7) hx hb hts hiX0 hown hK hP 0 rfl rfl 1 (by decide) (hts (.fieldLink RX0 20 "RiddleTrade$Exchange" "riddles" "LRiddleTrade$Table;") (List.mem_of_getElem? (i := 3) rfl)) (fun _ h9 => h9) rfl dX0_tellAccount_70 ?_
    refine lv_aload_n hx hb dX0_tellAccount_73 rfl (lv_at hl 0 rfl) ?_
    refine va_get (ci := 0) (C := RX0) (T := TX0) (N := 7) hx hb hts hiX0 hown hK hP 0 rfl rfl 2 (by decide) (hts (.fieldLink RX0 23 "RiddleTrade$Exchange" "answers" "LRiddleTrade$Table;") (List.mem_of_getElem? (i := 2) rfl)) (fun _ h9 => h9) rfl dX0_tellAccount_74 ?_
    refine lv_iload_n hx hb dX0_tellAccount_77 rfl (lv_at hl 3 rfl) ?_
    refine lv_iconst (v := 1) hx hb dX0_tellAccount_78 (by decide) ?_
    obtain ⟨r10, hu11, h⟩ := ob1_el h
    refine kcVi (ci := 4) (q := (RX4, TX4, 3)) (ws1 := (w_X0_tellAccount cI cC h0 h1 h3 h5 h7 h9 h11 h2 h4 h6 fT fR rR fA rA rnd)) ⟨hx, hb, hml, hown, hts⟩ [5, 6] [0, 1, 2, 3, 4] (c_X4_get l D cI cC cE h5 h6 _ 320 fA 8 rA x3 1 r10 hu11) (cwV 2 hts gX0_tellAccount_X4_get rfl rfl rfl (by decide +kernel) ⟨Nat.le_of_ble_eq_true rfl, Nat.le_of_ble_eq_true rfl⟩) hK hP hD hS hA rfl rfl rfl rfl rfl rfl rfl rfl rfl hl.1 rfl (Nat.le_of_ble_eq_true rfl) dX0_tellAccount_79 ⟨Nat.le_refl 0, Nat.le_refl 0⟩ (fun H locs hP hD hS => ?_)
    refine lv_iconst (v := 0) hx hb dX0_tellAccount_82 (by decide) ?_
    obtain ⟨r12, hu13, h⟩ := ob1_el h
    refine kcVi (ci := 4) (q := (RX4, TX4, 3)) (ws1 := (w_X0_tellAccount cI cC h0 h1 h3 h5 h7 h9 h11 h2 h4 h6 fT fR rR fA rA rnd)) ⟨hx, hb, hml, hown, hts⟩ [3, 4] [0, 1, 2, 5, 6] (c_X4_get l D cI cC cE h3 h4 _ 80 fR 4 rR r10 0 r12 hu13) (cwV 2 hts gX0_tellAccount_X4_get rfl rfl rfl (by decide +kernel) ⟨Nat.le_of_ble_eq_true rfl, Nat.le_of_ble_eq_true rfl⟩) hK hP hD hS hA rfl rfl rfl rfl rfl rfl rfl rfl rfl hl.1 rfl (Nat.le_of_ble_eq_true rfl) dX0_tellAccount_83 ⟨Nat.le_refl 0, Nat.le_refl 0⟩ (fun H locs hP hD hS => ?_)
    refine lv_iload_n hx hb dX0_tellAccount_86 rfl (lv_at hl 1 rfl) ?_
    refine lv_icmp_ne (tgt := 95) hx hb dX0_tellAccount_87 (by decide) (fun c14 => ?_) (fun c14 => ?_)
    · have h := (k_iB h).2 c14
      refine lv_iinc (v := (x3 + 1)) (lv' := [(3, .int (x3 + 1)), (0, .ref h0), (1, .int p1), (2, .int x2), (4, .int x4)]) hx hb dX0_tellAccount_95 hl (k := 3) rfl rfl (by decide) rfl (fun ls hl => ?_)
      refine lv_goto (tgt := 28) hx hb dX0_tellAccount_98 (by decide) ?_
      exact hLP28 x2 (x3 + 1) _ _ hP hD hS _ (lv_sub hl [1, 2, 3, 0] rfl) h
    · have h := (k_iB h).1 c14
      refine lv_iload_n hx hb dX0_tellAccount_90 rfl (lv_at hl 2 rfl) ?_
      refine lv_iload hx hb dX0_tellAccount_91 (lv_at hl 4 rfl) ?_
      refine lv_isub hx hb dX0_tellAccount_93 ?_
      refine lv_istore_n (lv' := [(2, .int (x2 - x4)), (0, .ref h0), (1, .int p1), (3, .int x3), (4, .int x4)]) hx hb dX0_tellAccount_94 rfl hl (by decide) rfl (fun ls hl => ?_)
      refine lv_iinc (v := (x3 + 1)) (lv' := [(3, .int (x3 + 1)), (2, .int (x2 - x4)), (0, .ref h0), (1, .int p1), (4, .int x4)]) hx hb dX0_tellAccount_95 hl (k := 3) rfl rfl (by decide) rfl (fun ls hl => ?_)
      refine lv_goto (tgt := 28) hx hb dX0_tellAccount_98 (by decide) ?_
      exact hLP28 (x2 - x4) (x3 + 1) _ _ hP hD hS _ (lv_sub hl [2, 3, 1, 0] rfl) h
  have hL28 : ∀ (k : Nat), ∀ (x2 : Int32) (x3 : Int32) (H : Heap) (locs : List Loc), va_P D vwCl (w_X0_tellAccount cI cC h0 h1 h3 h5 h7 h9 h11 h2 h4 h6 fT fR rR fA rA rnd) H → va_D A (w_X0_tellAccount cI cC h0 h1 h3 h5 h7 h9 h11 h2 h4 h6 fT fR rR fA rA rnd) → va_S A s.heap H locs → ∀ (ls : Array Slot), lv_has ls 5 [(0, .ref h0), (1, .int p1), (2, .int x2), (3, .int x3)] → lp_X0_tellAccount_28  fT fR fA rA p1 k x2 x3 = some r0 → W p l e ({ frames := 1, cells := 0, slots := 0, locals := 23 } : Room) s m [.ref h0, .int p1].toArray below meth c H locs 0 0 Q (F0 m 28 ls []) := by
    intro k
    induction k with
    | zero =>
      intro x2 x3 H locs hP hD hS ls hl h
      exact k_none h
    | succ k ih =>
      intro x2 x3 H locs hP hD hS ls hl h
      dsimp only [lp_X0_tellAccount_28] at h
      refine lv_iload_n hx hb dX0_tellAccount_28 rfl (lv_at hl 3 rfl) ?_
      refine lv_aload_n hx hb dX0_tellAccount_29 rfl (lv_at hl 0 rfl) ?_
      refine va_get (ci := 0) (C := RX0) (T := TX0) (N := 7) hx hb hts hiX0 hown hK hP 0 rfl rfl 2 (by decide) (hts (.fieldLink RX0 23 "RiddleTrade$Exchange" "answers" "LRiddleTrade$Table;") (List.mem_of_getElem? (i := 2) rfl)) (fun _ h9 => h9) rfl dX0_tellAccount_30 ?_
      refine kcVi (ci := 4) (q := (RX4, TX4, 3)) (ws1 := (w_X0_tellAccount cI cC h0 h1 h3 h5 h7 h9 h11 h2 h4 h6 fT fR rR fA rA rnd)) ⟨hx, hb, hml, hown, hts⟩ [5] [0, 1, 2, 3, 4, 6] (c_X4_rows l D cI cC cE h5 h6 _ 8 rA (d_X4_rows rA) rfl) (cwV 0 hts gX0_tellAccount_X4_rows rfl rfl rfl (by decide +kernel) ⟨Nat.le_of_ble_eq_true rfl, Nat.le_of_ble_eq_true rfl⟩) hK hP hD hS hA rfl rfl rfl rfl rfl rfl rfl rfl rfl hl.1 rfl (Nat.le_of_ble_eq_true rfl) dX0_tellAccount_33 ⟨Nat.le_refl 0, Nat.le_refl 0⟩ (fun H locs hP hD hS => ?_)
      refine lv_icmp_ge (tgt := 101) hx hb dX0_tellAccount_36 (by decide) (fun c4 => ?_) (fun c4 => ?_)
      · have h := (k_iB h).1 c4
        refine lv_iload_n hx hb dX0_tellAccount_101 rfl (lv_at hl 2 rfl) ?_
        refine lv_ldc (v := 100000) hx hb hown (hts (.constant RX0 144 (100000)) (List.mem_of_getElem? (i := 4) rfl)) dX0_tellAccount_102 ?_
        refine lv_iadd hx hb dX0_tellAccount_104 ?_
        cases h
        exact fin _ _ _ _ dX0_tellAccount_105 hP hD hS
      · have h := (k_iB h).2 c4
        refine lv_aload_n hx hb dX0_tellAccount_39 rfl (lv_at hl 0 rfl) ?_
        refine va_get (ci := 0) (C := RX0) (T := TX0) (N := 7) hx hb hts hiX0 hown hK hP 0 rfl rfl 2 (by decide) (hts (.fieldLink RX0 23 "RiddleTrade$Exchange" "answers" "LRiddleTrade$Table;") (List.mem_of_getElem? (i := 2) rfl)) (fun _ h9 => h9) rfl dX0_tellAccount_40 ?_
        refine lv_iload_n hx hb dX0_tellAccount_43 rfl (lv_at hl 3 rfl) ?_
        refine lv_bipush (v := 7) hx hb dX0_tellAccount_44 (by decide) ?_
        obtain ⟨r5, hu6, h⟩ := ob1_el h
        refine kcVi (ci := 4) (q := (RX4, TX4, 3)) (ws1 := (w_X0_tellAccount cI cC h0 h1 h3 h5 h7 h9 h11 h2 h4 h6 fT fR rR fA rA rnd)) ⟨hx, hb, hml, hown, hts⟩ [5, 6] [0, 1, 2, 3, 4] (c_X4_get l D cI cC cE h5 h6 _ 320 fA 8 rA x3 7 r5 hu6) (cwV 2 hts gX0_tellAccount_X4_get rfl rfl rfl (by decide +kernel) ⟨Nat.le_of_ble_eq_true rfl, Nat.le_of_ble_eq_true rfl⟩) hK hP hD hS hA rfl rfl rfl rfl rfl rfl rfl rfl rfl hl.1 rfl (Nat.le_of_ble_eq_true rfl) dX0_tellAccount_46 ⟨Nat.le_refl 0, Nat.le_refl 0⟩ (fun H locs hP hD hS => ?_)
        refine lv_istore (lv' := [(4, .int r5), (0, .ref h0), (1, .int p1), (2, .int x2), (3, .int x3)]) hx hb dX0_tellAccount_49 hl (by decide) rfl (fun ls hl => ?_)
        refine lv_aload_n hx hb dX0_tellAccount_51 rfl (lv_at hl 1 rfl) ?_
        refine va_get (ci := 0) (C := RX0) (T := TX0) (N := 7) hx hb hts hiX0 hown hK hP 0 rfl rfl 2 (by decide) (hts (.fieldLink RX0 23 "RiddleTrade$Exchange" "answers" "LRiddleTrade$Table;") (List.mem_of_getElem? (i := 2) rfl)) (fun _ h9 => h9) rfl dX0_tellAccount_52 ?_
        refine lv_iload_n hx hb dX0_tellAccount_55 rfl (lv_at hl 4 rfl) ?_
        refine lv_iconst (v := 0) hx hb dX0_tellAccount_56 (by decide) ?_
        obtain ⟨r7, hu8, h⟩ := ob1_el h
        refine kcVi (ci := 4) (q := (RX4, TX4, 3)) (ws1 := (w_X0_tellAccount cI cC h0 h1 h3 h5 h7 h9 h11 h2 h4 h6 fT fR rR fA rA rnd)) ⟨hx, hb, hml, hown, hts⟩ [5, 6] [0, 1, 2, 3, 4] (c_X4_get l D cI cC cE h5 h6 _ 320 fA 8 rA x3 0 r7 hu8) (cwV 2 hts gX0_tellAccount_X4_get rfl rfl rfl (by decide +kernel) ⟨Nat.le_of_ble_eq_true rfl, Nat.le_of_ble_eq_true rfl⟩) hK hP hD hS hA rfl rfl rfl rfl rfl rfl rfl rfl rfl hl.1 rfl (Nat.le_of_ble_eq_true rfl) dX0_tellAccount_57 ⟨Nat.le_refl 0, Nat.le_refl 0⟩ (fun H locs hP hD hS => ?_)
        refine lv_iload_n hx hb dX0_tellAccount_60 rfl (lv_at hl 2 rfl) ?_
        refine lv_icmp_ne (tgt := 69) hx hb dX0_tellAccount_61 (by decide) (fun c9 => ?_) (fun c9 => ?_)
        · have h := (k_iB h).2 c9
          exact hJ69 (lp_X0_tellAccount_28  fT fR fA rA p1 k) ih x2 x3 r5 _ _ hP hD hS _ (lv_sub hl [1, 2, 3, 4, 0] rfl) h
        · have h := (k_iB h).1 c9
          refine lv_iload_n hx hb dX0_tellAccount_64 rfl (lv_at hl 3 rfl) ?_
          refine lv_iload hx hb dX0_tellAccount_65 (lv_at hl 0 rfl) ?_
          refine lv_iadd hx hb dX0_tellAccount_67 ?_
          refine lv_istore_n (lv' := [(2, .int (x2 + r5)), (4, .int r5), (0, .ref h0), (1, .int p1), (3, .int x3)]) hx hb dX0_tellAccount_68 rfl hl (by decide) rfl (fun ls hl => ?_)
          exact hJ69 (lp_X0_tellAccount_28  fT fR fA rA p1 k) ih (x2 + r5) x3 r5 _ _ hP hD hS _ (lv_sub hl [2, 3, 0, 4, 1] rfl) h
  dsimp only [d_X0_tellAccount] at h
  refine lv_aload_n hx hb dX0_tellAccount_0 rfl (lv_at hl 0 rfl) ?_
  refine va_get (ci := 0) (C := RX0) (T := TX0) (N := 7) hx hb hts hiX0 hown hK hP 0 rfl rfl 0 (by decide) (hts (.fieldLink RX0 16 "RiddleTrade$Exchange" "traders" "LRiddleTrade$Table;") (List.mem_of_getElem? (i := 1) rfl)) (fun _ h9 => h9) rfl dX0_tellAccount_1 ?_
  refine lv_iload_n hx hb dX0_tellAccount_4 rfl (lv_at hl 1 rfl) ?_
  refine kcVi (ci := 4) (q := (RX4, TX4, 3)) (ws1 := (w_X0_tellAccount cI cC h0 h1 h3 h5 h7 h9 h11 h2 h4 h6 fT fR rR fA rA rnd)) ⟨hx, hb, hml, hown, hts⟩ [1] [0, 2, 3, 4, 5, 6] (c_X4_has l D cI cC cE h1 h2 _ 2 8 p1 (d_X4_has p1 8) rfl) (cwV 1 hts gX0_tellAccount_X4_has rfl rfl rfl (by decide +kernel) ⟨Nat.le_of_ble_eq_true rfl, Nat.le_of_ble_eq_true rfl⟩) hK hP hD hS hA rfl rfl rfl rfl rfl rfl rfl rfl rfl hl.1 rfl (Nat.le_of_ble_eq_true rfl) dX0_tellAccount_5 ⟨Nat.le_refl 0, Nat.le_refl 0⟩ (fun H locs hP hD hS => ?_)
  refine lv_if_ne (tgt := 13) hx hb dX0_tellAccount_8 (by decide) (fun c1 => ?_) (fun c1 => ?_)
  · have h := (k_iB h).2 c1
    refine lv_bipush (v := 100) hx hb dX0_tellAccount_13 (by decide) ?_
    refine lv_aload_n hx hb dX0_tellAccount_15 rfl (lv_at hl 0 rfl) ?_
    refine va_get (ci := 0) (C := RX0) (T := TX0) (N := 7) hx hb hts hiX0 hown hK hP 0 rfl rfl 0 (by decide) (hts (.fieldLink RX0 16 "RiddleTrade$Exchange" "traders" "LRiddleTrade$Table;") (List.mem_of_getElem? (i := 1) rfl)) (fun _ h9 => h9) rfl dX0_tellAccount_16 ?_
    refine lv_iload_n hx hb dX0_tellAccount_19 rfl (lv_at hl 1 rfl) ?_
    refine lv_iconst (v := 1) hx hb dX0_tellAccount_20 (by decide) ?_
    obtain ⟨r2, hu3, h⟩ := ob1_el h
    refine kcVi (ci := 4) (q := (RX4, TX4, 3)) (ws1 := (w_X0_tellAccount cI cC h0 h1 h3 h5 h7 h9 h11 h2 h4 h6 fT fR rR fA rA rnd)) ⟨hx, hb, hml, hown, hts⟩ [1, 2] [0, 3, 4, 5, 6] (c_X4_get l D cI cC cE h1 h2 _ 16 fT 2 8 p1 1 r2 hu3) (cwV 2 hts gX0_tellAccount_X4_get rfl rfl rfl (by decide +kernel) ⟨Nat.le_of_ble_eq_true rfl, Nat.le_of_ble_eq_true rfl⟩) hK hP hD hS hA rfl rfl rfl rfl rfl rfl rfl rfl rfl hl.1 rfl (Nat.le_of_ble_eq_true rfl) dX0_tellAccount_21 ⟨Nat.le_refl 0, Nat.le_refl 0⟩ (fun H locs hP hD hS => ?_)
    refine lv_isub hx hb dX0_tellAccount_24 ?_
    refine lv_istore_n (lv' := [(2, .int (100 - r2)), (0, .ref h0), (1, .int p1)]) hx hb dX0_tellAccount_25 rfl hl (by decide) rfl (fun ls hl => ?_)
    refine lv_iconst (v := 0) hx hb dX0_tellAccount_26 (by decide) ?_
    refine lv_istore_n (lv' := [(3, .int 0), (2, .int (100 - r2)), (0, .ref h0), (1, .int p1)]) hx hb dX0_tellAccount_27 rfl hl (by decide) rfl (fun ls hl => ?_)
    exact hL28   fuel (100 - r2) 0 _ _ hP hD hS _ (lv_sub hl [2, 3, 1, 0] rfl) h
  · have h := (k_iB h).1 c1
    refine lv_iconst (v := (-1)) hx hb dX0_tellAccount_11 (by decide) ?_
    cases h
    exact fin _ _ _ _ dX0_tellAccount_12 hP hD hS
abbrev w_X0_tradersInDebt (cI cC : ClassId) (h0 h1 h3 h5 h7 h9 h11 h2 : Nat) (fT : Nat → Int32) (rnd : Int32) : va_W := [(h0, .inr (0, [.ref h1, .ref h3, .ref h5, .ref h7, .ref h9, .ref h11, .int rnd])), (h1, .inr (4, [.ref h2, .int 2, .int 8])), (h2, .inl (cI, 16, .inl fT))]
def lp_X0_tradersInDebt_4 (fT : Nat → Int32) : Nat → Int32 → Int32 → Option (Int32)
  | 0 => fun _ _ => none
  | k + 1 => fun x1 x2 =>
    if 8 ≤ x2 then (some x1)
    else (ob1 (d_X4_get 16 x2 0 fT 2) fun r2 =>
    if 0 ≤ r2 then ((lp_X0_tradersInDebt_4  fT k) x1 (x2 + 1))
    else ((lp_X0_tradersInDebt_4  fT k) (x1 + 1) (x2 + 1)))
def d_X0_tradersInDebt (fT : Nat → Int32) : Option (Int32) :=
    lp_X0_tradersInDebt_4  fT fuel 0 0
set_option maxHeartbeats 4000000 in
set_option maxRecDepth 100000 in
theorem c_X0_tradersInDebt (l : Launch) (D : va_G) (cI cC cE : ClassId) (h0 h1 h3 h5 h7 h9 h11 h2 : Nat) (sz : Nat) (fT : Nat → Int32) (rnd : Int32) (r0 : Int32) (h : d_X0_tradersInDebt fT = some r0) : Met l yX0_tradersInDebt wsX0_tradersInDebt ({ frames := 1, cells := 0, slots := 0, locals := 23 } : Room) (kP D (kT cI cC cE) [.ref h0] (w_X0_tradersInDebt cI cC h0 h1 h3 h5 h7 h9 h11 h2 fT rnd) sz) (kQi D (kT cI cC cE) (w_X0_tradersInDebt cI cC h0 h1 h3 h5 h7 h9 h11 h2 fT rnd) (w_X0_tradersInDebt cI cC h0 h1 h3 h5 h7 h9 h11 h2 fT rnd) sz r0) 0 0 (va_A (w_X0_tradersInDebt cI cC h0 h1 h3 h5 h7 h9 h11 h2 fT rnd) sz) := by
  refine kMetI (cc := cX0_tradersInDebt) (maxL := 3) (own := RX0) (by decide) rfl (Nat.le_of_ble_eq_true rfl) rfl ?_
  intro p e s m below meth c A Q hx hb hml hown hts hP hK hD hA hS hname fin ls hl
  have hl : lv_has ls 3 [(0, .ref h0)] := hl
  have hiX0 : ∀ w ∈ u_ws RX0 TX0 7, w ∈ wsX0_tradersInDebt := by decide +kernel
  have hL4 : ∀ (k : Nat), ∀ (x1 : Int32) (x2 : Int32) (H : Heap) (locs : List Loc), va_P D vwCl (w_X0_tradersInDebt cI cC h0 h1 h3 h5 h7 h9 h11 h2 fT rnd) H → va_D A (w_X0_tradersInDebt cI cC h0 h1 h3 h5 h7 h9 h11 h2 fT rnd) → va_S A s.heap H locs → ∀ (ls : Array Slot), lv_has ls 3 [(0, .ref h0), (1, .int x1), (2, .int x2)] → lp_X0_tradersInDebt_4  fT k x1 x2 = some r0 → W p l e ({ frames := 1, cells := 0, slots := 0, locals := 23 } : Room) s m [.ref h0].toArray below meth c H locs 0 0 Q (F0 m 4 ls []) := by
    intro k
    induction k with
    | zero =>
      intro x1 x2 H locs hP hD hS ls hl h
      exact k_none h
    | succ k ih =>
      intro x1 x2 H locs hP hD hS ls hl h
      dsimp only [lp_X0_tradersInDebt_4] at h
      refine lv_iload_n hx hb dX0_tradersInDebt_4 rfl (lv_at hl 2 rfl) ?_
      refine lv_bipush (v := 8) hx hb dX0_tradersInDebt_5 (by decide) ?_
      refine lv_icmp_ge (tgt := 31) hx hb dX0_tradersInDebt_7 (by decide) (fun c1 => ?_) (fun c1 => ?_)
      · have h := (k_iB h).1 c1
        refine lv_iload_n hx hb dX0_tradersInDebt_31 rfl (lv_at hl 1 rfl) ?_
        cases h
        exact fin _ _ _ _ dX0_tradersInDebt_32 hP hD hS
      · have h := (k_iB h).2 c1
        refine lv_aload_n hx hb dX0_tradersInDebt_10 rfl (lv_at hl 0 rfl) ?_
        refine va_get (ci := 0) (C := RX0) (T := TX0) (N := 7) hx hb hts hiX0 hown hK hP 0 rfl rfl 0 (by decide) (hts (.fieldLink RX0 16 "RiddleTrade$Exchange" "traders" "LRiddleTrade$Table;") (List.mem_of_getElem? (i := 1) rfl)) (fun _ h9 => h9) rfl dX0_tradersInDebt_11 ?_
        refine lv_iload_n hx hb dX0_tradersInDebt_14 rfl (lv_at hl 2 rfl) ?_
        refine lv_iconst (v := 0) hx hb dX0_tradersInDebt_15 (by decide) ?_
        obtain ⟨r2, hu3, h⟩ := ob1_el h
        refine kcVi (ci := 4) (q := (RX4, TX4, 3)) (ws1 := (w_X0_tradersInDebt cI cC h0 h1 h3 h5 h7 h9 h11 h2 fT rnd)) ⟨hx, hb, hml, hown, hts⟩ [1, 2] [0] (c_X4_get l D cI cC cE h1 h2 _ 16 fT 2 8 x2 0 r2 hu3) (cwV 2 hts gX0_tradersInDebt_X4_get rfl rfl rfl (by decide +kernel) ⟨Nat.le_of_ble_eq_true rfl, Nat.le_of_ble_eq_true rfl⟩) hK hP hD hS hA rfl rfl rfl rfl rfl rfl rfl rfl rfl hl.1 rfl (Nat.le_of_ble_eq_true rfl) dX0_tradersInDebt_16 ⟨Nat.le_refl 0, Nat.le_refl 0⟩ (fun H locs hP hD hS => ?_)
        refine lv_if_ge (tgt := 25) hx hb dX0_tradersInDebt_19 (by decide) (fun c4 => ?_) (fun c4 => ?_)
        · have h := (k_iB h).1 c4
          refine lv_iinc (v := (x2 + 1)) (lv' := [(2, .int (x2 + 1)), (0, .ref h0), (1, .int x1)]) hx hb dX0_tradersInDebt_25 hl (k := 2) rfl rfl (by decide) rfl (fun ls hl => ?_)
          refine lv_goto (tgt := 4) hx hb dX0_tradersInDebt_28 (by decide) ?_
          exact ih x1 (x2 + 1) _ _ hP hD hS _ (lv_sub hl [1, 2, 0] rfl) h
        · have h := (k_iB h).2 c4
          refine lv_iinc (v := (x1 + 1)) (lv' := [(1, .int (x1 + 1)), (0, .ref h0), (2, .int x2)]) hx hb dX0_tradersInDebt_22 hl (k := 1) rfl rfl (by decide) rfl (fun ls hl => ?_)
          refine lv_iinc (v := (x2 + 1)) (lv' := [(2, .int (x2 + 1)), (1, .int (x1 + 1)), (0, .ref h0)]) hx hb dX0_tradersInDebt_25 hl (k := 2) rfl rfl (by decide) rfl (fun ls hl => ?_)
          refine lv_goto (tgt := 4) hx hb dX0_tradersInDebt_28 (by decide) ?_
          exact ih (x1 + 1) (x2 + 1) _ _ hP hD hS _ (lv_sub hl [2, 1, 0] rfl) h
  dsimp only [d_X0_tradersInDebt] at h
  refine lv_iconst (v := 0) hx hb dX0_tradersInDebt_0 (by decide) ?_
  refine lv_istore_n (lv' := [(1, .int 0), (0, .ref h0)]) hx hb dX0_tradersInDebt_1 rfl hl (by decide) rfl (fun ls hl => ?_)
  refine lv_iconst (v := 0) hx hb dX0_tradersInDebt_2 (by decide) ?_
  refine lv_istore_n (lv' := [(2, .int 0), (1, .int 0), (0, .ref h0)]) hx hb dX0_tradersInDebt_3 rfl hl (by decide) rfl (fun ls hl => ?_)
  exact hL4   fuel 0 0 _ _ hP hD hS _ (lv_sub hl [2, 1, 0] rfl) h
abbrev w_X0_tellCount (cI cC : ClassId) (h0 h1 h3 h5 h7 h9 h11 h2 h4 h6 h8 h10 h12 : Nat) (fT : Nat → Int32) (fR : Nat → Int32) (rR : Int32) (fA : Nat → Int32) (rA : Int32) (fS : Nat → Int32) (fE : Nat → Int32) (hd : Int32) (ln : Int32) (rnd : Int32) : va_W := [(h0, .inr (0, [.ref h1, .ref h3, .ref h5, .ref h7, .ref h9, .ref h11, .int rnd])), (h1, .inr (4, [.ref h2, .int 2, .int 8])), (h2, .inl (cI, 16, .inl fT)), (h3, .inr (4, [.ref h4, .int 4, .int rR])), (h4, .inl (cI, 80, .inl fR)), (h5, .inr (4, [.ref h6, .int 8, .int rA])), (h6, .inl (cI, 320, .inl fA)), (h7, .inr (4, [.ref h8, .int 2, .int 2])), (h8, .inl (cI, 4, .inl fS)), (h9, .inr (4, [.ref h10, .int 3, .int 4])), (h10, .inl (cI, 12, .inl fE)), (h11, .inr (3, [.ref h12, .int hd, .int ln]))]
def d_X0_tellCount (p1 : Int32) (fT : Nat → Int32) (fR : Nat → Int32) (rR : Int32) (fA : Nat → Int32) (rA : Int32) (fS : Nat → Int32) (fE : Nat → Int32) (ln : Int32) (rnd : Int32) : Option (Int32) :=
    if p1 = 0 then (some rnd)
    else (if p1 = 1 then (some (d_X4_rows rR))
    else (if p1 = 2 then (ob1 (d_X4_countOf 80 3 0 fR 4 rR) fun r5 =>
    some r5)
    else (if p1 = 3 then (some (d_X4_rows rA))
    else (if p1 = 4 then (some (d_X3_length ln))
    else (if p1 = 5 then (ob1 (d_X4_countOf 320 4 1 fA 8 rA) fun r10 =>
    some r10)
    else (if p1 = 6 then (ob1 (d_X4_countOf 320 4 2 fA 8 rA) fun r13 =>
    some r13)
    else (if p1 = 7 then (ob1 (d_X4_sumOf 320 6 fA 8 rA) fun r16 =>
    some r16)
    else (if p1 = 8 then (ob1 (d_X4_sumOf 4 1 fS 2 2) fun r19 =>
    some r19)
    else (if p1 = 9 then (ob1 (d_X4_sumOf 16 1 fT 2 8) fun r22 =>
    some r22)
    else (if p1 = 10 then (ob1 (d_X0_tradersInDebt fT) fun r25 =>
    some r25)
    else (if p1 = 11 then (ob1 (d_X4_sumOf 320 7 fA 8 rA) fun r28 =>
    some r28)
    else (if p1 = 12 then (ob1 (d_X4_get 4 (p1 - 12) 0 fS 2) fun r31 =>
    some (r31 + 9))
    else (if p1 = 13 then (ob1 (d_X4_get 4 (p1 - 12) 0 fS 2) fun r34 =>
    some (r34 + 9))
    else (if p1 = 14 then (ob1 (d_X4_get 12 (p1 - 14) 0 fE 3) fun r37 =>
    some r37)
    else (if p1 = 15 then (ob1 (d_X4_get 12 (p1 - 14) 0 fE 3) fun r40 =>
    some r40)
    else (if p1 = 16 then (ob1 (d_X4_get 12 (p1 - 14) 0 fE 3) fun r43 =>
    some r43)
    else (if p1 = 17 then (ob1 (d_X4_get 12 (p1 - 14) 0 fE 3) fun r46 =>
    some r46)
    else (some (-2)))))))))))))))))))
set_option maxHeartbeats 4000000 in
set_option maxRecDepth 100000 in
theorem c_X0_tellCount (l : Launch) (D : va_G) (cI cC cE : ClassId) (h0 h1 h3 h5 h7 h9 h11 h2 h4 h6 h8 h10 h12 : Nat) (sz : Nat) (fT : Nat → Int32) (fR : Nat → Int32) (rR : Int32) (fA : Nat → Int32) (rA : Int32) (fS : Nat → Int32) (fE : Nat → Int32) (hd : Int32) (ln : Int32) (rnd : Int32) (p1 : Int32) (r0 : Int32) (h : d_X0_tellCount p1 fT fR rR fA rA fS fE ln rnd = some r0) : Met l yX0_tellCount wsX0_tellCount ({ frames := 2, cells := 0, slots := 0, locals := 47 } : Room) (kP D (kT cI cC cE) [.ref h0, .int p1] (w_X0_tellCount cI cC h0 h1 h3 h5 h7 h9 h11 h2 h4 h6 h8 h10 h12 fT fR rR fA rA fS fE hd ln rnd) sz) (kQi D (kT cI cC cE) (w_X0_tellCount cI cC h0 h1 h3 h5 h7 h9 h11 h2 h4 h6 h8 h10 h12 fT fR rR fA rA fS fE hd ln rnd) (w_X0_tellCount cI cC h0 h1 h3 h5 h7 h9 h11 h2 h4 h6 h8 h10 h12 fT fR rR fA rA fS fE hd ln rnd) sz r0) 0 0 (va_A (w_X0_tellCount cI cC h0 h1 h3 h5 h7 h9 h11 h2 h4 h6 h8 h10 h12 fT fR rR fA rA fS fE hd ln rnd) sz) := by
  refine kMetI (cc := cX0_tellCount) (maxL := 2) (own := RX0) (by decide) rfl (Nat.le_of_ble_eq_true rfl) rfl ?_
  intro p e s m below meth c A Q hx hb hml hown hts hP hK hD hA hS hname fin ls hl
  have hl : lv_has ls 2 [(0, .ref h0), (1, .int p1)] := hl
  have hiX0 : ∀ w ∈ u_ws RX0 TX0 7, w ∈ wsX0_tellCount := by decide +kernel
  dsimp only [d_X0_tellCount] at h
  refine lv_iload_n hx hb dX0_tellCount_0 rfl (lv_at hl 1 rfl) ?_
  by_cases c2 : p1 = 0
  · have h := (k_iB h).1 c2
    refine lv_tableIn (off := 87) (tgt := 88) hx hb dX0_tellCount_1 (by rw [c2]; decide) (by rw [c2]; decide) (by rw [c2]; rfl) (by decide) ?_
    refine lv_aload_n hx hb dX0_tellCount_88 rfl (lv_at hl 0 rfl) ?_
    refine va_get (ci := 0) (C := RX0) (T := TX0) (N := 7) hx hb hts hiX0 hown hK hP 0 rfl rfl 6 (by decide) (hts (.fieldLink RX0 57 "RiddleTrade$Exchange" "round" "I") (List.mem_of_getElem? (i := 1) rfl)) (fun _ h9 => h9) rfl dX0_tellCount_89 ?_
    cases h
    exact fin _ _ _ _ dX0_tellCount_92 hP hD hS
  · have h := (k_iB h).2 c2
    by_cases c3 : p1 = 1
    · have h := (k_iB h).1 c3
      refine lv_tableIn (off := 92) (tgt := 93) hx hb dX0_tellCount_1 (by rw [c3]; decide) (by rw [c3]; decide) (by rw [c3]; rfl) (by decide) ?_
      refine lv_aload_n hx hb dX0_tellCount_93 rfl (lv_at hl 0 rfl) ?_
      refine va_get (ci := 0) (C := RX0) (T := TX0) (N := 7) hx hb hts hiX0 hown hK hP 0 rfl rfl 1 (by decide) (hts (.fieldLink RX0 20 "RiddleTrade$Exchange" "riddles" "LRiddleTrade$Table;") (List.mem_of_getElem? (i := 2) rfl)) (fun _ h9 => h9) rfl dX0_tellCount_94 ?_
      refine kcVi (ci := 4) (q := (RX4, TX4, 3)) (ws1 := (w_X0_tellCount cI cC h0 h1 h3 h5 h7 h9 h11 h2 h4 h6 h8 h10 h12 fT fR rR fA rA fS fE hd ln rnd)) ⟨hx, hb, hml, hown, hts⟩ [3] [0, 1, 2, 4, 5, 6, 7, 8, 9, 10, 11] (c_X4_rows l D cI cC cE h3 h4 _ 4 rR (d_X4_rows rR) rfl) (cwV 0 hts gX0_tellCount_X4_rows rfl rfl rfl (by decide +kernel) ⟨Nat.le_of_ble_eq_true rfl, Nat.le_of_ble_eq_true rfl⟩) hK hP hD hS hA rfl rfl rfl rfl rfl rfl rfl rfl rfl hl.1 rfl (Nat.le_of_ble_eq_true rfl) dX0_tellCount_97 ⟨Nat.le_refl 0, Nat.le_refl 0⟩ (fun H locs hP hD hS => ?_)
      cases h
      exact fin _ _ _ _ dX0_tellCount_100 hP hD hS
    · have h := (k_iB h).2 c3
      by_cases c4 : p1 = 2
      · have h := (k_iB h).1 c4
        refine lv_tableIn (off := 100) (tgt := 101) hx hb dX0_tellCount_1 (by rw [c4]; decide) (by rw [c4]; decide) (by rw [c4]; rfl) (by decide) ?_
        refine lv_aload_n hx hb dX0_tellCount_101 rfl (lv_at hl 0 rfl) ?_
        refine va_get (ci := 0) (C := RX0) (T := TX0) (N := 7) hx hb hts hiX0 hown hK hP 0 rfl rfl 1 (by decide) (hts (.fieldLink RX0 20 "RiddleTrade$Exchange" "riddles" "LRiddleTrade$Table;") (List.mem_of_getElem? (i := 2) rfl)) (fun _ h9 => h9) rfl dX0_tellCount_102 ?_
        refine lv_iconst (v := 3) hx hb dX0_tellCount_105 (by decide) ?_
        refine lv_iconst (v := 0) hx hb dX0_tellCount_106 (by decide) ?_
        obtain ⟨r5, hu6, h⟩ := ob1_el h
        refine kcVi (ci := 4) (q := (RX4, TX4, 3)) (ws1 := (w_X0_tellCount cI cC h0 h1 h3 h5 h7 h9 h11 h2 h4 h6 h8 h10 h12 fT fR rR fA rA fS fE hd ln rnd)) ⟨hx, hb, hml, hown, hts⟩ [3, 4] [0, 1, 2, 5, 6, 7, 8, 9, 10, 11] (c_X4_countOf l D cI cC cE h3 h4 _ 80 fR 4 rR 3 0 r5 hu6) (cwV 2 hts gX0_tellCount_X4_countOf rfl rfl rfl (by decide +kernel) ⟨Nat.le_of_ble_eq_true rfl, Nat.le_of_ble_eq_true rfl⟩) hK hP hD hS hA rfl rfl rfl rfl rfl rfl rfl rfl rfl hl.1 rfl (Nat.le_of_ble_eq_true rfl) dX0_tellCount_107 ⟨Nat.le_refl 0, Nat.le_refl 0⟩ (fun H locs hP hD hS => ?_)
        cases h
        exact fin _ _ _ _ dX0_tellCount_110 hP hD hS
      · have h := (k_iB h).2 c4
        by_cases c7 : p1 = 3
        · have h := (k_iB h).1 c7
          refine lv_tableIn (off := 110) (tgt := 111) hx hb dX0_tellCount_1 (by rw [c7]; decide) (by rw [c7]; decide) (by rw [c7]; rfl) (by decide) ?_
          refine lv_aload_n hx hb dX0_tellCount_111 rfl (lv_at hl 0 rfl) ?_
          refine va_get (ci := 0) (C := RX0) (T := TX0) (N := 7) hx hb hts hiX0 hown hK hP 0 rfl rfl 2 (by decide) (hts (.fieldLink RX0 23 "RiddleTrade$Exchange" "answers" "LRiddleTrade$Table;") (List.mem_of_getElem? (i := 3) rfl)) (fun _ h9 => h9) rfl dX0_tellCount_112 ?_
          refine kcVi (ci := 4) (q := (RX4, TX4, 3)) (ws1 := (w_X0_tellCount cI cC h0 h1 h3 h5 h7 h9 h11 h2 h4 h6 h8 h10 h12 fT fR rR fA rA fS fE hd ln rnd)) ⟨hx, hb, hml, hown, hts⟩ [5] [0, 1, 2, 3, 4, 6, 7, 8, 9, 10, 11] (c_X4_rows l D cI cC cE h5 h6 _ 8 rA (d_X4_rows rA) rfl) (cwV 0 hts gX0_tellCount_X4_rows rfl rfl rfl (by decide +kernel) ⟨Nat.le_of_ble_eq_true rfl, Nat.le_of_ble_eq_true rfl⟩) hK hP hD hS hA rfl rfl rfl rfl rfl rfl rfl rfl rfl hl.1 rfl (Nat.le_of_ble_eq_true rfl) dX0_tellCount_115 ⟨Nat.le_refl 0, Nat.le_refl 0⟩ (fun H locs hP hD hS => ?_)
          cases h
          exact fin _ _ _ _ dX0_tellCount_118 hP hD hS
        · have h := (k_iB h).2 c7
          by_cases c8 : p1 = 4
          · have h := (k_iB h).1 c8
            refine lv_tableIn (off := 118) (tgt := 119) hx hb dX0_tellCount_1 (by rw [c8]; decide) (by rw [c8]; decide) (by rw [c8]; rfl) (by decide) ?_
            refine lv_aload_n hx hb dX0_tellCount_119 rfl (lv_at hl 0 rfl) ?_
            refine va_get (ci := 0) (C := RX0) (T := TX0) (N := 7) hx hb hts hiX0 hown hK hP 0 rfl rfl 5 (by decide) (hts (.fieldLink RX0 35 "RiddleTrade$Exchange" "row" "LRiddleTrade$Row;") (List.mem_of_getElem? (i := 4) rfl)) (fun _ h9 => h9) rfl dX0_tellCount_120 ?_
            refine kcVi (ci := 3) (q := (RX3, TX3, 3)) (ws1 := (w_X0_tellCount cI cC h0 h1 h3 h5 h7 h9 h11 h2 h4 h6 h8 h10 h12 fT fR rR fA rA fS fE hd ln rnd)) ⟨hx, hb, hml, hown, hts⟩ [11] [0, 1, 2, 3, 4, 5, 6, 7, 8, 9, 10] (c_X3_length l D cI cC cE h11 h12 _ hd ln (d_X3_length ln) rfl) (cwV 0 hts gX0_tellCount_X3_length rfl rfl rfl (by decide +kernel) ⟨Nat.le_of_ble_eq_true rfl, Nat.le_of_ble_eq_true rfl⟩) hK hP hD hS hA rfl rfl rfl rfl rfl rfl rfl rfl rfl hl.1 rfl (Nat.le_of_ble_eq_true rfl) dX0_tellCount_123 ⟨Nat.le_refl 0, Nat.le_refl 0⟩ (fun H locs hP hD hS => ?_)
            cases h
            exact fin _ _ _ _ dX0_tellCount_126 hP hD hS
          · have h := (k_iB h).2 c8
            by_cases c9 : p1 = 5
            · have h := (k_iB h).1 c9
              refine lv_tableIn (off := 126) (tgt := 127) hx hb dX0_tellCount_1 (by rw [c9]; decide) (by rw [c9]; decide) (by rw [c9]; rfl) (by decide) ?_
              refine lv_aload_n hx hb dX0_tellCount_127 rfl (lv_at hl 0 rfl) ?_
              refine va_get (ci := 0) (C := RX0) (T := TX0) (N := 7) hx hb hts hiX0 hown hK hP 0 rfl rfl 2 (by decide) (hts (.fieldLink RX0 23 "RiddleTrade$Exchange" "answers" "LRiddleTrade$Table;") (List.mem_of_getElem? (i := 3) rfl)) (fun _ h9 => h9) rfl dX0_tellCount_128 ?_
              refine lv_iconst (v := 4) hx hb dX0_tellCount_131 (by decide) ?_
              refine lv_iconst (v := 1) hx hb dX0_tellCount_132 (by decide) ?_
              obtain ⟨r10, hu11, h⟩ := ob1_el h
              refine kcVi (ci := 4) (q := (RX4, TX4, 3)) (ws1 := (w_X0_tellCount cI cC h0 h1 h3 h5 h7 h9 h11 h2 h4 h6 h8 h10 h12 fT fR rR fA rA fS fE hd ln rnd)) ⟨hx, hb, hml, hown, hts⟩ [5, 6] [0, 1, 2, 3, 4, 7, 8, 9, 10, 11] (c_X4_countOf l D cI cC cE h5 h6 _ 320 fA 8 rA 4 1 r10 hu11) (cwV 2 hts gX0_tellCount_X4_countOf rfl rfl rfl (by decide +kernel) ⟨Nat.le_of_ble_eq_true rfl, Nat.le_of_ble_eq_true rfl⟩) hK hP hD hS hA rfl rfl rfl rfl rfl rfl rfl rfl rfl hl.1 rfl (Nat.le_of_ble_eq_true rfl) dX0_tellCount_133 ⟨Nat.le_refl 0, Nat.le_refl 0⟩ (fun H locs hP hD hS => ?_)
              cases h
              exact fin _ _ _ _ dX0_tellCount_136 hP hD hS
            · have h := (k_iB h).2 c9
              by_cases c12 : p1 = 6
              · have h := (k_iB h).1 c12
                refine lv_tableIn (off := 136) (tgt := 137) hx hb dX0_tellCount_1 (by rw [c12]; decide) (by rw [c12]; decide) (by rw [c12]; rfl) (by decide) ?_
                refine lv_aload_n hx hb dX0_tellCount_137 rfl (lv_at hl 0 rfl) ?_
                refine va_get (ci := 0) (C := RX0) (T := TX0) (N := 7) hx hb hts hiX0 hown hK hP 0 rfl rfl 2 (by decide) (hts (.fieldLink RX0 23 "RiddleTrade$Exchange" "answers" "LRiddleTrade$Table;") (List.mem_of_getElem? (i := 3) rfl)) (fun _ h9 => h9) rfl dX0_tellCount_138 ?_
                refine lv_iconst (v := 4) hx hb dX0_tellCount_141 (by decide) ?_
                refine lv_iconst (v := 2) hx hb dX0_tellCount_142 (by decide) ?_
                obtain ⟨r13, hu14, h⟩ := ob1_el h
                refine kcVi (ci := 4) (q := (RX4, TX4, 3)) (ws1 := (w_X0_tellCount cI cC h0 h1 h3 h5 h7 h9 h11 h2 h4 h6 h8 h10 h12 fT fR rR fA rA fS fE hd ln rnd)) ⟨hx, hb, hml, hown, hts⟩ [5, 6] [0, 1, 2, 3, 4, 7, 8, 9, 10, 11] (c_X4_countOf l D cI cC cE h5 h6 _ 320 fA 8 rA 4 2 r13 hu14) (cwV 2 hts gX0_tellCount_X4_countOf rfl rfl rfl (by decide +kernel) ⟨Nat.le_of_ble_eq_true rfl, Nat.le_of_ble_eq_true rfl⟩) hK hP hD hS hA rfl rfl rfl rfl rfl rfl rfl rfl rfl hl.1 rfl (Nat.le_of_ble_eq_true rfl) dX0_tellCount_143 ⟨Nat.le_refl 0, Nat.le_refl 0⟩ (fun H locs hP hD hS => ?_)
                cases h
                exact fin _ _ _ _ dX0_tellCount_146 hP hD hS
              · have h := (k_iB h).2 c12
                by_cases c15 : p1 = 7
                · have h := (k_iB h).1 c15
                  refine lv_tableIn (off := 146) (tgt := 147) hx hb dX0_tellCount_1 (by rw [c15]; decide) (by rw [c15]; decide) (by rw [c15]; rfl) (by decide) ?_
                  refine lv_aload_n hx hb dX0_tellCount_147 rfl (lv_at hl 0 rfl) ?_
                  refine va_get (ci := 0) (C := RX0) (T := TX0) (N := 7) hx hb hts hiX0 hown hK hP 0 rfl rfl 2 (by decide) (hts (.fieldLink RX0 23 "RiddleTrade$Exchange" "answers" "LRiddleTrade$Table;") (List.mem_of_getElem? (i := 3) rfl)) (fun _ h9 => h9) rfl dX0_tellCount_148 ?_
                  refine lv_bipush (v := 6) hx hb dX0_tellCount_151 (by decide) ?_
                  obtain ⟨r16, hu17, h⟩ := ob1_el h
                  refine kcVi (ci := 4) (q := (RX4, TX4, 3)) (ws1 := (w_X0_tellCount cI cC h0 h1 h3 h5 h7 h9 h11 h2 h4 h6 h8 h10 h12 fT fR rR fA rA fS fE hd ln rnd)) ⟨hx, hb, hml, hown, hts⟩ [5, 6] [0, 1, 2, 3, 4, 7, 8, 9, 10, 11] (c_X4_sumOf l D cI cC cE h5 h6 _ 320 fA 8 rA 6 r16 hu17) (cwV 1 hts gX0_tellCount_X4_sumOf rfl rfl rfl (by decide +kernel) ⟨Nat.le_of_ble_eq_true rfl, Nat.le_of_ble_eq_true rfl⟩) hK hP hD hS hA rfl rfl rfl rfl rfl rfl rfl rfl rfl hl.1 rfl (Nat.le_of_ble_eq_true rfl) dX0_tellCount_153 ⟨Nat.le_refl 0, Nat.le_refl 0⟩ (fun H locs hP hD hS => ?_)
                  cases h
                  exact fin _ _ _ _ dX0_tellCount_156 hP hD hS
                · have h := (k_iB h).2 c15
                  by_cases c18 : p1 = 8
                  · have h := (k_iB h).1 c18
                    refine lv_tableIn (off := 156) (tgt := 157) hx hb dX0_tellCount_1 (by rw [c18]; decide) (by rw [c18]; decide) (by rw [c18]; rfl) (by decide) ?_
                    refine lv_aload_n hx hb dX0_tellCount_157 rfl (lv_at hl 0 rfl) ?_
                    refine va_get (ci := 0) (C := RX0) (T := TX0) (N := 7) hx hb hts hiX0 hown hK hP 0 rfl rfl 3 (by decide) (hts (.fieldLink RX0 26 "RiddleTrade$Exchange" "scales" "LRiddleTrade$Table;") (List.mem_of_getElem? (i := 5) rfl)) (fun _ h9 => h9) rfl dX0_tellCount_158 ?_
                    refine lv_iconst (v := 1) hx hb dX0_tellCount_161 (by decide) ?_
                    obtain ⟨r19, hu20, h⟩ := ob1_el h
                    refine kcVi (ci := 4) (q := (RX4, TX4, 3)) (ws1 := (w_X0_tellCount cI cC h0 h1 h3 h5 h7 h9 h11 h2 h4 h6 h8 h10 h12 fT fR rR fA rA fS fE hd ln rnd)) ⟨hx, hb, hml, hown, hts⟩ [7, 8] [0, 1, 2, 3, 4, 5, 6, 9, 10, 11] (c_X4_sumOf l D cI cC cE h7 h8 _ 4 fS 2 2 1 r19 hu20) (cwV 1 hts gX0_tellCount_X4_sumOf rfl rfl rfl (by decide +kernel) ⟨Nat.le_of_ble_eq_true rfl, Nat.le_of_ble_eq_true rfl⟩) hK hP hD hS hA rfl rfl rfl rfl rfl rfl rfl rfl rfl hl.1 rfl (Nat.le_of_ble_eq_true rfl) dX0_tellCount_162 ⟨Nat.le_refl 0, Nat.le_refl 0⟩ (fun H locs hP hD hS => ?_)
                    cases h
                    exact fin _ _ _ _ dX0_tellCount_165 hP hD hS
                  · have h := (k_iB h).2 c18
                    by_cases c21 : p1 = 9
                    · have h := (k_iB h).1 c21
                      refine lv_tableIn (off := 165) (tgt := 166) hx hb dX0_tellCount_1 (by rw [c21]; decide) (by rw [c21]; decide) (by rw [c21]; rfl) (by decide) ?_
                      refine lv_aload_n hx hb dX0_tellCount_166 rfl (lv_at hl 0 rfl) ?_
                      refine va_get (ci := 0) (C := RX0) (T := TX0) (N := 7) hx hb hts hiX0 hown hK hP 0 rfl rfl 0 (by decide) (hts (.fieldLink RX0 16 "RiddleTrade$Exchange" "traders" "LRiddleTrade$Table;") (List.mem_of_getElem? (i := 6) rfl)) (fun _ h9 => h9) rfl dX0_tellCount_167 ?_
                      refine lv_iconst (v := 1) hx hb dX0_tellCount_170 (by decide) ?_
                      obtain ⟨r22, hu23, h⟩ := ob1_el h
                      refine kcVi (ci := 4) (q := (RX4, TX4, 3)) (ws1 := (w_X0_tellCount cI cC h0 h1 h3 h5 h7 h9 h11 h2 h4 h6 h8 h10 h12 fT fR rR fA rA fS fE hd ln rnd)) ⟨hx, hb, hml, hown, hts⟩ [1, 2] [0, 3, 4, 5, 6, 7, 8, 9, 10, 11] (c_X4_sumOf l D cI cC cE h1 h2 _ 16 fT 2 8 1 r22 hu23) (cwV 1 hts gX0_tellCount_X4_sumOf rfl rfl rfl (by decide +kernel) ⟨Nat.le_of_ble_eq_true rfl, Nat.le_of_ble_eq_true rfl⟩) hK hP hD hS hA rfl rfl rfl rfl rfl rfl rfl rfl rfl hl.1 rfl (Nat.le_of_ble_eq_true rfl) dX0_tellCount_171 ⟨Nat.le_refl 0, Nat.le_refl 0⟩ (fun H locs hP hD hS => ?_)
                      cases h
                      exact fin _ _ _ _ dX0_tellCount_174 hP hD hS
                    · have h := (k_iB h).2 c21
                      by_cases c24 : p1 = 10
                      · have h := (k_iB h).1 c24
                        refine lv_tableIn (off := 174) (tgt := 175) hx hb dX0_tellCount_1 (by rw [c24]; decide) (by rw [c24]; decide) (by rw [c24]; rfl) (by decide) ?_
                        refine lv_aload_n hx hb dX0_tellCount_175 rfl (lv_at hl 0 rfl) ?_
                        obtain ⟨r25, hu26, h⟩ := ob1_el h
                        refine kcVi (ci := 0) (q := (RX0, TX0, 7)) (ws1 := (w_X0_tellCount cI cC h0 h1 h3 h5 h7 h9 h11 h2 h4 h6 h8 h10 h12 fT fR rR fA rA fS fE hd ln rnd)) ⟨hx, hb, hml, hown, hts⟩ [0, 1, 2] [3, 4, 5, 6, 7, 8, 9, 10, 11] (c_X0_tradersInDebt l D cI cC cE h0 h1 h3 h5 h7 h9 h11 h2 _ fT rnd r25 hu26) (cwV 0 hts gX0_tellCount_X0_tradersInDebt rfl rfl rfl (by decide +kernel) ⟨Nat.le_of_ble_eq_true rfl, Nat.le_of_ble_eq_true rfl⟩) hK hP hD hS hA rfl rfl rfl rfl rfl rfl rfl rfl rfl hl.1 rfl (Nat.le_of_ble_eq_true rfl) dX0_tellCount_176 ⟨Nat.le_refl 0, Nat.le_refl 0⟩ (fun H locs hP hD hS => ?_)
                        cases h
                        exact fin _ _ _ _ dX0_tellCount_179 hP hD hS
                      · have h := (k_iB h).2 c24
                        by_cases c27 : p1 = 11
                        · have h := (k_iB h).1 c27
                          refine lv_tableIn (off := 179) (tgt := 180) hx hb dX0_tellCount_1 (by rw [c27]; decide) (by rw [c27]; decide) (by rw [c27]; rfl) (by decide) ?_
                          refine lv_aload_n hx hb dX0_tellCount_180 rfl (lv_at hl 0 rfl) ?_
                          refine va_get (ci := 0) (C := RX0) (T := TX0) (N := 7) hx hb hts hiX0 hown hK hP 0 rfl rfl 2 (by decide) (hts (.fieldLink RX0 23 "RiddleTrade$Exchange" "answers" "LRiddleTrade$Table;") (List.mem_of_getElem? (i := 3) rfl)) (fun _ h9 => h9) rfl dX0_tellCount_181 ?_
                          refine lv_bipush (v := 7) hx hb dX0_tellCount_184 (by decide) ?_
                          obtain ⟨r28, hu29, h⟩ := ob1_el h
                          refine kcVi (ci := 4) (q := (RX4, TX4, 3)) (ws1 := (w_X0_tellCount cI cC h0 h1 h3 h5 h7 h9 h11 h2 h4 h6 h8 h10 h12 fT fR rR fA rA fS fE hd ln rnd)) ⟨hx, hb, hml, hown, hts⟩ [5, 6] [0, 1, 2, 3, 4, 7, 8, 9, 10, 11] (c_X4_sumOf l D cI cC cE h5 h6 _ 320 fA 8 rA 7 r28 hu29) (cwV 1 hts gX0_tellCount_X4_sumOf rfl rfl rfl (by decide +kernel) ⟨Nat.le_of_ble_eq_true rfl, Nat.le_of_ble_eq_true rfl⟩) hK hP hD hS hA rfl rfl rfl rfl rfl rfl rfl rfl rfl hl.1 rfl (Nat.le_of_ble_eq_true rfl) dX0_tellCount_186 ⟨Nat.le_refl 0, Nat.le_refl 0⟩ (fun H locs hP hD hS => ?_)
                          cases h
                          exact fin _ _ _ _ dX0_tellCount_189 hP hD hS
                        · have h := (k_iB h).2 c27
                          by_cases c30 : p1 = 12
                          · have h := (k_iB h).1 c30
                            refine lv_tableIn (off := 189) (tgt := 190) hx hb dX0_tellCount_1 (by rw [c30]; decide) (by rw [c30]; decide) (by rw [c30]; rfl) (by decide) ?_
                            refine lv_aload_n hx hb dX0_tellCount_190 rfl (lv_at hl 0 rfl) ?_
                            refine va_get (ci := 0) (C := RX0) (T := TX0) (N := 7) hx hb hts hiX0 hown hK hP 0 rfl rfl 3 (by decide) (hts (.fieldLink RX0 26 "RiddleTrade$Exchange" "scales" "LRiddleTrade$Table;") (List.mem_of_getElem? (i := 5) rfl)) (fun _ h9 => h9) rfl dX0_tellCount_191 ?_
                            refine lv_iload_n hx hb dX0_tellCount_194 rfl (lv_at hl 1 rfl) ?_
                            refine lv_bipush (v := 12) hx hb dX0_tellCount_195 (by decide) ?_
                            refine lv_isub hx hb dX0_tellCount_197 ?_
                            refine lv_iconst (v := 0) hx hb dX0_tellCount_198 (by decide) ?_
                            obtain ⟨r31, hu32, h⟩ := ob1_el h
                            refine kcVi (ci := 4) (q := (RX4, TX4, 3)) (ws1 := (w_X0_tellCount cI cC h0 h1 h3 h5 h7 h9 h11 h2 h4 h6 h8 h10 h12 fT fR rR fA rA fS fE hd ln rnd)) ⟨hx, hb, hml, hown, hts⟩ [7, 8] [0, 1, 2, 3, 4, 5, 6, 9, 10, 11] (c_X4_get l D cI cC cE h7 h8 _ 4 fS 2 2 (p1 - 12) 0 r31 hu32) (cwV 2 hts gX0_tellCount_X4_get rfl rfl rfl (by decide +kernel) ⟨Nat.le_of_ble_eq_true rfl, Nat.le_of_ble_eq_true rfl⟩) hK hP hD hS hA rfl rfl rfl rfl rfl rfl rfl rfl rfl hl.1 rfl (Nat.le_of_ble_eq_true rfl) dX0_tellCount_199 ⟨Nat.le_refl 0, Nat.le_refl 0⟩ (fun H locs hP hD hS => ?_)
                            refine lv_bipush (v := 9) hx hb dX0_tellCount_202 (by decide) ?_
                            refine lv_iadd hx hb dX0_tellCount_204 ?_
                            cases h
                            exact fin _ _ _ _ dX0_tellCount_205 hP hD hS
                          · have h := (k_iB h).2 c30
                            by_cases c33 : p1 = 13
                            · have h := (k_iB h).1 c33
                              refine lv_tableIn (off := 189) (tgt := 190) hx hb dX0_tellCount_1 (by rw [c33]; decide) (by rw [c33]; decide) (by rw [c33]; rfl) (by decide) ?_
                              refine lv_aload_n hx hb dX0_tellCount_190 rfl (lv_at hl 0 rfl) ?_
                              refine va_get (ci := 0) (C := RX0) (T := TX0) (N := 7) hx hb hts hiX0 hown hK hP 0 rfl rfl 3 (by decide) (hts (.fieldLink RX0 26 "RiddleTrade$Exchange" "scales" "LRiddleTrade$Table;") (List.mem_of_getElem? (i := 5) rfl)) (fun _ h9 => h9) rfl dX0_tellCount_191 ?_
                              refine lv_iload_n hx hb dX0_tellCount_194 rfl (lv_at hl 1 rfl) ?_
                              refine lv_bipush (v := 12) hx hb dX0_tellCount_195 (by decide) ?_
                              refine lv_isub hx hb dX0_tellCount_197 ?_
                              refine lv_iconst (v := 0) hx hb dX0_tellCount_198 (by decide) ?_
                              obtain ⟨r34, hu35, h⟩ := ob1_el h
                              refine kcVi (ci := 4) (q := (RX4, TX4, 3)) (ws1 := (w_X0_tellCount cI cC h0 h1 h3 h5 h7 h9 h11 h2 h4 h6 h8 h10 h12 fT fR rR fA rA fS fE hd ln rnd)) ⟨hx, hb, hml, hown, hts⟩ [7, 8] [0, 1, 2, 3, 4, 5, 6, 9, 10, 11] (c_X4_get l D cI cC cE h7 h8 _ 4 fS 2 2 (p1 - 12) 0 r34 hu35) (cwV 2 hts gX0_tellCount_X4_get rfl rfl rfl (by decide +kernel) ⟨Nat.le_of_ble_eq_true rfl, Nat.le_of_ble_eq_true rfl⟩) hK hP hD hS hA rfl rfl rfl rfl rfl rfl rfl rfl rfl hl.1 rfl (Nat.le_of_ble_eq_true rfl) dX0_tellCount_199 ⟨Nat.le_refl 0, Nat.le_refl 0⟩ (fun H locs hP hD hS => ?_)
                              refine lv_bipush (v := 9) hx hb dX0_tellCount_202 (by decide) ?_
                              refine lv_iadd hx hb dX0_tellCount_204 ?_
                              cases h
                              exact fin _ _ _ _ dX0_tellCount_205 hP hD hS
                            · have h := (k_iB h).2 c33
                              by_cases c36 : p1 = 14
                              · have h := (k_iB h).1 c36
                                refine lv_tableIn (off := 205) (tgt := 206) hx hb dX0_tellCount_1 (by rw [c36]; decide) (by rw [c36]; decide) (by rw [c36]; rfl) (by decide) ?_
                                refine lv_aload_n hx hb dX0_tellCount_206 rfl (lv_at hl 0 rfl) ?_
                                refine va_get (ci := 0) (C := RX0) (T := TX0) (N := 7) hx hb hts hiX0 hown hK hP 0 rfl rfl 4 (by decide) (hts (.fieldLink RX0 29 "RiddleTrade$Exchange" "settings" "LRiddleTrade$Table;") (List.mem_of_getElem? (i := 7) rfl)) (fun _ h9 => h9) rfl dX0_tellCount_207 ?_
                                refine lv_iload_n hx hb dX0_tellCount_210 rfl (lv_at hl 1 rfl) ?_
                                refine lv_bipush (v := 14) hx hb dX0_tellCount_211 (by decide) ?_
                                refine lv_isub hx hb dX0_tellCount_213 ?_
                                refine lv_iconst (v := 0) hx hb dX0_tellCount_214 (by decide) ?_
                                obtain ⟨r37, hu38, h⟩ := ob1_el h
                                refine kcVi (ci := 4) (q := (RX4, TX4, 3)) (ws1 := (w_X0_tellCount cI cC h0 h1 h3 h5 h7 h9 h11 h2 h4 h6 h8 h10 h12 fT fR rR fA rA fS fE hd ln rnd)) ⟨hx, hb, hml, hown, hts⟩ [9, 10] [0, 1, 2, 3, 4, 5, 6, 7, 8, 11] (c_X4_get l D cI cC cE h9 h10 _ 12 fE 3 4 (p1 - 14) 0 r37 hu38) (cwV 2 hts gX0_tellCount_X4_get rfl rfl rfl (by decide +kernel) ⟨Nat.le_of_ble_eq_true rfl, Nat.le_of_ble_eq_true rfl⟩) hK hP hD hS hA rfl rfl rfl rfl rfl rfl rfl rfl rfl hl.1 rfl (Nat.le_of_ble_eq_true rfl) dX0_tellCount_215 ⟨Nat.le_refl 0, Nat.le_refl 0⟩ (fun H locs hP hD hS => ?_)
                                cases h
                                exact fin _ _ _ _ dX0_tellCount_218 hP hD hS
                              · have h := (k_iB h).2 c36
                                by_cases c39 : p1 = 15
                                · have h := (k_iB h).1 c39
                                  refine lv_tableIn (off := 205) (tgt := 206) hx hb dX0_tellCount_1 (by rw [c39]; decide) (by rw [c39]; decide) (by rw [c39]; rfl) (by decide) ?_
                                  refine lv_aload_n hx hb dX0_tellCount_206 rfl (lv_at hl 0 rfl) ?_
                                  refine va_get (ci := 0) (C := RX0) (T := TX0) (N := 7) hx hb hts hiX0 hown hK hP 0 rfl rfl 4 (by decide) (hts (.fieldLink RX0 29 "RiddleTrade$Exchange" "settings" "LRiddleTrade$Table;") (List.mem_of_getElem? (i := 7) rfl)) (fun _ h9 => h9) rfl dX0_tellCount_207 ?_
                                  refine lv_iload_n hx hb dX0_tellCount_210 rfl (lv_at hl 1 rfl) ?_
                                  refine lv_bipush (v := 14) hx hb dX0_tellCount_211 (by decide) ?_
                                  refine lv_isub hx hb dX0_tellCount_213 ?_
                                  refine lv_iconst (v := 0) hx hb dX0_tellCount_214 (by decide) ?_
                                  obtain ⟨r40, hu41, h⟩ := ob1_el h
                                  refine kcVi (ci := 4) (q := (RX4, TX4, 3)) (ws1 := (w_X0_tellCount cI cC h0 h1 h3 h5 h7 h9 h11 h2 h4 h6 h8 h10 h12 fT fR rR fA rA fS fE hd ln rnd)) ⟨hx, hb, hml, hown, hts⟩ [9, 10] [0, 1, 2, 3, 4, 5, 6, 7, 8, 11] (c_X4_get l D cI cC cE h9 h10 _ 12 fE 3 4 (p1 - 14) 0 r40 hu41) (cwV 2 hts gX0_tellCount_X4_get rfl rfl rfl (by decide +kernel) ⟨Nat.le_of_ble_eq_true rfl, Nat.le_of_ble_eq_true rfl⟩) hK hP hD hS hA rfl rfl rfl rfl rfl rfl rfl rfl rfl hl.1 rfl (Nat.le_of_ble_eq_true rfl) dX0_tellCount_215 ⟨Nat.le_refl 0, Nat.le_refl 0⟩ (fun H locs hP hD hS => ?_)
                                  cases h
                                  exact fin _ _ _ _ dX0_tellCount_218 hP hD hS
                                · have h := (k_iB h).2 c39
                                  by_cases c42 : p1 = 16
                                  · have h := (k_iB h).1 c42
                                    refine lv_tableIn (off := 205) (tgt := 206) hx hb dX0_tellCount_1 (by rw [c42]; decide) (by rw [c42]; decide) (by rw [c42]; rfl) (by decide) ?_
                                    refine lv_aload_n hx hb dX0_tellCount_206 rfl (lv_at hl 0 rfl) ?_
                                    refine va_get (ci := 0) (C := RX0) (T := TX0) (N := 7) hx hb hts hiX0 hown hK hP 0 rfl rfl 4 (by decide) (hts (.fieldLink RX0 29 "RiddleTrade$Exchange" "settings" "LRiddleTrade$Table;") (List.mem_of_getElem? (i := 7) rfl)) (fun _ h9 => h9) rfl dX0_tellCount_207 ?_
                                    refine lv_iload_n hx hb dX0_tellCount_210 rfl (lv_at hl 1 rfl) ?_
                                    refine lv_bipush (v := 14) hx hb dX0_tellCount_211 (by decide) ?_
                                    refine lv_isub hx hb dX0_tellCount_213 ?_
                                    refine lv_iconst (v := 0) hx hb dX0_tellCount_214 (by decide) ?_
                                    obtain ⟨r43, hu44, h⟩ := ob1_el h
                                    refine kcVi (ci := 4) (q := (RX4, TX4, 3)) (ws1 := (w_X0_tellCount cI cC h0 h1 h3 h5 h7 h9 h11 h2 h4 h6 h8 h10 h12 fT fR rR fA rA fS fE hd ln rnd)) ⟨hx, hb, hml, hown, hts⟩ [9, 10] [0, 1, 2, 3, 4, 5, 6, 7, 8, 11] (c_X4_get l D cI cC cE h9 h10 _ 12 fE 3 4 (p1 - 14) 0 r43 hu44) (cwV 2 hts gX0_tellCount_X4_get rfl rfl rfl (by decide +kernel) ⟨Nat.le_of_ble_eq_true rfl, Nat.le_of_ble_eq_true rfl⟩) hK hP hD hS hA rfl rfl rfl rfl rfl rfl rfl rfl rfl hl.1 rfl (Nat.le_of_ble_eq_true rfl) dX0_tellCount_215 ⟨Nat.le_refl 0, Nat.le_refl 0⟩ (fun H locs hP hD hS => ?_)
                                    cases h
                                    exact fin _ _ _ _ dX0_tellCount_218 hP hD hS
                                  · have h := (k_iB h).2 c42
                                    by_cases c45 : p1 = 17
                                    · have h := (k_iB h).1 c45
                                      refine lv_tableIn (off := 205) (tgt := 206) hx hb dX0_tellCount_1 (by rw [c45]; decide) (by rw [c45]; decide) (by rw [c45]; rfl) (by decide) ?_
                                      refine lv_aload_n hx hb dX0_tellCount_206 rfl (lv_at hl 0 rfl) ?_
                                      refine va_get (ci := 0) (C := RX0) (T := TX0) (N := 7) hx hb hts hiX0 hown hK hP 0 rfl rfl 4 (by decide) (hts (.fieldLink RX0 29 "RiddleTrade$Exchange" "settings" "LRiddleTrade$Table;") (List.mem_of_getElem? (i := 7) rfl)) (fun _ h9 => h9) rfl dX0_tellCount_207 ?_
                                      refine lv_iload_n hx hb dX0_tellCount_210 rfl (lv_at hl 1 rfl) ?_
                                      refine lv_bipush (v := 14) hx hb dX0_tellCount_211 (by decide) ?_
                                      refine lv_isub hx hb dX0_tellCount_213 ?_
                                      refine lv_iconst (v := 0) hx hb dX0_tellCount_214 (by decide) ?_
                                      obtain ⟨r46, hu47, h⟩ := ob1_el h
                                      refine kcVi (ci := 4) (q := (RX4, TX4, 3)) (ws1 := (w_X0_tellCount cI cC h0 h1 h3 h5 h7 h9 h11 h2 h4 h6 h8 h10 h12 fT fR rR fA rA fS fE hd ln rnd)) ⟨hx, hb, hml, hown, hts⟩ [9, 10] [0, 1, 2, 3, 4, 5, 6, 7, 8, 11] (c_X4_get l D cI cC cE h9 h10 _ 12 fE 3 4 (p1 - 14) 0 r46 hu47) (cwV 2 hts gX0_tellCount_X4_get rfl rfl rfl (by decide +kernel) ⟨Nat.le_of_ble_eq_true rfl, Nat.le_of_ble_eq_true rfl⟩) hK hP hD hS hA rfl rfl rfl rfl rfl rfl rfl rfl rfl hl.1 rfl (Nat.le_of_ble_eq_true rfl) dX0_tellCount_215 ⟨Nat.le_refl 0, Nat.le_refl 0⟩ (fun H locs hP hD hS => ?_)
                                      cases h
                                      exact fin _ _ _ _ dX0_tellCount_218 hP hD hS
                                    · have h := (k_iB h).2 c45
                                      refine lv_tableOut (tgt := 219) hx hb dX0_tellCount_1 (by have zc2 := lv_neT c2 (show ((0 : Int32)).toInt = 0 from rfl); have zc3 := lv_neT c3 (show ((1 : Int32)).toInt = 1 from rfl); have zc4 := lv_neT c4 (show ((2 : Int32)).toInt = 2 from rfl); have zc7 := lv_neT c7 (show ((3 : Int32)).toInt = 3 from rfl); have zc8 := lv_neT c8 (show ((4 : Int32)).toInt = 4 from rfl); have zc9 := lv_neT c9 (show ((5 : Int32)).toInt = 5 from rfl); have zc12 := lv_neT c12 (show ((6 : Int32)).toInt = 6 from rfl); have zc15 := lv_neT c15 (show ((7 : Int32)).toInt = 7 from rfl); have zc18 := lv_neT c18 (show ((8 : Int32)).toInt = 8 from rfl); have zc21 := lv_neT c21 (show ((9 : Int32)).toInt = 9 from rfl); have zc24 := lv_neT c24 (show ((10 : Int32)).toInt = 10 from rfl); have zc27 := lv_neT c27 (show ((11 : Int32)).toInt = 11 from rfl); have zc30 := lv_neT c30 (show ((12 : Int32)).toInt = 12 from rfl); have zc33 := lv_neT c33 (show ((13 : Int32)).toInt = 13 from rfl); have zc36 := lv_neT c36 (show ((14 : Int32)).toInt = 14 from rfl); have zc39 := lv_neT c39 (show ((15 : Int32)).toInt = 15 from rfl); have zc42 := lv_neT c42 (show ((16 : Int32)).toInt = 16 from rfl); have zc45 := lv_neT c45 (show ((17 : Int32)).toInt = 17 from rfl); omega) (by decide) ?_
                                      refine lv_bipush (v := (-2)) hx hb dX0_tellCount_219 (by decide) ?_
                                      cases h
                                      exact fin _ _ _ _ dX0_tellCount_221 hP hD hS
end
