section
-- ===== PART A: goes FIRST, ahead of the names: the tables' words, and 'selects' of the private methods out of them =====
/-- a private method of a class that the tables say can be made, by its rows of tables_1 -/
def lw_okq (q : MethodName × Nat) : Prop := (q.1.cls ≠ "java/lang/invoke/MethodHandle" ∧ q.1.cls ≠ "java/lang/invoke/VarHandle") ∧ Cond.instantiable q.1.cls q.2 ∈ tables_1 ∧ Cond.privateMethod q.1 ∈ tables_1 ∧ Cond.instanceMethod q.1 ∈ tables_1
theorem lw_p0 : lw_okq (⟨"EssayBones$Tape", "append", "(I)V"⟩, 2) := ⟨⟨by decide +kernel, by decide +kernel⟩, List.mem_of_getElem? (i := 27) (by decide +kernel), List.mem_of_getElem? (i := 383) (by decide +kernel), List.mem_of_getElem? (i := 384) (by decide +kernel)⟩
theorem lw_p1 : lw_okq (⟨"EssayBones", "toggle", "(LEssayBones$WordTable;)I"⟩, 16) := ⟨⟨by decide +kernel, by decide +kernel⟩, List.mem_of_getElem? (i := 19) (by decide +kernel), List.mem_of_getElem? (i := 395) (by decide +kernel), List.mem_of_getElem? (i := 396) (by decide +kernel)⟩
theorem lw_p2 : lw_okq (⟨"EssayBones$Tape", "takeWord", "(I)I"⟩, 2) := ⟨⟨by decide +kernel, by decide +kernel⟩, List.mem_of_getElem? (i := 27) (by decide +kernel), List.mem_of_getElem? (i := 399) (by decide +kernel), List.mem_of_getElem? (i := 400) (by decide +kernel)⟩
theorem lw_p3 : lw_okq (⟨"EssayBones$WordTable", "find", "([III)I"⟩, 6) := ⟨⟨by decide +kernel, by decide +kernel⟩, List.mem_of_getElem? (i := 45) (by decide +kernel), List.mem_of_getElem? (i := 409) (by decide +kernel), List.mem_of_getElem? (i := 410) (by decide +kernel)⟩
theorem lw_p4 : lw_okq (⟨"EssayBones$WordTable", "isAt", "(I[II)Z"⟩, 6) := ⟨⟨by decide +kernel, by decide +kernel⟩, List.mem_of_getElem? (i := 45) (by decide +kernel), List.mem_of_getElem? (i := 413) (by decide +kernel), List.mem_of_getElem? (i := 414) (by decide +kernel)⟩
theorem lw_p5 : lw_okq (⟨"EssayBones$WordTable", "drop", "(I)V"⟩, 6) := ⟨⟨by decide +kernel, by decide +kernel⟩, List.mem_of_getElem? (i := 45) (by decide +kernel), List.mem_of_getElem? (i := 417) (by decide +kernel), List.mem_of_getElem? (i := 418) (by decide +kernel)⟩
theorem lw_p6 : lw_okq (⟨"EssayBones$WordTable", "isFull", "()Z"⟩, 6) := ⟨⟨by decide +kernel, by decide +kernel⟩, List.mem_of_getElem? (i := 45) (by decide +kernel), List.mem_of_getElem? (i := 424) (by decide +kernel), List.mem_of_getElem? (i := 425) (by decide +kernel)⟩
theorem lw_p7 : lw_okq (⟨"EssayBones$WordTable", "add", "([III)V"⟩, 6) := ⟨⟨by decide +kernel, by decide +kernel⟩, List.mem_of_getElem? (i := 45) (by decide +kernel), List.mem_of_getElem? (i := 428) (by decide +kernel), List.mem_of_getElem? (i := 429) (by decide +kernel)⟩
theorem lw_p8 : lw_okq (⟨"EssayBones$Scanner", "scan", "(LEssayBones$Tape;LEssayBones$Text;)V"⟩, 7) := ⟨⟨by decide +kernel, by decide +kernel⟩, List.mem_of_getElem? (i := 74) (by decide +kernel), List.mem_of_getElem? (i := 448) (by decide +kernel), List.mem_of_getElem? (i := 449) (by decide +kernel)⟩
theorem lw_p9 : lw_okq (⟨"EssayBones$Scanner", "clear", "(LEssayBones$Text;)V"⟩, 7) := ⟨⟨by decide +kernel, by decide +kernel⟩, List.mem_of_getElem? (i := 74) (by decide +kernel), List.mem_of_getElem? (i := 452) (by decide +kernel), List.mem_of_getElem? (i := 453) (by decide +kernel)⟩
theorem lw_p10 : lw_okq (⟨"EssayBones$Scanner", "takeLetter", "(LEssayBones$Text;I)V"⟩, 7) := ⟨⟨by decide +kernel, by decide +kernel⟩, List.mem_of_getElem? (i := 74) (by decide +kernel), List.mem_of_getElem? (i := 458) (by decide +kernel), List.mem_of_getElem? (i := 459) (by decide +kernel)⟩
theorem lw_p11 : lw_okq (⟨"EssayBones$Scanner", "startWord", "(LEssayBones$Text;I)V"⟩, 7) := ⟨⟨by decide +kernel, by decide +kernel⟩, List.mem_of_getElem? (i := 74) (by decide +kernel), List.mem_of_getElem? (i := 462) (by decide +kernel), List.mem_of_getElem? (i := 463) (by decide +kernel)⟩
theorem lw_p12 : lw_okq (⟨"EssayBones$Scanner", "startSentence", "(LEssayBones$Text;I)V"⟩, 7) := ⟨⟨by decide +kernel, by decide +kernel⟩, List.mem_of_getElem? (i := 74) (by decide +kernel), List.mem_of_getElem? (i := 466) (by decide +kernel), List.mem_of_getElem? (i := 467) (by decide +kernel)⟩
theorem lw_p13 : lw_okq (⟨"EssayBones$Scanner", "note", "(II)V"⟩, 7) := ⟨⟨by decide +kernel, by decide +kernel⟩, List.mem_of_getElem? (i := 74) (by decide +kernel), List.mem_of_getElem? (i := 470) (by decide +kernel), List.mem_of_getElem? (i := 471) (by decide +kernel)⟩
theorem lw_p14 : lw_okq (⟨"EssayBones$Scanner", "takeMark", "(LEssayBones$Text;II)V"⟩, 7) := ⟨⟨by decide +kernel, by decide +kernel⟩, List.mem_of_getElem? (i := 74) (by decide +kernel), List.mem_of_getElem? (i := 474) (by decide +kernel), List.mem_of_getElem? (i := 475) (by decide +kernel)⟩
theorem lw_p15 : lw_okq (⟨"EssayBones$Scanner", "takeLineEnd", "(LEssayBones$Text;)V"⟩, 7) := ⟨⟨by decide +kernel, by decide +kernel⟩, List.mem_of_getElem? (i := 74) (by decide +kernel), List.mem_of_getElem? (i := 478) (by decide +kernel), List.mem_of_getElem? (i := 479) (by decide +kernel)⟩
def lw_privs_1 : List (MethodName × Nat) := [(⟨"EssayBones$Tape", "append", "(I)V"⟩, 2), (⟨"EssayBones", "toggle", "(LEssayBones$WordTable;)I"⟩, 16), (⟨"EssayBones$Tape", "takeWord", "(I)I"⟩, 2), (⟨"EssayBones$WordTable", "find", "([III)I"⟩, 6), (⟨"EssayBones$WordTable", "isAt", "(I[II)Z"⟩, 6), (⟨"EssayBones$WordTable", "drop", "(I)V"⟩, 6), (⟨"EssayBones$WordTable", "isFull", "()Z"⟩, 6), (⟨"EssayBones$WordTable", "add", "([III)V"⟩, 6), (⟨"EssayBones$Scanner", "scan", "(LEssayBones$Tape;LEssayBones$Text;)V"⟩, 7), (⟨"EssayBones$Scanner", "clear", "(LEssayBones$Text;)V"⟩, 7), (⟨"EssayBones$Scanner", "takeLetter", "(LEssayBones$Text;I)V"⟩, 7), (⟨"EssayBones$Scanner", "startWord", "(LEssayBones$Text;I)V"⟩, 7), (⟨"EssayBones$Scanner", "startSentence", "(LEssayBones$Text;I)V"⟩, 7), (⟨"EssayBones$Scanner", "note", "(II)V"⟩, 7), (⟨"EssayBones$Scanner", "takeMark", "(LEssayBones$Text;II)V"⟩, 7), (⟨"EssayBones$Scanner", "takeLineEnd", "(LEssayBones$Text;)V"⟩, 7)]
theorem lw_r1 : ∀ q ∈ lw_privs_1, lw_okq q := List.forall_mem_cons.mpr ⟨lw_p0, List.forall_mem_cons.mpr ⟨lw_p1, List.forall_mem_cons.mpr ⟨lw_p2, List.forall_mem_cons.mpr ⟨lw_p3, List.forall_mem_cons.mpr ⟨lw_p4, List.forall_mem_cons.mpr ⟨lw_p5, List.forall_mem_cons.mpr ⟨lw_p6, List.forall_mem_cons.mpr ⟨lw_p7, List.forall_mem_cons.mpr ⟨lw_p8, List.forall_mem_cons.mpr ⟨lw_p9, List.forall_mem_cons.mpr ⟨lw_p10, List.forall_mem_cons.mpr ⟨lw_p11, List.forall_mem_cons.mpr ⟨lw_p12, List.forall_mem_cons.mpr ⟨lw_p13, List.forall_mem_cons.mpr ⟨lw_p14, List.forall_mem_cons.mpr ⟨lw_p15, fun _ h => absurd h List.not_mem_nil⟩⟩⟩⟩⟩⟩⟩⟩⟩⟩⟩⟩⟩⟩⟩⟩
theorem lw_p16 : lw_okq (⟨"EssayBones$Scanner", "takeSentenceEnd", "(I)V"⟩, 7) := ⟨⟨by decide +kernel, by decide +kernel⟩, List.mem_of_getElem? (i := 74) (by decide +kernel), List.mem_of_getElem? (i := 482) (by decide +kernel), List.mem_of_getElem? (i := 483) (by decide +kernel)⟩
theorem lw_p17 : lw_okq (⟨"EssayBones$Places", "reset", "(I)V"⟩, 4) := ⟨⟨by decide +kernel, by decide +kernel⟩, List.mem_of_getElem? (i := 193) (by decide +kernel), List.mem_of_getElem? (i := 486) (by decide +kernel), List.mem_of_getElem? (i := 487) (by decide +kernel)⟩
theorem lw_p18 : lw_okq (⟨"EssayBones", "isNoSentence", "(I)Z"⟩, 16) := ⟨⟨by decide +kernel, by decide +kernel⟩, List.mem_of_getElem? (i := 19) (by decide +kernel), List.mem_of_getElem? (i := 501) (by decide +kernel), List.mem_of_getElem? (i := 502) (by decide +kernel)⟩
theorem lw_p19 : lw_okq (⟨"EssayBones", "refresh", "()V"⟩, 16) := ⟨⟨by decide +kernel, by decide +kernel⟩, List.mem_of_getElem? (i := 19) (by decide +kernel), List.mem_of_getElem? (i := 505) (by decide +kernel), List.mem_of_getElem? (i := 506) (by decide +kernel)⟩
theorem lw_p20 : lw_okq (⟨"EssayBones", "refreshKeys", "()V"⟩, 16) := ⟨⟨by decide +kernel, by decide +kernel⟩, List.mem_of_getElem? (i := 19) (by decide +kernel), List.mem_of_getElem? (i := 509) (by decide +kernel), List.mem_of_getElem? (i := 510) (by decide +kernel)⟩
theorem lw_p21 : lw_okq (⟨"EssayBones$Keys", "gather", "(LEssayBones$Text;LEssayBones$WordTable;LEssayBones$WordTable;LEssayBones$WordTable;)V"⟩, 9) := ⟨⟨by decide +kernel, by decide +kernel⟩, List.mem_of_getElem? (i := 155) (by decide +kernel), List.mem_of_getElem? (i := 513) (by decide +kernel), List.mem_of_getElem? (i := 514) (by decide +kernel)⟩
theorem lw_p22 : lw_okq (⟨"EssayBones$Keys", "takeWord", "(LEssayBones$Text;IILEssayBones$WordTable;LEssayBones$WordTable;)V"⟩, 9) := ⟨⟨by decide +kernel, by decide +kernel⟩, List.mem_of_getElem? (i := 155) (by decide +kernel), List.mem_of_getElem? (i := 524) (by decide +kernel), List.mem_of_getElem? (i := 525) (by decide +kernel)⟩
theorem lw_p23 : lw_okq (⟨"EssayBones$WordTable", "lengthWithout", "([III)I"⟩, 6) := ⟨⟨by decide +kernel, by decide +kernel⟩, List.mem_of_getElem? (i := 45) (by decide +kernel), List.mem_of_getElem? (i := 528) (by decide +kernel), List.mem_of_getElem? (i := 529) (by decide +kernel)⟩
theorem lw_p24 : lw_okq (⟨"EssayBones$Keys", "keyOf", "([III)I"⟩, 9) := ⟨⟨by decide +kernel, by decide +kernel⟩, List.mem_of_getElem? (i := 155) (by decide +kernel), List.mem_of_getElem? (i := 532) (by decide +kernel), List.mem_of_getElem? (i := 533) (by decide +kernel)⟩
theorem lw_p25 : lw_okq (⟨"EssayBones$Keys", "addKey", "(III)I"⟩, 9) := ⟨⟨by decide +kernel, by decide +kernel⟩, List.mem_of_getElem? (i := 155) (by decide +kernel), List.mem_of_getElem? (i := 539) (by decide +kernel), List.mem_of_getElem? (i := 540) (by decide +kernel)⟩
theorem lw_p26 : lw_okq (⟨"EssayBones$Keys", "compare", "(I)V"⟩, 9) := ⟨⟨by decide +kernel, by decide +kernel⟩, List.mem_of_getElem? (i := 155) (by decide +kernel), List.mem_of_getElem? (i := 543) (by decide +kernel), List.mem_of_getElem? (i := 544) (by decide +kernel)⟩
theorem lw_p27 : lw_okq (⟨"EssayBones$Keys", "longsUsed", "()I"⟩, 9) := ⟨⟨by decide +kernel, by decide +kernel⟩, List.mem_of_getElem? (i := 155) (by decide +kernel), List.mem_of_getElem? (i := 547) (by decide +kernel), List.mem_of_getElem? (i := 548) (by decide +kernel)⟩
theorem lw_p28 : lw_okq (⟨"EssayBones", "growTree", "()V"⟩, 16) := ⟨⟨by decide +kernel, by decide +kernel⟩, List.mem_of_getElem? (i := 19) (by decide +kernel), List.mem_of_getElem? (i := 557) (by decide +kernel), List.mem_of_getElem? (i := 558) (by decide +kernel)⟩
theorem lw_p29 : lw_okq (⟨"EssayBones", "kindAt", "(I)I"⟩, 16) := ⟨⟨by decide +kernel, by decide +kernel⟩, List.mem_of_getElem? (i := 19) (by decide +kernel), List.mem_of_getElem? (i := 561) (by decide +kernel), List.mem_of_getElem? (i := 562) (by decide +kernel)⟩
theorem lw_p30 : lw_okq (⟨"EssayBones", "hangCost", "(II)I"⟩, 16) := ⟨⟨by decide +kernel, by decide +kernel⟩, List.mem_of_getElem? (i := 19) (by decide +kernel), List.mem_of_getElem? (i := 568) (by decide +kernel), List.mem_of_getElem? (i := 569) (by decide +kernel)⟩
theorem lw_p31 : lw_okq (⟨"EssayBones", "sharedKeys", "(II)I"⟩, 16) := ⟨⟨by decide +kernel, by decide +kernel⟩, List.mem_of_getElem? (i := 19) (by decide +kernel), List.mem_of_getElem? (i := 575) (by decide +kernel), List.mem_of_getElem? (i := 576) (by decide +kernel)⟩
def lw_privs_2 : List (MethodName × Nat) := [(⟨"EssayBones$Scanner", "takeSentenceEnd", "(I)V"⟩, 7), (⟨"EssayBones$Places", "reset", "(I)V"⟩, 4), (⟨"EssayBones", "isNoSentence", "(I)Z"⟩, 16), (⟨"EssayBones", "refresh", "()V"⟩, 16), (⟨"EssayBones", "refreshKeys", "()V"⟩, 16), (⟨"EssayBones$Keys", "gather", "(LEssayBones$Text;LEssayBones$WordTable;LEssayBones$WordTable;LEssayBones$WordTable;)V"⟩, 9), (⟨"EssayBones$Keys", "takeWord", "(LEssayBones$Text;IILEssayBones$WordTable;LEssayBones$WordTable;)V"⟩, 9), (⟨"EssayBones$WordTable", "lengthWithout", "([III)I"⟩, 6), (⟨"EssayBones$Keys", "keyOf", "([III)I"⟩, 9), (⟨"EssayBones$Keys", "addKey", "(III)I"⟩, 9), (⟨"EssayBones$Keys", "compare", "(I)V"⟩, 9), (⟨"EssayBones$Keys", "longsUsed", "()I"⟩, 9), (⟨"EssayBones", "growTree", "()V"⟩, 16), (⟨"EssayBones", "kindAt", "(I)I"⟩, 16), (⟨"EssayBones", "hangCost", "(II)I"⟩, 16), (⟨"EssayBones", "sharedKeys", "(II)I"⟩, 16)]
theorem lw_r2 : ∀ q ∈ lw_privs_2, lw_okq q := List.forall_mem_cons.mpr ⟨lw_p16, List.forall_mem_cons.mpr ⟨lw_p17, List.forall_mem_cons.mpr ⟨lw_p18, List.forall_mem_cons.mpr ⟨lw_p19, List.forall_mem_cons.mpr ⟨lw_p20, List.forall_mem_cons.mpr ⟨lw_p21, List.forall_mem_cons.mpr ⟨lw_p22, List.forall_mem_cons.mpr ⟨lw_p23, List.forall_mem_cons.mpr ⟨lw_p24, List.forall_mem_cons.mpr ⟨lw_p25, List.forall_mem_cons.mpr ⟨lw_p26, List.forall_mem_cons.mpr ⟨lw_p27, List.forall_mem_cons.mpr ⟨lw_p28, List.forall_mem_cons.mpr ⟨lw_p29, List.forall_mem_cons.mpr ⟨lw_p30, List.forall_mem_cons.mpr ⟨lw_p31, fun _ h => absurd h List.not_mem_nil⟩⟩⟩⟩⟩⟩⟩⟩⟩⟩⟩⟩⟩⟩⟩⟩
theorem lw_p32 : lw_okq (⟨"EssayBones", "isAgainstSign", "(II)Z"⟩, 16) := ⟨⟨by decide +kernel, by decide +kernel⟩, List.mem_of_getElem? (i := 19) (by decide +kernel), List.mem_of_getElem? (i := 580) (by decide +kernel), List.mem_of_getElem? (i := 581) (by decide +kernel)⟩
theorem lw_p33 : lw_okq (⟨"EssayBones$Forest", "grow", "(I)V"⟩, 6) := ⟨⟨by decide +kernel, by decide +kernel⟩, List.mem_of_getElem? (i := 213) (by decide +kernel), List.mem_of_getElem? (i := 584) (by decide +kernel), List.mem_of_getElem? (i := 585) (by decide +kernel)⟩
theorem lw_p34 : lw_okq (⟨"EssayBones$Forest", "setAlone", "(I)V"⟩, 6) := ⟨⟨by decide +kernel, by decide +kernel⟩, List.mem_of_getElem? (i := 213) (by decide +kernel), List.mem_of_getElem? (i := 591) (by decide +kernel), List.mem_of_getElem? (i := 592) (by decide +kernel)⟩
theorem lw_p35 : lw_okq (⟨"EssayBones$Forest", "setEmpty", "(I)V"⟩, 6) := ⟨⟨by decide +kernel, by decide +kernel⟩, List.mem_of_getElem? (i := 213) (by decide +kernel), List.mem_of_getElem? (i := 595) (by decide +kernel), List.mem_of_getElem? (i := 596) (by decide +kernel)⟩
theorem lw_p36 : lw_okq (⟨"EssayBones$Forest", "fillSpan", "(II)V"⟩, 6) := ⟨⟨by decide +kernel, by decide +kernel⟩, List.mem_of_getElem? (i := 213) (by decide +kernel), List.mem_of_getElem? (i := 600) (by decide +kernel), List.mem_of_getElem? (i := 601) (by decide +kernel)⟩
theorem lw_p37 : lw_okq (⟨"EssayBones$Forest", "offer", "(IIIIII)V"⟩, 6) := ⟨⟨by decide +kernel, by decide +kernel⟩, List.mem_of_getElem? (i := 213) (by decide +kernel), List.mem_of_getElem? (i := 607) (by decide +kernel), List.mem_of_getElem? (i := 608) (by decide +kernel)⟩
theorem lw_p38 : lw_okq (⟨"EssayBones$Forest", "comesFirst", "(IIJJ)Z"⟩, 6) := ⟨⟨by decide +kernel, by decide +kernel⟩, List.mem_of_getElem? (i := 213) (by decide +kernel), List.mem_of_getElem? (i := 611) (by decide +kernel), List.mem_of_getElem? (i := 612) (by decide +kernel)⟩
theorem lw_p39 : lw_okq (⟨"EssayBones$Forest", "headOf", "(I)I"⟩, 6) := ⟨⟨by decide +kernel, by decide +kernel⟩, List.mem_of_getElem? (i := 213) (by decide +kernel), List.mem_of_getElem? (i := 616) (by decide +kernel), List.mem_of_getElem? (i := 617) (by decide +kernel)⟩
theorem lw_p40 : lw_okq (⟨"EssayBones$Bones", "measure", "(I)V"⟩, 5) := ⟨⟨by decide +kernel, by decide +kernel⟩, List.mem_of_getElem? (i := 240) (by decide +kernel), List.mem_of_getElem? (i := 621) (by decide +kernel), List.mem_of_getElem? (i := 622) (by decide +kernel)⟩
theorem lw_p41 : lw_okq (⟨"EssayBones$Bones", "countUpwards", "(II)V"⟩, 5) := ⟨⟨by decide +kernel, by decide +kernel⟩, List.mem_of_getElem? (i := 240) (by decide +kernel), List.mem_of_getElem? (i := 625) (by decide +kernel), List.mem_of_getElem? (i := 626) (by decide +kernel)⟩
theorem lw_p42 : lw_okq (⟨"EssayBones$Forest", "leastCost", "()I"⟩, 6) := ⟨⟨by decide +kernel, by decide +kernel⟩, List.mem_of_getElem? (i := 213) (by decide +kernel), List.mem_of_getElem? (i := 646) (by decide +kernel), List.mem_of_getElem? (i := 647) (by decide +kernel)⟩
theorem lw_p43 : lw_okq (⟨"EssayBones$Forest", "secondCost", "()I"⟩, 6) := ⟨⟨by decide +kernel, by decide +kernel⟩, List.mem_of_getElem? (i := 213) (by decide +kernel), List.mem_of_getElem? (i := 654) (by decide +kernel), List.mem_of_getElem? (i := 655) (by decide +kernel)⟩
theorem lw_p44 : lw_okq (⟨"EssayBones", "findings", "(I)I"⟩, 16) := ⟨⟨by decide +kernel, by decide +kernel⟩, List.mem_of_getElem? (i := 19) (by decide +kernel), List.mem_of_getElem? (i := 663) (by decide +kernel), List.mem_of_getElem? (i := 664) (by decide +kernel)⟩
theorem lw_p45 : lw_okq (⟨"EssayBones", "hasSupport", "(I)Z"⟩, 16) := ⟨⟨by decide +kernel, by decide +kernel⟩, List.mem_of_getElem? (i := 19) (by decide +kernel), List.mem_of_getElem? (i := 667) (by decide +kernel), List.mem_of_getElem? (i := 668) (by decide +kernel)⟩
theorem lw_p46 : lw_okq (⟨"EssayBones", "isToldTwice", "(I)Z"⟩, 16) := ⟨⟨by decide +kernel, by decide +kernel⟩, List.mem_of_getElem? (i := 19) (by decide +kernel), List.mem_of_getElem? (i := 671) (by decide +kernel), List.mem_of_getElem? (i := 672) (by decide +kernel)⟩
theorem lw_p47 : lw_okq (⟨"EssayBones$Keys", "isStale", "(I[I)Z"⟩, 9) := ⟨⟨by decide +kernel, by decide +kernel⟩, List.mem_of_getElem? (i := 155) (by decide +kernel), List.mem_of_getElem? (i := 675) (by decide +kernel), List.mem_of_getElem? (i := 676) (by decide +kernel)⟩
def lw_privs_3 : List (MethodName × Nat) := [(⟨"EssayBones", "isAgainstSign", "(II)Z"⟩, 16), (⟨"EssayBones$Forest", "grow", "(I)V"⟩, 6), (⟨"EssayBones$Forest", "setAlone", "(I)V"⟩, 6), (⟨"EssayBones$Forest", "setEmpty", "(I)V"⟩, 6), (⟨"EssayBones$Forest", "fillSpan", "(II)V"⟩, 6), (⟨"EssayBones$Forest", "offer", "(IIIIII)V"⟩, 6), (⟨"EssayBones$Forest", "comesFirst", "(IIJJ)Z"⟩, 6), (⟨"EssayBones$Forest", "headOf", "(I)I"⟩, 6), (⟨"EssayBones$Bones", "measure", "(I)V"⟩, 5), (⟨"EssayBones$Bones", "countUpwards", "(II)V"⟩, 5), (⟨"EssayBones$Forest", "leastCost", "()I"⟩, 6), (⟨"EssayBones$Forest", "secondCost", "()I"⟩, 6), (⟨"EssayBones", "findings", "(I)I"⟩, 16), (⟨"EssayBones", "hasSupport", "(I)Z"⟩, 16), (⟨"EssayBones", "isToldTwice", "(I)Z"⟩, 16), (⟨"EssayBones$Keys", "isStale", "(I[I)Z"⟩, 9)]
theorem lw_r3 : ∀ q ∈ lw_privs_3, lw_okq q := List.forall_mem_cons.mpr ⟨lw_p32, List.forall_mem_cons.mpr ⟨lw_p33, List.forall_mem_cons.mpr ⟨lw_p34, List.forall_mem_cons.mpr ⟨lw_p35, List.forall_mem_cons.mpr ⟨lw_p36, List.forall_mem_cons.mpr ⟨lw_p37, List.forall_mem_cons.mpr ⟨lw_p38, List.forall_mem_cons.mpr ⟨lw_p39, List.forall_mem_cons.mpr ⟨lw_p40, List.forall_mem_cons.mpr ⟨lw_p41, List.forall_mem_cons.mpr ⟨lw_p42, List.forall_mem_cons.mpr ⟨lw_p43, List.forall_mem_cons.mpr ⟨lw_p44, List.forall_mem_cons.mpr ⟨lw_p45, List.forall_mem_cons.mpr ⟨lw_p46, List.forall_mem_cons.mpr ⟨lw_p47, fun _ h => absurd h List.not_mem_nil⟩⟩⟩⟩⟩⟩⟩⟩⟩⟩⟩⟩⟩⟩⟩⟩
theorem lw_p48 : lw_okq (⟨"EssayBones$Pairs", "mustBeAhead", "(II)Z"⟩, 3) := ⟨⟨by decide +kernel, by decide +kernel⟩, List.mem_of_getElem? (i := 267) (by decide +kernel), List.mem_of_getElem? (i := 691) (by decide +kernel), List.mem_of_getElem? (i := 692) (by decide +kernel)⟩
theorem lw_p49 : lw_okq (⟨"EssayBones$Pairs", "has", "(II)Z"⟩, 3) := ⟨⟨by decide +kernel, by decide +kernel⟩, List.mem_of_getElem? (i := 267) (by decide +kernel), List.mem_of_getElem? (i := 695) (by decide +kernel), List.mem_of_getElem? (i := 696) (by decide +kernel)⟩
theorem lw_p50 : lw_okq (⟨"EssayBones$Pairs", "add", "(II)V"⟩, 3) := ⟨⟨by decide +kernel, by decide +kernel⟩, List.mem_of_getElem? (i := 267) (by decide +kernel), List.mem_of_getElem? (i := 699) (by decide +kernel), List.mem_of_getElem? (i := 700) (by decide +kernel)⟩
theorem lw_p51 : lw_okq (⟨"EssayBones", "findOrder", "(I)I"⟩, 16) := ⟨⟨by decide +kernel, by decide +kernel⟩, List.mem_of_getElem? (i := 19) (by decide +kernel), List.mem_of_getElem? (i := 707) (by decide +kernel), List.mem_of_getElem? (i := 708) (by decide +kernel)⟩
theorem lw_p52 : lw_okq (⟨"EssayBones$Orders", "clear", "()V"⟩, 10) := ⟨⟨by decide +kernel, by decide +kernel⟩, List.mem_of_getElem? (i := 286) (by decide +kernel), List.mem_of_getElem? (i := 711) (by decide +kernel), List.mem_of_getElem? (i := 712) (by decide +kernel)⟩
theorem lw_p53 : lw_okq (⟨"EssayBones$Orders", "addHead", "(I)V"⟩, 10) := ⟨⟨by decide +kernel, by decide +kernel⟩, List.mem_of_getElem? (i := 286) (by decide +kernel), List.mem_of_getElem? (i := 715) (by decide +kernel), List.mem_of_getElem? (i := 716) (by decide +kernel)⟩
theorem lw_p54 : lw_okq (⟨"EssayBones$Orders", "addPart", "(III)V"⟩, 10) := ⟨⟨by decide +kernel, by decide +kernel⟩, List.mem_of_getElem? (i := 286) (by decide +kernel), List.mem_of_getElem? (i := 719) (by decide +kernel), List.mem_of_getElem? (i := 720) (by decide +kernel)⟩
theorem lw_p55 : lw_okq (⟨"EssayBones", "bindUnits", "(I)V"⟩, 16) := ⟨⟨by decide +kernel, by decide +kernel⟩, List.mem_of_getElem? (i := 19) (by decide +kernel), List.mem_of_getElem? (i := 724) (by decide +kernel), List.mem_of_getElem? (i := 725) (by decide +kernel)⟩
theorem lw_p56 : lw_okq (⟨"EssayBones$Orders", "bind", "(II)V"⟩, 10) := ⟨⟨by decide +kernel, by decide +kernel⟩, List.mem_of_getElem? (i := 286) (by decide +kernel), List.mem_of_getElem? (i := 728) (by decide +kernel), List.mem_of_getElem? (i := 729) (by decide +kernel)⟩
theorem lw_p57 : lw_okq (⟨"EssayBones$Orders", "unitOf", "(I)I"⟩, 10) := ⟨⟨by decide +kernel, by decide +kernel⟩, List.mem_of_getElem? (i := 286) (by decide +kernel), List.mem_of_getElem? (i := 732) (by decide +kernel), List.mem_of_getElem? (i := 733) (by decide +kernel)⟩
theorem lw_p58 : lw_okq (⟨"EssayBones$Places", "placeOf", "(I)I"⟩, 4) := ⟨⟨by decide +kernel, by decide +kernel⟩, List.mem_of_getElem? (i := 193) (by decide +kernel), List.mem_of_getElem? (i := 736) (by decide +kernel), List.mem_of_getElem? (i := 737) (by decide +kernel)⟩
theorem lw_p59 : lw_okq (⟨"EssayBones$Orders", "solve", "()Z"⟩, 10) := ⟨⟨by decide +kernel, by decide +kernel⟩, List.mem_of_getElem? (i := 286) (by decide +kernel), List.mem_of_getElem? (i := 740) (by decide +kernel), List.mem_of_getElem? (i := 741) (by decide +kernel)⟩
theorem lw_p60 : lw_okq (⟨"EssayBones$Orders", "mayCome", "(II)Z"⟩, 10) := ⟨⟨by decide +kernel, by decide +kernel⟩, List.mem_of_getElem? (i := 286) (by decide +kernel), List.mem_of_getElem? (i := 745) (by decide +kernel), List.mem_of_getElem? (i := 746) (by decide +kernel)⟩
theorem lw_p61 : lw_okq (⟨"EssayBones$Orders", "costWith", "(II)I"⟩, 10) := ⟨⟨by decide +kernel, by decide +kernel⟩, List.mem_of_getElem? (i := 286) (by decide +kernel), List.mem_of_getElem? (i := 749) (by decide +kernel), List.mem_of_getElem? (i := 750) (by decide +kernel)⟩
theorem lw_p62 : lw_okq (⟨"EssayBones$Orders", "stepCost", "(II)I"⟩, 10) := ⟨⟨by decide +kernel, by decide +kernel⟩, List.mem_of_getElem? (i := 286) (by decide +kernel), List.mem_of_getElem? (i := 753) (by decide +kernel), List.mem_of_getElem? (i := 754) (by decide +kernel)⟩
theorem lw_p63 : lw_okq (⟨"EssayBones$Orders", "chooseRow", "()V"⟩, 10) := ⟨⟨by decide +kernel, by decide +kernel⟩, List.mem_of_getElem? (i := 286) (by decide +kernel), List.mem_of_getElem? (i := 764) (by decide +kernel), List.mem_of_getElem? (i := 765) (by decide +kernel)⟩
def lw_privs_4 : List (MethodName × Nat) := [(⟨"EssayBones$Pairs", "mustBeAhead", "(II)Z"⟩, 3), (⟨"EssayBones$Pairs", "has", "(II)Z"⟩, 3), (⟨"EssayBones$Pairs", "add", "(II)V"⟩, 3), (⟨"EssayBones", "findOrder", "(I)I"⟩, 16), (⟨"EssayBones$Orders", "clear", "()V"⟩, 10), (⟨"EssayBones$Orders", "addHead", "(I)V"⟩, 10), (⟨"EssayBones$Orders", "addPart", "(III)V"⟩, 10), (⟨"EssayBones", "bindUnits", "(I)V"⟩, 16), (⟨"EssayBones$Orders", "bind", "(II)V"⟩, 10), (⟨"EssayBones$Orders", "unitOf", "(I)I"⟩, 10), (⟨"EssayBones$Places", "placeOf", "(I)I"⟩, 4), (⟨"EssayBones$Orders", "solve", "()Z"⟩, 10), (⟨"EssayBones$Orders", "mayCome", "(II)Z"⟩, 10), (⟨"EssayBones$Orders", "costWith", "(II)I"⟩, 10), (⟨"EssayBones$Orders", "stepCost", "(II)I"⟩, 10), (⟨"EssayBones$Orders", "chooseRow", "()V"⟩, 10)]
theorem lw_r4 : ∀ q ∈ lw_privs_4, lw_okq q := List.forall_mem_cons.mpr ⟨lw_p48, List.forall_mem_cons.mpr ⟨lw_p49, List.forall_mem_cons.mpr ⟨lw_p50, List.forall_mem_cons.mpr ⟨lw_p51, List.forall_mem_cons.mpr ⟨lw_p52, List.forall_mem_cons.mpr ⟨lw_p53, List.forall_mem_cons.mpr ⟨lw_p54, List.forall_mem_cons.mpr ⟨lw_p55, List.forall_mem_cons.mpr ⟨lw_p56, List.forall_mem_cons.mpr ⟨lw_p57, List.forall_mem_cons.mpr ⟨lw_p58, List.forall_mem_cons.mpr ⟨lw_p59, List.forall_mem_cons.mpr ⟨lw_p60, List.forall_mem_cons.mpr ⟨lw_p61, List.forall_mem_cons.mpr ⟨lw_p62, List.forall_mem_cons.mpr ⟨lw_p63, fun _ h => absurd h List.not_mem_nil⟩⟩⟩⟩⟩⟩⟩⟩⟩⟩⟩⟩⟩⟩⟩⟩
theorem lw_p64 : lw_okq (⟨"EssayBones$Orders", "leastCost", "()I"⟩, 10) := ⟨⟨by decide +kernel, by decide +kernel⟩, List.mem_of_getElem? (i := 286) (by decide +kernel), List.mem_of_getElem? (i := 768) (by decide +kernel), List.mem_of_getElem? (i := 769) (by decide +kernel)⟩
theorem lw_p65 : lw_okq (⟨"EssayBones$Orders", "keepRow", "()V"⟩, 10) := ⟨⟨by decide +kernel, by decide +kernel⟩, List.mem_of_getElem? (i := 286) (by decide +kernel), List.mem_of_getElem? (i := 772) (by decide +kernel), List.mem_of_getElem? (i := 773) (by decide +kernel)⟩
theorem lw_p66 : lw_okq (⟨"EssayBones$Places", "start", "(I)V"⟩, 4) := ⟨⟨by decide +kernel, by decide +kernel⟩, List.mem_of_getElem? (i := 193) (by decide +kernel), List.mem_of_getElem? (i := 788) (by decide +kernel), List.mem_of_getElem? (i := 789) (by decide +kernel)⟩
theorem lw_p67 : lw_okq (⟨"EssayBones$Places", "put", "(II)V"⟩, 4) := ⟨⟨by decide +kernel, by decide +kernel⟩, List.mem_of_getElem? (i := 193) (by decide +kernel), List.mem_of_getElem? (i := 793) (by decide +kernel), List.mem_of_getElem? (i := 794) (by decide +kernel)⟩
theorem lw_p68 : lw_okq (⟨"EssayBones$Places", "take", "()I"⟩, 4) := ⟨⟨by decide +kernel, by decide +kernel⟩, List.mem_of_getElem? (i := 193) (by decide +kernel), List.mem_of_getElem? (i := 797) (by decide +kernel), List.mem_of_getElem? (i := 798) (by decide +kernel)⟩
theorem lw_p69 : lw_okq (⟨"EssayBones$Text", "paragraphs", "()I"⟩, 8) := ⟨⟨by decide +kernel, by decide +kernel⟩, List.mem_of_getElem? (i := 104) (by decide +kernel), List.mem_of_getElem? (i := 809) (by decide +kernel), List.mem_of_getElem? (i := 810) (by decide +kernel)⟩
theorem lw_p70 : lw_okq (⟨"EssayBones", "rootPlace", "()I"⟩, 16) := ⟨⟨by decide +kernel, by decide +kernel⟩, List.mem_of_getElem? (i := 19) (by decide +kernel), List.mem_of_getElem? (i := 813) (by decide +kernel), List.mem_of_getElem? (i := 814) (by decide +kernel)⟩
theorem lw_p71 : lw_okq (⟨"EssayBonesModel", "takeWord", "(I)Z"⟩, 55) := ⟨⟨by decide +kernel, by decide +kernel⟩, List.mem_of_getElem? (i := 817) (by decide +kernel), List.mem_of_getElem? (i := 1003) (by decide +kernel), List.mem_of_getElem? (i := 1004) (by decide +kernel)⟩
theorem lw_p72 : lw_okq (⟨"EssayBonesModel", "put", "([B[II)V"⟩, 55) := ⟨⟨by decide +kernel, by decide +kernel⟩, List.mem_of_getElem? (i := 817) (by decide +kernel), List.mem_of_getElem? (i := 1022) (by decide +kernel), List.mem_of_getElem? (i := 1023) (by decide +kernel)⟩
theorem lw_p73 : lw_okq (⟨"EssayBonesModel", "reads", "(I)I"⟩, 55) := ⟨⟨by decide +kernel, by decide +kernel⟩, List.mem_of_getElem? (i := 817) (by decide +kernel), List.mem_of_getElem? (i := 1045) (by decide +kernel), List.mem_of_getElem? (i := 1046) (by decide +kernel)⟩
theorem lw_p74 : lw_okq (⟨"EssayBonesModel", "wrong", "(II)I"⟩, 55) := ⟨⟨by decide +kernel, by decide +kernel⟩, List.mem_of_getElem? (i := 817) (by decide +kernel), List.mem_of_getElem? (i := 1049) (by decide +kernel), List.mem_of_getElem? (i := 1050) (by decide +kernel)⟩
theorem lw_p75 : lw_okq (⟨"EssayBonesModel", "isHere", "(I)Z"⟩, 55) := ⟨⟨by decide +kernel, by decide +kernel⟩, List.mem_of_getElem? (i := 817) (by decide +kernel), List.mem_of_getElem? (i := 1061) (by decide +kernel), List.mem_of_getElem? (i := 1062) (by decide +kernel)⟩
theorem lw_p76 : lw_okq (⟨"EssayBonesModel", "makeTree", "()V"⟩, 55) := ⟨⟨by decide +kernel, by decide +kernel⟩, List.mem_of_getElem? (i := 817) (by decide +kernel), List.mem_of_getElem? (i := 1065) (by decide +kernel), List.mem_of_getElem? (i := 1066) (by decide +kernel)⟩
theorem lw_p77 : lw_okq (⟨"EssayBonesModel", "makeKeys", "(I)V"⟩, 55) := ⟨⟨by decide +kernel, by decide +kernel⟩, List.mem_of_getElem? (i := 817) (by decide +kernel), List.mem_of_getElem? (i := 1069) (by decide +kernel), List.mem_of_getElem? (i := 1070) (by decide +kernel)⟩
theorem lw_p78 : lw_okq (⟨"EssayBonesModel", "folded", "(I)I"⟩, 55) := ⟨⟨by decide +kernel, by decide +kernel⟩, List.mem_of_getElem? (i := 817) (by decide +kernel), List.mem_of_getElem? (i := 1073) (by decide +kernel), List.mem_of_getElem? (i := 1074) (by decide +kernel)⟩
theorem lw_p79 : lw_okq (⟨"EssayBonesModel", "sameKey", "(IIII)Z"⟩, 55) := ⟨⟨by decide +kernel, by decide +kernel⟩, List.mem_of_getElem? (i := 817) (by decide +kernel), List.mem_of_getElem? (i := 1077) (by decide +kernel), List.mem_of_getElem? (i := 1078) (by decide +kernel)⟩
def lw_privs_5 : List (MethodName × Nat) := [(⟨"EssayBones$Orders", "leastCost", "()I"⟩, 10), (⟨"EssayBones$Orders", "keepRow", "()V"⟩, 10), (⟨"EssayBones$Places", "start", "(I)V"⟩, 4), (⟨"EssayBones$Places", "put", "(II)V"⟩, 4), (⟨"EssayBones$Places", "take", "()I"⟩, 4), (⟨"EssayBones$Text", "paragraphs", "()I"⟩, 8), (⟨"EssayBones", "rootPlace", "()I"⟩, 16), (⟨"EssayBonesModel", "takeWord", "(I)Z"⟩, 55), (⟨"EssayBonesModel", "put", "([B[II)V"⟩, 55), (⟨"EssayBonesModel", "reads", "(I)I"⟩, 55), (⟨"EssayBonesModel", "wrong", "(II)I"⟩, 55), (⟨"EssayBonesModel", "isHere", "(I)Z"⟩, 55), (⟨"EssayBonesModel", "makeTree", "()V"⟩, 55), (⟨"EssayBonesModel", "makeKeys", "(I)V"⟩, 55), (⟨"EssayBonesModel", "folded", "(I)I"⟩, 55), (⟨"EssayBonesModel", "sameKey", "(IIII)Z"⟩, 55)]
theorem lw_r5 : ∀ q ∈ lw_privs_5, lw_okq q := List.forall_mem_cons.mpr ⟨lw_p64, List.forall_mem_cons.mpr ⟨lw_p65, List.forall_mem_cons.mpr ⟨lw_p66, List.forall_mem_cons.mpr ⟨lw_p67, List.forall_mem_cons.mpr ⟨lw_p68, List.forall_mem_cons.mpr ⟨lw_p69, List.forall_mem_cons.mpr ⟨lw_p70, List.forall_mem_cons.mpr ⟨lw_p71, List.forall_mem_cons.mpr ⟨lw_p72, List.forall_mem_cons.mpr ⟨lw_p73, List.forall_mem_cons.mpr ⟨lw_p74, List.forall_mem_cons.mpr ⟨lw_p75, List.forall_mem_cons.mpr ⟨lw_p76, List.forall_mem_cons.mpr ⟨lw_p77, List.forall_mem_cons.mpr ⟨lw_p78, List.forall_mem_cons.mpr ⟨lw_p79, fun _ h => absurd h List.not_mem_nil⟩⟩⟩⟩⟩⟩⟩⟩⟩⟩⟩⟩⟩⟩⟩⟩
theorem lw_p80 : lw_okq (⟨"EssayBonesModel", "priceOf", "(II)I"⟩, 55) := ⟨⟨by decide +kernel, by decide +kernel⟩, List.mem_of_getElem? (i := 817) (by decide +kernel), List.mem_of_getElem? (i := 1082) (by decide +kernel), List.mem_of_getElem? (i := 1083) (by decide +kernel)⟩
theorem lw_p81 : lw_okq (⟨"EssayBonesModel", "sharedBy", "(II)I"⟩, 55) := ⟨⟨by decide +kernel, by decide +kernel⟩, List.mem_of_getElem? (i := 817) (by decide +kernel), List.mem_of_getElem? (i := 1086) (by decide +kernel), List.mem_of_getElem? (i := 1087) (by decide +kernel)⟩
theorem lw_p82 : lw_okq (⟨"EssayBonesModel", "hasKey", "(III)Z"⟩, 55) := ⟨⟨by decide +kernel, by decide +kernel⟩, List.mem_of_getElem? (i := 817) (by decide +kernel), List.mem_of_getElem? (i := 1090) (by decide +kernel), List.mem_of_getElem? (i := 1091) (by decide +kernel)⟩
theorem lw_p83 : lw_okq (⟨"EssayBonesModel", "allMay", "()V"⟩, 55) := ⟨⟨by decide +kernel, by decide +kernel⟩, List.mem_of_getElem? (i := 817) (by decide +kernel), List.mem_of_getElem? (i := 1094) (by decide +kernel), List.mem_of_getElem? (i := 1095) (by decide +kernel)⟩
theorem lw_p84 : lw_okq (⟨"EssayBonesModel", "least", "()I"⟩, 55) := ⟨⟨by decide +kernel, by decide +kernel⟩, List.mem_of_getElem? (i := 817) (by decide +kernel), List.mem_of_getElem? (i := 1098) (by decide +kernel), List.mem_of_getElem? (i := 1099) (by decide +kernel)⟩
theorem lw_p85 : lw_okq (⟨"EssayBonesModel", "arc", "(II)I"⟩, 55) := ⟨⟨by decide +kernel, by decide +kernel⟩, List.mem_of_getElem? (i := 817) (by decide +kernel), List.mem_of_getElem? (i := 1102) (by decide +kernel), List.mem_of_getElem? (i := 1103) (by decide +kernel)⟩
theorem lw_p86 : lw_okq (⟨"EssayBonesModel", "fix", "(II)V"⟩, 55) := ⟨⟨by decide +kernel, by decide +kernel⟩, List.mem_of_getElem? (i := 817) (by decide +kernel), List.mem_of_getElem? (i := 1106) (by decide +kernel), List.mem_of_getElem? (i := 1107) (by decide +kernel)⟩
theorem lw_p87 : lw_okq (⟨"EssayBonesModel", "hanging", "(I)I"⟩, 55) := ⟨⟨by decide +kernel, by decide +kernel⟩, List.mem_of_getElem? (i := 817) (by decide +kernel), List.mem_of_getElem? (i := 1110) (by decide +kernel), List.mem_of_getElem? (i := 1111) (by decide +kernel)⟩
theorem lw_p88 : lw_okq (⟨"EssayBonesModel", "partSize", "(I)I"⟩, 55) := ⟨⟨by decide +kernel, by decide +kernel⟩, List.mem_of_getElem? (i := 817) (by decide +kernel), List.mem_of_getElem? (i := 1114) (by decide +kernel), List.mem_of_getElem? (i := 1115) (by decide +kernel)⟩
theorem lw_p89 : lw_okq (⟨"EssayBonesModel", "isOf", "(II)Z"⟩, 55) := ⟨⟨by decide +kernel, by decide +kernel⟩, List.mem_of_getElem? (i := 817) (by decide +kernel), List.mem_of_getElem? (i := 1118) (by decide +kernel), List.mem_of_getElem? (i := 1119) (by decide +kernel)⟩
theorem lw_p90 : lw_okq (⟨"EssayBonesModel", "findingOf", "(I)I"⟩, 55) := ⟨⟨by decide +kernel, by decide +kernel⟩, List.mem_of_getElem? (i := 817) (by decide +kernel), List.mem_of_getElem? (i := 1146) (by decide +kernel), List.mem_of_getElem? (i := 1147) (by decide +kernel)⟩
theorem lw_p91 : lw_okq (⟨"EssayBonesModel", "isAhead", "(II)Z"⟩, 55) := ⟨⟨by decide +kernel, by decide +kernel⟩, List.mem_of_getElem? (i := 817) (by decide +kernel), List.mem_of_getElem? (i := 1161) (by decide +kernel), List.mem_of_getElem? (i := 1162) (by decide +kernel)⟩
theorem lw_p92 : lw_okq (⟨"EssayBonesModel", "takeItems", "(I)Z"⟩, 55) := ⟨⟨by decide +kernel, by decide +kernel⟩, List.mem_of_getElem? (i := 817) (by decide +kernel), List.mem_of_getElem? (i := 1169) (by decide +kernel), List.mem_of_getElem? (i := 1170) (by decide +kernel)⟩
theorem lw_p93 : lw_okq (⟨"EssayBonesModel", "partBegin", "(I)I"⟩, 55) := ⟨⟨by decide +kernel, by decide +kernel⟩, List.mem_of_getElem? (i := 817) (by decide +kernel), List.mem_of_getElem? (i := 1173) (by decide +kernel), List.mem_of_getElem? (i := 1174) (by decide +kernel)⟩
theorem lw_p94 : lw_okq (⟨"EssayBonesModel", "itemOf", "(II)I"⟩, 55) := ⟨⟨by decide +kernel, by decide +kernel⟩, List.mem_of_getElem? (i := 817) (by decide +kernel), List.mem_of_getElem? (i := 1177) (by decide +kernel), List.mem_of_getElem? (i := 1178) (by decide +kernel)⟩
theorem lw_p95 : lw_okq (⟨"EssayBonesModel", "reckon", "()I"⟩, 55) := ⟨⟨by decide +kernel, by decide +kernel⟩, List.mem_of_getElem? (i := 817) (by decide +kernel), List.mem_of_getElem? (i := 1181) (by decide +kernel), List.mem_of_getElem? (i := 1182) (by decide +kernel)⟩
def lw_privs_6 : List (MethodName × Nat) := [(⟨"EssayBonesModel", "priceOf", "(II)I"⟩, 55), (⟨"EssayBonesModel", "sharedBy", "(II)I"⟩, 55), (⟨"EssayBonesModel", "hasKey", "(III)Z"⟩, 55), (⟨"EssayBonesModel", "allMay", "()V"⟩, 55), (⟨"EssayBonesModel", "least", "()I"⟩, 55), (⟨"EssayBonesModel", "arc", "(II)I"⟩, 55), (⟨"EssayBonesModel", "fix", "(II)V"⟩, 55), (⟨"EssayBonesModel", "hanging", "(I)I"⟩, 55), (⟨"EssayBonesModel", "partSize", "(I)I"⟩, 55), (⟨"EssayBonesModel", "isOf", "(II)Z"⟩, 55), (⟨"EssayBonesModel", "findingOf", "(I)I"⟩, 55), (⟨"EssayBonesModel", "isAhead", "(II)Z"⟩, 55), (⟨"EssayBonesModel", "takeItems", "(I)Z"⟩, 55), (⟨"EssayBonesModel", "partBegin", "(I)I"⟩, 55), (⟨"EssayBonesModel", "itemOf", "(II)I"⟩, 55), (⟨"EssayBonesModel", "reckon", "()I"⟩, 55)]
theorem lw_r6 : ∀ q ∈ lw_privs_6, lw_okq q := List.forall_mem_cons.mpr ⟨lw_p80, List.forall_mem_cons.mpr ⟨lw_p81, List.forall_mem_cons.mpr ⟨lw_p82, List.forall_mem_cons.mpr ⟨lw_p83, List.forall_mem_cons.mpr ⟨lw_p84, List.forall_mem_cons.mpr ⟨lw_p85, List.forall_mem_cons.mpr ⟨lw_p86, List.forall_mem_cons.mpr ⟨lw_p87, List.forall_mem_cons.mpr ⟨lw_p88, List.forall_mem_cons.mpr ⟨lw_p89, List.forall_mem_cons.mpr ⟨lw_p90, List.forall_mem_cons.mpr ⟨lw_p91, List.forall_mem_cons.mpr ⟨lw_p92, List.forall_mem_cons.mpr ⟨lw_p93, List.forall_mem_cons.mpr ⟨lw_p94, List.forall_mem_cons.mpr ⟨lw_p95, fun _ h => absurd h List.not_mem_nil⟩⟩⟩⟩⟩⟩⟩⟩⟩⟩⟩⟩⟩⟩⟩⟩
theorem lw_p96 : lw_okq (⟨"EssayBonesModel", "placing", "(II)I"⟩, 55) := ⟨⟨by decide +kernel, by decide +kernel⟩, List.mem_of_getElem? (i := 817) (by decide +kernel), List.mem_of_getElem? (i := 1185) (by decide +kernel), List.mem_of_getElem? (i := 1186) (by decide +kernel)⟩
theorem lw_p97 : lw_okq (⟨"EssayBonesModel", "setAll", "()I"⟩, 55) := ⟨⟨by decide +kernel, by decide +kernel⟩, List.mem_of_getElem? (i := 817) (by decide +kernel), List.mem_of_getElem? (i := 1201) (by decide +kernel), List.mem_of_getElem? (i := 1202) (by decide +kernel)⟩
def lw_privs_7 : List (MethodName × Nat) := [(⟨"EssayBonesModel", "placing", "(II)I"⟩, 55), (⟨"EssayBonesModel", "setAll", "()I"⟩, 55)]
theorem lw_r7 : ∀ q ∈ lw_privs_7, lw_okq q := List.forall_mem_cons.mpr ⟨lw_p96, List.forall_mem_cons.mpr ⟨lw_p97, fun _ h => absurd h List.not_mem_nil⟩⟩
def lw_privs : List (MethodName × Nat) := lw_privs_1 ++ (lw_privs_2 ++ (lw_privs_3 ++ (lw_privs_4 ++ (lw_privs_5 ++ (lw_privs_6 ++ (lw_privs_7))))))
def lw_tbl : List Cond := k2_sels lw_privs ++ tables_1
theorem lw_privs_ok : ∀ q ∈ lw_privs, lw_okq q := by
  show ∀ q ∈ lw_privs_1 ++ (lw_privs_2 ++ (lw_privs_3 ++ (lw_privs_4 ++ (lw_privs_5 ++ (lw_privs_6 ++ (lw_privs_7)))))), lw_okq q
  exact List.forall_mem_append.mpr ⟨lw_r1, List.forall_mem_append.mpr ⟨lw_r2, List.forall_mem_append.mpr ⟨lw_r3, List.forall_mem_append.mpr ⟨lw_r4, List.forall_mem_append.mpr ⟨lw_r5, List.forall_mem_append.mpr ⟨lw_r6, lw_r7⟩⟩⟩⟩⟩⟩
end
section
def RX0 : String := "EssayBones$Bones"
def TX0 : u_T := fun k => match k with
  | 0 => ("EssayBones$Bones", "head", "[I", true)
  | 1 => ("EssayBones$Bones", "hung", "[I", true)
  | 2 => ("EssayBones$Bones", "partFirst", "[I", true)
  | 3 => ("EssayBones$Bones", "partSize", "[I", true)
  | _ => ("EssayBones$Bones", "root", "I", false)
def tyX0 : Nat → FieldType := fun k => match k with
  | 0 => .array .int
  | 1 => .array .int
  | 2 => .array .int
  | 3 => .array .int
  | _ => .int
abbrev wsX00 : List Cond := u_ws RX0 TX0 5
theorem nmX0 : ∀ a, a < 5 → ∀ b, b < 5 → a ≠ b → (TX0 a).2.1 ≠ (TX0 b).2.1 := by decide +kernel
theorem tyX0_ok : ∀ k, k < 5 → parseFieldDescriptor (TX0 k).2.2.1 = some (tyX0 k) := by decide +kernel
abbrev cX0_init : ByteArray := prog_2_method_1_code
def yX0_init : MethodName := ⟨RX0, "<init>", "()V"⟩
abbrev cX0_measure : ByteArray := prog_2_method_2_code
def yX0_measure : MethodName := ⟨RX0, "measure", "(I)V"⟩
abbrev cX0_countUpwards : ByteArray := prog_2_method_3_code
def yX0_countUpwards : MethodName := ⟨RX0, "countUpwards", "(II)V"⟩
def RX1 : String := "EssayBones$Forest"
def TX1 : u_T := fun k => match k with
  | 0 => ("EssayBones$Forest", "hangCost", "[I", true)
  | 1 => ("EssayBones$Forest", "rootCost", "[I", true)
  | 2 => ("EssayBones$Forest", "least", "[I", true)
  | 3 => ("EssayBones$Forest", "second", "[I", true)
  | 4 => ("EssayBones$Forest", "earlyHeads", "[J", true)
  | _ => ("EssayBones$Forest", "lateHeads", "[J", true)
def tyX1 : Nat → FieldType := fun k => match k with
  | 0 => .array .int
  | 1 => .array .int
  | 2 => .array .int
  | 3 => .array .int
  | 4 => .array .long
  | _ => .array .long
abbrev wsX10 : List Cond := u_ws RX1 TX1 6
theorem nmX1 : ∀ a, a < 6 → ∀ b, b < 6 → a ≠ b → (TX1 a).2.1 ≠ (TX1 b).2.1 := by decide +kernel
theorem tyX1_ok : ∀ k, k < 6 → parseFieldDescriptor (TX1 k).2.2.1 = some (tyX1 k) := by decide +kernel
abbrev cX1_init : ByteArray := prog_3_method_1_code
def yX1_init : MethodName := ⟨RX1, "<init>", "()V"⟩
abbrev cX1_grow : ByteArray := prog_3_method_2_code
def yX1_grow : MethodName := ⟨RX1, "grow", "(I)V"⟩
abbrev cX1_fillSpan : ByteArray := prog_3_method_3_code
def yX1_fillSpan : MethodName := ⟨RX1, "fillSpan", "(II)V"⟩
abbrev cX1_side : ByteArray := prog_3_method_4_code
def yX1_side : MethodName := ⟨RX1, "side", "(II)I"⟩
abbrev cX1_gap : ByteArray := prog_3_method_5_code
def yX1_gap : MethodName := ⟨RX1, "gap", "(II)I"⟩
abbrev cX1_setAlone : ByteArray := prog_3_method_6_code
def yX1_setAlone : MethodName := ⟨RX1, "setAlone", "(I)V"⟩
abbrev cX1_setEmpty : ByteArray := prog_3_method_7_code
def yX1_setEmpty : MethodName := ⟨RX1, "setEmpty", "(I)V"⟩
abbrev cX1_offer : ByteArray := prog_3_method_8_code
def yX1_offer : MethodName := ⟨RX1, "offer", "(IIIIII)V"⟩
abbrev cX1_comesFirst : ByteArray := prog_3_method_9_code
def yX1_comesFirst : MethodName := ⟨RX1, "comesFirst", "(IIJJ)Z"⟩
abbrev cX1_leastCost : ByteArray := prog_3_method_10_code
def yX1_leastCost : MethodName := ⟨RX1, "leastCost", "()I"⟩
abbrev cX1_secondCost : ByteArray := prog_3_method_11_code
def yX1_secondCost : MethodName := ⟨RX1, "secondCost", "()I"⟩
abbrev cX1_headOf : ByteArray := prog_3_method_12_code
def yX1_headOf : MethodName := ⟨RX1, "headOf", "(I)I"⟩
def RX2 : String := "EssayBones$Keys"
def TX2 : u_T := fun k => match k with
  | 0 => ("EssayBones$Keys", "kind", "[I", true)
  | 1 => ("EssayBones$Keys", "keyCount", "[I", true)
  | 2 => ("EssayBones$Keys", "both", "[I", true)
  | 3 => ("EssayBones$Keys", "bits", "[J", true)
  | 4 => ("EssayBones$Keys", "keyStart", "[I", true)
  | 5 => ("EssayBones$Keys", "keyLength", "[I", true)
  | 6 => ("EssayBones$Keys", "sameBucket", "[I", true)
  | 7 => ("EssayBones$Keys", "buckets", "[I", true)
  | _ => ("EssayBones$Keys", "total", "I", false)
def tyX2 : Nat → FieldType := fun k => match k with
  | 0 => .array .int
  | 1 => .array .int
  | 2 => .array .int
  | 3 => .array .long
  | 4 => .array .int
  | 5 => .array .int
  | 6 => .array .int
  | 7 => .array .int
  | _ => .int
abbrev wsX20 : List Cond := u_ws RX2 TX2 9
theorem nmX2 : ∀ a, a < 9 → ∀ b, b < 9 → a ≠ b → (TX2 a).2.1 ≠ (TX2 b).2.1 := by decide +kernel
theorem tyX2_ok : ∀ k, k < 9 → parseFieldDescriptor (TX2 k).2.2.1 = some (tyX2 k) := by decide +kernel
abbrev cX2_init : ByteArray := prog_4_method_1_code
def yX2_init : MethodName := ⟨RX2, "<init>", "()V"⟩
abbrev cX2_gather : ByteArray := prog_4_method_2_code
def yX2_gather : MethodName := ⟨RX2, "gather", "(LEssayBones$Text;LEssayBones$WordTable;LEssayBones$WordTable;LEssayBones$WordTable;)V"⟩
abbrev cX2_takeWord : ByteArray := prog_4_method_3_code
def yX2_takeWord : MethodName := ⟨RX2, "takeWord", "(LEssayBones$Text;IILEssayBones$WordTable;LEssayBones$WordTable;)V"⟩
abbrev cX2_keyOf : ByteArray := prog_4_method_4_code
def yX2_keyOf : MethodName := ⟨RX2, "keyOf", "([III)I"⟩
abbrev cX2_addKey : ByteArray := prog_4_method_5_code
def yX2_addKey : MethodName := ⟨RX2, "addKey", "(III)I"⟩
abbrev cX2_isSame : ByteArray := prog_4_method_6_code
def yX2_isSame : MethodName := ⟨RX2, "isSame", "([IIII)Z"⟩
abbrev cX2_longsUsed : ByteArray := prog_4_method_7_code
def yX2_longsUsed : MethodName := ⟨RX2, "longsUsed", "()I"⟩
abbrev cX2_compare : ByteArray := prog_4_method_8_code
def yX2_compare : MethodName := ⟨RX2, "compare", "(I)V"⟩
abbrev cX2_isStale : ByteArray := prog_4_method_9_code
def yX2_isStale : MethodName := ⟨RX2, "isStale", "(I[I)Z"⟩
def RX3 : String := "EssayBones$Orders"
def TX3 : u_T := fun k => match k with
  | 0 => ("EssayBones$Orders", "sentence", "[I", true)
  | 1 => ("EssayBones$Orders", "first", "[I", true)
  | 2 => ("EssayBones$Orders", "size", "[I", true)
  | 3 => ("EssayBones$Orders", "ahead", "[I", true)
  | 4 => ("EssayBones$Orders", "restCost", "[I", true)
  | 5 => ("EssayBones$Orders", "row", "[I", true)
  | 6 => ("EssayBones$Orders", "told", "[I", true)
  | 7 => ("EssayBones$Orders", "toldSize", "I", false)
  | 8 => ("EssayBones$Orders", "units", "I", false)
  | _ => ("EssayBones$Orders", "headUnit", "I", false)
def tyX3 : Nat → FieldType := fun k => match k with
  | 0 => .array .int
  | 1 => .array .int
  | 2 => .array .int
  | 3 => .array .int
  | 4 => .array .int
  | 5 => .array .int
  | 6 => .array .int
  | 7 => .int
  | 8 => .int
  | _ => .int
abbrev wsX30 : List Cond := u_ws RX3 TX3 10
theorem nmX3 : ∀ a, a < 10 → ∀ b, b < 10 → a ≠ b → (TX3 a).2.1 ≠ (TX3 b).2.1 := by decide +kernel
theorem tyX3_ok : ∀ k, k < 10 → parseFieldDescriptor (TX3 k).2.2.1 = some (tyX3 k) := by decide +kernel
abbrev cX3_init : ByteArray := prog_5_method_1_code
def yX3_init : MethodName := ⟨RX3, "<init>", "()V"⟩
abbrev cX3_clear : ByteArray := prog_5_method_2_code
def yX3_clear : MethodName := ⟨RX3, "clear", "()V"⟩
abbrev cX3_addHead : ByteArray := prog_5_method_3_code
def yX3_addHead : MethodName := ⟨RX3, "addHead", "(I)V"⟩
abbrev cX3_addPart : ByteArray := prog_5_method_4_code
def yX3_addPart : MethodName := ⟨RX3, "addPart", "(III)V"⟩
abbrev cX3_bind : ByteArray := prog_5_method_5_code
def yX3_bind : MethodName := ⟨RX3, "bind", "(II)V"⟩
abbrev cX3_unitOf : ByteArray := prog_5_method_6_code
def yX3_unitOf : MethodName := ⟨RX3, "unitOf", "(I)I"⟩
abbrev cX3_solve : ByteArray := prog_5_method_7_code
def yX3_solve : MethodName := ⟨RX3, "solve", "()Z"⟩
abbrev cX3_chooseRow : ByteArray := prog_5_method_8_code
def yX3_chooseRow : MethodName := ⟨RX3, "chooseRow", "()V"⟩
abbrev cX3_mayCome : ByteArray := prog_5_method_9_code
def yX3_mayCome : MethodName := ⟨RX3, "mayCome", "(II)Z"⟩
abbrev cX3_costWith : ByteArray := prog_5_method_10_code
def yX3_costWith : MethodName := ⟨RX3, "costWith", "(II)I"⟩
abbrev cX3_stepCost : ByteArray := prog_5_method_11_code
def yX3_stepCost : MethodName := ⟨RX3, "stepCost", "(II)I"⟩
abbrev cX3_leastCost : ByteArray := prog_5_method_12_code
def yX3_leastCost : MethodName := ⟨RX3, "leastCost", "()I"⟩
abbrev cX3_keepRow : ByteArray := prog_5_method_13_code
def yX3_keepRow : MethodName := ⟨RX3, "keepRow", "()V"⟩
def RX4 : String := "EssayBones$Pairs"
def TX4 : u_T := fun k => match k with
  | 0 => ("EssayBones$Pairs", "first", "[I", true)
  | 1 => ("EssayBones$Pairs", "second", "[I", true)
  | _ => ("EssayBones$Pairs", "size", "I", false)
def tyX4 : Nat → FieldType := fun k => match k with
  | 0 => .array .int
  | 1 => .array .int
  | _ => .int
abbrev wsX40 : List Cond := u_ws RX4 TX4 3
theorem nmX4 : ∀ a, a < 3 → ∀ b, b < 3 → a ≠ b → (TX4 a).2.1 ≠ (TX4 b).2.1 := by decide +kernel
theorem tyX4_ok : ∀ k, k < 3 → parseFieldDescriptor (TX4 k).2.2.1 = some (tyX4 k) := by decide +kernel
abbrev cX4_init : ByteArray := prog_6_method_1_code
def yX4_init : MethodName := ⟨RX4, "<init>", "()V"⟩
abbrev cX4_has : ByteArray := prog_6_method_2_code
def yX4_has : MethodName := ⟨RX4, "has", "(II)Z"⟩
abbrev cX4_add : ByteArray := prog_6_method_3_code
def yX4_add : MethodName := ⟨RX4, "add", "(II)V"⟩
abbrev cX4_mustBeAhead : ByteArray := prog_6_method_4_code
def yX4_mustBeAhead : MethodName := ⟨RX4, "mustBeAhead", "(II)Z"⟩
def RX5 : String := "EssayBones$Places"
def TX5 : u_T := fun k => match k with
  | 0 => ("EssayBones$Places", "at", "[I", true)
  | 1 => ("EssayBones$Places", "then", "[I", true)
  | 2 => ("EssayBones$Places", "size", "I", false)
  | _ => ("EssayBones$Places", "filled", "I", false)
def tyX5 : Nat → FieldType := fun k => match k with
  | 0 => .array .int
  | 1 => .array .int
  | 2 => .int
  | _ => .int
abbrev wsX50 : List Cond := u_ws RX5 TX5 4
theorem nmX5 : ∀ a, a < 4 → ∀ b, b < 4 → a ≠ b → (TX5 a).2.1 ≠ (TX5 b).2.1 := by decide +kernel
theorem tyX5_ok : ∀ k, k < 4 → parseFieldDescriptor (TX5 k).2.2.1 = some (tyX5 k) := by decide +kernel
abbrev cX5_init : ByteArray := prog_7_method_1_code
def yX5_init : MethodName := ⟨RX5, "<init>", "()V"⟩
abbrev cX5_reset : ByteArray := prog_7_method_2_code
def yX5_reset : MethodName := ⟨RX5, "reset", "(I)V"⟩
abbrev cX5_placeOf : ByteArray := prog_7_method_3_code
def yX5_placeOf : MethodName := ⟨RX5, "placeOf", "(I)I"⟩
abbrev cX5_start : ByteArray := prog_7_method_4_code
def yX5_start : MethodName := ⟨RX5, "start", "(I)V"⟩
abbrev cX5_put : ByteArray := prog_7_method_5_code
def yX5_put : MethodName := ⟨RX5, "put", "(II)V"⟩
abbrev cX5_take : ByteArray := prog_7_method_6_code
def yX5_take : MethodName := ⟨RX5, "take", "()I"⟩
def RX6 : String := "EssayBones$Scanner"
def TX6 : u_T := fun k => match k with
  | 0 => ("EssayBones$Scanner", "faultKind", "I", false)
  | 1 => ("EssayBones$Scanner", "faultPlace", "I", false)
  | 2 => ("EssayBones$Scanner", "inWord", "Z", false)
  | 3 => ("EssayBones$Scanner", "inSentence", "Z", false)
  | 4 => ("EssayBones$Scanner", "lineEnded", "Z", false)
  | 5 => ("EssayBones$Scanner", "breakDue", "Z", false)
  | _ => ("EssayBones$Scanner", "paragraph", "I", false)
def tyX6 : Nat → FieldType := fun k => match k with
  | 0 => .int
  | 1 => .int
  | 2 => .boolean
  | 3 => .boolean
  | 4 => .boolean
  | 5 => .boolean
  | _ => .int
abbrev wsX60 : List Cond := u_ws RX6 TX6 7
theorem nmX6 : ∀ a, a < 7 → ∀ b, b < 7 → a ≠ b → (TX6 a).2.1 ≠ (TX6 b).2.1 := by decide +kernel
theorem tyX6_ok : ∀ k, k < 7 → parseFieldDescriptor (TX6 k).2.2.1 = some (tyX6 k) := by decide +kernel
abbrev cX6_init : ByteArray := prog_8_method_1_code
def yX6_init : MethodName := ⟨RX6, "<init>", "()V"⟩
abbrev cX6_scan : ByteArray := prog_8_method_2_code
def yX6_scan : MethodName := ⟨RX6, "scan", "(LEssayBones$Tape;LEssayBones$Text;)V"⟩
abbrev cX6_clear : ByteArray := prog_8_method_3_code
def yX6_clear : MethodName := ⟨RX6, "clear", "(LEssayBones$Text;)V"⟩
abbrev cX6_note : ByteArray := prog_8_method_4_code
def yX6_note : MethodName := ⟨RX6, "note", "(II)V"⟩
abbrev cX6_takeLetter : ByteArray := prog_8_method_5_code
def yX6_takeLetter : MethodName := ⟨RX6, "takeLetter", "(LEssayBones$Text;I)V"⟩
abbrev cX6_startWord : ByteArray := prog_8_method_6_code
def yX6_startWord : MethodName := ⟨RX6, "startWord", "(LEssayBones$Text;I)V"⟩
abbrev cX6_startSentence : ByteArray := prog_8_method_7_code
def yX6_startSentence : MethodName := ⟨RX6, "startSentence", "(LEssayBones$Text;I)V"⟩
abbrev cX6_takeMark : ByteArray := prog_8_method_8_code
def yX6_takeMark : MethodName := ⟨RX6, "takeMark", "(LEssayBones$Text;II)V"⟩
abbrev cX6_takeLineEnd : ByteArray := prog_8_method_9_code
def yX6_takeLineEnd : MethodName := ⟨RX6, "takeLineEnd", "(LEssayBones$Text;)V"⟩
abbrev cX6_takeSentenceEnd : ByteArray := prog_8_method_10_code
def yX6_takeSentenceEnd : MethodName := ⟨RX6, "takeSentenceEnd", "(I)V"⟩
def RX7 : String := "EssayBones$Tape"
def TX7 : u_T := fun k => match k with
  | 0 => ("EssayBones$Tape", "bytes", "[I", true)
  | _ => ("EssayBones$Tape", "size", "I", false)
def tyX7 : Nat → FieldType := fun k => match k with
  | 0 => .array .int
  | _ => .int
abbrev wsX70 : List Cond := u_ws RX7 TX7 2
theorem nmX7 : ∀ a, a < 2 → ∀ b, b < 2 → a ≠ b → (TX7 a).2.1 ≠ (TX7 b).2.1 := by decide +kernel
theorem tyX7_ok : ∀ k, k < 2 → parseFieldDescriptor (TX7 k).2.2.1 = some (tyX7 k) := by decide +kernel
abbrev cX7_init : ByteArray := prog_9_method_1_code
def yX7_init : MethodName := ⟨RX7, "<init>", "()V"⟩
abbrev cX7_append : ByteArray := prog_9_method_2_code
def yX7_append : MethodName := ⟨RX7, "append", "(I)V"⟩
abbrev cX7_takeWord : ByteArray := prog_9_method_3_code
def yX7_takeWord : MethodName := ⟨RX7, "takeWord", "(I)I"⟩
def RX8 : String := "EssayBones$Text"
def TX8 : u_T := fun k => match k with
  | 0 => ("EssayBones$Text", "letters", "[I", true)
  | 1 => ("EssayBones$Text", "wordStart", "[I", true)
  | 2 => ("EssayBones$Text", "wordLength", "[I", true)
  | 3 => ("EssayBones$Text", "firstWord", "[I", true)
  | 4 => ("EssayBones$Text", "wordCount", "[I", true)
  | 5 => ("EssayBones$Text", "paragraph", "[I", true)
  | 6 => ("EssayBones$Text", "words", "I", false)
  | _ => ("EssayBones$Text", "sentences", "I", false)
def tyX8 : Nat → FieldType := fun k => match k with
  | 0 => .array .int
  | 1 => .array .int
  | 2 => .array .int
  | 3 => .array .int
  | 4 => .array .int
  | 5 => .array .int
  | 6 => .int
  | _ => .int
abbrev wsX80 : List Cond := u_ws RX8 TX8 8
theorem nmX8 : ∀ a, a < 8 → ∀ b, b < 8 → a ≠ b → (TX8 a).2.1 ≠ (TX8 b).2.1 := by decide +kernel
theorem tyX8_ok : ∀ k, k < 8 → parseFieldDescriptor (TX8 k).2.2.1 = some (tyX8 k) := by decide +kernel
abbrev cX8_init : ByteArray := prog_10_method_1_code
def yX8_init : MethodName := ⟨RX8, "<init>", "()V"⟩
abbrev cX8_paragraphs : ByteArray := prog_10_method_2_code
def yX8_paragraphs : MethodName := ⟨RX8, "paragraphs", "()I"⟩
def RX9 : String := "EssayBones$WordTable"
def TX9 : u_T := fun k => match k with
  | 0 => ("EssayBones$WordTable", "most", "I", true)
  | 1 => ("EssayBones$WordTable", "longest", "I", true)
  | 2 => ("EssayBones$WordTable", "bytes", "[I", true)
  | 3 => ("EssayBones$WordTable", "lengths", "[I", true)
  | 4 => ("EssayBones$WordTable", "kinds", "[I", true)
  | _ => ("EssayBones$WordTable", "size", "I", false)
def tyX9 : Nat → FieldType := fun k => match k with
  | 0 => .int
  | 1 => .int
  | 2 => .array .int
  | 3 => .array .int
  | 4 => .array .int
  | _ => .int
abbrev wsX90 : List Cond := u_ws RX9 TX9 6
theorem nmX9 : ∀ a, a < 6 → ∀ b, b < 6 → a ≠ b → (TX9 a).2.1 ≠ (TX9 b).2.1 := by decide +kernel
theorem tyX9_ok : ∀ k, k < 6 → parseFieldDescriptor (TX9 k).2.2.1 = some (tyX9 k) := by decide +kernel
abbrev cX9_init : ByteArray := prog_11_method_1_code
def yX9_init : MethodName := ⟨RX9, "<init>", "(II)V"⟩
abbrev cX9_isFull : ByteArray := prog_11_method_2_code
def yX9_isFull : MethodName := ⟨RX9, "isFull", "()Z"⟩
abbrev cX9_find : ByteArray := prog_11_method_3_code
def yX9_find : MethodName := ⟨RX9, "find", "([III)I"⟩
abbrev cX9_isAt : ByteArray := prog_11_method_4_code
def yX9_isAt : MethodName := ⟨RX9, "isAt", "(I[II)Z"⟩
abbrev cX9_add : ByteArray := prog_11_method_5_code
def yX9_add : MethodName := ⟨RX9, "add", "([III)V"⟩
abbrev cX9_drop : ByteArray := prog_11_method_6_code
def yX9_drop : MethodName := ⟨RX9, "drop", "(I)V"⟩
abbrev cX9_lengthWithout : ByteArray := prog_11_method_7_code
def yX9_lengthWithout : MethodName := ⟨RX9, "lengthWithout", "([III)I"⟩
def RX10 : String := "EssayBones"
def TX10 : u_T := fun k => match k with
  | 0 => ("EssayBones", "tape", "LEssayBones$Tape;", true)
  | 1 => ("EssayBones", "stops", "LEssayBones$WordTable;", true)
  | 2 => ("EssayBones", "signs", "LEssayBones$WordTable;", true)
  | 3 => ("EssayBones", "endings", "LEssayBones$WordTable;", true)
  | 4 => ("EssayBones", "weights", "[I", true)
  | 5 => ("EssayBones", "scanner", "LEssayBones$Scanner;", true)
  | 6 => ("EssayBones", "essay", "LEssayBones$Text;", false)
  | 7 => ("EssayBones", "draft", "LEssayBones$Text;", false)
  | 8 => ("EssayBones", "keys", "LEssayBones$Keys;", true)
  | 9 => ("EssayBones", "places", "LEssayBones$Places;", true)
  | 10 => ("EssayBones", "forest", "LEssayBones$Forest;", true)
  | 11 => ("EssayBones", "bones", "LEssayBones$Bones;", true)
  | 12 => ("EssayBones", "pairs", "LEssayBones$Pairs;", true)
  | 13 => ("EssayBones", "orders", "LEssayBones$Orders;", true)
  | 14 => ("EssayBones", "keysStale", "Z", false)
  | _ => ("EssayBones", "bonesStale", "Z", false)
def tyX10 : Nat → FieldType := fun k => match k with
  | 0 => .object "EssayBones$Tape"
  | 1 => .object "EssayBones$WordTable"
  | 2 => .object "EssayBones$WordTable"
  | 3 => .object "EssayBones$WordTable"
  | 4 => .array .int
  | 5 => .object "EssayBones$Scanner"
  | 6 => .object "EssayBones$Text"
  | 7 => .object "EssayBones$Text"
  | 8 => .object "EssayBones$Keys"
  | 9 => .object "EssayBones$Places"
  | 10 => .object "EssayBones$Forest"
  | 11 => .object "EssayBones$Bones"
  | 12 => .object "EssayBones$Pairs"
  | 13 => .object "EssayBones$Orders"
  | 14 => .boolean
  | _ => .boolean
abbrev wsX100 : List Cond := u_ws RX10 TX10 16
theorem nmX10 : ∀ a, a < 16 → ∀ b, b < 16 → a ≠ b → (TX10 a).2.1 ≠ (TX10 b).2.1 := by decide +kernel
theorem tyX10_ok : ∀ k, k < 16 → parseFieldDescriptor (TX10 k).2.2.1 = some (tyX10 k) := by decide +kernel
abbrev cX10_init : ByteArray := prog_1_method_1_code
def yX10_init : MethodName := ⟨RX10, "<init>", "()V"⟩
abbrev cX10_feed : ByteArray := prog_1_method_2_code
def yX10_feed : MethodName := ⟨RX10, "feed", "(IIIII)I"⟩
abbrev cX10_end : ByteArray := prog_1_method_3_code
def yX10_end : MethodName := ⟨RX10, "end", "(I)I"⟩
abbrev cX10_stop : ByteArray := prog_1_method_4_code
def yX10_stop : MethodName := ⟨RX10, "stop", "()I"⟩
abbrev cX10_sign : ByteArray := prog_1_method_5_code
def yX10_sign : MethodName := ⟨RX10, "sign", "(I)I"⟩
abbrev cX10_ending : ByteArray := prog_1_method_6_code
def yX10_ending : MethodName := ⟨RX10, "ending", "()I"⟩
abbrev cX10_weight : ByteArray := prog_1_method_7_code
def yX10_weight : MethodName := ⟨RX10, "weight", "(II)I"⟩
abbrev cX10_toggle : ByteArray := prog_1_method_8_code
def yX10_toggle : MethodName := ⟨RX10, "toggle", "(LEssayBones$WordTable;)I"⟩
abbrev cX10_read : ByteArray := prog_1_method_9_code
def yX10_read : MethodName := ⟨RX10, "read", "()I"⟩
abbrev cX10_fault : ByteArray := prog_1_method_10_code
def yX10_fault : MethodName := ⟨RX10, "fault", "(I)I"⟩
abbrev cX10_sentence : ByteArray := prog_1_method_11_code
def yX10_sentence : MethodName := ⟨RX10, "sentence", "(II)I"⟩
abbrev cX10_word : ByteArray := prog_1_method_12_code
def yX10_word : MethodName := ⟨RX10, "word", "(III)I"⟩
abbrev cX10_shared : ByteArray := prog_1_method_13_code
def yX10_shared : MethodName := ⟨RX10, "shared", "(II)I"⟩
abbrev cX10_isNoSentence : ByteArray := prog_1_method_14_code
def yX10_isNoSentence : MethodName := ⟨RX10, "isNoSentence", "(I)Z"⟩
abbrev cX10_sharedKeys : ByteArray := prog_1_method_15_code
def yX10_sharedKeys : MethodName := ⟨RX10, "sharedKeys", "(II)I"⟩
abbrev cX10_kindAt : ByteArray := prog_1_method_16_code
def yX10_kindAt : MethodName := ⟨RX10, "kindAt", "(I)I"⟩
abbrev cX10_refreshKeys : ByteArray := prog_1_method_17_code
def yX10_refreshKeys : MethodName := ⟨RX10, "refreshKeys", "()V"⟩
abbrev cX10_cost : ByteArray := prog_1_method_18_code
def yX10_cost : MethodName := ⟨RX10, "cost", "(II)I"⟩
abbrev cX10_tree : ByteArray := prog_1_method_19_code
def yX10_tree : MethodName := ⟨RX10, "tree", "()I"⟩
abbrev cX10_next : ByteArray := prog_1_method_20_code
def yX10_next : MethodName := ⟨RX10, "next", "()I"⟩
abbrev cX10_finding : ByteArray := prog_1_method_21_code
def yX10_finding : MethodName := ⟨RX10, "finding", "(I)I"⟩
abbrev cX10_marks : ByteArray := prog_1_method_22_code
def yX10_marks : MethodName := ⟨RX10, "marks", "(IIIII)I"⟩
abbrev cX10_refresh : ByteArray := prog_1_method_23_code
def yX10_refresh : MethodName := ⟨RX10, "refresh", "()V"⟩
abbrev cX10_growTree : ByteArray := prog_1_method_24_code
def yX10_growTree : MethodName := ⟨RX10, "growTree", "()V"⟩
abbrev cX10_hangCost : ByteArray := prog_1_method_25_code
def yX10_hangCost : MethodName := ⟨RX10, "hangCost", "(II)I"⟩
abbrev cX10_isAgainstSign : ByteArray := prog_1_method_26_code
def yX10_isAgainstSign : MethodName := ⟨RX10, "isAgainstSign", "(II)Z"⟩
abbrev cX10_isBound : ByteArray := prog_1_method_27_code
def yX10_isBound : MethodName := ⟨RX10, "isBound", "(I)Z"⟩
abbrev cX10_isNoPoint : ByteArray := prog_1_method_28_code
def yX10_isNoPoint : MethodName := ⟨RX10, "isNoPoint", "(I)Z"⟩
abbrev cX10_findings : ByteArray := prog_1_method_29_code
def yX10_findings : MethodName := ⟨RX10, "findings", "(I)I"⟩
abbrev cX10_hasSupport : ByteArray := prog_1_method_30_code
def yX10_hasSupport : MethodName := ⟨RX10, "hasSupport", "(I)Z"⟩
abbrev cX10_isToldTwice : ByteArray := prog_1_method_31_code
def yX10_isToldTwice : MethodName := ⟨RX10, "isToldTwice", "(I)Z"⟩
abbrev cX10_pair : ByteArray := prog_1_method_32_code
def yX10_pair : MethodName := ⟨RX10, "pair", "(II)I"⟩
abbrev cX10_order : ByteArray := prog_1_method_33_code
def yX10_order : MethodName := ⟨RX10, "order", "(I)I"⟩
abbrev cX10_ordered : ByteArray := prog_1_method_34_code
def yX10_ordered : MethodName := ⟨RX10, "ordered", "(I)I"⟩
abbrev cX10_stands : ByteArray := prog_1_method_35_code
def yX10_stands : MethodName := ⟨RX10, "stands", "(I)I"⟩
abbrev cX10_arrange : ByteArray := prog_1_method_36_code
def yX10_arrange : MethodName := ⟨RX10, "arrange", "(I)I"⟩
abbrev cX10_move : ByteArray := prog_1_method_37_code
def yX10_move : MethodName := ⟨RX10, "move", "(II)I"⟩
abbrev cX10_count : ByteArray := prog_1_method_38_code
def yX10_count : MethodName := ⟨RX10, "count", "(I)I"⟩
abbrev cX10_rootPlace : ByteArray := prog_1_method_39_code
def yX10_rootPlace : MethodName := ⟨RX10, "rootPlace", "()I"⟩
abbrev cX10_findOrder : ByteArray := prog_1_method_40_code
def yX10_findOrder : MethodName := ⟨RX10, "findOrder", "(I)I"⟩
abbrev cX10_bindUnits : ByteArray := prog_1_method_41_code
def yX10_bindUnits : MethodName := ⟨RX10, "bindUnits", "(I)V"⟩
abbrev cX10_smallLetter : ByteArray := prog_1_method_42_code
def yX10_smallLetter : MethodName := ⟨RX10, "smallLetter", "(I)I"⟩
abbrev cX10_isOfWords : ByteArray := prog_1_method_43_code
def yX10_isOfWords : MethodName := ⟨RX10, "isOfWords", "(I)Z"⟩
def RX11 : String := "EssayBonesModel"
def TX11 : u_T := fun k => match k with
  | 0 => ("EssayBonesModel", "tape", "[B", true)
  | 1 => ("EssayBonesModel", "taped", "I", false)
  | 2 => ("EssayBonesModel", "hand", "[B", true)
  | 3 => ("EssayBonesModel", "held", "I", false)
  | 4 => ("EssayBonesModel", "stopText", "[B", true)
  | 5 => ("EssayBonesModel", "stopSize", "[I", true)
  | 6 => ("EssayBonesModel", "stops", "I", false)
  | 7 => ("EssayBonesModel", "signText", "[B", true)
  | 8 => ("EssayBonesModel", "signSize", "[I", true)
  | 9 => ("EssayBonesModel", "signKind", "[I", true)
  | 10 => ("EssayBonesModel", "signs", "I", false)
  | 11 => ("EssayBonesModel", "endText", "[B", true)
  | 12 => ("EssayBonesModel", "endSize", "[I", true)
  | 13 => ("EssayBonesModel", "ends", "I", false)
  | 14 => ("EssayBonesModel", "weight", "[I", true)
  | 15 => ("EssayBonesModel", "text", "[B", true)
  | 16 => ("EssayBonesModel", "length", "[I", true)
  | 17 => ("EssayBonesModel", "words", "[I", true)
  | 18 => ("EssayBonesModel", "newText", "[B", true)
  | 19 => ("EssayBonesModel", "newLength", "[I", true)
  | 20 => ("EssayBonesModel", "newWords", "[I", true)
  | 21 => ("EssayBonesModel", "newParagraph", "[I", true)
  | 22 => ("EssayBonesModel", "paragraph", "[I", true)
  | 23 => ("EssayBonesModel", "at", "[I", true)
  | 24 => ("EssayBonesModel", "many", "I", false)
  | 25 => ("EssayBonesModel", "paragraphs", "I", false)
  | 26 => ("EssayBonesModel", "faultKind", "I", false)
  | 27 => ("EssayBonesModel", "faultPlace", "I", false)
  | 28 => ("EssayBonesModel", "key", "[I", true)
  | 29 => ("EssayBonesModel", "keySize", "[I", true)
  | 30 => ("EssayBonesModel", "keys", "[I", true)
  | 31 => ("EssayBonesModel", "kind", "[I", true)
  | 32 => ("EssayBonesModel", "isTree", "Z", false)
  | 33 => ("EssayBonesModel", "price", "[I", true)
  | 34 => ("EssayBonesModel", "rootPrice", "[I", true)
  | 35 => ("EssayBonesModel", "mayNot", "[Z", true)
  | 36 => ("EssayBonesModel", "left", "[I", true)
  | 37 => ("EssayBonesModel", "right", "[I", true)
  | 38 => ("EssayBonesModel", "head", "[I", true)
  | 39 => ("EssayBonesModel", "treeCost", "I", false)
  | 40 => ("EssayBonesModel", "nextCost", "I", false)
  | 41 => ("EssayBonesModel", "pairs", "I", false)
  | 42 => ("EssayBonesModel", "pFirst", "[I", true)
  | 43 => ("EssayBonesModel", "pSecond", "[I", true)
  | 44 => ("EssayBonesModel", "item", "[I", true)
  | 45 => ("EssayBonesModel", "itemSize", "[I", true)
  | 46 => ("EssayBonesModel", "itemPlace", "[I", true)
  | 47 => ("EssayBonesModel", "items", "I", false)
  | 48 => ("EssayBonesModel", "must", "[I", true)
  | 49 => ("EssayBonesModel", "setSize", "[I", true)
  | 50 => ("EssayBonesModel", "onward", "[I", true)
  | 51 => ("EssayBonesModel", "row", "[I", true)
  | 52 => ("EssayBonesModel", "rows", "I", false)
  | 53 => ("EssayBonesModel", "made", "[I", true)
  | _ => ("EssayBonesModel", "newAt", "[I", true)
def tyX11 : Nat → FieldType := fun k => match k with
  | 0 => .array .byte
  | 1 => .int
  | 2 => .array .byte
  | 3 => .int
  | 4 => .array .byte
  | 5 => .array .int
  | 6 => .int
  | 7 => .array .byte
  | 8 => .array .int
  | 9 => .array .int
  | 10 => .int
  | 11 => .array .byte
  | 12 => .array .int
  | 13 => .int
  | 14 => .array .int
  | 15 => .array .byte
  | 16 => .array .int
  | 17 => .array .int
  | 18 => .array .byte
  | 19 => .array .int
  | 20 => .array .int
  | 21 => .array .int
  | 22 => .array .int
  | 23 => .array .int
  | 24 => .int
  | 25 => .int
  | 26 => .int
  | 27 => .int
  | 28 => .array .int
  | 29 => .array .int
  | 30 => .array .int
  | 31 => .array .int
  | 32 => .boolean
  | 33 => .array .int
  | 34 => .array .int
  | 35 => .array .boolean
  | 36 => .array .int
  | 37 => .array .int
  | 38 => .array .int
  | 39 => .int
  | 40 => .int
  | 41 => .int
  | 42 => .array .int
  | 43 => .array .int
  | 44 => .array .int
  | 45 => .array .int
  | 46 => .array .int
  | 47 => .int
  | 48 => .array .int
  | 49 => .array .int
  | 50 => .array .int
  | 51 => .array .int
  | 52 => .int
  | 53 => .array .int
  | _ => .array .int
abbrev wsX110 : List Cond := u_ws RX11 TX11 55
theorem nmX11 : ∀ a, a < 55 → ∀ b, b < 55 → a ≠ b → (TX11 a).2.1 ≠ (TX11 b).2.1 := by decide +kernel
theorem tyX11_ok : ∀ k, k < 55 → parseFieldDescriptor (TX11 k).2.2.1 = some (tyX11 k) := by decide +kernel
abbrev cX11_init : ByteArray := prog_13_method_1_code
def yX11_init : MethodName := ⟨RX11, "<init>", "()V"⟩
abbrev cX11_in : ByteArray := prog_13_method_2_code
def yX11_in : MethodName := ⟨RX11, "in", "(III)Z"⟩
abbrev cX11_feed : ByteArray := prog_13_method_3_code
def yX11_feed : MethodName := ⟨RX11, "feed", "(IIIII)I"⟩
abbrev cX11_end : ByteArray := prog_13_method_4_code
def yX11_end : MethodName := ⟨RX11, "end", "(I)I"⟩
abbrev cX11_isOfWord : ByteArray := prog_13_method_5_code
def yX11_isOfWord : MethodName := ⟨RX11, "isOfWord", "(I)Z"⟩
abbrev cX11_small : ByteArray := prog_13_method_6_code
def yX11_small : MethodName := ⟨RX11, "small", "(I)I"⟩
abbrev cX11_takeWord : ByteArray := prog_13_method_7_code
def yX11_takeWord : MethodName := ⟨RX11, "takeWord", "(I)Z"⟩
abbrev cX11_isLike : ByteArray := prog_13_method_8_code
def yX11_isLike : MethodName := ⟨RX11, "isLike", "([BII[BII)Z"⟩
abbrev cX11_find : ByteArray := prog_13_method_9_code
def yX11_find : MethodName := ⟨RX11, "find", "([B[II[BII)I"⟩
abbrev cX11_put : ByteArray := prog_13_method_10_code
def yX11_put : MethodName := ⟨RX11, "put", "([B[II)V"⟩
abbrev cX11_takeAway : ByteArray := prog_13_method_11_code
def yX11_takeAway : MethodName := ⟨RX11, "takeAway", "([B[III)V"⟩
abbrev cX11_stop : ByteArray := prog_13_method_12_code
def yX11_stop : MethodName := ⟨RX11, "stop", "()I"⟩
abbrev cX11_sign : ByteArray := prog_13_method_13_code
def yX11_sign : MethodName := ⟨RX11, "sign", "(I)I"⟩
abbrev cX11_ending : ByteArray := prog_13_method_14_code
def yX11_ending : MethodName := ⟨RX11, "ending", "()I"⟩
abbrev cX11_weight : ByteArray := prog_13_method_15_code
def yX11_weight : MethodName := ⟨RX11, "weight", "(II)I"⟩
abbrev cX11_wrong : ByteArray := prog_13_method_16_code
def yX11_wrong : MethodName := ⟨RX11, "wrong", "(II)I"⟩
abbrev cX11_reads : ByteArray := prog_13_method_17_code
def yX11_reads : MethodName := ⟨RX11, "reads", "(I)I"⟩
abbrev cX11_read : ByteArray := prog_13_method_18_code
def yX11_read : MethodName := ⟨RX11, "read", "()I"⟩
abbrev cX11_fault : ByteArray := prog_13_method_19_code
def yX11_fault : MethodName := ⟨RX11, "fault", "(I)I"⟩
abbrev cX11_isHere : ByteArray := prog_13_method_20_code
def yX11_isHere : MethodName := ⟨RX11, "isHere", "(I)Z"⟩
abbrev cX11_folded : ByteArray := prog_13_method_21_code
def yX11_folded : MethodName := ⟨RX11, "folded", "(I)I"⟩
abbrev cX11_sameKey : ByteArray := prog_13_method_22_code
def yX11_sameKey : MethodName := ⟨RX11, "sameKey", "(IIII)Z"⟩
abbrev cX11_makeKeys : ByteArray := prog_13_method_23_code
def yX11_makeKeys : MethodName := ⟨RX11, "makeKeys", "(I)V"⟩
abbrev cX11_hasKey : ByteArray := prog_13_method_24_code
def yX11_hasKey : MethodName := ⟨RX11, "hasKey", "(III)Z"⟩
abbrev cX11_sharedBy : ByteArray := prog_13_method_25_code
def yX11_sharedBy : MethodName := ⟨RX11, "sharedBy", "(II)I"⟩
abbrev cX11_priceOf : ByteArray := prog_13_method_26_code
def yX11_priceOf : MethodName := ⟨RX11, "priceOf", "(II)I"⟩
abbrev cX11_arc : ByteArray := prog_13_method_27_code
def yX11_arc : MethodName := ⟨RX11, "arc", "(II)I"⟩
abbrev cX11_least : ByteArray := prog_13_method_28_code
def yX11_least : MethodName := ⟨RX11, "least", "()I"⟩
abbrev cX11_allMay : ByteArray := prog_13_method_29_code
def yX11_allMay : MethodName := ⟨RX11, "allMay", "()V"⟩
abbrev cX11_fix : ByteArray := prog_13_method_30_code
def yX11_fix : MethodName := ⟨RX11, "fix", "(II)V"⟩
abbrev cX11_makeTree : ByteArray := prog_13_method_31_code
def yX11_makeTree : MethodName := ⟨RX11, "makeTree", "()V"⟩
abbrev cX11_isOf : ByteArray := prog_13_method_32_code
def yX11_isOf : MethodName := ⟨RX11, "isOf", "(II)Z"⟩
abbrev cX11_hanging : ByteArray := prog_13_method_33_code
def yX11_hanging : MethodName := ⟨RX11, "hanging", "(I)I"⟩
abbrev cX11_partSize : ByteArray := prog_13_method_34_code
def yX11_partSize : MethodName := ⟨RX11, "partSize", "(I)I"⟩
abbrev cX11_partBegin : ByteArray := prog_13_method_35_code
def yX11_partBegin : MethodName := ⟨RX11, "partBegin", "(I)I"⟩
abbrev cX11_sentence : ByteArray := prog_13_method_36_code
def yX11_sentence : MethodName := ⟨RX11, "sentence", "(II)I"⟩
abbrev cX11_word : ByteArray := prog_13_method_37_code
def yX11_word : MethodName := ⟨RX11, "word", "(III)I"⟩
abbrev cX11_shared : ByteArray := prog_13_method_38_code
def yX11_shared : MethodName := ⟨RX11, "shared", "(II)I"⟩
abbrev cX11_cost : ByteArray := prog_13_method_39_code
def yX11_cost : MethodName := ⟨RX11, "cost", "(II)I"⟩
abbrev cX11_tree : ByteArray := prog_13_method_40_code
def yX11_tree : MethodName := ⟨RX11, "tree", "()I"⟩
abbrev cX11_next : ByteArray := prog_13_method_41_code
def yX11_next : MethodName := ⟨RX11, "next", "()I"⟩
abbrev cX11_findingOf : ByteArray := prog_13_method_42_code
def yX11_findingOf : MethodName := ⟨RX11, "findingOf", "(I)I"⟩
abbrev cX11_finding : ByteArray := prog_13_method_43_code
def yX11_finding : MethodName := ⟨RX11, "finding", "(I)I"⟩
abbrev cX11_isPoint : ByteArray := prog_13_method_44_code
def yX11_isPoint : MethodName := ⟨RX11, "isPoint", "(I)Z"⟩
abbrev cX11_marks : ByteArray := prog_13_method_45_code
def yX11_marks : MethodName := ⟨RX11, "marks", "(IIIII)I"⟩
abbrev cX11_isAhead : ByteArray := prog_13_method_46_code
def yX11_isAhead : MethodName := ⟨RX11, "isAhead", "(II)Z"⟩
abbrev cX11_pair : ByteArray := prog_13_method_47_code
def yX11_pair : MethodName := ⟨RX11, "pair", "(II)I"⟩
abbrev cX11_itemOf : ByteArray := prog_13_method_48_code
def yX11_itemOf : MethodName := ⟨RX11, "itemOf", "(II)I"⟩
abbrev cX11_takeItems : ByteArray := prog_13_method_49_code
def yX11_takeItems : MethodName := ⟨RX11, "takeItems", "(I)Z"⟩
abbrev cX11_placing : ByteArray := prog_13_method_50_code
def yX11_placing : MethodName := ⟨RX11, "placing", "(II)I"⟩
abbrev cX11_reckon : ByteArray := prog_13_method_51_code
def yX11_reckon : MethodName := ⟨RX11, "reckon", "()I"⟩
abbrev cX11_order : ByteArray := prog_13_method_52_code
def yX11_order : MethodName := ⟨RX11, "order", "(I)I"⟩
abbrev cX11_ordered : ByteArray := prog_13_method_53_code
def yX11_ordered : MethodName := ⟨RX11, "ordered", "(I)I"⟩
abbrev cX11_stands : ByteArray := prog_13_method_54_code
def yX11_stands : MethodName := ⟨RX11, "stands", "(I)I"⟩
abbrev cX11_setAll : ByteArray := prog_13_method_55_code
def yX11_setAll : MethodName := ⟨RX11, "setAll", "()I"⟩
abbrev cX11_arrange : ByteArray := prog_13_method_56_code
def yX11_arrange : MethodName := ⟨RX11, "arrange", "(I)I"⟩
abbrev cX11_move : ByteArray := prog_13_method_57_code
def yX11_move : MethodName := ⟨RX11, "move", "(II)I"⟩
abbrev cX11_count : ByteArray := prog_13_method_58_code
def yX11_count : MethodName := ⟨RX11, "count", "(I)I"⟩
def RJ6 : String := "java/lang/Integer"
def TJ6 : u_T := fun k => match k with
  | _ => ("", "", "", false)
def tyJ6 : Nat → FieldType := fun k => match k with
  | _ => .int
abbrev wsJ60 : List Cond := u_ws RJ6 TJ6 0
theorem nmJ6 : ∀ a, a < 0 → ∀ b, b < 0 → a ≠ b → (TJ6 a).2.1 ≠ (TJ6 b).2.1 := by decide +kernel
theorem tyJ6_ok : ∀ k, k < 0 → parseFieldDescriptor (TJ6 k).2.2.1 = some (tyJ6 k) := by decide +kernel
abbrev cJ6_bitCount_0f7a4 : ByteArray := prog_14_method_49_code
def yJ6_bitCount_0f7a4 : MethodName := ⟨RJ6, "bitCount", "(I)I"⟩
def RJ13 : String := "java/lang/Long"
def TJ13 : u_T := fun k => match k with
  | _ => ("", "", "", false)
def tyJ13 : Nat → FieldType := fun k => match k with
  | _ => .int
abbrev wsJ130 : List Cond := u_ws RJ13 TJ13 0
theorem nmJ13 : ∀ a, a < 0 → ∀ b, b < 0 → a ≠ b → (TJ13 a).2.1 ≠ (TJ13 b).2.1 := by decide +kernel
theorem tyJ13_ok : ∀ k, k < 0 → parseFieldDescriptor (TJ13 k).2.2.1 = some (tyJ13 k) := by decide +kernel
abbrev cJ13_bitCount_95d88 : ByteArray := prog_15_method_50_code
def yJ13_bitCount_95d88 : MethodName := ⟨RJ13, "bitCount", "(J)I"⟩
def RJ9 : String := "java/lang/Math"
def TJ9 : u_T := fun k => match k with
  | _ => ("", "", "", false)
def tyJ9 : Nat → FieldType := fun k => match k with
  | _ => .int
abbrev wsJ90 : List Cond := u_ws RJ9 TJ9 0
theorem nmJ9 : ∀ a, a < 0 → ∀ b, b < 0 → a ≠ b → (TJ9 a).2.1 ≠ (TJ9 b).2.1 := by decide +kernel
theorem tyJ9_ok : ∀ k, k < 0 → parseFieldDescriptor (TJ9 k).2.2.1 = some (tyJ9 k) := by decide +kernel
abbrev cJ9_abs_0f7a4 : ByteArray := prog_16_method_59_code
def yJ9_abs_0f7a4 : MethodName := ⟨RJ9, "abs", "(I)I"⟩
abbrev cJ9_min_7cf53 : ByteArray := prog_16_method_69_code
def yJ9_min_7cf53 : MethodName := ⟨RJ9, "min", "(II)I"⟩
def RJ10 : String := "java/lang/System"
def TJ10 : u_T := fun k => match k with
  | _ => ("", "", "", false)
def tyJ10 : Nat → FieldType := fun k => match k with
  | _ => .int
abbrev wsJ100 : List Cond := u_ws RJ10 TJ10 0
theorem nmJ10 : ∀ a, a < 0 → ∀ b, b < 0 → a ≠ b → (TJ10 a).2.1 ≠ (TJ10 b).2.1 := by decide +kernel
theorem tyJ10_ok : ∀ k, k < 0 → parseFieldDescriptor (TJ10 k).2.2.1 = some (tyJ10 k) := by decide +kernel
def RJ7 : String := "java/util/Arrays"
def TJ7 : u_T := fun k => match k with
  | _ => ("", "", "", false)
def tyJ7 : Nat → FieldType := fun k => match k with
  | _ => .int
abbrev wsJ70 : List Cond := u_ws RJ7 TJ7 0
theorem nmJ7 : ∀ a, a < 0 → ∀ b, b < 0 → a ≠ b → (TJ7 a).2.1 ≠ (TJ7 b).2.1 := by decide +kernel
theorem tyJ7_ok : ∀ k, k < 0 → parseFieldDescriptor (TJ7 k).2.2.1 = some (tyJ7 k) := by decide +kernel
abbrev cJ7_fill_d0a16 : ByteArray := prog_18_method_101_code
def yJ7_fill_d0a16 : MethodName := ⟨RJ7, "fill", "([JJ)V"⟩
abbrev cJ7_fill_53178 : ByteArray := prog_18_method_103_code
def yJ7_fill_53178 : MethodName := ⟨RJ7, "fill", "([II)V"⟩
def RL : String := "EssayBonesLaw"
abbrev cL_law : ByteArray := code
def yL_law : MethodName := ⟨RL, "law", "([I)Z"⟩
end
section
theorem dJ6_bitCount_0f7a4_0 : decode cJ6_bitCount_0f7a4 0 = .ok (.iload_n 0, 1) := by decide +kernel
theorem dJ6_bitCount_0f7a4_1 : decode cJ6_bitCount_0f7a4 1 = .ok (.iload_n 0, 1) := by decide +kernel
theorem dJ6_bitCount_0f7a4_2 : decode cJ6_bitCount_0f7a4 2 = .ok (.iconst 1, 1) := by decide +kernel
theorem dJ6_bitCount_0f7a4_3 : decode cJ6_bitCount_0f7a4 3 = .ok (.iushr, 1) := by decide +kernel
theorem dJ6_bitCount_0f7a4_4 : decode cJ6_bitCount_0f7a4 4 = .ok (.ldc_w 265, 3) := by decide +kernel
theorem dJ6_bitCount_0f7a4_7 : decode cJ6_bitCount_0f7a4 7 = .ok (.iand, 1) := by decide +kernel
theorem dJ6_bitCount_0f7a4_8 : decode cJ6_bitCount_0f7a4 8 = .ok (.isub, 1) := by decide +kernel
theorem dJ6_bitCount_0f7a4_9 : decode cJ6_bitCount_0f7a4 9 = .ok (.istore_n 0, 1) := by decide +kernel
theorem dJ6_bitCount_0f7a4_10 : decode cJ6_bitCount_0f7a4 10 = .ok (.iload_n 0, 1) := by decide +kernel
theorem dJ6_bitCount_0f7a4_11 : decode cJ6_bitCount_0f7a4 11 = .ok (.ldc_w 266, 3) := by decide +kernel
theorem dJ6_bitCount_0f7a4_14 : decode cJ6_bitCount_0f7a4 14 = .ok (.iand, 1) := by decide +kernel
theorem dJ6_bitCount_0f7a4_15 : decode cJ6_bitCount_0f7a4 15 = .ok (.iload_n 0, 1) := by decide +kernel
theorem dJ6_bitCount_0f7a4_16 : decode cJ6_bitCount_0f7a4 16 = .ok (.iconst 2, 1) := by decide +kernel
theorem dJ6_bitCount_0f7a4_17 : decode cJ6_bitCount_0f7a4 17 = .ok (.iushr, 1) := by decide +kernel
theorem dJ6_bitCount_0f7a4_18 : decode cJ6_bitCount_0f7a4 18 = .ok (.ldc_w 266, 3) := by decide +kernel
theorem dJ6_bitCount_0f7a4_21 : decode cJ6_bitCount_0f7a4 21 = .ok (.iand, 1) := by decide +kernel
theorem dJ6_bitCount_0f7a4_22 : decode cJ6_bitCount_0f7a4 22 = .ok (.iadd, 1) := by decide +kernel
theorem dJ6_bitCount_0f7a4_23 : decode cJ6_bitCount_0f7a4 23 = .ok (.istore_n 0, 1) := by decide +kernel
theorem dJ6_bitCount_0f7a4_24 : decode cJ6_bitCount_0f7a4 24 = .ok (.iload_n 0, 1) := by decide +kernel
theorem dJ6_bitCount_0f7a4_25 : decode cJ6_bitCount_0f7a4 25 = .ok (.iload_n 0, 1) := by decide +kernel
theorem dJ6_bitCount_0f7a4_26 : decode cJ6_bitCount_0f7a4 26 = .ok (.iconst 4, 1) := by decide +kernel
theorem dJ6_bitCount_0f7a4_27 : decode cJ6_bitCount_0f7a4 27 = .ok (.iushr, 1) := by decide +kernel
theorem dJ6_bitCount_0f7a4_28 : decode cJ6_bitCount_0f7a4 28 = .ok (.iadd, 1) := by decide +kernel
theorem dJ6_bitCount_0f7a4_29 : decode cJ6_bitCount_0f7a4 29 = .ok (.ldc_w 267, 3) := by decide +kernel
theorem dJ6_bitCount_0f7a4_32 : decode cJ6_bitCount_0f7a4 32 = .ok (.iand, 1) := by decide +kernel
theorem dJ6_bitCount_0f7a4_33 : decode cJ6_bitCount_0f7a4 33 = .ok (.istore_n 0, 1) := by decide +kernel
theorem dJ6_bitCount_0f7a4_34 : decode cJ6_bitCount_0f7a4 34 = .ok (.iload_n 0, 1) := by decide +kernel
theorem dJ6_bitCount_0f7a4_35 : decode cJ6_bitCount_0f7a4 35 = .ok (.iload_n 0, 1) := by decide +kernel
theorem dJ6_bitCount_0f7a4_36 : decode cJ6_bitCount_0f7a4 36 = .ok (.bipush 8, 2) := by decide +kernel
theorem dJ6_bitCount_0f7a4_38 : decode cJ6_bitCount_0f7a4 38 = .ok (.iushr, 1) := by decide +kernel
theorem dJ6_bitCount_0f7a4_39 : decode cJ6_bitCount_0f7a4 39 = .ok (.iadd, 1) := by decide +kernel
theorem dJ6_bitCount_0f7a4_40 : decode cJ6_bitCount_0f7a4 40 = .ok (.istore_n 0, 1) := by decide +kernel
theorem dJ6_bitCount_0f7a4_41 : decode cJ6_bitCount_0f7a4 41 = .ok (.iload_n 0, 1) := by decide +kernel
theorem dJ6_bitCount_0f7a4_42 : decode cJ6_bitCount_0f7a4 42 = .ok (.iload_n 0, 1) := by decide +kernel
theorem dJ6_bitCount_0f7a4_43 : decode cJ6_bitCount_0f7a4 43 = .ok (.bipush 16, 2) := by decide +kernel
theorem dJ6_bitCount_0f7a4_45 : decode cJ6_bitCount_0f7a4 45 = .ok (.iushr, 1) := by decide +kernel
theorem dJ6_bitCount_0f7a4_46 : decode cJ6_bitCount_0f7a4 46 = .ok (.iadd, 1) := by decide +kernel
theorem dJ6_bitCount_0f7a4_47 : decode cJ6_bitCount_0f7a4 47 = .ok (.istore_n 0, 1) := by decide +kernel
theorem dJ6_bitCount_0f7a4_48 : decode cJ6_bitCount_0f7a4 48 = .ok (.iload_n 0, 1) := by decide +kernel
theorem dJ6_bitCount_0f7a4_49 : decode cJ6_bitCount_0f7a4 49 = .ok (.bipush 63, 2) := by decide +kernel
theorem dJ6_bitCount_0f7a4_51 : decode cJ6_bitCount_0f7a4 51 = .ok (.iand, 1) := by decide +kernel
theorem dJ6_bitCount_0f7a4_52 : decode cJ6_bitCount_0f7a4 52 = .ok (.ireturn, 1) := by decide +kernel
theorem dJ13_bitCount_95d88_0 : decode cJ13_bitCount_95d88 0 = .ok (.lload_n 0, 1) := by decide +kernel
theorem dJ13_bitCount_95d88_1 : decode cJ13_bitCount_95d88 1 = .ok (.lload_n 0, 1) := by decide +kernel
theorem dJ13_bitCount_95d88_2 : decode cJ13_bitCount_95d88 2 = .ok (.iconst 1, 1) := by decide +kernel
theorem dJ13_bitCount_95d88_3 : decode cJ13_bitCount_95d88 3 = .ok (.lushr, 1) := by decide +kernel
theorem dJ13_bitCount_95d88_4 : decode cJ13_bitCount_95d88 4 = .ok (.ldc2_w 314, 3) := by decide +kernel
theorem dJ13_bitCount_95d88_7 : decode cJ13_bitCount_95d88 7 = .ok (.land, 1) := by decide +kernel
theorem dJ13_bitCount_95d88_8 : decode cJ13_bitCount_95d88 8 = .ok (.lsub, 1) := by decide +kernel
theorem dJ13_bitCount_95d88_9 : decode cJ13_bitCount_95d88 9 = .ok (.lstore_n 0, 1) := by decide +kernel
theorem dJ13_bitCount_95d88_10 : decode cJ13_bitCount_95d88 10 = .ok (.lload_n 0, 1) := by decide +kernel
theorem dJ13_bitCount_95d88_11 : decode cJ13_bitCount_95d88 11 = .ok (.ldc2_w 316, 3) := by decide +kernel
theorem dJ13_bitCount_95d88_14 : decode cJ13_bitCount_95d88 14 = .ok (.land, 1) := by decide +kernel
theorem dJ13_bitCount_95d88_15 : decode cJ13_bitCount_95d88 15 = .ok (.lload_n 0, 1) := by decide +kernel
theorem dJ13_bitCount_95d88_16 : decode cJ13_bitCount_95d88 16 = .ok (.iconst 2, 1) := by decide +kernel
theorem dJ13_bitCount_95d88_17 : decode cJ13_bitCount_95d88 17 = .ok (.lushr, 1) := by decide +kernel
theorem dJ13_bitCount_95d88_18 : decode cJ13_bitCount_95d88 18 = .ok (.ldc2_w 316, 3) := by decide +kernel
theorem dJ13_bitCount_95d88_21 : decode cJ13_bitCount_95d88 21 = .ok (.land, 1) := by decide +kernel
theorem dJ13_bitCount_95d88_22 : decode cJ13_bitCount_95d88 22 = .ok (.ladd, 1) := by decide +kernel
theorem dJ13_bitCount_95d88_23 : decode cJ13_bitCount_95d88 23 = .ok (.lstore_n 0, 1) := by decide +kernel
theorem dJ13_bitCount_95d88_24 : decode cJ13_bitCount_95d88 24 = .ok (.lload_n 0, 1) := by decide +kernel
theorem dJ13_bitCount_95d88_25 : decode cJ13_bitCount_95d88 25 = .ok (.lload_n 0, 1) := by decide +kernel
theorem dJ13_bitCount_95d88_26 : decode cJ13_bitCount_95d88 26 = .ok (.iconst 4, 1) := by decide +kernel
theorem dJ13_bitCount_95d88_27 : decode cJ13_bitCount_95d88 27 = .ok (.lushr, 1) := by decide +kernel
theorem dJ13_bitCount_95d88_28 : decode cJ13_bitCount_95d88 28 = .ok (.ladd, 1) := by decide +kernel
theorem dJ13_bitCount_95d88_29 : decode cJ13_bitCount_95d88 29 = .ok (.ldc2_w 318, 3) := by decide +kernel
theorem dJ13_bitCount_95d88_32 : decode cJ13_bitCount_95d88 32 = .ok (.land, 1) := by decide +kernel
theorem dJ13_bitCount_95d88_33 : decode cJ13_bitCount_95d88 33 = .ok (.lstore_n 0, 1) := by decide +kernel
theorem dJ13_bitCount_95d88_34 : decode cJ13_bitCount_95d88 34 = .ok (.lload_n 0, 1) := by decide +kernel
theorem dJ13_bitCount_95d88_35 : decode cJ13_bitCount_95d88 35 = .ok (.lload_n 0, 1) := by decide +kernel
theorem dJ13_bitCount_95d88_36 : decode cJ13_bitCount_95d88 36 = .ok (.bipush 8, 2) := by decide +kernel
theorem dJ13_bitCount_95d88_38 : decode cJ13_bitCount_95d88 38 = .ok (.lushr, 1) := by decide +kernel
theorem dJ13_bitCount_95d88_39 : decode cJ13_bitCount_95d88 39 = .ok (.ladd, 1) := by decide +kernel
theorem dJ13_bitCount_95d88_40 : decode cJ13_bitCount_95d88 40 = .ok (.lstore_n 0, 1) := by decide +kernel
theorem dJ13_bitCount_95d88_41 : decode cJ13_bitCount_95d88 41 = .ok (.lload_n 0, 1) := by decide +kernel
theorem dJ13_bitCount_95d88_42 : decode cJ13_bitCount_95d88 42 = .ok (.lload_n 0, 1) := by decide +kernel
theorem dJ13_bitCount_95d88_43 : decode cJ13_bitCount_95d88 43 = .ok (.bipush 16, 2) := by decide +kernel
theorem dJ13_bitCount_95d88_45 : decode cJ13_bitCount_95d88 45 = .ok (.lushr, 1) := by decide +kernel
theorem dJ13_bitCount_95d88_46 : decode cJ13_bitCount_95d88 46 = .ok (.ladd, 1) := by decide +kernel
theorem dJ13_bitCount_95d88_47 : decode cJ13_bitCount_95d88 47 = .ok (.lstore_n 0, 1) := by decide +kernel
theorem dJ13_bitCount_95d88_48 : decode cJ13_bitCount_95d88 48 = .ok (.lload_n 0, 1) := by decide +kernel
theorem dJ13_bitCount_95d88_49 : decode cJ13_bitCount_95d88 49 = .ok (.lload_n 0, 1) := by decide +kernel
theorem dJ13_bitCount_95d88_50 : decode cJ13_bitCount_95d88 50 = .ok (.bipush 32, 2) := by decide +kernel
theorem dJ13_bitCount_95d88_52 : decode cJ13_bitCount_95d88 52 = .ok (.lushr, 1) := by decide +kernel
theorem dJ13_bitCount_95d88_53 : decode cJ13_bitCount_95d88 53 = .ok (.ladd, 1) := by decide +kernel
theorem dJ13_bitCount_95d88_54 : decode cJ13_bitCount_95d88 54 = .ok (.lstore_n 0, 1) := by decide +kernel
theorem dJ13_bitCount_95d88_55 : decode cJ13_bitCount_95d88 55 = .ok (.lload_n 0, 1) := by decide +kernel
theorem dJ13_bitCount_95d88_56 : decode cJ13_bitCount_95d88 56 = .ok (.l2i, 1) := by decide +kernel
theorem dJ13_bitCount_95d88_57 : decode cJ13_bitCount_95d88 57 = .ok (.bipush 127, 2) := by decide +kernel
theorem dJ13_bitCount_95d88_59 : decode cJ13_bitCount_95d88 59 = .ok (.iand, 1) := by decide +kernel
theorem dJ13_bitCount_95d88_60 : decode cJ13_bitCount_95d88 60 = .ok (.ireturn, 1) := by decide +kernel
theorem dJ9_abs_0f7a4_0 : decode cJ9_abs_0f7a4 0 = .ok (.iload_n 0, 1) := by decide +kernel
theorem dJ9_abs_0f7a4_1 : decode cJ9_abs_0f7a4 1 = .ok (.ifCond .ge 8, 3) := by decide +kernel
theorem dJ9_abs_0f7a4_4 : decode cJ9_abs_0f7a4 4 = .ok (.iload_n 0, 1) := by decide +kernel
theorem dJ9_abs_0f7a4_5 : decode cJ9_abs_0f7a4 5 = .ok (.ineg, 1) := by decide +kernel
theorem dJ9_abs_0f7a4_6 : decode cJ9_abs_0f7a4 6 = .ok (.goto 4, 3) := by decide +kernel
theorem dJ9_abs_0f7a4_9 : decode cJ9_abs_0f7a4 9 = .ok (.iload_n 0, 1) := by decide +kernel
theorem dJ9_abs_0f7a4_10 : decode cJ9_abs_0f7a4 10 = .ok (.ireturn, 1) := by decide +kernel
theorem dJ9_min_7cf53_0 : decode cJ9_min_7cf53 0 = .ok (.iload_n 0, 1) := by decide +kernel
theorem dJ9_min_7cf53_1 : decode cJ9_min_7cf53 1 = .ok (.iload_n 1, 1) := by decide +kernel
theorem dJ9_min_7cf53_2 : decode cJ9_min_7cf53 2 = .ok (.if_icmp .gt 7, 3) := by decide +kernel
theorem dJ9_min_7cf53_5 : decode cJ9_min_7cf53 5 = .ok (.iload_n 0, 1) := by decide +kernel
theorem dJ9_min_7cf53_6 : decode cJ9_min_7cf53 6 = .ok (.goto 4, 3) := by decide +kernel
theorem dJ9_min_7cf53_9 : decode cJ9_min_7cf53 9 = .ok (.iload_n 1, 1) := by decide +kernel
theorem dJ9_min_7cf53_10 : decode cJ9_min_7cf53 10 = .ok (.ireturn, 1) := by decide +kernel
theorem dJ7_fill_d0a16_0 : decode cJ7_fill_d0a16 0 = .ok (.iconst 0, 1) := by decide +kernel
theorem dJ7_fill_d0a16_1 : decode cJ7_fill_d0a16 1 = .ok (.istore_n 3, 1) := by decide +kernel
theorem dJ7_fill_d0a16_2 : decode cJ7_fill_d0a16 2 = .ok (.aload_n 0, 1) := by decide +kernel
theorem dJ7_fill_d0a16_3 : decode cJ7_fill_d0a16 3 = .ok (.arraylength, 1) := by decide +kernel
theorem dJ7_fill_d0a16_4 : decode cJ7_fill_d0a16 4 = .ok (.istore 4, 2) := by decide +kernel
theorem dJ7_fill_d0a16_6 : decode cJ7_fill_d0a16 6 = .ok (.iload_n 3, 1) := by decide +kernel
theorem dJ7_fill_d0a16_7 : decode cJ7_fill_d0a16 7 = .ok (.iload 4, 2) := by decide +kernel
theorem dJ7_fill_d0a16_9 : decode cJ7_fill_d0a16 9 = .ok (.if_icmp .ge 13, 3) := by decide +kernel
theorem dJ7_fill_d0a16_12 : decode cJ7_fill_d0a16 12 = .ok (.aload_n 0, 1) := by decide +kernel
theorem dJ7_fill_d0a16_13 : decode cJ7_fill_d0a16 13 = .ok (.iload_n 3, 1) := by decide +kernel
theorem dJ7_fill_d0a16_14 : decode cJ7_fill_d0a16 14 = .ok (.lload_n 1, 1) := by decide +kernel
theorem dJ7_fill_d0a16_15 : decode cJ7_fill_d0a16 15 = .ok (.lastore, 1) := by decide +kernel
theorem dJ7_fill_d0a16_16 : decode cJ7_fill_d0a16 16 = .ok (.iinc 3 1, 3) := by decide +kernel
theorem dJ7_fill_d0a16_19 : decode cJ7_fill_d0a16 19 = .ok (.goto (-13), 3) := by decide +kernel
theorem dJ7_fill_d0a16_22 : decode cJ7_fill_d0a16 22 = .ok (.return_, 1) := by decide +kernel
theorem dJ7_fill_53178_0 : decode cJ7_fill_53178 0 = .ok (.iconst 0, 1) := by decide +kernel
theorem dJ7_fill_53178_1 : decode cJ7_fill_53178 1 = .ok (.istore_n 2, 1) := by decide +kernel
theorem dJ7_fill_53178_2 : decode cJ7_fill_53178 2 = .ok (.aload_n 0, 1) := by decide +kernel
theorem dJ7_fill_53178_3 : decode cJ7_fill_53178 3 = .ok (.arraylength, 1) := by decide +kernel
theorem dJ7_fill_53178_4 : decode cJ7_fill_53178 4 = .ok (.istore_n 3, 1) := by decide +kernel
theorem dJ7_fill_53178_5 : decode cJ7_fill_53178 5 = .ok (.iload_n 2, 1) := by decide +kernel
theorem dJ7_fill_53178_6 : decode cJ7_fill_53178 6 = .ok (.iload_n 3, 1) := by decide +kernel
theorem dJ7_fill_53178_7 : decode cJ7_fill_53178 7 = .ok (.if_icmp .ge 13, 3) := by decide +kernel
theorem dJ7_fill_53178_10 : decode cJ7_fill_53178 10 = .ok (.aload_n 0, 1) := by decide +kernel
theorem dJ7_fill_53178_11 : decode cJ7_fill_53178 11 = .ok (.iload_n 2, 1) := by decide +kernel
theorem dJ7_fill_53178_12 : decode cJ7_fill_53178 12 = .ok (.iload_n 1, 1) := by decide +kernel
theorem dJ7_fill_53178_13 : decode cJ7_fill_53178 13 = .ok (.iastore, 1) := by decide +kernel
theorem dJ7_fill_53178_14 : decode cJ7_fill_53178 14 = .ok (.iinc 2 1, 3) := by decide +kernel
theorem dJ7_fill_53178_17 : decode cJ7_fill_53178 17 = .ok (.goto (-12), 3) := by decide +kernel
theorem dJ7_fill_53178_20 : decode cJ7_fill_53178 20 = .ok (.return_, 1) := by decide +kernel
end
section
theorem dL_law_0 : decode cL_law 0 = .ok (.new 7, 3) := by decide +kernel
theorem dL_law_3 : decode cL_law 3 = .ok (.dup, 1) := by decide +kernel
theorem dL_law_4 : decode cL_law 4 = .ok (.invokespecial 9, 3) := by decide +kernel
theorem dL_law_7 : decode cL_law 7 = .ok (.astore_n 1, 1) := by decide +kernel
theorem dL_law_8 : decode cL_law 8 = .ok (.new 10, 3) := by decide +kernel
theorem dL_law_11 : decode cL_law 11 = .ok (.dup, 1) := by decide +kernel
theorem dL_law_12 : decode cL_law 12 = .ok (.invokespecial 12, 3) := by decide +kernel
theorem dL_law_15 : decode cL_law 15 = .ok (.astore_n 2, 1) := by decide +kernel
theorem dL_law_16 : decode cL_law 16 = .ok (.iconst 0, 1) := by decide +kernel
theorem dL_law_17 : decode cL_law 17 = .ok (.istore_n 3, 1) := by decide +kernel
theorem dL_law_18 : decode cL_law 18 = .ok (.iload_n 3, 1) := by decide +kernel
theorem dL_law_19 : decode cL_law 19 = .ok (.aload_n 0, 1) := by decide +kernel
theorem dL_law_20 : decode cL_law 20 = .ok (.arraylength, 1) := by decide +kernel
theorem dL_law_21 : decode cL_law 21 = .ok (.bipush 6, 2) := by decide +kernel
theorem dL_law_23 : decode cL_law 23 = .ok (.isub, 1) := by decide +kernel
theorem dL_law_24 : decode cL_law 24 = .ok (.if_icmp .gt 761, 3) := by decide +kernel
theorem dL_law_27 : decode cL_law 27 = .ok (.aload_n 0, 1) := by decide +kernel
theorem dL_law_28 : decode cL_law 28 = .ok (.iload_n 3, 1) := by decide +kernel
theorem dL_law_29 : decode cL_law 29 = .ok (.iaload, 1) := by decide +kernel
theorem dL_law_30 : decode cL_law 30 = .ok (.bipush 31, 2) := by decide +kernel
theorem dL_law_32 : decode cL_law 32 = .ok (.iand, 1) := by decide +kernel
theorem dL_law_33 : decode cL_law 33 = .ok (.tableswitch 746 0 22 #[107, 170, 193, 206, 229, 242, 275, 288, 311, 344, 387, 420, 453, 466, 479, 502, 565, 598, 621, 644, 667, 690, 723], 107) := by decide +kernel
theorem dL_law_140 : decode cL_law 140 = .ok (.aload_n 1, 1) := by decide +kernel
theorem dL_law_141 : decode cL_law 141 = .ok (.aload_n 0, 1) := by decide +kernel
theorem dL_law_142 : decode cL_law 142 = .ok (.iload_n 3, 1) := by decide +kernel
theorem dL_law_143 : decode cL_law 143 = .ok (.iconst 1, 1) := by decide +kernel
theorem dL_law_144 : decode cL_law 144 = .ok (.iadd, 1) := by decide +kernel
theorem dL_law_145 : decode cL_law 145 = .ok (.iaload, 1) := by decide +kernel
theorem dL_law_146 : decode cL_law 146 = .ok (.aload_n 0, 1) := by decide +kernel
theorem dL_law_147 : decode cL_law 147 = .ok (.iload_n 3, 1) := by decide +kernel
theorem dL_law_148 : decode cL_law 148 = .ok (.iconst 2, 1) := by decide +kernel
theorem dL_law_149 : decode cL_law 149 = .ok (.iadd, 1) := by decide +kernel
theorem dL_law_150 : decode cL_law 150 = .ok (.iaload, 1) := by decide +kernel
theorem dL_law_151 : decode cL_law 151 = .ok (.aload_n 0, 1) := by decide +kernel
theorem dL_law_152 : decode cL_law 152 = .ok (.iload_n 3, 1) := by decide +kernel
theorem dL_law_153 : decode cL_law 153 = .ok (.iconst 3, 1) := by decide +kernel
theorem dL_law_154 : decode cL_law 154 = .ok (.iadd, 1) := by decide +kernel
theorem dL_law_155 : decode cL_law 155 = .ok (.iaload, 1) := by decide +kernel
theorem dL_law_156 : decode cL_law 156 = .ok (.aload_n 0, 1) := by decide +kernel
theorem dL_law_157 : decode cL_law 157 = .ok (.iload_n 3, 1) := by decide +kernel
theorem dL_law_158 : decode cL_law 158 = .ok (.iconst 4, 1) := by decide +kernel
theorem dL_law_159 : decode cL_law 159 = .ok (.iadd, 1) := by decide +kernel
theorem dL_law_160 : decode cL_law 160 = .ok (.iaload, 1) := by decide +kernel
theorem dL_law_161 : decode cL_law 161 = .ok (.aload_n 0, 1) := by decide +kernel
theorem dL_law_162 : decode cL_law 162 = .ok (.iload_n 3, 1) := by decide +kernel
theorem dL_law_163 : decode cL_law 163 = .ok (.iconst 5, 1) := by decide +kernel
theorem dL_law_164 : decode cL_law 164 = .ok (.iadd, 1) := by decide +kernel
theorem dL_law_165 : decode cL_law 165 = .ok (.iaload, 1) := by decide +kernel
theorem dL_law_166 : decode cL_law 166 = .ok (.invokevirtual 13, 3) := by decide +kernel
theorem dL_law_169 : decode cL_law 169 = .ok (.aload_n 2, 1) := by decide +kernel
theorem dL_law_170 : decode cL_law 170 = .ok (.aload_n 0, 1) := by decide +kernel
theorem dL_law_171 : decode cL_law 171 = .ok (.iload_n 3, 1) := by decide +kernel
theorem dL_law_172 : decode cL_law 172 = .ok (.iconst 1, 1) := by decide +kernel
theorem dL_law_173 : decode cL_law 173 = .ok (.iadd, 1) := by decide +kernel
theorem dL_law_174 : decode cL_law 174 = .ok (.iaload, 1) := by decide +kernel
theorem dL_law_175 : decode cL_law 175 = .ok (.aload_n 0, 1) := by decide +kernel
theorem dL_law_176 : decode cL_law 176 = .ok (.iload_n 3, 1) := by decide +kernel
theorem dL_law_177 : decode cL_law 177 = .ok (.iconst 2, 1) := by decide +kernel
theorem dL_law_178 : decode cL_law 178 = .ok (.iadd, 1) := by decide +kernel
theorem dL_law_179 : decode cL_law 179 = .ok (.iaload, 1) := by decide +kernel
theorem dL_law_180 : decode cL_law 180 = .ok (.aload_n 0, 1) := by decide +kernel
theorem dL_law_181 : decode cL_law 181 = .ok (.iload_n 3, 1) := by decide +kernel
theorem dL_law_182 : decode cL_law 182 = .ok (.iconst 3, 1) := by decide +kernel
theorem dL_law_183 : decode cL_law 183 = .ok (.iadd, 1) := by decide +kernel
theorem dL_law_184 : decode cL_law 184 = .ok (.iaload, 1) := by decide +kernel
theorem dL_law_185 : decode cL_law 185 = .ok (.aload_n 0, 1) := by decide +kernel
theorem dL_law_186 : decode cL_law 186 = .ok (.iload_n 3, 1) := by decide +kernel
theorem dL_law_187 : decode cL_law 187 = .ok (.iconst 4, 1) := by decide +kernel
theorem dL_law_188 : decode cL_law 188 = .ok (.iadd, 1) := by decide +kernel
theorem dL_law_189 : decode cL_law 189 = .ok (.iaload, 1) := by decide +kernel
theorem dL_law_190 : decode cL_law 190 = .ok (.aload_n 0, 1) := by decide +kernel
theorem dL_law_191 : decode cL_law 191 = .ok (.iload_n 3, 1) := by decide +kernel
theorem dL_law_192 : decode cL_law 192 = .ok (.iconst 5, 1) := by decide +kernel
theorem dL_law_193 : decode cL_law 193 = .ok (.iadd, 1) := by decide +kernel
theorem dL_law_194 : decode cL_law 194 = .ok (.iaload, 1) := by decide +kernel
theorem dL_law_195 : decode cL_law 195 = .ok (.invokevirtual 17, 3) := by decide +kernel
theorem dL_law_198 : decode cL_law 198 = .ok (.if_icmp .eq 581, 3) := by decide +kernel
theorem dL_law_201 : decode cL_law 201 = .ok (.iconst 0, 1) := by decide +kernel
theorem dL_law_202 : decode cL_law 202 = .ok (.ireturn, 1) := by decide +kernel
theorem dL_law_203 : decode cL_law 203 = .ok (.aload_n 1, 1) := by decide +kernel
theorem dL_law_204 : decode cL_law 204 = .ok (.aload_n 0, 1) := by decide +kernel
theorem dL_law_205 : decode cL_law 205 = .ok (.iload_n 3, 1) := by decide +kernel
theorem dL_law_206 : decode cL_law 206 = .ok (.iconst 1, 1) := by decide +kernel
theorem dL_law_207 : decode cL_law 207 = .ok (.iadd, 1) := by decide +kernel
theorem dL_law_208 : decode cL_law 208 = .ok (.iaload, 1) := by decide +kernel
theorem dL_law_209 : decode cL_law 209 = .ok (.invokevirtual 18, 3) := by decide +kernel
theorem dL_law_212 : decode cL_law 212 = .ok (.aload_n 2, 1) := by decide +kernel
theorem dL_law_213 : decode cL_law 213 = .ok (.aload_n 0, 1) := by decide +kernel
theorem dL_law_214 : decode cL_law 214 = .ok (.iload_n 3, 1) := by decide +kernel
theorem dL_law_215 : decode cL_law 215 = .ok (.iconst 1, 1) := by decide +kernel
theorem dL_law_216 : decode cL_law 216 = .ok (.iadd, 1) := by decide +kernel
theorem dL_law_217 : decode cL_law 217 = .ok (.iaload, 1) := by decide +kernel
theorem dL_law_218 : decode cL_law 218 = .ok (.invokevirtual 22, 3) := by decide +kernel
theorem dL_law_221 : decode cL_law 221 = .ok (.if_icmp .eq 558, 3) := by decide +kernel
theorem dL_law_224 : decode cL_law 224 = .ok (.iconst 0, 1) := by decide +kernel
theorem dL_law_225 : decode cL_law 225 = .ok (.ireturn, 1) := by decide +kernel
theorem dL_law_226 : decode cL_law 226 = .ok (.aload_n 1, 1) := by decide +kernel
theorem dL_law_227 : decode cL_law 227 = .ok (.invokevirtual 23, 3) := by decide +kernel
theorem dL_law_230 : decode cL_law 230 = .ok (.aload_n 2, 1) := by decide +kernel
theorem dL_law_231 : decode cL_law 231 = .ok (.invokevirtual 27, 3) := by decide +kernel
theorem dL_law_234 : decode cL_law 234 = .ok (.if_icmp .eq 545, 3) := by decide +kernel
theorem dL_law_237 : decode cL_law 237 = .ok (.iconst 0, 1) := by decide +kernel
theorem dL_law_238 : decode cL_law 238 = .ok (.ireturn, 1) := by decide +kernel
theorem dL_law_239 : decode cL_law 239 = .ok (.aload_n 1, 1) := by decide +kernel
theorem dL_law_240 : decode cL_law 240 = .ok (.aload_n 0, 1) := by decide +kernel
theorem dL_law_241 : decode cL_law 241 = .ok (.iload_n 3, 1) := by decide +kernel
theorem dL_law_242 : decode cL_law 242 = .ok (.iconst 1, 1) := by decide +kernel
theorem dL_law_243 : decode cL_law 243 = .ok (.iadd, 1) := by decide +kernel
theorem dL_law_244 : decode cL_law 244 = .ok (.iaload, 1) := by decide +kernel
theorem dL_law_245 : decode cL_law 245 = .ok (.invokevirtual 28, 3) := by decide +kernel
theorem dL_law_248 : decode cL_law 248 = .ok (.aload_n 2, 1) := by decide +kernel
theorem dL_law_249 : decode cL_law 249 = .ok (.aload_n 0, 1) := by decide +kernel
theorem dL_law_250 : decode cL_law 250 = .ok (.iload_n 3, 1) := by decide +kernel
theorem dL_law_251 : decode cL_law 251 = .ok (.iconst 1, 1) := by decide +kernel
theorem dL_law_252 : decode cL_law 252 = .ok (.iadd, 1) := by decide +kernel
theorem dL_law_253 : decode cL_law 253 = .ok (.iaload, 1) := by decide +kernel
theorem dL_law_254 : decode cL_law 254 = .ok (.invokevirtual 31, 3) := by decide +kernel
theorem dL_law_257 : decode cL_law 257 = .ok (.if_icmp .eq 522, 3) := by decide +kernel
theorem dL_law_260 : decode cL_law 260 = .ok (.iconst 0, 1) := by decide +kernel
theorem dL_law_261 : decode cL_law 261 = .ok (.ireturn, 1) := by decide +kernel
theorem dL_law_262 : decode cL_law 262 = .ok (.aload_n 1, 1) := by decide +kernel
theorem dL_law_263 : decode cL_law 263 = .ok (.invokevirtual 32, 3) := by decide +kernel
theorem dL_law_266 : decode cL_law 266 = .ok (.aload_n 2, 1) := by decide +kernel
theorem dL_law_267 : decode cL_law 267 = .ok (.invokevirtual 35, 3) := by decide +kernel
theorem dL_law_270 : decode cL_law 270 = .ok (.if_icmp .eq 509, 3) := by decide +kernel
theorem dL_law_273 : decode cL_law 273 = .ok (.iconst 0, 1) := by decide +kernel
theorem dL_law_274 : decode cL_law 274 = .ok (.ireturn, 1) := by decide +kernel
theorem dL_law_275 : decode cL_law 275 = .ok (.aload_n 1, 1) := by decide +kernel
theorem dL_law_276 : decode cL_law 276 = .ok (.aload_n 0, 1) := by decide +kernel
theorem dL_law_277 : decode cL_law 277 = .ok (.iload_n 3, 1) := by decide +kernel
theorem dL_law_278 : decode cL_law 278 = .ok (.iconst 1, 1) := by decide +kernel
theorem dL_law_279 : decode cL_law 279 = .ok (.iadd, 1) := by decide +kernel
theorem dL_law_280 : decode cL_law 280 = .ok (.iaload, 1) := by decide +kernel
theorem dL_law_281 : decode cL_law 281 = .ok (.aload_n 0, 1) := by decide +kernel
theorem dL_law_282 : decode cL_law 282 = .ok (.iload_n 3, 1) := by decide +kernel
theorem dL_law_283 : decode cL_law 283 = .ok (.iconst 2, 1) := by decide +kernel
theorem dL_law_284 : decode cL_law 284 = .ok (.iadd, 1) := by decide +kernel
theorem dL_law_285 : decode cL_law 285 = .ok (.iaload, 1) := by decide +kernel
theorem dL_law_286 : decode cL_law 286 = .ok (.invokevirtual 36, 3) := by decide +kernel
theorem dL_law_289 : decode cL_law 289 = .ok (.aload_n 2, 1) := by decide +kernel
theorem dL_law_290 : decode cL_law 290 = .ok (.aload_n 0, 1) := by decide +kernel
theorem dL_law_291 : decode cL_law 291 = .ok (.iload_n 3, 1) := by decide +kernel
theorem dL_law_292 : decode cL_law 292 = .ok (.iconst 1, 1) := by decide +kernel
theorem dL_law_293 : decode cL_law 293 = .ok (.iadd, 1) := by decide +kernel
theorem dL_law_294 : decode cL_law 294 = .ok (.iaload, 1) := by decide +kernel
theorem dL_law_295 : decode cL_law 295 = .ok (.aload_n 0, 1) := by decide +kernel
theorem dL_law_296 : decode cL_law 296 = .ok (.iload_n 3, 1) := by decide +kernel
theorem dL_law_297 : decode cL_law 297 = .ok (.iconst 2, 1) := by decide +kernel
theorem dL_law_298 : decode cL_law 298 = .ok (.iadd, 1) := by decide +kernel
theorem dL_law_299 : decode cL_law 299 = .ok (.iaload, 1) := by decide +kernel
theorem dL_law_300 : decode cL_law 300 = .ok (.invokevirtual 40, 3) := by decide +kernel
theorem dL_law_303 : decode cL_law 303 = .ok (.if_icmp .eq 476, 3) := by decide +kernel
theorem dL_law_306 : decode cL_law 306 = .ok (.iconst 0, 1) := by decide +kernel
theorem dL_law_307 : decode cL_law 307 = .ok (.ireturn, 1) := by decide +kernel
theorem dL_law_308 : decode cL_law 308 = .ok (.aload_n 1, 1) := by decide +kernel
theorem dL_law_309 : decode cL_law 309 = .ok (.invokevirtual 41, 3) := by decide +kernel
theorem dL_law_312 : decode cL_law 312 = .ok (.aload_n 2, 1) := by decide +kernel
theorem dL_law_313 : decode cL_law 313 = .ok (.invokevirtual 44, 3) := by decide +kernel
theorem dL_law_316 : decode cL_law 316 = .ok (.if_icmp .eq 463, 3) := by decide +kernel
theorem dL_law_319 : decode cL_law 319 = .ok (.iconst 0, 1) := by decide +kernel
theorem dL_law_320 : decode cL_law 320 = .ok (.ireturn, 1) := by decide +kernel
theorem dL_law_321 : decode cL_law 321 = .ok (.aload_n 1, 1) := by decide +kernel
theorem dL_law_322 : decode cL_law 322 = .ok (.aload_n 0, 1) := by decide +kernel
theorem dL_law_323 : decode cL_law 323 = .ok (.iload_n 3, 1) := by decide +kernel
theorem dL_law_324 : decode cL_law 324 = .ok (.iconst 1, 1) := by decide +kernel
theorem dL_law_325 : decode cL_law 325 = .ok (.iadd, 1) := by decide +kernel
theorem dL_law_326 : decode cL_law 326 = .ok (.iaload, 1) := by decide +kernel
theorem dL_law_327 : decode cL_law 327 = .ok (.invokevirtual 45, 3) := by decide +kernel
theorem dL_law_330 : decode cL_law 330 = .ok (.aload_n 2, 1) := by decide +kernel
theorem dL_law_331 : decode cL_law 331 = .ok (.aload_n 0, 1) := by decide +kernel
theorem dL_law_332 : decode cL_law 332 = .ok (.iload_n 3, 1) := by decide +kernel
theorem dL_law_333 : decode cL_law 333 = .ok (.iconst 1, 1) := by decide +kernel
theorem dL_law_334 : decode cL_law 334 = .ok (.iadd, 1) := by decide +kernel
theorem dL_law_335 : decode cL_law 335 = .ok (.iaload, 1) := by decide +kernel
theorem dL_law_336 : decode cL_law 336 = .ok (.invokevirtual 48, 3) := by decide +kernel
theorem dL_law_339 : decode cL_law 339 = .ok (.if_icmp .eq 440, 3) := by decide +kernel
theorem dL_law_342 : decode cL_law 342 = .ok (.iconst 0, 1) := by decide +kernel
theorem dL_law_343 : decode cL_law 343 = .ok (.ireturn, 1) := by decide +kernel
theorem dL_law_344 : decode cL_law 344 = .ok (.aload_n 1, 1) := by decide +kernel
theorem dL_law_345 : decode cL_law 345 = .ok (.aload_n 0, 1) := by decide +kernel
theorem dL_law_346 : decode cL_law 346 = .ok (.iload_n 3, 1) := by decide +kernel
theorem dL_law_347 : decode cL_law 347 = .ok (.iconst 1, 1) := by decide +kernel
theorem dL_law_348 : decode cL_law 348 = .ok (.iadd, 1) := by decide +kernel
theorem dL_law_349 : decode cL_law 349 = .ok (.iaload, 1) := by decide +kernel
theorem dL_law_350 : decode cL_law 350 = .ok (.aload_n 0, 1) := by decide +kernel
theorem dL_law_351 : decode cL_law 351 = .ok (.iload_n 3, 1) := by decide +kernel
theorem dL_law_352 : decode cL_law 352 = .ok (.iconst 2, 1) := by decide +kernel
theorem dL_law_353 : decode cL_law 353 = .ok (.iadd, 1) := by decide +kernel
theorem dL_law_354 : decode cL_law 354 = .ok (.iaload, 1) := by decide +kernel
theorem dL_law_355 : decode cL_law 355 = .ok (.invokevirtual 49, 3) := by decide +kernel
theorem dL_law_358 : decode cL_law 358 = .ok (.aload_n 2, 1) := by decide +kernel
theorem dL_law_359 : decode cL_law 359 = .ok (.aload_n 0, 1) := by decide +kernel
theorem dL_law_360 : decode cL_law 360 = .ok (.iload_n 3, 1) := by decide +kernel
theorem dL_law_361 : decode cL_law 361 = .ok (.iconst 1, 1) := by decide +kernel
theorem dL_law_362 : decode cL_law 362 = .ok (.iadd, 1) := by decide +kernel
theorem dL_law_363 : decode cL_law 363 = .ok (.iaload, 1) := by decide +kernel
theorem dL_law_364 : decode cL_law 364 = .ok (.aload_n 0, 1) := by decide +kernel
theorem dL_law_365 : decode cL_law 365 = .ok (.iload_n 3, 1) := by decide +kernel
theorem dL_law_366 : decode cL_law 366 = .ok (.iconst 2, 1) := by decide +kernel
theorem dL_law_367 : decode cL_law 367 = .ok (.iadd, 1) := by decide +kernel
theorem dL_law_368 : decode cL_law 368 = .ok (.iaload, 1) := by decide +kernel
theorem dL_law_369 : decode cL_law 369 = .ok (.invokevirtual 52, 3) := by decide +kernel
theorem dL_law_372 : decode cL_law 372 = .ok (.if_icmp .eq 407, 3) := by decide +kernel
theorem dL_law_375 : decode cL_law 375 = .ok (.iconst 0, 1) := by decide +kernel
theorem dL_law_376 : decode cL_law 376 = .ok (.ireturn, 1) := by decide +kernel
theorem dL_law_377 : decode cL_law 377 = .ok (.aload_n 1, 1) := by decide +kernel
theorem dL_law_378 : decode cL_law 378 = .ok (.aload_n 0, 1) := by decide +kernel
theorem dL_law_379 : decode cL_law 379 = .ok (.iload_n 3, 1) := by decide +kernel
theorem dL_law_380 : decode cL_law 380 = .ok (.iconst 1, 1) := by decide +kernel
theorem dL_law_381 : decode cL_law 381 = .ok (.iadd, 1) := by decide +kernel
theorem dL_law_382 : decode cL_law 382 = .ok (.iaload, 1) := by decide +kernel
theorem dL_law_383 : decode cL_law 383 = .ok (.aload_n 0, 1) := by decide +kernel
theorem dL_law_384 : decode cL_law 384 = .ok (.iload_n 3, 1) := by decide +kernel
theorem dL_law_385 : decode cL_law 385 = .ok (.iconst 2, 1) := by decide +kernel
theorem dL_law_386 : decode cL_law 386 = .ok (.iadd, 1) := by decide +kernel
theorem dL_law_387 : decode cL_law 387 = .ok (.iaload, 1) := by decide +kernel
theorem dL_law_388 : decode cL_law 388 = .ok (.aload_n 0, 1) := by decide +kernel
theorem dL_law_389 : decode cL_law 389 = .ok (.iload_n 3, 1) := by decide +kernel
theorem dL_law_390 : decode cL_law 390 = .ok (.iconst 3, 1) := by decide +kernel
theorem dL_law_391 : decode cL_law 391 = .ok (.iadd, 1) := by decide +kernel
theorem dL_law_392 : decode cL_law 392 = .ok (.iaload, 1) := by decide +kernel
theorem dL_law_393 : decode cL_law 393 = .ok (.invokevirtual 53, 3) := by decide +kernel
theorem dL_law_396 : decode cL_law 396 = .ok (.aload_n 2, 1) := by decide +kernel
theorem dL_law_397 : decode cL_law 397 = .ok (.aload_n 0, 1) := by decide +kernel
theorem dL_law_398 : decode cL_law 398 = .ok (.iload_n 3, 1) := by decide +kernel
theorem dL_law_399 : decode cL_law 399 = .ok (.iconst 1, 1) := by decide +kernel
theorem dL_law_400 : decode cL_law 400 = .ok (.iadd, 1) := by decide +kernel
theorem dL_law_401 : decode cL_law 401 = .ok (.iaload, 1) := by decide +kernel
theorem dL_law_402 : decode cL_law 402 = .ok (.aload_n 0, 1) := by decide +kernel
theorem dL_law_403 : decode cL_law 403 = .ok (.iload_n 3, 1) := by decide +kernel
theorem dL_law_404 : decode cL_law 404 = .ok (.iconst 2, 1) := by decide +kernel
theorem dL_law_405 : decode cL_law 405 = .ok (.iadd, 1) := by decide +kernel
theorem dL_law_406 : decode cL_law 406 = .ok (.iaload, 1) := by decide +kernel
theorem dL_law_407 : decode cL_law 407 = .ok (.aload_n 0, 1) := by decide +kernel
theorem dL_law_408 : decode cL_law 408 = .ok (.iload_n 3, 1) := by decide +kernel
theorem dL_law_409 : decode cL_law 409 = .ok (.iconst 3, 1) := by decide +kernel
theorem dL_law_410 : decode cL_law 410 = .ok (.iadd, 1) := by decide +kernel
theorem dL_law_411 : decode cL_law 411 = .ok (.iaload, 1) := by decide +kernel
theorem dL_law_412 : decode cL_law 412 = .ok (.invokevirtual 57, 3) := by decide +kernel
theorem dL_law_415 : decode cL_law 415 = .ok (.if_icmp .eq 364, 3) := by decide +kernel
theorem dL_law_418 : decode cL_law 418 = .ok (.iconst 0, 1) := by decide +kernel
theorem dL_law_419 : decode cL_law 419 = .ok (.ireturn, 1) := by decide +kernel
theorem dL_law_420 : decode cL_law 420 = .ok (.aload_n 1, 1) := by decide +kernel
theorem dL_law_421 : decode cL_law 421 = .ok (.aload_n 0, 1) := by decide +kernel
theorem dL_law_422 : decode cL_law 422 = .ok (.iload_n 3, 1) := by decide +kernel
theorem dL_law_423 : decode cL_law 423 = .ok (.iconst 1, 1) := by decide +kernel
theorem dL_law_424 : decode cL_law 424 = .ok (.iadd, 1) := by decide +kernel
theorem dL_law_425 : decode cL_law 425 = .ok (.iaload, 1) := by decide +kernel
theorem dL_law_426 : decode cL_law 426 = .ok (.aload_n 0, 1) := by decide +kernel
theorem dL_law_427 : decode cL_law 427 = .ok (.iload_n 3, 1) := by decide +kernel
theorem dL_law_428 : decode cL_law 428 = .ok (.iconst 2, 1) := by decide +kernel
theorem dL_law_429 : decode cL_law 429 = .ok (.iadd, 1) := by decide +kernel
theorem dL_law_430 : decode cL_law 430 = .ok (.iaload, 1) := by decide +kernel
theorem dL_law_431 : decode cL_law 431 = .ok (.invokevirtual 58, 3) := by decide +kernel
theorem dL_law_434 : decode cL_law 434 = .ok (.aload_n 2, 1) := by decide +kernel
theorem dL_law_435 : decode cL_law 435 = .ok (.aload_n 0, 1) := by decide +kernel
theorem dL_law_436 : decode cL_law 436 = .ok (.iload_n 3, 1) := by decide +kernel
theorem dL_law_437 : decode cL_law 437 = .ok (.iconst 1, 1) := by decide +kernel
theorem dL_law_438 : decode cL_law 438 = .ok (.iadd, 1) := by decide +kernel
theorem dL_law_439 : decode cL_law 439 = .ok (.iaload, 1) := by decide +kernel
theorem dL_law_440 : decode cL_law 440 = .ok (.aload_n 0, 1) := by decide +kernel
theorem dL_law_441 : decode cL_law 441 = .ok (.iload_n 3, 1) := by decide +kernel
theorem dL_law_442 : decode cL_law 442 = .ok (.iconst 2, 1) := by decide +kernel
theorem dL_law_443 : decode cL_law 443 = .ok (.iadd, 1) := by decide +kernel
theorem dL_law_444 : decode cL_law 444 = .ok (.iaload, 1) := by decide +kernel
theorem dL_law_445 : decode cL_law 445 = .ok (.invokevirtual 61, 3) := by decide +kernel
theorem dL_law_448 : decode cL_law 448 = .ok (.if_icmp .eq 331, 3) := by decide +kernel
theorem dL_law_451 : decode cL_law 451 = .ok (.iconst 0, 1) := by decide +kernel
theorem dL_law_452 : decode cL_law 452 = .ok (.ireturn, 1) := by decide +kernel
theorem dL_law_453 : decode cL_law 453 = .ok (.aload_n 1, 1) := by decide +kernel
theorem dL_law_454 : decode cL_law 454 = .ok (.aload_n 0, 1) := by decide +kernel
theorem dL_law_455 : decode cL_law 455 = .ok (.iload_n 3, 1) := by decide +kernel
theorem dL_law_456 : decode cL_law 456 = .ok (.iconst 1, 1) := by decide +kernel
theorem dL_law_457 : decode cL_law 457 = .ok (.iadd, 1) := by decide +kernel
theorem dL_law_458 : decode cL_law 458 = .ok (.iaload, 1) := by decide +kernel
theorem dL_law_459 : decode cL_law 459 = .ok (.aload_n 0, 1) := by decide +kernel
theorem dL_law_460 : decode cL_law 460 = .ok (.iload_n 3, 1) := by decide +kernel
theorem dL_law_461 : decode cL_law 461 = .ok (.iconst 2, 1) := by decide +kernel
theorem dL_law_462 : decode cL_law 462 = .ok (.iadd, 1) := by decide +kernel
theorem dL_law_463 : decode cL_law 463 = .ok (.iaload, 1) := by decide +kernel
theorem dL_law_464 : decode cL_law 464 = .ok (.invokevirtual 62, 3) := by decide +kernel
theorem dL_law_467 : decode cL_law 467 = .ok (.aload_n 2, 1) := by decide +kernel
theorem dL_law_468 : decode cL_law 468 = .ok (.aload_n 0, 1) := by decide +kernel
theorem dL_law_469 : decode cL_law 469 = .ok (.iload_n 3, 1) := by decide +kernel
theorem dL_law_470 : decode cL_law 470 = .ok (.iconst 1, 1) := by decide +kernel
theorem dL_law_471 : decode cL_law 471 = .ok (.iadd, 1) := by decide +kernel
theorem dL_law_472 : decode cL_law 472 = .ok (.iaload, 1) := by decide +kernel
theorem dL_law_473 : decode cL_law 473 = .ok (.aload_n 0, 1) := by decide +kernel
theorem dL_law_474 : decode cL_law 474 = .ok (.iload_n 3, 1) := by decide +kernel
theorem dL_law_475 : decode cL_law 475 = .ok (.iconst 2, 1) := by decide +kernel
theorem dL_law_476 : decode cL_law 476 = .ok (.iadd, 1) := by decide +kernel
theorem dL_law_477 : decode cL_law 477 = .ok (.iaload, 1) := by decide +kernel
theorem dL_law_478 : decode cL_law 478 = .ok (.invokevirtual 65, 3) := by decide +kernel
theorem dL_law_481 : decode cL_law 481 = .ok (.if_icmp .eq 298, 3) := by decide +kernel
theorem dL_law_484 : decode cL_law 484 = .ok (.iconst 0, 1) := by decide +kernel
theorem dL_law_485 : decode cL_law 485 = .ok (.ireturn, 1) := by decide +kernel
theorem dL_law_486 : decode cL_law 486 = .ok (.aload_n 1, 1) := by decide +kernel
theorem dL_law_487 : decode cL_law 487 = .ok (.invokevirtual 66, 3) := by decide +kernel
theorem dL_law_490 : decode cL_law 490 = .ok (.aload_n 2, 1) := by decide +kernel
theorem dL_law_491 : decode cL_law 491 = .ok (.invokevirtual 69, 3) := by decide +kernel
theorem dL_law_494 : decode cL_law 494 = .ok (.if_icmp .eq 285, 3) := by decide +kernel
theorem dL_law_497 : decode cL_law 497 = .ok (.iconst 0, 1) := by decide +kernel
theorem dL_law_498 : decode cL_law 498 = .ok (.ireturn, 1) := by decide +kernel
theorem dL_law_499 : decode cL_law 499 = .ok (.aload_n 1, 1) := by decide +kernel
theorem dL_law_500 : decode cL_law 500 = .ok (.invokevirtual 70, 3) := by decide +kernel
theorem dL_law_503 : decode cL_law 503 = .ok (.aload_n 2, 1) := by decide +kernel
theorem dL_law_504 : decode cL_law 504 = .ok (.invokevirtual 73, 3) := by decide +kernel
theorem dL_law_507 : decode cL_law 507 = .ok (.if_icmp .eq 272, 3) := by decide +kernel
theorem dL_law_510 : decode cL_law 510 = .ok (.iconst 0, 1) := by decide +kernel
theorem dL_law_511 : decode cL_law 511 = .ok (.ireturn, 1) := by decide +kernel
theorem dL_law_512 : decode cL_law 512 = .ok (.aload_n 1, 1) := by decide +kernel
theorem dL_law_513 : decode cL_law 513 = .ok (.aload_n 0, 1) := by decide +kernel
theorem dL_law_514 : decode cL_law 514 = .ok (.iload_n 3, 1) := by decide +kernel
theorem dL_law_515 : decode cL_law 515 = .ok (.iconst 1, 1) := by decide +kernel
theorem dL_law_516 : decode cL_law 516 = .ok (.iadd, 1) := by decide +kernel
theorem dL_law_517 : decode cL_law 517 = .ok (.iaload, 1) := by decide +kernel
theorem dL_law_518 : decode cL_law 518 = .ok (.invokevirtual 74, 3) := by decide +kernel
theorem dL_law_521 : decode cL_law 521 = .ok (.aload_n 2, 1) := by decide +kernel
theorem dL_law_522 : decode cL_law 522 = .ok (.aload_n 0, 1) := by decide +kernel
theorem dL_law_523 : decode cL_law 523 = .ok (.iload_n 3, 1) := by decide +kernel
theorem dL_law_524 : decode cL_law 524 = .ok (.iconst 1, 1) := by decide +kernel
theorem dL_law_525 : decode cL_law 525 = .ok (.iadd, 1) := by decide +kernel
theorem dL_law_526 : decode cL_law 526 = .ok (.iaload, 1) := by decide +kernel
theorem dL_law_527 : decode cL_law 527 = .ok (.invokevirtual 77, 3) := by decide +kernel
theorem dL_law_530 : decode cL_law 530 = .ok (.if_icmp .eq 249, 3) := by decide +kernel
theorem dL_law_533 : decode cL_law 533 = .ok (.iconst 0, 1) := by decide +kernel
theorem dL_law_534 : decode cL_law 534 = .ok (.ireturn, 1) := by decide +kernel
theorem dL_law_535 : decode cL_law 535 = .ok (.aload_n 1, 1) := by decide +kernel
theorem dL_law_536 : decode cL_law 536 = .ok (.aload_n 0, 1) := by decide +kernel
theorem dL_law_537 : decode cL_law 537 = .ok (.iload_n 3, 1) := by decide +kernel
theorem dL_law_538 : decode cL_law 538 = .ok (.iconst 1, 1) := by decide +kernel
theorem dL_law_539 : decode cL_law 539 = .ok (.iadd, 1) := by decide +kernel
theorem dL_law_540 : decode cL_law 540 = .ok (.iaload, 1) := by decide +kernel
theorem dL_law_541 : decode cL_law 541 = .ok (.aload_n 0, 1) := by decide +kernel
theorem dL_law_542 : decode cL_law 542 = .ok (.iload_n 3, 1) := by decide +kernel
theorem dL_law_543 : decode cL_law 543 = .ok (.iconst 2, 1) := by decide +kernel
theorem dL_law_544 : decode cL_law 544 = .ok (.iadd, 1) := by decide +kernel
theorem dL_law_545 : decode cL_law 545 = .ok (.iaload, 1) := by decide +kernel
theorem dL_law_546 : decode cL_law 546 = .ok (.aload_n 0, 1) := by decide +kernel
theorem dL_law_547 : decode cL_law 547 = .ok (.iload_n 3, 1) := by decide +kernel
theorem dL_law_548 : decode cL_law 548 = .ok (.iconst 3, 1) := by decide +kernel
theorem dL_law_549 : decode cL_law 549 = .ok (.iadd, 1) := by decide +kernel
theorem dL_law_550 : decode cL_law 550 = .ok (.iaload, 1) := by decide +kernel
theorem dL_law_551 : decode cL_law 551 = .ok (.aload_n 0, 1) := by decide +kernel
theorem dL_law_552 : decode cL_law 552 = .ok (.iload_n 3, 1) := by decide +kernel
theorem dL_law_553 : decode cL_law 553 = .ok (.iconst 4, 1) := by decide +kernel
theorem dL_law_554 : decode cL_law 554 = .ok (.iadd, 1) := by decide +kernel
theorem dL_law_555 : decode cL_law 555 = .ok (.iaload, 1) := by decide +kernel
theorem dL_law_556 : decode cL_law 556 = .ok (.aload_n 0, 1) := by decide +kernel
theorem dL_law_557 : decode cL_law 557 = .ok (.iload_n 3, 1) := by decide +kernel
theorem dL_law_558 : decode cL_law 558 = .ok (.iconst 5, 1) := by decide +kernel
theorem dL_law_559 : decode cL_law 559 = .ok (.iadd, 1) := by decide +kernel
theorem dL_law_560 : decode cL_law 560 = .ok (.iaload, 1) := by decide +kernel
theorem dL_law_561 : decode cL_law 561 = .ok (.invokevirtual 78, 3) := by decide +kernel
theorem dL_law_564 : decode cL_law 564 = .ok (.aload_n 2, 1) := by decide +kernel
theorem dL_law_565 : decode cL_law 565 = .ok (.aload_n 0, 1) := by decide +kernel
theorem dL_law_566 : decode cL_law 566 = .ok (.iload_n 3, 1) := by decide +kernel
theorem dL_law_567 : decode cL_law 567 = .ok (.iconst 1, 1) := by decide +kernel
theorem dL_law_568 : decode cL_law 568 = .ok (.iadd, 1) := by decide +kernel
theorem dL_law_569 : decode cL_law 569 = .ok (.iaload, 1) := by decide +kernel
theorem dL_law_570 : decode cL_law 570 = .ok (.aload_n 0, 1) := by decide +kernel
theorem dL_law_571 : decode cL_law 571 = .ok (.iload_n 3, 1) := by decide +kernel
theorem dL_law_572 : decode cL_law 572 = .ok (.iconst 2, 1) := by decide +kernel
theorem dL_law_573 : decode cL_law 573 = .ok (.iadd, 1) := by decide +kernel
theorem dL_law_574 : decode cL_law 574 = .ok (.iaload, 1) := by decide +kernel
theorem dL_law_575 : decode cL_law 575 = .ok (.aload_n 0, 1) := by decide +kernel
theorem dL_law_576 : decode cL_law 576 = .ok (.iload_n 3, 1) := by decide +kernel
theorem dL_law_577 : decode cL_law 577 = .ok (.iconst 3, 1) := by decide +kernel
theorem dL_law_578 : decode cL_law 578 = .ok (.iadd, 1) := by decide +kernel
theorem dL_law_579 : decode cL_law 579 = .ok (.iaload, 1) := by decide +kernel
theorem dL_law_580 : decode cL_law 580 = .ok (.aload_n 0, 1) := by decide +kernel
theorem dL_law_581 : decode cL_law 581 = .ok (.iload_n 3, 1) := by decide +kernel
theorem dL_law_582 : decode cL_law 582 = .ok (.iconst 4, 1) := by decide +kernel
theorem dL_law_583 : decode cL_law 583 = .ok (.iadd, 1) := by decide +kernel
theorem dL_law_584 : decode cL_law 584 = .ok (.iaload, 1) := by decide +kernel
theorem dL_law_585 : decode cL_law 585 = .ok (.aload_n 0, 1) := by decide +kernel
theorem dL_law_586 : decode cL_law 586 = .ok (.iload_n 3, 1) := by decide +kernel
theorem dL_law_587 : decode cL_law 587 = .ok (.iconst 5, 1) := by decide +kernel
theorem dL_law_588 : decode cL_law 588 = .ok (.iadd, 1) := by decide +kernel
theorem dL_law_589 : decode cL_law 589 = .ok (.iaload, 1) := by decide +kernel
theorem dL_law_590 : decode cL_law 590 = .ok (.invokevirtual 81, 3) := by decide +kernel
theorem dL_law_593 : decode cL_law 593 = .ok (.if_icmp .eq 186, 3) := by decide +kernel
theorem dL_law_596 : decode cL_law 596 = .ok (.iconst 0, 1) := by decide +kernel
theorem dL_law_597 : decode cL_law 597 = .ok (.ireturn, 1) := by decide +kernel
theorem dL_law_598 : decode cL_law 598 = .ok (.aload_n 1, 1) := by decide +kernel
theorem dL_law_599 : decode cL_law 599 = .ok (.aload_n 0, 1) := by decide +kernel
theorem dL_law_600 : decode cL_law 600 = .ok (.iload_n 3, 1) := by decide +kernel
theorem dL_law_601 : decode cL_law 601 = .ok (.iconst 1, 1) := by decide +kernel
theorem dL_law_602 : decode cL_law 602 = .ok (.iadd, 1) := by decide +kernel
theorem dL_law_603 : decode cL_law 603 = .ok (.iaload, 1) := by decide +kernel
theorem dL_law_604 : decode cL_law 604 = .ok (.aload_n 0, 1) := by decide +kernel
theorem dL_law_605 : decode cL_law 605 = .ok (.iload_n 3, 1) := by decide +kernel
theorem dL_law_606 : decode cL_law 606 = .ok (.iconst 2, 1) := by decide +kernel
theorem dL_law_607 : decode cL_law 607 = .ok (.iadd, 1) := by decide +kernel
theorem dL_law_608 : decode cL_law 608 = .ok (.iaload, 1) := by decide +kernel
theorem dL_law_609 : decode cL_law 609 = .ok (.invokevirtual 82, 3) := by decide +kernel
theorem dL_law_612 : decode cL_law 612 = .ok (.aload_n 2, 1) := by decide +kernel
theorem dL_law_613 : decode cL_law 613 = .ok (.aload_n 0, 1) := by decide +kernel
theorem dL_law_614 : decode cL_law 614 = .ok (.iload_n 3, 1) := by decide +kernel
theorem dL_law_615 : decode cL_law 615 = .ok (.iconst 1, 1) := by decide +kernel
theorem dL_law_616 : decode cL_law 616 = .ok (.iadd, 1) := by decide +kernel
theorem dL_law_617 : decode cL_law 617 = .ok (.iaload, 1) := by decide +kernel
theorem dL_law_618 : decode cL_law 618 = .ok (.aload_n 0, 1) := by decide +kernel
theorem dL_law_619 : decode cL_law 619 = .ok (.iload_n 3, 1) := by decide +kernel
theorem dL_law_620 : decode cL_law 620 = .ok (.iconst 2, 1) := by decide +kernel
theorem dL_law_621 : decode cL_law 621 = .ok (.iadd, 1) := by decide +kernel
theorem dL_law_622 : decode cL_law 622 = .ok (.iaload, 1) := by decide +kernel
theorem dL_law_623 : decode cL_law 623 = .ok (.invokevirtual 85, 3) := by decide +kernel
theorem dL_law_626 : decode cL_law 626 = .ok (.if_icmp .eq 153, 3) := by decide +kernel
theorem dL_law_629 : decode cL_law 629 = .ok (.iconst 0, 1) := by decide +kernel
theorem dL_law_630 : decode cL_law 630 = .ok (.ireturn, 1) := by decide +kernel
theorem dL_law_631 : decode cL_law 631 = .ok (.aload_n 1, 1) := by decide +kernel
theorem dL_law_632 : decode cL_law 632 = .ok (.aload_n 0, 1) := by decide +kernel
theorem dL_law_633 : decode cL_law 633 = .ok (.iload_n 3, 1) := by decide +kernel
theorem dL_law_634 : decode cL_law 634 = .ok (.iconst 1, 1) := by decide +kernel
theorem dL_law_635 : decode cL_law 635 = .ok (.iadd, 1) := by decide +kernel
theorem dL_law_636 : decode cL_law 636 = .ok (.iaload, 1) := by decide +kernel
theorem dL_law_637 : decode cL_law 637 = .ok (.invokevirtual 86, 3) := by decide +kernel
theorem dL_law_640 : decode cL_law 640 = .ok (.aload_n 2, 1) := by decide +kernel
theorem dL_law_641 : decode cL_law 641 = .ok (.aload_n 0, 1) := by decide +kernel
theorem dL_law_642 : decode cL_law 642 = .ok (.iload_n 3, 1) := by decide +kernel
theorem dL_law_643 : decode cL_law 643 = .ok (.iconst 1, 1) := by decide +kernel
theorem dL_law_644 : decode cL_law 644 = .ok (.iadd, 1) := by decide +kernel
theorem dL_law_645 : decode cL_law 645 = .ok (.iaload, 1) := by decide +kernel
theorem dL_law_646 : decode cL_law 646 = .ok (.invokevirtual 89, 3) := by decide +kernel
theorem dL_law_649 : decode cL_law 649 = .ok (.if_icmp .eq 130, 3) := by decide +kernel
theorem dL_law_652 : decode cL_law 652 = .ok (.iconst 0, 1) := by decide +kernel
theorem dL_law_653 : decode cL_law 653 = .ok (.ireturn, 1) := by decide +kernel
theorem dL_law_654 : decode cL_law 654 = .ok (.aload_n 1, 1) := by decide +kernel
theorem dL_law_655 : decode cL_law 655 = .ok (.aload_n 0, 1) := by decide +kernel
theorem dL_law_656 : decode cL_law 656 = .ok (.iload_n 3, 1) := by decide +kernel
theorem dL_law_657 : decode cL_law 657 = .ok (.iconst 1, 1) := by decide +kernel
theorem dL_law_658 : decode cL_law 658 = .ok (.iadd, 1) := by decide +kernel
theorem dL_law_659 : decode cL_law 659 = .ok (.iaload, 1) := by decide +kernel
theorem dL_law_660 : decode cL_law 660 = .ok (.invokevirtual 90, 3) := by decide +kernel
theorem dL_law_663 : decode cL_law 663 = .ok (.aload_n 2, 1) := by decide +kernel
theorem dL_law_664 : decode cL_law 664 = .ok (.aload_n 0, 1) := by decide +kernel
theorem dL_law_665 : decode cL_law 665 = .ok (.iload_n 3, 1) := by decide +kernel
theorem dL_law_666 : decode cL_law 666 = .ok (.iconst 1, 1) := by decide +kernel
theorem dL_law_667 : decode cL_law 667 = .ok (.iadd, 1) := by decide +kernel
theorem dL_law_668 : decode cL_law 668 = .ok (.iaload, 1) := by decide +kernel
theorem dL_law_669 : decode cL_law 669 = .ok (.invokevirtual 93, 3) := by decide +kernel
theorem dL_law_672 : decode cL_law 672 = .ok (.if_icmp .eq 107, 3) := by decide +kernel
theorem dL_law_675 : decode cL_law 675 = .ok (.iconst 0, 1) := by decide +kernel
theorem dL_law_676 : decode cL_law 676 = .ok (.ireturn, 1) := by decide +kernel
theorem dL_law_677 : decode cL_law 677 = .ok (.aload_n 1, 1) := by decide +kernel
theorem dL_law_678 : decode cL_law 678 = .ok (.aload_n 0, 1) := by decide +kernel
theorem dL_law_679 : decode cL_law 679 = .ok (.iload_n 3, 1) := by decide +kernel
theorem dL_law_680 : decode cL_law 680 = .ok (.iconst 1, 1) := by decide +kernel
theorem dL_law_681 : decode cL_law 681 = .ok (.iadd, 1) := by decide +kernel
theorem dL_law_682 : decode cL_law 682 = .ok (.iaload, 1) := by decide +kernel
theorem dL_law_683 : decode cL_law 683 = .ok (.invokevirtual 94, 3) := by decide +kernel
theorem dL_law_686 : decode cL_law 686 = .ok (.aload_n 2, 1) := by decide +kernel
theorem dL_law_687 : decode cL_law 687 = .ok (.aload_n 0, 1) := by decide +kernel
theorem dL_law_688 : decode cL_law 688 = .ok (.iload_n 3, 1) := by decide +kernel
theorem dL_law_689 : decode cL_law 689 = .ok (.iconst 1, 1) := by decide +kernel
theorem dL_law_690 : decode cL_law 690 = .ok (.iadd, 1) := by decide +kernel
theorem dL_law_691 : decode cL_law 691 = .ok (.iaload, 1) := by decide +kernel
theorem dL_law_692 : decode cL_law 692 = .ok (.invokevirtual 97, 3) := by decide +kernel
theorem dL_law_695 : decode cL_law 695 = .ok (.if_icmp .eq 84, 3) := by decide +kernel
theorem dL_law_698 : decode cL_law 698 = .ok (.iconst 0, 1) := by decide +kernel
theorem dL_law_699 : decode cL_law 699 = .ok (.ireturn, 1) := by decide +kernel
theorem dL_law_700 : decode cL_law 700 = .ok (.aload_n 1, 1) := by decide +kernel
theorem dL_law_701 : decode cL_law 701 = .ok (.aload_n 0, 1) := by decide +kernel
theorem dL_law_702 : decode cL_law 702 = .ok (.iload_n 3, 1) := by decide +kernel
theorem dL_law_703 : decode cL_law 703 = .ok (.iconst 1, 1) := by decide +kernel
theorem dL_law_704 : decode cL_law 704 = .ok (.iadd, 1) := by decide +kernel
theorem dL_law_705 : decode cL_law 705 = .ok (.iaload, 1) := by decide +kernel
theorem dL_law_706 : decode cL_law 706 = .ok (.invokevirtual 98, 3) := by decide +kernel
theorem dL_law_709 : decode cL_law 709 = .ok (.aload_n 2, 1) := by decide +kernel
theorem dL_law_710 : decode cL_law 710 = .ok (.aload_n 0, 1) := by decide +kernel
theorem dL_law_711 : decode cL_law 711 = .ok (.iload_n 3, 1) := by decide +kernel
theorem dL_law_712 : decode cL_law 712 = .ok (.iconst 1, 1) := by decide +kernel
theorem dL_law_713 : decode cL_law 713 = .ok (.iadd, 1) := by decide +kernel
theorem dL_law_714 : decode cL_law 714 = .ok (.iaload, 1) := by decide +kernel
theorem dL_law_715 : decode cL_law 715 = .ok (.invokevirtual 101, 3) := by decide +kernel
theorem dL_law_718 : decode cL_law 718 = .ok (.if_icmp .eq 61, 3) := by decide +kernel
theorem dL_law_721 : decode cL_law 721 = .ok (.iconst 0, 1) := by decide +kernel
theorem dL_law_722 : decode cL_law 722 = .ok (.ireturn, 1) := by decide +kernel
theorem dL_law_723 : decode cL_law 723 = .ok (.aload_n 1, 1) := by decide +kernel
theorem dL_law_724 : decode cL_law 724 = .ok (.aload_n 0, 1) := by decide +kernel
theorem dL_law_725 : decode cL_law 725 = .ok (.iload_n 3, 1) := by decide +kernel
theorem dL_law_726 : decode cL_law 726 = .ok (.iconst 1, 1) := by decide +kernel
theorem dL_law_727 : decode cL_law 727 = .ok (.iadd, 1) := by decide +kernel
theorem dL_law_728 : decode cL_law 728 = .ok (.iaload, 1) := by decide +kernel
theorem dL_law_729 : decode cL_law 729 = .ok (.aload_n 0, 1) := by decide +kernel
theorem dL_law_730 : decode cL_law 730 = .ok (.iload_n 3, 1) := by decide +kernel
theorem dL_law_731 : decode cL_law 731 = .ok (.iconst 2, 1) := by decide +kernel
theorem dL_law_732 : decode cL_law 732 = .ok (.iadd, 1) := by decide +kernel
theorem dL_law_733 : decode cL_law 733 = .ok (.iaload, 1) := by decide +kernel
theorem dL_law_734 : decode cL_law 734 = .ok (.invokevirtual 102, 3) := by decide +kernel
theorem dL_law_737 : decode cL_law 737 = .ok (.aload_n 2, 1) := by decide +kernel
theorem dL_law_738 : decode cL_law 738 = .ok (.aload_n 0, 1) := by decide +kernel
theorem dL_law_739 : decode cL_law 739 = .ok (.iload_n 3, 1) := by decide +kernel
theorem dL_law_740 : decode cL_law 740 = .ok (.iconst 1, 1) := by decide +kernel
theorem dL_law_741 : decode cL_law 741 = .ok (.iadd, 1) := by decide +kernel
theorem dL_law_742 : decode cL_law 742 = .ok (.iaload, 1) := by decide +kernel
theorem dL_law_743 : decode cL_law 743 = .ok (.aload_n 0, 1) := by decide +kernel
theorem dL_law_744 : decode cL_law 744 = .ok (.iload_n 3, 1) := by decide +kernel
theorem dL_law_745 : decode cL_law 745 = .ok (.iconst 2, 1) := by decide +kernel
theorem dL_law_746 : decode cL_law 746 = .ok (.iadd, 1) := by decide +kernel
theorem dL_law_747 : decode cL_law 747 = .ok (.iaload, 1) := by decide +kernel
theorem dL_law_748 : decode cL_law 748 = .ok (.invokevirtual 105, 3) := by decide +kernel
theorem dL_law_751 : decode cL_law 751 = .ok (.if_icmp .eq 28, 3) := by decide +kernel
theorem dL_law_754 : decode cL_law 754 = .ok (.iconst 0, 1) := by decide +kernel
theorem dL_law_755 : decode cL_law 755 = .ok (.ireturn, 1) := by decide +kernel
theorem dL_law_756 : decode cL_law 756 = .ok (.aload_n 1, 1) := by decide +kernel
theorem dL_law_757 : decode cL_law 757 = .ok (.aload_n 0, 1) := by decide +kernel
theorem dL_law_758 : decode cL_law 758 = .ok (.iload_n 3, 1) := by decide +kernel
theorem dL_law_759 : decode cL_law 759 = .ok (.iconst 1, 1) := by decide +kernel
theorem dL_law_760 : decode cL_law 760 = .ok (.iadd, 1) := by decide +kernel
theorem dL_law_761 : decode cL_law 761 = .ok (.iaload, 1) := by decide +kernel
theorem dL_law_762 : decode cL_law 762 = .ok (.invokevirtual 106, 3) := by decide +kernel
theorem dL_law_765 : decode cL_law 765 = .ok (.aload_n 2, 1) := by decide +kernel
theorem dL_law_766 : decode cL_law 766 = .ok (.aload_n 0, 1) := by decide +kernel
theorem dL_law_767 : decode cL_law 767 = .ok (.iload_n 3, 1) := by decide +kernel
theorem dL_law_768 : decode cL_law 768 = .ok (.iconst 1, 1) := by decide +kernel
theorem dL_law_769 : decode cL_law 769 = .ok (.iadd, 1) := by decide +kernel
theorem dL_law_770 : decode cL_law 770 = .ok (.iaload, 1) := by decide +kernel
theorem dL_law_771 : decode cL_law 771 = .ok (.invokevirtual 109, 3) := by decide +kernel
theorem dL_law_774 : decode cL_law 774 = .ok (.if_icmp .eq 5, 3) := by decide +kernel
theorem dL_law_777 : decode cL_law 777 = .ok (.iconst 0, 1) := by decide +kernel
theorem dL_law_778 : decode cL_law 778 = .ok (.ireturn, 1) := by decide +kernel
theorem dL_law_779 : decode cL_law 779 = .ok (.iinc 3 6, 3) := by decide +kernel
theorem dL_law_782 : decode cL_law 782 = .ok (.goto (-764), 3) := by decide +kernel
theorem dL_law_785 : decode cL_law 785 = .ok (.iconst 1, 1) := by decide +kernel
theorem dL_law_786 : decode cL_law 786 = .ok (.ireturn, 1) := by decide +kernel
end
section
theorem dX11_init_0 : decode cX11_init 0 = .ok (.aload_n 0, 1) := by decide +kernel
theorem dX11_init_1 : decode cX11_init 1 = .ok (.invokespecial 1, 3) := by decide +kernel
theorem dX11_init_4 : decode cX11_init 4 = .ok (.aload_n 0, 1) := by decide +kernel
theorem dX11_init_5 : decode cX11_init 5 = .ok (.sipush 3000, 3) := by decide +kernel
theorem dX11_init_8 : decode cX11_init 8 = .ok (.newarray .byte, 2) := by decide +kernel
theorem dX11_init_10 : decode cX11_init 10 = .ok (.putfield 7, 3) := by decide +kernel
theorem dX11_init_13 : decode cX11_init 13 = .ok (.aload_n 0, 1) := by decide +kernel
theorem dX11_init_14 : decode cX11_init 14 = .ok (.bipush 16, 2) := by decide +kernel
theorem dX11_init_16 : decode cX11_init 16 = .ok (.newarray .byte, 2) := by decide +kernel
theorem dX11_init_18 : decode cX11_init 18 = .ok (.putfield 13, 3) := by decide +kernel
theorem dX11_init_21 : decode cX11_init 21 = .ok (.aload_n 0, 1) := by decide +kernel
theorem dX11_init_22 : decode cX11_init 22 = .ok (.sipush 960, 3) := by decide +kernel
theorem dX11_init_25 : decode cX11_init 25 = .ok (.newarray .byte, 2) := by decide +kernel
theorem dX11_init_27 : decode cX11_init 27 = .ok (.putfield 16, 3) := by decide +kernel
theorem dX11_init_30 : decode cX11_init 30 = .ok (.aload_n 0, 1) := by decide +kernel
theorem dX11_init_31 : decode cX11_init 31 = .ok (.bipush 60, 2) := by decide +kernel
theorem dX11_init_33 : decode cX11_init 33 = .ok (.newarray .int, 2) := by decide +kernel
theorem dX11_init_35 : decode cX11_init 35 = .ok (.putfield 19, 3) := by decide +kernel
theorem dX11_init_38 : decode cX11_init 38 = .ok (.aload_n 0, 1) := by decide +kernel
theorem dX11_init_39 : decode cX11_init 39 = .ok (.sipush 480, 3) := by decide +kernel
theorem dX11_init_42 : decode cX11_init 42 = .ok (.newarray .byte, 2) := by decide +kernel
theorem dX11_init_44 : decode cX11_init 44 = .ok (.putfield 23, 3) := by decide +kernel
theorem dX11_init_47 : decode cX11_init 47 = .ok (.aload_n 0, 1) := by decide +kernel
theorem dX11_init_48 : decode cX11_init 48 = .ok (.bipush 30, 2) := by decide +kernel
theorem dX11_init_50 : decode cX11_init 50 = .ok (.newarray .int, 2) := by decide +kernel
theorem dX11_init_52 : decode cX11_init 52 = .ok (.putfield 26, 3) := by decide +kernel
theorem dX11_init_55 : decode cX11_init 55 = .ok (.aload_n 0, 1) := by decide +kernel
theorem dX11_init_56 : decode cX11_init 56 = .ok (.bipush 30, 2) := by decide +kernel
theorem dX11_init_58 : decode cX11_init 58 = .ok (.newarray .int, 2) := by decide +kernel
theorem dX11_init_60 : decode cX11_init 60 = .ok (.putfield 29, 3) := by decide +kernel
theorem dX11_init_63 : decode cX11_init 63 = .ok (.aload_n 0, 1) := by decide +kernel
theorem dX11_init_64 : decode cX11_init 64 = .ok (.sipush 160, 3) := by decide +kernel
theorem dX11_init_67 : decode cX11_init 67 = .ok (.newarray .byte, 2) := by decide +kernel
theorem dX11_init_69 : decode cX11_init 69 = .ok (.putfield 32, 3) := by decide +kernel
theorem dX11_init_72 : decode cX11_init 72 = .ok (.aload_n 0, 1) := by decide +kernel
theorem dX11_init_73 : decode cX11_init 73 = .ok (.bipush 10, 2) := by decide +kernel
theorem dX11_init_75 : decode cX11_init 75 = .ok (.newarray .int, 2) := by decide +kernel
theorem dX11_init_77 : decode cX11_init 77 = .ok (.putfield 35, 3) := by decide +kernel
theorem dX11_init_80 : decode cX11_init 80 = .ok (.aload_n 0, 1) := by decide +kernel
theorem dX11_init_81 : decode cX11_init 81 = .ok (.iconst 4, 1) := by decide +kernel
theorem dX11_init_82 : decode cX11_init 82 = .ok (.newarray .int, 2) := by decide +kernel
theorem dX11_init_84 : decode cX11_init 84 = .ok (.putfield 38, 3) := by decide +kernel
theorem dX11_init_87 : decode cX11_init 87 = .ok (.aload_n 0, 1) := by decide +kernel
theorem dX11_init_88 : decode cX11_init 88 = .ok (.sipush 15360, 3) := by decide +kernel
theorem dX11_init_91 : decode cX11_init 91 = .ok (.newarray .byte, 2) := by decide +kernel
theorem dX11_init_93 : decode cX11_init 93 = .ok (.putfield 41, 3) := by decide +kernel
theorem dX11_init_96 : decode cX11_init 96 = .ok (.aload_n 0, 1) := by decide +kernel
theorem dX11_init_97 : decode cX11_init 97 = .ok (.sipush 960, 3) := by decide +kernel
theorem dX11_init_100 : decode cX11_init 100 = .ok (.newarray .int, 2) := by decide +kernel
theorem dX11_init_102 : decode cX11_init 102 = .ok (.putfield 44, 3) := by decide +kernel
theorem dX11_init_105 : decode cX11_init 105 = .ok (.aload_n 0, 1) := by decide +kernel
theorem dX11_init_106 : decode cX11_init 106 = .ok (.bipush 24, 2) := by decide +kernel
theorem dX11_init_108 : decode cX11_init 108 = .ok (.newarray .int, 2) := by decide +kernel
theorem dX11_init_110 : decode cX11_init 110 = .ok (.putfield 47, 3) := by decide +kernel
theorem dX11_init_113 : decode cX11_init 113 = .ok (.aload_n 0, 1) := by decide +kernel
theorem dX11_init_114 : decode cX11_init 114 = .ok (.sipush 15360, 3) := by decide +kernel
theorem dX11_init_117 : decode cX11_init 117 = .ok (.newarray .byte, 2) := by decide +kernel
theorem dX11_init_119 : decode cX11_init 119 = .ok (.putfield 50, 3) := by decide +kernel
theorem dX11_init_122 : decode cX11_init 122 = .ok (.aload_n 0, 1) := by decide +kernel
theorem dX11_init_123 : decode cX11_init 123 = .ok (.sipush 960, 3) := by decide +kernel
theorem dX11_init_126 : decode cX11_init 126 = .ok (.newarray .int, 2) := by decide +kernel
theorem dX11_init_128 : decode cX11_init 128 = .ok (.putfield 53, 3) := by decide +kernel
theorem dX11_init_131 : decode cX11_init 131 = .ok (.aload_n 0, 1) := by decide +kernel
theorem dX11_init_132 : decode cX11_init 132 = .ok (.bipush 24, 2) := by decide +kernel
theorem dX11_init_134 : decode cX11_init 134 = .ok (.newarray .int, 2) := by decide +kernel
theorem dX11_init_136 : decode cX11_init 136 = .ok (.putfield 56, 3) := by decide +kernel
theorem dX11_init_139 : decode cX11_init 139 = .ok (.aload_n 0, 1) := by decide +kernel
theorem dX11_init_140 : decode cX11_init 140 = .ok (.bipush 24, 2) := by decide +kernel
theorem dX11_init_142 : decode cX11_init 142 = .ok (.newarray .int, 2) := by decide +kernel
theorem dX11_init_144 : decode cX11_init 144 = .ok (.putfield 59, 3) := by decide +kernel
theorem dX11_init_147 : decode cX11_init 147 = .ok (.aload_n 0, 1) := by decide +kernel
theorem dX11_init_148 : decode cX11_init 148 = .ok (.bipush 24, 2) := by decide +kernel
theorem dX11_init_150 : decode cX11_init 150 = .ok (.newarray .int, 2) := by decide +kernel
theorem dX11_init_152 : decode cX11_init 152 = .ok (.putfield 62, 3) := by decide +kernel
theorem dX11_init_155 : decode cX11_init 155 = .ok (.aload_n 0, 1) := by decide +kernel
theorem dX11_init_156 : decode cX11_init 156 = .ok (.bipush 24, 2) := by decide +kernel
theorem dX11_init_158 : decode cX11_init 158 = .ok (.newarray .int, 2) := by decide +kernel
theorem dX11_init_160 : decode cX11_init 160 = .ok (.putfield 65, 3) := by decide +kernel
theorem dX11_init_163 : decode cX11_init 163 = .ok (.aload_n 0, 1) := by decide +kernel
theorem dX11_init_164 : decode cX11_init 164 = .ok (.iconst (-1), 1) := by decide +kernel
theorem dX11_init_165 : decode cX11_init 165 = .ok (.putfield 68, 3) := by decide +kernel
theorem dX11_init_168 : decode cX11_init 168 = .ok (.aload_n 0, 1) := by decide +kernel
theorem dX11_init_169 : decode cX11_init 169 = .ok (.sipush 960, 3) := by decide +kernel
theorem dX11_init_172 : decode cX11_init 172 = .ok (.newarray .int, 2) := by decide +kernel
theorem dX11_init_174 : decode cX11_init 174 = .ok (.putfield 72, 3) := by decide +kernel
theorem dX11_init_177 : decode cX11_init 177 = .ok (.aload_n 0, 1) := by decide +kernel
theorem dX11_init_178 : decode cX11_init 178 = .ok (.sipush 960, 3) := by decide +kernel
theorem dX11_init_181 : decode cX11_init 181 = .ok (.newarray .int, 2) := by decide +kernel
theorem dX11_init_183 : decode cX11_init 183 = .ok (.putfield 75, 3) := by decide +kernel
theorem dX11_init_186 : decode cX11_init 186 = .ok (.aload_n 0, 1) := by decide +kernel
theorem dX11_init_187 : decode cX11_init 187 = .ok (.bipush 24, 2) := by decide +kernel
theorem dX11_init_189 : decode cX11_init 189 = .ok (.newarray .int, 2) := by decide +kernel
theorem dX11_init_191 : decode cX11_init 191 = .ok (.putfield 78, 3) := by decide +kernel
theorem dX11_init_194 : decode cX11_init 194 = .ok (.aload_n 0, 1) := by decide +kernel
theorem dX11_init_195 : decode cX11_init 195 = .ok (.bipush 24, 2) := by decide +kernel
theorem dX11_init_197 : decode cX11_init 197 = .ok (.newarray .int, 2) := by decide +kernel
theorem dX11_init_199 : decode cX11_init 199 = .ok (.putfield 81, 3) := by decide +kernel
theorem dX11_init_202 : decode cX11_init 202 = .ok (.aload_n 0, 1) := by decide +kernel
theorem dX11_init_203 : decode cX11_init 203 = .ok (.sipush 576, 3) := by decide +kernel
theorem dX11_init_206 : decode cX11_init 206 = .ok (.newarray .int, 2) := by decide +kernel
theorem dX11_init_208 : decode cX11_init 208 = .ok (.putfield 84, 3) := by decide +kernel
theorem dX11_init_211 : decode cX11_init 211 = .ok (.aload_n 0, 1) := by decide +kernel
theorem dX11_init_212 : decode cX11_init 212 = .ok (.bipush 24, 2) := by decide +kernel
theorem dX11_init_214 : decode cX11_init 214 = .ok (.newarray .int, 2) := by decide +kernel
theorem dX11_init_216 : decode cX11_init 216 = .ok (.putfield 87, 3) := by decide +kernel
theorem dX11_init_219 : decode cX11_init 219 = .ok (.aload_n 0, 1) := by decide +kernel
theorem dX11_init_220 : decode cX11_init 220 = .ok (.sipush 600, 3) := by decide +kernel
theorem dX11_init_223 : decode cX11_init 223 = .ok (.newarray .boolean, 2) := by decide +kernel
theorem dX11_init_225 : decode cX11_init 225 = .ok (.putfield 90, 3) := by decide +kernel
theorem dX11_init_228 : decode cX11_init 228 = .ok (.aload_n 0, 1) := by decide +kernel
theorem dX11_init_229 : decode cX11_init 229 = .ok (.sipush 576, 3) := by decide +kernel
theorem dX11_init_232 : decode cX11_init 232 = .ok (.newarray .int, 2) := by decide +kernel
theorem dX11_init_234 : decode cX11_init 234 = .ok (.putfield 94, 3) := by decide +kernel
theorem dX11_init_237 : decode cX11_init 237 = .ok (.aload_n 0, 1) := by decide +kernel
theorem dX11_init_238 : decode cX11_init 238 = .ok (.sipush 576, 3) := by decide +kernel
theorem dX11_init_241 : decode cX11_init 241 = .ok (.newarray .int, 2) := by decide +kernel
theorem dX11_init_243 : decode cX11_init 243 = .ok (.putfield 97, 3) := by decide +kernel
theorem dX11_init_246 : decode cX11_init 246 = .ok (.aload_n 0, 1) := by decide +kernel
theorem dX11_init_247 : decode cX11_init 247 = .ok (.bipush 24, 2) := by decide +kernel
theorem dX11_init_249 : decode cX11_init 249 = .ok (.newarray .int, 2) := by decide +kernel
theorem dX11_init_251 : decode cX11_init 251 = .ok (.putfield 100, 3) := by decide +kernel
theorem dX11_init_254 : decode cX11_init 254 = .ok (.aload_n 0, 1) := by decide +kernel
theorem dX11_init_255 : decode cX11_init 255 = .ok (.bipush 20, 2) := by decide +kernel
theorem dX11_init_257 : decode cX11_init 257 = .ok (.newarray .int, 2) := by decide +kernel
theorem dX11_init_259 : decode cX11_init 259 = .ok (.putfield 103, 3) := by decide +kernel
theorem dX11_init_262 : decode cX11_init 262 = .ok (.aload_n 0, 1) := by decide +kernel
theorem dX11_init_263 : decode cX11_init 263 = .ok (.bipush 20, 2) := by decide +kernel
theorem dX11_init_265 : decode cX11_init 265 = .ok (.newarray .int, 2) := by decide +kernel
theorem dX11_init_267 : decode cX11_init 267 = .ok (.putfield 106, 3) := by decide +kernel
theorem dX11_init_270 : decode cX11_init 270 = .ok (.aload_n 0, 1) := by decide +kernel
theorem dX11_init_271 : decode cX11_init 271 = .ok (.bipush 10, 2) := by decide +kernel
theorem dX11_init_273 : decode cX11_init 273 = .ok (.newarray .int, 2) := by decide +kernel
theorem dX11_init_275 : decode cX11_init 275 = .ok (.putfield 109, 3) := by decide +kernel
theorem dX11_init_278 : decode cX11_init 278 = .ok (.aload_n 0, 1) := by decide +kernel
theorem dX11_init_279 : decode cX11_init 279 = .ok (.bipush 10, 2) := by decide +kernel
theorem dX11_init_281 : decode cX11_init 281 = .ok (.newarray .int, 2) := by decide +kernel
theorem dX11_init_283 : decode cX11_init 283 = .ok (.putfield 112, 3) := by decide +kernel
theorem dX11_init_286 : decode cX11_init 286 = .ok (.aload_n 0, 1) := by decide +kernel
theorem dX11_init_287 : decode cX11_init 287 = .ok (.bipush 10, 2) := by decide +kernel
theorem dX11_init_289 : decode cX11_init 289 = .ok (.newarray .int, 2) := by decide +kernel
theorem dX11_init_291 : decode cX11_init 291 = .ok (.putfield 115, 3) := by decide +kernel
theorem dX11_init_294 : decode cX11_init 294 = .ok (.aload_n 0, 1) := by decide +kernel
theorem dX11_init_295 : decode cX11_init 295 = .ok (.bipush 10, 2) := by decide +kernel
theorem dX11_init_297 : decode cX11_init 297 = .ok (.newarray .int, 2) := by decide +kernel
theorem dX11_init_299 : decode cX11_init 299 = .ok (.putfield 118, 3) := by decide +kernel
theorem dX11_init_302 : decode cX11_init 302 = .ok (.aload_n 0, 1) := by decide +kernel
theorem dX11_init_303 : decode cX11_init 303 = .ok (.sipush 1024, 3) := by decide +kernel
theorem dX11_init_306 : decode cX11_init 306 = .ok (.newarray .int, 2) := by decide +kernel
theorem dX11_init_308 : decode cX11_init 308 = .ok (.putfield 121, 3) := by decide +kernel
theorem dX11_init_311 : decode cX11_init 311 = .ok (.aload_n 0, 1) := by decide +kernel
theorem dX11_init_312 : decode cX11_init 312 = .ok (.sipush 1024, 3) := by decide +kernel
theorem dX11_init_315 : decode cX11_init 315 = .ok (.newarray .int, 2) := by decide +kernel
theorem dX11_init_317 : decode cX11_init 317 = .ok (.putfield 124, 3) := by decide +kernel
theorem dX11_init_320 : decode cX11_init 320 = .ok (.aload_n 0, 1) := by decide +kernel
theorem dX11_init_321 : decode cX11_init 321 = .ok (.bipush 10, 2) := by decide +kernel
theorem dX11_init_323 : decode cX11_init 323 = .ok (.newarray .int, 2) := by decide +kernel
theorem dX11_init_325 : decode cX11_init 325 = .ok (.putfield 127, 3) := by decide +kernel
theorem dX11_init_328 : decode cX11_init 328 = .ok (.aload_n 0, 1) := by decide +kernel
theorem dX11_init_329 : decode cX11_init 329 = .ok (.bipush 10, 2) := by decide +kernel
theorem dX11_init_331 : decode cX11_init 331 = .ok (.newarray .int, 2) := by decide +kernel
theorem dX11_init_333 : decode cX11_init 333 = .ok (.putfield 130, 3) := by decide +kernel
theorem dX11_init_336 : decode cX11_init 336 = .ok (.aload_n 0, 1) := by decide +kernel
theorem dX11_init_337 : decode cX11_init 337 = .ok (.bipush 24, 2) := by decide +kernel
theorem dX11_init_339 : decode cX11_init 339 = .ok (.newarray .int, 2) := by decide +kernel
theorem dX11_init_341 : decode cX11_init 341 = .ok (.putfield 133, 3) := by decide +kernel
theorem dX11_init_344 : decode cX11_init 344 = .ok (.aload_n 0, 1) := by decide +kernel
theorem dX11_init_345 : decode cX11_init 345 = .ok (.getfield 38, 3) := by decide +kernel
theorem dX11_init_348 : decode cX11_init 348 = .ok (.iconst 0, 1) := by decide +kernel
theorem dX11_init_349 : decode cX11_init 349 = .ok (.iconst 2, 1) := by decide +kernel
theorem dX11_init_350 : decode cX11_init 350 = .ok (.iastore, 1) := by decide +kernel
theorem dX11_init_351 : decode cX11_init 351 = .ok (.aload_n 0, 1) := by decide +kernel
theorem dX11_init_352 : decode cX11_init 352 = .ok (.getfield 38, 3) := by decide +kernel
theorem dX11_init_355 : decode cX11_init 355 = .ok (.iconst 1, 1) := by decide +kernel
theorem dX11_init_356 : decode cX11_init 356 = .ok (.iconst 3, 1) := by decide +kernel
theorem dX11_init_357 : decode cX11_init 357 = .ok (.iastore, 1) := by decide +kernel
theorem dX11_init_358 : decode cX11_init 358 = .ok (.aload_n 0, 1) := by decide +kernel
theorem dX11_init_359 : decode cX11_init 359 = .ok (.getfield 38, 3) := by decide +kernel
theorem dX11_init_362 : decode cX11_init 362 = .ok (.iconst 2, 1) := by decide +kernel
theorem dX11_init_363 : decode cX11_init 363 = .ok (.bipush 10, 2) := by decide +kernel
theorem dX11_init_365 : decode cX11_init 365 = .ok (.iastore, 1) := by decide +kernel
theorem dX11_init_366 : decode cX11_init 366 = .ok (.aload_n 0, 1) := by decide +kernel
theorem dX11_init_367 : decode cX11_init 367 = .ok (.getfield 38, 3) := by decide +kernel
theorem dX11_init_370 : decode cX11_init 370 = .ok (.iconst 3, 1) := by decide +kernel
theorem dX11_init_371 : decode cX11_init 371 = .ok (.iconst 5, 1) := by decide +kernel
theorem dX11_init_372 : decode cX11_init 372 = .ok (.iastore, 1) := by decide +kernel
theorem dX11_init_373 : decode cX11_init 373 = .ok (.return_, 1) := by decide +kernel
theorem dX11_in_0 : decode cX11_in 0 = .ok (.iload_n 0, 1) := by decide +kernel
theorem dX11_in_1 : decode cX11_in 1 = .ok (.iload_n 1, 1) := by decide +kernel
theorem dX11_in_2 : decode cX11_in 2 = .ok (.if_icmp .lt 12, 3) := by decide +kernel
theorem dX11_in_5 : decode cX11_in 5 = .ok (.iload_n 0, 1) := by decide +kernel
theorem dX11_in_6 : decode cX11_in 6 = .ok (.iload_n 2, 1) := by decide +kernel
theorem dX11_in_7 : decode cX11_in 7 = .ok (.if_icmp .gt 7, 3) := by decide +kernel
theorem dX11_in_10 : decode cX11_in 10 = .ok (.iconst 1, 1) := by decide +kernel
theorem dX11_in_11 : decode cX11_in 11 = .ok (.goto 4, 3) := by decide +kernel
theorem dX11_in_14 : decode cX11_in 14 = .ok (.iconst 0, 1) := by decide +kernel
theorem dX11_in_15 : decode cX11_in 15 = .ok (.ireturn, 1) := by decide +kernel
theorem dX11_feed_0 : decode cX11_feed 0 = .ok (.aload_n 0, 1) := by decide +kernel
theorem dX11_feed_1 : decode cX11_feed 1 = .ok (.getfield 136, 3) := by decide +kernel
theorem dX11_feed_4 : decode cX11_feed 4 = .ok (.bipush 20, 2) := by decide +kernel
theorem dX11_feed_6 : decode cX11_feed 6 = .ok (.iadd, 1) := by decide +kernel
theorem dX11_feed_7 : decode cX11_feed 7 = .ok (.sipush 3000, 3) := by decide +kernel
theorem dX11_feed_10 : decode cX11_feed 10 = .ok (.if_icmp .le 6, 3) := by decide +kernel
theorem dX11_feed_13 : decode cX11_feed 13 = .ok (.bipush (-3), 2) := by decide +kernel
theorem dX11_feed_15 : decode cX11_feed 15 = .ok (.ireturn, 1) := by decide +kernel
theorem dX11_feed_16 : decode cX11_feed 16 = .ok (.iconst 0, 1) := by decide +kernel
theorem dX11_feed_17 : decode cX11_feed 17 = .ok (.istore 6, 2) := by decide +kernel
theorem dX11_feed_19 : decode cX11_feed 19 = .ok (.iload 6, 2) := by decide +kernel
theorem dX11_feed_21 : decode cX11_feed 21 = .ok (.iconst 5, 1) := by decide +kernel
theorem dX11_feed_22 : decode cX11_feed 22 = .ok (.if_icmp .ge 93, 3) := by decide +kernel
theorem dX11_feed_25 : decode cX11_feed 25 = .ok (.iload 6, 2) := by decide +kernel
theorem dX11_feed_27 : decode cX11_feed 27 = .ok (.ifCond .ne 7, 3) := by decide +kernel
theorem dX11_feed_30 : decode cX11_feed 30 = .ok (.iload_n 1, 1) := by decide +kernel
theorem dX11_feed_31 : decode cX11_feed 31 = .ok (.goto 36, 3) := by decide +kernel
theorem dX11_feed_34 : decode cX11_feed 34 = .ok (.iload 6, 2) := by decide +kernel
theorem dX11_feed_36 : decode cX11_feed 36 = .ok (.iconst 1, 1) := by decide +kernel
theorem dX11_feed_37 : decode cX11_feed 37 = .ok (.if_icmp .ne 7, 3) := by decide +kernel
theorem dX11_feed_40 : decode cX11_feed 40 = .ok (.iload_n 2, 1) := by decide +kernel
theorem dX11_feed_41 : decode cX11_feed 41 = .ok (.goto 26, 3) := by decide +kernel
theorem dX11_feed_44 : decode cX11_feed 44 = .ok (.iload 6, 2) := by decide +kernel
theorem dX11_feed_46 : decode cX11_feed 46 = .ok (.iconst 2, 1) := by decide +kernel
theorem dX11_feed_47 : decode cX11_feed 47 = .ok (.if_icmp .ne 7, 3) := by decide +kernel
theorem dX11_feed_50 : decode cX11_feed 50 = .ok (.iload_n 3, 1) := by decide +kernel
theorem dX11_feed_51 : decode cX11_feed 51 = .ok (.goto 16, 3) := by decide +kernel
theorem dX11_feed_54 : decode cX11_feed 54 = .ok (.iload 6, 2) := by decide +kernel
theorem dX11_feed_56 : decode cX11_feed 56 = .ok (.iconst 3, 1) := by decide +kernel
theorem dX11_feed_57 : decode cX11_feed 57 = .ok (.if_icmp .ne 8, 3) := by decide +kernel
theorem dX11_feed_60 : decode cX11_feed 60 = .ok (.iload 4, 2) := by decide +kernel
theorem dX11_feed_62 : decode cX11_feed 62 = .ok (.goto 5, 3) := by decide +kernel
theorem dX11_feed_65 : decode cX11_feed 65 = .ok (.iload 5, 2) := by decide +kernel
theorem dX11_feed_67 : decode cX11_feed 67 = .ok (.istore 7, 2) := by decide +kernel
theorem dX11_feed_69 : decode cX11_feed 69 = .ok (.bipush 24, 2) := by decide +kernel
theorem dX11_feed_71 : decode cX11_feed 71 = .ok (.istore 8, 2) := by decide +kernel
theorem dX11_feed_73 : decode cX11_feed 73 = .ok (.iload 8, 2) := by decide +kernel
theorem dX11_feed_75 : decode cX11_feed 75 = .ok (.ifCond .lt 34, 3) := by decide +kernel
theorem dX11_feed_78 : decode cX11_feed 78 = .ok (.aload_n 0, 1) := by decide +kernel
theorem dX11_feed_79 : decode cX11_feed 79 = .ok (.getfield 7, 3) := by decide +kernel
theorem dX11_feed_82 : decode cX11_feed 82 = .ok (.aload_n 0, 1) := by decide +kernel
theorem dX11_feed_83 : decode cX11_feed 83 = .ok (.getfield 136, 3) := by decide +kernel
theorem dX11_feed_86 : decode cX11_feed 86 = .ok (.iload 7, 2) := by decide +kernel
theorem dX11_feed_88 : decode cX11_feed 88 = .ok (.iload 8, 2) := by decide +kernel
theorem dX11_feed_90 : decode cX11_feed 90 = .ok (.ishr, 1) := by decide +kernel
theorem dX11_feed_91 : decode cX11_feed 91 = .ok (.i2b, 1) := by decide +kernel
theorem dX11_feed_92 : decode cX11_feed 92 = .ok (.bastore, 1) := by decide +kernel
theorem dX11_feed_93 : decode cX11_feed 93 = .ok (.aload_n 0, 1) := by decide +kernel
theorem dX11_feed_94 : decode cX11_feed 94 = .ok (.dup, 1) := by decide +kernel
theorem dX11_feed_95 : decode cX11_feed 95 = .ok (.getfield 136, 3) := by decide +kernel
theorem dX11_feed_98 : decode cX11_feed 98 = .ok (.iconst 1, 1) := by decide +kernel
theorem dX11_feed_99 : decode cX11_feed 99 = .ok (.iadd, 1) := by decide +kernel
theorem dX11_feed_100 : decode cX11_feed 100 = .ok (.putfield 136, 3) := by decide +kernel
theorem dX11_feed_103 : decode cX11_feed 103 = .ok (.iinc 8 (-8), 3) := by decide +kernel
theorem dX11_feed_106 : decode cX11_feed 106 = .ok (.goto (-33), 3) := by decide +kernel
theorem dX11_feed_109 : decode cX11_feed 109 = .ok (.iinc 6 1, 3) := by decide +kernel
theorem dX11_feed_112 : decode cX11_feed 112 = .ok (.goto (-93), 3) := by decide +kernel
theorem dX11_feed_115 : decode cX11_feed 115 = .ok (.aload_n 0, 1) := by decide +kernel
theorem dX11_feed_116 : decode cX11_feed 116 = .ok (.getfield 136, 3) := by decide +kernel
theorem dX11_feed_119 : decode cX11_feed 119 = .ok (.ireturn, 1) := by decide +kernel
theorem dX11_end_0 : decode cX11_end 0 = .ok (.iload_n 1, 1) := by decide +kernel
theorem dX11_end_1 : decode cX11_end 1 = .ok (.ifCond .lt 11, 3) := by decide +kernel
theorem dX11_end_4 : decode cX11_end 4 = .ok (.iload_n 1, 1) := by decide +kernel
theorem dX11_end_5 : decode cX11_end 5 = .ok (.aload_n 0, 1) := by decide +kernel
theorem dX11_end_6 : decode cX11_end 6 = .ok (.getfield 136, 3) := by decide +kernel
theorem dX11_end_9 : decode cX11_end 9 = .ok (.if_icmp .le 5, 3) := by decide +kernel
theorem dX11_end_12 : decode cX11_end 12 = .ok (.iconst (-1), 1) := by decide +kernel
theorem dX11_end_13 : decode cX11_end 13 = .ok (.ireturn, 1) := by decide +kernel
theorem dX11_end_14 : decode cX11_end 14 = .ok (.aload_n 0, 1) := by decide +kernel
theorem dX11_end_15 : decode cX11_end 15 = .ok (.iload_n 1, 1) := by decide +kernel
theorem dX11_end_16 : decode cX11_end 16 = .ok (.putfield 136, 3) := by decide +kernel
theorem dX11_end_19 : decode cX11_end 19 = .ok (.iload_n 1, 1) := by decide +kernel
theorem dX11_end_20 : decode cX11_end 20 = .ok (.ireturn, 1) := by decide +kernel
theorem dX11_isOfWord_0 : decode cX11_isOfWord 0 = .ok (.iload_n 0, 1) := by decide +kernel
theorem dX11_isOfWord_1 : decode cX11_isOfWord 1 = .ok (.bipush 65, 2) := by decide +kernel
theorem dX11_isOfWord_3 : decode cX11_isOfWord 3 = .ok (.if_icmp .lt 9, 3) := by decide +kernel
theorem dX11_isOfWord_6 : decode cX11_isOfWord 6 = .ok (.iload_n 0, 1) := by decide +kernel
theorem dX11_isOfWord_7 : decode cX11_isOfWord 7 = .ok (.bipush 90, 2) := by decide +kernel
theorem dX11_isOfWord_9 : decode cX11_isOfWord 9 = .ok (.if_icmp .le 33, 3) := by decide +kernel
theorem dX11_isOfWord_12 : decode cX11_isOfWord 12 = .ok (.iload_n 0, 1) := by decide +kernel
theorem dX11_isOfWord_13 : decode cX11_isOfWord 13 = .ok (.bipush 97, 2) := by decide +kernel
theorem dX11_isOfWord_15 : decode cX11_isOfWord 15 = .ok (.if_icmp .lt 9, 3) := by decide +kernel
theorem dX11_isOfWord_18 : decode cX11_isOfWord 18 = .ok (.iload_n 0, 1) := by decide +kernel
theorem dX11_isOfWord_19 : decode cX11_isOfWord 19 = .ok (.bipush 122, 2) := by decide +kernel
theorem dX11_isOfWord_21 : decode cX11_isOfWord 21 = .ok (.if_icmp .le 21, 3) := by decide +kernel
theorem dX11_isOfWord_24 : decode cX11_isOfWord 24 = .ok (.iload_n 0, 1) := by decide +kernel
theorem dX11_isOfWord_25 : decode cX11_isOfWord 25 = .ok (.bipush 48, 2) := by decide +kernel
theorem dX11_isOfWord_27 : decode cX11_isOfWord 27 = .ok (.if_icmp .lt 9, 3) := by decide +kernel
theorem dX11_isOfWord_30 : decode cX11_isOfWord 30 = .ok (.iload_n 0, 1) := by decide +kernel
theorem dX11_isOfWord_31 : decode cX11_isOfWord 31 = .ok (.bipush 57, 2) := by decide +kernel
theorem dX11_isOfWord_33 : decode cX11_isOfWord 33 = .ok (.if_icmp .le 9, 3) := by decide +kernel
theorem dX11_isOfWord_36 : decode cX11_isOfWord 36 = .ok (.iload_n 0, 1) := by decide +kernel
theorem dX11_isOfWord_37 : decode cX11_isOfWord 37 = .ok (.bipush 39, 2) := by decide +kernel
theorem dX11_isOfWord_39 : decode cX11_isOfWord 39 = .ok (.if_icmp .ne 7, 3) := by decide +kernel
theorem dX11_isOfWord_42 : decode cX11_isOfWord 42 = .ok (.iconst 1, 1) := by decide +kernel
theorem dX11_isOfWord_43 : decode cX11_isOfWord 43 = .ok (.goto 4, 3) := by decide +kernel
theorem dX11_isOfWord_46 : decode cX11_isOfWord 46 = .ok (.iconst 0, 1) := by decide +kernel
theorem dX11_isOfWord_47 : decode cX11_isOfWord 47 = .ok (.ireturn, 1) := by decide +kernel
theorem dX11_small_0 : decode cX11_small 0 = .ok (.iload_n 0, 1) := by decide +kernel
theorem dX11_small_1 : decode cX11_small 1 = .ok (.bipush 65, 2) := by decide +kernel
theorem dX11_small_3 : decode cX11_small 3 = .ok (.if_icmp .lt 16, 3) := by decide +kernel
theorem dX11_small_6 : decode cX11_small 6 = .ok (.iload_n 0, 1) := by decide +kernel
theorem dX11_small_7 : decode cX11_small 7 = .ok (.bipush 90, 2) := by decide +kernel
theorem dX11_small_9 : decode cX11_small 9 = .ok (.if_icmp .gt 10, 3) := by decide +kernel
theorem dX11_small_12 : decode cX11_small 12 = .ok (.iload_n 0, 1) := by decide +kernel
theorem dX11_small_13 : decode cX11_small 13 = .ok (.bipush 32, 2) := by decide +kernel
theorem dX11_small_15 : decode cX11_small 15 = .ok (.iadd, 1) := by decide +kernel
theorem dX11_small_16 : decode cX11_small 16 = .ok (.goto 4, 3) := by decide +kernel
theorem dX11_small_19 : decode cX11_small 19 = .ok (.iload_n 0, 1) := by decide +kernel
theorem dX11_small_20 : decode cX11_small 20 = .ok (.ireturn, 1) := by decide +kernel
theorem dX11_takeWord_0 : decode cX11_takeWord 0 = .ok (.aload_n 0, 1) := by decide +kernel
theorem dX11_takeWord_1 : decode cX11_takeWord 1 = .ok (.getfield 136, 3) := by decide +kernel
theorem dX11_takeWord_4 : decode cX11_takeWord 4 = .ok (.istore_n 2, 1) := by decide +kernel
theorem dX11_takeWord_5 : decode cX11_takeWord 5 = .ok (.aload_n 0, 1) := by decide +kernel
theorem dX11_takeWord_6 : decode cX11_takeWord 6 = .ok (.iconst 0, 1) := by decide +kernel
theorem dX11_takeWord_7 : decode cX11_takeWord 7 = .ok (.putfield 136, 3) := by decide +kernel
theorem dX11_takeWord_10 : decode cX11_takeWord 10 = .ok (.iload_n 2, 1) := by decide +kernel
theorem dX11_takeWord_11 : decode cX11_takeWord 11 = .ok (.iconst 1, 1) := by decide +kernel
theorem dX11_takeWord_12 : decode cX11_takeWord 12 = .ok (.iload_n 1, 1) := by decide +kernel
theorem dX11_takeWord_13 : decode cX11_takeWord 13 = .ok (.invokestatic 139, 3) := by decide +kernel
theorem dX11_takeWord_16 : decode cX11_takeWord 16 = .ok (.ifCond .ne 5, 3) := by decide +kernel
theorem dX11_takeWord_19 : decode cX11_takeWord 19 = .ok (.iconst 0, 1) := by decide +kernel
theorem dX11_takeWord_20 : decode cX11_takeWord 20 = .ok (.ireturn, 1) := by decide +kernel
theorem dX11_takeWord_21 : decode cX11_takeWord 21 = .ok (.iconst 0, 1) := by decide +kernel
theorem dX11_takeWord_22 : decode cX11_takeWord 22 = .ok (.istore_n 3, 1) := by decide +kernel
theorem dX11_takeWord_23 : decode cX11_takeWord 23 = .ok (.iload_n 3, 1) := by decide +kernel
theorem dX11_takeWord_24 : decode cX11_takeWord 24 = .ok (.iload_n 2, 1) := by decide +kernel
theorem dX11_takeWord_25 : decode cX11_takeWord 25 = .ok (.if_icmp .ge 39, 3) := by decide +kernel
theorem dX11_takeWord_28 : decode cX11_takeWord 28 = .ok (.aload_n 0, 1) := by decide +kernel
theorem dX11_takeWord_29 : decode cX11_takeWord 29 = .ok (.getfield 7, 3) := by decide +kernel
theorem dX11_takeWord_32 : decode cX11_takeWord 32 = .ok (.iload_n 3, 1) := by decide +kernel
theorem dX11_takeWord_33 : decode cX11_takeWord 33 = .ok (.baload, 1) := by decide +kernel
theorem dX11_takeWord_34 : decode cX11_takeWord 34 = .ok (.invokestatic 143, 3) := by decide +kernel
theorem dX11_takeWord_37 : decode cX11_takeWord 37 = .ok (.ifCond .ne 5, 3) := by decide +kernel
theorem dX11_takeWord_40 : decode cX11_takeWord 40 = .ok (.iconst 0, 1) := by decide +kernel
theorem dX11_takeWord_41 : decode cX11_takeWord 41 = .ok (.ireturn, 1) := by decide +kernel
theorem dX11_takeWord_42 : decode cX11_takeWord 42 = .ok (.aload_n 0, 1) := by decide +kernel
theorem dX11_takeWord_43 : decode cX11_takeWord 43 = .ok (.getfield 13, 3) := by decide +kernel
theorem dX11_takeWord_46 : decode cX11_takeWord 46 = .ok (.iload_n 3, 1) := by decide +kernel
theorem dX11_takeWord_47 : decode cX11_takeWord 47 = .ok (.aload_n 0, 1) := by decide +kernel
theorem dX11_takeWord_48 : decode cX11_takeWord 48 = .ok (.getfield 7, 3) := by decide +kernel
theorem dX11_takeWord_51 : decode cX11_takeWord 51 = .ok (.iload_n 3, 1) := by decide +kernel
theorem dX11_takeWord_52 : decode cX11_takeWord 52 = .ok (.baload, 1) := by decide +kernel
theorem dX11_takeWord_53 : decode cX11_takeWord 53 = .ok (.invokestatic 147, 3) := by decide +kernel
theorem dX11_takeWord_56 : decode cX11_takeWord 56 = .ok (.i2b, 1) := by decide +kernel
theorem dX11_takeWord_57 : decode cX11_takeWord 57 = .ok (.bastore, 1) := by decide +kernel
theorem dX11_takeWord_58 : decode cX11_takeWord 58 = .ok (.iinc 3 1, 3) := by decide +kernel
theorem dX11_takeWord_61 : decode cX11_takeWord 61 = .ok (.goto (-38), 3) := by decide +kernel
theorem dX11_takeWord_64 : decode cX11_takeWord 64 = .ok (.aload_n 0, 1) := by decide +kernel
theorem dX11_takeWord_65 : decode cX11_takeWord 65 = .ok (.iload_n 2, 1) := by decide +kernel
theorem dX11_takeWord_66 : decode cX11_takeWord 66 = .ok (.putfield 151, 3) := by decide +kernel
theorem dX11_takeWord_69 : decode cX11_takeWord 69 = .ok (.iconst 1, 1) := by decide +kernel
theorem dX11_takeWord_70 : decode cX11_takeWord 70 = .ok (.ireturn, 1) := by decide +kernel
theorem dX11_isLike_0 : decode cX11_isLike 0 = .ok (.iload_n 2, 1) := by decide +kernel
theorem dX11_isLike_1 : decode cX11_isLike 1 = .ok (.iload 5, 2) := by decide +kernel
theorem dX11_isLike_3 : decode cX11_isLike 3 = .ok (.if_icmp .eq 5, 3) := by decide +kernel
theorem dX11_isLike_6 : decode cX11_isLike 6 = .ok (.iconst 0, 1) := by decide +kernel
theorem dX11_isLike_7 : decode cX11_isLike 7 = .ok (.ireturn, 1) := by decide +kernel
theorem dX11_isLike_8 : decode cX11_isLike 8 = .ok (.iconst 0, 1) := by decide +kernel
theorem dX11_isLike_9 : decode cX11_isLike 9 = .ok (.istore 6, 2) := by decide +kernel
theorem dX11_isLike_11 : decode cX11_isLike 11 = .ok (.iload 6, 2) := by decide +kernel
theorem dX11_isLike_13 : decode cX11_isLike 13 = .ok (.iload_n 2, 1) := by decide +kernel
theorem dX11_isLike_14 : decode cX11_isLike 14 = .ok (.if_icmp .ge 27, 3) := by decide +kernel
theorem dX11_isLike_17 : decode cX11_isLike 17 = .ok (.aload_n 0, 1) := by decide +kernel
theorem dX11_isLike_18 : decode cX11_isLike 18 = .ok (.iload_n 1, 1) := by decide +kernel
theorem dX11_isLike_19 : decode cX11_isLike 19 = .ok (.iload 6, 2) := by decide +kernel
theorem dX11_isLike_21 : decode cX11_isLike 21 = .ok (.iadd, 1) := by decide +kernel
theorem dX11_isLike_22 : decode cX11_isLike 22 = .ok (.baload, 1) := by decide +kernel
theorem dX11_isLike_23 : decode cX11_isLike 23 = .ok (.aload_n 3, 1) := by decide +kernel
theorem dX11_isLike_24 : decode cX11_isLike 24 = .ok (.iload 4, 2) := by decide +kernel
theorem dX11_isLike_26 : decode cX11_isLike 26 = .ok (.iload 6, 2) := by decide +kernel
theorem dX11_isLike_28 : decode cX11_isLike 28 = .ok (.iadd, 1) := by decide +kernel
theorem dX11_isLike_29 : decode cX11_isLike 29 = .ok (.baload, 1) := by decide +kernel
theorem dX11_isLike_30 : decode cX11_isLike 30 = .ok (.if_icmp .eq 5, 3) := by decide +kernel
theorem dX11_isLike_33 : decode cX11_isLike 33 = .ok (.iconst 0, 1) := by decide +kernel
theorem dX11_isLike_34 : decode cX11_isLike 34 = .ok (.ireturn, 1) := by decide +kernel
theorem dX11_isLike_35 : decode cX11_isLike 35 = .ok (.iinc 6 1, 3) := by decide +kernel
theorem dX11_isLike_38 : decode cX11_isLike 38 = .ok (.goto (-27), 3) := by decide +kernel
theorem dX11_isLike_41 : decode cX11_isLike 41 = .ok (.iconst 1, 1) := by decide +kernel
theorem dX11_isLike_42 : decode cX11_isLike 42 = .ok (.ireturn, 1) := by decide +kernel
theorem dX11_find_0 : decode cX11_find 0 = .ok (.iconst 0, 1) := by decide +kernel
theorem dX11_find_1 : decode cX11_find 1 = .ok (.istore 6, 2) := by decide +kernel
theorem dX11_find_3 : decode cX11_find 3 = .ok (.iload 6, 2) := by decide +kernel
theorem dX11_find_5 : decode cX11_find 5 = .ok (.iload_n 2, 1) := by decide +kernel
theorem dX11_find_6 : decode cX11_find 6 = .ok (.if_icmp .ge 33, 3) := by decide +kernel
theorem dX11_find_9 : decode cX11_find 9 = .ok (.aload_n 0, 1) := by decide +kernel
theorem dX11_find_10 : decode cX11_find 10 = .ok (.bipush 16, 2) := by decide +kernel
theorem dX11_find_12 : decode cX11_find 12 = .ok (.iload 6, 2) := by decide +kernel
theorem dX11_find_14 : decode cX11_find 14 = .ok (.imul, 1) := by decide +kernel
theorem dX11_find_15 : decode cX11_find 15 = .ok (.aload_n 1, 1) := by decide +kernel
theorem dX11_find_16 : decode cX11_find 16 = .ok (.iload 6, 2) := by decide +kernel
theorem dX11_find_18 : decode cX11_find 18 = .ok (.iaload, 1) := by decide +kernel
theorem dX11_find_19 : decode cX11_find 19 = .ok (.aload_n 3, 1) := by decide +kernel
theorem dX11_find_20 : decode cX11_find 20 = .ok (.iload 4, 2) := by decide +kernel
theorem dX11_find_22 : decode cX11_find 22 = .ok (.iload 5, 2) := by decide +kernel
theorem dX11_find_24 : decode cX11_find 24 = .ok (.invokestatic 154, 3) := by decide +kernel
theorem dX11_find_27 : decode cX11_find 27 = .ok (.ifCond .eq 6, 3) := by decide +kernel
theorem dX11_find_30 : decode cX11_find 30 = .ok (.iload 6, 2) := by decide +kernel
theorem dX11_find_32 : decode cX11_find 32 = .ok (.ireturn, 1) := by decide +kernel
theorem dX11_find_33 : decode cX11_find 33 = .ok (.iinc 6 1, 3) := by decide +kernel
theorem dX11_find_36 : decode cX11_find 36 = .ok (.goto (-33), 3) := by decide +kernel
theorem dX11_find_39 : decode cX11_find 39 = .ok (.iconst (-1), 1) := by decide +kernel
theorem dX11_find_40 : decode cX11_find 40 = .ok (.ireturn, 1) := by decide +kernel
theorem dX11_put_0 : decode cX11_put 0 = .ok (.iconst 0, 1) := by decide +kernel
theorem dX11_put_1 : decode cX11_put 1 = .ok (.istore 4, 2) := by decide +kernel
theorem dX11_put_3 : decode cX11_put 3 = .ok (.iload 4, 2) := by decide +kernel
theorem dX11_put_5 : decode cX11_put 5 = .ok (.aload_n 0, 1) := by decide +kernel
theorem dX11_put_6 : decode cX11_put 6 = .ok (.getfield 151, 3) := by decide +kernel
theorem dX11_put_9 : decode cX11_put 9 = .ok (.if_icmp .ge 25, 3) := by decide +kernel
theorem dX11_put_12 : decode cX11_put 12 = .ok (.aload_n 1, 1) := by decide +kernel
theorem dX11_put_13 : decode cX11_put 13 = .ok (.bipush 16, 2) := by decide +kernel
theorem dX11_put_15 : decode cX11_put 15 = .ok (.iload_n 3, 1) := by decide +kernel
theorem dX11_put_16 : decode cX11_put 16 = .ok (.imul, 1) := by decide +kernel
theorem dX11_put_17 : decode cX11_put 17 = .ok (.iload 4, 2) := by decide +kernel
theorem dX11_put_19 : decode cX11_put 19 = .ok (.iadd, 1) := by decide +kernel
theorem dX11_put_20 : decode cX11_put 20 = .ok (.aload_n 0, 1) := by decide +kernel
theorem dX11_put_21 : decode cX11_put 21 = .ok (.getfield 13, 3) := by decide +kernel
theorem dX11_put_24 : decode cX11_put 24 = .ok (.iload 4, 2) := by decide +kernel
theorem dX11_put_26 : decode cX11_put 26 = .ok (.baload, 1) := by decide +kernel
theorem dX11_put_27 : decode cX11_put 27 = .ok (.bastore, 1) := by decide +kernel
theorem dX11_put_28 : decode cX11_put 28 = .ok (.iinc 4 1, 3) := by decide +kernel
theorem dX11_put_31 : decode cX11_put 31 = .ok (.goto (-28), 3) := by decide +kernel
theorem dX11_put_34 : decode cX11_put 34 = .ok (.aload_n 2, 1) := by decide +kernel
theorem dX11_put_35 : decode cX11_put 35 = .ok (.iload_n 3, 1) := by decide +kernel
theorem dX11_put_36 : decode cX11_put 36 = .ok (.aload_n 0, 1) := by decide +kernel
theorem dX11_put_37 : decode cX11_put 37 = .ok (.getfield 151, 3) := by decide +kernel
theorem dX11_put_40 : decode cX11_put 40 = .ok (.iastore, 1) := by decide +kernel
theorem dX11_put_41 : decode cX11_put 41 = .ok (.return_, 1) := by decide +kernel
theorem dX11_takeAway_0 : decode cX11_takeAway 0 = .ok (.iconst 0, 1) := by decide +kernel
theorem dX11_takeAway_1 : decode cX11_takeAway 1 = .ok (.istore 4, 2) := by decide +kernel
theorem dX11_takeAway_3 : decode cX11_takeAway 3 = .ok (.iload 4, 2) := by decide +kernel
theorem dX11_takeAway_5 : decode cX11_takeAway 5 = .ok (.bipush 16, 2) := by decide +kernel
theorem dX11_takeAway_7 : decode cX11_takeAway 7 = .ok (.if_icmp .ge 27, 3) := by decide +kernel
theorem dX11_takeAway_10 : decode cX11_takeAway 10 = .ok (.aload_n 0, 1) := by decide +kernel
theorem dX11_takeAway_11 : decode cX11_takeAway 11 = .ok (.bipush 16, 2) := by decide +kernel
theorem dX11_takeAway_13 : decode cX11_takeAway 13 = .ok (.iload_n 2, 1) := by decide +kernel
theorem dX11_takeAway_14 : decode cX11_takeAway 14 = .ok (.imul, 1) := by decide +kernel
theorem dX11_takeAway_15 : decode cX11_takeAway 15 = .ok (.iload 4, 2) := by decide +kernel
theorem dX11_takeAway_17 : decode cX11_takeAway 17 = .ok (.iadd, 1) := by decide +kernel
theorem dX11_takeAway_18 : decode cX11_takeAway 18 = .ok (.aload_n 0, 1) := by decide +kernel
theorem dX11_takeAway_19 : decode cX11_takeAway 19 = .ok (.bipush 16, 2) := by decide +kernel
theorem dX11_takeAway_21 : decode cX11_takeAway 21 = .ok (.iload_n 3, 1) := by decide +kernel
theorem dX11_takeAway_22 : decode cX11_takeAway 22 = .ok (.imul, 1) := by decide +kernel
theorem dX11_takeAway_23 : decode cX11_takeAway 23 = .ok (.iload 4, 2) := by decide +kernel
theorem dX11_takeAway_25 : decode cX11_takeAway 25 = .ok (.iadd, 1) := by decide +kernel
theorem dX11_takeAway_26 : decode cX11_takeAway 26 = .ok (.baload, 1) := by decide +kernel
theorem dX11_takeAway_27 : decode cX11_takeAway 27 = .ok (.bastore, 1) := by decide +kernel
theorem dX11_takeAway_28 : decode cX11_takeAway 28 = .ok (.iinc 4 1, 3) := by decide +kernel
theorem dX11_takeAway_31 : decode cX11_takeAway 31 = .ok (.goto (-28), 3) := by decide +kernel
theorem dX11_takeAway_34 : decode cX11_takeAway 34 = .ok (.aload_n 1, 1) := by decide +kernel
theorem dX11_takeAway_35 : decode cX11_takeAway 35 = .ok (.iload_n 2, 1) := by decide +kernel
theorem dX11_takeAway_36 : decode cX11_takeAway 36 = .ok (.aload_n 1, 1) := by decide +kernel
theorem dX11_takeAway_37 : decode cX11_takeAway 37 = .ok (.iload_n 3, 1) := by decide +kernel
theorem dX11_takeAway_38 : decode cX11_takeAway 38 = .ok (.iaload, 1) := by decide +kernel
theorem dX11_takeAway_39 : decode cX11_takeAway 39 = .ok (.iastore, 1) := by decide +kernel
theorem dX11_takeAway_40 : decode cX11_takeAway 40 = .ok (.return_, 1) := by decide +kernel
theorem dX11_stop_0 : decode cX11_stop 0 = .ok (.aload_n 0, 1) := by decide +kernel
theorem dX11_stop_1 : decode cX11_stop 1 = .ok (.bipush 16, 2) := by decide +kernel
theorem dX11_stop_3 : decode cX11_stop 3 = .ok (.invokevirtual 158, 3) := by decide +kernel
theorem dX11_stop_6 : decode cX11_stop 6 = .ok (.ifCond .ne 6, 3) := by decide +kernel
theorem dX11_stop_9 : decode cX11_stop 9 = .ok (.bipush (-2), 2) := by decide +kernel
theorem dX11_stop_11 : decode cX11_stop 11 = .ok (.ireturn, 1) := by decide +kernel
theorem dX11_stop_12 : decode cX11_stop 12 = .ok (.aload_n 0, 1) := by decide +kernel
theorem dX11_stop_13 : decode cX11_stop 13 = .ok (.getfield 16, 3) := by decide +kernel
theorem dX11_stop_16 : decode cX11_stop 16 = .ok (.aload_n 0, 1) := by decide +kernel
theorem dX11_stop_17 : decode cX11_stop 17 = .ok (.getfield 19, 3) := by decide +kernel
theorem dX11_stop_20 : decode cX11_stop 20 = .ok (.aload_n 0, 1) := by decide +kernel
theorem dX11_stop_21 : decode cX11_stop 21 = .ok (.getfield 161, 3) := by decide +kernel
theorem dX11_stop_24 : decode cX11_stop 24 = .ok (.aload_n 0, 1) := by decide +kernel
theorem dX11_stop_25 : decode cX11_stop 25 = .ok (.getfield 13, 3) := by decide +kernel
theorem dX11_stop_28 : decode cX11_stop 28 = .ok (.iconst 0, 1) := by decide +kernel
theorem dX11_stop_29 : decode cX11_stop 29 = .ok (.aload_n 0, 1) := by decide +kernel
theorem dX11_stop_30 : decode cX11_stop 30 = .ok (.getfield 151, 3) := by decide +kernel
theorem dX11_stop_33 : decode cX11_stop 33 = .ok (.invokestatic 164, 3) := by decide +kernel
theorem dX11_stop_36 : decode cX11_stop 36 = .ok (.istore_n 1, 1) := by decide +kernel
theorem dX11_stop_37 : decode cX11_stop 37 = .ok (.iload_n 1, 1) := by decide +kernel
theorem dX11_stop_38 : decode cX11_stop 38 = .ok (.iconst (-1), 1) := by decide +kernel
theorem dX11_stop_39 : decode cX11_stop 39 = .ok (.if_icmp .ne 15, 3) := by decide +kernel
theorem dX11_stop_42 : decode cX11_stop 42 = .ok (.aload_n 0, 1) := by decide +kernel
theorem dX11_stop_43 : decode cX11_stop 43 = .ok (.getfield 161, 3) := by decide +kernel
theorem dX11_stop_46 : decode cX11_stop 46 = .ok (.bipush 60, 2) := by decide +kernel
theorem dX11_stop_48 : decode cX11_stop 48 = .ok (.if_icmp .ne 6, 3) := by decide +kernel
theorem dX11_stop_51 : decode cX11_stop 51 = .ok (.bipush (-3), 2) := by decide +kernel
theorem dX11_stop_53 : decode cX11_stop 53 = .ok (.ireturn, 1) := by decide +kernel
theorem dX11_stop_54 : decode cX11_stop 54 = .ok (.iload_n 1, 1) := by decide +kernel
theorem dX11_stop_55 : decode cX11_stop 55 = .ok (.iconst (-1), 1) := by decide +kernel
theorem dX11_stop_56 : decode cX11_stop 56 = .ok (.if_icmp .ne 32, 3) := by decide +kernel
theorem dX11_stop_59 : decode cX11_stop 59 = .ok (.aload_n 0, 1) := by decide +kernel
theorem dX11_stop_60 : decode cX11_stop 60 = .ok (.aload_n 0, 1) := by decide +kernel
theorem dX11_stop_61 : decode cX11_stop 61 = .ok (.getfield 16, 3) := by decide +kernel
theorem dX11_stop_64 : decode cX11_stop 64 = .ok (.aload_n 0, 1) := by decide +kernel
theorem dX11_stop_65 : decode cX11_stop 65 = .ok (.getfield 19, 3) := by decide +kernel
theorem dX11_stop_68 : decode cX11_stop 68 = .ok (.aload_n 0, 1) := by decide +kernel
theorem dX11_stop_69 : decode cX11_stop 69 = .ok (.getfield 161, 3) := by decide +kernel
theorem dX11_stop_72 : decode cX11_stop 72 = .ok (.invokevirtual 168, 3) := by decide +kernel
theorem dX11_stop_75 : decode cX11_stop 75 = .ok (.aload_n 0, 1) := by decide +kernel
theorem dX11_stop_76 : decode cX11_stop 76 = .ok (.dup, 1) := by decide +kernel
theorem dX11_stop_77 : decode cX11_stop 77 = .ok (.getfield 161, 3) := by decide +kernel
theorem dX11_stop_80 : decode cX11_stop 80 = .ok (.iconst 1, 1) := by decide +kernel
theorem dX11_stop_81 : decode cX11_stop 81 = .ok (.iadd, 1) := by decide +kernel
theorem dX11_stop_82 : decode cX11_stop 82 = .ok (.putfield 161, 3) := by decide +kernel
theorem dX11_stop_85 : decode cX11_stop 85 = .ok (.goto 29, 3) := by decide +kernel
theorem dX11_stop_88 : decode cX11_stop 88 = .ok (.aload_n 0, 1) := by decide +kernel
theorem dX11_stop_89 : decode cX11_stop 89 = .ok (.dup, 1) := by decide +kernel
theorem dX11_stop_90 : decode cX11_stop 90 = .ok (.getfield 161, 3) := by decide +kernel
theorem dX11_stop_93 : decode cX11_stop 93 = .ok (.iconst 1, 1) := by decide +kernel
theorem dX11_stop_94 : decode cX11_stop 94 = .ok (.isub, 1) := by decide +kernel
theorem dX11_stop_95 : decode cX11_stop 95 = .ok (.putfield 161, 3) := by decide +kernel
theorem dX11_stop_98 : decode cX11_stop 98 = .ok (.aload_n 0, 1) := by decide +kernel
theorem dX11_stop_99 : decode cX11_stop 99 = .ok (.getfield 16, 3) := by decide +kernel
theorem dX11_stop_102 : decode cX11_stop 102 = .ok (.aload_n 0, 1) := by decide +kernel
theorem dX11_stop_103 : decode cX11_stop 103 = .ok (.getfield 19, 3) := by decide +kernel
theorem dX11_stop_106 : decode cX11_stop 106 = .ok (.iload_n 1, 1) := by decide +kernel
theorem dX11_stop_107 : decode cX11_stop 107 = .ok (.aload_n 0, 1) := by decide +kernel
theorem dX11_stop_108 : decode cX11_stop 108 = .ok (.getfield 161, 3) := by decide +kernel
theorem dX11_stop_111 : decode cX11_stop 111 = .ok (.invokestatic 172, 3) := by decide +kernel
theorem dX11_stop_114 : decode cX11_stop 114 = .ok (.aload_n 0, 1) := by decide +kernel
theorem dX11_stop_115 : decode cX11_stop 115 = .ok (.iconst 0, 1) := by decide +kernel
theorem dX11_stop_116 : decode cX11_stop 116 = .ok (.putfield 176, 3) := by decide +kernel
theorem dX11_stop_119 : decode cX11_stop 119 = .ok (.aload_n 0, 1) := by decide +kernel
theorem dX11_stop_120 : decode cX11_stop 120 = .ok (.getfield 161, 3) := by decide +kernel
theorem dX11_stop_123 : decode cX11_stop 123 = .ok (.ireturn, 1) := by decide +kernel
theorem dX11_sign_0 : decode cX11_sign 0 = .ok (.aload_n 0, 1) := by decide +kernel
theorem dX11_sign_1 : decode cX11_sign 1 = .ok (.bipush 16, 2) := by decide +kernel
theorem dX11_sign_3 : decode cX11_sign 3 = .ok (.invokevirtual 158, 3) := by decide +kernel
theorem dX11_sign_6 : decode cX11_sign 6 = .ok (.ifCond .eq 12, 3) := by decide +kernel
theorem dX11_sign_9 : decode cX11_sign 9 = .ok (.iload_n 1, 1) := by decide +kernel
theorem dX11_sign_10 : decode cX11_sign 10 = .ok (.iconst 0, 1) := by decide +kernel
theorem dX11_sign_11 : decode cX11_sign 11 = .ok (.iconst 4, 1) := by decide +kernel
theorem dX11_sign_12 : decode cX11_sign 12 = .ok (.invokestatic 139, 3) := by decide +kernel
theorem dX11_sign_15 : decode cX11_sign 15 = .ok (.ifCond .ne 6, 3) := by decide +kernel
theorem dX11_sign_18 : decode cX11_sign 18 = .ok (.bipush (-2), 2) := by decide +kernel
theorem dX11_sign_20 : decode cX11_sign 20 = .ok (.ireturn, 1) := by decide +kernel
theorem dX11_sign_21 : decode cX11_sign 21 = .ok (.aload_n 0, 1) := by decide +kernel
theorem dX11_sign_22 : decode cX11_sign 22 = .ok (.getfield 23, 3) := by decide +kernel
theorem dX11_sign_25 : decode cX11_sign 25 = .ok (.aload_n 0, 1) := by decide +kernel
theorem dX11_sign_26 : decode cX11_sign 26 = .ok (.getfield 26, 3) := by decide +kernel
theorem dX11_sign_29 : decode cX11_sign 29 = .ok (.aload_n 0, 1) := by decide +kernel
theorem dX11_sign_30 : decode cX11_sign 30 = .ok (.getfield 180, 3) := by decide +kernel
theorem dX11_sign_33 : decode cX11_sign 33 = .ok (.aload_n 0, 1) := by decide +kernel
theorem dX11_sign_34 : decode cX11_sign 34 = .ok (.getfield 13, 3) := by decide +kernel
theorem dX11_sign_37 : decode cX11_sign 37 = .ok (.iconst 0, 1) := by decide +kernel
theorem dX11_sign_38 : decode cX11_sign 38 = .ok (.aload_n 0, 1) := by decide +kernel
theorem dX11_sign_39 : decode cX11_sign 39 = .ok (.getfield 151, 3) := by decide +kernel
theorem dX11_sign_42 : decode cX11_sign 42 = .ok (.invokestatic 164, 3) := by decide +kernel
theorem dX11_sign_45 : decode cX11_sign 45 = .ok (.istore_n 2, 1) := by decide +kernel
theorem dX11_sign_46 : decode cX11_sign 46 = .ok (.iload_n 1, 1) := by decide +kernel
theorem dX11_sign_47 : decode cX11_sign 47 = .ok (.ifCond .ne 57, 3) := by decide +kernel
theorem dX11_sign_50 : decode cX11_sign 50 = .ok (.iload_n 2, 1) := by decide +kernel
theorem dX11_sign_51 : decode cX11_sign 51 = .ok (.iconst (-1), 1) := by decide +kernel
theorem dX11_sign_52 : decode cX11_sign 52 = .ok (.if_icmp .ne 8, 3) := by decide +kernel
theorem dX11_sign_55 : decode cX11_sign 55 = .ok (.aload_n 0, 1) := by decide +kernel
theorem dX11_sign_56 : decode cX11_sign 56 = .ok (.getfield 180, 3) := by decide +kernel
theorem dX11_sign_59 : decode cX11_sign 59 = .ok (.ireturn, 1) := by decide +kernel
theorem dX11_sign_60 : decode cX11_sign 60 = .ok (.aload_n 0, 1) := by decide +kernel
theorem dX11_sign_61 : decode cX11_sign 61 = .ok (.dup, 1) := by decide +kernel
theorem dX11_sign_62 : decode cX11_sign 62 = .ok (.getfield 180, 3) := by decide +kernel
theorem dX11_sign_65 : decode cX11_sign 65 = .ok (.iconst 1, 1) := by decide +kernel
theorem dX11_sign_66 : decode cX11_sign 66 = .ok (.isub, 1) := by decide +kernel
theorem dX11_sign_67 : decode cX11_sign 67 = .ok (.putfield 180, 3) := by decide +kernel
theorem dX11_sign_70 : decode cX11_sign 70 = .ok (.aload_n 0, 1) := by decide +kernel
theorem dX11_sign_71 : decode cX11_sign 71 = .ok (.getfield 23, 3) := by decide +kernel
theorem dX11_sign_74 : decode cX11_sign 74 = .ok (.aload_n 0, 1) := by decide +kernel
theorem dX11_sign_75 : decode cX11_sign 75 = .ok (.getfield 26, 3) := by decide +kernel
theorem dX11_sign_78 : decode cX11_sign 78 = .ok (.iload_n 2, 1) := by decide +kernel
theorem dX11_sign_79 : decode cX11_sign 79 = .ok (.aload_n 0, 1) := by decide +kernel
theorem dX11_sign_80 : decode cX11_sign 80 = .ok (.getfield 180, 3) := by decide +kernel
theorem dX11_sign_83 : decode cX11_sign 83 = .ok (.invokestatic 172, 3) := by decide +kernel
theorem dX11_sign_86 : decode cX11_sign 86 = .ok (.aload_n 0, 1) := by decide +kernel
theorem dX11_sign_87 : decode cX11_sign 87 = .ok (.getfield 29, 3) := by decide +kernel
theorem dX11_sign_90 : decode cX11_sign 90 = .ok (.iload_n 2, 1) := by decide +kernel
theorem dX11_sign_91 : decode cX11_sign 91 = .ok (.aload_n 0, 1) := by decide +kernel
theorem dX11_sign_92 : decode cX11_sign 92 = .ok (.getfield 29, 3) := by decide +kernel
theorem dX11_sign_95 : decode cX11_sign 95 = .ok (.aload_n 0, 1) := by decide +kernel
theorem dX11_sign_96 : decode cX11_sign 96 = .ok (.getfield 180, 3) := by decide +kernel
theorem dX11_sign_99 : decode cX11_sign 99 = .ok (.iaload, 1) := by decide +kernel
theorem dX11_sign_100 : decode cX11_sign 100 = .ok (.iastore, 1) := by decide +kernel
theorem dX11_sign_101 : decode cX11_sign 101 = .ok (.goto 60, 3) := by decide +kernel
theorem dX11_sign_104 : decode cX11_sign 104 = .ok (.iload_n 2, 1) := by decide +kernel
theorem dX11_sign_105 : decode cX11_sign 105 = .ok (.iconst (-1), 1) := by decide +kernel
theorem dX11_sign_106 : decode cX11_sign 106 = .ok (.if_icmp .ne 15, 3) := by decide +kernel
theorem dX11_sign_109 : decode cX11_sign 109 = .ok (.aload_n 0, 1) := by decide +kernel
theorem dX11_sign_110 : decode cX11_sign 110 = .ok (.getfield 180, 3) := by decide +kernel
theorem dX11_sign_113 : decode cX11_sign 113 = .ok (.bipush 30, 2) := by decide +kernel
theorem dX11_sign_115 : decode cX11_sign 115 = .ok (.if_icmp .ne 6, 3) := by decide +kernel
theorem dX11_sign_118 : decode cX11_sign 118 = .ok (.bipush (-3), 2) := by decide +kernel
theorem dX11_sign_120 : decode cX11_sign 120 = .ok (.ireturn, 1) := by decide +kernel
theorem dX11_sign_121 : decode cX11_sign 121 = .ok (.iload_n 2, 1) := by decide +kernel
theorem dX11_sign_122 : decode cX11_sign 122 = .ok (.iconst (-1), 1) := by decide +kernel
theorem dX11_sign_123 : decode cX11_sign 123 = .ok (.if_icmp .ne 31, 3) := by decide +kernel
theorem dX11_sign_126 : decode cX11_sign 126 = .ok (.aload_n 0, 1) := by decide +kernel
theorem dX11_sign_127 : decode cX11_sign 127 = .ok (.getfield 180, 3) := by decide +kernel
theorem dX11_sign_130 : decode cX11_sign 130 = .ok (.istore_n 2, 1) := by decide +kernel
theorem dX11_sign_131 : decode cX11_sign 131 = .ok (.aload_n 0, 1) := by decide +kernel
theorem dX11_sign_132 : decode cX11_sign 132 = .ok (.aload_n 0, 1) := by decide +kernel
theorem dX11_sign_133 : decode cX11_sign 133 = .ok (.getfield 23, 3) := by decide +kernel
theorem dX11_sign_136 : decode cX11_sign 136 = .ok (.aload_n 0, 1) := by decide +kernel
theorem dX11_sign_137 : decode cX11_sign 137 = .ok (.getfield 26, 3) := by decide +kernel
theorem dX11_sign_140 : decode cX11_sign 140 = .ok (.iload_n 2, 1) := by decide +kernel
theorem dX11_sign_141 : decode cX11_sign 141 = .ok (.invokevirtual 168, 3) := by decide +kernel
theorem dX11_sign_144 : decode cX11_sign 144 = .ok (.aload_n 0, 1) := by decide +kernel
theorem dX11_sign_145 : decode cX11_sign 145 = .ok (.dup, 1) := by decide +kernel
theorem dX11_sign_146 : decode cX11_sign 146 = .ok (.getfield 180, 3) := by decide +kernel
theorem dX11_sign_149 : decode cX11_sign 149 = .ok (.iconst 1, 1) := by decide +kernel
theorem dX11_sign_150 : decode cX11_sign 150 = .ok (.iadd, 1) := by decide +kernel
theorem dX11_sign_151 : decode cX11_sign 151 = .ok (.putfield 180, 3) := by decide +kernel
theorem dX11_sign_154 : decode cX11_sign 154 = .ok (.aload_n 0, 1) := by decide +kernel
theorem dX11_sign_155 : decode cX11_sign 155 = .ok (.getfield 29, 3) := by decide +kernel
theorem dX11_sign_158 : decode cX11_sign 158 = .ok (.iload_n 2, 1) := by decide +kernel
theorem dX11_sign_159 : decode cX11_sign 159 = .ok (.iload_n 1, 1) := by decide +kernel
theorem dX11_sign_160 : decode cX11_sign 160 = .ok (.iastore, 1) := by decide +kernel
theorem dX11_sign_161 : decode cX11_sign 161 = .ok (.aload_n 0, 1) := by decide +kernel
theorem dX11_sign_162 : decode cX11_sign 162 = .ok (.iconst 0, 1) := by decide +kernel
theorem dX11_sign_163 : decode cX11_sign 163 = .ok (.putfield 176, 3) := by decide +kernel
theorem dX11_sign_166 : decode cX11_sign 166 = .ok (.aload_n 0, 1) := by decide +kernel
theorem dX11_sign_167 : decode cX11_sign 167 = .ok (.getfield 180, 3) := by decide +kernel
theorem dX11_sign_170 : decode cX11_sign 170 = .ok (.ireturn, 1) := by decide +kernel
theorem dX11_ending_0 : decode cX11_ending 0 = .ok (.aload_n 0, 1) := by decide +kernel
theorem dX11_ending_1 : decode cX11_ending 1 = .ok (.bipush 6, 2) := by decide +kernel
theorem dX11_ending_3 : decode cX11_ending 3 = .ok (.invokevirtual 158, 3) := by decide +kernel
theorem dX11_ending_6 : decode cX11_ending 6 = .ok (.ifCond .ne 6, 3) := by decide +kernel
theorem dX11_ending_9 : decode cX11_ending 9 = .ok (.bipush (-2), 2) := by decide +kernel
theorem dX11_ending_11 : decode cX11_ending 11 = .ok (.ireturn, 1) := by decide +kernel
theorem dX11_ending_12 : decode cX11_ending 12 = .ok (.aload_n 0, 1) := by decide +kernel
theorem dX11_ending_13 : decode cX11_ending 13 = .ok (.getfield 32, 3) := by decide +kernel
theorem dX11_ending_16 : decode cX11_ending 16 = .ok (.aload_n 0, 1) := by decide +kernel
theorem dX11_ending_17 : decode cX11_ending 17 = .ok (.getfield 35, 3) := by decide +kernel
theorem dX11_ending_20 : decode cX11_ending 20 = .ok (.aload_n 0, 1) := by decide +kernel
theorem dX11_ending_21 : decode cX11_ending 21 = .ok (.getfield 183, 3) := by decide +kernel
theorem dX11_ending_24 : decode cX11_ending 24 = .ok (.aload_n 0, 1) := by decide +kernel
theorem dX11_ending_25 : decode cX11_ending 25 = .ok (.getfield 13, 3) := by decide +kernel
theorem dX11_ending_28 : decode cX11_ending 28 = .ok (.iconst 0, 1) := by decide +kernel
theorem dX11_ending_29 : decode cX11_ending 29 = .ok (.aload_n 0, 1) := by decide +kernel
theorem dX11_ending_30 : decode cX11_ending 30 = .ok (.getfield 151, 3) := by decide +kernel
theorem dX11_ending_33 : decode cX11_ending 33 = .ok (.invokestatic 164, 3) := by decide +kernel
theorem dX11_ending_36 : decode cX11_ending 36 = .ok (.istore_n 1, 1) := by decide +kernel
theorem dX11_ending_37 : decode cX11_ending 37 = .ok (.iload_n 1, 1) := by decide +kernel
theorem dX11_ending_38 : decode cX11_ending 38 = .ok (.iconst (-1), 1) := by decide +kernel
theorem dX11_ending_39 : decode cX11_ending 39 = .ok (.if_icmp .ne 15, 3) := by decide +kernel
theorem dX11_ending_42 : decode cX11_ending 42 = .ok (.aload_n 0, 1) := by decide +kernel
theorem dX11_ending_43 : decode cX11_ending 43 = .ok (.getfield 183, 3) := by decide +kernel
theorem dX11_ending_46 : decode cX11_ending 46 = .ok (.bipush 10, 2) := by decide +kernel
theorem dX11_ending_48 : decode cX11_ending 48 = .ok (.if_icmp .ne 6, 3) := by decide +kernel
theorem dX11_ending_51 : decode cX11_ending 51 = .ok (.bipush (-3), 2) := by decide +kernel
theorem dX11_ending_53 : decode cX11_ending 53 = .ok (.ireturn, 1) := by decide +kernel
theorem dX11_ending_54 : decode cX11_ending 54 = .ok (.iload_n 1, 1) := by decide +kernel
theorem dX11_ending_55 : decode cX11_ending 55 = .ok (.iconst (-1), 1) := by decide +kernel
theorem dX11_ending_56 : decode cX11_ending 56 = .ok (.if_icmp .ne 32, 3) := by decide +kernel
theorem dX11_ending_59 : decode cX11_ending 59 = .ok (.aload_n 0, 1) := by decide +kernel
theorem dX11_ending_60 : decode cX11_ending 60 = .ok (.aload_n 0, 1) := by decide +kernel
theorem dX11_ending_61 : decode cX11_ending 61 = .ok (.getfield 32, 3) := by decide +kernel
theorem dX11_ending_64 : decode cX11_ending 64 = .ok (.aload_n 0, 1) := by decide +kernel
theorem dX11_ending_65 : decode cX11_ending 65 = .ok (.getfield 35, 3) := by decide +kernel
theorem dX11_ending_68 : decode cX11_ending 68 = .ok (.aload_n 0, 1) := by decide +kernel
theorem dX11_ending_69 : decode cX11_ending 69 = .ok (.getfield 183, 3) := by decide +kernel
theorem dX11_ending_72 : decode cX11_ending 72 = .ok (.invokevirtual 168, 3) := by decide +kernel
theorem dX11_ending_75 : decode cX11_ending 75 = .ok (.aload_n 0, 1) := by decide +kernel
theorem dX11_ending_76 : decode cX11_ending 76 = .ok (.dup, 1) := by decide +kernel
theorem dX11_ending_77 : decode cX11_ending 77 = .ok (.getfield 183, 3) := by decide +kernel
theorem dX11_ending_80 : decode cX11_ending 80 = .ok (.iconst 1, 1) := by decide +kernel
theorem dX11_ending_81 : decode cX11_ending 81 = .ok (.iadd, 1) := by decide +kernel
theorem dX11_ending_82 : decode cX11_ending 82 = .ok (.putfield 183, 3) := by decide +kernel
theorem dX11_ending_85 : decode cX11_ending 85 = .ok (.goto 29, 3) := by decide +kernel
theorem dX11_ending_88 : decode cX11_ending 88 = .ok (.aload_n 0, 1) := by decide +kernel
theorem dX11_ending_89 : decode cX11_ending 89 = .ok (.dup, 1) := by decide +kernel
theorem dX11_ending_90 : decode cX11_ending 90 = .ok (.getfield 183, 3) := by decide +kernel
theorem dX11_ending_93 : decode cX11_ending 93 = .ok (.iconst 1, 1) := by decide +kernel
theorem dX11_ending_94 : decode cX11_ending 94 = .ok (.isub, 1) := by decide +kernel
theorem dX11_ending_95 : decode cX11_ending 95 = .ok (.putfield 183, 3) := by decide +kernel
theorem dX11_ending_98 : decode cX11_ending 98 = .ok (.aload_n 0, 1) := by decide +kernel
theorem dX11_ending_99 : decode cX11_ending 99 = .ok (.getfield 32, 3) := by decide +kernel
theorem dX11_ending_102 : decode cX11_ending 102 = .ok (.aload_n 0, 1) := by decide +kernel
theorem dX11_ending_103 : decode cX11_ending 103 = .ok (.getfield 35, 3) := by decide +kernel
theorem dX11_ending_106 : decode cX11_ending 106 = .ok (.iload_n 1, 1) := by decide +kernel
theorem dX11_ending_107 : decode cX11_ending 107 = .ok (.aload_n 0, 1) := by decide +kernel
theorem dX11_ending_108 : decode cX11_ending 108 = .ok (.getfield 183, 3) := by decide +kernel
theorem dX11_ending_111 : decode cX11_ending 111 = .ok (.invokestatic 172, 3) := by decide +kernel
theorem dX11_ending_114 : decode cX11_ending 114 = .ok (.aload_n 0, 1) := by decide +kernel
theorem dX11_ending_115 : decode cX11_ending 115 = .ok (.iconst 0, 1) := by decide +kernel
theorem dX11_ending_116 : decode cX11_ending 116 = .ok (.putfield 176, 3) := by decide +kernel
theorem dX11_ending_119 : decode cX11_ending 119 = .ok (.aload_n 0, 1) := by decide +kernel
theorem dX11_ending_120 : decode cX11_ending 120 = .ok (.getfield 183, 3) := by decide +kernel
theorem dX11_ending_123 : decode cX11_ending 123 = .ok (.ireturn, 1) := by decide +kernel
theorem dX11_weight_0 : decode cX11_weight 0 = .ok (.iload_n 1, 1) := by decide +kernel
theorem dX11_weight_1 : decode cX11_weight 1 = .ok (.iconst 0, 1) := by decide +kernel
theorem dX11_weight_2 : decode cX11_weight 2 = .ok (.iconst 3, 1) := by decide +kernel
theorem dX11_weight_3 : decode cX11_weight 3 = .ok (.invokestatic 139, 3) := by decide +kernel
theorem dX11_weight_6 : decode cX11_weight 6 = .ok (.ifCond .eq 13, 3) := by decide +kernel
theorem dX11_weight_9 : decode cX11_weight 9 = .ok (.iload_n 2, 1) := by decide +kernel
theorem dX11_weight_10 : decode cX11_weight 10 = .ok (.iconst 0, 1) := by decide +kernel
theorem dX11_weight_11 : decode cX11_weight 11 = .ok (.bipush 50, 2) := by decide +kernel
theorem dX11_weight_13 : decode cX11_weight 13 = .ok (.invokestatic 139, 3) := by decide +kernel
theorem dX11_weight_16 : decode cX11_weight 16 = .ok (.ifCond .ne 6, 3) := by decide +kernel
theorem dX11_weight_19 : decode cX11_weight 19 = .ok (.bipush (-2), 2) := by decide +kernel
theorem dX11_weight_21 : decode cX11_weight 21 = .ok (.ireturn, 1) := by decide +kernel
theorem dX11_weight_22 : decode cX11_weight 22 = .ok (.aload_n 0, 1) := by decide +kernel
theorem dX11_weight_23 : decode cX11_weight 23 = .ok (.getfield 38, 3) := by decide +kernel
theorem dX11_weight_26 : decode cX11_weight 26 = .ok (.iload_n 1, 1) := by decide +kernel
theorem dX11_weight_27 : decode cX11_weight 27 = .ok (.iaload, 1) := by decide +kernel
theorem dX11_weight_28 : decode cX11_weight 28 = .ok (.istore_n 3, 1) := by decide +kernel
theorem dX11_weight_29 : decode cX11_weight 29 = .ok (.aload_n 0, 1) := by decide +kernel
theorem dX11_weight_30 : decode cX11_weight 30 = .ok (.getfield 38, 3) := by decide +kernel
theorem dX11_weight_33 : decode cX11_weight 33 = .ok (.iload_n 1, 1) := by decide +kernel
theorem dX11_weight_34 : decode cX11_weight 34 = .ok (.iload_n 2, 1) := by decide +kernel
theorem dX11_weight_35 : decode cX11_weight 35 = .ok (.iastore, 1) := by decide +kernel
theorem dX11_weight_36 : decode cX11_weight 36 = .ok (.aload_n 0, 1) := by decide +kernel
theorem dX11_weight_37 : decode cX11_weight 37 = .ok (.iconst 0, 1) := by decide +kernel
theorem dX11_weight_38 : decode cX11_weight 38 = .ok (.putfield 176, 3) := by decide +kernel
theorem dX11_weight_41 : decode cX11_weight 41 = .ok (.iload_n 3, 1) := by decide +kernel
theorem dX11_weight_42 : decode cX11_weight 42 = .ok (.ireturn, 1) := by decide +kernel
theorem dX11_wrong_0 : decode cX11_wrong 0 = .ok (.aload_n 0, 1) := by decide +kernel
theorem dX11_wrong_1 : decode cX11_wrong 1 = .ok (.iload_n 1, 1) := by decide +kernel
theorem dX11_wrong_2 : decode cX11_wrong 2 = .ok (.putfield 186, 3) := by decide +kernel
theorem dX11_wrong_5 : decode cX11_wrong 5 = .ok (.aload_n 0, 1) := by decide +kernel
theorem dX11_wrong_6 : decode cX11_wrong 6 = .ok (.iload_n 2, 1) := by decide +kernel
theorem dX11_wrong_7 : decode cX11_wrong 7 = .ok (.putfield 68, 3) := by decide +kernel
theorem dX11_wrong_10 : decode cX11_wrong 10 = .ok (.iconst (-1), 1) := by decide +kernel
theorem dX11_wrong_11 : decode cX11_wrong 11 = .ok (.ireturn, 1) := by decide +kernel
theorem dX11_reads_0 : decode cX11_reads 0 = .ok (.iconst 0, 1) := by decide +kernel
theorem dX11_reads_1 : decode cX11_reads 1 = .ok (.istore_n 2, 1) := by decide +kernel
theorem dX11_reads_2 : decode cX11_reads 2 = .ok (.iconst 0, 1) := by decide +kernel
theorem dX11_reads_3 : decode cX11_reads 3 = .ok (.istore_n 3, 1) := by decide +kernel
theorem dX11_reads_4 : decode cX11_reads 4 = .ok (.iconst 0, 1) := by decide +kernel
theorem dX11_reads_5 : decode cX11_reads 5 = .ok (.istore 4, 2) := by decide +kernel
theorem dX11_reads_7 : decode cX11_reads 7 = .ok (.iconst 0, 1) := by decide +kernel
theorem dX11_reads_8 : decode cX11_reads 8 = .ok (.istore 5, 2) := by decide +kernel
theorem dX11_reads_10 : decode cX11_reads 10 = .ok (.iconst 0, 1) := by decide +kernel
theorem dX11_reads_11 : decode cX11_reads 11 = .ok (.istore 6, 2) := by decide +kernel
theorem dX11_reads_13 : decode cX11_reads 13 = .ok (.iconst 0, 1) := by decide +kernel
theorem dX11_reads_14 : decode cX11_reads 14 = .ok (.istore 7, 2) := by decide +kernel
theorem dX11_reads_16 : decode cX11_reads 16 = .ok (.iload 7, 2) := by decide +kernel
theorem dX11_reads_18 : decode cX11_reads 18 = .ok (.iload_n 1, 1) := by decide +kernel
theorem dX11_reads_19 : decode cX11_reads 19 = .ok (.if_icmp .ge 300, 3) := by decide +kernel
theorem dX11_reads_22 : decode cX11_reads 22 = .ok (.aload_n 0, 1) := by decide +kernel
theorem dX11_reads_23 : decode cX11_reads 23 = .ok (.getfield 7, 3) := by decide +kernel
theorem dX11_reads_26 : decode cX11_reads 26 = .ok (.iload 7, 2) := by decide +kernel
theorem dX11_reads_28 : decode cX11_reads 28 = .ok (.baload, 1) := by decide +kernel
theorem dX11_reads_29 : decode cX11_reads 29 = .ok (.istore 8, 2) := by decide +kernel
theorem dX11_reads_31 : decode cX11_reads 31 = .ok (.iload 8, 2) := by decide +kernel
theorem dX11_reads_33 : decode cX11_reads 33 = .ok (.invokestatic 143, 3) := by decide +kernel
theorem dX11_reads_36 : decode cX11_reads 36 = .ok (.ifCond .eq 154, 3) := by decide +kernel
theorem dX11_reads_39 : decode cX11_reads 39 = .ok (.iload_n 3, 1) := by decide +kernel
theorem dX11_reads_40 : decode cX11_reads 40 = .ok (.ifCond .ne 17, 3) := by decide +kernel
theorem dX11_reads_43 : decode cX11_reads 43 = .ok (.iload_n 2, 1) := by decide +kernel
theorem dX11_reads_44 : decode cX11_reads 44 = .ok (.bipush 24, 2) := by decide +kernel
theorem dX11_reads_46 : decode cX11_reads 46 = .ok (.if_icmp .ne 11, 3) := by decide +kernel
theorem dX11_reads_49 : decode cX11_reads 49 = .ok (.aload_n 0, 1) := by decide +kernel
theorem dX11_reads_50 : decode cX11_reads 50 = .ok (.iconst 4, 1) := by decide +kernel
theorem dX11_reads_51 : decode cX11_reads 51 = .ok (.iload 7, 2) := by decide +kernel
theorem dX11_reads_53 : decode cX11_reads 53 = .ok (.invokevirtual 189, 3) := by decide +kernel
theorem dX11_reads_56 : decode cX11_reads 56 = .ok (.ireturn, 1) := by decide +kernel
theorem dX11_reads_57 : decode cX11_reads 57 = .ok (.iload_n 3, 1) := by decide +kernel
theorem dX11_reads_58 : decode cX11_reads 58 = .ok (.bipush 40, 2) := by decide +kernel
theorem dX11_reads_60 : decode cX11_reads 60 = .ok (.if_icmp .ne 11, 3) := by decide +kernel
theorem dX11_reads_63 : decode cX11_reads 63 = .ok (.aload_n 0, 1) := by decide +kernel
theorem dX11_reads_64 : decode cX11_reads 64 = .ok (.iconst 3, 1) := by decide +kernel
theorem dX11_reads_65 : decode cX11_reads 65 = .ok (.iload 7, 2) := by decide +kernel
theorem dX11_reads_67 : decode cX11_reads 67 = .ok (.invokevirtual 189, 3) := by decide +kernel
theorem dX11_reads_70 : decode cX11_reads 70 = .ok (.ireturn, 1) := by decide +kernel
theorem dX11_reads_71 : decode cX11_reads 71 = .ok (.iload_n 3, 1) := by decide +kernel
theorem dX11_reads_72 : decode cX11_reads 72 = .ok (.ifCond .ne 22, 3) := by decide +kernel
theorem dX11_reads_75 : decode cX11_reads 75 = .ok (.iload 6, 2) := by decide +kernel
theorem dX11_reads_77 : decode cX11_reads 77 = .ok (.ifCond .eq 6, 3) := by decide +kernel
theorem dX11_reads_80 : decode cX11_reads 80 = .ok (.iinc 4 1, 3) := by decide +kernel
theorem dX11_reads_83 : decode cX11_reads 83 = .ok (.iconst 0, 1) := by decide +kernel
theorem dX11_reads_84 : decode cX11_reads 84 = .ok (.istore 6, 2) := by decide +kernel
theorem dX11_reads_86 : decode cX11_reads 86 = .ok (.aload_n 0, 1) := by decide +kernel
theorem dX11_reads_87 : decode cX11_reads 87 = .ok (.getfield 59, 3) := by decide +kernel
theorem dX11_reads_90 : decode cX11_reads 90 = .ok (.iload_n 2, 1) := by decide +kernel
theorem dX11_reads_91 : decode cX11_reads 91 = .ok (.iload 4, 2) := by decide +kernel
theorem dX11_reads_93 : decode cX11_reads 93 = .ok (.iastore, 1) := by decide +kernel
theorem dX11_reads_94 : decode cX11_reads 94 = .ok (.bipush 40, 2) := by decide +kernel
theorem dX11_reads_96 : decode cX11_reads 96 = .ok (.iload_n 2, 1) := by decide +kernel
theorem dX11_reads_97 : decode cX11_reads 97 = .ok (.imul, 1) := by decide +kernel
theorem dX11_reads_98 : decode cX11_reads 98 = .ok (.iload_n 3, 1) := by decide +kernel
theorem dX11_reads_99 : decode cX11_reads 99 = .ok (.iadd, 1) := by decide +kernel
theorem dX11_reads_100 : decode cX11_reads 100 = .ok (.istore 9, 2) := by decide +kernel
theorem dX11_reads_102 : decode cX11_reads 102 = .ok (.iconst 0, 1) := by decide +kernel
theorem dX11_reads_103 : decode cX11_reads 103 = .ok (.istore 10, 2) := by decide +kernel
theorem dX11_reads_105 : decode cX11_reads 105 = .ok (.iload 7, 2) := by decide +kernel
theorem dX11_reads_107 : decode cX11_reads 107 = .ok (.iload_n 1, 1) := by decide +kernel
theorem dX11_reads_108 : decode cX11_reads 108 = .ok (.if_icmp .ge 64, 3) := by decide +kernel
theorem dX11_reads_111 : decode cX11_reads 111 = .ok (.aload_n 0, 1) := by decide +kernel
theorem dX11_reads_112 : decode cX11_reads 112 = .ok (.getfield 7, 3) := by decide +kernel
theorem dX11_reads_115 : decode cX11_reads 115 = .ok (.iload 7, 2) := by decide +kernel
theorem dX11_reads_117 : decode cX11_reads 117 = .ok (.baload, 1) := by decide +kernel
theorem dX11_reads_118 : decode cX11_reads 118 = .ok (.invokestatic 143, 3) := by decide +kernel
theorem dX11_reads_121 : decode cX11_reads 121 = .ok (.ifCond .eq 51, 3) := by decide +kernel
theorem dX11_reads_124 : decode cX11_reads 124 = .ok (.iload 10, 2) := by decide +kernel
theorem dX11_reads_126 : decode cX11_reads 126 = .ok (.bipush 16, 2) := by decide +kernel
theorem dX11_reads_128 : decode cX11_reads 128 = .ok (.if_icmp .ne 11, 3) := by decide +kernel
theorem dX11_reads_131 : decode cX11_reads 131 = .ok (.aload_n 0, 1) := by decide +kernel
theorem dX11_reads_132 : decode cX11_reads 132 = .ok (.iconst 2, 1) := by decide +kernel
theorem dX11_reads_133 : decode cX11_reads 133 = .ok (.iload 7, 2) := by decide +kernel
theorem dX11_reads_135 : decode cX11_reads 135 = .ok (.invokevirtual 189, 3) := by decide +kernel
theorem dX11_reads_138 : decode cX11_reads 138 = .ok (.ireturn, 1) := by decide +kernel
theorem dX11_reads_139 : decode cX11_reads 139 = .ok (.aload_n 0, 1) := by decide +kernel
theorem dX11_reads_140 : decode cX11_reads 140 = .ok (.getfield 50, 3) := by decide +kernel
theorem dX11_reads_143 : decode cX11_reads 143 = .ok (.bipush 16, 2) := by decide +kernel
theorem dX11_reads_145 : decode cX11_reads 145 = .ok (.iload 9, 2) := by decide +kernel
theorem dX11_reads_147 : decode cX11_reads 147 = .ok (.imul, 1) := by decide +kernel
theorem dX11_reads_148 : decode cX11_reads 148 = .ok (.iload 10, 2) := by decide +kernel
theorem dX11_reads_150 : decode cX11_reads 150 = .ok (.iadd, 1) := by decide +kernel
theorem dX11_reads_151 : decode cX11_reads 151 = .ok (.aload_n 0, 1) := by decide +kernel
theorem dX11_reads_152 : decode cX11_reads 152 = .ok (.getfield 7, 3) := by decide +kernel
theorem dX11_reads_155 : decode cX11_reads 155 = .ok (.iload 7, 2) := by decide +kernel
theorem dX11_reads_157 : decode cX11_reads 157 = .ok (.baload, 1) := by decide +kernel
theorem dX11_reads_158 : decode cX11_reads 158 = .ok (.invokestatic 147, 3) := by decide +kernel
theorem dX11_reads_161 : decode cX11_reads 161 = .ok (.i2b, 1) := by decide +kernel
theorem dX11_reads_162 : decode cX11_reads 162 = .ok (.bastore, 1) := by decide +kernel
theorem dX11_reads_163 : decode cX11_reads 163 = .ok (.iinc 10 1, 3) := by decide +kernel
theorem dX11_reads_166 : decode cX11_reads 166 = .ok (.iinc 7 1, 3) := by decide +kernel
theorem dX11_reads_169 : decode cX11_reads 169 = .ok (.goto (-64), 3) := by decide +kernel
theorem dX11_reads_172 : decode cX11_reads 172 = .ok (.aload_n 0, 1) := by decide +kernel
theorem dX11_reads_173 : decode cX11_reads 173 = .ok (.getfield 53, 3) := by decide +kernel
theorem dX11_reads_176 : decode cX11_reads 176 = .ok (.iload 9, 2) := by decide +kernel
theorem dX11_reads_178 : decode cX11_reads 178 = .ok (.iload 10, 2) := by decide +kernel
theorem dX11_reads_180 : decode cX11_reads 180 = .ok (.iastore, 1) := by decide +kernel
theorem dX11_reads_181 : decode cX11_reads 181 = .ok (.iinc 3 1, 3) := by decide +kernel
theorem dX11_reads_184 : decode cX11_reads 184 = .ok (.iconst 0, 1) := by decide +kernel
theorem dX11_reads_185 : decode cX11_reads 185 = .ok (.istore 5, 2) := by decide +kernel
theorem dX11_reads_187 : decode cX11_reads 187 = .ok (.goto (-171), 3) := by decide +kernel
theorem dX11_reads_190 : decode cX11_reads 190 = .ok (.iload 8, 2) := by decide +kernel
theorem dX11_reads_192 : decode cX11_reads 192 = .ok (.bipush 46, 2) := by decide +kernel
theorem dX11_reads_194 : decode cX11_reads 194 = .ok (.if_icmp .eq 17, 3) := by decide +kernel
theorem dX11_reads_197 : decode cX11_reads 197 = .ok (.iload 8, 2) := by decide +kernel
theorem dX11_reads_199 : decode cX11_reads 199 = .ok (.bipush 33, 2) := by decide +kernel
theorem dX11_reads_201 : decode cX11_reads 201 = .ok (.if_icmp .eq 10, 3) := by decide +kernel
theorem dX11_reads_204 : decode cX11_reads 204 = .ok (.iload 8, 2) := by decide +kernel
theorem dX11_reads_206 : decode cX11_reads 206 = .ok (.bipush 63, 2) := by decide +kernel
theorem dX11_reads_208 : decode cX11_reads 208 = .ok (.if_icmp .ne 33, 3) := by decide +kernel
theorem dX11_reads_211 : decode cX11_reads 211 = .ok (.iload_n 3, 1) := by decide +kernel
theorem dX11_reads_212 : decode cX11_reads 212 = .ok (.ifCond .ne 11, 3) := by decide +kernel
theorem dX11_reads_215 : decode cX11_reads 215 = .ok (.aload_n 0, 1) := by decide +kernel
theorem dX11_reads_216 : decode cX11_reads 216 = .ok (.iconst 5, 1) := by decide +kernel
theorem dX11_reads_217 : decode cX11_reads 217 = .ok (.iload 7, 2) := by decide +kernel
theorem dX11_reads_219 : decode cX11_reads 219 = .ok (.invokevirtual 189, 3) := by decide +kernel
theorem dX11_reads_222 : decode cX11_reads 222 = .ok (.ireturn, 1) := by decide +kernel
theorem dX11_reads_223 : decode cX11_reads 223 = .ok (.aload_n 0, 1) := by decide +kernel
theorem dX11_reads_224 : decode cX11_reads 224 = .ok (.getfield 56, 3) := by decide +kernel
theorem dX11_reads_227 : decode cX11_reads 227 = .ok (.iload_n 2, 1) := by decide +kernel
theorem dX11_reads_228 : decode cX11_reads 228 = .ok (.iload_n 3, 1) := by decide +kernel
theorem dX11_reads_229 : decode cX11_reads 229 = .ok (.iastore, 1) := by decide +kernel
theorem dX11_reads_230 : decode cX11_reads 230 = .ok (.iinc 2 1, 3) := by decide +kernel
theorem dX11_reads_233 : decode cX11_reads 233 = .ok (.iconst 0, 1) := by decide +kernel
theorem dX11_reads_234 : decode cX11_reads 234 = .ok (.istore_n 3, 1) := by decide +kernel
theorem dX11_reads_235 : decode cX11_reads 235 = .ok (.iconst 0, 1) := by decide +kernel
theorem dX11_reads_236 : decode cX11_reads 236 = .ok (.istore 5, 2) := by decide +kernel
theorem dX11_reads_238 : decode cX11_reads 238 = .ok (.goto 75, 3) := by decide +kernel
theorem dX11_reads_241 : decode cX11_reads 241 = .ok (.iload 8, 2) := by decide +kernel
theorem dX11_reads_243 : decode cX11_reads 243 = .ok (.bipush 10, 2) := by decide +kernel
theorem dX11_reads_245 : decode cX11_reads 245 = .ok (.if_icmp .ne 26, 3) := by decide +kernel
theorem dX11_reads_248 : decode cX11_reads 248 = .ok (.iinc 5 1, 3) := by decide +kernel
theorem dX11_reads_251 : decode cX11_reads 251 = .ok (.iload 5, 2) := by decide +kernel
theorem dX11_reads_253 : decode cX11_reads 253 = .ok (.iconst 2, 1) := by decide +kernel
theorem dX11_reads_254 : decode cX11_reads 254 = .ok (.if_icmp .lt 59, 3) := by decide +kernel
theorem dX11_reads_257 : decode cX11_reads 257 = .ok (.iload_n 3, 1) := by decide +kernel
theorem dX11_reads_258 : decode cX11_reads 258 = .ok (.ifCond .ne 55, 3) := by decide +kernel
theorem dX11_reads_261 : decode cX11_reads 261 = .ok (.iload_n 2, 1) := by decide +kernel
theorem dX11_reads_262 : decode cX11_reads 262 = .ok (.ifCond .le 51, 3) := by decide +kernel
theorem dX11_reads_265 : decode cX11_reads 265 = .ok (.iconst 1, 1) := by decide +kernel
theorem dX11_reads_266 : decode cX11_reads 266 = .ok (.istore 6, 2) := by decide +kernel
theorem dX11_reads_268 : decode cX11_reads 268 = .ok (.goto 45, 3) := by decide +kernel
theorem dX11_reads_271 : decode cX11_reads 271 = .ok (.iload 8, 2) := by decide +kernel
theorem dX11_reads_273 : decode cX11_reads 273 = .ok (.bipush 44, 2) := by decide +kernel
theorem dX11_reads_275 : decode cX11_reads 275 = .ok (.if_icmp .eq 17, 3) := by decide +kernel
theorem dX11_reads_278 : decode cX11_reads 278 = .ok (.iload 8, 2) := by decide +kernel
theorem dX11_reads_280 : decode cX11_reads 280 = .ok (.bipush 59, 2) := by decide +kernel
theorem dX11_reads_282 : decode cX11_reads 282 = .ok (.if_icmp .eq 10, 3) := by decide +kernel
theorem dX11_reads_285 : decode cX11_reads 285 = .ok (.iload 8, 2) := by decide +kernel
theorem dX11_reads_287 : decode cX11_reads 287 = .ok (.bipush 58, 2) := by decide +kernel
theorem dX11_reads_289 : decode cX11_reads 289 = .ok (.if_icmp .ne 9, 3) := by decide +kernel
theorem dX11_reads_292 : decode cX11_reads 292 = .ok (.iconst 0, 1) := by decide +kernel
theorem dX11_reads_293 : decode cX11_reads 293 = .ok (.istore 5, 2) := by decide +kernel
theorem dX11_reads_295 : decode cX11_reads 295 = .ok (.goto 18, 3) := by decide +kernel
theorem dX11_reads_298 : decode cX11_reads 298 = .ok (.iload 8, 2) := by decide +kernel
theorem dX11_reads_300 : decode cX11_reads 300 = .ok (.bipush 32, 2) := by decide +kernel
theorem dX11_reads_302 : decode cX11_reads 302 = .ok (.if_icmp .eq 11, 3) := by decide +kernel
theorem dX11_reads_305 : decode cX11_reads 305 = .ok (.aload_n 0, 1) := by decide +kernel
theorem dX11_reads_306 : decode cX11_reads 306 = .ok (.iconst 1, 1) := by decide +kernel
theorem dX11_reads_307 : decode cX11_reads 307 = .ok (.iload 7, 2) := by decide +kernel
theorem dX11_reads_309 : decode cX11_reads 309 = .ok (.invokevirtual 189, 3) := by decide +kernel
theorem dX11_reads_312 : decode cX11_reads 312 = .ok (.ireturn, 1) := by decide +kernel
theorem dX11_reads_313 : decode cX11_reads 313 = .ok (.iinc 7 1, 3) := by decide +kernel
theorem dX11_reads_316 : decode cX11_reads 316 = .ok (.goto (-300), 3) := by decide +kernel
theorem dX11_reads_319 : decode cX11_reads 319 = .ok (.iload_n 3, 1) := by decide +kernel
theorem dX11_reads_320 : decode cX11_reads 320 = .ok (.ifCond .gt 7, 3) := by decide +kernel
theorem dX11_reads_323 : decode cX11_reads 323 = .ok (.iload_n 2, 1) := by decide +kernel
theorem dX11_reads_324 : decode cX11_reads 324 = .ok (.ifCond .ne 13, 3) := by decide +kernel
theorem dX11_reads_327 : decode cX11_reads 327 = .ok (.aload_n 0, 1) := by decide +kernel
theorem dX11_reads_328 : decode cX11_reads 328 = .ok (.bipush 6, 2) := by decide +kernel
theorem dX11_reads_330 : decode cX11_reads 330 = .ok (.iload_n 1, 1) := by decide +kernel
theorem dX11_reads_331 : decode cX11_reads 331 = .ok (.invokevirtual 189, 3) := by decide +kernel
theorem dX11_reads_334 : decode cX11_reads 334 = .ok (.goto 4, 3) := by decide +kernel
theorem dX11_reads_337 : decode cX11_reads 337 = .ok (.iload_n 2, 1) := by decide +kernel
theorem dX11_reads_338 : decode cX11_reads 338 = .ok (.ireturn, 1) := by decide +kernel
theorem dX11_read_0 : decode cX11_read 0 = .ok (.aload_n 0, 1) := by decide +kernel
theorem dX11_read_1 : decode cX11_read 1 = .ok (.getfield 136, 3) := by decide +kernel
theorem dX11_read_4 : decode cX11_read 4 = .ok (.istore_n 1, 1) := by decide +kernel
theorem dX11_read_5 : decode cX11_read 5 = .ok (.aload_n 0, 1) := by decide +kernel
theorem dX11_read_6 : decode cX11_read 6 = .ok (.iconst 0, 1) := by decide +kernel
theorem dX11_read_7 : decode cX11_read 7 = .ok (.putfield 136, 3) := by decide +kernel
theorem dX11_read_10 : decode cX11_read 10 = .ok (.aload_n 0, 1) := by decide +kernel
theorem dX11_read_11 : decode cX11_read 11 = .ok (.iconst 0, 1) := by decide +kernel
end
section
theorem dX11_read_12 : decode cX11_read 12 = .ok (.putfield 186, 3) := by decide +kernel
theorem dX11_read_15 : decode cX11_read 15 = .ok (.aload_n 0, 1) := by decide +kernel
theorem dX11_read_16 : decode cX11_read 16 = .ok (.iconst (-1), 1) := by decide +kernel
theorem dX11_read_17 : decode cX11_read 17 = .ok (.putfield 68, 3) := by decide +kernel
theorem dX11_read_20 : decode cX11_read 20 = .ok (.aload_n 0, 1) := by decide +kernel
theorem dX11_read_21 : decode cX11_read 21 = .ok (.iload_n 1, 1) := by decide +kernel
theorem dX11_read_22 : decode cX11_read 22 = .ok (.invokevirtual 193, 3) := by decide +kernel
theorem dX11_read_25 : decode cX11_read 25 = .ok (.istore_n 2, 1) := by decide +kernel
theorem dX11_read_26 : decode cX11_read 26 = .ok (.iload_n 2, 1) := by decide +kernel
theorem dX11_read_27 : decode cX11_read 27 = .ok (.iconst (-1), 1) := by decide +kernel
theorem dX11_read_28 : decode cX11_read 28 = .ok (.if_icmp .ne 5, 3) := by decide +kernel
theorem dX11_read_31 : decode cX11_read 31 = .ok (.iconst (-1), 1) := by decide +kernel
theorem dX11_read_32 : decode cX11_read 32 = .ok (.ireturn, 1) := by decide +kernel
theorem dX11_read_33 : decode cX11_read 33 = .ok (.aload_n 0, 1) := by decide +kernel
theorem dX11_read_34 : decode cX11_read 34 = .ok (.iload_n 2, 1) := by decide +kernel
theorem dX11_read_35 : decode cX11_read 35 = .ok (.putfield 196, 3) := by decide +kernel
theorem dX11_read_38 : decode cX11_read 38 = .ok (.aload_n 0, 1) := by decide +kernel
theorem dX11_read_39 : decode cX11_read 39 = .ok (.iconst 0, 1) := by decide +kernel
theorem dX11_read_40 : decode cX11_read 40 = .ok (.putfield 199, 3) := by decide +kernel
theorem dX11_read_43 : decode cX11_read 43 = .ok (.iconst 0, 1) := by decide +kernel
theorem dX11_read_44 : decode cX11_read 44 = .ok (.istore_n 3, 1) := by decide +kernel
theorem dX11_read_45 : decode cX11_read 45 = .ok (.iload_n 3, 1) := by decide +kernel
theorem dX11_read_46 : decode cX11_read 46 = .ok (.aload_n 0, 1) := by decide +kernel
theorem dX11_read_47 : decode cX11_read 47 = .ok (.getfield 196, 3) := by decide +kernel
theorem dX11_read_50 : decode cX11_read 50 = .ok (.if_icmp .ge 129, 3) := by decide +kernel
theorem dX11_read_53 : decode cX11_read 53 = .ok (.aload_n 0, 1) := by decide +kernel
theorem dX11_read_54 : decode cX11_read 54 = .ok (.getfield 47, 3) := by decide +kernel
theorem dX11_read_57 : decode cX11_read 57 = .ok (.iload_n 3, 1) := by decide +kernel
theorem dX11_read_58 : decode cX11_read 58 = .ok (.aload_n 0, 1) := by decide +kernel
theorem dX11_read_59 : decode cX11_read 59 = .ok (.getfield 56, 3) := by decide +kernel
theorem dX11_read_62 : decode cX11_read 62 = .ok (.iload_n 3, 1) := by decide +kernel
theorem dX11_read_63 : decode cX11_read 63 = .ok (.iaload, 1) := by decide +kernel
theorem dX11_read_64 : decode cX11_read 64 = .ok (.iastore, 1) := by decide +kernel
theorem dX11_read_65 : decode cX11_read 65 = .ok (.aload_n 0, 1) := by decide +kernel
theorem dX11_read_66 : decode cX11_read 66 = .ok (.getfield 62, 3) := by decide +kernel
theorem dX11_read_69 : decode cX11_read 69 = .ok (.iload_n 3, 1) := by decide +kernel
theorem dX11_read_70 : decode cX11_read 70 = .ok (.aload_n 0, 1) := by decide +kernel
theorem dX11_read_71 : decode cX11_read 71 = .ok (.getfield 59, 3) := by decide +kernel
theorem dX11_read_74 : decode cX11_read 74 = .ok (.iload_n 3, 1) := by decide +kernel
theorem dX11_read_75 : decode cX11_read 75 = .ok (.iaload, 1) := by decide +kernel
theorem dX11_read_76 : decode cX11_read 76 = .ok (.iastore, 1) := by decide +kernel
theorem dX11_read_77 : decode cX11_read 77 = .ok (.aload_n 0, 1) := by decide +kernel
theorem dX11_read_78 : decode cX11_read 78 = .ok (.getfield 65, 3) := by decide +kernel
theorem dX11_read_81 : decode cX11_read 81 = .ok (.iload_n 3, 1) := by decide +kernel
theorem dX11_read_82 : decode cX11_read 82 = .ok (.iload_n 3, 1) := by decide +kernel
theorem dX11_read_83 : decode cX11_read 83 = .ok (.iastore, 1) := by decide +kernel
theorem dX11_read_84 : decode cX11_read 84 = .ok (.bipush 40, 2) := by decide +kernel
theorem dX11_read_86 : decode cX11_read 86 = .ok (.iload_n 3, 1) := by decide +kernel
theorem dX11_read_87 : decode cX11_read 87 = .ok (.imul, 1) := by decide +kernel
theorem dX11_read_88 : decode cX11_read 88 = .ok (.istore 4, 2) := by decide +kernel
theorem dX11_read_90 : decode cX11_read 90 = .ok (.iload 4, 2) := by decide +kernel
theorem dX11_read_92 : decode cX11_read 92 = .ok (.bipush 40, 2) := by decide +kernel
theorem dX11_read_94 : decode cX11_read 94 = .ok (.iload_n 3, 1) := by decide +kernel
theorem dX11_read_95 : decode cX11_read 95 = .ok (.imul, 1) := by decide +kernel
theorem dX11_read_96 : decode cX11_read 96 = .ok (.aload_n 0, 1) := by decide +kernel
theorem dX11_read_97 : decode cX11_read 97 = .ok (.getfield 47, 3) := by decide +kernel
theorem dX11_read_100 : decode cX11_read 100 = .ok (.iload_n 3, 1) := by decide +kernel
theorem dX11_read_101 : decode cX11_read 101 = .ok (.iaload, 1) := by decide +kernel
theorem dX11_read_102 : decode cX11_read 102 = .ok (.iadd, 1) := by decide +kernel
theorem dX11_read_103 : decode cX11_read 103 = .ok (.if_icmp .ge 70, 3) := by decide +kernel
theorem dX11_read_106 : decode cX11_read 106 = .ok (.aload_n 0, 1) := by decide +kernel
theorem dX11_read_107 : decode cX11_read 107 = .ok (.getfield 44, 3) := by decide +kernel
theorem dX11_read_110 : decode cX11_read 110 = .ok (.iload 4, 2) := by decide +kernel
theorem dX11_read_112 : decode cX11_read 112 = .ok (.aload_n 0, 1) := by decide +kernel
theorem dX11_read_113 : decode cX11_read 113 = .ok (.getfield 53, 3) := by decide +kernel
theorem dX11_read_116 : decode cX11_read 116 = .ok (.iload 4, 2) := by decide +kernel
theorem dX11_read_118 : decode cX11_read 118 = .ok (.iaload, 1) := by decide +kernel
theorem dX11_read_119 : decode cX11_read 119 = .ok (.iastore, 1) := by decide +kernel
theorem dX11_read_120 : decode cX11_read 120 = .ok (.iconst 0, 1) := by decide +kernel
theorem dX11_read_121 : decode cX11_read 121 = .ok (.istore 5, 2) := by decide +kernel
theorem dX11_read_123 : decode cX11_read 123 = .ok (.iload 5, 2) := by decide +kernel
theorem dX11_read_125 : decode cX11_read 125 = .ok (.aload_n 0, 1) := by decide +kernel
theorem dX11_read_126 : decode cX11_read 126 = .ok (.getfield 44, 3) := by decide +kernel
theorem dX11_read_129 : decode cX11_read 129 = .ok (.iload 4, 2) := by decide +kernel
theorem dX11_read_131 : decode cX11_read 131 = .ok (.iaload, 1) := by decide +kernel
theorem dX11_read_132 : decode cX11_read 132 = .ok (.if_icmp .ge 35, 3) := by decide +kernel
theorem dX11_read_135 : decode cX11_read 135 = .ok (.aload_n 0, 1) := by decide +kernel
theorem dX11_read_136 : decode cX11_read 136 = .ok (.getfield 41, 3) := by decide +kernel
theorem dX11_read_139 : decode cX11_read 139 = .ok (.bipush 16, 2) := by decide +kernel
theorem dX11_read_141 : decode cX11_read 141 = .ok (.iload 4, 2) := by decide +kernel
theorem dX11_read_143 : decode cX11_read 143 = .ok (.imul, 1) := by decide +kernel
theorem dX11_read_144 : decode cX11_read 144 = .ok (.iload 5, 2) := by decide +kernel
theorem dX11_read_146 : decode cX11_read 146 = .ok (.iadd, 1) := by decide +kernel
theorem dX11_read_147 : decode cX11_read 147 = .ok (.aload_n 0, 1) := by decide +kernel
theorem dX11_read_148 : decode cX11_read 148 = .ok (.getfield 50, 3) := by decide +kernel
theorem dX11_read_151 : decode cX11_read 151 = .ok (.bipush 16, 2) := by decide +kernel
theorem dX11_read_153 : decode cX11_read 153 = .ok (.iload 4, 2) := by decide +kernel
theorem dX11_read_155 : decode cX11_read 155 = .ok (.imul, 1) := by decide +kernel
theorem dX11_read_156 : decode cX11_read 156 = .ok (.iload 5, 2) := by decide +kernel
theorem dX11_read_158 : decode cX11_read 158 = .ok (.iadd, 1) := by decide +kernel
theorem dX11_read_159 : decode cX11_read 159 = .ok (.baload, 1) := by decide +kernel
theorem dX11_read_160 : decode cX11_read 160 = .ok (.bastore, 1) := by decide +kernel
theorem dX11_read_161 : decode cX11_read 161 = .ok (.iinc 5 1, 3) := by decide +kernel
theorem dX11_read_164 : decode cX11_read 164 = .ok (.goto (-41), 3) := by decide +kernel
theorem dX11_read_167 : decode cX11_read 167 = .ok (.iinc 4 1, 3) := by decide +kernel
theorem dX11_read_170 : decode cX11_read 170 = .ok (.goto (-80), 3) := by decide +kernel
theorem dX11_read_173 : decode cX11_read 173 = .ok (.iinc 3 1, 3) := by decide +kernel
theorem dX11_read_176 : decode cX11_read 176 = .ok (.goto (-131), 3) := by decide +kernel
theorem dX11_read_179 : decode cX11_read 179 = .ok (.aload_n 0, 1) := by decide +kernel
theorem dX11_read_180 : decode cX11_read 180 = .ok (.aload_n 0, 1) := by decide +kernel
theorem dX11_read_181 : decode cX11_read 181 = .ok (.getfield 62, 3) := by decide +kernel
theorem dX11_read_184 : decode cX11_read 184 = .ok (.aload_n 0, 1) := by decide +kernel
theorem dX11_read_185 : decode cX11_read 185 = .ok (.getfield 196, 3) := by decide +kernel
theorem dX11_read_188 : decode cX11_read 188 = .ok (.iconst 1, 1) := by decide +kernel
theorem dX11_read_189 : decode cX11_read 189 = .ok (.isub, 1) := by decide +kernel
theorem dX11_read_190 : decode cX11_read 190 = .ok (.iaload, 1) := by decide +kernel
theorem dX11_read_191 : decode cX11_read 191 = .ok (.iconst 1, 1) := by decide +kernel
theorem dX11_read_192 : decode cX11_read 192 = .ok (.iadd, 1) := by decide +kernel
theorem dX11_read_193 : decode cX11_read 193 = .ok (.putfield 202, 3) := by decide +kernel
theorem dX11_read_196 : decode cX11_read 196 = .ok (.aload_n 0, 1) := by decide +kernel
theorem dX11_read_197 : decode cX11_read 197 = .ok (.iconst 0, 1) := by decide +kernel
theorem dX11_read_198 : decode cX11_read 198 = .ok (.putfield 176, 3) := by decide +kernel
theorem dX11_read_201 : decode cX11_read 201 = .ok (.aload_n 0, 1) := by decide +kernel
theorem dX11_read_202 : decode cX11_read 202 = .ok (.getfield 196, 3) := by decide +kernel
theorem dX11_read_205 : decode cX11_read 205 = .ok (.ireturn, 1) := by decide +kernel
theorem dX11_fault_0 : decode cX11_fault 0 = .ok (.iload_n 1, 1) := by decide +kernel
theorem dX11_fault_1 : decode cX11_fault 1 = .ok (.ifCond .ne 10, 3) := by decide +kernel
theorem dX11_fault_4 : decode cX11_fault 4 = .ok (.aload_n 0, 1) := by decide +kernel
theorem dX11_fault_5 : decode cX11_fault 5 = .ok (.getfield 186, 3) := by decide +kernel
theorem dX11_fault_8 : decode cX11_fault 8 = .ok (.goto 16, 3) := by decide +kernel
theorem dX11_fault_11 : decode cX11_fault 11 = .ok (.iload_n 1, 1) := by decide +kernel
theorem dX11_fault_12 : decode cX11_fault 12 = .ok (.iconst 1, 1) := by decide +kernel
theorem dX11_fault_13 : decode cX11_fault 13 = .ok (.if_icmp .ne 10, 3) := by decide +kernel
theorem dX11_fault_16 : decode cX11_fault 16 = .ok (.aload_n 0, 1) := by decide +kernel
theorem dX11_fault_17 : decode cX11_fault 17 = .ok (.getfield 68, 3) := by decide +kernel
theorem dX11_fault_20 : decode cX11_fault 20 = .ok (.goto 4, 3) := by decide +kernel
theorem dX11_fault_23 : decode cX11_fault 23 = .ok (.iconst (-1), 1) := by decide +kernel
theorem dX11_fault_24 : decode cX11_fault 24 = .ok (.ireturn, 1) := by decide +kernel
theorem dX11_isHere_0 : decode cX11_isHere 0 = .ok (.iload_n 1, 1) := by decide +kernel
theorem dX11_isHere_1 : decode cX11_isHere 1 = .ok (.iconst 0, 1) := by decide +kernel
theorem dX11_isHere_2 : decode cX11_isHere 2 = .ok (.aload_n 0, 1) := by decide +kernel
theorem dX11_isHere_3 : decode cX11_isHere 3 = .ok (.getfield 196, 3) := by decide +kernel
theorem dX11_isHere_6 : decode cX11_isHere 6 = .ok (.iconst 1, 1) := by decide +kernel
theorem dX11_isHere_7 : decode cX11_isHere 7 = .ok (.isub, 1) := by decide +kernel
theorem dX11_isHere_8 : decode cX11_isHere 8 = .ok (.invokestatic 139, 3) := by decide +kernel
theorem dX11_isHere_11 : decode cX11_isHere 11 = .ok (.ireturn, 1) := by decide +kernel
theorem dX11_folded_0 : decode cX11_folded 0 = .ok (.aload_n 0, 1) := by decide +kernel
theorem dX11_folded_1 : decode cX11_folded 1 = .ok (.getfield 44, 3) := by decide +kernel
theorem dX11_folded_4 : decode cX11_folded 4 = .ok (.iload_n 1, 1) := by decide +kernel
theorem dX11_folded_5 : decode cX11_folded 5 = .ok (.iaload, 1) := by decide +kernel
theorem dX11_folded_6 : decode cX11_folded 6 = .ok (.istore_n 2, 1) := by decide +kernel
theorem dX11_folded_7 : decode cX11_folded 7 = .ok (.iconst 0, 1) := by decide +kernel
theorem dX11_folded_8 : decode cX11_folded 8 = .ok (.istore_n 3, 1) := by decide +kernel
theorem dX11_folded_9 : decode cX11_folded 9 = .ok (.iconst 0, 1) := by decide +kernel
theorem dX11_folded_10 : decode cX11_folded 10 = .ok (.istore 4, 2) := by decide +kernel
theorem dX11_folded_12 : decode cX11_folded 12 = .ok (.iload 4, 2) := by decide +kernel
theorem dX11_folded_14 : decode cX11_folded 14 = .ok (.aload_n 0, 1) := by decide +kernel
theorem dX11_folded_15 : decode cX11_folded 15 = .ok (.getfield 183, 3) := by decide +kernel
theorem dX11_folded_18 : decode cX11_folded 18 = .ok (.if_icmp .ge 88, 3) := by decide +kernel
theorem dX11_folded_21 : decode cX11_folded 21 = .ok (.aload_n 0, 1) := by decide +kernel
theorem dX11_folded_22 : decode cX11_folded 22 = .ok (.getfield 35, 3) := by decide +kernel
theorem dX11_folded_25 : decode cX11_folded 25 = .ok (.iload 4, 2) := by decide +kernel
theorem dX11_folded_27 : decode cX11_folded 27 = .ok (.iaload, 1) := by decide +kernel
theorem dX11_folded_28 : decode cX11_folded 28 = .ok (.iload_n 3, 1) := by decide +kernel
theorem dX11_folded_29 : decode cX11_folded 29 = .ok (.if_icmp .le 71, 3) := by decide +kernel
theorem dX11_folded_32 : decode cX11_folded 32 = .ok (.iload_n 2, 1) := by decide +kernel
theorem dX11_folded_33 : decode cX11_folded 33 = .ok (.aload_n 0, 1) := by decide +kernel
theorem dX11_folded_34 : decode cX11_folded 34 = .ok (.getfield 35, 3) := by decide +kernel
theorem dX11_folded_37 : decode cX11_folded 37 = .ok (.iload 4, 2) := by decide +kernel
theorem dX11_folded_39 : decode cX11_folded 39 = .ok (.iaload, 1) := by decide +kernel
theorem dX11_folded_40 : decode cX11_folded 40 = .ok (.isub, 1) := by decide +kernel
theorem dX11_folded_41 : decode cX11_folded 41 = .ok (.iconst 3, 1) := by decide +kernel
theorem dX11_folded_42 : decode cX11_folded 42 = .ok (.if_icmp .lt 58, 3) := by decide +kernel
theorem dX11_folded_45 : decode cX11_folded 45 = .ok (.aload_n 0, 1) := by decide +kernel
theorem dX11_folded_46 : decode cX11_folded 46 = .ok (.getfield 32, 3) := by decide +kernel
theorem dX11_folded_49 : decode cX11_folded 49 = .ok (.bipush 16, 2) := by decide +kernel
theorem dX11_folded_51 : decode cX11_folded 51 = .ok (.iload 4, 2) := by decide +kernel
theorem dX11_folded_53 : decode cX11_folded 53 = .ok (.imul, 1) := by decide +kernel
theorem dX11_folded_54 : decode cX11_folded 54 = .ok (.aload_n 0, 1) := by decide +kernel
theorem dX11_folded_55 : decode cX11_folded 55 = .ok (.getfield 35, 3) := by decide +kernel
theorem dX11_folded_58 : decode cX11_folded 58 = .ok (.iload 4, 2) := by decide +kernel
theorem dX11_folded_60 : decode cX11_folded 60 = .ok (.iaload, 1) := by decide +kernel
theorem dX11_folded_61 : decode cX11_folded 61 = .ok (.aload_n 0, 1) := by decide +kernel
theorem dX11_folded_62 : decode cX11_folded 62 = .ok (.getfield 41, 3) := by decide +kernel
theorem dX11_folded_65 : decode cX11_folded 65 = .ok (.bipush 16, 2) := by decide +kernel
theorem dX11_folded_67 : decode cX11_folded 67 = .ok (.iload_n 1, 1) := by decide +kernel
theorem dX11_folded_68 : decode cX11_folded 68 = .ok (.imul, 1) := by decide +kernel
theorem dX11_folded_69 : decode cX11_folded 69 = .ok (.iload_n 2, 1) := by decide +kernel
theorem dX11_folded_70 : decode cX11_folded 70 = .ok (.iadd, 1) := by decide +kernel
theorem dX11_folded_71 : decode cX11_folded 71 = .ok (.aload_n 0, 1) := by decide +kernel
theorem dX11_folded_72 : decode cX11_folded 72 = .ok (.getfield 35, 3) := by decide +kernel
theorem dX11_folded_75 : decode cX11_folded 75 = .ok (.iload 4, 2) := by decide +kernel
theorem dX11_folded_77 : decode cX11_folded 77 = .ok (.iaload, 1) := by decide +kernel
theorem dX11_folded_78 : decode cX11_folded 78 = .ok (.isub, 1) := by decide +kernel
theorem dX11_folded_79 : decode cX11_folded 79 = .ok (.aload_n 0, 1) := by decide +kernel
theorem dX11_folded_80 : decode cX11_folded 80 = .ok (.getfield 35, 3) := by decide +kernel
theorem dX11_folded_83 : decode cX11_folded 83 = .ok (.iload 4, 2) := by decide +kernel
theorem dX11_folded_85 : decode cX11_folded 85 = .ok (.iaload, 1) := by decide +kernel
theorem dX11_folded_86 : decode cX11_folded 86 = .ok (.invokestatic 154, 3) := by decide +kernel
theorem dX11_folded_89 : decode cX11_folded 89 = .ok (.ifCond .eq 11, 3) := by decide +kernel
theorem dX11_folded_92 : decode cX11_folded 92 = .ok (.aload_n 0, 1) := by decide +kernel
theorem dX11_folded_93 : decode cX11_folded 93 = .ok (.getfield 35, 3) := by decide +kernel
theorem dX11_folded_96 : decode cX11_folded 96 = .ok (.iload 4, 2) := by decide +kernel
theorem dX11_folded_98 : decode cX11_folded 98 = .ok (.iaload, 1) := by decide +kernel
theorem dX11_folded_99 : decode cX11_folded 99 = .ok (.istore_n 3, 1) := by decide +kernel
theorem dX11_folded_100 : decode cX11_folded 100 = .ok (.iinc 4 1, 3) := by decide +kernel
theorem dX11_folded_103 : decode cX11_folded 103 = .ok (.goto (-91), 3) := by decide +kernel
theorem dX11_folded_106 : decode cX11_folded 106 = .ok (.iload_n 2, 1) := by decide +kernel
theorem dX11_folded_107 : decode cX11_folded 107 = .ok (.iload_n 3, 1) := by decide +kernel
theorem dX11_folded_108 : decode cX11_folded 108 = .ok (.isub, 1) := by decide +kernel
theorem dX11_folded_109 : decode cX11_folded 109 = .ok (.ireturn, 1) := by decide +kernel
theorem dX11_sameKey_0 : decode cX11_sameKey 0 = .ok (.aload_n 0, 1) := by decide +kernel
theorem dX11_sameKey_1 : decode cX11_sameKey 1 = .ok (.getfield 41, 3) := by decide +kernel
theorem dX11_sameKey_4 : decode cX11_sameKey 4 = .ok (.bipush 16, 2) := by decide +kernel
theorem dX11_sameKey_6 : decode cX11_sameKey 6 = .ok (.iload_n 1, 1) := by decide +kernel
theorem dX11_sameKey_7 : decode cX11_sameKey 7 = .ok (.imul, 1) := by decide +kernel
theorem dX11_sameKey_8 : decode cX11_sameKey 8 = .ok (.iload_n 2, 1) := by decide +kernel
theorem dX11_sameKey_9 : decode cX11_sameKey 9 = .ok (.aload_n 0, 1) := by decide +kernel
theorem dX11_sameKey_10 : decode cX11_sameKey 10 = .ok (.getfield 41, 3) := by decide +kernel
theorem dX11_sameKey_13 : decode cX11_sameKey 13 = .ok (.bipush 16, 2) := by decide +kernel
theorem dX11_sameKey_15 : decode cX11_sameKey 15 = .ok (.iload_n 3, 1) := by decide +kernel
theorem dX11_sameKey_16 : decode cX11_sameKey 16 = .ok (.imul, 1) := by decide +kernel
theorem dX11_sameKey_17 : decode cX11_sameKey 17 = .ok (.iload 4, 2) := by decide +kernel
theorem dX11_sameKey_19 : decode cX11_sameKey 19 = .ok (.invokestatic 154, 3) := by decide +kernel
theorem dX11_sameKey_22 : decode cX11_sameKey 22 = .ok (.ireturn, 1) := by decide +kernel
theorem dX11_makeKeys_0 : decode cX11_makeKeys 0 = .ok (.aload_n 0, 1) := by decide +kernel
theorem dX11_makeKeys_1 : decode cX11_makeKeys 1 = .ok (.getfield 65, 3) := by decide +kernel
theorem dX11_makeKeys_4 : decode cX11_makeKeys 4 = .ok (.iload_n 1, 1) := by decide +kernel
theorem dX11_makeKeys_5 : decode cX11_makeKeys 5 = .ok (.iaload, 1) := by decide +kernel
theorem dX11_makeKeys_6 : decode cX11_makeKeys 6 = .ok (.istore_n 2, 1) := by decide +kernel
theorem dX11_makeKeys_7 : decode cX11_makeKeys 7 = .ok (.aload_n 0, 1) := by decide +kernel
theorem dX11_makeKeys_8 : decode cX11_makeKeys 8 = .ok (.getfield 78, 3) := by decide +kernel
theorem dX11_makeKeys_11 : decode cX11_makeKeys 11 = .ok (.iload_n 1, 1) := by decide +kernel
theorem dX11_makeKeys_12 : decode cX11_makeKeys 12 = .ok (.iconst 0, 1) := by decide +kernel
theorem dX11_makeKeys_13 : decode cX11_makeKeys 13 = .ok (.iastore, 1) := by decide +kernel
theorem dX11_makeKeys_14 : decode cX11_makeKeys 14 = .ok (.aload_n 0, 1) := by decide +kernel
theorem dX11_makeKeys_15 : decode cX11_makeKeys 15 = .ok (.getfield 23, 3) := by decide +kernel
theorem dX11_makeKeys_18 : decode cX11_makeKeys 18 = .ok (.aload_n 0, 1) := by decide +kernel
theorem dX11_makeKeys_19 : decode cX11_makeKeys 19 = .ok (.getfield 26, 3) := by decide +kernel
theorem dX11_makeKeys_22 : decode cX11_makeKeys 22 = .ok (.aload_n 0, 1) := by decide +kernel
theorem dX11_makeKeys_23 : decode cX11_makeKeys 23 = .ok (.getfield 180, 3) := by decide +kernel
theorem dX11_makeKeys_26 : decode cX11_makeKeys 26 = .ok (.aload_n 0, 1) := by decide +kernel
theorem dX11_makeKeys_27 : decode cX11_makeKeys 27 = .ok (.getfield 41, 3) := by decide +kernel
theorem dX11_makeKeys_30 : decode cX11_makeKeys 30 = .ok (.sipush 640, 3) := by decide +kernel
theorem dX11_makeKeys_33 : decode cX11_makeKeys 33 = .ok (.iload_n 2, 1) := by decide +kernel
theorem dX11_makeKeys_34 : decode cX11_makeKeys 34 = .ok (.imul, 1) := by decide +kernel
theorem dX11_makeKeys_35 : decode cX11_makeKeys 35 = .ok (.aload_n 0, 1) := by decide +kernel
theorem dX11_makeKeys_36 : decode cX11_makeKeys 36 = .ok (.getfield 44, 3) := by decide +kernel
theorem dX11_makeKeys_39 : decode cX11_makeKeys 39 = .ok (.bipush 40, 2) := by decide +kernel
theorem dX11_makeKeys_41 : decode cX11_makeKeys 41 = .ok (.iload_n 2, 1) := by decide +kernel
theorem dX11_makeKeys_42 : decode cX11_makeKeys 42 = .ok (.imul, 1) := by decide +kernel
theorem dX11_makeKeys_43 : decode cX11_makeKeys 43 = .ok (.iaload, 1) := by decide +kernel
theorem dX11_makeKeys_44 : decode cX11_makeKeys 44 = .ok (.invokestatic 164, 3) := by decide +kernel
theorem dX11_makeKeys_47 : decode cX11_makeKeys 47 = .ok (.istore_n 3, 1) := by decide +kernel
theorem dX11_makeKeys_48 : decode cX11_makeKeys 48 = .ok (.aload_n 0, 1) := by decide +kernel
theorem dX11_makeKeys_49 : decode cX11_makeKeys 49 = .ok (.getfield 81, 3) := by decide +kernel
theorem dX11_makeKeys_52 : decode cX11_makeKeys 52 = .ok (.iload_n 1, 1) := by decide +kernel
theorem dX11_makeKeys_53 : decode cX11_makeKeys 53 = .ok (.iload_n 3, 1) := by decide +kernel
theorem dX11_makeKeys_54 : decode cX11_makeKeys 54 = .ok (.iconst (-1), 1) := by decide +kernel
theorem dX11_makeKeys_55 : decode cX11_makeKeys 55 = .ok (.if_icmp .ne 7, 3) := by decide +kernel
theorem dX11_makeKeys_58 : decode cX11_makeKeys 58 = .ok (.iconst 0, 1) := by decide +kernel
theorem dX11_makeKeys_59 : decode cX11_makeKeys 59 = .ok (.goto 9, 3) := by decide +kernel
theorem dX11_makeKeys_62 : decode cX11_makeKeys 62 = .ok (.aload_n 0, 1) := by decide +kernel
theorem dX11_makeKeys_63 : decode cX11_makeKeys 63 = .ok (.getfield 29, 3) := by decide +kernel
theorem dX11_makeKeys_66 : decode cX11_makeKeys 66 = .ok (.iload_n 3, 1) := by decide +kernel
theorem dX11_makeKeys_67 : decode cX11_makeKeys 67 = .ok (.iaload, 1) := by decide +kernel
theorem dX11_makeKeys_68 : decode cX11_makeKeys 68 = .ok (.iastore, 1) := by decide +kernel
theorem dX11_makeKeys_69 : decode cX11_makeKeys 69 = .ok (.iload_n 3, 1) := by decide +kernel
theorem dX11_makeKeys_70 : decode cX11_makeKeys 70 = .ok (.iconst (-1), 1) := by decide +kernel
theorem dX11_makeKeys_71 : decode cX11_makeKeys 71 = .ok (.if_icmp .ne 7, 3) := by decide +kernel
theorem dX11_makeKeys_74 : decode cX11_makeKeys 74 = .ok (.iconst 0, 1) := by decide +kernel
theorem dX11_makeKeys_75 : decode cX11_makeKeys 75 = .ok (.goto 4, 3) := by decide +kernel
theorem dX11_makeKeys_78 : decode cX11_makeKeys 78 = .ok (.iconst 1, 1) := by decide +kernel
theorem dX11_makeKeys_79 : decode cX11_makeKeys 79 = .ok (.istore 4, 2) := by decide +kernel
theorem dX11_makeKeys_81 : decode cX11_makeKeys 81 = .ok (.iload 4, 2) := by decide +kernel
theorem dX11_makeKeys_83 : decode cX11_makeKeys 83 = .ok (.aload_n 0, 1) := by decide +kernel
theorem dX11_makeKeys_84 : decode cX11_makeKeys 84 = .ok (.getfield 47, 3) := by decide +kernel
theorem dX11_makeKeys_87 : decode cX11_makeKeys 87 = .ok (.iload_n 2, 1) := by decide +kernel
theorem dX11_makeKeys_88 : decode cX11_makeKeys 88 = .ok (.iaload, 1) := by decide +kernel
theorem dX11_makeKeys_89 : decode cX11_makeKeys 89 = .ok (.if_icmp .ge 180, 3) := by decide +kernel
theorem dX11_makeKeys_92 : decode cX11_makeKeys 92 = .ok (.bipush 40, 2) := by decide +kernel
theorem dX11_makeKeys_94 : decode cX11_makeKeys 94 = .ok (.iload_n 2, 1) := by decide +kernel
theorem dX11_makeKeys_95 : decode cX11_makeKeys 95 = .ok (.imul, 1) := by decide +kernel
theorem dX11_makeKeys_96 : decode cX11_makeKeys 96 = .ok (.iload 4, 2) := by decide +kernel
theorem dX11_makeKeys_98 : decode cX11_makeKeys 98 = .ok (.iadd, 1) := by decide +kernel
theorem dX11_makeKeys_99 : decode cX11_makeKeys 99 = .ok (.istore 5, 2) := by decide +kernel
theorem dX11_makeKeys_101 : decode cX11_makeKeys 101 = .ok (.aload_n 0, 1) := by decide +kernel
theorem dX11_makeKeys_102 : decode cX11_makeKeys 102 = .ok (.getfield 16, 3) := by decide +kernel
theorem dX11_makeKeys_105 : decode cX11_makeKeys 105 = .ok (.aload_n 0, 1) := by decide +kernel
theorem dX11_makeKeys_106 : decode cX11_makeKeys 106 = .ok (.getfield 19, 3) := by decide +kernel
theorem dX11_makeKeys_109 : decode cX11_makeKeys 109 = .ok (.aload_n 0, 1) := by decide +kernel
theorem dX11_makeKeys_110 : decode cX11_makeKeys 110 = .ok (.getfield 161, 3) := by decide +kernel
theorem dX11_makeKeys_113 : decode cX11_makeKeys 113 = .ok (.aload_n 0, 1) := by decide +kernel
theorem dX11_makeKeys_114 : decode cX11_makeKeys 114 = .ok (.getfield 41, 3) := by decide +kernel
theorem dX11_makeKeys_117 : decode cX11_makeKeys 117 = .ok (.bipush 16, 2) := by decide +kernel
theorem dX11_makeKeys_119 : decode cX11_makeKeys 119 = .ok (.iload 5, 2) := by decide +kernel
theorem dX11_makeKeys_121 : decode cX11_makeKeys 121 = .ok (.imul, 1) := by decide +kernel
theorem dX11_makeKeys_122 : decode cX11_makeKeys 122 = .ok (.aload_n 0, 1) := by decide +kernel
theorem dX11_makeKeys_123 : decode cX11_makeKeys 123 = .ok (.getfield 44, 3) := by decide +kernel
theorem dX11_makeKeys_126 : decode cX11_makeKeys 126 = .ok (.iload 5, 2) := by decide +kernel
theorem dX11_makeKeys_128 : decode cX11_makeKeys 128 = .ok (.iaload, 1) := by decide +kernel
theorem dX11_makeKeys_129 : decode cX11_makeKeys 129 = .ok (.invokestatic 164, 3) := by decide +kernel
theorem dX11_makeKeys_132 : decode cX11_makeKeys 132 = .ok (.iconst (-1), 1) := by decide +kernel
theorem dX11_makeKeys_133 : decode cX11_makeKeys 133 = .ok (.if_icmp .eq 6, 3) := by decide +kernel
theorem dX11_makeKeys_136 : decode cX11_makeKeys 136 = .ok (.goto 127, 3) := by decide +kernel
theorem dX11_makeKeys_139 : decode cX11_makeKeys 139 = .ok (.aload_n 0, 1) := by decide +kernel
theorem dX11_makeKeys_140 : decode cX11_makeKeys 140 = .ok (.iload 5, 2) := by decide +kernel
theorem dX11_makeKeys_142 : decode cX11_makeKeys 142 = .ok (.invokevirtual 205, 3) := by decide +kernel
theorem dX11_makeKeys_145 : decode cX11_makeKeys 145 = .ok (.istore 6, 2) := by decide +kernel
theorem dX11_makeKeys_147 : decode cX11_makeKeys 147 = .ok (.iconst 0, 1) := by decide +kernel
theorem dX11_makeKeys_148 : decode cX11_makeKeys 148 = .ok (.istore 7, 2) := by decide +kernel
theorem dX11_makeKeys_150 : decode cX11_makeKeys 150 = .ok (.iconst 0, 1) := by decide +kernel
theorem dX11_makeKeys_151 : decode cX11_makeKeys 151 = .ok (.istore 8, 2) := by decide +kernel
theorem dX11_makeKeys_153 : decode cX11_makeKeys 153 = .ok (.iload 8, 2) := by decide +kernel
theorem dX11_makeKeys_155 : decode cX11_makeKeys 155 = .ok (.aload_n 0, 1) := by decide +kernel
theorem dX11_makeKeys_156 : decode cX11_makeKeys 156 = .ok (.getfield 78, 3) := by decide +kernel
theorem dX11_makeKeys_159 : decode cX11_makeKeys 159 = .ok (.iload_n 1, 1) := by decide +kernel
theorem dX11_makeKeys_160 : decode cX11_makeKeys 160 = .ok (.iaload, 1) := by decide +kernel
theorem dX11_makeKeys_161 : decode cX11_makeKeys 161 = .ok (.if_icmp .ge 48, 3) := by decide +kernel
theorem dX11_makeKeys_164 : decode cX11_makeKeys 164 = .ok (.iload 7, 2) := by decide +kernel
theorem dX11_makeKeys_166 : decode cX11_makeKeys 166 = .ok (.ifCond .ne 43, 3) := by decide +kernel
theorem dX11_makeKeys_169 : decode cX11_makeKeys 169 = .ok (.aload_n 0, 1) := by decide +kernel
theorem dX11_makeKeys_170 : decode cX11_makeKeys 170 = .ok (.iload 5, 2) := by decide +kernel
theorem dX11_makeKeys_172 : decode cX11_makeKeys 172 = .ok (.iload 6, 2) := by decide +kernel
theorem dX11_makeKeys_174 : decode cX11_makeKeys 174 = .ok (.aload_n 0, 1) := by decide +kernel
theorem dX11_makeKeys_175 : decode cX11_makeKeys 175 = .ok (.getfield 72, 3) := by decide +kernel
theorem dX11_makeKeys_178 : decode cX11_makeKeys 178 = .ok (.bipush 40, 2) := by decide +kernel
theorem dX11_makeKeys_180 : decode cX11_makeKeys 180 = .ok (.iload_n 1, 1) := by decide +kernel
theorem dX11_makeKeys_181 : decode cX11_makeKeys 181 = .ok (.imul, 1) := by decide +kernel
theorem dX11_makeKeys_182 : decode cX11_makeKeys 182 = .ok (.iload 8, 2) := by decide +kernel
theorem dX11_makeKeys_184 : decode cX11_makeKeys 184 = .ok (.iadd, 1) := by decide +kernel
theorem dX11_makeKeys_185 : decode cX11_makeKeys 185 = .ok (.iaload, 1) := by decide +kernel
theorem dX11_makeKeys_186 : decode cX11_makeKeys 186 = .ok (.aload_n 0, 1) := by decide +kernel
theorem dX11_makeKeys_187 : decode cX11_makeKeys 187 = .ok (.getfield 75, 3) := by decide +kernel
theorem dX11_makeKeys_190 : decode cX11_makeKeys 190 = .ok (.bipush 40, 2) := by decide +kernel
theorem dX11_makeKeys_192 : decode cX11_makeKeys 192 = .ok (.iload_n 1, 1) := by decide +kernel
theorem dX11_makeKeys_193 : decode cX11_makeKeys 193 = .ok (.imul, 1) := by decide +kernel
theorem dX11_makeKeys_194 : decode cX11_makeKeys 194 = .ok (.iload 8, 2) := by decide +kernel
theorem dX11_makeKeys_196 : decode cX11_makeKeys 196 = .ok (.iadd, 1) := by decide +kernel
theorem dX11_makeKeys_197 : decode cX11_makeKeys 197 = .ok (.iaload, 1) := by decide +kernel
theorem dX11_makeKeys_198 : decode cX11_makeKeys 198 = .ok (.invokevirtual 208, 3) := by decide +kernel
theorem dX11_makeKeys_201 : decode cX11_makeKeys 201 = .ok (.istore 7, 2) := by decide +kernel
theorem dX11_makeKeys_203 : decode cX11_makeKeys 203 = .ok (.iinc 8 1, 3) := by decide +kernel
theorem dX11_makeKeys_206 : decode cX11_makeKeys 206 = .ok (.goto (-53), 3) := by decide +kernel
theorem dX11_makeKeys_209 : decode cX11_makeKeys 209 = .ok (.iload 7, 2) := by decide +kernel
theorem dX11_makeKeys_211 : decode cX11_makeKeys 211 = .ok (.ifCond .eq 6, 3) := by decide +kernel
theorem dX11_makeKeys_214 : decode cX11_makeKeys 214 = .ok (.goto 49, 3) := by decide +kernel
theorem dX11_makeKeys_217 : decode cX11_makeKeys 217 = .ok (.aload_n 0, 1) := by decide +kernel
theorem dX11_makeKeys_218 : decode cX11_makeKeys 218 = .ok (.getfield 72, 3) := by decide +kernel
theorem dX11_makeKeys_221 : decode cX11_makeKeys 221 = .ok (.bipush 40, 2) := by decide +kernel
theorem dX11_makeKeys_223 : decode cX11_makeKeys 223 = .ok (.iload_n 1, 1) := by decide +kernel
theorem dX11_makeKeys_224 : decode cX11_makeKeys 224 = .ok (.imul, 1) := by decide +kernel
theorem dX11_makeKeys_225 : decode cX11_makeKeys 225 = .ok (.aload_n 0, 1) := by decide +kernel
theorem dX11_makeKeys_226 : decode cX11_makeKeys 226 = .ok (.getfield 78, 3) := by decide +kernel
theorem dX11_makeKeys_229 : decode cX11_makeKeys 229 = .ok (.iload_n 1, 1) := by decide +kernel
theorem dX11_makeKeys_230 : decode cX11_makeKeys 230 = .ok (.iaload, 1) := by decide +kernel
theorem dX11_makeKeys_231 : decode cX11_makeKeys 231 = .ok (.iadd, 1) := by decide +kernel
theorem dX11_makeKeys_232 : decode cX11_makeKeys 232 = .ok (.iload 5, 2) := by decide +kernel
theorem dX11_makeKeys_234 : decode cX11_makeKeys 234 = .ok (.iastore, 1) := by decide +kernel
theorem dX11_makeKeys_235 : decode cX11_makeKeys 235 = .ok (.aload_n 0, 1) := by decide +kernel
theorem dX11_makeKeys_236 : decode cX11_makeKeys 236 = .ok (.getfield 75, 3) := by decide +kernel
theorem dX11_makeKeys_239 : decode cX11_makeKeys 239 = .ok (.bipush 40, 2) := by decide +kernel
theorem dX11_makeKeys_241 : decode cX11_makeKeys 241 = .ok (.iload_n 1, 1) := by decide +kernel
theorem dX11_makeKeys_242 : decode cX11_makeKeys 242 = .ok (.imul, 1) := by decide +kernel
theorem dX11_makeKeys_243 : decode cX11_makeKeys 243 = .ok (.aload_n 0, 1) := by decide +kernel
theorem dX11_makeKeys_244 : decode cX11_makeKeys 244 = .ok (.getfield 78, 3) := by decide +kernel
theorem dX11_makeKeys_247 : decode cX11_makeKeys 247 = .ok (.iload_n 1, 1) := by decide +kernel
theorem dX11_makeKeys_248 : decode cX11_makeKeys 248 = .ok (.iaload, 1) := by decide +kernel
theorem dX11_makeKeys_249 : decode cX11_makeKeys 249 = .ok (.iadd, 1) := by decide +kernel
theorem dX11_makeKeys_250 : decode cX11_makeKeys 250 = .ok (.iload 6, 2) := by decide +kernel
theorem dX11_makeKeys_252 : decode cX11_makeKeys 252 = .ok (.iastore, 1) := by decide +kernel
theorem dX11_makeKeys_253 : decode cX11_makeKeys 253 = .ok (.aload_n 0, 1) := by decide +kernel
theorem dX11_makeKeys_254 : decode cX11_makeKeys 254 = .ok (.getfield 78, 3) := by decide +kernel
theorem dX11_makeKeys_257 : decode cX11_makeKeys 257 = .ok (.iload_n 1, 1) := by decide +kernel
theorem dX11_makeKeys_258 : decode cX11_makeKeys 258 = .ok (.dup2, 1) := by decide +kernel
theorem dX11_makeKeys_259 : decode cX11_makeKeys 259 = .ok (.iaload, 1) := by decide +kernel
theorem dX11_makeKeys_260 : decode cX11_makeKeys 260 = .ok (.iconst 1, 1) := by decide +kernel
theorem dX11_makeKeys_261 : decode cX11_makeKeys 261 = .ok (.iadd, 1) := by decide +kernel
theorem dX11_makeKeys_262 : decode cX11_makeKeys 262 = .ok (.iastore, 1) := by decide +kernel
theorem dX11_makeKeys_263 : decode cX11_makeKeys 263 = .ok (.iinc 4 1, 3) := by decide +kernel
theorem dX11_makeKeys_266 : decode cX11_makeKeys 266 = .ok (.goto (-185), 3) := by decide +kernel
theorem dX11_makeKeys_269 : decode cX11_makeKeys 269 = .ok (.return_, 1) := by decide +kernel
theorem dX11_hasKey_0 : decode cX11_hasKey 0 = .ok (.bipush 40, 2) := by decide +kernel
theorem dX11_hasKey_2 : decode cX11_hasKey 2 = .ok (.iload_n 1, 1) := by decide +kernel
theorem dX11_hasKey_3 : decode cX11_hasKey 3 = .ok (.imul, 1) := by decide +kernel
theorem dX11_hasKey_4 : decode cX11_hasKey 4 = .ok (.istore 4, 2) := by decide +kernel
theorem dX11_hasKey_6 : decode cX11_hasKey 6 = .ok (.iload 4, 2) := by decide +kernel
theorem dX11_hasKey_8 : decode cX11_hasKey 8 = .ok (.bipush 40, 2) := by decide +kernel
theorem dX11_hasKey_10 : decode cX11_hasKey 10 = .ok (.iload_n 1, 1) := by decide +kernel
theorem dX11_hasKey_11 : decode cX11_hasKey 11 = .ok (.imul, 1) := by decide +kernel
theorem dX11_hasKey_12 : decode cX11_hasKey 12 = .ok (.aload_n 0, 1) := by decide +kernel
theorem dX11_hasKey_13 : decode cX11_hasKey 13 = .ok (.getfield 78, 3) := by decide +kernel
theorem dX11_hasKey_16 : decode cX11_hasKey 16 = .ok (.iload_n 1, 1) := by decide +kernel
theorem dX11_hasKey_17 : decode cX11_hasKey 17 = .ok (.iaload, 1) := by decide +kernel
theorem dX11_hasKey_18 : decode cX11_hasKey 18 = .ok (.iadd, 1) := by decide +kernel
theorem dX11_hasKey_19 : decode cX11_hasKey 19 = .ok (.if_icmp .ge 34, 3) := by decide +kernel
theorem dX11_hasKey_22 : decode cX11_hasKey 22 = .ok (.aload_n 0, 1) := by decide +kernel
theorem dX11_hasKey_23 : decode cX11_hasKey 23 = .ok (.iload_n 2, 1) := by decide +kernel
theorem dX11_hasKey_24 : decode cX11_hasKey 24 = .ok (.iload_n 3, 1) := by decide +kernel
theorem dX11_hasKey_25 : decode cX11_hasKey 25 = .ok (.aload_n 0, 1) := by decide +kernel
theorem dX11_hasKey_26 : decode cX11_hasKey 26 = .ok (.getfield 72, 3) := by decide +kernel
theorem dX11_hasKey_29 : decode cX11_hasKey 29 = .ok (.iload 4, 2) := by decide +kernel
theorem dX11_hasKey_31 : decode cX11_hasKey 31 = .ok (.iaload, 1) := by decide +kernel
theorem dX11_hasKey_32 : decode cX11_hasKey 32 = .ok (.aload_n 0, 1) := by decide +kernel
theorem dX11_hasKey_33 : decode cX11_hasKey 33 = .ok (.getfield 75, 3) := by decide +kernel
theorem dX11_hasKey_36 : decode cX11_hasKey 36 = .ok (.iload 4, 2) := by decide +kernel
theorem dX11_hasKey_38 : decode cX11_hasKey 38 = .ok (.iaload, 1) := by decide +kernel
theorem dX11_hasKey_39 : decode cX11_hasKey 39 = .ok (.invokevirtual 208, 3) := by decide +kernel
theorem dX11_hasKey_42 : decode cX11_hasKey 42 = .ok (.ifCond .eq 5, 3) := by decide +kernel
theorem dX11_hasKey_45 : decode cX11_hasKey 45 = .ok (.iconst 1, 1) := by decide +kernel
theorem dX11_hasKey_46 : decode cX11_hasKey 46 = .ok (.ireturn, 1) := by decide +kernel
theorem dX11_hasKey_47 : decode cX11_hasKey 47 = .ok (.iinc 4 1, 3) := by decide +kernel
theorem dX11_hasKey_50 : decode cX11_hasKey 50 = .ok (.goto (-44), 3) := by decide +kernel
theorem dX11_hasKey_53 : decode cX11_hasKey 53 = .ok (.iconst 0, 1) := by decide +kernel
theorem dX11_hasKey_54 : decode cX11_hasKey 54 = .ok (.ireturn, 1) := by decide +kernel
theorem dX11_sharedBy_0 : decode cX11_sharedBy 0 = .ok (.iconst 0, 1) := by decide +kernel
theorem dX11_sharedBy_1 : decode cX11_sharedBy 1 = .ok (.istore_n 3, 1) := by decide +kernel
theorem dX11_sharedBy_2 : decode cX11_sharedBy 2 = .ok (.bipush 40, 2) := by decide +kernel
theorem dX11_sharedBy_4 : decode cX11_sharedBy 4 = .ok (.iload_n 1, 1) := by decide +kernel
theorem dX11_sharedBy_5 : decode cX11_sharedBy 5 = .ok (.imul, 1) := by decide +kernel
theorem dX11_sharedBy_6 : decode cX11_sharedBy 6 = .ok (.istore 4, 2) := by decide +kernel
theorem dX11_sharedBy_8 : decode cX11_sharedBy 8 = .ok (.iload 4, 2) := by decide +kernel
theorem dX11_sharedBy_10 : decode cX11_sharedBy 10 = .ok (.bipush 40, 2) := by decide +kernel
theorem dX11_sharedBy_12 : decode cX11_sharedBy 12 = .ok (.iload_n 1, 1) := by decide +kernel
theorem dX11_sharedBy_13 : decode cX11_sharedBy 13 = .ok (.imul, 1) := by decide +kernel
theorem dX11_sharedBy_14 : decode cX11_sharedBy 14 = .ok (.aload_n 0, 1) := by decide +kernel
theorem dX11_sharedBy_15 : decode cX11_sharedBy 15 = .ok (.getfield 78, 3) := by decide +kernel
theorem dX11_sharedBy_18 : decode cX11_sharedBy 18 = .ok (.iload_n 1, 1) := by decide +kernel
theorem dX11_sharedBy_19 : decode cX11_sharedBy 19 = .ok (.iaload, 1) := by decide +kernel
theorem dX11_sharedBy_20 : decode cX11_sharedBy 20 = .ok (.iadd, 1) := by decide +kernel
theorem dX11_sharedBy_21 : decode cX11_sharedBy 21 = .ok (.if_icmp .ge 39, 3) := by decide +kernel
theorem dX11_sharedBy_24 : decode cX11_sharedBy 24 = .ok (.iload_n 3, 1) := by decide +kernel
theorem dX11_sharedBy_25 : decode cX11_sharedBy 25 = .ok (.aload_n 0, 1) := by decide +kernel
theorem dX11_sharedBy_26 : decode cX11_sharedBy 26 = .ok (.iload_n 2, 1) := by decide +kernel
theorem dX11_sharedBy_27 : decode cX11_sharedBy 27 = .ok (.aload_n 0, 1) := by decide +kernel
theorem dX11_sharedBy_28 : decode cX11_sharedBy 28 = .ok (.getfield 72, 3) := by decide +kernel
theorem dX11_sharedBy_31 : decode cX11_sharedBy 31 = .ok (.iload 4, 2) := by decide +kernel
theorem dX11_sharedBy_33 : decode cX11_sharedBy 33 = .ok (.iaload, 1) := by decide +kernel
theorem dX11_sharedBy_34 : decode cX11_sharedBy 34 = .ok (.aload_n 0, 1) := by decide +kernel
theorem dX11_sharedBy_35 : decode cX11_sharedBy 35 = .ok (.getfield 75, 3) := by decide +kernel
theorem dX11_sharedBy_38 : decode cX11_sharedBy 38 = .ok (.iload 4, 2) := by decide +kernel
theorem dX11_sharedBy_40 : decode cX11_sharedBy 40 = .ok (.iaload, 1) := by decide +kernel
theorem dX11_sharedBy_41 : decode cX11_sharedBy 41 = .ok (.invokevirtual 212, 3) := by decide +kernel
theorem dX11_sharedBy_44 : decode cX11_sharedBy 44 = .ok (.ifCond .eq 7, 3) := by decide +kernel
theorem dX11_sharedBy_47 : decode cX11_sharedBy 47 = .ok (.iconst 1, 1) := by decide +kernel
theorem dX11_sharedBy_48 : decode cX11_sharedBy 48 = .ok (.goto 4, 3) := by decide +kernel
theorem dX11_sharedBy_51 : decode cX11_sharedBy 51 = .ok (.iconst 0, 1) := by decide +kernel
theorem dX11_sharedBy_52 : decode cX11_sharedBy 52 = .ok (.iadd, 1) := by decide +kernel
theorem dX11_sharedBy_53 : decode cX11_sharedBy 53 = .ok (.istore_n 3, 1) := by decide +kernel
theorem dX11_sharedBy_54 : decode cX11_sharedBy 54 = .ok (.iinc 4 1, 3) := by decide +kernel
theorem dX11_sharedBy_57 : decode cX11_sharedBy 57 = .ok (.goto (-49), 3) := by decide +kernel
theorem dX11_sharedBy_60 : decode cX11_sharedBy 60 = .ok (.iload_n 3, 1) := by decide +kernel
theorem dX11_sharedBy_61 : decode cX11_sharedBy 61 = .ok (.ireturn, 1) := by decide +kernel
theorem dX11_priceOf_0 : decode cX11_priceOf 0 = .ok (.iload_n 1, 1) := by decide +kernel
theorem dX11_priceOf_1 : decode cX11_priceOf 1 = .ok (.iload_n 2, 1) := by decide +kernel
theorem dX11_priceOf_2 : decode cX11_priceOf 2 = .ok (.if_icmp .le 9, 3) := by decide +kernel
theorem dX11_priceOf_5 : decode cX11_priceOf 5 = .ok (.iload_n 1, 1) := by decide +kernel
theorem dX11_priceOf_6 : decode cX11_priceOf 6 = .ok (.iload_n 2, 1) := by decide +kernel
theorem dX11_priceOf_7 : decode cX11_priceOf 7 = .ok (.isub, 1) := by decide +kernel
theorem dX11_priceOf_8 : decode cX11_priceOf 8 = .ok (.goto 6, 3) := by decide +kernel
theorem dX11_priceOf_11 : decode cX11_priceOf 11 = .ok (.iload_n 2, 1) := by decide +kernel
theorem dX11_priceOf_12 : decode cX11_priceOf 12 = .ok (.iload_n 1, 1) := by decide +kernel
theorem dX11_priceOf_13 : decode cX11_priceOf 13 = .ok (.isub, 1) := by decide +kernel
theorem dX11_priceOf_14 : decode cX11_priceOf 14 = .ok (.istore_n 3, 1) := by decide +kernel
theorem dX11_priceOf_15 : decode cX11_priceOf 15 = .ok (.aload_n 0, 1) := by decide +kernel
theorem dX11_priceOf_16 : decode cX11_priceOf 16 = .ok (.iload_n 1, 1) := by decide +kernel
theorem dX11_priceOf_17 : decode cX11_priceOf 17 = .ok (.iload_n 2, 1) := by decide +kernel
theorem dX11_priceOf_18 : decode cX11_priceOf 18 = .ok (.invokevirtual 215, 3) := by decide +kernel
theorem dX11_priceOf_21 : decode cX11_priceOf 21 = .ok (.istore 4, 2) := by decide +kernel
theorem dX11_priceOf_23 : decode cX11_priceOf 23 = .ok (.aload_n 0, 1) := by decide +kernel
theorem dX11_priceOf_24 : decode cX11_priceOf 24 = .ok (.getfield 38, 3) := by decide +kernel
theorem dX11_priceOf_27 : decode cX11_priceOf 27 = .ok (.iconst 0, 1) := by decide +kernel
theorem dX11_priceOf_28 : decode cX11_priceOf 28 = .ok (.iaload, 1) := by decide +kernel
theorem dX11_priceOf_29 : decode cX11_priceOf 29 = .ok (.iload_n 3, 1) := by decide +kernel
theorem dX11_priceOf_30 : decode cX11_priceOf 30 = .ok (.iconst 1, 1) := by decide +kernel
theorem dX11_priceOf_31 : decode cX11_priceOf 31 = .ok (.isub, 1) := by decide +kernel
theorem dX11_priceOf_32 : decode cX11_priceOf 32 = .ok (.imul, 1) := by decide +kernel
theorem dX11_priceOf_33 : decode cX11_priceOf 33 = .ok (.aload_n 0, 1) := by decide +kernel
theorem dX11_priceOf_34 : decode cX11_priceOf 34 = .ok (.getfield 38, 3) := by decide +kernel
theorem dX11_priceOf_37 : decode cX11_priceOf 37 = .ok (.iconst 1, 1) := by decide +kernel
theorem dX11_priceOf_38 : decode cX11_priceOf 38 = .ok (.iaload, 1) := by decide +kernel
theorem dX11_priceOf_39 : decode cX11_priceOf 39 = .ok (.iconst 4, 1) := by decide +kernel
theorem dX11_priceOf_40 : decode cX11_priceOf 40 = .ok (.iload 4, 2) := by decide +kernel
theorem dX11_priceOf_42 : decode cX11_priceOf 42 = .ok (.iconst 4, 1) := by decide +kernel
theorem dX11_priceOf_43 : decode cX11_priceOf 43 = .ok (.if_icmp .le 7, 3) := by decide +kernel
theorem dX11_priceOf_46 : decode cX11_priceOf 46 = .ok (.iconst 4, 1) := by decide +kernel
theorem dX11_priceOf_47 : decode cX11_priceOf 47 = .ok (.goto 5, 3) := by decide +kernel
theorem dX11_priceOf_50 : decode cX11_priceOf 50 = .ok (.iload 4, 2) := by decide +kernel
theorem dX11_priceOf_52 : decode cX11_priceOf 52 = .ok (.isub, 1) := by decide +kernel
theorem dX11_priceOf_53 : decode cX11_priceOf 53 = .ok (.imul, 1) := by decide +kernel
theorem dX11_priceOf_54 : decode cX11_priceOf 54 = .ok (.iadd, 1) := by decide +kernel
theorem dX11_priceOf_55 : decode cX11_priceOf 55 = .ok (.istore 5, 2) := by decide +kernel
theorem dX11_priceOf_57 : decode cX11_priceOf 57 = .ok (.aload_n 0, 1) := by decide +kernel
theorem dX11_priceOf_58 : decode cX11_priceOf 58 = .ok (.getfield 62, 3) := by decide +kernel
theorem dX11_priceOf_61 : decode cX11_priceOf 61 = .ok (.iload_n 1, 1) := by decide +kernel
theorem dX11_priceOf_62 : decode cX11_priceOf 62 = .ok (.iaload, 1) := by decide +kernel
theorem dX11_priceOf_63 : decode cX11_priceOf 63 = .ok (.aload_n 0, 1) := by decide +kernel
theorem dX11_priceOf_64 : decode cX11_priceOf 64 = .ok (.getfield 62, 3) := by decide +kernel
theorem dX11_priceOf_67 : decode cX11_priceOf 67 = .ok (.iload_n 2, 1) := by decide +kernel
theorem dX11_priceOf_68 : decode cX11_priceOf 68 = .ok (.iaload, 1) := by decide +kernel
theorem dX11_priceOf_69 : decode cX11_priceOf 69 = .ok (.if_icmp .eq 14, 3) := by decide +kernel
theorem dX11_priceOf_72 : decode cX11_priceOf 72 = .ok (.iload 5, 2) := by decide +kernel
theorem dX11_priceOf_74 : decode cX11_priceOf 74 = .ok (.aload_n 0, 1) := by decide +kernel
theorem dX11_priceOf_75 : decode cX11_priceOf 75 = .ok (.getfield 38, 3) := by decide +kernel
theorem dX11_priceOf_78 : decode cX11_priceOf 78 = .ok (.iconst 3, 1) := by decide +kernel
theorem dX11_priceOf_79 : decode cX11_priceOf 79 = .ok (.iaload, 1) := by decide +kernel
theorem dX11_priceOf_80 : decode cX11_priceOf 80 = .ok (.iadd, 1) := by decide +kernel
theorem dX11_priceOf_81 : decode cX11_priceOf 81 = .ok (.istore 5, 2) := by decide +kernel
theorem dX11_priceOf_83 : decode cX11_priceOf 83 = .ok (.aload_n 0, 1) := by decide +kernel
theorem dX11_priceOf_84 : decode cX11_priceOf 84 = .ok (.getfield 81, 3) := by decide +kernel
theorem dX11_priceOf_87 : decode cX11_priceOf 87 = .ok (.iload_n 2, 1) := by decide +kernel
theorem dX11_priceOf_88 : decode cX11_priceOf 88 = .ok (.iaload, 1) := by decide +kernel
theorem dX11_priceOf_89 : decode cX11_priceOf 89 = .ok (.iconst 1, 1) := by decide +kernel
theorem dX11_priceOf_90 : decode cX11_priceOf 90 = .ok (.if_icmp .eq 13, 3) := by decide +kernel
theorem dX11_priceOf_93 : decode cX11_priceOf 93 = .ok (.aload_n 0, 1) := by decide +kernel
theorem dX11_priceOf_94 : decode cX11_priceOf 94 = .ok (.getfield 81, 3) := by decide +kernel
theorem dX11_priceOf_97 : decode cX11_priceOf 97 = .ok (.iload_n 2, 1) := by decide +kernel
theorem dX11_priceOf_98 : decode cX11_priceOf 98 = .ok (.iaload, 1) := by decide +kernel
theorem dX11_priceOf_99 : decode cX11_priceOf 99 = .ok (.iconst 2, 1) := by decide +kernel
theorem dX11_priceOf_100 : decode cX11_priceOf 100 = .ok (.if_icmp .ne 8, 3) := by decide +kernel
theorem dX11_priceOf_103 : decode cX11_priceOf 103 = .ok (.iload_n 1, 1) := by decide +kernel
theorem dX11_priceOf_104 : decode cX11_priceOf 104 = .ok (.iload_n 2, 1) := by decide +kernel
theorem dX11_priceOf_105 : decode cX11_priceOf 105 = .ok (.if_icmp .gt 35, 3) := by decide +kernel
theorem dX11_priceOf_108 : decode cX11_priceOf 108 = .ok (.aload_n 0, 1) := by decide +kernel
theorem dX11_priceOf_109 : decode cX11_priceOf 109 = .ok (.getfield 81, 3) := by decide +kernel
theorem dX11_priceOf_112 : decode cX11_priceOf 112 = .ok (.iload_n 2, 1) := by decide +kernel
theorem dX11_priceOf_113 : decode cX11_priceOf 113 = .ok (.iaload, 1) := by decide +kernel
theorem dX11_priceOf_114 : decode cX11_priceOf 114 = .ok (.iconst 3, 1) := by decide +kernel
theorem dX11_priceOf_115 : decode cX11_priceOf 115 = .ok (.if_icmp .ne 10, 3) := by decide +kernel
theorem dX11_priceOf_118 : decode cX11_priceOf 118 = .ok (.iload_n 1, 1) := by decide +kernel
theorem dX11_priceOf_119 : decode cX11_priceOf 119 = .ok (.iload_n 2, 1) := by decide +kernel
theorem dX11_priceOf_120 : decode cX11_priceOf 120 = .ok (.iconst 1, 1) := by decide +kernel
theorem dX11_priceOf_121 : decode cX11_priceOf 121 = .ok (.isub, 1) := by decide +kernel
theorem dX11_priceOf_122 : decode cX11_priceOf 122 = .ok (.if_icmp .ne 18, 3) := by decide +kernel
theorem dX11_priceOf_125 : decode cX11_priceOf 125 = .ok (.aload_n 0, 1) := by decide +kernel
theorem dX11_priceOf_126 : decode cX11_priceOf 126 = .ok (.getfield 81, 3) := by decide +kernel
theorem dX11_priceOf_129 : decode cX11_priceOf 129 = .ok (.iload_n 2, 1) := by decide +kernel
theorem dX11_priceOf_130 : decode cX11_priceOf 130 = .ok (.iaload, 1) := by decide +kernel
theorem dX11_priceOf_131 : decode cX11_priceOf 131 = .ok (.iconst 4, 1) := by decide +kernel
theorem dX11_priceOf_132 : decode cX11_priceOf 132 = .ok (.if_icmp .ne 12, 3) := by decide +kernel
theorem dX11_priceOf_135 : decode cX11_priceOf 135 = .ok (.iload_n 1, 1) := by decide +kernel
theorem dX11_priceOf_136 : decode cX11_priceOf 136 = .ok (.iload_n 2, 1) := by decide +kernel
theorem dX11_priceOf_137 : decode cX11_priceOf 137 = .ok (.if_icmp .ge 7, 3) := by decide +kernel
theorem dX11_priceOf_140 : decode cX11_priceOf 140 = .ok (.iconst 1, 1) := by decide +kernel
theorem dX11_priceOf_141 : decode cX11_priceOf 141 = .ok (.goto 4, 3) := by decide +kernel
theorem dX11_priceOf_144 : decode cX11_priceOf 144 = .ok (.iconst 0, 1) := by decide +kernel
theorem dX11_priceOf_145 : decode cX11_priceOf 145 = .ok (.istore 6, 2) := by decide +kernel
theorem dX11_priceOf_147 : decode cX11_priceOf 147 = .ok (.iload 6, 2) := by decide +kernel
theorem dX11_priceOf_149 : decode cX11_priceOf 149 = .ok (.ifCond .eq 15, 3) := by decide +kernel
theorem dX11_priceOf_152 : decode cX11_priceOf 152 = .ok (.iload 5, 2) := by decide +kernel
theorem dX11_priceOf_154 : decode cX11_priceOf 154 = .ok (.aload_n 0, 1) := by decide +kernel
theorem dX11_priceOf_155 : decode cX11_priceOf 155 = .ok (.getfield 38, 3) := by decide +kernel
theorem dX11_priceOf_158 : decode cX11_priceOf 158 = .ok (.iconst 2, 1) := by decide +kernel
theorem dX11_priceOf_159 : decode cX11_priceOf 159 = .ok (.iaload, 1) := by decide +kernel
theorem dX11_priceOf_160 : decode cX11_priceOf 160 = .ok (.iadd, 1) := by decide +kernel
theorem dX11_priceOf_161 : decode cX11_priceOf 161 = .ok (.goto 5, 3) := by decide +kernel
theorem dX11_priceOf_164 : decode cX11_priceOf 164 = .ok (.iload 5, 2) := by decide +kernel
theorem dX11_priceOf_166 : decode cX11_priceOf 166 = .ok (.ireturn, 1) := by decide +kernel
theorem dX11_arc_0 : decode cX11_arc 0 = .ok (.aload_n 0, 1) := by decide +kernel
theorem dX11_arc_1 : decode cX11_arc 1 = .ok (.getfield 90, 3) := by decide +kernel
theorem dX11_arc_4 : decode cX11_arc 4 = .ok (.bipush 25, 2) := by decide +kernel
theorem dX11_arc_6 : decode cX11_arc 6 = .ok (.iload_n 2, 1) := by decide +kernel
theorem dX11_arc_7 : decode cX11_arc 7 = .ok (.imul, 1) := by decide +kernel
theorem dX11_arc_8 : decode cX11_arc 8 = .ok (.iload_n 1, 1) := by decide +kernel
theorem dX11_arc_9 : decode cX11_arc 9 = .ok (.iadd, 1) := by decide +kernel
theorem dX11_arc_10 : decode cX11_arc 10 = .ok (.iconst 1, 1) := by decide +kernel
theorem dX11_arc_11 : decode cX11_arc 11 = .ok (.iadd, 1) := by decide +kernel
theorem dX11_arc_12 : decode cX11_arc 12 = .ok (.baload, 1) := by decide +kernel
theorem dX11_arc_13 : decode cX11_arc 13 = .ok (.ifCond .eq 8, 3) := by decide +kernel
theorem dX11_arc_16 : decode cX11_arc 16 = .ok (.ldc 218, 2) := by decide +kernel
theorem dX11_arc_18 : decode cX11_arc 18 = .ok (.goto 14, 3) := by decide +kernel
theorem dX11_arc_21 : decode cX11_arc 21 = .ok (.aload_n 0, 1) := by decide +kernel
theorem dX11_arc_22 : decode cX11_arc 22 = .ok (.getfield 84, 3) := by decide +kernel
theorem dX11_arc_25 : decode cX11_arc 25 = .ok (.bipush 24, 2) := by decide +kernel
theorem dX11_arc_27 : decode cX11_arc 27 = .ok (.iload_n 1, 1) := by decide +kernel
theorem dX11_arc_28 : decode cX11_arc 28 = .ok (.imul, 1) := by decide +kernel
theorem dX11_arc_29 : decode cX11_arc 29 = .ok (.iload_n 2, 1) := by decide +kernel
theorem dX11_arc_30 : decode cX11_arc 30 = .ok (.iadd, 1) := by decide +kernel
theorem dX11_arc_31 : decode cX11_arc 31 = .ok (.iaload, 1) := by decide +kernel
theorem dX11_arc_32 : decode cX11_arc 32 = .ok (.ireturn, 1) := by decide +kernel
theorem dX11_least_0 : decode cX11_least 0 = .ok (.iconst 0, 1) := by decide +kernel
theorem dX11_least_1 : decode cX11_least 1 = .ok (.istore_n 1, 1) := by decide +kernel
theorem dX11_least_2 : decode cX11_least 2 = .ok (.iload_n 1, 1) := by decide +kernel
theorem dX11_least_3 : decode cX11_least 3 = .ok (.aload_n 0, 1) := by decide +kernel
theorem dX11_least_4 : decode cX11_least 4 = .ok (.getfield 196, 3) := by decide +kernel
theorem dX11_least_7 : decode cX11_least 7 = .ok (.if_icmp .ge 299, 3) := by decide +kernel
theorem dX11_least_10 : decode cX11_least 10 = .ok (.iconst 0, 1) := by decide +kernel
theorem dX11_least_11 : decode cX11_least 11 = .ok (.istore_n 2, 1) := by decide +kernel
theorem dX11_least_12 : decode cX11_least 12 = .ok (.iload_n 2, 1) := by decide +kernel
theorem dX11_least_13 : decode cX11_least 13 = .ok (.iload_n 1, 1) := by decide +kernel
theorem dX11_least_14 : decode cX11_least 14 = .ok (.iadd, 1) := by decide +kernel
theorem dX11_least_15 : decode cX11_least 15 = .ok (.aload_n 0, 1) := by decide +kernel
theorem dX11_least_16 : decode cX11_least 16 = .ok (.getfield 196, 3) := by decide +kernel
theorem dX11_least_19 : decode cX11_least 19 = .ok (.if_icmp .ge 138, 3) := by decide +kernel
theorem dX11_least_22 : decode cX11_least 22 = .ok (.iload_n 2, 1) := by decide +kernel
theorem dX11_least_23 : decode cX11_least 23 = .ok (.iload_n 1, 1) := by decide +kernel
theorem dX11_least_24 : decode cX11_least 24 = .ok (.iadd, 1) := by decide +kernel
theorem dX11_least_25 : decode cX11_least 25 = .ok (.istore_n 3, 1) := by decide +kernel
theorem dX11_least_26 : decode cX11_least 26 = .ok (.iload_n 1, 1) := by decide +kernel
theorem dX11_least_27 : decode cX11_least 27 = .ok (.ifCond .ne 7, 3) := by decide +kernel
theorem dX11_least_30 : decode cX11_least 30 = .ok (.iconst 0, 1) := by decide +kernel
theorem dX11_least_31 : decode cX11_least 31 = .ok (.goto 5, 3) := by decide +kernel
theorem dX11_least_34 : decode cX11_least 34 = .ok (.ldc 218, 2) := by decide +kernel
theorem dX11_least_36 : decode cX11_least 36 = .ok (.istore 4, 2) := by decide +kernel
theorem dX11_least_38 : decode cX11_least 38 = .ok (.iload_n 2, 1) := by decide +kernel
theorem dX11_least_39 : decode cX11_least 39 = .ok (.iconst 1, 1) := by decide +kernel
theorem dX11_least_40 : decode cX11_least 40 = .ok (.iadd, 1) := by decide +kernel
theorem dX11_least_41 : decode cX11_least 41 = .ok (.istore 5, 2) := by decide +kernel
theorem dX11_least_43 : decode cX11_least 43 = .ok (.iload 5, 2) := by decide +kernel
theorem dX11_least_45 : decode cX11_least 45 = .ok (.iload_n 3, 1) := by decide +kernel
theorem dX11_least_46 : decode cX11_least 46 = .ok (.if_icmp .gt 92, 3) := by decide +kernel
theorem dX11_least_49 : decode cX11_least 49 = .ok (.iload 5, 2) := by decide +kernel
theorem dX11_least_51 : decode cX11_least 51 = .ok (.istore 6, 2) := by decide +kernel
theorem dX11_least_53 : decode cX11_least 53 = .ok (.iload 6, 2) := by decide +kernel
theorem dX11_least_55 : decode cX11_least 55 = .ok (.iload_n 3, 1) := by decide +kernel
theorem dX11_least_56 : decode cX11_least 56 = .ok (.if_icmp .gt 76, 3) := by decide +kernel
theorem dX11_least_59 : decode cX11_least 59 = .ok (.aload_n 0, 1) := by decide +kernel
theorem dX11_least_60 : decode cX11_least 60 = .ok (.getfield 97, 3) := by decide +kernel
theorem dX11_least_63 : decode cX11_least 63 = .ok (.bipush 24, 2) := by decide +kernel
theorem dX11_least_65 : decode cX11_least 65 = .ok (.iload_n 2, 1) := by decide +kernel
theorem dX11_least_66 : decode cX11_least 66 = .ok (.imul, 1) := by decide +kernel
theorem dX11_least_67 : decode cX11_least 67 = .ok (.iload 5, 2) := by decide +kernel
theorem dX11_least_69 : decode cX11_least 69 = .ok (.iadd, 1) := by decide +kernel
theorem dX11_least_70 : decode cX11_least 70 = .ok (.iconst 1, 1) := by decide +kernel
theorem dX11_least_71 : decode cX11_least 71 = .ok (.isub, 1) := by decide +kernel
theorem dX11_least_72 : decode cX11_least 72 = .ok (.iaload, 1) := by decide +kernel
theorem dX11_least_73 : decode cX11_least 73 = .ok (.aload_n 0, 1) := by decide +kernel
theorem dX11_least_74 : decode cX11_least 74 = .ok (.iload_n 2, 1) := by decide +kernel
theorem dX11_least_75 : decode cX11_least 75 = .ok (.iload 6, 2) := by decide +kernel
theorem dX11_least_77 : decode cX11_least 77 = .ok (.invokevirtual 219, 3) := by decide +kernel
theorem dX11_least_80 : decode cX11_least 80 = .ok (.iadd, 1) := by decide +kernel
theorem dX11_least_81 : decode cX11_least 81 = .ok (.aload_n 0, 1) := by decide +kernel
theorem dX11_least_82 : decode cX11_least 82 = .ok (.getfield 94, 3) := by decide +kernel
theorem dX11_least_85 : decode cX11_least 85 = .ok (.bipush 24, 2) := by decide +kernel
theorem dX11_least_87 : decode cX11_least 87 = .ok (.iload 6, 2) := by decide +kernel
theorem dX11_least_89 : decode cX11_least 89 = .ok (.imul, 1) := by decide +kernel
theorem dX11_least_90 : decode cX11_least 90 = .ok (.iload 5, 2) := by decide +kernel
theorem dX11_least_92 : decode cX11_least 92 = .ok (.iadd, 1) := by decide +kernel
theorem dX11_least_93 : decode cX11_least 93 = .ok (.iaload, 1) := by decide +kernel
theorem dX11_least_94 : decode cX11_least 94 = .ok (.iadd, 1) := by decide +kernel
theorem dX11_least_95 : decode cX11_least 95 = .ok (.aload_n 0, 1) := by decide +kernel
theorem dX11_least_96 : decode cX11_least 96 = .ok (.getfield 97, 3) := by decide +kernel
theorem dX11_least_99 : decode cX11_least 99 = .ok (.bipush 24, 2) := by decide +kernel
theorem dX11_least_101 : decode cX11_least 101 = .ok (.iload 6, 2) := by decide +kernel
theorem dX11_least_103 : decode cX11_least 103 = .ok (.imul, 1) := by decide +kernel
theorem dX11_least_104 : decode cX11_least 104 = .ok (.iload_n 3, 1) := by decide +kernel
theorem dX11_least_105 : decode cX11_least 105 = .ok (.iadd, 1) := by decide +kernel
theorem dX11_least_106 : decode cX11_least 106 = .ok (.iaload, 1) := by decide +kernel
theorem dX11_least_107 : decode cX11_least 107 = .ok (.iadd, 1) := by decide +kernel
theorem dX11_least_108 : decode cX11_least 108 = .ok (.istore 7, 2) := by decide +kernel
theorem dX11_least_110 : decode cX11_least 110 = .ok (.iload 7, 2) := by decide +kernel
theorem dX11_least_112 : decode cX11_least 112 = .ok (.iload 4, 2) := by decide +kernel
theorem dX11_least_114 : decode cX11_least 114 = .ok (.if_icmp .ge 8, 3) := by decide +kernel
theorem dX11_least_117 : decode cX11_least 117 = .ok (.iload 7, 2) := by decide +kernel
theorem dX11_least_119 : decode cX11_least 119 = .ok (.goto 5, 3) := by decide +kernel
theorem dX11_least_122 : decode cX11_least 122 = .ok (.iload 4, 2) := by decide +kernel
theorem dX11_least_124 : decode cX11_least 124 = .ok (.istore 4, 2) := by decide +kernel
theorem dX11_least_126 : decode cX11_least 126 = .ok (.iinc 6 1, 3) := by decide +kernel
theorem dX11_least_129 : decode cX11_least 129 = .ok (.goto (-76), 3) := by decide +kernel
theorem dX11_least_132 : decode cX11_least 132 = .ok (.iinc 5 1, 3) := by decide +kernel
theorem dX11_least_135 : decode cX11_least 135 = .ok (.goto (-92), 3) := by decide +kernel
theorem dX11_least_138 : decode cX11_least 138 = .ok (.aload_n 0, 1) := by decide +kernel
theorem dX11_least_139 : decode cX11_least 139 = .ok (.getfield 97, 3) := by decide +kernel
theorem dX11_least_142 : decode cX11_least 142 = .ok (.bipush 24, 2) := by decide +kernel
theorem dX11_least_144 : decode cX11_least 144 = .ok (.iload_n 2, 1) := by decide +kernel
theorem dX11_least_145 : decode cX11_least 145 = .ok (.imul, 1) := by decide +kernel
theorem dX11_least_146 : decode cX11_least 146 = .ok (.iload_n 3, 1) := by decide +kernel
theorem dX11_least_147 : decode cX11_least 147 = .ok (.iadd, 1) := by decide +kernel
theorem dX11_least_148 : decode cX11_least 148 = .ok (.iload 4, 2) := by decide +kernel
theorem dX11_least_150 : decode cX11_least 150 = .ok (.iastore, 1) := by decide +kernel
theorem dX11_least_151 : decode cX11_least 151 = .ok (.iinc 2 1, 3) := by decide +kernel
theorem dX11_least_154 : decode cX11_least 154 = .ok (.goto (-142), 3) := by decide +kernel
theorem dX11_least_157 : decode cX11_least 157 = .ok (.iload_n 1, 1) := by decide +kernel
theorem dX11_least_158 : decode cX11_least 158 = .ok (.istore_n 2, 1) := by decide +kernel
theorem dX11_least_159 : decode cX11_least 159 = .ok (.iload_n 2, 1) := by decide +kernel
theorem dX11_least_160 : decode cX11_least 160 = .ok (.aload_n 0, 1) := by decide +kernel
theorem dX11_least_161 : decode cX11_least 161 = .ok (.getfield 196, 3) := by decide +kernel
theorem dX11_least_164 : decode cX11_least 164 = .ok (.if_icmp .ge 136, 3) := by decide +kernel
theorem dX11_least_167 : decode cX11_least 167 = .ok (.iload_n 2, 1) := by decide +kernel
theorem dX11_least_168 : decode cX11_least 168 = .ok (.iload_n 1, 1) := by decide +kernel
theorem dX11_least_169 : decode cX11_least 169 = .ok (.isub, 1) := by decide +kernel
theorem dX11_least_170 : decode cX11_least 170 = .ok (.istore_n 3, 1) := by decide +kernel
theorem dX11_least_171 : decode cX11_least 171 = .ok (.iload_n 1, 1) := by decide +kernel
theorem dX11_least_172 : decode cX11_least 172 = .ok (.ifCond .ne 7, 3) := by decide +kernel
theorem dX11_least_175 : decode cX11_least 175 = .ok (.iconst 0, 1) := by decide +kernel
theorem dX11_least_176 : decode cX11_least 176 = .ok (.goto 5, 3) := by decide +kernel
theorem dX11_least_179 : decode cX11_least 179 = .ok (.ldc 218, 2) := by decide +kernel
theorem dX11_least_181 : decode cX11_least 181 = .ok (.istore 4, 2) := by decide +kernel
theorem dX11_least_183 : decode cX11_least 183 = .ok (.iload_n 3, 1) := by decide +kernel
theorem dX11_least_184 : decode cX11_least 184 = .ok (.istore 5, 2) := by decide +kernel
theorem dX11_least_186 : decode cX11_least 186 = .ok (.iload 5, 2) := by decide +kernel
theorem dX11_least_188 : decode cX11_least 188 = .ok (.iload_n 2, 1) := by decide +kernel
theorem dX11_least_189 : decode cX11_least 189 = .ok (.if_icmp .ge 92, 3) := by decide +kernel
theorem dX11_least_192 : decode cX11_least 192 = .ok (.iload_n 3, 1) := by decide +kernel
theorem dX11_least_193 : decode cX11_least 193 = .ok (.istore 6, 2) := by decide +kernel
theorem dX11_least_195 : decode cX11_least 195 = .ok (.iload 6, 2) := by decide +kernel
theorem dX11_least_197 : decode cX11_least 197 = .ok (.iload 5, 2) := by decide +kernel
theorem dX11_least_199 : decode cX11_least 199 = .ok (.if_icmp .gt 76, 3) := by decide +kernel
theorem dX11_least_202 : decode cX11_least 202 = .ok (.aload_n 0, 1) := by decide +kernel
theorem dX11_least_203 : decode cX11_least 203 = .ok (.getfield 94, 3) := by decide +kernel
theorem dX11_least_206 : decode cX11_least 206 = .ok (.bipush 24, 2) := by decide +kernel
theorem dX11_least_208 : decode cX11_least 208 = .ok (.iload_n 2, 1) := by decide +kernel
theorem dX11_least_209 : decode cX11_least 209 = .ok (.imul, 1) := by decide +kernel
theorem dX11_least_210 : decode cX11_least 210 = .ok (.iload 5, 2) := by decide +kernel
theorem dX11_least_212 : decode cX11_least 212 = .ok (.iadd, 1) := by decide +kernel
theorem dX11_least_213 : decode cX11_least 213 = .ok (.iconst 1, 1) := by decide +kernel
theorem dX11_least_214 : decode cX11_least 214 = .ok (.iadd, 1) := by decide +kernel
theorem dX11_least_215 : decode cX11_least 215 = .ok (.iaload, 1) := by decide +kernel
theorem dX11_least_216 : decode cX11_least 216 = .ok (.aload_n 0, 1) := by decide +kernel
theorem dX11_least_217 : decode cX11_least 217 = .ok (.iload_n 2, 1) := by decide +kernel
theorem dX11_least_218 : decode cX11_least 218 = .ok (.iload 6, 2) := by decide +kernel
theorem dX11_least_220 : decode cX11_least 220 = .ok (.invokevirtual 219, 3) := by decide +kernel
theorem dX11_least_223 : decode cX11_least 223 = .ok (.iadd, 1) := by decide +kernel
theorem dX11_least_224 : decode cX11_least 224 = .ok (.aload_n 0, 1) := by decide +kernel
theorem dX11_least_225 : decode cX11_least 225 = .ok (.getfield 94, 3) := by decide +kernel
theorem dX11_least_228 : decode cX11_least 228 = .ok (.bipush 24, 2) := by decide +kernel
theorem dX11_least_230 : decode cX11_least 230 = .ok (.iload 6, 2) := by decide +kernel
theorem dX11_least_232 : decode cX11_least 232 = .ok (.imul, 1) := by decide +kernel
theorem dX11_least_233 : decode cX11_least 233 = .ok (.iload_n 3, 1) := by decide +kernel
theorem dX11_least_234 : decode cX11_least 234 = .ok (.iadd, 1) := by decide +kernel
theorem dX11_least_235 : decode cX11_least 235 = .ok (.iaload, 1) := by decide +kernel
theorem dX11_least_236 : decode cX11_least 236 = .ok (.iadd, 1) := by decide +kernel
theorem dX11_least_237 : decode cX11_least 237 = .ok (.aload_n 0, 1) := by decide +kernel
theorem dX11_least_238 : decode cX11_least 238 = .ok (.getfield 97, 3) := by decide +kernel
theorem dX11_least_241 : decode cX11_least 241 = .ok (.bipush 24, 2) := by decide +kernel
theorem dX11_least_243 : decode cX11_least 243 = .ok (.iload 6, 2) := by decide +kernel
theorem dX11_least_245 : decode cX11_least 245 = .ok (.imul, 1) := by decide +kernel
theorem dX11_least_246 : decode cX11_least 246 = .ok (.iload 5, 2) := by decide +kernel
theorem dX11_least_248 : decode cX11_least 248 = .ok (.iadd, 1) := by decide +kernel
theorem dX11_least_249 : decode cX11_least 249 = .ok (.iaload, 1) := by decide +kernel
theorem dX11_least_250 : decode cX11_least 250 = .ok (.iadd, 1) := by decide +kernel
theorem dX11_least_251 : decode cX11_least 251 = .ok (.istore 7, 2) := by decide +kernel
theorem dX11_least_253 : decode cX11_least 253 = .ok (.iload 7, 2) := by decide +kernel
theorem dX11_least_255 : decode cX11_least 255 = .ok (.iload 4, 2) := by decide +kernel
theorem dX11_least_257 : decode cX11_least 257 = .ok (.if_icmp .ge 8, 3) := by decide +kernel
theorem dX11_least_260 : decode cX11_least 260 = .ok (.iload 7, 2) := by decide +kernel
theorem dX11_least_262 : decode cX11_least 262 = .ok (.goto 5, 3) := by decide +kernel
theorem dX11_least_265 : decode cX11_least 265 = .ok (.iload 4, 2) := by decide +kernel
theorem dX11_least_267 : decode cX11_least 267 = .ok (.istore 4, 2) := by decide +kernel
theorem dX11_least_269 : decode cX11_least 269 = .ok (.iinc 6 1, 3) := by decide +kernel
theorem dX11_least_272 : decode cX11_least 272 = .ok (.goto (-77), 3) := by decide +kernel
theorem dX11_least_275 : decode cX11_least 275 = .ok (.iinc 5 1, 3) := by decide +kernel
theorem dX11_least_278 : decode cX11_least 278 = .ok (.goto (-92), 3) := by decide +kernel
theorem dX11_least_281 : decode cX11_least 281 = .ok (.aload_n 0, 1) := by decide +kernel
theorem dX11_least_282 : decode cX11_least 282 = .ok (.getfield 94, 3) := by decide +kernel
theorem dX11_least_285 : decode cX11_least 285 = .ok (.bipush 24, 2) := by decide +kernel
theorem dX11_least_287 : decode cX11_least 287 = .ok (.iload_n 2, 1) := by decide +kernel
theorem dX11_least_288 : decode cX11_least 288 = .ok (.imul, 1) := by decide +kernel
theorem dX11_least_289 : decode cX11_least 289 = .ok (.iload_n 3, 1) := by decide +kernel
theorem dX11_least_290 : decode cX11_least 290 = .ok (.iadd, 1) := by decide +kernel
theorem dX11_least_291 : decode cX11_least 291 = .ok (.iload 4, 2) := by decide +kernel
theorem dX11_least_293 : decode cX11_least 293 = .ok (.iastore, 1) := by decide +kernel
theorem dX11_least_294 : decode cX11_least 294 = .ok (.iinc 2 1, 3) := by decide +kernel
theorem dX11_least_297 : decode cX11_least 297 = .ok (.goto (-138), 3) := by decide +kernel
theorem dX11_least_300 : decode cX11_least 300 = .ok (.iinc 1 1, 3) := by decide +kernel
theorem dX11_least_303 : decode cX11_least 303 = .ok (.goto (-301), 3) := by decide +kernel
theorem dX11_least_306 : decode cX11_least 306 = .ok (.ldc 218, 2) := by decide +kernel
theorem dX11_least_308 : decode cX11_least 308 = .ok (.istore_n 1, 1) := by decide +kernel
theorem dX11_least_309 : decode cX11_least 309 = .ok (.iconst 0, 1) := by decide +kernel
theorem dX11_least_310 : decode cX11_least 310 = .ok (.istore_n 2, 1) := by decide +kernel
theorem dX11_least_311 : decode cX11_least 311 = .ok (.iload_n 2, 1) := by decide +kernel
theorem dX11_least_312 : decode cX11_least 312 = .ok (.aload_n 0, 1) := by decide +kernel
theorem dX11_least_313 : decode cX11_least 313 = .ok (.getfield 196, 3) := by decide +kernel
theorem dX11_least_316 : decode cX11_least 316 = .ok (.if_icmp .ge 71, 3) := by decide +kernel
theorem dX11_least_319 : decode cX11_least 319 = .ok (.aload_n 0, 1) := by decide +kernel
theorem dX11_least_320 : decode cX11_least 320 = .ok (.getfield 90, 3) := by decide +kernel
theorem dX11_least_323 : decode cX11_least 323 = .ok (.bipush 25, 2) := by decide +kernel
theorem dX11_least_325 : decode cX11_least 325 = .ok (.iload_n 2, 1) := by decide +kernel
theorem dX11_least_326 : decode cX11_least 326 = .ok (.imul, 1) := by decide +kernel
theorem dX11_least_327 : decode cX11_least 327 = .ok (.baload, 1) := by decide +kernel
theorem dX11_least_328 : decode cX11_least 328 = .ok (.ifCond .eq 8, 3) := by decide +kernel
theorem dX11_least_331 : decode cX11_least 331 = .ok (.ldc 218, 2) := by decide +kernel
theorem dX11_least_333 : decode cX11_least 333 = .ok (.goto 36, 3) := by decide +kernel
theorem dX11_least_336 : decode cX11_least 336 = .ok (.aload_n 0, 1) := by decide +kernel
theorem dX11_least_337 : decode cX11_least 337 = .ok (.getfield 87, 3) := by decide +kernel
theorem dX11_least_340 : decode cX11_least 340 = .ok (.iload_n 2, 1) := by decide +kernel
theorem dX11_least_341 : decode cX11_least 341 = .ok (.iaload, 1) := by decide +kernel
theorem dX11_least_342 : decode cX11_least 342 = .ok (.aload_n 0, 1) := by decide +kernel
theorem dX11_least_343 : decode cX11_least 343 = .ok (.getfield 94, 3) := by decide +kernel
theorem dX11_least_346 : decode cX11_least 346 = .ok (.bipush 24, 2) := by decide +kernel
theorem dX11_least_348 : decode cX11_least 348 = .ok (.iload_n 2, 1) := by decide +kernel
theorem dX11_least_349 : decode cX11_least 349 = .ok (.imul, 1) := by decide +kernel
theorem dX11_least_350 : decode cX11_least 350 = .ok (.iaload, 1) := by decide +kernel
theorem dX11_least_351 : decode cX11_least 351 = .ok (.iadd, 1) := by decide +kernel
theorem dX11_least_352 : decode cX11_least 352 = .ok (.aload_n 0, 1) := by decide +kernel
theorem dX11_least_353 : decode cX11_least 353 = .ok (.getfield 97, 3) := by decide +kernel
theorem dX11_least_356 : decode cX11_least 356 = .ok (.bipush 24, 2) := by decide +kernel
theorem dX11_least_358 : decode cX11_least 358 = .ok (.iload_n 2, 1) := by decide +kernel
theorem dX11_least_359 : decode cX11_least 359 = .ok (.imul, 1) := by decide +kernel
theorem dX11_least_360 : decode cX11_least 360 = .ok (.aload_n 0, 1) := by decide +kernel
theorem dX11_least_361 : decode cX11_least 361 = .ok (.getfield 196, 3) := by decide +kernel
theorem dX11_least_364 : decode cX11_least 364 = .ok (.iadd, 1) := by decide +kernel
theorem dX11_least_365 : decode cX11_least 365 = .ok (.iconst 1, 1) := by decide +kernel
theorem dX11_least_366 : decode cX11_least 366 = .ok (.isub, 1) := by decide +kernel
theorem dX11_least_367 : decode cX11_least 367 = .ok (.iaload, 1) := by decide +kernel
theorem dX11_least_368 : decode cX11_least 368 = .ok (.iadd, 1) := by decide +kernel
theorem dX11_least_369 : decode cX11_least 369 = .ok (.istore_n 3, 1) := by decide +kernel
theorem dX11_least_370 : decode cX11_least 370 = .ok (.iload_n 3, 1) := by decide +kernel
theorem dX11_least_371 : decode cX11_least 371 = .ok (.iload_n 1, 1) := by decide +kernel
theorem dX11_least_372 : decode cX11_least 372 = .ok (.if_icmp .ge 7, 3) := by decide +kernel
theorem dX11_least_375 : decode cX11_least 375 = .ok (.iload_n 3, 1) := by decide +kernel
theorem dX11_least_376 : decode cX11_least 376 = .ok (.goto 4, 3) := by decide +kernel
theorem dX11_least_379 : decode cX11_least 379 = .ok (.iload_n 1, 1) := by decide +kernel
theorem dX11_least_380 : decode cX11_least 380 = .ok (.istore_n 1, 1) := by decide +kernel
theorem dX11_least_381 : decode cX11_least 381 = .ok (.iinc 2 1, 3) := by decide +kernel
theorem dX11_least_384 : decode cX11_least 384 = .ok (.goto (-73), 3) := by decide +kernel
theorem dX11_least_387 : decode cX11_least 387 = .ok (.iload_n 1, 1) := by decide +kernel
theorem dX11_least_388 : decode cX11_least 388 = .ok (.ireturn, 1) := by decide +kernel
theorem dX11_allMay_0 : decode cX11_allMay 0 = .ok (.iconst 0, 1) := by decide +kernel
theorem dX11_allMay_1 : decode cX11_allMay 1 = .ok (.istore_n 1, 1) := by decide +kernel
theorem dX11_allMay_2 : decode cX11_allMay 2 = .ok (.iload_n 1, 1) := by decide +kernel
theorem dX11_allMay_3 : decode cX11_allMay 3 = .ok (.sipush 600, 3) := by decide +kernel
theorem dX11_allMay_6 : decode cX11_allMay 6 = .ok (.if_icmp .ge 16, 3) := by decide +kernel
theorem dX11_allMay_9 : decode cX11_allMay 9 = .ok (.aload_n 0, 1) := by decide +kernel
theorem dX11_allMay_10 : decode cX11_allMay 10 = .ok (.getfield 90, 3) := by decide +kernel
theorem dX11_allMay_13 : decode cX11_allMay 13 = .ok (.iload_n 1, 1) := by decide +kernel
theorem dX11_allMay_14 : decode cX11_allMay 14 = .ok (.iconst 0, 1) := by decide +kernel
theorem dX11_allMay_15 : decode cX11_allMay 15 = .ok (.bastore, 1) := by decide +kernel
theorem dX11_allMay_16 : decode cX11_allMay 16 = .ok (.iinc 1 1, 3) := by decide +kernel
theorem dX11_allMay_19 : decode cX11_allMay 19 = .ok (.goto (-17), 3) := by decide +kernel
theorem dX11_allMay_22 : decode cX11_allMay 22 = .ok (.return_, 1) := by decide +kernel
theorem dX11_fix_0 : decode cX11_fix 0 = .ok (.iconst 0, 1) := by decide +kernel
theorem dX11_fix_1 : decode cX11_fix 1 = .ok (.istore_n 3, 1) := by decide +kernel
theorem dX11_fix_2 : decode cX11_fix 2 = .ok (.iload_n 3, 1) := by decide +kernel
theorem dX11_fix_3 : decode cX11_fix 3 = .ok (.aload_n 0, 1) := by decide +kernel
theorem dX11_fix_4 : decode cX11_fix 4 = .ok (.getfield 196, 3) := by decide +kernel
theorem dX11_fix_7 : decode cX11_fix 7 = .ok (.if_icmp .gt 32, 3) := by decide +kernel
theorem dX11_fix_10 : decode cX11_fix 10 = .ok (.aload_n 0, 1) := by decide +kernel
theorem dX11_fix_11 : decode cX11_fix 11 = .ok (.getfield 90, 3) := by decide +kernel
theorem dX11_fix_14 : decode cX11_fix 14 = .ok (.bipush 25, 2) := by decide +kernel
theorem dX11_fix_16 : decode cX11_fix 16 = .ok (.iload_n 1, 1) := by decide +kernel
theorem dX11_fix_17 : decode cX11_fix 17 = .ok (.imul, 1) := by decide +kernel
theorem dX11_fix_18 : decode cX11_fix 18 = .ok (.iload_n 3, 1) := by decide +kernel
theorem dX11_fix_19 : decode cX11_fix 19 = .ok (.iadd, 1) := by decide +kernel
theorem dX11_fix_20 : decode cX11_fix 20 = .ok (.iload_n 3, 1) := by decide +kernel
theorem dX11_fix_21 : decode cX11_fix 21 = .ok (.iload_n 2, 1) := by decide +kernel
theorem dX11_fix_22 : decode cX11_fix 22 = .ok (.iconst 1, 1) := by decide +kernel
theorem dX11_fix_23 : decode cX11_fix 23 = .ok (.iadd, 1) := by decide +kernel
theorem dX11_fix_24 : decode cX11_fix 24 = .ok (.if_icmp .eq 7, 3) := by decide +kernel
theorem dX11_fix_27 : decode cX11_fix 27 = .ok (.iconst 1, 1) := by decide +kernel
theorem dX11_fix_28 : decode cX11_fix 28 = .ok (.goto 4, 3) := by decide +kernel
theorem dX11_fix_31 : decode cX11_fix 31 = .ok (.iconst 0, 1) := by decide +kernel
theorem dX11_fix_32 : decode cX11_fix 32 = .ok (.bastore, 1) := by decide +kernel
theorem dX11_fix_33 : decode cX11_fix 33 = .ok (.iinc 3 1, 3) := by decide +kernel
theorem dX11_fix_36 : decode cX11_fix 36 = .ok (.goto (-34), 3) := by decide +kernel
theorem dX11_fix_39 : decode cX11_fix 39 = .ok (.return_, 1) := by decide +kernel
theorem dX11_makeTree_0 : decode cX11_makeTree 0 = .ok (.aload_n 0, 1) := by decide +kernel
theorem dX11_makeTree_1 : decode cX11_makeTree 1 = .ok (.getfield 176, 3) := by decide +kernel
theorem dX11_makeTree_4 : decode cX11_makeTree 4 = .ok (.ifCond .eq 4, 3) := by decide +kernel
theorem dX11_makeTree_7 : decode cX11_makeTree 7 = .ok (.return_, 1) := by decide +kernel
theorem dX11_makeTree_8 : decode cX11_makeTree 8 = .ok (.aload_n 0, 1) := by decide +kernel
theorem dX11_makeTree_9 : decode cX11_makeTree 9 = .ok (.iconst 1, 1) := by decide +kernel
theorem dX11_makeTree_10 : decode cX11_makeTree 10 = .ok (.putfield 176, 3) := by decide +kernel
theorem dX11_makeTree_13 : decode cX11_makeTree 13 = .ok (.iconst 0, 1) := by decide +kernel
theorem dX11_makeTree_14 : decode cX11_makeTree 14 = .ok (.istore_n 1, 1) := by decide +kernel
theorem dX11_makeTree_15 : decode cX11_makeTree 15 = .ok (.iload_n 1, 1) := by decide +kernel
theorem dX11_makeTree_16 : decode cX11_makeTree 16 = .ok (.aload_n 0, 1) := by decide +kernel
theorem dX11_makeTree_17 : decode cX11_makeTree 17 = .ok (.getfield 196, 3) := by decide +kernel
theorem dX11_makeTree_20 : decode cX11_makeTree 20 = .ok (.if_icmp .ge 14, 3) := by decide +kernel
theorem dX11_makeTree_23 : decode cX11_makeTree 23 = .ok (.aload_n 0, 1) := by decide +kernel
theorem dX11_makeTree_24 : decode cX11_makeTree 24 = .ok (.iload_n 1, 1) := by decide +kernel
theorem dX11_makeTree_25 : decode cX11_makeTree 25 = .ok (.invokevirtual 222, 3) := by decide +kernel
theorem dX11_makeTree_28 : decode cX11_makeTree 28 = .ok (.iinc 1 1, 3) := by decide +kernel
theorem dX11_makeTree_31 : decode cX11_makeTree 31 = .ok (.goto (-16), 3) := by decide +kernel
theorem dX11_makeTree_34 : decode cX11_makeTree 34 = .ok (.iconst 0, 1) := by decide +kernel
theorem dX11_makeTree_35 : decode cX11_makeTree 35 = .ok (.istore_n 1, 1) := by decide +kernel
theorem dX11_makeTree_36 : decode cX11_makeTree 36 = .ok (.iload_n 1, 1) := by decide +kernel
theorem dX11_makeTree_37 : decode cX11_makeTree 37 = .ok (.aload_n 0, 1) := by decide +kernel
theorem dX11_makeTree_38 : decode cX11_makeTree 38 = .ok (.getfield 196, 3) := by decide +kernel
theorem dX11_makeTree_41 : decode cX11_makeTree 41 = .ok (.if_icmp .ge 82, 3) := by decide +kernel
theorem dX11_makeTree_44 : decode cX11_makeTree 44 = .ok (.aload_n 0, 1) := by decide +kernel
theorem dX11_makeTree_45 : decode cX11_makeTree 45 = .ok (.getfield 87, 3) := by decide +kernel
theorem dX11_makeTree_48 : decode cX11_makeTree 48 = .ok (.iload_n 1, 1) := by decide +kernel
theorem dX11_makeTree_49 : decode cX11_makeTree 49 = .ok (.aload_n 0, 1) := by decide +kernel
theorem dX11_makeTree_50 : decode cX11_makeTree 50 = .ok (.getfield 81, 3) := by decide +kernel
theorem dX11_makeTree_53 : decode cX11_makeTree 53 = .ok (.iload_n 1, 1) := by decide +kernel
theorem dX11_makeTree_54 : decode cX11_makeTree 54 = .ok (.iaload, 1) := by decide +kernel
theorem dX11_makeTree_55 : decode cX11_makeTree 55 = .ok (.iconst 1, 1) := by decide +kernel
theorem dX11_makeTree_56 : decode cX11_makeTree 56 = .ok (.iconst 3, 1) := by decide +kernel
theorem dX11_makeTree_57 : decode cX11_makeTree 57 = .ok (.invokestatic 139, 3) := by decide +kernel
theorem dX11_makeTree_60 : decode cX11_makeTree 60 = .ok (.ifCond .eq 12, 3) := by decide +kernel
theorem dX11_makeTree_63 : decode cX11_makeTree 63 = .ok (.aload_n 0, 1) := by decide +kernel
theorem dX11_makeTree_64 : decode cX11_makeTree 64 = .ok (.getfield 38, 3) := by decide +kernel
theorem dX11_makeTree_67 : decode cX11_makeTree 67 = .ok (.iconst 2, 1) := by decide +kernel
theorem dX11_makeTree_68 : decode cX11_makeTree 68 = .ok (.iaload, 1) := by decide +kernel
theorem dX11_makeTree_69 : decode cX11_makeTree 69 = .ok (.goto 4, 3) := by decide +kernel
theorem dX11_makeTree_72 : decode cX11_makeTree 72 = .ok (.iconst 0, 1) := by decide +kernel
theorem dX11_makeTree_73 : decode cX11_makeTree 73 = .ok (.iastore, 1) := by decide +kernel
theorem dX11_makeTree_74 : decode cX11_makeTree 74 = .ok (.iconst 0, 1) := by decide +kernel
theorem dX11_makeTree_75 : decode cX11_makeTree 75 = .ok (.istore_n 2, 1) := by decide +kernel
theorem dX11_makeTree_76 : decode cX11_makeTree 76 = .ok (.iload_n 2, 1) := by decide +kernel
theorem dX11_makeTree_77 : decode cX11_makeTree 77 = .ok (.aload_n 0, 1) := by decide +kernel
theorem dX11_makeTree_78 : decode cX11_makeTree 78 = .ok (.getfield 196, 3) := by decide +kernel
theorem dX11_makeTree_81 : decode cX11_makeTree 81 = .ok (.if_icmp .ge 36, 3) := by decide +kernel
theorem dX11_makeTree_84 : decode cX11_makeTree 84 = .ok (.aload_n 0, 1) := by decide +kernel
theorem dX11_makeTree_85 : decode cX11_makeTree 85 = .ok (.getfield 84, 3) := by decide +kernel
theorem dX11_makeTree_88 : decode cX11_makeTree 88 = .ok (.bipush 24, 2) := by decide +kernel
theorem dX11_makeTree_90 : decode cX11_makeTree 90 = .ok (.iload_n 1, 1) := by decide +kernel
theorem dX11_makeTree_91 : decode cX11_makeTree 91 = .ok (.imul, 1) := by decide +kernel
theorem dX11_makeTree_92 : decode cX11_makeTree 92 = .ok (.iload_n 2, 1) := by decide +kernel
theorem dX11_makeTree_93 : decode cX11_makeTree 93 = .ok (.iadd, 1) := by decide +kernel
theorem dX11_makeTree_94 : decode cX11_makeTree 94 = .ok (.iload_n 1, 1) := by decide +kernel
theorem dX11_makeTree_95 : decode cX11_makeTree 95 = .ok (.iload_n 2, 1) := by decide +kernel
theorem dX11_makeTree_96 : decode cX11_makeTree 96 = .ok (.if_icmp .ne 8, 3) := by decide +kernel
theorem dX11_makeTree_99 : decode cX11_makeTree 99 = .ok (.ldc 218, 2) := by decide +kernel
theorem dX11_makeTree_101 : decode cX11_makeTree 101 = .ok (.goto 9, 3) := by decide +kernel
theorem dX11_makeTree_104 : decode cX11_makeTree 104 = .ok (.aload_n 0, 1) := by decide +kernel
theorem dX11_makeTree_105 : decode cX11_makeTree 105 = .ok (.iload_n 1, 1) := by decide +kernel
theorem dX11_makeTree_106 : decode cX11_makeTree 106 = .ok (.iload_n 2, 1) := by decide +kernel
theorem dX11_makeTree_107 : decode cX11_makeTree 107 = .ok (.invokevirtual 226, 3) := by decide +kernel
end
section
theorem dX11_makeTree_110 : decode cX11_makeTree 110 = .ok (.iastore, 1) := by decide +kernel
theorem dX11_makeTree_111 : decode cX11_makeTree 111 = .ok (.iinc 2 1, 3) := by decide +kernel
theorem dX11_makeTree_114 : decode cX11_makeTree 114 = .ok (.goto (-38), 3) := by decide +kernel
theorem dX11_makeTree_117 : decode cX11_makeTree 117 = .ok (.iinc 1 1, 3) := by decide +kernel
theorem dX11_makeTree_120 : decode cX11_makeTree 120 = .ok (.goto (-84), 3) := by decide +kernel
theorem dX11_makeTree_123 : decode cX11_makeTree 123 = .ok (.aload_n 0, 1) := by decide +kernel
theorem dX11_makeTree_124 : decode cX11_makeTree 124 = .ok (.invokevirtual 229, 3) := by decide +kernel
theorem dX11_makeTree_127 : decode cX11_makeTree 127 = .ok (.aload_n 0, 1) := by decide +kernel
theorem dX11_makeTree_128 : decode cX11_makeTree 128 = .ok (.aload_n 0, 1) := by decide +kernel
theorem dX11_makeTree_129 : decode cX11_makeTree 129 = .ok (.invokevirtual 232, 3) := by decide +kernel
theorem dX11_makeTree_132 : decode cX11_makeTree 132 = .ok (.putfield 236, 3) := by decide +kernel
theorem dX11_makeTree_135 : decode cX11_makeTree 135 = .ok (.iconst 0, 1) := by decide +kernel
theorem dX11_makeTree_136 : decode cX11_makeTree 136 = .ok (.istore_n 1, 1) := by decide +kernel
theorem dX11_makeTree_137 : decode cX11_makeTree 137 = .ok (.iload_n 1, 1) := by decide +kernel
theorem dX11_makeTree_138 : decode cX11_makeTree 138 = .ok (.aload_n 0, 1) := by decide +kernel
theorem dX11_makeTree_139 : decode cX11_makeTree 139 = .ok (.getfield 196, 3) := by decide +kernel
theorem dX11_makeTree_142 : decode cX11_makeTree 142 = .ok (.if_icmp .ge 47, 3) := by decide +kernel
theorem dX11_makeTree_145 : decode cX11_makeTree 145 = .ok (.iconst (-1), 1) := by decide +kernel
theorem dX11_makeTree_146 : decode cX11_makeTree 146 = .ok (.istore_n 2, 1) := by decide +kernel
theorem dX11_makeTree_147 : decode cX11_makeTree 147 = .ok (.aload_n 0, 1) := by decide +kernel
theorem dX11_makeTree_148 : decode cX11_makeTree 148 = .ok (.iload_n 1, 1) := by decide +kernel
theorem dX11_makeTree_149 : decode cX11_makeTree 149 = .ok (.iload_n 2, 1) := by decide +kernel
theorem dX11_makeTree_150 : decode cX11_makeTree 150 = .ok (.invokevirtual 239, 3) := by decide +kernel
theorem dX11_makeTree_153 : decode cX11_makeTree 153 = .ok (.aload_n 0, 1) := by decide +kernel
theorem dX11_makeTree_154 : decode cX11_makeTree 154 = .ok (.invokevirtual 232, 3) := by decide +kernel
theorem dX11_makeTree_157 : decode cX11_makeTree 157 = .ok (.aload_n 0, 1) := by decide +kernel
theorem dX11_makeTree_158 : decode cX11_makeTree 158 = .ok (.getfield 236, 3) := by decide +kernel
theorem dX11_makeTree_161 : decode cX11_makeTree 161 = .ok (.if_icmp .eq 15, 3) := by decide +kernel
theorem dX11_makeTree_164 : decode cX11_makeTree 164 = .ok (.iinc 2 1, 3) := by decide +kernel
theorem dX11_makeTree_167 : decode cX11_makeTree 167 = .ok (.aload_n 0, 1) := by decide +kernel
theorem dX11_makeTree_168 : decode cX11_makeTree 168 = .ok (.iload_n 1, 1) := by decide +kernel
theorem dX11_makeTree_169 : decode cX11_makeTree 169 = .ok (.iload_n 2, 1) := by decide +kernel
theorem dX11_makeTree_170 : decode cX11_makeTree 170 = .ok (.invokevirtual 239, 3) := by decide +kernel
theorem dX11_makeTree_173 : decode cX11_makeTree 173 = .ok (.goto (-20), 3) := by decide +kernel
theorem dX11_makeTree_176 : decode cX11_makeTree 176 = .ok (.aload_n 0, 1) := by decide +kernel
theorem dX11_makeTree_177 : decode cX11_makeTree 177 = .ok (.getfield 100, 3) := by decide +kernel
theorem dX11_makeTree_180 : decode cX11_makeTree 180 = .ok (.iload_n 1, 1) := by decide +kernel
theorem dX11_makeTree_181 : decode cX11_makeTree 181 = .ok (.iload_n 2, 1) := by decide +kernel
theorem dX11_makeTree_182 : decode cX11_makeTree 182 = .ok (.iastore, 1) := by decide +kernel
theorem dX11_makeTree_183 : decode cX11_makeTree 183 = .ok (.iinc 1 1, 3) := by decide +kernel
theorem dX11_makeTree_186 : decode cX11_makeTree 186 = .ok (.goto (-49), 3) := by decide +kernel
theorem dX11_makeTree_189 : decode cX11_makeTree 189 = .ok (.aload_n 0, 1) := by decide +kernel
theorem dX11_makeTree_190 : decode cX11_makeTree 190 = .ok (.ldc 218, 2) := by decide +kernel
theorem dX11_makeTree_192 : decode cX11_makeTree 192 = .ok (.putfield 243, 3) := by decide +kernel
theorem dX11_makeTree_195 : decode cX11_makeTree 195 = .ok (.aload_n 0, 1) := by decide +kernel
theorem dX11_makeTree_196 : decode cX11_makeTree 196 = .ok (.invokevirtual 229, 3) := by decide +kernel
theorem dX11_makeTree_199 : decode cX11_makeTree 199 = .ok (.iconst 0, 1) := by decide +kernel
theorem dX11_makeTree_200 : decode cX11_makeTree 200 = .ok (.istore_n 1, 1) := by decide +kernel
theorem dX11_makeTree_201 : decode cX11_makeTree 201 = .ok (.iload_n 1, 1) := by decide +kernel
theorem dX11_makeTree_202 : decode cX11_makeTree 202 = .ok (.aload_n 0, 1) := by decide +kernel
theorem dX11_makeTree_203 : decode cX11_makeTree 203 = .ok (.getfield 196, 3) := by decide +kernel
theorem dX11_makeTree_206 : decode cX11_makeTree 206 = .ok (.if_icmp .ge 72, 3) := by decide +kernel
theorem dX11_makeTree_209 : decode cX11_makeTree 209 = .ok (.aload_n 0, 1) := by decide +kernel
theorem dX11_makeTree_210 : decode cX11_makeTree 210 = .ok (.getfield 90, 3) := by decide +kernel
theorem dX11_makeTree_213 : decode cX11_makeTree 213 = .ok (.bipush 25, 2) := by decide +kernel
theorem dX11_makeTree_215 : decode cX11_makeTree 215 = .ok (.iload_n 1, 1) := by decide +kernel
theorem dX11_makeTree_216 : decode cX11_makeTree 216 = .ok (.imul, 1) := by decide +kernel
theorem dX11_makeTree_217 : decode cX11_makeTree 217 = .ok (.aload_n 0, 1) := by decide +kernel
theorem dX11_makeTree_218 : decode cX11_makeTree 218 = .ok (.getfield 100, 3) := by decide +kernel
theorem dX11_makeTree_221 : decode cX11_makeTree 221 = .ok (.iload_n 1, 1) := by decide +kernel
theorem dX11_makeTree_222 : decode cX11_makeTree 222 = .ok (.iaload, 1) := by decide +kernel
theorem dX11_makeTree_223 : decode cX11_makeTree 223 = .ok (.iadd, 1) := by decide +kernel
theorem dX11_makeTree_224 : decode cX11_makeTree 224 = .ok (.iconst 1, 1) := by decide +kernel
theorem dX11_makeTree_225 : decode cX11_makeTree 225 = .ok (.iadd, 1) := by decide +kernel
theorem dX11_makeTree_226 : decode cX11_makeTree 226 = .ok (.iconst 1, 1) := by decide +kernel
theorem dX11_makeTree_227 : decode cX11_makeTree 227 = .ok (.bastore, 1) := by decide +kernel
theorem dX11_makeTree_228 : decode cX11_makeTree 228 = .ok (.aload_n 0, 1) := by decide +kernel
theorem dX11_makeTree_229 : decode cX11_makeTree 229 = .ok (.invokevirtual 232, 3) := by decide +kernel
theorem dX11_makeTree_232 : decode cX11_makeTree 232 = .ok (.istore_n 2, 1) := by decide +kernel
theorem dX11_makeTree_233 : decode cX11_makeTree 233 = .ok (.aload_n 0, 1) := by decide +kernel
theorem dX11_makeTree_234 : decode cX11_makeTree 234 = .ok (.iload_n 2, 1) := by decide +kernel
theorem dX11_makeTree_235 : decode cX11_makeTree 235 = .ok (.aload_n 0, 1) := by decide +kernel
theorem dX11_makeTree_236 : decode cX11_makeTree 236 = .ok (.getfield 243, 3) := by decide +kernel
theorem dX11_makeTree_239 : decode cX11_makeTree 239 = .ok (.if_icmp .ge 7, 3) := by decide +kernel
theorem dX11_makeTree_242 : decode cX11_makeTree 242 = .ok (.iload_n 2, 1) := by decide +kernel
theorem dX11_makeTree_243 : decode cX11_makeTree 243 = .ok (.goto 7, 3) := by decide +kernel
theorem dX11_makeTree_246 : decode cX11_makeTree 246 = .ok (.aload_n 0, 1) := by decide +kernel
theorem dX11_makeTree_247 : decode cX11_makeTree 247 = .ok (.getfield 243, 3) := by decide +kernel
theorem dX11_makeTree_250 : decode cX11_makeTree 250 = .ok (.putfield 243, 3) := by decide +kernel
theorem dX11_makeTree_253 : decode cX11_makeTree 253 = .ok (.aload_n 0, 1) := by decide +kernel
theorem dX11_makeTree_254 : decode cX11_makeTree 254 = .ok (.getfield 90, 3) := by decide +kernel
theorem dX11_makeTree_257 : decode cX11_makeTree 257 = .ok (.bipush 25, 2) := by decide +kernel
theorem dX11_makeTree_259 : decode cX11_makeTree 259 = .ok (.iload_n 1, 1) := by decide +kernel
theorem dX11_makeTree_260 : decode cX11_makeTree 260 = .ok (.imul, 1) := by decide +kernel
theorem dX11_makeTree_261 : decode cX11_makeTree 261 = .ok (.aload_n 0, 1) := by decide +kernel
theorem dX11_makeTree_262 : decode cX11_makeTree 262 = .ok (.getfield 100, 3) := by decide +kernel
theorem dX11_makeTree_265 : decode cX11_makeTree 265 = .ok (.iload_n 1, 1) := by decide +kernel
theorem dX11_makeTree_266 : decode cX11_makeTree 266 = .ok (.iaload, 1) := by decide +kernel
theorem dX11_makeTree_267 : decode cX11_makeTree 267 = .ok (.iadd, 1) := by decide +kernel
theorem dX11_makeTree_268 : decode cX11_makeTree 268 = .ok (.iconst 1, 1) := by decide +kernel
theorem dX11_makeTree_269 : decode cX11_makeTree 269 = .ok (.iadd, 1) := by decide +kernel
theorem dX11_makeTree_270 : decode cX11_makeTree 270 = .ok (.iconst 0, 1) := by decide +kernel
theorem dX11_makeTree_271 : decode cX11_makeTree 271 = .ok (.bastore, 1) := by decide +kernel
theorem dX11_makeTree_272 : decode cX11_makeTree 272 = .ok (.iinc 1 1, 3) := by decide +kernel
theorem dX11_makeTree_275 : decode cX11_makeTree 275 = .ok (.goto (-74), 3) := by decide +kernel
theorem dX11_makeTree_278 : decode cX11_makeTree 278 = .ok (.return_, 1) := by decide +kernel
theorem dX11_isOf_0 : decode cX11_isOf 0 = .ok (.iload_n 1, 1) := by decide +kernel
theorem dX11_isOf_1 : decode cX11_isOf 1 = .ok (.istore_n 3, 1) := by decide +kernel
theorem dX11_isOf_2 : decode cX11_isOf 2 = .ok (.iload_n 3, 1) := by decide +kernel
theorem dX11_isOf_3 : decode cX11_isOf 3 = .ok (.iconst (-1), 1) := by decide +kernel
theorem dX11_isOf_4 : decode cX11_isOf 4 = .ok (.if_icmp .eq 18, 3) := by decide +kernel
theorem dX11_isOf_7 : decode cX11_isOf 7 = .ok (.iload_n 3, 1) := by decide +kernel
theorem dX11_isOf_8 : decode cX11_isOf 8 = .ok (.iload_n 2, 1) := by decide +kernel
theorem dX11_isOf_9 : decode cX11_isOf 9 = .ok (.if_icmp .eq 13, 3) := by decide +kernel
theorem dX11_isOf_12 : decode cX11_isOf 12 = .ok (.aload_n 0, 1) := by decide +kernel
theorem dX11_isOf_13 : decode cX11_isOf 13 = .ok (.getfield 100, 3) := by decide +kernel
theorem dX11_isOf_16 : decode cX11_isOf 16 = .ok (.iload_n 3, 1) := by decide +kernel
theorem dX11_isOf_17 : decode cX11_isOf 17 = .ok (.iaload, 1) := by decide +kernel
theorem dX11_isOf_18 : decode cX11_isOf 18 = .ok (.istore_n 3, 1) := by decide +kernel
theorem dX11_isOf_19 : decode cX11_isOf 19 = .ok (.goto (-17), 3) := by decide +kernel
theorem dX11_isOf_22 : decode cX11_isOf 22 = .ok (.iload_n 3, 1) := by decide +kernel
theorem dX11_isOf_23 : decode cX11_isOf 23 = .ok (.iload_n 2, 1) := by decide +kernel
theorem dX11_isOf_24 : decode cX11_isOf 24 = .ok (.if_icmp .ne 7, 3) := by decide +kernel
theorem dX11_isOf_27 : decode cX11_isOf 27 = .ok (.iconst 1, 1) := by decide +kernel
theorem dX11_isOf_28 : decode cX11_isOf 28 = .ok (.goto 4, 3) := by decide +kernel
theorem dX11_isOf_31 : decode cX11_isOf 31 = .ok (.iconst 0, 1) := by decide +kernel
theorem dX11_isOf_32 : decode cX11_isOf 32 = .ok (.ireturn, 1) := by decide +kernel
theorem dX11_hanging_0 : decode cX11_hanging 0 = .ok (.iconst 0, 1) := by decide +kernel
theorem dX11_hanging_1 : decode cX11_hanging 1 = .ok (.istore_n 2, 1) := by decide +kernel
theorem dX11_hanging_2 : decode cX11_hanging 2 = .ok (.iconst 0, 1) := by decide +kernel
theorem dX11_hanging_3 : decode cX11_hanging 3 = .ok (.istore_n 3, 1) := by decide +kernel
theorem dX11_hanging_4 : decode cX11_hanging 4 = .ok (.iload_n 3, 1) := by decide +kernel
theorem dX11_hanging_5 : decode cX11_hanging 5 = .ok (.aload_n 0, 1) := by decide +kernel
theorem dX11_hanging_6 : decode cX11_hanging 6 = .ok (.getfield 196, 3) := by decide +kernel
theorem dX11_hanging_9 : decode cX11_hanging 9 = .ok (.if_icmp .ge 27, 3) := by decide +kernel
theorem dX11_hanging_12 : decode cX11_hanging 12 = .ok (.iload_n 2, 1) := by decide +kernel
theorem dX11_hanging_13 : decode cX11_hanging 13 = .ok (.aload_n 0, 1) := by decide +kernel
theorem dX11_hanging_14 : decode cX11_hanging 14 = .ok (.getfield 100, 3) := by decide +kernel
theorem dX11_hanging_17 : decode cX11_hanging 17 = .ok (.iload_n 3, 1) := by decide +kernel
theorem dX11_hanging_18 : decode cX11_hanging 18 = .ok (.iaload, 1) := by decide +kernel
theorem dX11_hanging_19 : decode cX11_hanging 19 = .ok (.iload_n 1, 1) := by decide +kernel
theorem dX11_hanging_20 : decode cX11_hanging 20 = .ok (.if_icmp .ne 7, 3) := by decide +kernel
theorem dX11_hanging_23 : decode cX11_hanging 23 = .ok (.iconst 1, 1) := by decide +kernel
theorem dX11_hanging_24 : decode cX11_hanging 24 = .ok (.goto 4, 3) := by decide +kernel
theorem dX11_hanging_27 : decode cX11_hanging 27 = .ok (.iconst 0, 1) := by decide +kernel
theorem dX11_hanging_28 : decode cX11_hanging 28 = .ok (.iadd, 1) := by decide +kernel
theorem dX11_hanging_29 : decode cX11_hanging 29 = .ok (.istore_n 2, 1) := by decide +kernel
theorem dX11_hanging_30 : decode cX11_hanging 30 = .ok (.iinc 3 1, 3) := by decide +kernel
theorem dX11_hanging_33 : decode cX11_hanging 33 = .ok (.goto (-29), 3) := by decide +kernel
theorem dX11_hanging_36 : decode cX11_hanging 36 = .ok (.iload_n 2, 1) := by decide +kernel
theorem dX11_hanging_37 : decode cX11_hanging 37 = .ok (.ireturn, 1) := by decide +kernel
theorem dX11_partSize_0 : decode cX11_partSize 0 = .ok (.iconst 0, 1) := by decide +kernel
theorem dX11_partSize_1 : decode cX11_partSize 1 = .ok (.istore_n 2, 1) := by decide +kernel
theorem dX11_partSize_2 : decode cX11_partSize 2 = .ok (.iconst 0, 1) := by decide +kernel
theorem dX11_partSize_3 : decode cX11_partSize 3 = .ok (.istore_n 3, 1) := by decide +kernel
theorem dX11_partSize_4 : decode cX11_partSize 4 = .ok (.iload_n 3, 1) := by decide +kernel
theorem dX11_partSize_5 : decode cX11_partSize 5 = .ok (.aload_n 0, 1) := by decide +kernel
theorem dX11_partSize_6 : decode cX11_partSize 6 = .ok (.getfield 196, 3) := by decide +kernel
theorem dX11_partSize_9 : decode cX11_partSize 9 = .ok (.if_icmp .ge 26, 3) := by decide +kernel
theorem dX11_partSize_12 : decode cX11_partSize 12 = .ok (.iload_n 2, 1) := by decide +kernel
theorem dX11_partSize_13 : decode cX11_partSize 13 = .ok (.aload_n 0, 1) := by decide +kernel
theorem dX11_partSize_14 : decode cX11_partSize 14 = .ok (.iload_n 3, 1) := by decide +kernel
theorem dX11_partSize_15 : decode cX11_partSize 15 = .ok (.iload_n 1, 1) := by decide +kernel
theorem dX11_partSize_16 : decode cX11_partSize 16 = .ok (.invokevirtual 246, 3) := by decide +kernel
theorem dX11_partSize_19 : decode cX11_partSize 19 = .ok (.ifCond .eq 7, 3) := by decide +kernel
theorem dX11_partSize_22 : decode cX11_partSize 22 = .ok (.iconst 1, 1) := by decide +kernel
theorem dX11_partSize_23 : decode cX11_partSize 23 = .ok (.goto 4, 3) := by decide +kernel
theorem dX11_partSize_26 : decode cX11_partSize 26 = .ok (.iconst 0, 1) := by decide +kernel
theorem dX11_partSize_27 : decode cX11_partSize 27 = .ok (.iadd, 1) := by decide +kernel
theorem dX11_partSize_28 : decode cX11_partSize 28 = .ok (.istore_n 2, 1) := by decide +kernel
theorem dX11_partSize_29 : decode cX11_partSize 29 = .ok (.iinc 3 1, 3) := by decide +kernel
theorem dX11_partSize_32 : decode cX11_partSize 32 = .ok (.goto (-28), 3) := by decide +kernel
theorem dX11_partSize_35 : decode cX11_partSize 35 = .ok (.iload_n 2, 1) := by decide +kernel
theorem dX11_partSize_36 : decode cX11_partSize 36 = .ok (.ireturn, 1) := by decide +kernel
theorem dX11_partBegin_0 : decode cX11_partBegin 0 = .ok (.iconst 0, 1) := by decide +kernel
theorem dX11_partBegin_1 : decode cX11_partBegin 1 = .ok (.istore_n 2, 1) := by decide +kernel
theorem dX11_partBegin_2 : decode cX11_partBegin 2 = .ok (.aload_n 0, 1) := by decide +kernel
theorem dX11_partBegin_3 : decode cX11_partBegin 3 = .ok (.iload_n 2, 1) := by decide +kernel
theorem dX11_partBegin_4 : decode cX11_partBegin 4 = .ok (.iload_n 1, 1) := by decide +kernel
theorem dX11_partBegin_5 : decode cX11_partBegin 5 = .ok (.invokevirtual 246, 3) := by decide +kernel
theorem dX11_partBegin_8 : decode cX11_partBegin 8 = .ok (.ifCond .ne 9, 3) := by decide +kernel
theorem dX11_partBegin_11 : decode cX11_partBegin 11 = .ok (.iinc 2 1, 3) := by decide +kernel
theorem dX11_partBegin_14 : decode cX11_partBegin 14 = .ok (.goto (-12), 3) := by decide +kernel
theorem dX11_partBegin_17 : decode cX11_partBegin 17 = .ok (.iload_n 2, 1) := by decide +kernel
theorem dX11_partBegin_18 : decode cX11_partBegin 18 = .ok (.ireturn, 1) := by decide +kernel
theorem dX11_sentence_0 : decode cX11_sentence 0 = .ok (.aload_n 0, 1) := by decide +kernel
theorem dX11_sentence_1 : decode cX11_sentence 1 = .ok (.iload_n 1, 1) := by decide +kernel
theorem dX11_sentence_2 : decode cX11_sentence 2 = .ok (.invokevirtual 250, 3) := by decide +kernel
theorem dX11_sentence_5 : decode cX11_sentence 5 = .ok (.ifCond .ne 6, 3) := by decide +kernel
theorem dX11_sentence_8 : decode cX11_sentence 8 = .ok (.bipush (-2), 2) := by decide +kernel
theorem dX11_sentence_10 : decode cX11_sentence 10 = .ok (.ireturn, 1) := by decide +kernel
theorem dX11_sentence_11 : decode cX11_sentence 11 = .ok (.aload_n 0, 1) := by decide +kernel
theorem dX11_sentence_12 : decode cX11_sentence 12 = .ok (.invokevirtual 253, 3) := by decide +kernel
theorem dX11_sentence_15 : decode cX11_sentence 15 = .ok (.iload_n 2, 1) := by decide +kernel
theorem dX11_sentence_16 : decode cX11_sentence 16 = .ok (.tableswitch 107 0 7 #[48, 60, 67, 74, 81, 88, 94, 100], 48) := by decide +kernel
theorem dX11_sentence_64 : decode cX11_sentence 64 = .ok (.aload_n 0, 1) := by decide +kernel
theorem dX11_sentence_65 : decode cX11_sentence 65 = .ok (.getfield 47, 3) := by decide +kernel
theorem dX11_sentence_68 : decode cX11_sentence 68 = .ok (.aload_n 0, 1) := by decide +kernel
theorem dX11_sentence_69 : decode cX11_sentence 69 = .ok (.getfield 65, 3) := by decide +kernel
theorem dX11_sentence_72 : decode cX11_sentence 72 = .ok (.iload_n 1, 1) := by decide +kernel
theorem dX11_sentence_73 : decode cX11_sentence 73 = .ok (.iaload, 1) := by decide +kernel
theorem dX11_sentence_74 : decode cX11_sentence 74 = .ok (.iaload, 1) := by decide +kernel
theorem dX11_sentence_75 : decode cX11_sentence 75 = .ok (.ireturn, 1) := by decide +kernel
theorem dX11_sentence_76 : decode cX11_sentence 76 = .ok (.aload_n 0, 1) := by decide +kernel
theorem dX11_sentence_77 : decode cX11_sentence 77 = .ok (.getfield 78, 3) := by decide +kernel
theorem dX11_sentence_80 : decode cX11_sentence 80 = .ok (.iload_n 1, 1) := by decide +kernel
theorem dX11_sentence_81 : decode cX11_sentence 81 = .ok (.iaload, 1) := by decide +kernel
theorem dX11_sentence_82 : decode cX11_sentence 82 = .ok (.ireturn, 1) := by decide +kernel
theorem dX11_sentence_83 : decode cX11_sentence 83 = .ok (.aload_n 0, 1) := by decide +kernel
theorem dX11_sentence_84 : decode cX11_sentence 84 = .ok (.getfield 81, 3) := by decide +kernel
theorem dX11_sentence_87 : decode cX11_sentence 87 = .ok (.iload_n 1, 1) := by decide +kernel
theorem dX11_sentence_88 : decode cX11_sentence 88 = .ok (.iaload, 1) := by decide +kernel
theorem dX11_sentence_89 : decode cX11_sentence 89 = .ok (.ireturn, 1) := by decide +kernel
theorem dX11_sentence_90 : decode cX11_sentence 90 = .ok (.aload_n 0, 1) := by decide +kernel
theorem dX11_sentence_91 : decode cX11_sentence 91 = .ok (.getfield 62, 3) := by decide +kernel
theorem dX11_sentence_94 : decode cX11_sentence 94 = .ok (.iload_n 1, 1) := by decide +kernel
theorem dX11_sentence_95 : decode cX11_sentence 95 = .ok (.iaload, 1) := by decide +kernel
theorem dX11_sentence_96 : decode cX11_sentence 96 = .ok (.ireturn, 1) := by decide +kernel
theorem dX11_sentence_97 : decode cX11_sentence 97 = .ok (.aload_n 0, 1) := by decide +kernel
theorem dX11_sentence_98 : decode cX11_sentence 98 = .ok (.getfield 100, 3) := by decide +kernel
theorem dX11_sentence_101 : decode cX11_sentence 101 = .ok (.iload_n 1, 1) := by decide +kernel
theorem dX11_sentence_102 : decode cX11_sentence 102 = .ok (.iaload, 1) := by decide +kernel
theorem dX11_sentence_103 : decode cX11_sentence 103 = .ok (.ireturn, 1) := by decide +kernel
theorem dX11_sentence_104 : decode cX11_sentence 104 = .ok (.aload_n 0, 1) := by decide +kernel
theorem dX11_sentence_105 : decode cX11_sentence 105 = .ok (.iload_n 1, 1) := by decide +kernel
theorem dX11_sentence_106 : decode cX11_sentence 106 = .ok (.invokevirtual 256, 3) := by decide +kernel
theorem dX11_sentence_109 : decode cX11_sentence 109 = .ok (.ireturn, 1) := by decide +kernel
theorem dX11_sentence_110 : decode cX11_sentence 110 = .ok (.aload_n 0, 1) := by decide +kernel
theorem dX11_sentence_111 : decode cX11_sentence 111 = .ok (.iload_n 1, 1) := by decide +kernel
theorem dX11_sentence_112 : decode cX11_sentence 112 = .ok (.invokevirtual 259, 3) := by decide +kernel
theorem dX11_sentence_115 : decode cX11_sentence 115 = .ok (.ireturn, 1) := by decide +kernel
theorem dX11_sentence_116 : decode cX11_sentence 116 = .ok (.aload_n 0, 1) := by decide +kernel
theorem dX11_sentence_117 : decode cX11_sentence 117 = .ok (.getfield 65, 3) := by decide +kernel
theorem dX11_sentence_120 : decode cX11_sentence 120 = .ok (.iload_n 1, 1) := by decide +kernel
theorem dX11_sentence_121 : decode cX11_sentence 121 = .ok (.iaload, 1) := by decide +kernel
theorem dX11_sentence_122 : decode cX11_sentence 122 = .ok (.ireturn, 1) := by decide +kernel
theorem dX11_sentence_123 : decode cX11_sentence 123 = .ok (.bipush (-2), 2) := by decide +kernel
theorem dX11_sentence_125 : decode cX11_sentence 125 = .ok (.ireturn, 1) := by decide +kernel
theorem dX11_word_0 : decode cX11_word 0 = .ok (.aload_n 0, 1) := by decide +kernel
theorem dX11_word_1 : decode cX11_word 1 = .ok (.iload_n 1, 1) := by decide +kernel
theorem dX11_word_2 : decode cX11_word 2 = .ok (.invokevirtual 250, 3) := by decide +kernel
theorem dX11_word_5 : decode cX11_word 5 = .ok (.ifCond .eq 50, 3) := by decide +kernel
theorem dX11_word_8 : decode cX11_word 8 = .ok (.iload_n 2, 1) := by decide +kernel
theorem dX11_word_9 : decode cX11_word 9 = .ok (.iconst 0, 1) := by decide +kernel
theorem dX11_word_10 : decode cX11_word 10 = .ok (.aload_n 0, 1) := by decide +kernel
theorem dX11_word_11 : decode cX11_word 11 = .ok (.getfield 47, 3) := by decide +kernel
theorem dX11_word_14 : decode cX11_word 14 = .ok (.aload_n 0, 1) := by decide +kernel
theorem dX11_word_15 : decode cX11_word 15 = .ok (.getfield 65, 3) := by decide +kernel
theorem dX11_word_18 : decode cX11_word 18 = .ok (.iload_n 1, 1) := by decide +kernel
theorem dX11_word_19 : decode cX11_word 19 = .ok (.iaload, 1) := by decide +kernel
theorem dX11_word_20 : decode cX11_word 20 = .ok (.iaload, 1) := by decide +kernel
theorem dX11_word_21 : decode cX11_word 21 = .ok (.iconst 1, 1) := by decide +kernel
theorem dX11_word_22 : decode cX11_word 22 = .ok (.isub, 1) := by decide +kernel
theorem dX11_word_23 : decode cX11_word 23 = .ok (.invokestatic 139, 3) := by decide +kernel
theorem dX11_word_26 : decode cX11_word 26 = .ok (.ifCond .eq 29, 3) := by decide +kernel
theorem dX11_word_29 : decode cX11_word 29 = .ok (.iload_n 3, 1) := by decide +kernel
theorem dX11_word_30 : decode cX11_word 30 = .ok (.iconst 0, 1) := by decide +kernel
theorem dX11_word_31 : decode cX11_word 31 = .ok (.aload_n 0, 1) := by decide +kernel
theorem dX11_word_32 : decode cX11_word 32 = .ok (.getfield 44, 3) := by decide +kernel
theorem dX11_word_35 : decode cX11_word 35 = .ok (.bipush 40, 2) := by decide +kernel
theorem dX11_word_37 : decode cX11_word 37 = .ok (.aload_n 0, 1) := by decide +kernel
theorem dX11_word_38 : decode cX11_word 38 = .ok (.getfield 65, 3) := by decide +kernel
theorem dX11_word_41 : decode cX11_word 41 = .ok (.iload_n 1, 1) := by decide +kernel
theorem dX11_word_42 : decode cX11_word 42 = .ok (.iaload, 1) := by decide +kernel
theorem dX11_word_43 : decode cX11_word 43 = .ok (.imul, 1) := by decide +kernel
theorem dX11_word_44 : decode cX11_word 44 = .ok (.iload_n 2, 1) := by decide +kernel
theorem dX11_word_45 : decode cX11_word 45 = .ok (.iadd, 1) := by decide +kernel
theorem dX11_word_46 : decode cX11_word 46 = .ok (.iaload, 1) := by decide +kernel
theorem dX11_word_47 : decode cX11_word 47 = .ok (.iconst 1, 1) := by decide +kernel
theorem dX11_word_48 : decode cX11_word 48 = .ok (.isub, 1) := by decide +kernel
theorem dX11_word_49 : decode cX11_word 49 = .ok (.invokestatic 139, 3) := by decide +kernel
theorem dX11_word_52 : decode cX11_word 52 = .ok (.ifCond .ne 5, 3) := by decide +kernel
theorem dX11_word_55 : decode cX11_word 55 = .ok (.iconst (-1), 1) := by decide +kernel
theorem dX11_word_56 : decode cX11_word 56 = .ok (.ireturn, 1) := by decide +kernel
theorem dX11_word_57 : decode cX11_word 57 = .ok (.aload_n 0, 1) := by decide +kernel
theorem dX11_word_58 : decode cX11_word 58 = .ok (.getfield 41, 3) := by decide +kernel
theorem dX11_word_61 : decode cX11_word 61 = .ok (.bipush 16, 2) := by decide +kernel
theorem dX11_word_63 : decode cX11_word 63 = .ok (.bipush 40, 2) := by decide +kernel
theorem dX11_word_65 : decode cX11_word 65 = .ok (.aload_n 0, 1) := by decide +kernel
theorem dX11_word_66 : decode cX11_word 66 = .ok (.getfield 65, 3) := by decide +kernel
theorem dX11_word_69 : decode cX11_word 69 = .ok (.iload_n 1, 1) := by decide +kernel
theorem dX11_word_70 : decode cX11_word 70 = .ok (.iaload, 1) := by decide +kernel
theorem dX11_word_71 : decode cX11_word 71 = .ok (.imul, 1) := by decide +kernel
theorem dX11_word_72 : decode cX11_word 72 = .ok (.iload_n 2, 1) := by decide +kernel
theorem dX11_word_73 : decode cX11_word 73 = .ok (.iadd, 1) := by decide +kernel
theorem dX11_word_74 : decode cX11_word 74 = .ok (.imul, 1) := by decide +kernel
theorem dX11_word_75 : decode cX11_word 75 = .ok (.iload_n 3, 1) := by decide +kernel
theorem dX11_word_76 : decode cX11_word 76 = .ok (.iadd, 1) := by decide +kernel
theorem dX11_word_77 : decode cX11_word 77 = .ok (.baload, 1) := by decide +kernel
theorem dX11_word_78 : decode cX11_word 78 = .ok (.ireturn, 1) := by decide +kernel
theorem dX11_shared_0 : decode cX11_shared 0 = .ok (.aload_n 0, 1) := by decide +kernel
theorem dX11_shared_1 : decode cX11_shared 1 = .ok (.iload_n 1, 1) := by decide +kernel
theorem dX11_shared_2 : decode cX11_shared 2 = .ok (.invokevirtual 250, 3) := by decide +kernel
theorem dX11_shared_5 : decode cX11_shared 5 = .ok (.ifCond .eq 11, 3) := by decide +kernel
theorem dX11_shared_8 : decode cX11_shared 8 = .ok (.aload_n 0, 1) := by decide +kernel
theorem dX11_shared_9 : decode cX11_shared 9 = .ok (.iload_n 2, 1) := by decide +kernel
theorem dX11_shared_10 : decode cX11_shared 10 = .ok (.invokevirtual 250, 3) := by decide +kernel
theorem dX11_shared_13 : decode cX11_shared 13 = .ok (.ifCond .ne 6, 3) := by decide +kernel
theorem dX11_shared_16 : decode cX11_shared 16 = .ok (.bipush (-2), 2) := by decide +kernel
theorem dX11_shared_18 : decode cX11_shared 18 = .ok (.ireturn, 1) := by decide +kernel
theorem dX11_shared_19 : decode cX11_shared 19 = .ok (.aload_n 0, 1) := by decide +kernel
theorem dX11_shared_20 : decode cX11_shared 20 = .ok (.invokevirtual 253, 3) := by decide +kernel
theorem dX11_shared_23 : decode cX11_shared 23 = .ok (.aload_n 0, 1) := by decide +kernel
theorem dX11_shared_24 : decode cX11_shared 24 = .ok (.iload_n 1, 1) := by decide +kernel
theorem dX11_shared_25 : decode cX11_shared 25 = .ok (.iload_n 2, 1) := by decide +kernel
theorem dX11_shared_26 : decode cX11_shared 26 = .ok (.invokevirtual 215, 3) := by decide +kernel
theorem dX11_shared_29 : decode cX11_shared 29 = .ok (.ireturn, 1) := by decide +kernel
theorem dX11_cost_0 : decode cX11_cost 0 = .ok (.aload_n 0, 1) := by decide +kernel
theorem dX11_cost_1 : decode cX11_cost 1 = .ok (.iload_n 1, 1) := by decide +kernel
theorem dX11_cost_2 : decode cX11_cost 2 = .ok (.invokevirtual 250, 3) := by decide +kernel
theorem dX11_cost_5 : decode cX11_cost 5 = .ok (.ifCond .eq 16, 3) := by decide +kernel
theorem dX11_cost_8 : decode cX11_cost 8 = .ok (.aload_n 0, 1) := by decide +kernel
theorem dX11_cost_9 : decode cX11_cost 9 = .ok (.iload_n 2, 1) := by decide +kernel
theorem dX11_cost_10 : decode cX11_cost 10 = .ok (.invokevirtual 250, 3) := by decide +kernel
theorem dX11_cost_13 : decode cX11_cost 13 = .ok (.ifCond .eq 8, 3) := by decide +kernel
theorem dX11_cost_16 : decode cX11_cost 16 = .ok (.iload_n 1, 1) := by decide +kernel
theorem dX11_cost_17 : decode cX11_cost 17 = .ok (.iload_n 2, 1) := by decide +kernel
theorem dX11_cost_18 : decode cX11_cost 18 = .ok (.if_icmp .ne 6, 3) := by decide +kernel
theorem dX11_cost_21 : decode cX11_cost 21 = .ok (.bipush (-2), 2) := by decide +kernel
theorem dX11_cost_23 : decode cX11_cost 23 = .ok (.ireturn, 1) := by decide +kernel
theorem dX11_cost_24 : decode cX11_cost 24 = .ok (.aload_n 0, 1) := by decide +kernel
theorem dX11_cost_25 : decode cX11_cost 25 = .ok (.invokevirtual 253, 3) := by decide +kernel
theorem dX11_cost_28 : decode cX11_cost 28 = .ok (.aload_n 0, 1) := by decide +kernel
theorem dX11_cost_29 : decode cX11_cost 29 = .ok (.getfield 84, 3) := by decide +kernel
theorem dX11_cost_32 : decode cX11_cost 32 = .ok (.bipush 24, 2) := by decide +kernel
theorem dX11_cost_34 : decode cX11_cost 34 = .ok (.iload_n 1, 1) := by decide +kernel
theorem dX11_cost_35 : decode cX11_cost 35 = .ok (.imul, 1) := by decide +kernel
theorem dX11_cost_36 : decode cX11_cost 36 = .ok (.iload_n 2, 1) := by decide +kernel
theorem dX11_cost_37 : decode cX11_cost 37 = .ok (.iadd, 1) := by decide +kernel
theorem dX11_cost_38 : decode cX11_cost 38 = .ok (.iaload, 1) := by decide +kernel
theorem dX11_cost_39 : decode cX11_cost 39 = .ok (.ireturn, 1) := by decide +kernel
theorem dX11_tree_0 : decode cX11_tree 0 = .ok (.aload_n 0, 1) := by decide +kernel
theorem dX11_tree_1 : decode cX11_tree 1 = .ok (.getfield 196, 3) := by decide +kernel
theorem dX11_tree_4 : decode cX11_tree 4 = .ok (.ifCond .ne 5, 3) := by decide +kernel
theorem dX11_tree_7 : decode cX11_tree 7 = .ok (.iconst (-1), 1) := by decide +kernel
theorem dX11_tree_8 : decode cX11_tree 8 = .ok (.ireturn, 1) := by decide +kernel
theorem dX11_tree_9 : decode cX11_tree 9 = .ok (.aload_n 0, 1) := by decide +kernel
theorem dX11_tree_10 : decode cX11_tree 10 = .ok (.invokevirtual 253, 3) := by decide +kernel
theorem dX11_tree_13 : decode cX11_tree 13 = .ok (.aload_n 0, 1) := by decide +kernel
theorem dX11_tree_14 : decode cX11_tree 14 = .ok (.getfield 236, 3) := by decide +kernel
theorem dX11_tree_17 : decode cX11_tree 17 = .ok (.ireturn, 1) := by decide +kernel
theorem dX11_next_0 : decode cX11_next 0 = .ok (.aload_n 0, 1) := by decide +kernel
theorem dX11_next_1 : decode cX11_next 1 = .ok (.getfield 196, 3) := by decide +kernel
theorem dX11_next_4 : decode cX11_next 4 = .ok (.ifCond .ne 5, 3) := by decide +kernel
theorem dX11_next_7 : decode cX11_next 7 = .ok (.iconst (-1), 1) := by decide +kernel
theorem dX11_next_8 : decode cX11_next 8 = .ok (.ireturn, 1) := by decide +kernel
theorem dX11_next_9 : decode cX11_next 9 = .ok (.aload_n 0, 1) := by decide +kernel
theorem dX11_next_10 : decode cX11_next 10 = .ok (.invokevirtual 253, 3) := by decide +kernel
theorem dX11_next_13 : decode cX11_next 13 = .ok (.aload_n 0, 1) := by decide +kernel
theorem dX11_next_14 : decode cX11_next 14 = .ok (.getfield 243, 3) := by decide +kernel
theorem dX11_next_17 : decode cX11_next 17 = .ok (.ldc 218, 2) := by decide +kernel
theorem dX11_next_19 : decode cX11_next 19 = .ok (.if_icmp .lt 7, 3) := by decide +kernel
theorem dX11_next_22 : decode cX11_next 22 = .ok (.iconst (-1), 1) := by decide +kernel
theorem dX11_next_23 : decode cX11_next 23 = .ok (.goto 7, 3) := by decide +kernel
theorem dX11_next_26 : decode cX11_next 26 = .ok (.aload_n 0, 1) := by decide +kernel
theorem dX11_next_27 : decode cX11_next 27 = .ok (.getfield 243, 3) := by decide +kernel
theorem dX11_next_30 : decode cX11_next 30 = .ok (.ireturn, 1) := by decide +kernel
theorem dX11_findingOf_0 : decode cX11_findingOf 0 = .ok (.aload_n 0, 1) := by decide +kernel
theorem dX11_findingOf_1 : decode cX11_findingOf 1 = .ok (.getfield 81, 3) := by decide +kernel
theorem dX11_findingOf_4 : decode cX11_findingOf 4 = .ok (.iload_n 1, 1) := by decide +kernel
theorem dX11_findingOf_5 : decode cX11_findingOf 5 = .ok (.iaload, 1) := by decide +kernel
theorem dX11_findingOf_6 : decode cX11_findingOf 6 = .ok (.ifCond .eq 13, 3) := by decide +kernel
theorem dX11_findingOf_9 : decode cX11_findingOf 9 = .ok (.aload_n 0, 1) := by decide +kernel
theorem dX11_findingOf_10 : decode cX11_findingOf 10 = .ok (.getfield 81, 3) := by decide +kernel
theorem dX11_findingOf_13 : decode cX11_findingOf 13 = .ok (.iload_n 1, 1) := by decide +kernel
theorem dX11_findingOf_14 : decode cX11_findingOf 14 = .ok (.iaload, 1) := by decide +kernel
theorem dX11_findingOf_15 : decode cX11_findingOf 15 = .ok (.iconst 4, 1) := by decide +kernel
theorem dX11_findingOf_16 : decode cX11_findingOf 16 = .ok (.if_icmp .ne 7, 3) := by decide +kernel
theorem dX11_findingOf_19 : decode cX11_findingOf 19 = .ok (.iconst 1, 1) := by decide +kernel
theorem dX11_findingOf_20 : decode cX11_findingOf 20 = .ok (.goto 4, 3) := by decide +kernel
theorem dX11_findingOf_23 : decode cX11_findingOf 23 = .ok (.iconst 0, 1) := by decide +kernel
theorem dX11_findingOf_24 : decode cX11_findingOf 24 = .ok (.istore_n 2, 1) := by decide +kernel
theorem dX11_findingOf_25 : decode cX11_findingOf 25 = .ok (.iconst 0, 1) := by decide +kernel
theorem dX11_findingOf_26 : decode cX11_findingOf 26 = .ok (.istore_n 3, 1) := by decide +kernel
theorem dX11_findingOf_27 : decode cX11_findingOf 27 = .ok (.iconst 0, 1) := by decide +kernel
theorem dX11_findingOf_28 : decode cX11_findingOf 28 = .ok (.istore 4, 2) := by decide +kernel
theorem dX11_findingOf_30 : decode cX11_findingOf 30 = .ok (.iload 4, 2) := by decide +kernel
theorem dX11_findingOf_32 : decode cX11_findingOf 32 = .ok (.aload_n 0, 1) := by decide +kernel
theorem dX11_findingOf_33 : decode cX11_findingOf 33 = .ok (.getfield 196, 3) := by decide +kernel
theorem dX11_findingOf_36 : decode cX11_findingOf 36 = .ok (.if_icmp .ge 125, 3) := by decide +kernel
theorem dX11_findingOf_39 : decode cX11_findingOf 39 = .ok (.aload_n 0, 1) := by decide +kernel
theorem dX11_findingOf_40 : decode cX11_findingOf 40 = .ok (.getfield 100, 3) := by decide +kernel
theorem dX11_findingOf_43 : decode cX11_findingOf 43 = .ok (.iload 4, 2) := by decide +kernel
theorem dX11_findingOf_45 : decode cX11_findingOf 45 = .ok (.iaload, 1) := by decide +kernel
theorem dX11_findingOf_46 : decode cX11_findingOf 46 = .ok (.iload_n 1, 1) := by decide +kernel
theorem dX11_findingOf_47 : decode cX11_findingOf 47 = .ok (.if_icmp .ne 27, 3) := by decide +kernel
theorem dX11_findingOf_50 : decode cX11_findingOf 50 = .ok (.aload_n 0, 1) := by decide +kernel
theorem dX11_findingOf_51 : decode cX11_findingOf 51 = .ok (.getfield 81, 3) := by decide +kernel
theorem dX11_findingOf_54 : decode cX11_findingOf 54 = .ok (.iload 4, 2) := by decide +kernel
theorem dX11_findingOf_56 : decode cX11_findingOf 56 = .ok (.iaload, 1) := by decide +kernel
theorem dX11_findingOf_57 : decode cX11_findingOf 57 = .ok (.iconst 1, 1) := by decide +kernel
theorem dX11_findingOf_58 : decode cX11_findingOf 58 = .ok (.if_icmp .eq 14, 3) := by decide +kernel
theorem dX11_findingOf_61 : decode cX11_findingOf 61 = .ok (.aload_n 0, 1) := by decide +kernel
theorem dX11_findingOf_62 : decode cX11_findingOf 62 = .ok (.getfield 81, 3) := by decide +kernel
theorem dX11_findingOf_65 : decode cX11_findingOf 65 = .ok (.iload 4, 2) := by decide +kernel
theorem dX11_findingOf_67 : decode cX11_findingOf 67 = .ok (.iaload, 1) := by decide +kernel
theorem dX11_findingOf_68 : decode cX11_findingOf 68 = .ok (.iconst 3, 1) := by decide +kernel
theorem dX11_findingOf_69 : decode cX11_findingOf 69 = .ok (.if_icmp .ne 5, 3) := by decide +kernel
theorem dX11_findingOf_72 : decode cX11_findingOf 72 = .ok (.iconst 0, 1) := by decide +kernel
theorem dX11_findingOf_73 : decode cX11_findingOf 73 = .ok (.istore_n 2, 1) := by decide +kernel
theorem dX11_findingOf_74 : decode cX11_findingOf 74 = .ok (.iload 4, 2) := by decide +kernel
theorem dX11_findingOf_76 : decode cX11_findingOf 76 = .ok (.iload_n 1, 1) := by decide +kernel
theorem dX11_findingOf_77 : decode cX11_findingOf 77 = .ok (.if_icmp .ge 33, 3) := by decide +kernel
theorem dX11_findingOf_80 : decode cX11_findingOf 80 = .ok (.aload_n 0, 1) := by decide +kernel
theorem dX11_findingOf_81 : decode cX11_findingOf 81 = .ok (.getfield 100, 3) := by decide +kernel
theorem dX11_findingOf_84 : decode cX11_findingOf 84 = .ok (.iload_n 1, 1) := by decide +kernel
theorem dX11_findingOf_85 : decode cX11_findingOf 85 = .ok (.iaload, 1) := by decide +kernel
theorem dX11_findingOf_86 : decode cX11_findingOf 86 = .ok (.iconst (-1), 1) := by decide +kernel
theorem dX11_findingOf_87 : decode cX11_findingOf 87 = .ok (.if_icmp .eq 23, 3) := by decide +kernel
theorem dX11_findingOf_90 : decode cX11_findingOf 90 = .ok (.aload_n 0, 1) := by decide +kernel
theorem dX11_findingOf_91 : decode cX11_findingOf 91 = .ok (.getfield 100, 3) := by decide +kernel
theorem dX11_findingOf_94 : decode cX11_findingOf 94 = .ok (.iload 4, 2) := by decide +kernel
theorem dX11_findingOf_96 : decode cX11_findingOf 96 = .ok (.iaload, 1) := by decide +kernel
theorem dX11_findingOf_97 : decode cX11_findingOf 97 = .ok (.aload_n 0, 1) := by decide +kernel
theorem dX11_findingOf_98 : decode cX11_findingOf 98 = .ok (.getfield 100, 3) := by decide +kernel
theorem dX11_findingOf_101 : decode cX11_findingOf 101 = .ok (.iload_n 1, 1) := by decide +kernel
theorem dX11_findingOf_102 : decode cX11_findingOf 102 = .ok (.iaload, 1) := by decide +kernel
theorem dX11_findingOf_103 : decode cX11_findingOf 103 = .ok (.if_icmp .ne 7, 3) := by decide +kernel
theorem dX11_findingOf_106 : decode cX11_findingOf 106 = .ok (.iconst 1, 1) := by decide +kernel
theorem dX11_findingOf_107 : decode cX11_findingOf 107 = .ok (.goto 4, 3) := by decide +kernel
theorem dX11_findingOf_110 : decode cX11_findingOf 110 = .ok (.iconst 0, 1) := by decide +kernel
theorem dX11_findingOf_111 : decode cX11_findingOf 111 = .ok (.istore 5, 2) := by decide +kernel
theorem dX11_findingOf_113 : decode cX11_findingOf 113 = .ok (.iload_n 3, 1) := by decide +kernel
theorem dX11_findingOf_114 : decode cX11_findingOf 114 = .ok (.ifCond .ne 35, 3) := by decide +kernel
theorem dX11_findingOf_117 : decode cX11_findingOf 117 = .ok (.iload 5, 2) := by decide +kernel
theorem dX11_findingOf_119 : decode cX11_findingOf 119 = .ok (.ifCond .eq 34, 3) := by decide +kernel
theorem dX11_findingOf_122 : decode cX11_findingOf 122 = .ok (.aload_n 0, 1) := by decide +kernel
theorem dX11_findingOf_123 : decode cX11_findingOf 123 = .ok (.getfield 78, 3) := by decide +kernel
theorem dX11_findingOf_126 : decode cX11_findingOf 126 = .ok (.iload_n 1, 1) := by decide +kernel
theorem dX11_findingOf_127 : decode cX11_findingOf 127 = .ok (.iaload, 1) := by decide +kernel
theorem dX11_findingOf_128 : decode cX11_findingOf 128 = .ok (.ifCond .le 25, 3) := by decide +kernel
theorem dX11_findingOf_131 : decode cX11_findingOf 131 = .ok (.iconst 2, 1) := by decide +kernel
theorem dX11_findingOf_132 : decode cX11_findingOf 132 = .ok (.aload_n 0, 1) := by decide +kernel
theorem dX11_findingOf_133 : decode cX11_findingOf 133 = .ok (.iload_n 1, 1) := by decide +kernel
theorem dX11_findingOf_134 : decode cX11_findingOf 134 = .ok (.iload 4, 2) := by decide +kernel
theorem dX11_findingOf_136 : decode cX11_findingOf 136 = .ok (.invokevirtual 215, 3) := by decide +kernel
theorem dX11_findingOf_139 : decode cX11_findingOf 139 = .ok (.imul, 1) := by decide +kernel
theorem dX11_findingOf_140 : decode cX11_findingOf 140 = .ok (.aload_n 0, 1) := by decide +kernel
theorem dX11_findingOf_141 : decode cX11_findingOf 141 = .ok (.getfield 78, 3) := by decide +kernel
theorem dX11_findingOf_144 : decode cX11_findingOf 144 = .ok (.iload_n 1, 1) := by decide +kernel
theorem dX11_findingOf_145 : decode cX11_findingOf 145 = .ok (.iaload, 1) := by decide +kernel
theorem dX11_findingOf_146 : decode cX11_findingOf 146 = .ok (.if_icmp .lt 7, 3) := by decide +kernel
theorem dX11_findingOf_149 : decode cX11_findingOf 149 = .ok (.iconst 1, 1) := by decide +kernel
theorem dX11_findingOf_150 : decode cX11_findingOf 150 = .ok (.goto 4, 3) := by decide +kernel
theorem dX11_findingOf_153 : decode cX11_findingOf 153 = .ok (.iconst 0, 1) := by decide +kernel
theorem dX11_findingOf_154 : decode cX11_findingOf 154 = .ok (.istore_n 3, 1) := by decide +kernel
theorem dX11_findingOf_155 : decode cX11_findingOf 155 = .ok (.iinc 4 1, 3) := by decide +kernel
theorem dX11_findingOf_158 : decode cX11_findingOf 158 = .ok (.goto (-128), 3) := by decide +kernel
theorem dX11_findingOf_161 : decode cX11_findingOf 161 = .ok (.aload_n 0, 1) := by decide +kernel
theorem dX11_findingOf_162 : decode cX11_findingOf 162 = .ok (.getfield 78, 3) := by decide +kernel
theorem dX11_findingOf_165 : decode cX11_findingOf 165 = .ok (.iload_n 1, 1) := by decide +kernel
theorem dX11_findingOf_166 : decode cX11_findingOf 166 = .ok (.iaload, 1) := by decide +kernel
theorem dX11_findingOf_167 : decode cX11_findingOf 167 = .ok (.ifCond .le 7, 3) := by decide +kernel
theorem dX11_findingOf_170 : decode cX11_findingOf 170 = .ok (.iconst 1, 1) := by decide +kernel
theorem dX11_findingOf_171 : decode cX11_findingOf 171 = .ok (.goto 4, 3) := by decide +kernel
theorem dX11_findingOf_174 : decode cX11_findingOf 174 = .ok (.iconst 0, 1) := by decide +kernel
theorem dX11_findingOf_175 : decode cX11_findingOf 175 = .ok (.istore 4, 2) := by decide +kernel
theorem dX11_findingOf_177 : decode cX11_findingOf 177 = .ok (.bipush 40, 2) := by decide +kernel
theorem dX11_findingOf_179 : decode cX11_findingOf 179 = .ok (.iload_n 1, 1) := by decide +kernel
theorem dX11_findingOf_180 : decode cX11_findingOf 180 = .ok (.imul, 1) := by decide +kernel
theorem dX11_findingOf_181 : decode cX11_findingOf 181 = .ok (.istore 5, 2) := by decide +kernel
theorem dX11_findingOf_183 : decode cX11_findingOf 183 = .ok (.iload 5, 2) := by decide +kernel
theorem dX11_findingOf_185 : decode cX11_findingOf 185 = .ok (.bipush 40, 2) := by decide +kernel
theorem dX11_findingOf_187 : decode cX11_findingOf 187 = .ok (.iload_n 1, 1) := by decide +kernel
theorem dX11_findingOf_188 : decode cX11_findingOf 188 = .ok (.imul, 1) := by decide +kernel
theorem dX11_findingOf_189 : decode cX11_findingOf 189 = .ok (.aload_n 0, 1) := by decide +kernel
theorem dX11_findingOf_190 : decode cX11_findingOf 190 = .ok (.getfield 78, 3) := by decide +kernel
theorem dX11_findingOf_193 : decode cX11_findingOf 193 = .ok (.iload_n 1, 1) := by decide +kernel
theorem dX11_findingOf_194 : decode cX11_findingOf 194 = .ok (.iaload, 1) := by decide +kernel
theorem dX11_findingOf_195 : decode cX11_findingOf 195 = .ok (.iadd, 1) := by decide +kernel
theorem dX11_findingOf_196 : decode cX11_findingOf 196 = .ok (.if_icmp .ge 79, 3) := by decide +kernel
theorem dX11_findingOf_199 : decode cX11_findingOf 199 = .ok (.iconst 0, 1) := by decide +kernel
theorem dX11_findingOf_200 : decode cX11_findingOf 200 = .ok (.istore 6, 2) := by decide +kernel
theorem dX11_findingOf_202 : decode cX11_findingOf 202 = .ok (.iconst 0, 1) := by decide +kernel
theorem dX11_findingOf_203 : decode cX11_findingOf 203 = .ok (.istore 7, 2) := by decide +kernel
theorem dX11_findingOf_205 : decode cX11_findingOf 205 = .ok (.iload 7, 2) := by decide +kernel
theorem dX11_findingOf_207 : decode cX11_findingOf 207 = .ok (.iload_n 1, 1) := by decide +kernel
theorem dX11_findingOf_208 : decode cX11_findingOf 208 = .ok (.if_icmp .ge 44, 3) := by decide +kernel
theorem dX11_findingOf_211 : decode cX11_findingOf 211 = .ok (.iload 6, 2) := by decide +kernel
theorem dX11_findingOf_213 : decode cX11_findingOf 213 = .ok (.ifCond .ne 26, 3) := by decide +kernel
theorem dX11_findingOf_216 : decode cX11_findingOf 216 = .ok (.aload_n 0, 1) := by decide +kernel
theorem dX11_findingOf_217 : decode cX11_findingOf 217 = .ok (.iload 7, 2) := by decide +kernel
theorem dX11_findingOf_219 : decode cX11_findingOf 219 = .ok (.aload_n 0, 1) := by decide +kernel
theorem dX11_findingOf_220 : decode cX11_findingOf 220 = .ok (.getfield 72, 3) := by decide +kernel
theorem dX11_findingOf_223 : decode cX11_findingOf 223 = .ok (.iload 5, 2) := by decide +kernel
theorem dX11_findingOf_225 : decode cX11_findingOf 225 = .ok (.iaload, 1) := by decide +kernel
theorem dX11_findingOf_226 : decode cX11_findingOf 226 = .ok (.aload_n 0, 1) := by decide +kernel
theorem dX11_findingOf_227 : decode cX11_findingOf 227 = .ok (.getfield 75, 3) := by decide +kernel
theorem dX11_findingOf_230 : decode cX11_findingOf 230 = .ok (.iload 5, 2) := by decide +kernel
theorem dX11_findingOf_232 : decode cX11_findingOf 232 = .ok (.iaload, 1) := by decide +kernel
theorem dX11_findingOf_233 : decode cX11_findingOf 233 = .ok (.invokevirtual 212, 3) := by decide +kernel
theorem dX11_findingOf_236 : decode cX11_findingOf 236 = .ok (.ifCond .eq 7, 3) := by decide +kernel
theorem dX11_findingOf_239 : decode cX11_findingOf 239 = .ok (.iconst 1, 1) := by decide +kernel
theorem dX11_findingOf_240 : decode cX11_findingOf 240 = .ok (.goto 4, 3) := by decide +kernel
theorem dX11_findingOf_243 : decode cX11_findingOf 243 = .ok (.iconst 0, 1) := by decide +kernel
theorem dX11_findingOf_244 : decode cX11_findingOf 244 = .ok (.istore 6, 2) := by decide +kernel
theorem dX11_findingOf_246 : decode cX11_findingOf 246 = .ok (.iinc 7 1, 3) := by decide +kernel
theorem dX11_findingOf_249 : decode cX11_findingOf 249 = .ok (.goto (-44), 3) := by decide +kernel
theorem dX11_findingOf_252 : decode cX11_findingOf 252 = .ok (.iload 4, 2) := by decide +kernel
theorem dX11_findingOf_254 : decode cX11_findingOf 254 = .ok (.ifCond .eq 12, 3) := by decide +kernel
theorem dX11_findingOf_257 : decode cX11_findingOf 257 = .ok (.iload 6, 2) := by decide +kernel
theorem dX11_findingOf_259 : decode cX11_findingOf 259 = .ok (.ifCond .eq 7, 3) := by decide +kernel
theorem dX11_findingOf_262 : decode cX11_findingOf 262 = .ok (.iconst 1, 1) := by decide +kernel
theorem dX11_findingOf_263 : decode cX11_findingOf 263 = .ok (.goto 4, 3) := by decide +kernel
theorem dX11_findingOf_266 : decode cX11_findingOf 266 = .ok (.iconst 0, 1) := by decide +kernel
theorem dX11_findingOf_267 : decode cX11_findingOf 267 = .ok (.istore 4, 2) := by decide +kernel
theorem dX11_findingOf_269 : decode cX11_findingOf 269 = .ok (.iinc 5 1, 3) := by decide +kernel
theorem dX11_findingOf_272 : decode cX11_findingOf 272 = .ok (.goto (-89), 3) := by decide +kernel
theorem dX11_findingOf_275 : decode cX11_findingOf 275 = .ok (.aload_n 0, 1) := by decide +kernel
theorem dX11_findingOf_276 : decode cX11_findingOf 276 = .ok (.getfield 81, 3) := by decide +kernel
theorem dX11_findingOf_279 : decode cX11_findingOf 279 = .ok (.iload_n 1, 1) := by decide +kernel
theorem dX11_findingOf_280 : decode cX11_findingOf 280 = .ok (.iaload, 1) := by decide +kernel
theorem dX11_findingOf_281 : decode cX11_findingOf 281 = .ok (.iconst 2, 1) := by decide +kernel
theorem dX11_findingOf_282 : decode cX11_findingOf 282 = .ok (.if_icmp .ne 15, 3) := by decide +kernel
theorem dX11_findingOf_285 : decode cX11_findingOf 285 = .ok (.aload_n 0, 1) := by decide +kernel
theorem dX11_findingOf_286 : decode cX11_findingOf 286 = .ok (.iload_n 1, 1) := by decide +kernel
theorem dX11_findingOf_287 : decode cX11_findingOf 287 = .ok (.invokevirtual 256, 3) := by decide +kernel
theorem dX11_findingOf_290 : decode cX11_findingOf 290 = .ok (.ifCond .ne 7, 3) := by decide +kernel
theorem dX11_findingOf_293 : decode cX11_findingOf 293 = .ok (.iconst 1, 1) := by decide +kernel
theorem dX11_findingOf_294 : decode cX11_findingOf 294 = .ok (.goto 4, 3) := by decide +kernel
theorem dX11_findingOf_297 : decode cX11_findingOf 297 = .ok (.iconst 0, 1) := by decide +kernel
theorem dX11_findingOf_298 : decode cX11_findingOf 298 = .ok (.istore 5, 2) := by decide +kernel
theorem dX11_findingOf_300 : decode cX11_findingOf 300 = .ok (.iload_n 1, 1) := by decide +kernel
theorem dX11_findingOf_301 : decode cX11_findingOf 301 = .ok (.ifCond .ne 21, 3) := by decide +kernel
theorem dX11_findingOf_304 : decode cX11_findingOf 304 = .ok (.aload_n 0, 1) := by decide +kernel
theorem dX11_findingOf_305 : decode cX11_findingOf 305 = .ok (.getfield 81, 3) := by decide +kernel
theorem dX11_findingOf_308 : decode cX11_findingOf 308 = .ok (.iload_n 1, 1) := by decide +kernel
theorem dX11_findingOf_309 : decode cX11_findingOf 309 = .ok (.iaload, 1) := by decide +kernel
theorem dX11_findingOf_310 : decode cX11_findingOf 310 = .ok (.iconst 1, 1) := by decide +kernel
theorem dX11_findingOf_311 : decode cX11_findingOf 311 = .ok (.iconst 3, 1) := by decide +kernel
theorem dX11_findingOf_312 : decode cX11_findingOf 312 = .ok (.invokestatic 139, 3) := by decide +kernel
theorem dX11_findingOf_315 : decode cX11_findingOf 315 = .ok (.ifCond .eq 7, 3) := by decide +kernel
theorem dX11_findingOf_318 : decode cX11_findingOf 318 = .ok (.iconst 1, 1) := by decide +kernel
theorem dX11_findingOf_319 : decode cX11_findingOf 319 = .ok (.goto 4, 3) := by decide +kernel
theorem dX11_findingOf_322 : decode cX11_findingOf 322 = .ok (.iconst 0, 1) := by decide +kernel
theorem dX11_findingOf_323 : decode cX11_findingOf 323 = .ok (.istore 6, 2) := by decide +kernel
theorem dX11_findingOf_325 : decode cX11_findingOf 325 = .ok (.iload_n 2, 1) := by decide +kernel
theorem dX11_findingOf_326 : decode cX11_findingOf 326 = .ok (.ifCond .eq 7, 3) := by decide +kernel
theorem dX11_findingOf_329 : decode cX11_findingOf 329 = .ok (.iconst 1, 1) := by decide +kernel
theorem dX11_findingOf_330 : decode cX11_findingOf 330 = .ok (.goto 4, 3) := by decide +kernel
theorem dX11_findingOf_333 : decode cX11_findingOf 333 = .ok (.iconst 0, 1) := by decide +kernel
theorem dX11_findingOf_334 : decode cX11_findingOf 334 = .ok (.iload 5, 2) := by decide +kernel
theorem dX11_findingOf_336 : decode cX11_findingOf 336 = .ok (.ifCond .eq 7, 3) := by decide +kernel
theorem dX11_findingOf_339 : decode cX11_findingOf 339 = .ok (.iconst 2, 1) := by decide +kernel
theorem dX11_findingOf_340 : decode cX11_findingOf 340 = .ok (.goto 4, 3) := by decide +kernel
theorem dX11_findingOf_343 : decode cX11_findingOf 343 = .ok (.iconst 0, 1) := by decide +kernel
theorem dX11_findingOf_344 : decode cX11_findingOf 344 = .ok (.iadd, 1) := by decide +kernel
theorem dX11_findingOf_345 : decode cX11_findingOf 345 = .ok (.iload_n 3, 1) := by decide +kernel
theorem dX11_findingOf_346 : decode cX11_findingOf 346 = .ok (.ifCond .eq 7, 3) := by decide +kernel
theorem dX11_findingOf_349 : decode cX11_findingOf 349 = .ok (.iconst 4, 1) := by decide +kernel
theorem dX11_findingOf_350 : decode cX11_findingOf 350 = .ok (.goto 4, 3) := by decide +kernel
theorem dX11_findingOf_353 : decode cX11_findingOf 353 = .ok (.iconst 0, 1) := by decide +kernel
theorem dX11_findingOf_354 : decode cX11_findingOf 354 = .ok (.iadd, 1) := by decide +kernel
theorem dX11_findingOf_355 : decode cX11_findingOf 355 = .ok (.iload 4, 2) := by decide +kernel
theorem dX11_findingOf_357 : decode cX11_findingOf 357 = .ok (.ifCond .eq 8, 3) := by decide +kernel
theorem dX11_findingOf_360 : decode cX11_findingOf 360 = .ok (.bipush 8, 2) := by decide +kernel
theorem dX11_findingOf_362 : decode cX11_findingOf 362 = .ok (.goto 4, 3) := by decide +kernel
theorem dX11_findingOf_365 : decode cX11_findingOf 365 = .ok (.iconst 0, 1) := by decide +kernel
theorem dX11_findingOf_366 : decode cX11_findingOf 366 = .ok (.iadd, 1) := by decide +kernel
theorem dX11_findingOf_367 : decode cX11_findingOf 367 = .ok (.iload 6, 2) := by decide +kernel
theorem dX11_findingOf_369 : decode cX11_findingOf 369 = .ok (.ifCond .eq 8, 3) := by decide +kernel
theorem dX11_findingOf_372 : decode cX11_findingOf 372 = .ok (.bipush 16, 2) := by decide +kernel
theorem dX11_findingOf_374 : decode cX11_findingOf 374 = .ok (.goto 4, 3) := by decide +kernel
theorem dX11_findingOf_377 : decode cX11_findingOf 377 = .ok (.iconst 0, 1) := by decide +kernel
theorem dX11_findingOf_378 : decode cX11_findingOf 378 = .ok (.iadd, 1) := by decide +kernel
theorem dX11_findingOf_379 : decode cX11_findingOf 379 = .ok (.ireturn, 1) := by decide +kernel
theorem dX11_finding_0 : decode cX11_finding 0 = .ok (.aload_n 0, 1) := by decide +kernel
theorem dX11_finding_1 : decode cX11_finding 1 = .ok (.iload_n 1, 1) := by decide +kernel
theorem dX11_finding_2 : decode cX11_finding 2 = .ok (.invokevirtual 250, 3) := by decide +kernel
theorem dX11_finding_5 : decode cX11_finding 5 = .ok (.ifCond .ne 6, 3) := by decide +kernel
theorem dX11_finding_8 : decode cX11_finding 8 = .ok (.bipush (-2), 2) := by decide +kernel
theorem dX11_finding_10 : decode cX11_finding 10 = .ok (.ireturn, 1) := by decide +kernel
theorem dX11_finding_11 : decode cX11_finding 11 = .ok (.aload_n 0, 1) := by decide +kernel
theorem dX11_finding_12 : decode cX11_finding 12 = .ok (.invokevirtual 253, 3) := by decide +kernel
theorem dX11_finding_15 : decode cX11_finding 15 = .ok (.aload_n 0, 1) := by decide +kernel
theorem dX11_finding_16 : decode cX11_finding 16 = .ok (.iload_n 1, 1) := by decide +kernel
theorem dX11_finding_17 : decode cX11_finding 17 = .ok (.invokevirtual 262, 3) := by decide +kernel
theorem dX11_finding_20 : decode cX11_finding 20 = .ok (.ireturn, 1) := by decide +kernel
theorem dX11_isPoint_0 : decode cX11_isPoint 0 = .ok (.iload_n 0, 1) := by decide +kernel
theorem dX11_isPoint_1 : decode cX11_isPoint 1 = .ok (.bipush (-100), 2) := by decide +kernel
theorem dX11_isPoint_3 : decode cX11_isPoint 3 = .ok (.bipush 100, 2) := by decide +kernel
theorem dX11_isPoint_5 : decode cX11_isPoint 5 = .ok (.invokestatic 139, 3) := by decide +kernel
theorem dX11_isPoint_8 : decode cX11_isPoint 8 = .ok (.ireturn, 1) := by decide +kernel
theorem dX11_marks_0 : decode cX11_marks 0 = .ok (.iload_n 1, 1) := by decide +kernel
theorem dX11_marks_1 : decode cX11_marks 1 = .ok (.invokestatic 265, 3) := by decide +kernel
theorem dX11_marks_4 : decode cX11_marks 4 = .ok (.ifCond .eq 33, 3) := by decide +kernel
theorem dX11_marks_7 : decode cX11_marks 7 = .ok (.iload_n 2, 1) := by decide +kernel
theorem dX11_marks_8 : decode cX11_marks 8 = .ok (.invokestatic 265, 3) := by decide +kernel
theorem dX11_marks_11 : decode cX11_marks 11 = .ok (.ifCond .eq 26, 3) := by decide +kernel
theorem dX11_marks_14 : decode cX11_marks 14 = .ok (.iload_n 3, 1) := by decide +kernel
theorem dX11_marks_15 : decode cX11_marks 15 = .ok (.invokestatic 265, 3) := by decide +kernel
theorem dX11_marks_18 : decode cX11_marks 18 = .ok (.ifCond .eq 19, 3) := by decide +kernel
theorem dX11_marks_21 : decode cX11_marks 21 = .ok (.iload 4, 2) := by decide +kernel
theorem dX11_marks_23 : decode cX11_marks 23 = .ok (.invokestatic 265, 3) := by decide +kernel
theorem dX11_marks_26 : decode cX11_marks 26 = .ok (.ifCond .eq 11, 3) := by decide +kernel
theorem dX11_marks_29 : decode cX11_marks 29 = .ok (.iload 5, 2) := by decide +kernel
theorem dX11_marks_31 : decode cX11_marks 31 = .ok (.invokestatic 265, 3) := by decide +kernel
theorem dX11_marks_34 : decode cX11_marks 34 = .ok (.ifCond .ne 6, 3) := by decide +kernel
theorem dX11_marks_37 : decode cX11_marks 37 = .ok (.bipush (-2), 2) := by decide +kernel
theorem dX11_marks_39 : decode cX11_marks 39 = .ok (.ireturn, 1) := by decide +kernel
theorem dX11_marks_40 : decode cX11_marks 40 = .ok (.aload_n 0, 1) := by decide +kernel
theorem dX11_marks_41 : decode cX11_marks 41 = .ok (.getfield 196, 3) := by decide +kernel
theorem dX11_marks_44 : decode cX11_marks 44 = .ok (.ifCond .ne 5, 3) := by decide +kernel
theorem dX11_marks_47 : decode cX11_marks 47 = .ok (.iconst 0, 1) := by decide +kernel
theorem dX11_marks_48 : decode cX11_marks 48 = .ok (.ireturn, 1) := by decide +kernel
theorem dX11_marks_49 : decode cX11_marks 49 = .ok (.aload_n 0, 1) := by decide +kernel
theorem dX11_marks_50 : decode cX11_marks 50 = .ok (.invokevirtual 253, 3) := by decide +kernel
theorem dX11_marks_53 : decode cX11_marks 53 = .ok (.iconst 0, 1) := by decide +kernel
theorem dX11_marks_54 : decode cX11_marks 54 = .ok (.istore 6, 2) := by decide +kernel
theorem dX11_marks_56 : decode cX11_marks 56 = .ok (.iconst 0, 1) := by decide +kernel
theorem dX11_marks_57 : decode cX11_marks 57 = .ok (.istore 7, 2) := by decide +kernel
theorem dX11_marks_59 : decode cX11_marks 59 = .ok (.iload 7, 2) := by decide +kernel
theorem dX11_marks_61 : decode cX11_marks 61 = .ok (.aload_n 0, 1) := by decide +kernel
theorem dX11_marks_62 : decode cX11_marks 62 = .ok (.getfield 196, 3) := by decide +kernel
theorem dX11_marks_65 : decode cX11_marks 65 = .ok (.if_icmp .ge 66, 3) := by decide +kernel
theorem dX11_marks_68 : decode cX11_marks 68 = .ok (.aload_n 0, 1) := by decide +kernel
theorem dX11_marks_69 : decode cX11_marks 69 = .ok (.iload 7, 2) := by decide +kernel
theorem dX11_marks_71 : decode cX11_marks 71 = .ok (.invokevirtual 262, 3) := by decide +kernel
theorem dX11_marks_74 : decode cX11_marks 74 = .ok (.istore 8, 2) := by decide +kernel
theorem dX11_marks_76 : decode cX11_marks 76 = .ok (.iload 6, 2) := by decide +kernel
theorem dX11_marks_78 : decode cX11_marks 78 = .ok (.iload 8, 2) := by decide +kernel
theorem dX11_marks_80 : decode cX11_marks 80 = .ok (.iconst 1, 1) := by decide +kernel
theorem dX11_marks_81 : decode cX11_marks 81 = .ok (.iand, 1) := by decide +kernel
theorem dX11_marks_82 : decode cX11_marks 82 = .ok (.iload_n 1, 1) := by decide +kernel
theorem dX11_marks_83 : decode cX11_marks 83 = .ok (.imul, 1) := by decide +kernel
theorem dX11_marks_84 : decode cX11_marks 84 = .ok (.iload 8, 2) := by decide +kernel
theorem dX11_marks_86 : decode cX11_marks 86 = .ok (.iconst 1, 1) := by decide +kernel
theorem dX11_marks_87 : decode cX11_marks 87 = .ok (.ishr, 1) := by decide +kernel
theorem dX11_marks_88 : decode cX11_marks 88 = .ok (.iconst 1, 1) := by decide +kernel
theorem dX11_marks_89 : decode cX11_marks 89 = .ok (.iand, 1) := by decide +kernel
theorem dX11_marks_90 : decode cX11_marks 90 = .ok (.iload_n 2, 1) := by decide +kernel
theorem dX11_marks_91 : decode cX11_marks 91 = .ok (.imul, 1) := by decide +kernel
theorem dX11_marks_92 : decode cX11_marks 92 = .ok (.iadd, 1) := by decide +kernel
theorem dX11_marks_93 : decode cX11_marks 93 = .ok (.iload 8, 2) := by decide +kernel
theorem dX11_marks_95 : decode cX11_marks 95 = .ok (.iconst 2, 1) := by decide +kernel
theorem dX11_marks_96 : decode cX11_marks 96 = .ok (.ishr, 1) := by decide +kernel
theorem dX11_marks_97 : decode cX11_marks 97 = .ok (.iconst 1, 1) := by decide +kernel
theorem dX11_marks_98 : decode cX11_marks 98 = .ok (.iand, 1) := by decide +kernel
theorem dX11_marks_99 : decode cX11_marks 99 = .ok (.iload_n 3, 1) := by decide +kernel
theorem dX11_marks_100 : decode cX11_marks 100 = .ok (.imul, 1) := by decide +kernel
theorem dX11_marks_101 : decode cX11_marks 101 = .ok (.iadd, 1) := by decide +kernel
theorem dX11_marks_102 : decode cX11_marks 102 = .ok (.iload 8, 2) := by decide +kernel
theorem dX11_marks_104 : decode cX11_marks 104 = .ok (.iconst 3, 1) := by decide +kernel
theorem dX11_marks_105 : decode cX11_marks 105 = .ok (.ishr, 1) := by decide +kernel
theorem dX11_marks_106 : decode cX11_marks 106 = .ok (.iconst 1, 1) := by decide +kernel
theorem dX11_marks_107 : decode cX11_marks 107 = .ok (.iand, 1) := by decide +kernel
theorem dX11_marks_108 : decode cX11_marks 108 = .ok (.iload 4, 2) := by decide +kernel
theorem dX11_marks_110 : decode cX11_marks 110 = .ok (.imul, 1) := by decide +kernel
theorem dX11_marks_111 : decode cX11_marks 111 = .ok (.iadd, 1) := by decide +kernel
theorem dX11_marks_112 : decode cX11_marks 112 = .ok (.iload 8, 2) := by decide +kernel
theorem dX11_marks_114 : decode cX11_marks 114 = .ok (.iconst 4, 1) := by decide +kernel
theorem dX11_marks_115 : decode cX11_marks 115 = .ok (.ishr, 1) := by decide +kernel
theorem dX11_marks_116 : decode cX11_marks 116 = .ok (.iconst 1, 1) := by decide +kernel
theorem dX11_marks_117 : decode cX11_marks 117 = .ok (.iand, 1) := by decide +kernel
theorem dX11_marks_118 : decode cX11_marks 118 = .ok (.iload 5, 2) := by decide +kernel
theorem dX11_marks_120 : decode cX11_marks 120 = .ok (.imul, 1) := by decide +kernel
theorem dX11_marks_121 : decode cX11_marks 121 = .ok (.iadd, 1) := by decide +kernel
theorem dX11_marks_122 : decode cX11_marks 122 = .ok (.iadd, 1) := by decide +kernel
theorem dX11_marks_123 : decode cX11_marks 123 = .ok (.istore 6, 2) := by decide +kernel
theorem dX11_marks_125 : decode cX11_marks 125 = .ok (.iinc 7 1, 3) := by decide +kernel
theorem dX11_marks_128 : decode cX11_marks 128 = .ok (.goto (-69), 3) := by decide +kernel
theorem dX11_marks_131 : decode cX11_marks 131 = .ok (.iload 6, 2) := by decide +kernel
theorem dX11_marks_133 : decode cX11_marks 133 = .ok (.ireturn, 1) := by decide +kernel
theorem dX11_isAhead_0 : decode cX11_isAhead 0 = .ok (.iconst 1, 1) := by decide +kernel
theorem dX11_isAhead_1 : decode cX11_isAhead 1 = .ok (.iload_n 1, 1) := by decide +kernel
theorem dX11_isAhead_2 : decode cX11_isAhead 2 = .ok (.ishl, 1) := by decide +kernel
theorem dX11_isAhead_3 : decode cX11_isAhead 3 = .ok (.istore_n 3, 1) := by decide +kernel
theorem dX11_isAhead_4 : decode cX11_isAhead 4 = .ok (.iconst 1, 1) := by decide +kernel
theorem dX11_isAhead_5 : decode cX11_isAhead 5 = .ok (.istore 4, 2) := by decide +kernel
theorem dX11_isAhead_7 : decode cX11_isAhead 7 = .ok (.iload 4, 2) := by decide +kernel
theorem dX11_isAhead_9 : decode cX11_isAhead 9 = .ok (.ifCond .eq 67, 3) := by decide +kernel
theorem dX11_isAhead_12 : decode cX11_isAhead 12 = .ok (.iload_n 3, 1) := by decide +kernel
theorem dX11_isAhead_13 : decode cX11_isAhead 13 = .ok (.istore 5, 2) := by decide +kernel
theorem dX11_isAhead_15 : decode cX11_isAhead 15 = .ok (.iconst 0, 1) := by decide +kernel
theorem dX11_isAhead_16 : decode cX11_isAhead 16 = .ok (.istore 6, 2) := by decide +kernel
theorem dX11_isAhead_18 : decode cX11_isAhead 18 = .ok (.iload 6, 2) := by decide +kernel
theorem dX11_isAhead_20 : decode cX11_isAhead 20 = .ok (.aload_n 0, 1) := by decide +kernel
theorem dX11_isAhead_21 : decode cX11_isAhead 21 = .ok (.getfield 199, 3) := by decide +kernel
theorem dX11_isAhead_24 : decode cX11_isAhead 24 = .ok (.if_icmp .ge 36, 3) := by decide +kernel
theorem dX11_isAhead_27 : decode cX11_isAhead 27 = .ok (.iload_n 3, 1) := by decide +kernel
theorem dX11_isAhead_28 : decode cX11_isAhead 28 = .ok (.aload_n 0, 1) := by decide +kernel
theorem dX11_isAhead_29 : decode cX11_isAhead 29 = .ok (.getfield 103, 3) := by decide +kernel
theorem dX11_isAhead_32 : decode cX11_isAhead 32 = .ok (.iload 6, 2) := by decide +kernel
theorem dX11_isAhead_34 : decode cX11_isAhead 34 = .ok (.iaload, 1) := by decide +kernel
theorem dX11_isAhead_35 : decode cX11_isAhead 35 = .ok (.ishr, 1) := by decide +kernel
theorem dX11_isAhead_36 : decode cX11_isAhead 36 = .ok (.iconst 1, 1) := by decide +kernel
theorem dX11_isAhead_37 : decode cX11_isAhead 37 = .ok (.iand, 1) := by decide +kernel
theorem dX11_isAhead_38 : decode cX11_isAhead 38 = .ok (.iconst 1, 1) := by decide +kernel
theorem dX11_isAhead_39 : decode cX11_isAhead 39 = .ok (.if_icmp .ne 15, 3) := by decide +kernel
theorem dX11_isAhead_42 : decode cX11_isAhead 42 = .ok (.iload_n 3, 1) := by decide +kernel
theorem dX11_isAhead_43 : decode cX11_isAhead 43 = .ok (.iconst 1, 1) := by decide +kernel
theorem dX11_isAhead_44 : decode cX11_isAhead 44 = .ok (.aload_n 0, 1) := by decide +kernel
theorem dX11_isAhead_45 : decode cX11_isAhead 45 = .ok (.getfield 106, 3) := by decide +kernel
theorem dX11_isAhead_48 : decode cX11_isAhead 48 = .ok (.iload 6, 2) := by decide +kernel
theorem dX11_isAhead_50 : decode cX11_isAhead 50 = .ok (.iaload, 1) := by decide +kernel
theorem dX11_isAhead_51 : decode cX11_isAhead 51 = .ok (.ishl, 1) := by decide +kernel
theorem dX11_isAhead_52 : decode cX11_isAhead 52 = .ok (.ior, 1) := by decide +kernel
theorem dX11_isAhead_53 : decode cX11_isAhead 53 = .ok (.istore_n 3, 1) := by decide +kernel
theorem dX11_isAhead_54 : decode cX11_isAhead 54 = .ok (.iinc 6 1, 3) := by decide +kernel
theorem dX11_isAhead_57 : decode cX11_isAhead 57 = .ok (.goto (-39), 3) := by decide +kernel
theorem dX11_isAhead_60 : decode cX11_isAhead 60 = .ok (.iload_n 3, 1) := by decide +kernel
theorem dX11_isAhead_61 : decode cX11_isAhead 61 = .ok (.iload 5, 2) := by decide +kernel
theorem dX11_isAhead_63 : decode cX11_isAhead 63 = .ok (.if_icmp .eq 7, 3) := by decide +kernel
theorem dX11_isAhead_66 : decode cX11_isAhead 66 = .ok (.iconst 1, 1) := by decide +kernel
theorem dX11_isAhead_67 : decode cX11_isAhead 67 = .ok (.goto 4, 3) := by decide +kernel
theorem dX11_isAhead_70 : decode cX11_isAhead 70 = .ok (.iconst 0, 1) := by decide +kernel
theorem dX11_isAhead_71 : decode cX11_isAhead 71 = .ok (.istore 4, 2) := by decide +kernel
theorem dX11_isAhead_73 : decode cX11_isAhead 73 = .ok (.goto (-66), 3) := by decide +kernel
theorem dX11_isAhead_76 : decode cX11_isAhead 76 = .ok (.iload_n 3, 1) := by decide +kernel
theorem dX11_isAhead_77 : decode cX11_isAhead 77 = .ok (.iload_n 2, 1) := by decide +kernel
theorem dX11_isAhead_78 : decode cX11_isAhead 78 = .ok (.ishr, 1) := by decide +kernel
theorem dX11_isAhead_79 : decode cX11_isAhead 79 = .ok (.iconst 1, 1) := by decide +kernel
theorem dX11_isAhead_80 : decode cX11_isAhead 80 = .ok (.iand, 1) := by decide +kernel
theorem dX11_isAhead_81 : decode cX11_isAhead 81 = .ok (.iconst 1, 1) := by decide +kernel
theorem dX11_isAhead_82 : decode cX11_isAhead 82 = .ok (.if_icmp .ne 7, 3) := by decide +kernel
theorem dX11_isAhead_85 : decode cX11_isAhead 85 = .ok (.iconst 1, 1) := by decide +kernel
theorem dX11_isAhead_86 : decode cX11_isAhead 86 = .ok (.goto 4, 3) := by decide +kernel
theorem dX11_isAhead_89 : decode cX11_isAhead 89 = .ok (.iconst 0, 1) := by decide +kernel
theorem dX11_isAhead_90 : decode cX11_isAhead 90 = .ok (.ireturn, 1) := by decide +kernel
theorem dX11_pair_0 : decode cX11_pair 0 = .ok (.aload_n 0, 1) := by decide +kernel
theorem dX11_pair_1 : decode cX11_pair 1 = .ok (.iload_n 1, 1) := by decide +kernel
theorem dX11_pair_2 : decode cX11_pair 2 = .ok (.invokevirtual 250, 3) := by decide +kernel
theorem dX11_pair_5 : decode cX11_pair 5 = .ok (.ifCond .eq 35, 3) := by decide +kernel
theorem dX11_pair_8 : decode cX11_pair 8 = .ok (.aload_n 0, 1) := by decide +kernel
theorem dX11_pair_9 : decode cX11_pair 9 = .ok (.iload_n 2, 1) := by decide +kernel
theorem dX11_pair_10 : decode cX11_pair 10 = .ok (.invokevirtual 250, 3) := by decide +kernel
theorem dX11_pair_13 : decode cX11_pair 13 = .ok (.ifCond .eq 27, 3) := by decide +kernel
theorem dX11_pair_16 : decode cX11_pair 16 = .ok (.iload_n 1, 1) := by decide +kernel
theorem dX11_pair_17 : decode cX11_pair 17 = .ok (.iload_n 2, 1) := by decide +kernel
theorem dX11_pair_18 : decode cX11_pair 18 = .ok (.if_icmp .eq 22, 3) := by decide +kernel
theorem dX11_pair_21 : decode cX11_pair 21 = .ok (.aload_n 0, 1) := by decide +kernel
theorem dX11_pair_22 : decode cX11_pair 22 = .ok (.aload_n 0, 1) := by decide +kernel
theorem dX11_pair_23 : decode cX11_pair 23 = .ok (.getfield 65, 3) := by decide +kernel
theorem dX11_pair_26 : decode cX11_pair 26 = .ok (.iload_n 2, 1) := by decide +kernel
theorem dX11_pair_27 : decode cX11_pair 27 = .ok (.iaload, 1) := by decide +kernel
theorem dX11_pair_28 : decode cX11_pair 28 = .ok (.aload_n 0, 1) := by decide +kernel
theorem dX11_pair_29 : decode cX11_pair 29 = .ok (.getfield 65, 3) := by decide +kernel
theorem dX11_pair_32 : decode cX11_pair 32 = .ok (.iload_n 1, 1) := by decide +kernel
theorem dX11_pair_33 : decode cX11_pair 33 = .ok (.iaload, 1) := by decide +kernel
theorem dX11_pair_34 : decode cX11_pair 34 = .ok (.invokevirtual 268, 3) := by decide +kernel
theorem dX11_pair_37 : decode cX11_pair 37 = .ok (.ifCond .eq 6, 3) := by decide +kernel
theorem dX11_pair_40 : decode cX11_pair 40 = .ok (.bipush (-2), 2) := by decide +kernel
theorem dX11_pair_42 : decode cX11_pair 42 = .ok (.ireturn, 1) := by decide +kernel
theorem dX11_pair_43 : decode cX11_pair 43 = .ok (.iconst 0, 1) := by decide +kernel
theorem dX11_pair_44 : decode cX11_pair 44 = .ok (.istore_n 3, 1) := by decide +kernel
theorem dX11_pair_45 : decode cX11_pair 45 = .ok (.iload_n 3, 1) := by decide +kernel
theorem dX11_pair_46 : decode cX11_pair 46 = .ok (.aload_n 0, 1) := by decide +kernel
theorem dX11_pair_47 : decode cX11_pair 47 = .ok (.getfield 199, 3) := by decide +kernel
theorem dX11_pair_50 : decode cX11_pair 50 = .ok (.if_icmp .ge 44, 3) := by decide +kernel
theorem dX11_pair_53 : decode cX11_pair 53 = .ok (.aload_n 0, 1) := by decide +kernel
theorem dX11_pair_54 : decode cX11_pair 54 = .ok (.getfield 103, 3) := by decide +kernel
theorem dX11_pair_57 : decode cX11_pair 57 = .ok (.iload_n 3, 1) := by decide +kernel
theorem dX11_pair_58 : decode cX11_pair 58 = .ok (.iaload, 1) := by decide +kernel
theorem dX11_pair_59 : decode cX11_pair 59 = .ok (.aload_n 0, 1) := by decide +kernel
theorem dX11_pair_60 : decode cX11_pair 60 = .ok (.getfield 65, 3) := by decide +kernel
theorem dX11_pair_63 : decode cX11_pair 63 = .ok (.iload_n 1, 1) := by decide +kernel
theorem dX11_pair_64 : decode cX11_pair 64 = .ok (.iaload, 1) := by decide +kernel
theorem dX11_pair_65 : decode cX11_pair 65 = .ok (.if_icmp .ne 23, 3) := by decide +kernel
theorem dX11_pair_68 : decode cX11_pair 68 = .ok (.aload_n 0, 1) := by decide +kernel
theorem dX11_pair_69 : decode cX11_pair 69 = .ok (.getfield 106, 3) := by decide +kernel
theorem dX11_pair_72 : decode cX11_pair 72 = .ok (.iload_n 3, 1) := by decide +kernel
theorem dX11_pair_73 : decode cX11_pair 73 = .ok (.iaload, 1) := by decide +kernel
theorem dX11_pair_74 : decode cX11_pair 74 = .ok (.aload_n 0, 1) := by decide +kernel
theorem dX11_pair_75 : decode cX11_pair 75 = .ok (.getfield 65, 3) := by decide +kernel
theorem dX11_pair_78 : decode cX11_pair 78 = .ok (.iload_n 2, 1) := by decide +kernel
theorem dX11_pair_79 : decode cX11_pair 79 = .ok (.iaload, 1) := by decide +kernel
theorem dX11_pair_80 : decode cX11_pair 80 = .ok (.if_icmp .ne 8, 3) := by decide +kernel
theorem dX11_pair_83 : decode cX11_pair 83 = .ok (.aload_n 0, 1) := by decide +kernel
theorem dX11_pair_84 : decode cX11_pair 84 = .ok (.getfield 199, 3) := by decide +kernel
theorem dX11_pair_87 : decode cX11_pair 87 = .ok (.ireturn, 1) := by decide +kernel
theorem dX11_pair_88 : decode cX11_pair 88 = .ok (.iinc 3 1, 3) := by decide +kernel
theorem dX11_pair_91 : decode cX11_pair 91 = .ok (.goto (-46), 3) := by decide +kernel
theorem dX11_pair_94 : decode cX11_pair 94 = .ok (.aload_n 0, 1) := by decide +kernel
theorem dX11_pair_95 : decode cX11_pair 95 = .ok (.getfield 199, 3) := by decide +kernel
theorem dX11_pair_98 : decode cX11_pair 98 = .ok (.bipush 20, 2) := by decide +kernel
theorem dX11_pair_100 : decode cX11_pair 100 = .ok (.if_icmp .ne 6, 3) := by decide +kernel
theorem dX11_pair_103 : decode cX11_pair 103 = .ok (.bipush (-3), 2) := by decide +kernel
theorem dX11_pair_105 : decode cX11_pair 105 = .ok (.ireturn, 1) := by decide +kernel
theorem dX11_pair_106 : decode cX11_pair 106 = .ok (.aload_n 0, 1) := by decide +kernel
theorem dX11_pair_107 : decode cX11_pair 107 = .ok (.getfield 103, 3) := by decide +kernel
theorem dX11_pair_110 : decode cX11_pair 110 = .ok (.aload_n 0, 1) := by decide +kernel
theorem dX11_pair_111 : decode cX11_pair 111 = .ok (.getfield 199, 3) := by decide +kernel
theorem dX11_pair_114 : decode cX11_pair 114 = .ok (.aload_n 0, 1) := by decide +kernel
theorem dX11_pair_115 : decode cX11_pair 115 = .ok (.getfield 65, 3) := by decide +kernel
theorem dX11_pair_118 : decode cX11_pair 118 = .ok (.iload_n 1, 1) := by decide +kernel
theorem dX11_pair_119 : decode cX11_pair 119 = .ok (.iaload, 1) := by decide +kernel
theorem dX11_pair_120 : decode cX11_pair 120 = .ok (.iastore, 1) := by decide +kernel
theorem dX11_pair_121 : decode cX11_pair 121 = .ok (.aload_n 0, 1) := by decide +kernel
theorem dX11_pair_122 : decode cX11_pair 122 = .ok (.getfield 106, 3) := by decide +kernel
theorem dX11_pair_125 : decode cX11_pair 125 = .ok (.aload_n 0, 1) := by decide +kernel
theorem dX11_pair_126 : decode cX11_pair 126 = .ok (.getfield 199, 3) := by decide +kernel
theorem dX11_pair_129 : decode cX11_pair 129 = .ok (.aload_n 0, 1) := by decide +kernel
theorem dX11_pair_130 : decode cX11_pair 130 = .ok (.getfield 65, 3) := by decide +kernel
theorem dX11_pair_133 : decode cX11_pair 133 = .ok (.iload_n 2, 1) := by decide +kernel
theorem dX11_pair_134 : decode cX11_pair 134 = .ok (.iaload, 1) := by decide +kernel
theorem dX11_pair_135 : decode cX11_pair 135 = .ok (.iastore, 1) := by decide +kernel
theorem dX11_pair_136 : decode cX11_pair 136 = .ok (.aload_n 0, 1) := by decide +kernel
theorem dX11_pair_137 : decode cX11_pair 137 = .ok (.dup, 1) := by decide +kernel
theorem dX11_pair_138 : decode cX11_pair 138 = .ok (.getfield 199, 3) := by decide +kernel
theorem dX11_pair_141 : decode cX11_pair 141 = .ok (.iconst 1, 1) := by decide +kernel
theorem dX11_pair_142 : decode cX11_pair 142 = .ok (.iadd, 1) := by decide +kernel
theorem dX11_pair_143 : decode cX11_pair 143 = .ok (.putfield 199, 3) := by decide +kernel
theorem dX11_pair_146 : decode cX11_pair 146 = .ok (.aload_n 0, 1) := by decide +kernel
theorem dX11_pair_147 : decode cX11_pair 147 = .ok (.getfield 199, 3) := by decide +kernel
theorem dX11_pair_150 : decode cX11_pair 150 = .ok (.ireturn, 1) := by decide +kernel
theorem dX11_itemOf_0 : decode cX11_itemOf 0 = .ok (.iload_n 1, 1) := by decide +kernel
theorem dX11_itemOf_1 : decode cX11_itemOf 1 = .ok (.iload_n 2, 1) := by decide +kernel
theorem dX11_itemOf_2 : decode cX11_itemOf 2 = .ok (.if_icmp .ne 5, 3) := by decide +kernel
theorem dX11_itemOf_5 : decode cX11_itemOf 5 = .ok (.iconst 0, 1) := by decide +kernel
theorem dX11_itemOf_6 : decode cX11_itemOf 6 = .ok (.ireturn, 1) := by decide +kernel
theorem dX11_itemOf_7 : decode cX11_itemOf 7 = .ok (.iconst 1, 1) := by decide +kernel
theorem dX11_itemOf_8 : decode cX11_itemOf 8 = .ok (.istore_n 3, 1) := by decide +kernel
theorem dX11_itemOf_9 : decode cX11_itemOf 9 = .ok (.iload_n 3, 1) := by decide +kernel
theorem dX11_itemOf_10 : decode cX11_itemOf 10 = .ok (.aload_n 0, 1) := by decide +kernel
theorem dX11_itemOf_11 : decode cX11_itemOf 11 = .ok (.getfield 271, 3) := by decide +kernel
theorem dX11_itemOf_14 : decode cX11_itemOf 14 = .ok (.if_icmp .ge 25, 3) := by decide +kernel
theorem dX11_itemOf_17 : decode cX11_itemOf 17 = .ok (.aload_n 0, 1) := by decide +kernel
theorem dX11_itemOf_18 : decode cX11_itemOf 18 = .ok (.iload_n 1, 1) := by decide +kernel
theorem dX11_itemOf_19 : decode cX11_itemOf 19 = .ok (.aload_n 0, 1) := by decide +kernel
theorem dX11_itemOf_20 : decode cX11_itemOf 20 = .ok (.getfield 109, 3) := by decide +kernel
theorem dX11_itemOf_23 : decode cX11_itemOf 23 = .ok (.iload_n 3, 1) := by decide +kernel
theorem dX11_itemOf_24 : decode cX11_itemOf 24 = .ok (.iaload, 1) := by decide +kernel
theorem dX11_itemOf_25 : decode cX11_itemOf 25 = .ok (.invokevirtual 246, 3) := by decide +kernel
theorem dX11_itemOf_28 : decode cX11_itemOf 28 = .ok (.ifCond .eq 5, 3) := by decide +kernel
theorem dX11_itemOf_31 : decode cX11_itemOf 31 = .ok (.iload_n 3, 1) := by decide +kernel
theorem dX11_itemOf_32 : decode cX11_itemOf 32 = .ok (.ireturn, 1) := by decide +kernel
theorem dX11_itemOf_33 : decode cX11_itemOf 33 = .ok (.iinc 3 1, 3) := by decide +kernel
theorem dX11_itemOf_36 : decode cX11_itemOf 36 = .ok (.goto (-27), 3) := by decide +kernel
theorem dX11_itemOf_39 : decode cX11_itemOf 39 = .ok (.iconst (-1), 1) := by decide +kernel
theorem dX11_itemOf_40 : decode cX11_itemOf 40 = .ok (.ireturn, 1) := by decide +kernel
theorem dX11_takeItems_0 : decode cX11_takeItems 0 = .ok (.aload_n 0, 1) := by decide +kernel
theorem dX11_takeItems_1 : decode cX11_takeItems 1 = .ok (.iload_n 1, 1) := by decide +kernel
theorem dX11_takeItems_2 : decode cX11_takeItems 2 = .ok (.invokevirtual 256, 3) := by decide +kernel
theorem dX11_takeItems_5 : decode cX11_takeItems 5 = .ok (.bipush 9, 2) := by decide +kernel
theorem dX11_takeItems_7 : decode cX11_takeItems 7 = .ok (.if_icmp .le 5, 3) := by decide +kernel
theorem dX11_takeItems_10 : decode cX11_takeItems 10 = .ok (.iconst 0, 1) := by decide +kernel
theorem dX11_takeItems_11 : decode cX11_takeItems 11 = .ok (.ireturn, 1) := by decide +kernel
theorem dX11_takeItems_12 : decode cX11_takeItems 12 = .ok (.aload_n 0, 1) := by decide +kernel
theorem dX11_takeItems_13 : decode cX11_takeItems 13 = .ok (.iconst 1, 1) := by decide +kernel
theorem dX11_takeItems_14 : decode cX11_takeItems 14 = .ok (.putfield 271, 3) := by decide +kernel
theorem dX11_takeItems_17 : decode cX11_takeItems 17 = .ok (.aload_n 0, 1) := by decide +kernel
theorem dX11_takeItems_18 : decode cX11_takeItems 18 = .ok (.getfield 109, 3) := by decide +kernel
theorem dX11_takeItems_21 : decode cX11_takeItems 21 = .ok (.iconst 0, 1) := by decide +kernel
theorem dX11_takeItems_22 : decode cX11_takeItems 22 = .ok (.iload_n 1, 1) := by decide +kernel
theorem dX11_takeItems_23 : decode cX11_takeItems 23 = .ok (.iastore, 1) := by decide +kernel
theorem dX11_takeItems_24 : decode cX11_takeItems 24 = .ok (.aload_n 0, 1) := by decide +kernel
theorem dX11_takeItems_25 : decode cX11_takeItems 25 = .ok (.getfield 112, 3) := by decide +kernel
theorem dX11_takeItems_28 : decode cX11_takeItems 28 = .ok (.iconst 0, 1) := by decide +kernel
theorem dX11_takeItems_29 : decode cX11_takeItems 29 = .ok (.iconst 1, 1) := by decide +kernel
theorem dX11_takeItems_30 : decode cX11_takeItems 30 = .ok (.iastore, 1) := by decide +kernel
theorem dX11_takeItems_31 : decode cX11_takeItems 31 = .ok (.aload_n 0, 1) := by decide +kernel
theorem dX11_takeItems_32 : decode cX11_takeItems 32 = .ok (.getfield 115, 3) := by decide +kernel
theorem dX11_takeItems_35 : decode cX11_takeItems 35 = .ok (.iconst 0, 1) := by decide +kernel
theorem dX11_takeItems_36 : decode cX11_takeItems 36 = .ok (.iconst 0, 1) := by decide +kernel
theorem dX11_takeItems_37 : decode cX11_takeItems 37 = .ok (.iastore, 1) := by decide +kernel
theorem dX11_takeItems_38 : decode cX11_takeItems 38 = .ok (.iconst 0, 1) := by decide +kernel
theorem dX11_takeItems_39 : decode cX11_takeItems 39 = .ok (.istore_n 2, 1) := by decide +kernel
theorem dX11_takeItems_40 : decode cX11_takeItems 40 = .ok (.iload_n 2, 1) := by decide +kernel
theorem dX11_takeItems_41 : decode cX11_takeItems 41 = .ok (.aload_n 0, 1) := by decide +kernel
theorem dX11_takeItems_42 : decode cX11_takeItems 42 = .ok (.getfield 196, 3) := by decide +kernel
theorem dX11_takeItems_45 : decode cX11_takeItems 45 = .ok (.if_icmp .ge 72, 3) := by decide +kernel
theorem dX11_takeItems_48 : decode cX11_takeItems 48 = .ok (.aload_n 0, 1) := by decide +kernel
theorem dX11_takeItems_49 : decode cX11_takeItems 49 = .ok (.getfield 100, 3) := by decide +kernel
theorem dX11_takeItems_52 : decode cX11_takeItems 52 = .ok (.iload_n 2, 1) := by decide +kernel
theorem dX11_takeItems_53 : decode cX11_takeItems 53 = .ok (.iaload, 1) := by decide +kernel
theorem dX11_takeItems_54 : decode cX11_takeItems 54 = .ok (.iload_n 1, 1) := by decide +kernel
theorem dX11_takeItems_55 : decode cX11_takeItems 55 = .ok (.if_icmp .eq 6, 3) := by decide +kernel
theorem dX11_takeItems_58 : decode cX11_takeItems 58 = .ok (.goto 53, 3) := by decide +kernel
theorem dX11_takeItems_61 : decode cX11_takeItems 61 = .ok (.aload_n 0, 1) := by decide +kernel
theorem dX11_takeItems_62 : decode cX11_takeItems 62 = .ok (.getfield 109, 3) := by decide +kernel
theorem dX11_takeItems_65 : decode cX11_takeItems 65 = .ok (.aload_n 0, 1) := by decide +kernel
theorem dX11_takeItems_66 : decode cX11_takeItems 66 = .ok (.getfield 271, 3) := by decide +kernel
theorem dX11_takeItems_69 : decode cX11_takeItems 69 = .ok (.iload_n 2, 1) := by decide +kernel
theorem dX11_takeItems_70 : decode cX11_takeItems 70 = .ok (.iastore, 1) := by decide +kernel
theorem dX11_takeItems_71 : decode cX11_takeItems 71 = .ok (.aload_n 0, 1) := by decide +kernel
theorem dX11_takeItems_72 : decode cX11_takeItems 72 = .ok (.getfield 112, 3) := by decide +kernel
theorem dX11_takeItems_75 : decode cX11_takeItems 75 = .ok (.aload_n 0, 1) := by decide +kernel
theorem dX11_takeItems_76 : decode cX11_takeItems 76 = .ok (.getfield 271, 3) := by decide +kernel
theorem dX11_takeItems_79 : decode cX11_takeItems 79 = .ok (.aload_n 0, 1) := by decide +kernel
theorem dX11_takeItems_80 : decode cX11_takeItems 80 = .ok (.iload_n 2, 1) := by decide +kernel
theorem dX11_takeItems_81 : decode cX11_takeItems 81 = .ok (.invokevirtual 259, 3) := by decide +kernel
theorem dX11_takeItems_84 : decode cX11_takeItems 84 = .ok (.iastore, 1) := by decide +kernel
theorem dX11_takeItems_85 : decode cX11_takeItems 85 = .ok (.aload_n 0, 1) := by decide +kernel
theorem dX11_takeItems_86 : decode cX11_takeItems 86 = .ok (.getfield 115, 3) := by decide +kernel
theorem dX11_takeItems_89 : decode cX11_takeItems 89 = .ok (.aload_n 0, 1) := by decide +kernel
theorem dX11_takeItems_90 : decode cX11_takeItems 90 = .ok (.getfield 271, 3) := by decide +kernel
theorem dX11_takeItems_93 : decode cX11_takeItems 93 = .ok (.iload_n 2, 1) := by decide +kernel
theorem dX11_takeItems_94 : decode cX11_takeItems 94 = .ok (.aload_n 0, 1) := by decide +kernel
theorem dX11_takeItems_95 : decode cX11_takeItems 95 = .ok (.iload_n 2, 1) := by decide +kernel
theorem dX11_takeItems_96 : decode cX11_takeItems 96 = .ok (.invokevirtual 274, 3) := by decide +kernel
theorem dX11_takeItems_99 : decode cX11_takeItems 99 = .ok (.isub, 1) := by decide +kernel
theorem dX11_takeItems_100 : decode cX11_takeItems 100 = .ok (.iastore, 1) := by decide +kernel
theorem dX11_takeItems_101 : decode cX11_takeItems 101 = .ok (.aload_n 0, 1) := by decide +kernel
theorem dX11_takeItems_102 : decode cX11_takeItems 102 = .ok (.dup, 1) := by decide +kernel
theorem dX11_takeItems_103 : decode cX11_takeItems 103 = .ok (.getfield 271, 3) := by decide +kernel
theorem dX11_takeItems_106 : decode cX11_takeItems 106 = .ok (.iconst 1, 1) := by decide +kernel
theorem dX11_takeItems_107 : decode cX11_takeItems 107 = .ok (.iadd, 1) := by decide +kernel
theorem dX11_takeItems_108 : decode cX11_takeItems 108 = .ok (.putfield 271, 3) := by decide +kernel
theorem dX11_takeItems_111 : decode cX11_takeItems 111 = .ok (.iinc 2 1, 3) := by decide +kernel
theorem dX11_takeItems_114 : decode cX11_takeItems 114 = .ok (.goto (-74), 3) := by decide +kernel
theorem dX11_takeItems_117 : decode cX11_takeItems 117 = .ok (.iconst 0, 1) := by decide +kernel
theorem dX11_takeItems_118 : decode cX11_takeItems 118 = .ok (.istore_n 2, 1) := by decide +kernel
theorem dX11_takeItems_119 : decode cX11_takeItems 119 = .ok (.iload_n 2, 1) := by decide +kernel
theorem dX11_takeItems_120 : decode cX11_takeItems 120 = .ok (.aload_n 0, 1) := by decide +kernel
theorem dX11_takeItems_121 : decode cX11_takeItems 121 = .ok (.getfield 271, 3) := by decide +kernel
theorem dX11_takeItems_124 : decode cX11_takeItems 124 = .ok (.if_icmp .ge 43, 3) := by decide +kernel
theorem dX11_takeItems_127 : decode cX11_takeItems 127 = .ok (.aload_n 0, 1) := by decide +kernel
theorem dX11_takeItems_128 : decode cX11_takeItems 128 = .ok (.getfield 118, 3) := by decide +kernel
theorem dX11_takeItems_131 : decode cX11_takeItems 131 = .ok (.iload_n 2, 1) := by decide +kernel
theorem dX11_takeItems_132 : decode cX11_takeItems 132 = .ok (.iload_n 2, 1) := by decide +kernel
end
section
theorem dX11_takeItems_133 : decode cX11_takeItems 133 = .ok (.ifCond .le 26, 3) := by decide +kernel
theorem dX11_takeItems_136 : decode cX11_takeItems 136 = .ok (.aload_n 0, 1) := by decide +kernel
theorem dX11_takeItems_137 : decode cX11_takeItems 137 = .ok (.getfield 81, 3) := by decide +kernel
theorem dX11_takeItems_140 : decode cX11_takeItems 140 = .ok (.aload_n 0, 1) := by decide +kernel
theorem dX11_takeItems_141 : decode cX11_takeItems 141 = .ok (.getfield 109, 3) := by decide +kernel
theorem dX11_takeItems_144 : decode cX11_takeItems 144 = .ok (.iload_n 2, 1) := by decide +kernel
theorem dX11_takeItems_145 : decode cX11_takeItems 145 = .ok (.iaload, 1) := by decide +kernel
theorem dX11_takeItems_146 : decode cX11_takeItems 146 = .ok (.iaload, 1) := by decide +kernel
theorem dX11_takeItems_147 : decode cX11_takeItems 147 = .ok (.iconst 1, 1) := by decide +kernel
theorem dX11_takeItems_148 : decode cX11_takeItems 148 = .ok (.iconst 3, 1) := by decide +kernel
theorem dX11_takeItems_149 : decode cX11_takeItems 149 = .ok (.invokestatic 139, 3) := by decide +kernel
theorem dX11_takeItems_152 : decode cX11_takeItems 152 = .ok (.ifCond .eq 7, 3) := by decide +kernel
theorem dX11_takeItems_155 : decode cX11_takeItems 155 = .ok (.iconst 1, 1) := by decide +kernel
theorem dX11_takeItems_156 : decode cX11_takeItems 156 = .ok (.goto 4, 3) := by decide +kernel
theorem dX11_takeItems_159 : decode cX11_takeItems 159 = .ok (.iconst 0, 1) := by decide +kernel
theorem dX11_takeItems_160 : decode cX11_takeItems 160 = .ok (.iastore, 1) := by decide +kernel
theorem dX11_takeItems_161 : decode cX11_takeItems 161 = .ok (.iinc 2 1, 3) := by decide +kernel
theorem dX11_takeItems_164 : decode cX11_takeItems 164 = .ok (.goto (-45), 3) := by decide +kernel
theorem dX11_takeItems_167 : decode cX11_takeItems 167 = .ok (.iconst 0, 1) := by decide +kernel
theorem dX11_takeItems_168 : decode cX11_takeItems 168 = .ok (.istore_n 2, 1) := by decide +kernel
theorem dX11_takeItems_169 : decode cX11_takeItems 169 = .ok (.iload_n 2, 1) := by decide +kernel
theorem dX11_takeItems_170 : decode cX11_takeItems 170 = .ok (.aload_n 0, 1) := by decide +kernel
theorem dX11_takeItems_171 : decode cX11_takeItems 171 = .ok (.getfield 199, 3) := by decide +kernel
theorem dX11_takeItems_174 : decode cX11_takeItems 174 = .ok (.if_icmp .ge 131, 3) := by decide +kernel
theorem dX11_takeItems_177 : decode cX11_takeItems 177 = .ok (.iconst (-1), 1) := by decide +kernel
theorem dX11_takeItems_178 : decode cX11_takeItems 178 = .ok (.istore_n 3, 1) := by decide +kernel
theorem dX11_takeItems_179 : decode cX11_takeItems 179 = .ok (.iconst (-1), 1) := by decide +kernel
theorem dX11_takeItems_180 : decode cX11_takeItems 180 = .ok (.istore 4, 2) := by decide +kernel
theorem dX11_takeItems_182 : decode cX11_takeItems 182 = .ok (.iconst 0, 1) := by decide +kernel
theorem dX11_takeItems_183 : decode cX11_takeItems 183 = .ok (.istore 5, 2) := by decide +kernel
theorem dX11_takeItems_185 : decode cX11_takeItems 185 = .ok (.iload 5, 2) := by decide +kernel
theorem dX11_takeItems_187 : decode cX11_takeItems 187 = .ok (.aload_n 0, 1) := by decide +kernel
theorem dX11_takeItems_188 : decode cX11_takeItems 188 = .ok (.getfield 196, 3) := by decide +kernel
theorem dX11_takeItems_191 : decode cX11_takeItems 191 = .ok (.if_icmp .ge 78, 3) := by decide +kernel
theorem dX11_takeItems_194 : decode cX11_takeItems 194 = .ok (.aload_n 0, 1) := by decide +kernel
theorem dX11_takeItems_195 : decode cX11_takeItems 195 = .ok (.getfield 65, 3) := by decide +kernel
theorem dX11_takeItems_198 : decode cX11_takeItems 198 = .ok (.iload 5, 2) := by decide +kernel
theorem dX11_takeItems_200 : decode cX11_takeItems 200 = .ok (.iaload, 1) := by decide +kernel
theorem dX11_takeItems_201 : decode cX11_takeItems 201 = .ok (.aload_n 0, 1) := by decide +kernel
theorem dX11_takeItems_202 : decode cX11_takeItems 202 = .ok (.getfield 103, 3) := by decide +kernel
theorem dX11_takeItems_205 : decode cX11_takeItems 205 = .ok (.iload_n 2, 1) := by decide +kernel
theorem dX11_takeItems_206 : decode cX11_takeItems 206 = .ok (.iaload, 1) := by decide +kernel
theorem dX11_takeItems_207 : decode cX11_takeItems 207 = .ok (.if_icmp .ne 21, 3) := by decide +kernel
theorem dX11_takeItems_210 : decode cX11_takeItems 210 = .ok (.aload_n 0, 1) := by decide +kernel
theorem dX11_takeItems_211 : decode cX11_takeItems 211 = .ok (.iload 5, 2) := by decide +kernel
theorem dX11_takeItems_213 : decode cX11_takeItems 213 = .ok (.iload_n 1, 1) := by decide +kernel
theorem dX11_takeItems_214 : decode cX11_takeItems 214 = .ok (.invokevirtual 246, 3) := by decide +kernel
theorem dX11_takeItems_217 : decode cX11_takeItems 217 = .ok (.ifCond .eq 11, 3) := by decide +kernel
theorem dX11_takeItems_220 : decode cX11_takeItems 220 = .ok (.aload_n 0, 1) := by decide +kernel
theorem dX11_takeItems_221 : decode cX11_takeItems 221 = .ok (.iload 5, 2) := by decide +kernel
theorem dX11_takeItems_223 : decode cX11_takeItems 223 = .ok (.iload_n 1, 1) := by decide +kernel
theorem dX11_takeItems_224 : decode cX11_takeItems 224 = .ok (.invokevirtual 277, 3) := by decide +kernel
theorem dX11_takeItems_227 : decode cX11_takeItems 227 = .ok (.istore_n 3, 1) := by decide +kernel
theorem dX11_takeItems_228 : decode cX11_takeItems 228 = .ok (.aload_n 0, 1) := by decide +kernel
theorem dX11_takeItems_229 : decode cX11_takeItems 229 = .ok (.getfield 65, 3) := by decide +kernel
theorem dX11_takeItems_232 : decode cX11_takeItems 232 = .ok (.iload 5, 2) := by decide +kernel
theorem dX11_takeItems_234 : decode cX11_takeItems 234 = .ok (.iaload, 1) := by decide +kernel
theorem dX11_takeItems_235 : decode cX11_takeItems 235 = .ok (.aload_n 0, 1) := by decide +kernel
theorem dX11_takeItems_236 : decode cX11_takeItems 236 = .ok (.getfield 106, 3) := by decide +kernel
theorem dX11_takeItems_239 : decode cX11_takeItems 239 = .ok (.iload_n 2, 1) := by decide +kernel
theorem dX11_takeItems_240 : decode cX11_takeItems 240 = .ok (.iaload, 1) := by decide +kernel
theorem dX11_takeItems_241 : decode cX11_takeItems 241 = .ok (.if_icmp .ne 22, 3) := by decide +kernel
theorem dX11_takeItems_244 : decode cX11_takeItems 244 = .ok (.aload_n 0, 1) := by decide +kernel
theorem dX11_takeItems_245 : decode cX11_takeItems 245 = .ok (.iload 5, 2) := by decide +kernel
theorem dX11_takeItems_247 : decode cX11_takeItems 247 = .ok (.iload_n 1, 1) := by decide +kernel
theorem dX11_takeItems_248 : decode cX11_takeItems 248 = .ok (.invokevirtual 246, 3) := by decide +kernel
theorem dX11_takeItems_251 : decode cX11_takeItems 251 = .ok (.ifCond .eq 12, 3) := by decide +kernel
theorem dX11_takeItems_254 : decode cX11_takeItems 254 = .ok (.aload_n 0, 1) := by decide +kernel
theorem dX11_takeItems_255 : decode cX11_takeItems 255 = .ok (.iload 5, 2) := by decide +kernel
theorem dX11_takeItems_257 : decode cX11_takeItems 257 = .ok (.iload_n 1, 1) := by decide +kernel
theorem dX11_takeItems_258 : decode cX11_takeItems 258 = .ok (.invokevirtual 277, 3) := by decide +kernel
theorem dX11_takeItems_261 : decode cX11_takeItems 261 = .ok (.istore 4, 2) := by decide +kernel
theorem dX11_takeItems_263 : decode cX11_takeItems 263 = .ok (.iinc 5 1, 3) := by decide +kernel
theorem dX11_takeItems_266 : decode cX11_takeItems 266 = .ok (.goto (-81), 3) := by decide +kernel
theorem dX11_takeItems_269 : decode cX11_takeItems 269 = .ok (.iload_n 3, 1) := by decide +kernel
theorem dX11_takeItems_270 : decode cX11_takeItems 270 = .ok (.iconst (-1), 1) := by decide +kernel
theorem dX11_takeItems_271 : decode cX11_takeItems 271 = .ok (.if_icmp .eq 28, 3) := by decide +kernel
theorem dX11_takeItems_274 : decode cX11_takeItems 274 = .ok (.iload 4, 2) := by decide +kernel
theorem dX11_takeItems_276 : decode cX11_takeItems 276 = .ok (.iconst (-1), 1) := by decide +kernel
theorem dX11_takeItems_277 : decode cX11_takeItems 277 = .ok (.if_icmp .eq 22, 3) := by decide +kernel
theorem dX11_takeItems_280 : decode cX11_takeItems 280 = .ok (.iload_n 3, 1) := by decide +kernel
theorem dX11_takeItems_281 : decode cX11_takeItems 281 = .ok (.iload 4, 2) := by decide +kernel
theorem dX11_takeItems_283 : decode cX11_takeItems 283 = .ok (.if_icmp .eq 16, 3) := by decide +kernel
theorem dX11_takeItems_286 : decode cX11_takeItems 286 = .ok (.aload_n 0, 1) := by decide +kernel
theorem dX11_takeItems_287 : decode cX11_takeItems 287 = .ok (.getfield 118, 3) := by decide +kernel
theorem dX11_takeItems_290 : decode cX11_takeItems 290 = .ok (.iload 4, 2) := by decide +kernel
theorem dX11_takeItems_292 : decode cX11_takeItems 292 = .ok (.dup2, 1) := by decide +kernel
theorem dX11_takeItems_293 : decode cX11_takeItems 293 = .ok (.iaload, 1) := by decide +kernel
theorem dX11_takeItems_294 : decode cX11_takeItems 294 = .ok (.iconst 1, 1) := by decide +kernel
theorem dX11_takeItems_295 : decode cX11_takeItems 295 = .ok (.iload_n 3, 1) := by decide +kernel
theorem dX11_takeItems_296 : decode cX11_takeItems 296 = .ok (.ishl, 1) := by decide +kernel
theorem dX11_takeItems_297 : decode cX11_takeItems 297 = .ok (.ior, 1) := by decide +kernel
theorem dX11_takeItems_298 : decode cX11_takeItems 298 = .ok (.iastore, 1) := by decide +kernel
theorem dX11_takeItems_299 : decode cX11_takeItems 299 = .ok (.iinc 2 1, 3) := by decide +kernel
theorem dX11_takeItems_302 : decode cX11_takeItems 302 = .ok (.goto (-133), 3) := by decide +kernel
theorem dX11_takeItems_305 : decode cX11_takeItems 305 = .ok (.iconst 1, 1) := by decide +kernel
theorem dX11_takeItems_306 : decode cX11_takeItems 306 = .ok (.ireturn, 1) := by decide +kernel
theorem dX11_placing_0 : decode cX11_placing 0 = .ok (.aload_n 0, 1) := by decide +kernel
theorem dX11_placing_1 : decode cX11_placing 1 = .ok (.getfield 121, 3) := by decide +kernel
theorem dX11_placing_4 : decode cX11_placing 4 = .ok (.iload_n 1, 1) := by decide +kernel
theorem dX11_placing_5 : decode cX11_placing 5 = .ok (.iaload, 1) := by decide +kernel
theorem dX11_placing_6 : decode cX11_placing 6 = .ok (.istore_n 3, 1) := by decide +kernel
theorem dX11_placing_7 : decode cX11_placing 7 = .ok (.iload_n 1, 1) := by decide +kernel
theorem dX11_placing_8 : decode cX11_placing 8 = .ok (.iconst 1, 1) := by decide +kernel
theorem dX11_placing_9 : decode cX11_placing 9 = .ok (.iand, 1) := by decide +kernel
theorem dX11_placing_10 : decode cX11_placing 10 = .ok (.iconst 1, 1) := by decide +kernel
theorem dX11_placing_11 : decode cX11_placing 11 = .ok (.if_icmp .ne 7, 3) := by decide +kernel
theorem dX11_placing_14 : decode cX11_placing 14 = .ok (.iconst 1, 1) := by decide +kernel
theorem dX11_placing_15 : decode cX11_placing 15 = .ok (.goto 4, 3) := by decide +kernel
theorem dX11_placing_18 : decode cX11_placing 18 = .ok (.iconst 0, 1) := by decide +kernel
theorem dX11_placing_19 : decode cX11_placing 19 = .ok (.istore 4, 2) := by decide +kernel
theorem dX11_placing_21 : decode cX11_placing 21 = .ok (.iload_n 2, 1) := by decide +kernel
theorem dX11_placing_22 : decode cX11_placing 22 = .ok (.ifCond .le 29, 3) := by decide +kernel
theorem dX11_placing_25 : decode cX11_placing 25 = .ok (.iload 4, 2) := by decide +kernel
theorem dX11_placing_27 : decode cX11_placing 27 = .ok (.ifCond .eq 14, 3) := by decide +kernel
theorem dX11_placing_30 : decode cX11_placing 30 = .ok (.iload_n 3, 1) := by decide +kernel
theorem dX11_placing_31 : decode cX11_placing 31 = .ok (.aload_n 0, 1) := by decide +kernel
theorem dX11_placing_32 : decode cX11_placing 32 = .ok (.getfield 115, 3) := by decide +kernel
theorem dX11_placing_35 : decode cX11_placing 35 = .ok (.iload_n 2, 1) := by decide +kernel
theorem dX11_placing_36 : decode cX11_placing 36 = .ok (.iaload, 1) := by decide +kernel
theorem dX11_placing_37 : decode cX11_placing 37 = .ok (.iadd, 1) := by decide +kernel
theorem dX11_placing_38 : decode cX11_placing 38 = .ok (.goto 12, 3) := by decide +kernel
theorem dX11_placing_41 : decode cX11_placing 41 = .ok (.iload_n 3, 1) := by decide +kernel
theorem dX11_placing_42 : decode cX11_placing 42 = .ok (.aload_n 0, 1) := by decide +kernel
theorem dX11_placing_43 : decode cX11_placing 43 = .ok (.getfield 115, 3) := by decide +kernel
theorem dX11_placing_46 : decode cX11_placing 46 = .ok (.iload_n 2, 1) := by decide +kernel
theorem dX11_placing_47 : decode cX11_placing 47 = .ok (.iaload, 1) := by decide +kernel
theorem dX11_placing_48 : decode cX11_placing 48 = .ok (.iadd, 1) := by decide +kernel
theorem dX11_placing_49 : decode cX11_placing 49 = .ok (.ineg, 1) := by decide +kernel
theorem dX11_placing_50 : decode cX11_placing 50 = .ok (.ireturn, 1) := by decide +kernel
theorem dX11_placing_51 : decode cX11_placing 51 = .ok (.iconst 0, 1) := by decide +kernel
theorem dX11_placing_52 : decode cX11_placing 52 = .ok (.istore 5, 2) := by decide +kernel
theorem dX11_placing_54 : decode cX11_placing 54 = .ok (.iconst 1, 1) := by decide +kernel
theorem dX11_placing_55 : decode cX11_placing 55 = .ok (.istore 6, 2) := by decide +kernel
theorem dX11_placing_57 : decode cX11_placing 57 = .ok (.iload 6, 2) := by decide +kernel
theorem dX11_placing_59 : decode cX11_placing 59 = .ok (.aload_n 0, 1) := by decide +kernel
theorem dX11_placing_60 : decode cX11_placing 60 = .ok (.getfield 271, 3) := by decide +kernel
theorem dX11_placing_63 : decode cX11_placing 63 = .ok (.if_icmp .ge 20, 3) := by decide +kernel
theorem dX11_placing_66 : decode cX11_placing 66 = .ok (.iload 5, 2) := by decide +kernel
theorem dX11_placing_68 : decode cX11_placing 68 = .ok (.iload_n 1, 1) := by decide +kernel
theorem dX11_placing_69 : decode cX11_placing 69 = .ok (.iload 6, 2) := by decide +kernel
theorem dX11_placing_71 : decode cX11_placing 71 = .ok (.ishr, 1) := by decide +kernel
theorem dX11_placing_72 : decode cX11_placing 72 = .ok (.iconst 1, 1) := by decide +kernel
theorem dX11_placing_73 : decode cX11_placing 73 = .ok (.iand, 1) := by decide +kernel
theorem dX11_placing_74 : decode cX11_placing 74 = .ok (.iadd, 1) := by decide +kernel
theorem dX11_placing_75 : decode cX11_placing 75 = .ok (.istore 5, 2) := by decide +kernel
theorem dX11_placing_77 : decode cX11_placing 77 = .ok (.iinc 6 1, 3) := by decide +kernel
theorem dX11_placing_80 : decode cX11_placing 80 = .ok (.goto (-23), 3) := by decide +kernel
theorem dX11_placing_83 : decode cX11_placing 83 = .ok (.iload_n 3, 1) := by decide +kernel
theorem dX11_placing_84 : decode cX11_placing 84 = .ok (.iload 5, 2) := by decide +kernel
theorem dX11_placing_86 : decode cX11_placing 86 = .ok (.aload_n 0, 1) := by decide +kernel
theorem dX11_placing_87 : decode cX11_placing 87 = .ok (.getfield 271, 3) := by decide +kernel
theorem dX11_placing_90 : decode cX11_placing 90 = .ok (.iconst 1, 1) := by decide +kernel
theorem dX11_placing_91 : decode cX11_placing 91 = .ok (.isub, 1) := by decide +kernel
theorem dX11_placing_92 : decode cX11_placing 92 = .ok (.iload 5, 2) := by decide +kernel
theorem dX11_placing_94 : decode cX11_placing 94 = .ok (.isub, 1) := by decide +kernel
theorem dX11_placing_95 : decode cX11_placing 95 = .ok (.isub, 1) := by decide +kernel
theorem dX11_placing_96 : decode cX11_placing 96 = .ok (.imul, 1) := by decide +kernel
theorem dX11_placing_97 : decode cX11_placing 97 = .ok (.ireturn, 1) := by decide +kernel
theorem dX11_reckon_0 : decode cX11_reckon 0 = .ok (.iconst 1, 1) := by decide +kernel
theorem dX11_reckon_1 : decode cX11_reckon 1 = .ok (.aload_n 0, 1) := by decide +kernel
theorem dX11_reckon_2 : decode cX11_reckon 2 = .ok (.getfield 271, 3) := by decide +kernel
theorem dX11_reckon_5 : decode cX11_reckon 5 = .ok (.ishl, 1) := by decide +kernel
theorem dX11_reckon_6 : decode cX11_reckon 6 = .ok (.iconst 1, 1) := by decide +kernel
theorem dX11_reckon_7 : decode cX11_reckon 7 = .ok (.isub, 1) := by decide +kernel
theorem dX11_reckon_8 : decode cX11_reckon 8 = .ok (.istore_n 1, 1) := by decide +kernel
theorem dX11_reckon_9 : decode cX11_reckon 9 = .ok (.iconst 0, 1) := by decide +kernel
theorem dX11_reckon_10 : decode cX11_reckon 10 = .ok (.istore_n 2, 1) := by decide +kernel
theorem dX11_reckon_11 : decode cX11_reckon 11 = .ok (.iload_n 2, 1) := by decide +kernel
theorem dX11_reckon_12 : decode cX11_reckon 12 = .ok (.iload_n 1, 1) := by decide +kernel
theorem dX11_reckon_13 : decode cX11_reckon 13 = .ok (.if_icmp .gt 60, 3) := by decide +kernel
theorem dX11_reckon_16 : decode cX11_reckon 16 = .ok (.aload_n 0, 1) := by decide +kernel
theorem dX11_reckon_17 : decode cX11_reckon 17 = .ok (.getfield 121, 3) := by decide +kernel
theorem dX11_reckon_20 : decode cX11_reckon 20 = .ok (.iload_n 2, 1) := by decide +kernel
theorem dX11_reckon_21 : decode cX11_reckon 21 = .ok (.iconst 0, 1) := by decide +kernel
theorem dX11_reckon_22 : decode cX11_reckon 22 = .ok (.iastore, 1) := by decide +kernel
theorem dX11_reckon_23 : decode cX11_reckon 23 = .ok (.iconst 0, 1) := by decide +kernel
theorem dX11_reckon_24 : decode cX11_reckon 24 = .ok (.istore_n 3, 1) := by decide +kernel
theorem dX11_reckon_25 : decode cX11_reckon 25 = .ok (.iload_n 3, 1) := by decide +kernel
theorem dX11_reckon_26 : decode cX11_reckon 26 = .ok (.aload_n 0, 1) := by decide +kernel
theorem dX11_reckon_27 : decode cX11_reckon 27 = .ok (.getfield 271, 3) := by decide +kernel
theorem dX11_reckon_30 : decode cX11_reckon 30 = .ok (.if_icmp .ge 37, 3) := by decide +kernel
theorem dX11_reckon_33 : decode cX11_reckon 33 = .ok (.aload_n 0, 1) := by decide +kernel
theorem dX11_reckon_34 : decode cX11_reckon 34 = .ok (.getfield 121, 3) := by decide +kernel
theorem dX11_reckon_37 : decode cX11_reckon 37 = .ok (.iload_n 2, 1) := by decide +kernel
theorem dX11_reckon_38 : decode cX11_reckon 38 = .ok (.dup2, 1) := by decide +kernel
theorem dX11_reckon_39 : decode cX11_reckon 39 = .ok (.iaload, 1) := by decide +kernel
theorem dX11_reckon_40 : decode cX11_reckon 40 = .ok (.iload_n 2, 1) := by decide +kernel
theorem dX11_reckon_41 : decode cX11_reckon 41 = .ok (.iload_n 3, 1) := by decide +kernel
theorem dX11_reckon_42 : decode cX11_reckon 42 = .ok (.ishr, 1) := by decide +kernel
theorem dX11_reckon_43 : decode cX11_reckon 43 = .ok (.iconst 1, 1) := by decide +kernel
theorem dX11_reckon_44 : decode cX11_reckon 44 = .ok (.iand, 1) := by decide +kernel
theorem dX11_reckon_45 : decode cX11_reckon 45 = .ok (.iconst 1, 1) := by decide +kernel
theorem dX11_reckon_46 : decode cX11_reckon 46 = .ok (.if_icmp .ne 12, 3) := by decide +kernel
theorem dX11_reckon_49 : decode cX11_reckon 49 = .ok (.aload_n 0, 1) := by decide +kernel
theorem dX11_reckon_50 : decode cX11_reckon 50 = .ok (.getfield 112, 3) := by decide +kernel
theorem dX11_reckon_53 : decode cX11_reckon 53 = .ok (.iload_n 3, 1) := by decide +kernel
theorem dX11_reckon_54 : decode cX11_reckon 54 = .ok (.iaload, 1) := by decide +kernel
theorem dX11_reckon_55 : decode cX11_reckon 55 = .ok (.goto 4, 3) := by decide +kernel
theorem dX11_reckon_58 : decode cX11_reckon 58 = .ok (.iconst 0, 1) := by decide +kernel
theorem dX11_reckon_59 : decode cX11_reckon 59 = .ok (.iadd, 1) := by decide +kernel
theorem dX11_reckon_60 : decode cX11_reckon 60 = .ok (.iastore, 1) := by decide +kernel
theorem dX11_reckon_61 : decode cX11_reckon 61 = .ok (.iinc 3 1, 3) := by decide +kernel
theorem dX11_reckon_64 : decode cX11_reckon 64 = .ok (.goto (-39), 3) := by decide +kernel
theorem dX11_reckon_67 : decode cX11_reckon 67 = .ok (.iinc 2 1, 3) := by decide +kernel
theorem dX11_reckon_70 : decode cX11_reckon 70 = .ok (.goto (-59), 3) := by decide +kernel
theorem dX11_reckon_73 : decode cX11_reckon 73 = .ok (.iload_n 1, 1) := by decide +kernel
theorem dX11_reckon_74 : decode cX11_reckon 74 = .ok (.istore_n 2, 1) := by decide +kernel
theorem dX11_reckon_75 : decode cX11_reckon 75 = .ok (.iload_n 2, 1) := by decide +kernel
theorem dX11_reckon_76 : decode cX11_reckon 76 = .ok (.ifCond .lt 118, 3) := by decide +kernel
theorem dX11_reckon_79 : decode cX11_reckon 79 = .ok (.iload_n 2, 1) := by decide +kernel
theorem dX11_reckon_80 : decode cX11_reckon 80 = .ok (.iload_n 1, 1) := by decide +kernel
theorem dX11_reckon_81 : decode cX11_reckon 81 = .ok (.if_icmp .ne 7, 3) := by decide +kernel
theorem dX11_reckon_84 : decode cX11_reckon 84 = .ok (.iconst 0, 1) := by decide +kernel
theorem dX11_reckon_85 : decode cX11_reckon 85 = .ok (.goto 5, 3) := by decide +kernel
theorem dX11_reckon_88 : decode cX11_reckon 88 = .ok (.ldc 218, 2) := by decide +kernel
theorem dX11_reckon_90 : decode cX11_reckon 90 = .ok (.istore_n 3, 1) := by decide +kernel
theorem dX11_reckon_91 : decode cX11_reckon 91 = .ok (.iconst 0, 1) := by decide +kernel
theorem dX11_reckon_92 : decode cX11_reckon 92 = .ok (.istore 4, 2) := by decide +kernel
theorem dX11_reckon_94 : decode cX11_reckon 94 = .ok (.iload 4, 2) := by decide +kernel
theorem dX11_reckon_96 : decode cX11_reckon 96 = .ok (.aload_n 0, 1) := by decide +kernel
theorem dX11_reckon_97 : decode cX11_reckon 97 = .ok (.getfield 271, 3) := by decide +kernel
theorem dX11_reckon_100 : decode cX11_reckon 100 = .ok (.if_icmp .ge 81, 3) := by decide +kernel
theorem dX11_reckon_103 : decode cX11_reckon 103 = .ok (.iload_n 2, 1) := by decide +kernel
theorem dX11_reckon_104 : decode cX11_reckon 104 = .ok (.iload 4, 2) := by decide +kernel
theorem dX11_reckon_106 : decode cX11_reckon 106 = .ok (.ishr, 1) := by decide +kernel
theorem dX11_reckon_107 : decode cX11_reckon 107 = .ok (.iconst 1, 1) := by decide +kernel
theorem dX11_reckon_108 : decode cX11_reckon 108 = .ok (.iand, 1) := by decide +kernel
theorem dX11_reckon_109 : decode cX11_reckon 109 = .ok (.iconst 1, 1) := by decide +kernel
theorem dX11_reckon_110 : decode cX11_reckon 110 = .ok (.if_icmp .eq 65, 3) := by decide +kernel
theorem dX11_reckon_113 : decode cX11_reckon 113 = .ok (.aload_n 0, 1) := by decide +kernel
theorem dX11_reckon_114 : decode cX11_reckon 114 = .ok (.getfield 118, 3) := by decide +kernel
theorem dX11_reckon_117 : decode cX11_reckon 117 = .ok (.iload 4, 2) := by decide +kernel
theorem dX11_reckon_119 : decode cX11_reckon 119 = .ok (.iaload, 1) := by decide +kernel
theorem dX11_reckon_120 : decode cX11_reckon 120 = .ok (.iload_n 2, 1) := by decide +kernel
theorem dX11_reckon_121 : decode cX11_reckon 121 = .ok (.iconst (-1), 1) := by decide +kernel
theorem dX11_reckon_122 : decode cX11_reckon 122 = .ok (.ixor, 1) := by decide +kernel
theorem dX11_reckon_123 : decode cX11_reckon 123 = .ok (.iand, 1) := by decide +kernel
theorem dX11_reckon_124 : decode cX11_reckon 124 = .ok (.ifCond .eq 6, 3) := by decide +kernel
theorem dX11_reckon_127 : decode cX11_reckon 127 = .ok (.goto 48, 3) := by decide +kernel
theorem dX11_reckon_130 : decode cX11_reckon 130 = .ok (.aload_n 0, 1) := by decide +kernel
theorem dX11_reckon_131 : decode cX11_reckon 131 = .ok (.getfield 124, 3) := by decide +kernel
theorem dX11_reckon_134 : decode cX11_reckon 134 = .ok (.iload_n 2, 1) := by decide +kernel
theorem dX11_reckon_135 : decode cX11_reckon 135 = .ok (.iconst 1, 1) := by decide +kernel
theorem dX11_reckon_136 : decode cX11_reckon 136 = .ok (.iload 4, 2) := by decide +kernel
theorem dX11_reckon_138 : decode cX11_reckon 138 = .ok (.ishl, 1) := by decide +kernel
theorem dX11_reckon_139 : decode cX11_reckon 139 = .ok (.ior, 1) := by decide +kernel
theorem dX11_reckon_140 : decode cX11_reckon 140 = .ok (.iaload, 1) := by decide +kernel
theorem dX11_reckon_141 : decode cX11_reckon 141 = .ok (.istore 5, 2) := by decide +kernel
theorem dX11_reckon_143 : decode cX11_reckon 143 = .ok (.iload 5, 2) := by decide +kernel
theorem dX11_reckon_145 : decode cX11_reckon 145 = .ok (.ldc 218, 2) := by decide +kernel
theorem dX11_reckon_147 : decode cX11_reckon 147 = .ok (.if_icmp .ge 28, 3) := by decide +kernel
theorem dX11_reckon_150 : decode cX11_reckon 150 = .ok (.aload_n 0, 1) := by decide +kernel
theorem dX11_reckon_151 : decode cX11_reckon 151 = .ok (.iload_n 2, 1) := by decide +kernel
theorem dX11_reckon_152 : decode cX11_reckon 152 = .ok (.iload 4, 2) := by decide +kernel
theorem dX11_reckon_154 : decode cX11_reckon 154 = .ok (.invokevirtual 280, 3) := by decide +kernel
theorem dX11_reckon_157 : decode cX11_reckon 157 = .ok (.iload 5, 2) := by decide +kernel
theorem dX11_reckon_159 : decode cX11_reckon 159 = .ok (.iadd, 1) := by decide +kernel
theorem dX11_reckon_160 : decode cX11_reckon 160 = .ok (.iload_n 3, 1) := by decide +kernel
theorem dX11_reckon_161 : decode cX11_reckon 161 = .ok (.if_icmp .ge 14, 3) := by decide +kernel
theorem dX11_reckon_164 : decode cX11_reckon 164 = .ok (.aload_n 0, 1) := by decide +kernel
theorem dX11_reckon_165 : decode cX11_reckon 165 = .ok (.iload_n 2, 1) := by decide +kernel
theorem dX11_reckon_166 : decode cX11_reckon 166 = .ok (.iload 4, 2) := by decide +kernel
theorem dX11_reckon_168 : decode cX11_reckon 168 = .ok (.invokevirtual 280, 3) := by decide +kernel
theorem dX11_reckon_171 : decode cX11_reckon 171 = .ok (.iload 5, 2) := by decide +kernel
theorem dX11_reckon_173 : decode cX11_reckon 173 = .ok (.iadd, 1) := by decide +kernel
theorem dX11_reckon_174 : decode cX11_reckon 174 = .ok (.istore_n 3, 1) := by decide +kernel
theorem dX11_reckon_175 : decode cX11_reckon 175 = .ok (.iinc 4 1, 3) := by decide +kernel
theorem dX11_reckon_178 : decode cX11_reckon 178 = .ok (.goto (-84), 3) := by decide +kernel
theorem dX11_reckon_181 : decode cX11_reckon 181 = .ok (.aload_n 0, 1) := by decide +kernel
theorem dX11_reckon_182 : decode cX11_reckon 182 = .ok (.getfield 124, 3) := by decide +kernel
theorem dX11_reckon_185 : decode cX11_reckon 185 = .ok (.iload_n 2, 1) := by decide +kernel
theorem dX11_reckon_186 : decode cX11_reckon 186 = .ok (.iload_n 3, 1) := by decide +kernel
theorem dX11_reckon_187 : decode cX11_reckon 187 = .ok (.iastore, 1) := by decide +kernel
theorem dX11_reckon_188 : decode cX11_reckon 188 = .ok (.iinc 2 (-1), 3) := by decide +kernel
theorem dX11_reckon_191 : decode cX11_reckon 191 = .ok (.goto (-116), 3) := by decide +kernel
theorem dX11_reckon_194 : decode cX11_reckon 194 = .ok (.aload_n 0, 1) := by decide +kernel
theorem dX11_reckon_195 : decode cX11_reckon 195 = .ok (.getfield 124, 3) := by decide +kernel
theorem dX11_reckon_198 : decode cX11_reckon 198 = .ok (.iconst 0, 1) := by decide +kernel
theorem dX11_reckon_199 : decode cX11_reckon 199 = .ok (.iaload, 1) := by decide +kernel
theorem dX11_reckon_200 : decode cX11_reckon 200 = .ok (.ldc 218, 2) := by decide +kernel
theorem dX11_reckon_202 : decode cX11_reckon 202 = .ok (.if_icmp .lt 6, 3) := by decide +kernel
theorem dX11_reckon_205 : decode cX11_reckon 205 = .ok (.ldc 218, 2) := by decide +kernel
theorem dX11_reckon_207 : decode cX11_reckon 207 = .ok (.ireturn, 1) := by decide +kernel
theorem dX11_reckon_208 : decode cX11_reckon 208 = .ok (.iconst 0, 1) := by decide +kernel
theorem dX11_reckon_209 : decode cX11_reckon 209 = .ok (.istore_n 2, 1) := by decide +kernel
theorem dX11_reckon_210 : decode cX11_reckon 210 = .ok (.iconst 0, 1) := by decide +kernel
theorem dX11_reckon_211 : decode cX11_reckon 211 = .ok (.istore_n 3, 1) := by decide +kernel
theorem dX11_reckon_212 : decode cX11_reckon 212 = .ok (.iload_n 3, 1) := by decide +kernel
theorem dX11_reckon_213 : decode cX11_reckon 213 = .ok (.aload_n 0, 1) := by decide +kernel
theorem dX11_reckon_214 : decode cX11_reckon 214 = .ok (.getfield 271, 3) := by decide +kernel
theorem dX11_reckon_217 : decode cX11_reckon 217 = .ok (.if_icmp .ge 143, 3) := by decide +kernel
theorem dX11_reckon_220 : decode cX11_reckon 220 = .ok (.iconst (-1), 1) := by decide +kernel
theorem dX11_reckon_221 : decode cX11_reckon 221 = .ok (.istore 4, 2) := by decide +kernel
theorem dX11_reckon_223 : decode cX11_reckon 223 = .ok (.iconst 0, 1) := by decide +kernel
theorem dX11_reckon_224 : decode cX11_reckon 224 = .ok (.istore 5, 2) := by decide +kernel
theorem dX11_reckon_226 : decode cX11_reckon 226 = .ok (.iload 5, 2) := by decide +kernel
theorem dX11_reckon_228 : decode cX11_reckon 228 = .ok (.aload_n 0, 1) := by decide +kernel
theorem dX11_reckon_229 : decode cX11_reckon 229 = .ok (.getfield 271, 3) := by decide +kernel
theorem dX11_reckon_232 : decode cX11_reckon 232 = .ok (.if_icmp .ge 107, 3) := by decide +kernel
theorem dX11_reckon_235 : decode cX11_reckon 235 = .ok (.iload_n 2, 1) := by decide +kernel
theorem dX11_reckon_236 : decode cX11_reckon 236 = .ok (.iload 5, 2) := by decide +kernel
theorem dX11_reckon_238 : decode cX11_reckon 238 = .ok (.ishr, 1) := by decide +kernel
theorem dX11_reckon_239 : decode cX11_reckon 239 = .ok (.iconst 1, 1) := by decide +kernel
theorem dX11_reckon_240 : decode cX11_reckon 240 = .ok (.iand, 1) := by decide +kernel
theorem dX11_reckon_241 : decode cX11_reckon 241 = .ok (.iconst 1, 1) := by decide +kernel
theorem dX11_reckon_242 : decode cX11_reckon 242 = .ok (.if_icmp .eq 91, 3) := by decide +kernel
theorem dX11_reckon_245 : decode cX11_reckon 245 = .ok (.aload_n 0, 1) := by decide +kernel
theorem dX11_reckon_246 : decode cX11_reckon 246 = .ok (.getfield 118, 3) := by decide +kernel
theorem dX11_reckon_249 : decode cX11_reckon 249 = .ok (.iload 5, 2) := by decide +kernel
theorem dX11_reckon_251 : decode cX11_reckon 251 = .ok (.iaload, 1) := by decide +kernel
theorem dX11_reckon_252 : decode cX11_reckon 252 = .ok (.iload_n 2, 1) := by decide +kernel
theorem dX11_reckon_253 : decode cX11_reckon 253 = .ok (.iconst (-1), 1) := by decide +kernel
theorem dX11_reckon_254 : decode cX11_reckon 254 = .ok (.ixor, 1) := by decide +kernel
theorem dX11_reckon_255 : decode cX11_reckon 255 = .ok (.iand, 1) := by decide +kernel
theorem dX11_reckon_256 : decode cX11_reckon 256 = .ok (.ifCond .ne 77, 3) := by decide +kernel
theorem dX11_reckon_259 : decode cX11_reckon 259 = .ok (.aload_n 0, 1) := by decide +kernel
theorem dX11_reckon_260 : decode cX11_reckon 260 = .ok (.getfield 124, 3) := by decide +kernel
theorem dX11_reckon_263 : decode cX11_reckon 263 = .ok (.iload_n 2, 1) := by decide +kernel
theorem dX11_reckon_264 : decode cX11_reckon 264 = .ok (.iconst 1, 1) := by decide +kernel
theorem dX11_reckon_265 : decode cX11_reckon 265 = .ok (.iload 5, 2) := by decide +kernel
theorem dX11_reckon_267 : decode cX11_reckon 267 = .ok (.ishl, 1) := by decide +kernel
theorem dX11_reckon_268 : decode cX11_reckon 268 = .ok (.ior, 1) := by decide +kernel
theorem dX11_reckon_269 : decode cX11_reckon 269 = .ok (.iaload, 1) := by decide +kernel
theorem dX11_reckon_270 : decode cX11_reckon 270 = .ok (.ldc 218, 2) := by decide +kernel
theorem dX11_reckon_272 : decode cX11_reckon 272 = .ok (.if_icmp .ge 61, 3) := by decide +kernel
theorem dX11_reckon_275 : decode cX11_reckon 275 = .ok (.aload_n 0, 1) := by decide +kernel
theorem dX11_reckon_276 : decode cX11_reckon 276 = .ok (.iload_n 2, 1) := by decide +kernel
theorem dX11_reckon_277 : decode cX11_reckon 277 = .ok (.iload 5, 2) := by decide +kernel
theorem dX11_reckon_279 : decode cX11_reckon 279 = .ok (.invokevirtual 280, 3) := by decide +kernel
theorem dX11_reckon_282 : decode cX11_reckon 282 = .ok (.aload_n 0, 1) := by decide +kernel
theorem dX11_reckon_283 : decode cX11_reckon 283 = .ok (.getfield 124, 3) := by decide +kernel
theorem dX11_reckon_286 : decode cX11_reckon 286 = .ok (.iload_n 2, 1) := by decide +kernel
theorem dX11_reckon_287 : decode cX11_reckon 287 = .ok (.iconst 1, 1) := by decide +kernel
theorem dX11_reckon_288 : decode cX11_reckon 288 = .ok (.iload 5, 2) := by decide +kernel
theorem dX11_reckon_290 : decode cX11_reckon 290 = .ok (.ishl, 1) := by decide +kernel
theorem dX11_reckon_291 : decode cX11_reckon 291 = .ok (.ior, 1) := by decide +kernel
theorem dX11_reckon_292 : decode cX11_reckon 292 = .ok (.iaload, 1) := by decide +kernel
theorem dX11_reckon_293 : decode cX11_reckon 293 = .ok (.iadd, 1) := by decide +kernel
theorem dX11_reckon_294 : decode cX11_reckon 294 = .ok (.aload_n 0, 1) := by decide +kernel
theorem dX11_reckon_295 : decode cX11_reckon 295 = .ok (.getfield 124, 3) := by decide +kernel
theorem dX11_reckon_298 : decode cX11_reckon 298 = .ok (.iload_n 2, 1) := by decide +kernel
theorem dX11_reckon_299 : decode cX11_reckon 299 = .ok (.iaload, 1) := by decide +kernel
theorem dX11_reckon_300 : decode cX11_reckon 300 = .ok (.if_icmp .eq 6, 3) := by decide +kernel
theorem dX11_reckon_303 : decode cX11_reckon 303 = .ok (.goto 30, 3) := by decide +kernel
theorem dX11_reckon_306 : decode cX11_reckon 306 = .ok (.iload 4, 2) := by decide +kernel
theorem dX11_reckon_308 : decode cX11_reckon 308 = .ok (.iconst (-1), 1) := by decide +kernel
theorem dX11_reckon_309 : decode cX11_reckon 309 = .ok (.if_icmp .eq 20, 3) := by decide +kernel
theorem dX11_reckon_312 : decode cX11_reckon 312 = .ok (.aload_n 0, 1) := by decide +kernel
theorem dX11_reckon_313 : decode cX11_reckon 313 = .ok (.getfield 109, 3) := by decide +kernel
theorem dX11_reckon_316 : decode cX11_reckon 316 = .ok (.iload 5, 2) := by decide +kernel
theorem dX11_reckon_318 : decode cX11_reckon 318 = .ok (.iaload, 1) := by decide +kernel
theorem dX11_reckon_319 : decode cX11_reckon 319 = .ok (.aload_n 0, 1) := by decide +kernel
theorem dX11_reckon_320 : decode cX11_reckon 320 = .ok (.getfield 109, 3) := by decide +kernel
theorem dX11_reckon_323 : decode cX11_reckon 323 = .ok (.iload 4, 2) := by decide +kernel
theorem dX11_reckon_325 : decode cX11_reckon 325 = .ok (.iaload, 1) := by decide +kernel
theorem dX11_reckon_326 : decode cX11_reckon 326 = .ok (.if_icmp .ge 7, 3) := by decide +kernel
theorem dX11_reckon_329 : decode cX11_reckon 329 = .ok (.iload 5, 2) := by decide +kernel
theorem dX11_reckon_331 : decode cX11_reckon 331 = .ok (.istore 4, 2) := by decide +kernel
theorem dX11_reckon_333 : decode cX11_reckon 333 = .ok (.iinc 5 1, 3) := by decide +kernel
theorem dX11_reckon_336 : decode cX11_reckon 336 = .ok (.goto (-110), 3) := by decide +kernel
theorem dX11_reckon_339 : decode cX11_reckon 339 = .ok (.aload_n 0, 1) := by decide +kernel
theorem dX11_reckon_340 : decode cX11_reckon 340 = .ok (.getfield 130, 3) := by decide +kernel
theorem dX11_reckon_343 : decode cX11_reckon 343 = .ok (.iload_n 3, 1) := by decide +kernel
theorem dX11_reckon_344 : decode cX11_reckon 344 = .ok (.iload 4, 2) := by decide +kernel
theorem dX11_reckon_346 : decode cX11_reckon 346 = .ok (.iastore, 1) := by decide +kernel
theorem dX11_reckon_347 : decode cX11_reckon 347 = .ok (.iload_n 2, 1) := by decide +kernel
theorem dX11_reckon_348 : decode cX11_reckon 348 = .ok (.iconst 1, 1) := by decide +kernel
theorem dX11_reckon_349 : decode cX11_reckon 349 = .ok (.iload 4, 2) := by decide +kernel
theorem dX11_reckon_351 : decode cX11_reckon 351 = .ok (.ishl, 1) := by decide +kernel
theorem dX11_reckon_352 : decode cX11_reckon 352 = .ok (.ior, 1) := by decide +kernel
theorem dX11_reckon_353 : decode cX11_reckon 353 = .ok (.istore_n 2, 1) := by decide +kernel
theorem dX11_reckon_354 : decode cX11_reckon 354 = .ok (.iinc 3 1, 3) := by decide +kernel
theorem dX11_reckon_357 : decode cX11_reckon 357 = .ok (.goto (-145), 3) := by decide +kernel
theorem dX11_reckon_360 : decode cX11_reckon 360 = .ok (.aload_n 0, 1) := by decide +kernel
theorem dX11_reckon_361 : decode cX11_reckon 361 = .ok (.getfield 124, 3) := by decide +kernel
theorem dX11_reckon_364 : decode cX11_reckon 364 = .ok (.iconst 0, 1) := by decide +kernel
theorem dX11_reckon_365 : decode cX11_reckon 365 = .ok (.iaload, 1) := by decide +kernel
theorem dX11_reckon_366 : decode cX11_reckon 366 = .ok (.ireturn, 1) := by decide +kernel
theorem dX11_order_0 : decode cX11_order 0 = .ok (.aload_n 0, 1) := by decide +kernel
theorem dX11_order_1 : decode cX11_order 1 = .ok (.iload_n 1, 1) := by decide +kernel
theorem dX11_order_2 : decode cX11_order 2 = .ok (.invokevirtual 250, 3) := by decide +kernel
theorem dX11_order_5 : decode cX11_order 5 = .ok (.ifCond .ne 6, 3) := by decide +kernel
theorem dX11_order_8 : decode cX11_order 8 = .ok (.bipush (-2), 2) := by decide +kernel
theorem dX11_order_10 : decode cX11_order 10 = .ok (.ireturn, 1) := by decide +kernel
theorem dX11_order_11 : decode cX11_order 11 = .ok (.aload_n 0, 1) := by decide +kernel
theorem dX11_order_12 : decode cX11_order 12 = .ok (.invokevirtual 253, 3) := by decide +kernel
theorem dX11_order_15 : decode cX11_order 15 = .ok (.aload_n 0, 1) := by decide +kernel
theorem dX11_order_16 : decode cX11_order 16 = .ok (.iload_n 1, 1) := by decide +kernel
theorem dX11_order_17 : decode cX11_order 17 = .ok (.invokevirtual 283, 3) := by decide +kernel
theorem dX11_order_20 : decode cX11_order 20 = .ok (.ifCond .ne 5, 3) := by decide +kernel
theorem dX11_order_23 : decode cX11_order 23 = .ok (.iconst (-1), 1) := by decide +kernel
theorem dX11_order_24 : decode cX11_order 24 = .ok (.ireturn, 1) := by decide +kernel
theorem dX11_order_25 : decode cX11_order 25 = .ok (.aload_n 0, 1) := by decide +kernel
theorem dX11_order_26 : decode cX11_order 26 = .ok (.invokevirtual 286, 3) := by decide +kernel
theorem dX11_order_29 : decode cX11_order 29 = .ok (.istore_n 2, 1) := by decide +kernel
theorem dX11_order_30 : decode cX11_order 30 = .ok (.iload_n 2, 1) := by decide +kernel
theorem dX11_order_31 : decode cX11_order 31 = .ok (.ldc 218, 2) := by decide +kernel
theorem dX11_order_33 : decode cX11_order 33 = .ok (.if_icmp .lt 5, 3) := by decide +kernel
theorem dX11_order_36 : decode cX11_order 36 = .ok (.iconst (-1), 1) := by decide +kernel
theorem dX11_order_37 : decode cX11_order 37 = .ok (.ireturn, 1) := by decide +kernel
theorem dX11_order_38 : decode cX11_order 38 = .ok (.aload_n 0, 1) := by decide +kernel
theorem dX11_order_39 : decode cX11_order 39 = .ok (.aload_n 0, 1) := by decide +kernel
theorem dX11_order_40 : decode cX11_order 40 = .ok (.getfield 271, 3) := by decide +kernel
theorem dX11_order_43 : decode cX11_order 43 = .ok (.putfield 289, 3) := by decide +kernel
theorem dX11_order_46 : decode cX11_order 46 = .ok (.iconst 0, 1) := by decide +kernel
theorem dX11_order_47 : decode cX11_order 47 = .ok (.istore_n 3, 1) := by decide +kernel
theorem dX11_order_48 : decode cX11_order 48 = .ok (.iload_n 3, 1) := by decide +kernel
theorem dX11_order_49 : decode cX11_order 49 = .ok (.aload_n 0, 1) := by decide +kernel
theorem dX11_order_50 : decode cX11_order 50 = .ok (.getfield 271, 3) := by decide +kernel
theorem dX11_order_53 : decode cX11_order 53 = .ok (.if_icmp .ge 26, 3) := by decide +kernel
theorem dX11_order_56 : decode cX11_order 56 = .ok (.aload_n 0, 1) := by decide +kernel
theorem dX11_order_57 : decode cX11_order 57 = .ok (.getfield 127, 3) := by decide +kernel
theorem dX11_order_60 : decode cX11_order 60 = .ok (.iload_n 3, 1) := by decide +kernel
theorem dX11_order_61 : decode cX11_order 61 = .ok (.aload_n 0, 1) := by decide +kernel
theorem dX11_order_62 : decode cX11_order 62 = .ok (.getfield 109, 3) := by decide +kernel
theorem dX11_order_65 : decode cX11_order 65 = .ok (.aload_n 0, 1) := by decide +kernel
theorem dX11_order_66 : decode cX11_order 66 = .ok (.getfield 130, 3) := by decide +kernel
theorem dX11_order_69 : decode cX11_order 69 = .ok (.iload_n 3, 1) := by decide +kernel
theorem dX11_order_70 : decode cX11_order 70 = .ok (.iaload, 1) := by decide +kernel
theorem dX11_order_71 : decode cX11_order 71 = .ok (.iaload, 1) := by decide +kernel
theorem dX11_order_72 : decode cX11_order 72 = .ok (.iastore, 1) := by decide +kernel
theorem dX11_order_73 : decode cX11_order 73 = .ok (.iinc 3 1, 3) := by decide +kernel
theorem dX11_order_76 : decode cX11_order 76 = .ok (.goto (-28), 3) := by decide +kernel
theorem dX11_order_79 : decode cX11_order 79 = .ok (.iload_n 2, 1) := by decide +kernel
theorem dX11_order_80 : decode cX11_order 80 = .ok (.ireturn, 1) := by decide +kernel
theorem dX11_ordered_0 : decode cX11_ordered 0 = .ok (.iload_n 1, 1) := by decide +kernel
theorem dX11_ordered_1 : decode cX11_ordered 1 = .ok (.iconst 0, 1) := by decide +kernel
theorem dX11_ordered_2 : decode cX11_ordered 2 = .ok (.aload_n 0, 1) := by decide +kernel
theorem dX11_ordered_3 : decode cX11_ordered 3 = .ok (.getfield 289, 3) := by decide +kernel
theorem dX11_ordered_6 : decode cX11_ordered 6 = .ok (.iconst 1, 1) := by decide +kernel
theorem dX11_ordered_7 : decode cX11_ordered 7 = .ok (.isub, 1) := by decide +kernel
theorem dX11_ordered_8 : decode cX11_ordered 8 = .ok (.invokestatic 139, 3) := by decide +kernel
theorem dX11_ordered_11 : decode cX11_ordered 11 = .ok (.ifCond .eq 12, 3) := by decide +kernel
theorem dX11_ordered_14 : decode cX11_ordered 14 = .ok (.aload_n 0, 1) := by decide +kernel
theorem dX11_ordered_15 : decode cX11_ordered 15 = .ok (.getfield 127, 3) := by decide +kernel
theorem dX11_ordered_18 : decode cX11_ordered 18 = .ok (.iload_n 1, 1) := by decide +kernel
theorem dX11_ordered_19 : decode cX11_ordered 19 = .ok (.iaload, 1) := by decide +kernel
theorem dX11_ordered_20 : decode cX11_ordered 20 = .ok (.goto 4, 3) := by decide +kernel
theorem dX11_ordered_23 : decode cX11_ordered 23 = .ok (.iconst (-1), 1) := by decide +kernel
theorem dX11_ordered_24 : decode cX11_ordered 24 = .ok (.ireturn, 1) := by decide +kernel
theorem dX11_stands_0 : decode cX11_stands 0 = .ok (.aload_n 0, 1) := by decide +kernel
theorem dX11_stands_1 : decode cX11_stands 1 = .ok (.iload_n 1, 1) := by decide +kernel
theorem dX11_stands_2 : decode cX11_stands 2 = .ok (.invokevirtual 250, 3) := by decide +kernel
theorem dX11_stands_5 : decode cX11_stands 5 = .ok (.ifCond .ne 6, 3) := by decide +kernel
theorem dX11_stands_8 : decode cX11_stands 8 = .ok (.bipush (-2), 2) := by decide +kernel
theorem dX11_stands_10 : decode cX11_stands 10 = .ok (.ireturn, 1) := by decide +kernel
theorem dX11_stands_11 : decode cX11_stands 11 = .ok (.aload_n 0, 1) := by decide +kernel
theorem dX11_stands_12 : decode cX11_stands 12 = .ok (.invokevirtual 253, 3) := by decide +kernel
theorem dX11_stands_15 : decode cX11_stands 15 = .ok (.iconst 0, 1) := by decide +kernel
theorem dX11_stands_16 : decode cX11_stands 16 = .ok (.istore_n 2, 1) := by decide +kernel
theorem dX11_stands_17 : decode cX11_stands 17 = .ok (.iconst 0, 1) := by decide +kernel
theorem dX11_stands_18 : decode cX11_stands 18 = .ok (.istore_n 3, 1) := by decide +kernel
theorem dX11_stands_19 : decode cX11_stands 19 = .ok (.iload_n 3, 1) := by decide +kernel
theorem dX11_stands_20 : decode cX11_stands 20 = .ok (.aload_n 0, 1) := by decide +kernel
theorem dX11_stands_21 : decode cX11_stands 21 = .ok (.getfield 196, 3) := by decide +kernel
theorem dX11_stands_24 : decode cX11_stands 24 = .ok (.if_icmp .ge 36, 3) := by decide +kernel
theorem dX11_stands_27 : decode cX11_stands 27 = .ok (.aload_n 0, 1) := by decide +kernel
theorem dX11_stands_28 : decode cX11_stands 28 = .ok (.getfield 100, 3) := by decide +kernel
theorem dX11_stands_31 : decode cX11_stands 31 = .ok (.iload_n 3, 1) := by decide +kernel
theorem dX11_stands_32 : decode cX11_stands 32 = .ok (.iaload, 1) := by decide +kernel
theorem dX11_stands_33 : decode cX11_stands 33 = .ok (.iload_n 1, 1) := by decide +kernel
theorem dX11_stands_34 : decode cX11_stands 34 = .ok (.if_icmp .ne 20, 3) := by decide +kernel
theorem dX11_stands_37 : decode cX11_stands 37 = .ok (.iload_n 2, 1) := by decide +kernel
theorem dX11_stands_38 : decode cX11_stands 38 = .ok (.iload_n 3, 1) := by decide +kernel
theorem dX11_stands_39 : decode cX11_stands 39 = .ok (.iload_n 1, 1) := by decide +kernel
theorem dX11_stands_40 : decode cX11_stands 40 = .ok (.if_icmp .le 9, 3) := by decide +kernel
theorem dX11_stands_43 : decode cX11_stands 43 = .ok (.iload_n 3, 1) := by decide +kernel
theorem dX11_stands_44 : decode cX11_stands 44 = .ok (.iload_n 1, 1) := by decide +kernel
theorem dX11_stands_45 : decode cX11_stands 45 = .ok (.isub, 1) := by decide +kernel
theorem dX11_stands_46 : decode cX11_stands 46 = .ok (.goto 6, 3) := by decide +kernel
theorem dX11_stands_49 : decode cX11_stands 49 = .ok (.iload_n 1, 1) := by decide +kernel
theorem dX11_stands_50 : decode cX11_stands 50 = .ok (.iload_n 3, 1) := by decide +kernel
theorem dX11_stands_51 : decode cX11_stands 51 = .ok (.isub, 1) := by decide +kernel
theorem dX11_stands_52 : decode cX11_stands 52 = .ok (.iadd, 1) := by decide +kernel
theorem dX11_stands_53 : decode cX11_stands 53 = .ok (.istore_n 2, 1) := by decide +kernel
theorem dX11_stands_54 : decode cX11_stands 54 = .ok (.iinc 3 1, 3) := by decide +kernel
theorem dX11_stands_57 : decode cX11_stands 57 = .ok (.goto (-38), 3) := by decide +kernel
theorem dX11_stands_60 : decode cX11_stands 60 = .ok (.iload_n 2, 1) := by decide +kernel
theorem dX11_stands_61 : decode cX11_stands 61 = .ok (.ireturn, 1) := by decide +kernel
theorem dX11_setAll_0 : decode cX11_setAll 0 = .ok (.iconst 0, 1) := by decide +kernel
theorem dX11_setAll_1 : decode cX11_setAll 1 = .ok (.istore_n 1, 1) := by decide +kernel
theorem dX11_setAll_2 : decode cX11_setAll 2 = .ok (.iconst 0, 1) := by decide +kernel
theorem dX11_setAll_3 : decode cX11_setAll 3 = .ok (.istore_n 2, 1) := by decide +kernel
theorem dX11_setAll_4 : decode cX11_setAll 4 = .ok (.iload_n 2, 1) := by decide +kernel
theorem dX11_setAll_5 : decode cX11_setAll 5 = .ok (.aload_n 0, 1) := by decide +kernel
theorem dX11_setAll_6 : decode cX11_setAll 6 = .ok (.getfield 196, 3) := by decide +kernel
theorem dX11_setAll_9 : decode cX11_setAll 9 = .ok (.if_icmp .ge 44, 3) := by decide +kernel
theorem dX11_setAll_12 : decode cX11_setAll 12 = .ok (.iload_n 1, 1) := by decide +kernel
theorem dX11_setAll_13 : decode cX11_setAll 13 = .ok (.aload_n 0, 1) := by decide +kernel
theorem dX11_setAll_14 : decode cX11_setAll 14 = .ok (.getfield 65, 3) := by decide +kernel
theorem dX11_setAll_17 : decode cX11_setAll 17 = .ok (.iload_n 2, 1) := by decide +kernel
theorem dX11_setAll_18 : decode cX11_setAll 18 = .ok (.iaload, 1) := by decide +kernel
theorem dX11_setAll_19 : decode cX11_setAll 19 = .ok (.aload_n 0, 1) := by decide +kernel
theorem dX11_setAll_20 : decode cX11_setAll 20 = .ok (.getfield 133, 3) := by decide +kernel
theorem dX11_setAll_23 : decode cX11_setAll 23 = .ok (.iload_n 2, 1) := by decide +kernel
theorem dX11_setAll_24 : decode cX11_setAll 24 = .ok (.iaload, 1) := by decide +kernel
theorem dX11_setAll_25 : decode cX11_setAll 25 = .ok (.if_icmp .eq 7, 3) := by decide +kernel
theorem dX11_setAll_28 : decode cX11_setAll 28 = .ok (.iconst 1, 1) := by decide +kernel
theorem dX11_setAll_29 : decode cX11_setAll 29 = .ok (.goto 4, 3) := by decide +kernel
theorem dX11_setAll_32 : decode cX11_setAll 32 = .ok (.iconst 0, 1) := by decide +kernel
theorem dX11_setAll_33 : decode cX11_setAll 33 = .ok (.iadd, 1) := by decide +kernel
theorem dX11_setAll_34 : decode cX11_setAll 34 = .ok (.istore_n 1, 1) := by decide +kernel
theorem dX11_setAll_35 : decode cX11_setAll 35 = .ok (.aload_n 0, 1) := by decide +kernel
theorem dX11_setAll_36 : decode cX11_setAll 36 = .ok (.getfield 65, 3) := by decide +kernel
theorem dX11_setAll_39 : decode cX11_setAll 39 = .ok (.iload_n 2, 1) := by decide +kernel
theorem dX11_setAll_40 : decode cX11_setAll 40 = .ok (.aload_n 0, 1) := by decide +kernel
theorem dX11_setAll_41 : decode cX11_setAll 41 = .ok (.getfield 133, 3) := by decide +kernel
theorem dX11_setAll_44 : decode cX11_setAll 44 = .ok (.iload_n 2, 1) := by decide +kernel
theorem dX11_setAll_45 : decode cX11_setAll 45 = .ok (.iaload, 1) := by decide +kernel
theorem dX11_setAll_46 : decode cX11_setAll 46 = .ok (.iastore, 1) := by decide +kernel
theorem dX11_setAll_47 : decode cX11_setAll 47 = .ok (.iinc 2 1, 3) := by decide +kernel
theorem dX11_setAll_50 : decode cX11_setAll 50 = .ok (.goto (-46), 3) := by decide +kernel
theorem dX11_setAll_53 : decode cX11_setAll 53 = .ok (.iload_n 1, 1) := by decide +kernel
theorem dX11_setAll_54 : decode cX11_setAll 54 = .ok (.ifCond .le 8, 3) := by decide +kernel
theorem dX11_setAll_57 : decode cX11_setAll 57 = .ok (.aload_n 0, 1) := by decide +kernel
theorem dX11_setAll_58 : decode cX11_setAll 58 = .ok (.iconst 0, 1) := by decide +kernel
theorem dX11_setAll_59 : decode cX11_setAll 59 = .ok (.putfield 176, 3) := by decide +kernel
theorem dX11_setAll_62 : decode cX11_setAll 62 = .ok (.iload_n 1, 1) := by decide +kernel
theorem dX11_setAll_63 : decode cX11_setAll 63 = .ok (.ireturn, 1) := by decide +kernel
theorem dX11_arrange_0 : decode cX11_arrange 0 = .ok (.aload_n 0, 1) := by decide +kernel
theorem dX11_arrange_1 : decode cX11_arrange 1 = .ok (.iload_n 1, 1) := by decide +kernel
theorem dX11_arrange_2 : decode cX11_arrange 2 = .ok (.invokevirtual 250, 3) := by decide +kernel
theorem dX11_arrange_5 : decode cX11_arrange 5 = .ok (.ifCond .ne 6, 3) := by decide +kernel
theorem dX11_arrange_8 : decode cX11_arrange 8 = .ok (.bipush (-2), 2) := by decide +kernel
theorem dX11_arrange_10 : decode cX11_arrange 10 = .ok (.ireturn, 1) := by decide +kernel
theorem dX11_arrange_11 : decode cX11_arrange 11 = .ok (.aload_n 0, 1) := by decide +kernel
theorem dX11_arrange_12 : decode cX11_arrange 12 = .ok (.invokevirtual 253, 3) := by decide +kernel
theorem dX11_arrange_15 : decode cX11_arrange 15 = .ok (.aload_n 0, 1) := by decide +kernel
theorem dX11_arrange_16 : decode cX11_arrange 16 = .ok (.iload_n 1, 1) := by decide +kernel
theorem dX11_arrange_17 : decode cX11_arrange 17 = .ok (.invokevirtual 283, 3) := by decide +kernel
theorem dX11_arrange_20 : decode cX11_arrange 20 = .ok (.ifCond .eq 12, 3) := by decide +kernel
theorem dX11_arrange_23 : decode cX11_arrange 23 = .ok (.aload_n 0, 1) := by decide +kernel
theorem dX11_arrange_24 : decode cX11_arrange 24 = .ok (.invokevirtual 286, 3) := by decide +kernel
theorem dX11_arrange_27 : decode cX11_arrange 27 = .ok (.ldc 218, 2) := by decide +kernel
theorem dX11_arrange_29 : decode cX11_arrange 29 = .ok (.if_icmp .lt 5, 3) := by decide +kernel
theorem dX11_arrange_32 : decode cX11_arrange 32 = .ok (.iconst (-1), 1) := by decide +kernel
theorem dX11_arrange_33 : decode cX11_arrange 33 = .ok (.ireturn, 1) := by decide +kernel
theorem dX11_arrange_34 : decode cX11_arrange 34 = .ok (.iconst 0, 1) := by decide +kernel
theorem dX11_arrange_35 : decode cX11_arrange 35 = .ok (.istore_n 2, 1) := by decide +kernel
theorem dX11_arrange_36 : decode cX11_arrange 36 = .ok (.iload_n 2, 1) := by decide +kernel
theorem dX11_arrange_37 : decode cX11_arrange 37 = .ok (.aload_n 0, 1) := by decide +kernel
theorem dX11_arrange_38 : decode cX11_arrange 38 = .ok (.getfield 196, 3) := by decide +kernel
theorem dX11_arrange_41 : decode cX11_arrange 41 = .ok (.if_icmp .ge 21, 3) := by decide +kernel
theorem dX11_arrange_44 : decode cX11_arrange 44 = .ok (.aload_n 0, 1) := by decide +kernel
theorem dX11_arrange_45 : decode cX11_arrange 45 = .ok (.getfield 133, 3) := by decide +kernel
theorem dX11_arrange_48 : decode cX11_arrange 48 = .ok (.iload_n 2, 1) := by decide +kernel
theorem dX11_arrange_49 : decode cX11_arrange 49 = .ok (.aload_n 0, 1) := by decide +kernel
theorem dX11_arrange_50 : decode cX11_arrange 50 = .ok (.getfield 65, 3) := by decide +kernel
theorem dX11_arrange_53 : decode cX11_arrange 53 = .ok (.iload_n 2, 1) := by decide +kernel
theorem dX11_arrange_54 : decode cX11_arrange 54 = .ok (.iaload, 1) := by decide +kernel
theorem dX11_arrange_55 : decode cX11_arrange 55 = .ok (.iastore, 1) := by decide +kernel
theorem dX11_arrange_56 : decode cX11_arrange 56 = .ok (.iinc 2 1, 3) := by decide +kernel
theorem dX11_arrange_59 : decode cX11_arrange 59 = .ok (.goto (-23), 3) := by decide +kernel
theorem dX11_arrange_62 : decode cX11_arrange 62 = .ok (.aload_n 0, 1) := by decide +kernel
theorem dX11_arrange_63 : decode cX11_arrange 63 = .ok (.iload_n 1, 1) := by decide +kernel
theorem dX11_arrange_64 : decode cX11_arrange 64 = .ok (.invokevirtual 274, 3) := by decide +kernel
theorem dX11_arrange_67 : decode cX11_arrange 67 = .ok (.istore_n 2, 1) := by decide +kernel
theorem dX11_arrange_68 : decode cX11_arrange 68 = .ok (.iconst 0, 1) := by decide +kernel
theorem dX11_arrange_69 : decode cX11_arrange 69 = .ok (.istore_n 3, 1) := by decide +kernel
theorem dX11_arrange_70 : decode cX11_arrange 70 = .ok (.iload_n 3, 1) := by decide +kernel
theorem dX11_arrange_71 : decode cX11_arrange 71 = .ok (.aload_n 0, 1) := by decide +kernel
theorem dX11_arrange_72 : decode cX11_arrange 72 = .ok (.getfield 271, 3) := by decide +kernel
theorem dX11_arrange_75 : decode cX11_arrange 75 = .ok (.if_icmp .ge 79, 3) := by decide +kernel
theorem dX11_arrange_78 : decode cX11_arrange 78 = .ok (.aload_n 0, 1) := by decide +kernel
theorem dX11_arrange_79 : decode cX11_arrange 79 = .ok (.getfield 130, 3) := by decide +kernel
theorem dX11_arrange_82 : decode cX11_arrange 82 = .ok (.iload_n 3, 1) := by decide +kernel
theorem dX11_arrange_83 : decode cX11_arrange 83 = .ok (.iaload, 1) := by decide +kernel
theorem dX11_arrange_84 : decode cX11_arrange 84 = .ok (.istore 4, 2) := by decide +kernel
theorem dX11_arrange_86 : decode cX11_arrange 86 = .ok (.iload 4, 2) := by decide +kernel
theorem dX11_arrange_88 : decode cX11_arrange 88 = .ok (.ifCond .ne 7, 3) := by decide +kernel
theorem dX11_arrange_91 : decode cX11_arrange 91 = .ok (.iload_n 1, 1) := by decide +kernel
theorem dX11_arrange_92 : decode cX11_arrange 92 = .ok (.goto 14, 3) := by decide +kernel
theorem dX11_arrange_95 : decode cX11_arrange 95 = .ok (.aload_n 0, 1) := by decide +kernel
theorem dX11_arrange_96 : decode cX11_arrange 96 = .ok (.aload_n 0, 1) := by decide +kernel
theorem dX11_arrange_97 : decode cX11_arrange 97 = .ok (.getfield 109, 3) := by decide +kernel
theorem dX11_arrange_100 : decode cX11_arrange 100 = .ok (.iload 4, 2) := by decide +kernel
theorem dX11_arrange_102 : decode cX11_arrange 102 = .ok (.iaload, 1) := by decide +kernel
theorem dX11_arrange_103 : decode cX11_arrange 103 = .ok (.invokevirtual 274, 3) := by decide +kernel
theorem dX11_arrange_106 : decode cX11_arrange 106 = .ok (.istore 5, 2) := by decide +kernel
theorem dX11_arrange_108 : decode cX11_arrange 108 = .ok (.iconst 0, 1) := by decide +kernel
theorem dX11_arrange_109 : decode cX11_arrange 109 = .ok (.istore 6, 2) := by decide +kernel
theorem dX11_arrange_111 : decode cX11_arrange 111 = .ok (.iload 6, 2) := by decide +kernel
theorem dX11_arrange_113 : decode cX11_arrange 113 = .ok (.aload_n 0, 1) := by decide +kernel
theorem dX11_arrange_114 : decode cX11_arrange 114 = .ok (.getfield 112, 3) := by decide +kernel
theorem dX11_arrange_117 : decode cX11_arrange 117 = .ok (.iload 4, 2) := by decide +kernel
theorem dX11_arrange_119 : decode cX11_arrange 119 = .ok (.iaload, 1) := by decide +kernel
theorem dX11_arrange_120 : decode cX11_arrange 120 = .ok (.if_icmp .ge 28, 3) := by decide +kernel
theorem dX11_arrange_123 : decode cX11_arrange 123 = .ok (.aload_n 0, 1) := by decide +kernel
theorem dX11_arrange_124 : decode cX11_arrange 124 = .ok (.getfield 133, 3) := by decide +kernel
theorem dX11_arrange_127 : decode cX11_arrange 127 = .ok (.iload_n 2, 1) := by decide +kernel
theorem dX11_arrange_128 : decode cX11_arrange 128 = .ok (.aload_n 0, 1) := by decide +kernel
theorem dX11_arrange_129 : decode cX11_arrange 129 = .ok (.getfield 65, 3) := by decide +kernel
theorem dX11_arrange_132 : decode cX11_arrange 132 = .ok (.iload 5, 2) := by decide +kernel
theorem dX11_arrange_134 : decode cX11_arrange 134 = .ok (.iload 6, 2) := by decide +kernel
theorem dX11_arrange_136 : decode cX11_arrange 136 = .ok (.iadd, 1) := by decide +kernel
theorem dX11_arrange_137 : decode cX11_arrange 137 = .ok (.iaload, 1) := by decide +kernel
theorem dX11_arrange_138 : decode cX11_arrange 138 = .ok (.iastore, 1) := by decide +kernel
theorem dX11_arrange_139 : decode cX11_arrange 139 = .ok (.iinc 2 1, 3) := by decide +kernel
theorem dX11_arrange_142 : decode cX11_arrange 142 = .ok (.iinc 6 1, 3) := by decide +kernel
theorem dX11_arrange_145 : decode cX11_arrange 145 = .ok (.goto (-34), 3) := by decide +kernel
theorem dX11_arrange_148 : decode cX11_arrange 148 = .ok (.iinc 3 1, 3) := by decide +kernel
theorem dX11_arrange_151 : decode cX11_arrange 151 = .ok (.goto (-81), 3) := by decide +kernel
theorem dX11_arrange_154 : decode cX11_arrange 154 = .ok (.aload_n 0, 1) := by decide +kernel
theorem dX11_arrange_155 : decode cX11_arrange 155 = .ok (.invokevirtual 292, 3) := by decide +kernel
theorem dX11_arrange_158 : decode cX11_arrange 158 = .ok (.ireturn, 1) := by decide +kernel
theorem dX11_move_0 : decode cX11_move 0 = .ok (.aload_n 0, 1) := by decide +kernel
theorem dX11_move_1 : decode cX11_move 1 = .ok (.iload_n 1, 1) := by decide +kernel
theorem dX11_move_2 : decode cX11_move 2 = .ok (.invokevirtual 250, 3) := by decide +kernel
theorem dX11_move_5 : decode cX11_move 5 = .ok (.ifCond .eq 15, 3) := by decide +kernel
theorem dX11_move_8 : decode cX11_move 8 = .ok (.iload_n 2, 1) := by decide +kernel
theorem dX11_move_9 : decode cX11_move 9 = .ok (.iconst 0, 1) := by decide +kernel
theorem dX11_move_10 : decode cX11_move 10 = .ok (.aload_n 0, 1) := by decide +kernel
theorem dX11_move_11 : decode cX11_move 11 = .ok (.getfield 196, 3) := by decide +kernel
theorem dX11_move_14 : decode cX11_move 14 = .ok (.invokestatic 139, 3) := by decide +kernel
theorem dX11_move_17 : decode cX11_move 17 = .ok (.ifCond .ne 6, 3) := by decide +kernel
theorem dX11_move_20 : decode cX11_move 20 = .ok (.bipush (-2), 2) := by decide +kernel
theorem dX11_move_22 : decode cX11_move 22 = .ok (.ireturn, 1) := by decide +kernel
theorem dX11_move_23 : decode cX11_move 23 = .ok (.aload_n 0, 1) := by decide +kernel
theorem dX11_move_24 : decode cX11_move 24 = .ok (.invokevirtual 253, 3) := by decide +kernel
theorem dX11_move_27 : decode cX11_move 27 = .ok (.iload_n 2, 1) := by decide +kernel
theorem dX11_move_28 : decode cX11_move 28 = .ok (.aload_n 0, 1) := by decide +kernel
theorem dX11_move_29 : decode cX11_move 29 = .ok (.getfield 196, 3) := by decide +kernel
theorem dX11_move_32 : decode cX11_move 32 = .ok (.if_icmp .ge 15, 3) := by decide +kernel
theorem dX11_move_35 : decode cX11_move 35 = .ok (.aload_n 0, 1) := by decide +kernel
theorem dX11_move_36 : decode cX11_move 36 = .ok (.iload_n 2, 1) := by decide +kernel
theorem dX11_move_37 : decode cX11_move 37 = .ok (.iload_n 1, 1) := by decide +kernel
theorem dX11_move_38 : decode cX11_move 38 = .ok (.invokevirtual 246, 3) := by decide +kernel
theorem dX11_move_41 : decode cX11_move 41 = .ok (.ifCond .eq 6, 3) := by decide +kernel
theorem dX11_move_44 : decode cX11_move 44 = .ok (.bipush (-2), 2) := by decide +kernel
theorem dX11_move_46 : decode cX11_move 46 = .ok (.ireturn, 1) := by decide +kernel
theorem dX11_move_47 : decode cX11_move 47 = .ok (.iconst 0, 1) := by decide +kernel
theorem dX11_move_48 : decode cX11_move 48 = .ok (.istore_n 3, 1) := by decide +kernel
theorem dX11_move_49 : decode cX11_move 49 = .ok (.iconst 0, 1) := by decide +kernel
theorem dX11_move_50 : decode cX11_move 50 = .ok (.istore 4, 2) := by decide +kernel
theorem dX11_move_52 : decode cX11_move 52 = .ok (.iload 4, 2) := by decide +kernel
theorem dX11_move_54 : decode cX11_move 54 = .ok (.aload_n 0, 1) := by decide +kernel
theorem dX11_move_55 : decode cX11_move 55 = .ok (.getfield 196, 3) := by decide +kernel
theorem dX11_move_58 : decode cX11_move 58 = .ok (.if_icmp .gt 100, 3) := by decide +kernel
theorem dX11_move_61 : decode cX11_move 61 = .ok (.iload 4, 2) := by decide +kernel
theorem dX11_move_63 : decode cX11_move 63 = .ok (.iload_n 2, 1) := by decide +kernel
theorem dX11_move_64 : decode cX11_move 64 = .ok (.if_icmp .ne 50, 3) := by decide +kernel
theorem dX11_move_67 : decode cX11_move 67 = .ok (.iconst 0, 1) := by decide +kernel
theorem dX11_move_68 : decode cX11_move 68 = .ok (.istore 5, 2) := by decide +kernel
theorem dX11_move_70 : decode cX11_move 70 = .ok (.iload 5, 2) := by decide +kernel
theorem dX11_move_72 : decode cX11_move 72 = .ok (.aload_n 0, 1) := by decide +kernel
theorem dX11_move_73 : decode cX11_move 73 = .ok (.getfield 196, 3) := by decide +kernel
theorem dX11_move_76 : decode cX11_move 76 = .ok (.if_icmp .ge 38, 3) := by decide +kernel
theorem dX11_move_79 : decode cX11_move 79 = .ok (.aload_n 0, 1) := by decide +kernel
theorem dX11_move_80 : decode cX11_move 80 = .ok (.iload 5, 2) := by decide +kernel
theorem dX11_move_82 : decode cX11_move 82 = .ok (.iload_n 1, 1) := by decide +kernel
theorem dX11_move_83 : decode cX11_move 83 = .ok (.invokevirtual 246, 3) := by decide +kernel
theorem dX11_move_86 : decode cX11_move 86 = .ok (.ifCond .ne 6, 3) := by decide +kernel
theorem dX11_move_89 : decode cX11_move 89 = .ok (.goto 19, 3) := by decide +kernel
theorem dX11_move_92 : decode cX11_move 92 = .ok (.aload_n 0, 1) := by decide +kernel
theorem dX11_move_93 : decode cX11_move 93 = .ok (.getfield 133, 3) := by decide +kernel
theorem dX11_move_96 : decode cX11_move 96 = .ok (.iload_n 3, 1) := by decide +kernel
theorem dX11_move_97 : decode cX11_move 97 = .ok (.aload_n 0, 1) := by decide +kernel
theorem dX11_move_98 : decode cX11_move 98 = .ok (.getfield 65, 3) := by decide +kernel
theorem dX11_move_101 : decode cX11_move 101 = .ok (.iload 5, 2) := by decide +kernel
theorem dX11_move_103 : decode cX11_move 103 = .ok (.iaload, 1) := by decide +kernel
theorem dX11_move_104 : decode cX11_move 104 = .ok (.iastore, 1) := by decide +kernel
theorem dX11_move_105 : decode cX11_move 105 = .ok (.iinc 3 1, 3) := by decide +kernel
theorem dX11_move_108 : decode cX11_move 108 = .ok (.iinc 5 1, 3) := by decide +kernel
theorem dX11_move_111 : decode cX11_move 111 = .ok (.goto (-41), 3) := by decide +kernel
theorem dX11_move_114 : decode cX11_move 114 = .ok (.iload 4, 2) := by decide +kernel
theorem dX11_move_116 : decode cX11_move 116 = .ok (.aload_n 0, 1) := by decide +kernel
theorem dX11_move_117 : decode cX11_move 117 = .ok (.getfield 196, 3) := by decide +kernel
theorem dX11_move_120 : decode cX11_move 120 = .ok (.if_icmp .eq 32, 3) := by decide +kernel
theorem dX11_move_123 : decode cX11_move 123 = .ok (.aload_n 0, 1) := by decide +kernel
theorem dX11_move_124 : decode cX11_move 124 = .ok (.iload 4, 2) := by decide +kernel
theorem dX11_move_126 : decode cX11_move 126 = .ok (.iload_n 1, 1) := by decide +kernel
theorem dX11_move_127 : decode cX11_move 127 = .ok (.invokevirtual 246, 3) := by decide +kernel
theorem dX11_move_130 : decode cX11_move 130 = .ok (.ifCond .eq 6, 3) := by decide +kernel
theorem dX11_move_133 : decode cX11_move 133 = .ok (.goto 19, 3) := by decide +kernel
theorem dX11_move_136 : decode cX11_move 136 = .ok (.aload_n 0, 1) := by decide +kernel
theorem dX11_move_137 : decode cX11_move 137 = .ok (.getfield 133, 3) := by decide +kernel
theorem dX11_move_140 : decode cX11_move 140 = .ok (.iload_n 3, 1) := by decide +kernel
theorem dX11_move_141 : decode cX11_move 141 = .ok (.aload_n 0, 1) := by decide +kernel
theorem dX11_move_142 : decode cX11_move 142 = .ok (.getfield 65, 3) := by decide +kernel
theorem dX11_move_145 : decode cX11_move 145 = .ok (.iload 4, 2) := by decide +kernel
theorem dX11_move_147 : decode cX11_move 147 = .ok (.iaload, 1) := by decide +kernel
theorem dX11_move_148 : decode cX11_move 148 = .ok (.iastore, 1) := by decide +kernel
theorem dX11_move_149 : decode cX11_move 149 = .ok (.iinc 3 1, 3) := by decide +kernel
theorem dX11_move_152 : decode cX11_move 152 = .ok (.iinc 4 1, 3) := by decide +kernel
theorem dX11_move_155 : decode cX11_move 155 = .ok (.goto (-103), 3) := by decide +kernel
theorem dX11_move_158 : decode cX11_move 158 = .ok (.aload_n 0, 1) := by decide +kernel
theorem dX11_move_159 : decode cX11_move 159 = .ok (.invokevirtual 292, 3) := by decide +kernel
theorem dX11_move_162 : decode cX11_move 162 = .ok (.ireturn, 1) := by decide +kernel
theorem dX11_count_0 : decode cX11_count 0 = .ok (.iload_n 1, 1) := by decide +kernel
theorem dX11_count_1 : decode cX11_count 1 = .ok (.tableswitch 126 0 7 #[47, 52, 68, 73, 78, 83, 88, 93], 47) := by decide +kernel
theorem dX11_count_48 : decode cX11_count 48 = .ok (.aload_n 0, 1) := by decide +kernel
theorem dX11_count_49 : decode cX11_count 49 = .ok (.getfield 196, 3) := by decide +kernel
theorem dX11_count_52 : decode cX11_count 52 = .ok (.ireturn, 1) := by decide +kernel
theorem dX11_count_53 : decode cX11_count 53 = .ok (.aload_n 0, 1) := by decide +kernel
theorem dX11_count_54 : decode cX11_count 54 = .ok (.getfield 196, 3) := by decide +kernel
theorem dX11_count_57 : decode cX11_count 57 = .ok (.ifCond .ne 7, 3) := by decide +kernel
theorem dX11_count_60 : decode cX11_count 60 = .ok (.iconst 0, 1) := by decide +kernel
theorem dX11_count_61 : decode cX11_count 61 = .ok (.goto 7, 3) := by decide +kernel
theorem dX11_count_64 : decode cX11_count 64 = .ok (.aload_n 0, 1) := by decide +kernel
theorem dX11_count_65 : decode cX11_count 65 = .ok (.getfield 202, 3) := by decide +kernel
theorem dX11_count_68 : decode cX11_count 68 = .ok (.ireturn, 1) := by decide +kernel
theorem dX11_count_69 : decode cX11_count 69 = .ok (.aload_n 0, 1) := by decide +kernel
theorem dX11_count_70 : decode cX11_count 70 = .ok (.getfield 161, 3) := by decide +kernel
theorem dX11_count_73 : decode cX11_count 73 = .ok (.ireturn, 1) := by decide +kernel
theorem dX11_count_74 : decode cX11_count 74 = .ok (.aload_n 0, 1) := by decide +kernel
theorem dX11_count_75 : decode cX11_count 75 = .ok (.getfield 180, 3) := by decide +kernel
theorem dX11_count_78 : decode cX11_count 78 = .ok (.ireturn, 1) := by decide +kernel
theorem dX11_count_79 : decode cX11_count 79 = .ok (.aload_n 0, 1) := by decide +kernel
theorem dX11_count_80 : decode cX11_count 80 = .ok (.getfield 183, 3) := by decide +kernel
theorem dX11_count_83 : decode cX11_count 83 = .ok (.ireturn, 1) := by decide +kernel
theorem dX11_count_84 : decode cX11_count 84 = .ok (.aload_n 0, 1) := by decide +kernel
theorem dX11_count_85 : decode cX11_count 85 = .ok (.getfield 199, 3) := by decide +kernel
theorem dX11_count_88 : decode cX11_count 88 = .ok (.ireturn, 1) := by decide +kernel
theorem dX11_count_89 : decode cX11_count 89 = .ok (.aload_n 0, 1) := by decide +kernel
theorem dX11_count_90 : decode cX11_count 90 = .ok (.getfield 136, 3) := by decide +kernel
theorem dX11_count_93 : decode cX11_count 93 = .ok (.ireturn, 1) := by decide +kernel
theorem dX11_count_94 : decode cX11_count 94 = .ok (.aload_n 0, 1) := by decide +kernel
theorem dX11_count_95 : decode cX11_count 95 = .ok (.getfield 196, 3) := by decide +kernel
theorem dX11_count_98 : decode cX11_count 98 = .ok (.ifCond .ne 5, 3) := by decide +kernel
theorem dX11_count_101 : decode cX11_count 101 = .ok (.iconst (-1), 1) := by decide +kernel
theorem dX11_count_102 : decode cX11_count 102 = .ok (.ireturn, 1) := by decide +kernel
theorem dX11_count_103 : decode cX11_count 103 = .ok (.aload_n 0, 1) := by decide +kernel
theorem dX11_count_104 : decode cX11_count 104 = .ok (.invokevirtual 253, 3) := by decide +kernel
theorem dX11_count_107 : decode cX11_count 107 = .ok (.iconst 0, 1) := by decide +kernel
theorem dX11_count_108 : decode cX11_count 108 = .ok (.istore_n 2, 1) := by decide +kernel
theorem dX11_count_109 : decode cX11_count 109 = .ok (.aload_n 0, 1) := by decide +kernel
theorem dX11_count_110 : decode cX11_count 110 = .ok (.getfield 100, 3) := by decide +kernel
theorem dX11_count_113 : decode cX11_count 113 = .ok (.iload_n 2, 1) := by decide +kernel
theorem dX11_count_114 : decode cX11_count 114 = .ok (.iaload, 1) := by decide +kernel
theorem dX11_count_115 : decode cX11_count 115 = .ok (.iconst (-1), 1) := by decide +kernel
theorem dX11_count_116 : decode cX11_count 116 = .ok (.if_icmp .eq 9, 3) := by decide +kernel
theorem dX11_count_119 : decode cX11_count 119 = .ok (.iinc 2 1, 3) := by decide +kernel
theorem dX11_count_122 : decode cX11_count 122 = .ok (.goto (-13), 3) := by decide +kernel
theorem dX11_count_125 : decode cX11_count 125 = .ok (.iload_n 2, 1) := by decide +kernel
theorem dX11_count_126 : decode cX11_count 126 = .ok (.ireturn, 1) := by decide +kernel
theorem dX11_count_127 : decode cX11_count 127 = .ok (.iload_n 1, 1) := by decide +kernel
theorem dX11_count_128 : decode cX11_count 128 = .ok (.bipush 10, 2) := by decide +kernel
theorem dX11_count_130 : decode cX11_count 130 = .ok (.bipush 13, 2) := by decide +kernel
theorem dX11_count_132 : decode cX11_count 132 = .ok (.invokestatic 139, 3) := by decide +kernel
theorem dX11_count_135 : decode cX11_count 135 = .ok (.ifCond .eq 15, 3) := by decide +kernel
theorem dX11_count_138 : decode cX11_count 138 = .ok (.aload_n 0, 1) := by decide +kernel
theorem dX11_count_139 : decode cX11_count 139 = .ok (.getfield 38, 3) := by decide +kernel
theorem dX11_count_142 : decode cX11_count 142 = .ok (.iload_n 1, 1) := by decide +kernel
theorem dX11_count_143 : decode cX11_count 143 = .ok (.bipush 10, 2) := by decide +kernel
theorem dX11_count_145 : decode cX11_count 145 = .ok (.isub, 1) := by decide +kernel
theorem dX11_count_146 : decode cX11_count 146 = .ok (.iaload, 1) := by decide +kernel
theorem dX11_count_147 : decode cX11_count 147 = .ok (.goto 4, 3) := by decide +kernel
theorem dX11_count_150 : decode cX11_count 150 = .ok (.iconst (-1), 1) := by decide +kernel
theorem dX11_count_151 : decode cX11_count 151 = .ok (.ireturn, 1) := by decide +kernel
end
section
theorem dX0_init_0 : decode cX0_init 0 = .ok (.aload_n 0, 1) := by decide +kernel
theorem dX0_init_1 : decode cX0_init 1 = .ok (.invokespecial 3, 3) := by decide +kernel
theorem dX0_init_4 : decode cX0_init 4 = .ok (.aload_n 0, 1) := by decide +kernel
theorem dX0_init_5 : decode cX0_init 5 = .ok (.bipush 24, 2) := by decide +kernel
theorem dX0_init_7 : decode cX0_init 7 = .ok (.newarray .int, 2) := by decide +kernel
theorem dX0_init_9 : decode cX0_init 9 = .ok (.putfield 9, 3) := by decide +kernel
theorem dX0_init_12 : decode cX0_init 12 = .ok (.aload_n 0, 1) := by decide +kernel
theorem dX0_init_13 : decode cX0_init 13 = .ok (.bipush 24, 2) := by decide +kernel
theorem dX0_init_15 : decode cX0_init 15 = .ok (.newarray .int, 2) := by decide +kernel
theorem dX0_init_17 : decode cX0_init 17 = .ok (.putfield 15, 3) := by decide +kernel
theorem dX0_init_20 : decode cX0_init 20 = .ok (.aload_n 0, 1) := by decide +kernel
theorem dX0_init_21 : decode cX0_init 21 = .ok (.bipush 24, 2) := by decide +kernel
theorem dX0_init_23 : decode cX0_init 23 = .ok (.newarray .int, 2) := by decide +kernel
theorem dX0_init_25 : decode cX0_init 25 = .ok (.putfield 18, 3) := by decide +kernel
theorem dX0_init_28 : decode cX0_init 28 = .ok (.aload_n 0, 1) := by decide +kernel
theorem dX0_init_29 : decode cX0_init 29 = .ok (.bipush 24, 2) := by decide +kernel
theorem dX0_init_31 : decode cX0_init 31 = .ok (.newarray .int, 2) := by decide +kernel
theorem dX0_init_33 : decode cX0_init 33 = .ok (.putfield 21, 3) := by decide +kernel
theorem dX0_init_36 : decode cX0_init 36 = .ok (.aload_n 0, 1) := by decide +kernel
theorem dX0_init_37 : decode cX0_init 37 = .ok (.iconst (-1), 1) := by decide +kernel
theorem dX0_init_38 : decode cX0_init 38 = .ok (.putfield 24, 3) := by decide +kernel
theorem dX0_init_41 : decode cX0_init 41 = .ok (.return_, 1) := by decide +kernel
theorem dX0_measure_0 : decode cX0_measure 0 = .ok (.aload_n 0, 1) := by decide +kernel
theorem dX0_measure_1 : decode cX0_measure 1 = .ok (.iconst (-1), 1) := by decide +kernel
theorem dX0_measure_2 : decode cX0_measure 2 = .ok (.putfield 24, 3) := by decide +kernel
theorem dX0_measure_5 : decode cX0_measure 5 = .ok (.iconst 0, 1) := by decide +kernel
theorem dX0_measure_6 : decode cX0_measure 6 = .ok (.istore_n 2, 1) := by decide +kernel
theorem dX0_measure_7 : decode cX0_measure 7 = .ok (.iload_n 2, 1) := by decide +kernel
theorem dX0_measure_8 : decode cX0_measure 8 = .ok (.iload_n 1, 1) := by decide +kernel
theorem dX0_measure_9 : decode cX0_measure 9 = .ok (.if_icmp .ge 30, 3) := by decide +kernel
theorem dX0_measure_12 : decode cX0_measure 12 = .ok (.aload_n 0, 1) := by decide +kernel
theorem dX0_measure_13 : decode cX0_measure 13 = .ok (.getfield 15, 3) := by decide +kernel
theorem dX0_measure_16 : decode cX0_measure 16 = .ok (.iload_n 2, 1) := by decide +kernel
theorem dX0_measure_17 : decode cX0_measure 17 = .ok (.iconst 0, 1) := by decide +kernel
theorem dX0_measure_18 : decode cX0_measure 18 = .ok (.iastore, 1) := by decide +kernel
theorem dX0_measure_19 : decode cX0_measure 19 = .ok (.aload_n 0, 1) := by decide +kernel
theorem dX0_measure_20 : decode cX0_measure 20 = .ok (.getfield 18, 3) := by decide +kernel
theorem dX0_measure_23 : decode cX0_measure 23 = .ok (.iload_n 2, 1) := by decide +kernel
theorem dX0_measure_24 : decode cX0_measure 24 = .ok (.iload_n 2, 1) := by decide +kernel
theorem dX0_measure_25 : decode cX0_measure 25 = .ok (.iastore, 1) := by decide +kernel
theorem dX0_measure_26 : decode cX0_measure 26 = .ok (.aload_n 0, 1) := by decide +kernel
theorem dX0_measure_27 : decode cX0_measure 27 = .ok (.getfield 21, 3) := by decide +kernel
theorem dX0_measure_30 : decode cX0_measure 30 = .ok (.iload_n 2, 1) := by decide +kernel
theorem dX0_measure_31 : decode cX0_measure 31 = .ok (.iconst 0, 1) := by decide +kernel
theorem dX0_measure_32 : decode cX0_measure 32 = .ok (.iastore, 1) := by decide +kernel
theorem dX0_measure_33 : decode cX0_measure 33 = .ok (.iinc 2 1, 3) := by decide +kernel
theorem dX0_measure_36 : decode cX0_measure 36 = .ok (.goto (-29), 3) := by decide +kernel
theorem dX0_measure_39 : decode cX0_measure 39 = .ok (.iconst 0, 1) := by decide +kernel
theorem dX0_measure_40 : decode cX0_measure 40 = .ok (.istore_n 2, 1) := by decide +kernel
theorem dX0_measure_41 : decode cX0_measure 41 = .ok (.iload_n 2, 1) := by decide +kernel
theorem dX0_measure_42 : decode cX0_measure 42 = .ok (.iload_n 1, 1) := by decide +kernel
theorem dX0_measure_43 : decode cX0_measure 43 = .ok (.if_icmp .ge 49, 3) := by decide +kernel
theorem dX0_measure_46 : decode cX0_measure 46 = .ok (.aload_n 0, 1) := by decide +kernel
theorem dX0_measure_47 : decode cX0_measure 47 = .ok (.getfield 9, 3) := by decide +kernel
theorem dX0_measure_50 : decode cX0_measure 50 = .ok (.iload_n 2, 1) := by decide +kernel
theorem dX0_measure_51 : decode cX0_measure 51 = .ok (.iaload, 1) := by decide +kernel
theorem dX0_measure_52 : decode cX0_measure 52 = .ok (.istore_n 3, 1) := by decide +kernel
theorem dX0_measure_53 : decode cX0_measure 53 = .ok (.iload_n 3, 1) := by decide +kernel
theorem dX0_measure_54 : decode cX0_measure 54 = .ok (.ifCond .lt 21, 3) := by decide +kernel
theorem dX0_measure_57 : decode cX0_measure 57 = .ok (.iload_n 3, 1) := by decide +kernel
theorem dX0_measure_58 : decode cX0_measure 58 = .ok (.iload_n 1, 1) := by decide +kernel
theorem dX0_measure_59 : decode cX0_measure 59 = .ok (.if_icmp .ge 16, 3) := by decide +kernel
theorem dX0_measure_62 : decode cX0_measure 62 = .ok (.aload_n 0, 1) := by decide +kernel
theorem dX0_measure_63 : decode cX0_measure 63 = .ok (.getfield 15, 3) := by decide +kernel
theorem dX0_measure_66 : decode cX0_measure 66 = .ok (.iload_n 3, 1) := by decide +kernel
theorem dX0_measure_67 : decode cX0_measure 67 = .ok (.dup2, 1) := by decide +kernel
theorem dX0_measure_68 : decode cX0_measure 68 = .ok (.iaload, 1) := by decide +kernel
theorem dX0_measure_69 : decode cX0_measure 69 = .ok (.iconst 1, 1) := by decide +kernel
theorem dX0_measure_70 : decode cX0_measure 70 = .ok (.iadd, 1) := by decide +kernel
theorem dX0_measure_71 : decode cX0_measure 71 = .ok (.iastore, 1) := by decide +kernel
theorem dX0_measure_72 : decode cX0_measure 72 = .ok (.goto 8, 3) := by decide +kernel
theorem dX0_measure_75 : decode cX0_measure 75 = .ok (.aload_n 0, 1) := by decide +kernel
theorem dX0_measure_76 : decode cX0_measure 76 = .ok (.iload_n 2, 1) := by decide +kernel
theorem dX0_measure_77 : decode cX0_measure 77 = .ok (.putfield 24, 3) := by decide +kernel
theorem dX0_measure_80 : decode cX0_measure 80 = .ok (.aload_n 0, 1) := by decide +kernel
theorem dX0_measure_81 : decode cX0_measure 81 = .ok (.iload_n 2, 1) := by decide +kernel
theorem dX0_measure_82 : decode cX0_measure 82 = .ok (.iload_n 1, 1) := by decide +kernel
theorem dX0_measure_83 : decode cX0_measure 83 = .ok (.invokevirtual 28, 3) := by decide +kernel
theorem dX0_measure_86 : decode cX0_measure 86 = .ok (.iinc 2 1, 3) := by decide +kernel
theorem dX0_measure_89 : decode cX0_measure 89 = .ok (.goto (-48), 3) := by decide +kernel
theorem dX0_measure_92 : decode cX0_measure 92 = .ok (.return_, 1) := by decide +kernel
theorem dX0_countUpwards_0 : decode cX0_countUpwards 0 = .ok (.iload_n 1, 1) := by decide +kernel
theorem dX0_countUpwards_1 : decode cX0_countUpwards 1 = .ok (.istore_n 3, 1) := by decide +kernel
theorem dX0_countUpwards_2 : decode cX0_countUpwards 2 = .ok (.iconst 0, 1) := by decide +kernel
theorem dX0_countUpwards_3 : decode cX0_countUpwards 3 = .ok (.istore 4, 2) := by decide +kernel
theorem dX0_countUpwards_5 : decode cX0_countUpwards 5 = .ok (.iload 4, 2) := by decide +kernel
theorem dX0_countUpwards_7 : decode cX0_countUpwards 7 = .ok (.iload_n 2, 1) := by decide +kernel
theorem dX0_countUpwards_8 : decode cX0_countUpwards 8 = .ok (.if_icmp .ge 51, 3) := by decide +kernel
theorem dX0_countUpwards_11 : decode cX0_countUpwards 11 = .ok (.iload_n 3, 1) := by decide +kernel
theorem dX0_countUpwards_12 : decode cX0_countUpwards 12 = .ok (.ifCond .lt 47, 3) := by decide +kernel
theorem dX0_countUpwards_15 : decode cX0_countUpwards 15 = .ok (.iload_n 3, 1) := by decide +kernel
theorem dX0_countUpwards_16 : decode cX0_countUpwards 16 = .ok (.iload_n 2, 1) := by decide +kernel
theorem dX0_countUpwards_17 : decode cX0_countUpwards 17 = .ok (.if_icmp .ge 42, 3) := by decide +kernel
theorem dX0_countUpwards_20 : decode cX0_countUpwards 20 = .ok (.aload_n 0, 1) := by decide +kernel
theorem dX0_countUpwards_21 : decode cX0_countUpwards 21 = .ok (.getfield 21, 3) := by decide +kernel
theorem dX0_countUpwards_24 : decode cX0_countUpwards 24 = .ok (.iload_n 3, 1) := by decide +kernel
theorem dX0_countUpwards_25 : decode cX0_countUpwards 25 = .ok (.dup2, 1) := by decide +kernel
theorem dX0_countUpwards_26 : decode cX0_countUpwards 26 = .ok (.iaload, 1) := by decide +kernel
theorem dX0_countUpwards_27 : decode cX0_countUpwards 27 = .ok (.iconst 1, 1) := by decide +kernel
theorem dX0_countUpwards_28 : decode cX0_countUpwards 28 = .ok (.iadd, 1) := by decide +kernel
theorem dX0_countUpwards_29 : decode cX0_countUpwards 29 = .ok (.iastore, 1) := by decide +kernel
theorem dX0_countUpwards_30 : decode cX0_countUpwards 30 = .ok (.aload_n 0, 1) := by decide +kernel
theorem dX0_countUpwards_31 : decode cX0_countUpwards 31 = .ok (.getfield 18, 3) := by decide +kernel
theorem dX0_countUpwards_34 : decode cX0_countUpwards 34 = .ok (.iload_n 3, 1) := by decide +kernel
theorem dX0_countUpwards_35 : decode cX0_countUpwards 35 = .ok (.aload_n 0, 1) := by decide +kernel
theorem dX0_countUpwards_36 : decode cX0_countUpwards 36 = .ok (.getfield 18, 3) := by decide +kernel
theorem dX0_countUpwards_39 : decode cX0_countUpwards 39 = .ok (.iload_n 3, 1) := by decide +kernel
theorem dX0_countUpwards_40 : decode cX0_countUpwards 40 = .ok (.iaload, 1) := by decide +kernel
theorem dX0_countUpwards_41 : decode cX0_countUpwards 41 = .ok (.iload_n 1, 1) := by decide +kernel
theorem dX0_countUpwards_42 : decode cX0_countUpwards 42 = .ok (.invokestatic 32, 3) := by decide +kernel
theorem dX0_countUpwards_45 : decode cX0_countUpwards 45 = .ok (.iastore, 1) := by decide +kernel
theorem dX0_countUpwards_46 : decode cX0_countUpwards 46 = .ok (.aload_n 0, 1) := by decide +kernel
theorem dX0_countUpwards_47 : decode cX0_countUpwards 47 = .ok (.getfield 9, 3) := by decide +kernel
theorem dX0_countUpwards_50 : decode cX0_countUpwards 50 = .ok (.iload_n 3, 1) := by decide +kernel
theorem dX0_countUpwards_51 : decode cX0_countUpwards 51 = .ok (.iaload, 1) := by decide +kernel
theorem dX0_countUpwards_52 : decode cX0_countUpwards 52 = .ok (.istore_n 3, 1) := by decide +kernel
theorem dX0_countUpwards_53 : decode cX0_countUpwards 53 = .ok (.iinc 4 1, 3) := by decide +kernel
theorem dX0_countUpwards_56 : decode cX0_countUpwards 56 = .ok (.goto (-51), 3) := by decide +kernel
theorem dX0_countUpwards_59 : decode cX0_countUpwards 59 = .ok (.return_, 1) := by decide +kernel
theorem dX1_init_0 : decode cX1_init 0 = .ok (.aload_n 0, 1) := by decide +kernel
theorem dX1_init_1 : decode cX1_init 1 = .ok (.invokespecial 5, 3) := by decide +kernel
theorem dX1_init_4 : decode cX1_init 4 = .ok (.aload_n 0, 1) := by decide +kernel
theorem dX1_init_5 : decode cX1_init 5 = .ok (.sipush 576, 3) := by decide +kernel
theorem dX1_init_8 : decode cX1_init 8 = .ok (.newarray .int, 2) := by decide +kernel
theorem dX1_init_10 : decode cX1_init 10 = .ok (.putfield 11, 3) := by decide +kernel
theorem dX1_init_13 : decode cX1_init 13 = .ok (.aload_n 0, 1) := by decide +kernel
theorem dX1_init_14 : decode cX1_init 14 = .ok (.bipush 24, 2) := by decide +kernel
theorem dX1_init_16 : decode cX1_init 16 = .ok (.newarray .int, 2) := by decide +kernel
theorem dX1_init_18 : decode cX1_init 18 = .ok (.putfield 15, 3) := by decide +kernel
theorem dX1_init_21 : decode cX1_init 21 = .ok (.aload_n 0, 1) := by decide +kernel
theorem dX1_init_22 : decode cX1_init 22 = .ok (.sipush 1153, 3) := by decide +kernel
theorem dX1_init_25 : decode cX1_init 25 = .ok (.newarray .int, 2) := by decide +kernel
theorem dX1_init_27 : decode cX1_init 27 = .ok (.putfield 18, 3) := by decide +kernel
theorem dX1_init_30 : decode cX1_init 30 = .ok (.aload_n 0, 1) := by decide +kernel
theorem dX1_init_31 : decode cX1_init 31 = .ok (.sipush 1153, 3) := by decide +kernel
theorem dX1_init_34 : decode cX1_init 34 = .ok (.newarray .int, 2) := by decide +kernel
theorem dX1_init_36 : decode cX1_init 36 = .ok (.putfield 21, 3) := by decide +kernel
theorem dX1_init_39 : decode cX1_init 39 = .ok (.aload_n 0, 1) := by decide +kernel
theorem dX1_init_40 : decode cX1_init 40 = .ok (.sipush 1153, 3) := by decide +kernel
theorem dX1_init_43 : decode cX1_init 43 = .ok (.newarray .long, 2) := by decide +kernel
theorem dX1_init_45 : decode cX1_init 45 = .ok (.putfield 24, 3) := by decide +kernel
theorem dX1_init_48 : decode cX1_init 48 = .ok (.aload_n 0, 1) := by decide +kernel
theorem dX1_init_49 : decode cX1_init 49 = .ok (.sipush 1153, 3) := by decide +kernel
theorem dX1_init_52 : decode cX1_init 52 = .ok (.newarray .long, 2) := by decide +kernel
theorem dX1_init_54 : decode cX1_init 54 = .ok (.putfield 28, 3) := by decide +kernel
theorem dX1_init_57 : decode cX1_init 57 = .ok (.return_, 1) := by decide +kernel
theorem dX1_grow_0 : decode cX1_grow 0 = .ok (.iload_n 1, 1) := by decide +kernel
theorem dX1_grow_1 : decode cX1_grow 1 = .ok (.iconst 1, 1) := by decide +kernel
theorem dX1_grow_2 : decode cX1_grow 2 = .ok (.if_icmp .lt 9, 3) := by decide +kernel
theorem dX1_grow_5 : decode cX1_grow 5 = .ok (.iload_n 1, 1) := by decide +kernel
theorem dX1_grow_6 : decode cX1_grow 6 = .ok (.bipush 24, 2) := by decide +kernel
theorem dX1_grow_8 : decode cX1_grow 8 = .ok (.if_icmp .le 4, 3) := by decide +kernel
theorem dX1_grow_11 : decode cX1_grow 11 = .ok (.return_, 1) := by decide +kernel
theorem dX1_grow_12 : decode cX1_grow 12 = .ok (.iconst 0, 1) := by decide +kernel
theorem dX1_grow_13 : decode cX1_grow 13 = .ok (.istore_n 2, 1) := by decide +kernel
theorem dX1_grow_14 : decode cX1_grow 14 = .ok (.iload_n 2, 1) := by decide +kernel
theorem dX1_grow_15 : decode cX1_grow 15 = .ok (.iload_n 1, 1) := by decide +kernel
theorem dX1_grow_16 : decode cX1_grow 16 = .ok (.if_icmp .ge 18, 3) := by decide +kernel
theorem dX1_grow_19 : decode cX1_grow 19 = .ok (.aload_n 0, 1) := by decide +kernel
theorem dX1_grow_20 : decode cX1_grow 20 = .ok (.iload_n 2, 1) := by decide +kernel
theorem dX1_grow_21 : decode cX1_grow 21 = .ok (.iload_n 2, 1) := by decide +kernel
theorem dX1_grow_22 : decode cX1_grow 22 = .ok (.invokestatic 31, 3) := by decide +kernel
theorem dX1_grow_25 : decode cX1_grow 25 = .ok (.invokevirtual 35, 3) := by decide +kernel
theorem dX1_grow_28 : decode cX1_grow 28 = .ok (.iinc 2 1, 3) := by decide +kernel
theorem dX1_grow_31 : decode cX1_grow 31 = .ok (.goto (-17), 3) := by decide +kernel
theorem dX1_grow_34 : decode cX1_grow 34 = .ok (.iconst 1, 1) := by decide +kernel
theorem dX1_grow_35 : decode cX1_grow 35 = .ok (.istore_n 2, 1) := by decide +kernel
theorem dX1_grow_36 : decode cX1_grow 36 = .ok (.iload_n 2, 1) := by decide +kernel
theorem dX1_grow_37 : decode cX1_grow 37 = .ok (.iload_n 1, 1) := by decide +kernel
theorem dX1_grow_38 : decode cX1_grow 38 = .ok (.if_icmp .ge 32, 3) := by decide +kernel
theorem dX1_grow_41 : decode cX1_grow 41 = .ok (.iconst 0, 1) := by decide +kernel
theorem dX1_grow_42 : decode cX1_grow 42 = .ok (.istore_n 3, 1) := by decide +kernel
theorem dX1_grow_43 : decode cX1_grow 43 = .ok (.iload_n 3, 1) := by decide +kernel
theorem dX1_grow_44 : decode cX1_grow 44 = .ok (.iload_n 2, 1) := by decide +kernel
theorem dX1_grow_45 : decode cX1_grow 45 = .ok (.iadd, 1) := by decide +kernel
theorem dX1_grow_46 : decode cX1_grow 46 = .ok (.iload_n 1, 1) := by decide +kernel
theorem dX1_grow_47 : decode cX1_grow 47 = .ok (.if_icmp .ge 17, 3) := by decide +kernel
theorem dX1_grow_50 : decode cX1_grow 50 = .ok (.aload_n 0, 1) := by decide +kernel
theorem dX1_grow_51 : decode cX1_grow 51 = .ok (.iload_n 3, 1) := by decide +kernel
theorem dX1_grow_52 : decode cX1_grow 52 = .ok (.iload_n 3, 1) := by decide +kernel
theorem dX1_grow_53 : decode cX1_grow 53 = .ok (.iload_n 2, 1) := by decide +kernel
theorem dX1_grow_54 : decode cX1_grow 54 = .ok (.iadd, 1) := by decide +kernel
theorem dX1_grow_55 : decode cX1_grow 55 = .ok (.invokevirtual 39, 3) := by decide +kernel
theorem dX1_grow_58 : decode cX1_grow 58 = .ok (.iinc 3 1, 3) := by decide +kernel
theorem dX1_grow_61 : decode cX1_grow 61 = .ok (.goto (-18), 3) := by decide +kernel
theorem dX1_grow_64 : decode cX1_grow 64 = .ok (.iinc 2 1, 3) := by decide +kernel
theorem dX1_grow_67 : decode cX1_grow 67 = .ok (.goto (-31), 3) := by decide +kernel
theorem dX1_grow_70 : decode cX1_grow 70 = .ok (.aload_n 0, 1) := by decide +kernel
theorem dX1_grow_71 : decode cX1_grow 71 = .ok (.sipush 1152, 3) := by decide +kernel
theorem dX1_grow_74 : decode cX1_grow 74 = .ok (.invokevirtual 43, 3) := by decide +kernel
theorem dX1_grow_77 : decode cX1_grow 77 = .ok (.iconst 0, 1) := by decide +kernel
theorem dX1_grow_78 : decode cX1_grow 78 = .ok (.istore_n 2, 1) := by decide +kernel
theorem dX1_grow_79 : decode cX1_grow 79 = .ok (.iload_n 2, 1) := by decide +kernel
theorem dX1_grow_80 : decode cX1_grow 80 = .ok (.iload_n 1, 1) := by decide +kernel
theorem dX1_grow_81 : decode cX1_grow 81 = .ok (.if_icmp .ge 36, 3) := by decide +kernel
theorem dX1_grow_84 : decode cX1_grow 84 = .ok (.aload_n 0, 1) := by decide +kernel
theorem dX1_grow_85 : decode cX1_grow 85 = .ok (.sipush 1152, 3) := by decide +kernel
theorem dX1_grow_88 : decode cX1_grow 88 = .ok (.iload_n 2, 1) := by decide +kernel
theorem dX1_grow_89 : decode cX1_grow 89 = .ok (.iconst 0, 1) := by decide +kernel
theorem dX1_grow_90 : decode cX1_grow 90 = .ok (.invokestatic 31, 3) := by decide +kernel
theorem dX1_grow_93 : decode cX1_grow 93 = .ok (.iload_n 2, 1) := by decide +kernel
theorem dX1_grow_94 : decode cX1_grow 94 = .ok (.iload_n 1, 1) := by decide +kernel
theorem dX1_grow_95 : decode cX1_grow 95 = .ok (.iconst 1, 1) := by decide +kernel
theorem dX1_grow_96 : decode cX1_grow 96 = .ok (.isub, 1) := by decide +kernel
theorem dX1_grow_97 : decode cX1_grow 97 = .ok (.invokestatic 31, 3) := by decide +kernel
theorem dX1_grow_100 : decode cX1_grow 100 = .ok (.aload_n 0, 1) := by decide +kernel
theorem dX1_grow_101 : decode cX1_grow 101 = .ok (.getfield 15, 3) := by decide +kernel
theorem dX1_grow_104 : decode cX1_grow 104 = .ok (.iload_n 2, 1) := by decide +kernel
theorem dX1_grow_105 : decode cX1_grow 105 = .ok (.iaload, 1) := by decide +kernel
theorem dX1_grow_106 : decode cX1_grow 106 = .ok (.iconst (-1), 1) := by decide +kernel
theorem dX1_grow_107 : decode cX1_grow 107 = .ok (.iload_n 2, 1) := by decide +kernel
theorem dX1_grow_108 : decode cX1_grow 108 = .ok (.invokevirtual 46, 3) := by decide +kernel
theorem dX1_grow_111 : decode cX1_grow 111 = .ok (.iinc 2 1, 3) := by decide +kernel
theorem dX1_grow_114 : decode cX1_grow 114 = .ok (.goto (-35), 3) := by decide +kernel
theorem dX1_grow_117 : decode cX1_grow 117 = .ok (.return_, 1) := by decide +kernel
theorem dX1_fillSpan_0 : decode cX1_fillSpan 0 = .ok (.iload_n 1, 1) := by decide +kernel
theorem dX1_fillSpan_1 : decode cX1_fillSpan 1 = .ok (.iload_n 2, 1) := by decide +kernel
theorem dX1_fillSpan_2 : decode cX1_fillSpan 2 = .ok (.invokestatic 50, 3) := by decide +kernel
theorem dX1_fillSpan_5 : decode cX1_fillSpan 5 = .ok (.istore_n 3, 1) := by decide +kernel
theorem dX1_fillSpan_6 : decode cX1_fillSpan 6 = .ok (.aload_n 0, 1) := by decide +kernel
theorem dX1_fillSpan_7 : decode cX1_fillSpan 7 = .ok (.iload_n 3, 1) := by decide +kernel
theorem dX1_fillSpan_8 : decode cX1_fillSpan 8 = .ok (.invokevirtual 43, 3) := by decide +kernel
theorem dX1_fillSpan_11 : decode cX1_fillSpan 11 = .ok (.iload_n 1, 1) := by decide +kernel
theorem dX1_fillSpan_12 : decode cX1_fillSpan 12 = .ok (.istore 4, 2) := by decide +kernel
theorem dX1_fillSpan_14 : decode cX1_fillSpan 14 = .ok (.iload 4, 2) := by decide +kernel
theorem dX1_fillSpan_16 : decode cX1_fillSpan 16 = .ok (.iload_n 2, 1) := by decide +kernel
theorem dX1_fillSpan_17 : decode cX1_fillSpan 17 = .ok (.if_icmp .ge 31, 3) := by decide +kernel
theorem dX1_fillSpan_20 : decode cX1_fillSpan 20 = .ok (.aload_n 0, 1) := by decide +kernel
theorem dX1_fillSpan_21 : decode cX1_fillSpan 21 = .ok (.iload_n 3, 1) := by decide +kernel
theorem dX1_fillSpan_22 : decode cX1_fillSpan 22 = .ok (.iload_n 1, 1) := by decide +kernel
theorem dX1_fillSpan_23 : decode cX1_fillSpan 23 = .ok (.iload 4, 2) := by decide +kernel
theorem dX1_fillSpan_25 : decode cX1_fillSpan 25 = .ok (.invokestatic 31, 3) := by decide +kernel
theorem dX1_fillSpan_28 : decode cX1_fillSpan 28 = .ok (.iload_n 2, 1) := by decide +kernel
theorem dX1_fillSpan_29 : decode cX1_fillSpan 29 = .ok (.iload 4, 2) := by decide +kernel
theorem dX1_fillSpan_31 : decode cX1_fillSpan 31 = .ok (.iconst 1, 1) := by decide +kernel
theorem dX1_fillSpan_32 : decode cX1_fillSpan 32 = .ok (.iadd, 1) := by decide +kernel
theorem dX1_fillSpan_33 : decode cX1_fillSpan 33 = .ok (.invokestatic 31, 3) := by decide +kernel
theorem dX1_fillSpan_36 : decode cX1_fillSpan 36 = .ok (.iconst 0, 1) := by decide +kernel
theorem dX1_fillSpan_37 : decode cX1_fillSpan 37 = .ok (.iconst (-1), 1) := by decide +kernel
theorem dX1_fillSpan_38 : decode cX1_fillSpan 38 = .ok (.iload_n 1, 1) := by decide +kernel
theorem dX1_fillSpan_39 : decode cX1_fillSpan 39 = .ok (.invokevirtual 46, 3) := by decide +kernel
theorem dX1_fillSpan_42 : decode cX1_fillSpan 42 = .ok (.iinc 4 1, 3) := by decide +kernel
theorem dX1_fillSpan_45 : decode cX1_fillSpan 45 = .ok (.goto (-31), 3) := by decide +kernel
theorem dX1_fillSpan_48 : decode cX1_fillSpan 48 = .ok (.iload_n 1, 1) := by decide +kernel
theorem dX1_fillSpan_49 : decode cX1_fillSpan 49 = .ok (.iload_n 2, 1) := by decide +kernel
theorem dX1_fillSpan_50 : decode cX1_fillSpan 50 = .ok (.invokestatic 31, 3) := by decide +kernel
theorem dX1_fillSpan_53 : decode cX1_fillSpan 53 = .ok (.istore 4, 2) := by decide +kernel
theorem dX1_fillSpan_55 : decode cX1_fillSpan 55 = .ok (.aload_n 0, 1) := by decide +kernel
theorem dX1_fillSpan_56 : decode cX1_fillSpan 56 = .ok (.iload 4, 2) := by decide +kernel
theorem dX1_fillSpan_58 : decode cX1_fillSpan 58 = .ok (.invokevirtual 43, 3) := by decide +kernel
theorem dX1_fillSpan_61 : decode cX1_fillSpan 61 = .ok (.iload_n 1, 1) := by decide +kernel
theorem dX1_fillSpan_62 : decode cX1_fillSpan 62 = .ok (.iconst 1, 1) := by decide +kernel
theorem dX1_fillSpan_63 : decode cX1_fillSpan 63 = .ok (.iadd, 1) := by decide +kernel
theorem dX1_fillSpan_64 : decode cX1_fillSpan 64 = .ok (.istore 5, 2) := by decide +kernel
theorem dX1_fillSpan_66 : decode cX1_fillSpan 66 = .ok (.iload 5, 2) := by decide +kernel
theorem dX1_fillSpan_68 : decode cX1_fillSpan 68 = .ok (.iload_n 2, 1) := by decide +kernel
theorem dX1_fillSpan_69 : decode cX1_fillSpan 69 = .ok (.if_icmp .gt 46, 3) := by decide +kernel
theorem dX1_fillSpan_72 : decode cX1_fillSpan 72 = .ok (.aload_n 0, 1) := by decide +kernel
theorem dX1_fillSpan_73 : decode cX1_fillSpan 73 = .ok (.getfield 11, 3) := by decide +kernel
theorem dX1_fillSpan_76 : decode cX1_fillSpan 76 = .ok (.iload_n 1, 1) := by decide +kernel
theorem dX1_fillSpan_77 : decode cX1_fillSpan 77 = .ok (.bipush 24, 2) := by decide +kernel
theorem dX1_fillSpan_79 : decode cX1_fillSpan 79 = .ok (.imul, 1) := by decide +kernel
theorem dX1_fillSpan_80 : decode cX1_fillSpan 80 = .ok (.iload 5, 2) := by decide +kernel
theorem dX1_fillSpan_82 : decode cX1_fillSpan 82 = .ok (.iadd, 1) := by decide +kernel
theorem dX1_fillSpan_83 : decode cX1_fillSpan 83 = .ok (.iaload, 1) := by decide +kernel
theorem dX1_fillSpan_84 : decode cX1_fillSpan 84 = .ok (.istore 6, 2) := by decide +kernel
theorem dX1_fillSpan_86 : decode cX1_fillSpan 86 = .ok (.aload_n 0, 1) := by decide +kernel
theorem dX1_fillSpan_87 : decode cX1_fillSpan 87 = .ok (.iload 4, 2) := by decide +kernel
theorem dX1_fillSpan_89 : decode cX1_fillSpan 89 = .ok (.iload_n 1, 1) := by decide +kernel
theorem dX1_fillSpan_90 : decode cX1_fillSpan 90 = .ok (.iload 5, 2) := by decide +kernel
theorem dX1_fillSpan_92 : decode cX1_fillSpan 92 = .ok (.invokestatic 50, 3) := by decide +kernel
theorem dX1_fillSpan_95 : decode cX1_fillSpan 95 = .ok (.iload 5, 2) := by decide +kernel
theorem dX1_fillSpan_97 : decode cX1_fillSpan 97 = .ok (.iload_n 2, 1) := by decide +kernel
theorem dX1_fillSpan_98 : decode cX1_fillSpan 98 = .ok (.invokestatic 31, 3) := by decide +kernel
theorem dX1_fillSpan_101 : decode cX1_fillSpan 101 = .ok (.iload 6, 2) := by decide +kernel
theorem dX1_fillSpan_103 : decode cX1_fillSpan 103 = .ok (.iload_n 1, 1) := by decide +kernel
theorem dX1_fillSpan_104 : decode cX1_fillSpan 104 = .ok (.iload 5, 2) := by decide +kernel
theorem dX1_fillSpan_106 : decode cX1_fillSpan 106 = .ok (.invokevirtual 46, 3) := by decide +kernel
theorem dX1_fillSpan_109 : decode cX1_fillSpan 109 = .ok (.iinc 5 1, 3) := by decide +kernel
theorem dX1_fillSpan_112 : decode cX1_fillSpan 112 = .ok (.goto (-46), 3) := by decide +kernel
theorem dX1_fillSpan_115 : decode cX1_fillSpan 115 = .ok (.iload_n 2, 1) := by decide +kernel
theorem dX1_fillSpan_116 : decode cX1_fillSpan 116 = .ok (.iload_n 1, 1) := by decide +kernel
theorem dX1_fillSpan_117 : decode cX1_fillSpan 117 = .ok (.invokestatic 31, 3) := by decide +kernel
theorem dX1_fillSpan_120 : decode cX1_fillSpan 120 = .ok (.istore 5, 2) := by decide +kernel
theorem dX1_fillSpan_122 : decode cX1_fillSpan 122 = .ok (.aload_n 0, 1) := by decide +kernel
theorem dX1_fillSpan_123 : decode cX1_fillSpan 123 = .ok (.iload 5, 2) := by decide +kernel
theorem dX1_fillSpan_125 : decode cX1_fillSpan 125 = .ok (.invokevirtual 43, 3) := by decide +kernel
theorem dX1_fillSpan_128 : decode cX1_fillSpan 128 = .ok (.iload_n 1, 1) := by decide +kernel
theorem dX1_fillSpan_129 : decode cX1_fillSpan 129 = .ok (.istore 6, 2) := by decide +kernel
theorem dX1_fillSpan_131 : decode cX1_fillSpan 131 = .ok (.iload 6, 2) := by decide +kernel
theorem dX1_fillSpan_133 : decode cX1_fillSpan 133 = .ok (.iload_n 2, 1) := by decide +kernel
theorem dX1_fillSpan_134 : decode cX1_fillSpan 134 = .ok (.if_icmp .ge 46, 3) := by decide +kernel
theorem dX1_fillSpan_137 : decode cX1_fillSpan 137 = .ok (.aload_n 0, 1) := by decide +kernel
theorem dX1_fillSpan_138 : decode cX1_fillSpan 138 = .ok (.getfield 11, 3) := by decide +kernel
theorem dX1_fillSpan_141 : decode cX1_fillSpan 141 = .ok (.iload_n 2, 1) := by decide +kernel
theorem dX1_fillSpan_142 : decode cX1_fillSpan 142 = .ok (.bipush 24, 2) := by decide +kernel
theorem dX1_fillSpan_144 : decode cX1_fillSpan 144 = .ok (.imul, 1) := by decide +kernel
theorem dX1_fillSpan_145 : decode cX1_fillSpan 145 = .ok (.iload 6, 2) := by decide +kernel
theorem dX1_fillSpan_147 : decode cX1_fillSpan 147 = .ok (.iadd, 1) := by decide +kernel
theorem dX1_fillSpan_148 : decode cX1_fillSpan 148 = .ok (.iaload, 1) := by decide +kernel
theorem dX1_fillSpan_149 : decode cX1_fillSpan 149 = .ok (.istore 7, 2) := by decide +kernel
theorem dX1_fillSpan_151 : decode cX1_fillSpan 151 = .ok (.aload_n 0, 1) := by decide +kernel
theorem dX1_fillSpan_152 : decode cX1_fillSpan 152 = .ok (.iload 5, 2) := by decide +kernel
theorem dX1_fillSpan_154 : decode cX1_fillSpan 154 = .ok (.iload 6, 2) := by decide +kernel
theorem dX1_fillSpan_156 : decode cX1_fillSpan 156 = .ok (.iload_n 1, 1) := by decide +kernel
theorem dX1_fillSpan_157 : decode cX1_fillSpan 157 = .ok (.invokestatic 31, 3) := by decide +kernel
theorem dX1_fillSpan_160 : decode cX1_fillSpan 160 = .ok (.iload 6, 2) := by decide +kernel
theorem dX1_fillSpan_162 : decode cX1_fillSpan 162 = .ok (.iload_n 2, 1) := by decide +kernel
theorem dX1_fillSpan_163 : decode cX1_fillSpan 163 = .ok (.invokestatic 50, 3) := by decide +kernel
theorem dX1_fillSpan_166 : decode cX1_fillSpan 166 = .ok (.iload 7, 2) := by decide +kernel
theorem dX1_fillSpan_168 : decode cX1_fillSpan 168 = .ok (.iload_n 2, 1) := by decide +kernel
theorem dX1_fillSpan_169 : decode cX1_fillSpan 169 = .ok (.iload 6, 2) := by decide +kernel
theorem dX1_fillSpan_171 : decode cX1_fillSpan 171 = .ok (.invokevirtual 46, 3) := by decide +kernel
theorem dX1_fillSpan_174 : decode cX1_fillSpan 174 = .ok (.iinc 6 1, 3) := by decide +kernel
theorem dX1_fillSpan_177 : decode cX1_fillSpan 177 = .ok (.goto (-46), 3) := by decide +kernel
theorem dX1_fillSpan_180 : decode cX1_fillSpan 180 = .ok (.return_, 1) := by decide +kernel
theorem dX1_side_0 : decode cX1_side 0 = .ok (.iconst 0, 1) := by decide +kernel
theorem dX1_side_1 : decode cX1_side 1 = .ok (.iload_n 0, 1) := by decide +kernel
theorem dX1_side_2 : decode cX1_side 2 = .ok (.bipush 24, 2) := by decide +kernel
theorem dX1_side_4 : decode cX1_side 4 = .ok (.imul, 1) := by decide +kernel
theorem dX1_side_5 : decode cX1_side 5 = .ok (.iadd, 1) := by decide +kernel
theorem dX1_side_6 : decode cX1_side 6 = .ok (.iload_n 1, 1) := by decide +kernel
theorem dX1_side_7 : decode cX1_side 7 = .ok (.iadd, 1) := by decide +kernel
theorem dX1_side_8 : decode cX1_side 8 = .ok (.ireturn, 1) := by decide +kernel
theorem dX1_gap_0 : decode cX1_gap 0 = .ok (.sipush 576, 3) := by decide +kernel
theorem dX1_gap_3 : decode cX1_gap 3 = .ok (.iload_n 0, 1) := by decide +kernel
theorem dX1_gap_4 : decode cX1_gap 4 = .ok (.bipush 24, 2) := by decide +kernel
theorem dX1_gap_6 : decode cX1_gap 6 = .ok (.imul, 1) := by decide +kernel
theorem dX1_gap_7 : decode cX1_gap 7 = .ok (.iadd, 1) := by decide +kernel
theorem dX1_gap_8 : decode cX1_gap 8 = .ok (.iload_n 1, 1) := by decide +kernel
theorem dX1_gap_9 : decode cX1_gap 9 = .ok (.iadd, 1) := by decide +kernel
theorem dX1_gap_10 : decode cX1_gap 10 = .ok (.ireturn, 1) := by decide +kernel
theorem dX1_setAlone_0 : decode cX1_setAlone 0 = .ok (.aload_n 0, 1) := by decide +kernel
theorem dX1_setAlone_1 : decode cX1_setAlone 1 = .ok (.iload_n 1, 1) := by decide +kernel
theorem dX1_setAlone_2 : decode cX1_setAlone 2 = .ok (.invokevirtual 43, 3) := by decide +kernel
theorem dX1_setAlone_5 : decode cX1_setAlone 5 = .ok (.aload_n 0, 1) := by decide +kernel
theorem dX1_setAlone_6 : decode cX1_setAlone 6 = .ok (.getfield 18, 3) := by decide +kernel
theorem dX1_setAlone_9 : decode cX1_setAlone 9 = .ok (.iload_n 1, 1) := by decide +kernel
theorem dX1_setAlone_10 : decode cX1_setAlone 10 = .ok (.iconst 0, 1) := by decide +kernel
theorem dX1_setAlone_11 : decode cX1_setAlone 11 = .ok (.iastore, 1) := by decide +kernel
theorem dX1_setAlone_12 : decode cX1_setAlone 12 = .ok (.return_, 1) := by decide +kernel
theorem dX1_setEmpty_0 : decode cX1_setEmpty 0 = .ok (.aload_n 0, 1) := by decide +kernel
theorem dX1_setEmpty_1 : decode cX1_setEmpty 1 = .ok (.getfield 18, 3) := by decide +kernel
theorem dX1_setEmpty_4 : decode cX1_setEmpty 4 = .ok (.iload_n 1, 1) := by decide +kernel
theorem dX1_setEmpty_5 : decode cX1_setEmpty 5 = .ok (.ldc 53, 2) := by decide +kernel
theorem dX1_setEmpty_7 : decode cX1_setEmpty 7 = .ok (.iastore, 1) := by decide +kernel
theorem dX1_setEmpty_8 : decode cX1_setEmpty 8 = .ok (.aload_n 0, 1) := by decide +kernel
theorem dX1_setEmpty_9 : decode cX1_setEmpty 9 = .ok (.getfield 21, 3) := by decide +kernel
theorem dX1_setEmpty_12 : decode cX1_setEmpty 12 = .ok (.iload_n 1, 1) := by decide +kernel
theorem dX1_setEmpty_13 : decode cX1_setEmpty 13 = .ok (.ldc 53, 2) := by decide +kernel
theorem dX1_setEmpty_15 : decode cX1_setEmpty 15 = .ok (.iastore, 1) := by decide +kernel
theorem dX1_setEmpty_16 : decode cX1_setEmpty 16 = .ok (.aload_n 0, 1) := by decide +kernel
theorem dX1_setEmpty_17 : decode cX1_setEmpty 17 = .ok (.getfield 24, 3) := by decide +kernel
theorem dX1_setEmpty_20 : decode cX1_setEmpty 20 = .ok (.iload_n 1, 1) := by decide +kernel
theorem dX1_setEmpty_21 : decode cX1_setEmpty 21 = .ok (.lconst 0, 1) := by decide +kernel
theorem dX1_setEmpty_22 : decode cX1_setEmpty 22 = .ok (.lastore, 1) := by decide +kernel
theorem dX1_setEmpty_23 : decode cX1_setEmpty 23 = .ok (.aload_n 0, 1) := by decide +kernel
theorem dX1_setEmpty_24 : decode cX1_setEmpty 24 = .ok (.getfield 28, 3) := by decide +kernel
theorem dX1_setEmpty_27 : decode cX1_setEmpty 27 = .ok (.iload_n 1, 1) := by decide +kernel
theorem dX1_setEmpty_28 : decode cX1_setEmpty 28 = .ok (.lconst 0, 1) := by decide +kernel
theorem dX1_setEmpty_29 : decode cX1_setEmpty 29 = .ok (.lastore, 1) := by decide +kernel
theorem dX1_setEmpty_30 : decode cX1_setEmpty 30 = .ok (.return_, 1) := by decide +kernel
theorem dX1_offer_0 : decode cX1_offer 0 = .ok (.aload_n 0, 1) := by decide +kernel
theorem dX1_offer_1 : decode cX1_offer 1 = .ok (.getfield 18, 3) := by decide +kernel
theorem dX1_offer_4 : decode cX1_offer 4 = .ok (.iload_n 2, 1) := by decide +kernel
theorem dX1_offer_5 : decode cX1_offer 5 = .ok (.iaload, 1) := by decide +kernel
theorem dX1_offer_6 : decode cX1_offer 6 = .ok (.aload_n 0, 1) := by decide +kernel
theorem dX1_offer_7 : decode cX1_offer 7 = .ok (.getfield 18, 3) := by decide +kernel
theorem dX1_offer_10 : decode cX1_offer 10 = .ok (.iload_n 3, 1) := by decide +kernel
theorem dX1_offer_11 : decode cX1_offer 11 = .ok (.iaload, 1) := by decide +kernel
theorem dX1_offer_12 : decode cX1_offer 12 = .ok (.iadd, 1) := by decide +kernel
theorem dX1_offer_13 : decode cX1_offer 13 = .ok (.iload 4, 2) := by decide +kernel
theorem dX1_offer_15 : decode cX1_offer 15 = .ok (.iadd, 1) := by decide +kernel
theorem dX1_offer_16 : decode cX1_offer 16 = .ok (.istore 7, 2) := by decide +kernel
theorem dX1_offer_18 : decode cX1_offer 18 = .ok (.aload_n 0, 1) := by decide +kernel
theorem dX1_offer_19 : decode cX1_offer 19 = .ok (.getfield 24, 3) := by decide +kernel
theorem dX1_offer_22 : decode cX1_offer 22 = .ok (.iload_n 2, 1) := by decide +kernel
theorem dX1_offer_23 : decode cX1_offer 23 = .ok (.laload, 1) := by decide +kernel
theorem dX1_offer_24 : decode cX1_offer 24 = .ok (.aload_n 0, 1) := by decide +kernel
theorem dX1_offer_25 : decode cX1_offer 25 = .ok (.getfield 24, 3) := by decide +kernel
theorem dX1_offer_28 : decode cX1_offer 28 = .ok (.iload_n 3, 1) := by decide +kernel
theorem dX1_offer_29 : decode cX1_offer 29 = .ok (.laload, 1) := by decide +kernel
theorem dX1_offer_30 : decode cX1_offer 30 = .ok (.ladd, 1) := by decide +kernel
theorem dX1_offer_31 : decode cX1_offer 31 = .ok (.lstore 8, 2) := by decide +kernel
theorem dX1_offer_33 : decode cX1_offer 33 = .ok (.aload_n 0, 1) := by decide +kernel
theorem dX1_offer_34 : decode cX1_offer 34 = .ok (.getfield 28, 3) := by decide +kernel
theorem dX1_offer_37 : decode cX1_offer 37 = .ok (.iload_n 2, 1) := by decide +kernel
theorem dX1_offer_38 : decode cX1_offer 38 = .ok (.laload, 1) := by decide +kernel
theorem dX1_offer_39 : decode cX1_offer 39 = .ok (.aload_n 0, 1) := by decide +kernel
theorem dX1_offer_40 : decode cX1_offer 40 = .ok (.getfield 28, 3) := by decide +kernel
theorem dX1_offer_43 : decode cX1_offer 43 = .ok (.iload_n 3, 1) := by decide +kernel
theorem dX1_offer_44 : decode cX1_offer 44 = .ok (.laload, 1) := by decide +kernel
theorem dX1_offer_45 : decode cX1_offer 45 = .ok (.ladd, 1) := by decide +kernel
theorem dX1_offer_46 : decode cX1_offer 46 = .ok (.lstore 10, 2) := by decide +kernel
theorem dX1_offer_48 : decode cX1_offer 48 = .ok (.iload 6, 2) := by decide +kernel
theorem dX1_offer_50 : decode cX1_offer 50 = .ok (.bipush 12, 2) := by decide +kernel
theorem dX1_offer_52 : decode cX1_offer 52 = .ok (.if_icmp .ge 24, 3) := by decide +kernel
theorem dX1_offer_55 : decode cX1_offer 55 = .ok (.lload 8, 2) := by decide +kernel
theorem dX1_offer_57 : decode cX1_offer 57 = .ok (.iload 5, 2) := by decide +kernel
theorem dX1_offer_59 : decode cX1_offer 59 = .ok (.i2l, 1) := by decide +kernel
theorem dX1_offer_60 : decode cX1_offer 60 = .ok (.lconst 1, 1) := by decide +kernel
theorem dX1_offer_61 : decode cX1_offer 61 = .ok (.ladd, 1) := by decide +kernel
theorem dX1_offer_62 : decode cX1_offer 62 = .ok (.iconst 5, 1) := by decide +kernel
theorem dX1_offer_63 : decode cX1_offer 63 = .ok (.bipush 11, 2) := by decide +kernel
theorem dX1_offer_65 : decode cX1_offer 65 = .ok (.iload 6, 2) := by decide +kernel
theorem dX1_offer_67 : decode cX1_offer 67 = .ok (.isub, 1) := by decide +kernel
theorem dX1_offer_68 : decode cX1_offer 68 = .ok (.imul, 1) := by decide +kernel
theorem dX1_offer_69 : decode cX1_offer 69 = .ok (.lshl, 1) := by decide +kernel
theorem dX1_offer_70 : decode cX1_offer 70 = .ok (.ladd, 1) := by decide +kernel
theorem dX1_offer_71 : decode cX1_offer 71 = .ok (.lstore 8, 2) := by decide +kernel
theorem dX1_offer_73 : decode cX1_offer 73 = .ok (.goto 21, 3) := by decide +kernel
theorem dX1_offer_76 : decode cX1_offer 76 = .ok (.lload 10, 2) := by decide +kernel
theorem dX1_offer_78 : decode cX1_offer 78 = .ok (.iload 5, 2) := by decide +kernel
theorem dX1_offer_80 : decode cX1_offer 80 = .ok (.i2l, 1) := by decide +kernel
theorem dX1_offer_81 : decode cX1_offer 81 = .ok (.lconst 1, 1) := by decide +kernel
theorem dX1_offer_82 : decode cX1_offer 82 = .ok (.ladd, 1) := by decide +kernel
theorem dX1_offer_83 : decode cX1_offer 83 = .ok (.iconst 5, 1) := by decide +kernel
theorem dX1_offer_84 : decode cX1_offer 84 = .ok (.bipush 23, 2) := by decide +kernel
theorem dX1_offer_86 : decode cX1_offer 86 = .ok (.iload 6, 2) := by decide +kernel
theorem dX1_offer_88 : decode cX1_offer 88 = .ok (.isub, 1) := by decide +kernel
theorem dX1_offer_89 : decode cX1_offer 89 = .ok (.imul, 1) := by decide +kernel
theorem dX1_offer_90 : decode cX1_offer 90 = .ok (.lshl, 1) := by decide +kernel
theorem dX1_offer_91 : decode cX1_offer 91 = .ok (.ladd, 1) := by decide +kernel
theorem dX1_offer_92 : decode cX1_offer 92 = .ok (.lstore 10, 2) := by decide +kernel
theorem dX1_offer_94 : decode cX1_offer 94 = .ok (.aload_n 0, 1) := by decide +kernel
theorem dX1_offer_95 : decode cX1_offer 95 = .ok (.iload_n 1, 1) := by decide +kernel
theorem dX1_offer_96 : decode cX1_offer 96 = .ok (.iload 7, 2) := by decide +kernel
theorem dX1_offer_98 : decode cX1_offer 98 = .ok (.lload 8, 2) := by decide +kernel
theorem dX1_offer_100 : decode cX1_offer 100 = .ok (.lload 10, 2) := by decide +kernel
theorem dX1_offer_102 : decode cX1_offer 102 = .ok (.invokevirtual 54, 3) := by decide +kernel
theorem dX1_offer_105 : decode cX1_offer 105 = .ok (.ifCond .eq 81, 3) := by decide +kernel
theorem dX1_offer_108 : decode cX1_offer 108 = .ok (.aload_n 0, 1) := by decide +kernel
theorem dX1_offer_109 : decode cX1_offer 109 = .ok (.getfield 18, 3) := by decide +kernel
theorem dX1_offer_112 : decode cX1_offer 112 = .ok (.iload_n 2, 1) := by decide +kernel
theorem dX1_offer_113 : decode cX1_offer 113 = .ok (.iaload, 1) := by decide +kernel
theorem dX1_offer_114 : decode cX1_offer 114 = .ok (.aload_n 0, 1) := by decide +kernel
theorem dX1_offer_115 : decode cX1_offer 115 = .ok (.getfield 21, 3) := by decide +kernel
theorem dX1_offer_118 : decode cX1_offer 118 = .ok (.iload_n 3, 1) := by decide +kernel
theorem dX1_offer_119 : decode cX1_offer 119 = .ok (.iaload, 1) := by decide +kernel
theorem dX1_offer_120 : decode cX1_offer 120 = .ok (.iadd, 1) := by decide +kernel
theorem dX1_offer_121 : decode cX1_offer 121 = .ok (.aload_n 0, 1) := by decide +kernel
theorem dX1_offer_122 : decode cX1_offer 122 = .ok (.getfield 21, 3) := by decide +kernel
theorem dX1_offer_125 : decode cX1_offer 125 = .ok (.iload_n 2, 1) := by decide +kernel
theorem dX1_offer_126 : decode cX1_offer 126 = .ok (.iaload, 1) := by decide +kernel
theorem dX1_offer_127 : decode cX1_offer 127 = .ok (.aload_n 0, 1) := by decide +kernel
theorem dX1_offer_128 : decode cX1_offer 128 = .ok (.getfield 18, 3) := by decide +kernel
theorem dX1_offer_131 : decode cX1_offer 131 = .ok (.iload_n 3, 1) := by decide +kernel
theorem dX1_offer_132 : decode cX1_offer 132 = .ok (.iaload, 1) := by decide +kernel
theorem dX1_offer_133 : decode cX1_offer 133 = .ok (.iadd, 1) := by decide +kernel
theorem dX1_offer_134 : decode cX1_offer 134 = .ok (.invokestatic 58, 3) := by decide +kernel
theorem dX1_offer_137 : decode cX1_offer 137 = .ok (.iload 4, 2) := by decide +kernel
theorem dX1_offer_139 : decode cX1_offer 139 = .ok (.iadd, 1) := by decide +kernel
theorem dX1_offer_140 : decode cX1_offer 140 = .ok (.istore 12, 2) := by decide +kernel
theorem dX1_offer_142 : decode cX1_offer 142 = .ok (.aload_n 0, 1) := by decide +kernel
theorem dX1_offer_143 : decode cX1_offer 143 = .ok (.getfield 21, 3) := by decide +kernel
theorem dX1_offer_146 : decode cX1_offer 146 = .ok (.iload_n 1, 1) := by decide +kernel
theorem dX1_offer_147 : decode cX1_offer 147 = .ok (.aload_n 0, 1) := by decide +kernel
theorem dX1_offer_148 : decode cX1_offer 148 = .ok (.getfield 18, 3) := by decide +kernel
theorem dX1_offer_151 : decode cX1_offer 151 = .ok (.iload_n 1, 1) := by decide +kernel
theorem dX1_offer_152 : decode cX1_offer 152 = .ok (.iaload, 1) := by decide +kernel
theorem dX1_offer_153 : decode cX1_offer 153 = .ok (.iload 12, 2) := by decide +kernel
theorem dX1_offer_155 : decode cX1_offer 155 = .ok (.invokestatic 58, 3) := by decide +kernel
theorem dX1_offer_158 : decode cX1_offer 158 = .ok (.iastore, 1) := by decide +kernel
theorem dX1_offer_159 : decode cX1_offer 159 = .ok (.aload_n 0, 1) := by decide +kernel
theorem dX1_offer_160 : decode cX1_offer 160 = .ok (.getfield 18, 3) := by decide +kernel
theorem dX1_offer_163 : decode cX1_offer 163 = .ok (.iload_n 1, 1) := by decide +kernel
theorem dX1_offer_164 : decode cX1_offer 164 = .ok (.iload 7, 2) := by decide +kernel
theorem dX1_offer_166 : decode cX1_offer 166 = .ok (.iastore, 1) := by decide +kernel
theorem dX1_offer_167 : decode cX1_offer 167 = .ok (.aload_n 0, 1) := by decide +kernel
theorem dX1_offer_168 : decode cX1_offer 168 = .ok (.getfield 24, 3) := by decide +kernel
theorem dX1_offer_171 : decode cX1_offer 171 = .ok (.iload_n 1, 1) := by decide +kernel
theorem dX1_offer_172 : decode cX1_offer 172 = .ok (.lload 8, 2) := by decide +kernel
theorem dX1_offer_174 : decode cX1_offer 174 = .ok (.lastore, 1) := by decide +kernel
theorem dX1_offer_175 : decode cX1_offer 175 = .ok (.aload_n 0, 1) := by decide +kernel
theorem dX1_offer_176 : decode cX1_offer 176 = .ok (.getfield 28, 3) := by decide +kernel
theorem dX1_offer_179 : decode cX1_offer 179 = .ok (.iload_n 1, 1) := by decide +kernel
theorem dX1_offer_180 : decode cX1_offer 180 = .ok (.lload 10, 2) := by decide +kernel
theorem dX1_offer_182 : decode cX1_offer 182 = .ok (.lastore, 1) := by decide +kernel
theorem dX1_offer_183 : decode cX1_offer 183 = .ok (.goto 20, 3) := by decide +kernel
theorem dX1_offer_186 : decode cX1_offer 186 = .ok (.aload_n 0, 1) := by decide +kernel
theorem dX1_offer_187 : decode cX1_offer 187 = .ok (.getfield 21, 3) := by decide +kernel
theorem dX1_offer_190 : decode cX1_offer 190 = .ok (.iload_n 1, 1) := by decide +kernel
theorem dX1_offer_191 : decode cX1_offer 191 = .ok (.aload_n 0, 1) := by decide +kernel
theorem dX1_offer_192 : decode cX1_offer 192 = .ok (.getfield 21, 3) := by decide +kernel
theorem dX1_offer_195 : decode cX1_offer 195 = .ok (.iload_n 1, 1) := by decide +kernel
theorem dX1_offer_196 : decode cX1_offer 196 = .ok (.iaload, 1) := by decide +kernel
theorem dX1_offer_197 : decode cX1_offer 197 = .ok (.iload 7, 2) := by decide +kernel
theorem dX1_offer_199 : decode cX1_offer 199 = .ok (.invokestatic 58, 3) := by decide +kernel
theorem dX1_offer_202 : decode cX1_offer 202 = .ok (.iastore, 1) := by decide +kernel
theorem dX1_offer_203 : decode cX1_offer 203 = .ok (.return_, 1) := by decide +kernel
theorem dX1_comesFirst_0 : decode cX1_comesFirst 0 = .ok (.iload_n 2, 1) := by decide +kernel
theorem dX1_comesFirst_1 : decode cX1_comesFirst 1 = .ok (.aload_n 0, 1) := by decide +kernel
theorem dX1_comesFirst_2 : decode cX1_comesFirst 2 = .ok (.getfield 18, 3) := by decide +kernel
theorem dX1_comesFirst_5 : decode cX1_comesFirst 5 = .ok (.iload_n 1, 1) := by decide +kernel
theorem dX1_comesFirst_6 : decode cX1_comesFirst 6 = .ok (.iaload, 1) := by decide +kernel
theorem dX1_comesFirst_7 : decode cX1_comesFirst 7 = .ok (.if_icmp .eq 19, 3) := by decide +kernel
theorem dX1_comesFirst_10 : decode cX1_comesFirst 10 = .ok (.iload_n 2, 1) := by decide +kernel
theorem dX1_comesFirst_11 : decode cX1_comesFirst 11 = .ok (.aload_n 0, 1) := by decide +kernel
theorem dX1_comesFirst_12 : decode cX1_comesFirst 12 = .ok (.getfield 18, 3) := by decide +kernel
theorem dX1_comesFirst_15 : decode cX1_comesFirst 15 = .ok (.iload_n 1, 1) := by decide +kernel
theorem dX1_comesFirst_16 : decode cX1_comesFirst 16 = .ok (.iaload, 1) := by decide +kernel
theorem dX1_comesFirst_17 : decode cX1_comesFirst 17 = .ok (.if_icmp .ge 7, 3) := by decide +kernel
theorem dX1_comesFirst_20 : decode cX1_comesFirst 20 = .ok (.iconst 1, 1) := by decide +kernel
theorem dX1_comesFirst_21 : decode cX1_comesFirst 21 = .ok (.goto 4, 3) := by decide +kernel
theorem dX1_comesFirst_24 : decode cX1_comesFirst 24 = .ok (.iconst 0, 1) := by decide +kernel
theorem dX1_comesFirst_25 : decode cX1_comesFirst 25 = .ok (.ireturn, 1) := by decide +kernel
theorem dX1_comesFirst_26 : decode cX1_comesFirst 26 = .ok (.lload_n 3, 1) := by decide +kernel
theorem dX1_comesFirst_27 : decode cX1_comesFirst 27 = .ok (.aload_n 0, 1) := by decide +kernel
theorem dX1_comesFirst_28 : decode cX1_comesFirst 28 = .ok (.getfield 24, 3) := by decide +kernel
theorem dX1_comesFirst_31 : decode cX1_comesFirst 31 = .ok (.iload_n 1, 1) := by decide +kernel
theorem dX1_comesFirst_32 : decode cX1_comesFirst 32 = .ok (.laload, 1) := by decide +kernel
theorem dX1_comesFirst_33 : decode cX1_comesFirst 33 = .ok (.lcmp, 1) := by decide +kernel
theorem dX1_comesFirst_34 : decode cX1_comesFirst 34 = .ok (.ifCond .eq 20, 3) := by decide +kernel
theorem dX1_comesFirst_37 : decode cX1_comesFirst 37 = .ok (.lload_n 3, 1) := by decide +kernel
theorem dX1_comesFirst_38 : decode cX1_comesFirst 38 = .ok (.aload_n 0, 1) := by decide +kernel
theorem dX1_comesFirst_39 : decode cX1_comesFirst 39 = .ok (.getfield 24, 3) := by decide +kernel
theorem dX1_comesFirst_42 : decode cX1_comesFirst 42 = .ok (.iload_n 1, 1) := by decide +kernel
theorem dX1_comesFirst_43 : decode cX1_comesFirst 43 = .ok (.laload, 1) := by decide +kernel
theorem dX1_comesFirst_44 : decode cX1_comesFirst 44 = .ok (.lcmp, 1) := by decide +kernel
theorem dX1_comesFirst_45 : decode cX1_comesFirst 45 = .ok (.ifCond .ge 7, 3) := by decide +kernel
theorem dX1_comesFirst_48 : decode cX1_comesFirst 48 = .ok (.iconst 1, 1) := by decide +kernel
theorem dX1_comesFirst_49 : decode cX1_comesFirst 49 = .ok (.goto 4, 3) := by decide +kernel
theorem dX1_comesFirst_52 : decode cX1_comesFirst 52 = .ok (.iconst 0, 1) := by decide +kernel
theorem dX1_comesFirst_53 : decode cX1_comesFirst 53 = .ok (.ireturn, 1) := by decide +kernel
theorem dX1_comesFirst_54 : decode cX1_comesFirst 54 = .ok (.lload 5, 2) := by decide +kernel
theorem dX1_comesFirst_56 : decode cX1_comesFirst 56 = .ok (.aload_n 0, 1) := by decide +kernel
theorem dX1_comesFirst_57 : decode cX1_comesFirst 57 = .ok (.getfield 28, 3) := by decide +kernel
theorem dX1_comesFirst_60 : decode cX1_comesFirst 60 = .ok (.iload_n 1, 1) := by decide +kernel
theorem dX1_comesFirst_61 : decode cX1_comesFirst 61 = .ok (.laload, 1) := by decide +kernel
theorem dX1_comesFirst_62 : decode cX1_comesFirst 62 = .ok (.lcmp, 1) := by decide +kernel
theorem dX1_comesFirst_63 : decode cX1_comesFirst 63 = .ok (.ifCond .ge 7, 3) := by decide +kernel
theorem dX1_comesFirst_66 : decode cX1_comesFirst 66 = .ok (.iconst 1, 1) := by decide +kernel
theorem dX1_comesFirst_67 : decode cX1_comesFirst 67 = .ok (.goto 4, 3) := by decide +kernel
theorem dX1_comesFirst_70 : decode cX1_comesFirst 70 = .ok (.iconst 0, 1) := by decide +kernel
theorem dX1_comesFirst_71 : decode cX1_comesFirst 71 = .ok (.ireturn, 1) := by decide +kernel
theorem dX1_leastCost_0 : decode cX1_leastCost 0 = .ok (.aload_n 0, 1) := by decide +kernel
theorem dX1_leastCost_1 : decode cX1_leastCost 1 = .ok (.getfield 18, 3) := by decide +kernel
theorem dX1_leastCost_4 : decode cX1_leastCost 4 = .ok (.sipush 1152, 3) := by decide +kernel
theorem dX1_leastCost_7 : decode cX1_leastCost 7 = .ok (.iaload, 1) := by decide +kernel
theorem dX1_leastCost_8 : decode cX1_leastCost 8 = .ok (.ireturn, 1) := by decide +kernel
theorem dX1_secondCost_0 : decode cX1_secondCost 0 = .ok (.aload_n 0, 1) := by decide +kernel
theorem dX1_secondCost_1 : decode cX1_secondCost 1 = .ok (.getfield 21, 3) := by decide +kernel
theorem dX1_secondCost_4 : decode cX1_secondCost 4 = .ok (.sipush 1152, 3) := by decide +kernel
theorem dX1_secondCost_7 : decode cX1_secondCost 7 = .ok (.iaload, 1) := by decide +kernel
theorem dX1_secondCost_8 : decode cX1_secondCost 8 = .ok (.ireturn, 1) := by decide +kernel
theorem dX1_headOf_0 : decode cX1_headOf 0 = .ok (.iload_n 1, 1) := by decide +kernel
theorem dX1_headOf_1 : decode cX1_headOf 1 = .ok (.bipush 12, 2) := by decide +kernel
theorem dX1_headOf_3 : decode cX1_headOf 3 = .ok (.if_icmp .ge 21, 3) := by decide +kernel
theorem dX1_headOf_6 : decode cX1_headOf 6 = .ok (.aload_n 0, 1) := by decide +kernel
theorem dX1_headOf_7 : decode cX1_headOf 7 = .ok (.getfield 24, 3) := by decide +kernel
theorem dX1_headOf_10 : decode cX1_headOf 10 = .ok (.sipush 1152, 3) := by decide +kernel
theorem dX1_headOf_13 : decode cX1_headOf 13 = .ok (.laload, 1) := by decide +kernel
theorem dX1_headOf_14 : decode cX1_headOf 14 = .ok (.iconst 5, 1) := by decide +kernel
theorem dX1_headOf_15 : decode cX1_headOf 15 = .ok (.bipush 11, 2) := by decide +kernel
theorem dX1_headOf_17 : decode cX1_headOf 17 = .ok (.iload_n 1, 1) := by decide +kernel
theorem dX1_headOf_18 : decode cX1_headOf 18 = .ok (.isub, 1) := by decide +kernel
theorem dX1_headOf_19 : decode cX1_headOf 19 = .ok (.imul, 1) := by decide +kernel
theorem dX1_headOf_20 : decode cX1_headOf 20 = .ok (.lushr, 1) := by decide +kernel
theorem dX1_headOf_21 : decode cX1_headOf 21 = .ok (.goto 18, 3) := by decide +kernel
theorem dX1_headOf_24 : decode cX1_headOf 24 = .ok (.aload_n 0, 1) := by decide +kernel
theorem dX1_headOf_25 : decode cX1_headOf 25 = .ok (.getfield 28, 3) := by decide +kernel
theorem dX1_headOf_28 : decode cX1_headOf 28 = .ok (.sipush 1152, 3) := by decide +kernel
theorem dX1_headOf_31 : decode cX1_headOf 31 = .ok (.laload, 1) := by decide +kernel
theorem dX1_headOf_32 : decode cX1_headOf 32 = .ok (.iconst 5, 1) := by decide +kernel
theorem dX1_headOf_33 : decode cX1_headOf 33 = .ok (.bipush 23, 2) := by decide +kernel
theorem dX1_headOf_35 : decode cX1_headOf 35 = .ok (.iload_n 1, 1) := by decide +kernel
theorem dX1_headOf_36 : decode cX1_headOf 36 = .ok (.isub, 1) := by decide +kernel
theorem dX1_headOf_37 : decode cX1_headOf 37 = .ok (.imul, 1) := by decide +kernel
theorem dX1_headOf_38 : decode cX1_headOf 38 = .ok (.lushr, 1) := by decide +kernel
theorem dX1_headOf_39 : decode cX1_headOf 39 = .ok (.lstore_n 2, 1) := by decide +kernel
theorem dX1_headOf_40 : decode cX1_headOf 40 = .ok (.lload_n 2, 1) := by decide +kernel
theorem dX1_headOf_41 : decode cX1_headOf 41 = .ok (.ldc2_w 63, 3) := by decide +kernel
theorem dX1_headOf_44 : decode cX1_headOf 44 = .ok (.land, 1) := by decide +kernel
theorem dX1_headOf_45 : decode cX1_headOf 45 = .ok (.l2i, 1) := by decide +kernel
theorem dX1_headOf_46 : decode cX1_headOf 46 = .ok (.iconst 1, 1) := by decide +kernel
theorem dX1_headOf_47 : decode cX1_headOf 47 = .ok (.isub, 1) := by decide +kernel
theorem dX1_headOf_48 : decode cX1_headOf 48 = .ok (.ireturn, 1) := by decide +kernel
theorem dX2_init_0 : decode cX2_init 0 = .ok (.aload_n 0, 1) := by decide +kernel
theorem dX2_init_1 : decode cX2_init 1 = .ok (.invokespecial 3, 3) := by decide +kernel
theorem dX2_init_4 : decode cX2_init 4 = .ok (.aload_n 0, 1) := by decide +kernel
theorem dX2_init_5 : decode cX2_init 5 = .ok (.bipush 24, 2) := by decide +kernel
theorem dX2_init_7 : decode cX2_init 7 = .ok (.newarray .int, 2) := by decide +kernel
theorem dX2_init_9 : decode cX2_init 9 = .ok (.putfield 9, 3) := by decide +kernel
theorem dX2_init_12 : decode cX2_init 12 = .ok (.aload_n 0, 1) := by decide +kernel
theorem dX2_init_13 : decode cX2_init 13 = .ok (.bipush 24, 2) := by decide +kernel
theorem dX2_init_15 : decode cX2_init 15 = .ok (.newarray .int, 2) := by decide +kernel
theorem dX2_init_17 : decode cX2_init 17 = .ok (.putfield 15, 3) := by decide +kernel
theorem dX2_init_20 : decode cX2_init 20 = .ok (.aload_n 0, 1) := by decide +kernel
theorem dX2_init_21 : decode cX2_init 21 = .ok (.sipush 576, 3) := by decide +kernel
theorem dX2_init_24 : decode cX2_init 24 = .ok (.newarray .int, 2) := by decide +kernel
theorem dX2_init_26 : decode cX2_init 26 = .ok (.putfield 18, 3) := by decide +kernel
theorem dX2_init_29 : decode cX2_init 29 = .ok (.aload_n 0, 1) := by decide +kernel
theorem dX2_init_30 : decode cX2_init 30 = .ok (.sipush 360, 3) := by decide +kernel
theorem dX2_init_33 : decode cX2_init 33 = .ok (.newarray .long, 2) := by decide +kernel
theorem dX2_init_35 : decode cX2_init 35 = .ok (.putfield 21, 3) := by decide +kernel
theorem dX2_init_38 : decode cX2_init 38 = .ok (.aload_n 0, 1) := by decide +kernel
theorem dX2_init_39 : decode cX2_init 39 = .ok (.sipush 960, 3) := by decide +kernel
theorem dX2_init_42 : decode cX2_init 42 = .ok (.newarray .int, 2) := by decide +kernel
theorem dX2_init_44 : decode cX2_init 44 = .ok (.putfield 25, 3) := by decide +kernel
theorem dX2_init_47 : decode cX2_init 47 = .ok (.aload_n 0, 1) := by decide +kernel
theorem dX2_init_48 : decode cX2_init 48 = .ok (.sipush 960, 3) := by decide +kernel
theorem dX2_init_51 : decode cX2_init 51 = .ok (.newarray .int, 2) := by decide +kernel
theorem dX2_init_53 : decode cX2_init 53 = .ok (.putfield 28, 3) := by decide +kernel
theorem dX2_init_56 : decode cX2_init 56 = .ok (.aload_n 0, 1) := by decide +kernel
theorem dX2_init_57 : decode cX2_init 57 = .ok (.sipush 960, 3) := by decide +kernel
theorem dX2_init_60 : decode cX2_init 60 = .ok (.newarray .int, 2) := by decide +kernel
theorem dX2_init_62 : decode cX2_init 62 = .ok (.putfield 31, 3) := by decide +kernel
theorem dX2_init_65 : decode cX2_init 65 = .ok (.aload_n 0, 1) := by decide +kernel
theorem dX2_init_66 : decode cX2_init 66 = .ok (.sipush 256, 3) := by decide +kernel
theorem dX2_init_69 : decode cX2_init 69 = .ok (.newarray .int, 2) := by decide +kernel
theorem dX2_init_71 : decode cX2_init 71 = .ok (.putfield 34, 3) := by decide +kernel
theorem dX2_init_74 : decode cX2_init 74 = .ok (.return_, 1) := by decide +kernel
theorem dX2_gather_0 : decode cX2_gather 0 = .ok (.aload_n 0, 1) := by decide +kernel
theorem dX2_gather_1 : decode cX2_gather 1 = .ok (.iconst 0, 1) := by decide +kernel
theorem dX2_gather_2 : decode cX2_gather 2 = .ok (.putfield 37, 3) := by decide +kernel
theorem dX2_gather_5 : decode cX2_gather 5 = .ok (.aload_n 0, 1) := by decide +kernel
theorem dX2_gather_6 : decode cX2_gather 6 = .ok (.getfield 21, 3) := by decide +kernel
theorem dX2_gather_9 : decode cX2_gather 9 = .ok (.lconst 0, 1) := by decide +kernel
theorem dX2_gather_10 : decode cX2_gather 10 = .ok (.invokestatic 41, 3) := by decide +kernel
theorem dX2_gather_13 : decode cX2_gather 13 = .ok (.aload_n 0, 1) := by decide +kernel
theorem dX2_gather_14 : decode cX2_gather 14 = .ok (.getfield 34, 3) := by decide +kernel
theorem dX2_gather_17 : decode cX2_gather 17 = .ok (.iconst (-1), 1) := by decide +kernel
theorem dX2_gather_18 : decode cX2_gather 18 = .ok (.invokestatic 47, 3) := by decide +kernel
theorem dX2_gather_21 : decode cX2_gather 21 = .ok (.iconst 0, 1) := by decide +kernel
theorem dX2_gather_22 : decode cX2_gather 22 = .ok (.istore 5, 2) := by decide +kernel
theorem dX2_gather_24 : decode cX2_gather 24 = .ok (.iload 5, 2) := by decide +kernel
theorem dX2_gather_26 : decode cX2_gather 26 = .ok (.aload_n 1, 1) := by decide +kernel
theorem dX2_gather_27 : decode cX2_gather 27 = .ok (.getfield 50, 3) := by decide +kernel
theorem dX2_gather_30 : decode cX2_gather 30 = .ok (.if_icmp .ge 110, 3) := by decide +kernel
theorem dX2_gather_33 : decode cX2_gather 33 = .ok (.aload_n 1, 1) := by decide +kernel
theorem dX2_gather_34 : decode cX2_gather 34 = .ok (.getfield 55, 3) := by decide +kernel
theorem dX2_gather_37 : decode cX2_gather 37 = .ok (.iload 5, 2) := by decide +kernel
theorem dX2_gather_39 : decode cX2_gather 39 = .ok (.iaload, 1) := by decide +kernel
theorem dX2_gather_40 : decode cX2_gather 40 = .ok (.istore 6, 2) := by decide +kernel
theorem dX2_gather_42 : decode cX2_gather 42 = .ok (.aload_n 3, 1) := by decide +kernel
theorem dX2_gather_43 : decode cX2_gather 43 = .ok (.aload_n 1, 1) := by decide +kernel
theorem dX2_gather_44 : decode cX2_gather 44 = .ok (.getfield 58, 3) := by decide +kernel
theorem dX2_gather_47 : decode cX2_gather 47 = .ok (.aload_n 1, 1) := by decide +kernel
theorem dX2_gather_48 : decode cX2_gather 48 = .ok (.getfield 61, 3) := by decide +kernel
theorem dX2_gather_51 : decode cX2_gather 51 = .ok (.iload 6, 2) := by decide +kernel
theorem dX2_gather_53 : decode cX2_gather 53 = .ok (.iaload, 1) := by decide +kernel
theorem dX2_gather_54 : decode cX2_gather 54 = .ok (.aload_n 1, 1) := by decide +kernel
theorem dX2_gather_55 : decode cX2_gather 55 = .ok (.getfield 64, 3) := by decide +kernel
theorem dX2_gather_58 : decode cX2_gather 58 = .ok (.iload 6, 2) := by decide +kernel
theorem dX2_gather_60 : decode cX2_gather 60 = .ok (.iaload, 1) := by decide +kernel
theorem dX2_gather_61 : decode cX2_gather 61 = .ok (.invokevirtual 67, 3) := by decide +kernel
theorem dX2_gather_64 : decode cX2_gather 64 = .ok (.istore 7, 2) := by decide +kernel
theorem dX2_gather_66 : decode cX2_gather 66 = .ok (.aload_n 0, 1) := by decide +kernel
theorem dX2_gather_67 : decode cX2_gather 67 = .ok (.getfield 9, 3) := by decide +kernel
theorem dX2_gather_70 : decode cX2_gather 70 = .ok (.iload 5, 2) := by decide +kernel
theorem dX2_gather_72 : decode cX2_gather 72 = .ok (.iload 7, 2) := by decide +kernel
theorem dX2_gather_74 : decode cX2_gather 74 = .ok (.ifCond .lt 13, 3) := by decide +kernel
theorem dX2_gather_77 : decode cX2_gather 77 = .ok (.aload_n 3, 1) := by decide +kernel
theorem dX2_gather_78 : decode cX2_gather 78 = .ok (.getfield 73, 3) := by decide +kernel
theorem dX2_gather_81 : decode cX2_gather 81 = .ok (.iload 7, 2) := by decide +kernel
theorem dX2_gather_83 : decode cX2_gather 83 = .ok (.iaload, 1) := by decide +kernel
theorem dX2_gather_84 : decode cX2_gather 84 = .ok (.goto 4, 3) := by decide +kernel
theorem dX2_gather_87 : decode cX2_gather 87 = .ok (.iconst 0, 1) := by decide +kernel
theorem dX2_gather_88 : decode cX2_gather 88 = .ok (.iastore, 1) := by decide +kernel
theorem dX2_gather_89 : decode cX2_gather 89 = .ok (.iload 7, 2) := by decide +kernel
theorem dX2_gather_91 : decode cX2_gather 91 = .ok (.ifCond .lt 7, 3) := by decide +kernel
theorem dX2_gather_94 : decode cX2_gather 94 = .ok (.iconst 1, 1) := by decide +kernel
theorem dX2_gather_95 : decode cX2_gather 95 = .ok (.goto 4, 3) := by decide +kernel
theorem dX2_gather_98 : decode cX2_gather 98 = .ok (.iconst 0, 1) := by decide +kernel
theorem dX2_gather_99 : decode cX2_gather 99 = .ok (.istore 8, 2) := by decide +kernel
theorem dX2_gather_101 : decode cX2_gather 101 = .ok (.iload 8, 2) := by decide +kernel
theorem dX2_gather_103 : decode cX2_gather 103 = .ok (.aload_n 1, 1) := by decide +kernel
theorem dX2_gather_104 : decode cX2_gather 104 = .ok (.getfield 76, 3) := by decide +kernel
theorem dX2_gather_107 : decode cX2_gather 107 = .ok (.iload 5, 2) := by decide +kernel
theorem dX2_gather_109 : decode cX2_gather 109 = .ok (.iaload, 1) := by decide +kernel
theorem dX2_gather_110 : decode cX2_gather 110 = .ok (.if_icmp .ge 24, 3) := by decide +kernel
theorem dX2_gather_113 : decode cX2_gather 113 = .ok (.aload_n 0, 1) := by decide +kernel
theorem dX2_gather_114 : decode cX2_gather 114 = .ok (.aload_n 1, 1) := by decide +kernel
theorem dX2_gather_115 : decode cX2_gather 115 = .ok (.iload 5, 2) := by decide +kernel
theorem dX2_gather_117 : decode cX2_gather 117 = .ok (.iload 6, 2) := by decide +kernel
theorem dX2_gather_119 : decode cX2_gather 119 = .ok (.iload 8, 2) := by decide +kernel
theorem dX2_gather_121 : decode cX2_gather 121 = .ok (.iadd, 1) := by decide +kernel
theorem dX2_gather_122 : decode cX2_gather 122 = .ok (.aload_n 2, 1) := by decide +kernel
theorem dX2_gather_123 : decode cX2_gather 123 = .ok (.aload 4, 2) := by decide +kernel
theorem dX2_gather_125 : decode cX2_gather 125 = .ok (.invokevirtual 79, 3) := by decide +kernel
theorem dX2_gather_128 : decode cX2_gather 128 = .ok (.iinc 8 1, 3) := by decide +kernel
theorem dX2_gather_131 : decode cX2_gather 131 = .ok (.goto (-30), 3) := by decide +kernel
theorem dX2_gather_134 : decode cX2_gather 134 = .ok (.iinc 5 1, 3) := by decide +kernel
theorem dX2_gather_137 : decode cX2_gather 137 = .ok (.goto (-113), 3) := by decide +kernel
theorem dX2_gather_140 : decode cX2_gather 140 = .ok (.aload_n 0, 1) := by decide +kernel
theorem dX2_gather_141 : decode cX2_gather 141 = .ok (.aload_n 1, 1) := by decide +kernel
theorem dX2_gather_142 : decode cX2_gather 142 = .ok (.getfield 50, 3) := by decide +kernel
theorem dX2_gather_145 : decode cX2_gather 145 = .ok (.invokevirtual 83, 3) := by decide +kernel
theorem dX2_gather_148 : decode cX2_gather 148 = .ok (.return_, 1) := by decide +kernel
theorem dX2_takeWord_0 : decode cX2_takeWord 0 = .ok (.aload_n 1, 1) := by decide +kernel
theorem dX2_takeWord_1 : decode cX2_takeWord 1 = .ok (.getfield 61, 3) := by decide +kernel
theorem dX2_takeWord_4 : decode cX2_takeWord 4 = .ok (.iload_n 3, 1) := by decide +kernel
theorem dX2_takeWord_5 : decode cX2_takeWord 5 = .ok (.iaload, 1) := by decide +kernel
theorem dX2_takeWord_6 : decode cX2_takeWord 6 = .ok (.istore 6, 2) := by decide +kernel
theorem dX2_takeWord_8 : decode cX2_takeWord 8 = .ok (.aload_n 1, 1) := by decide +kernel
theorem dX2_takeWord_9 : decode cX2_takeWord 9 = .ok (.getfield 64, 3) := by decide +kernel
theorem dX2_takeWord_12 : decode cX2_takeWord 12 = .ok (.iload_n 3, 1) := by decide +kernel
theorem dX2_takeWord_13 : decode cX2_takeWord 13 = .ok (.iaload, 1) := by decide +kernel
theorem dX2_takeWord_14 : decode cX2_takeWord 14 = .ok (.istore 7, 2) := by decide +kernel
theorem dX2_takeWord_16 : decode cX2_takeWord 16 = .ok (.aload 4, 2) := by decide +kernel
theorem dX2_takeWord_18 : decode cX2_takeWord 18 = .ok (.aload_n 1, 1) := by decide +kernel
theorem dX2_takeWord_19 : decode cX2_takeWord 19 = .ok (.getfield 58, 3) := by decide +kernel
theorem dX2_takeWord_22 : decode cX2_takeWord 22 = .ok (.iload 6, 2) := by decide +kernel
theorem dX2_takeWord_24 : decode cX2_takeWord 24 = .ok (.iload 7, 2) := by decide +kernel
theorem dX2_takeWord_26 : decode cX2_takeWord 26 = .ok (.invokevirtual 67, 3) := by decide +kernel
theorem dX2_takeWord_29 : decode cX2_takeWord 29 = .ok (.ifCond .ge 62, 3) := by decide +kernel
theorem dX2_takeWord_32 : decode cX2_takeWord 32 = .ok (.aload 5, 2) := by decide +kernel
theorem dX2_takeWord_34 : decode cX2_takeWord 34 = .ok (.aload_n 1, 1) := by decide +kernel
theorem dX2_takeWord_35 : decode cX2_takeWord 35 = .ok (.getfield 58, 3) := by decide +kernel
theorem dX2_takeWord_38 : decode cX2_takeWord 38 = .ok (.iload 6, 2) := by decide +kernel
theorem dX2_takeWord_40 : decode cX2_takeWord 40 = .ok (.iload 7, 2) := by decide +kernel
theorem dX2_takeWord_42 : decode cX2_takeWord 42 = .ok (.invokevirtual 87, 3) := by decide +kernel
theorem dX2_takeWord_45 : decode cX2_takeWord 45 = .ok (.istore 8, 2) := by decide +kernel
theorem dX2_takeWord_47 : decode cX2_takeWord 47 = .ok (.aload_n 0, 1) := by decide +kernel
theorem dX2_takeWord_48 : decode cX2_takeWord 48 = .ok (.aload_n 1, 1) := by decide +kernel
theorem dX2_takeWord_49 : decode cX2_takeWord 49 = .ok (.getfield 58, 3) := by decide +kernel
theorem dX2_takeWord_52 : decode cX2_takeWord 52 = .ok (.iload 6, 2) := by decide +kernel
theorem dX2_takeWord_54 : decode cX2_takeWord 54 = .ok (.iload 8, 2) := by decide +kernel
theorem dX2_takeWord_56 : decode cX2_takeWord 56 = .ok (.invokevirtual 90, 3) := by decide +kernel
theorem dX2_takeWord_59 : decode cX2_takeWord 59 = .ok (.istore 9, 2) := by decide +kernel
theorem dX2_takeWord_61 : decode cX2_takeWord 61 = .ok (.iload 9, 2) := by decide +kernel
theorem dX2_takeWord_63 : decode cX2_takeWord 63 = .ok (.ifCond .lt 28, 3) := by decide +kernel
theorem dX2_takeWord_66 : decode cX2_takeWord 66 = .ok (.aload_n 0, 1) := by decide +kernel
theorem dX2_takeWord_67 : decode cX2_takeWord 67 = .ok (.getfield 21, 3) := by decide +kernel
theorem dX2_takeWord_70 : decode cX2_takeWord 70 = .ok (.iload_n 2, 1) := by decide +kernel
theorem dX2_takeWord_71 : decode cX2_takeWord 71 = .ok (.bipush 15, 2) := by decide +kernel
theorem dX2_takeWord_73 : decode cX2_takeWord 73 = .ok (.imul, 1) := by decide +kernel
theorem dX2_takeWord_74 : decode cX2_takeWord 74 = .ok (.iload 9, 2) := by decide +kernel
theorem dX2_takeWord_76 : decode cX2_takeWord 76 = .ok (.bipush 64, 2) := by decide +kernel
theorem dX2_takeWord_78 : decode cX2_takeWord 78 = .ok (.idiv, 1) := by decide +kernel
theorem dX2_takeWord_79 : decode cX2_takeWord 79 = .ok (.iadd, 1) := by decide +kernel
theorem dX2_takeWord_80 : decode cX2_takeWord 80 = .ok (.dup2, 1) := by decide +kernel
theorem dX2_takeWord_81 : decode cX2_takeWord 81 = .ok (.laload, 1) := by decide +kernel
theorem dX2_takeWord_82 : decode cX2_takeWord 82 = .ok (.lconst 1, 1) := by decide +kernel
theorem dX2_takeWord_83 : decode cX2_takeWord 83 = .ok (.iload 9, 2) := by decide +kernel
theorem dX2_takeWord_85 : decode cX2_takeWord 85 = .ok (.bipush 64, 2) := by decide +kernel
theorem dX2_takeWord_87 : decode cX2_takeWord 87 = .ok (.irem, 1) := by decide +kernel
theorem dX2_takeWord_88 : decode cX2_takeWord 88 = .ok (.lshl, 1) := by decide +kernel
theorem dX2_takeWord_89 : decode cX2_takeWord 89 = .ok (.lor, 1) := by decide +kernel
theorem dX2_takeWord_90 : decode cX2_takeWord 90 = .ok (.lastore, 1) := by decide +kernel
theorem dX2_takeWord_91 : decode cX2_takeWord 91 = .ok (.return_, 1) := by decide +kernel
theorem dX2_keyOf_0 : decode cX2_keyOf 0 = .ok (.iconst 0, 1) := by decide +kernel
theorem dX2_keyOf_1 : decode cX2_keyOf 1 = .ok (.istore 4, 2) := by decide +kernel
theorem dX2_keyOf_3 : decode cX2_keyOf 3 = .ok (.iconst 0, 1) := by decide +kernel
theorem dX2_keyOf_4 : decode cX2_keyOf 4 = .ok (.istore 5, 2) := by decide +kernel
theorem dX2_keyOf_6 : decode cX2_keyOf 6 = .ok (.iload 5, 2) := by decide +kernel
theorem dX2_keyOf_8 : decode cX2_keyOf 8 = .ok (.iload_n 3, 1) := by decide +kernel
theorem dX2_keyOf_9 : decode cX2_keyOf 9 = .ok (.if_icmp .ge 23, 3) := by decide +kernel
theorem dX2_keyOf_12 : decode cX2_keyOf 12 = .ok (.iload 4, 2) := by decide +kernel
theorem dX2_keyOf_14 : decode cX2_keyOf 14 = .ok (.bipush 31, 2) := by decide +kernel
theorem dX2_keyOf_16 : decode cX2_keyOf 16 = .ok (.imul, 1) := by decide +kernel
theorem dX2_keyOf_17 : decode cX2_keyOf 17 = .ok (.aload_n 1, 1) := by decide +kernel
theorem dX2_keyOf_18 : decode cX2_keyOf 18 = .ok (.iload_n 2, 1) := by decide +kernel
theorem dX2_keyOf_19 : decode cX2_keyOf 19 = .ok (.iload 5, 2) := by decide +kernel
theorem dX2_keyOf_21 : decode cX2_keyOf 21 = .ok (.iadd, 1) := by decide +kernel
theorem dX2_keyOf_22 : decode cX2_keyOf 22 = .ok (.iaload, 1) := by decide +kernel
theorem dX2_keyOf_23 : decode cX2_keyOf 23 = .ok (.iadd, 1) := by decide +kernel
theorem dX2_keyOf_24 : decode cX2_keyOf 24 = .ok (.istore 4, 2) := by decide +kernel
theorem dX2_keyOf_26 : decode cX2_keyOf 26 = .ok (.iinc 5 1, 3) := by decide +kernel
theorem dX2_keyOf_29 : decode cX2_keyOf 29 = .ok (.goto (-23), 3) := by decide +kernel
theorem dX2_keyOf_32 : decode cX2_keyOf 32 = .ok (.iload 4, 2) := by decide +kernel
theorem dX2_keyOf_34 : decode cX2_keyOf 34 = .ok (.iload 4, 2) := by decide +kernel
theorem dX2_keyOf_36 : decode cX2_keyOf 36 = .ok (.bipush 8, 2) := by decide +kernel
theorem dX2_keyOf_38 : decode cX2_keyOf 38 = .ok (.iushr, 1) := by decide +kernel
theorem dX2_keyOf_39 : decode cX2_keyOf 39 = .ok (.ixor, 1) := by decide +kernel
theorem dX2_keyOf_40 : decode cX2_keyOf 40 = .ok (.sipush 255, 3) := by decide +kernel
theorem dX2_keyOf_43 : decode cX2_keyOf 43 = .ok (.iand, 1) := by decide +kernel
theorem dX2_keyOf_44 : decode cX2_keyOf 44 = .ok (.istore 5, 2) := by decide +kernel
theorem dX2_keyOf_46 : decode cX2_keyOf 46 = .ok (.aload_n 0, 1) := by decide +kernel
theorem dX2_keyOf_47 : decode cX2_keyOf 47 = .ok (.getfield 34, 3) := by decide +kernel
theorem dX2_keyOf_50 : decode cX2_keyOf 50 = .ok (.iload 5, 2) := by decide +kernel
theorem dX2_keyOf_52 : decode cX2_keyOf 52 = .ok (.iaload, 1) := by decide +kernel
theorem dX2_keyOf_53 : decode cX2_keyOf 53 = .ok (.istore 6, 2) := by decide +kernel
theorem dX2_keyOf_55 : decode cX2_keyOf 55 = .ok (.iconst 0, 1) := by decide +kernel
theorem dX2_keyOf_56 : decode cX2_keyOf 56 = .ok (.istore 7, 2) := by decide +kernel
theorem dX2_keyOf_58 : decode cX2_keyOf 58 = .ok (.iload 7, 2) := by decide +kernel
theorem dX2_keyOf_60 : decode cX2_keyOf 60 = .ok (.aload_n 0, 1) := by decide +kernel
theorem dX2_keyOf_61 : decode cX2_keyOf 61 = .ok (.getfield 37, 3) := by decide +kernel
theorem dX2_keyOf_64 : decode cX2_keyOf 64 = .ok (.if_icmp .ge 53, 3) := by decide +kernel
theorem dX2_keyOf_67 : decode cX2_keyOf 67 = .ok (.iload 6, 2) := by decide +kernel
theorem dX2_keyOf_69 : decode cX2_keyOf 69 = .ok (.ifCond .lt 48, 3) := by decide +kernel
theorem dX2_keyOf_72 : decode cX2_keyOf 72 = .ok (.aload_n 0, 1) := by decide +kernel
theorem dX2_keyOf_73 : decode cX2_keyOf 73 = .ok (.getfield 28, 3) := by decide +kernel
theorem dX2_keyOf_76 : decode cX2_keyOf 76 = .ok (.iload 6, 2) := by decide +kernel
theorem dX2_keyOf_78 : decode cX2_keyOf 78 = .ok (.iaload, 1) := by decide +kernel
theorem dX2_keyOf_79 : decode cX2_keyOf 79 = .ok (.iload_n 3, 1) := by decide +kernel
theorem dX2_keyOf_80 : decode cX2_keyOf 80 = .ok (.if_icmp .ne 22, 3) := by decide +kernel
theorem dX2_keyOf_83 : decode cX2_keyOf 83 = .ok (.aload_n 1, 1) := by decide +kernel
theorem dX2_keyOf_84 : decode cX2_keyOf 84 = .ok (.aload_n 0, 1) := by decide +kernel
theorem dX2_keyOf_85 : decode cX2_keyOf 85 = .ok (.getfield 25, 3) := by decide +kernel
theorem dX2_keyOf_88 : decode cX2_keyOf 88 = .ok (.iload 6, 2) := by decide +kernel
theorem dX2_keyOf_90 : decode cX2_keyOf 90 = .ok (.iaload, 1) := by decide +kernel
theorem dX2_keyOf_91 : decode cX2_keyOf 91 = .ok (.iload_n 2, 1) := by decide +kernel
theorem dX2_keyOf_92 : decode cX2_keyOf 92 = .ok (.iload_n 3, 1) := by decide +kernel
theorem dX2_keyOf_93 : decode cX2_keyOf 93 = .ok (.invokestatic 93, 3) := by decide +kernel
theorem dX2_keyOf_96 : decode cX2_keyOf 96 = .ok (.ifCond .eq 6, 3) := by decide +kernel
theorem dX2_keyOf_99 : decode cX2_keyOf 99 = .ok (.iload 6, 2) := by decide +kernel
theorem dX2_keyOf_101 : decode cX2_keyOf 101 = .ok (.ireturn, 1) := by decide +kernel
theorem dX2_keyOf_102 : decode cX2_keyOf 102 = .ok (.aload_n 0, 1) := by decide +kernel
theorem dX2_keyOf_103 : decode cX2_keyOf 103 = .ok (.getfield 31, 3) := by decide +kernel
theorem dX2_keyOf_106 : decode cX2_keyOf 106 = .ok (.iload 6, 2) := by decide +kernel
theorem dX2_keyOf_108 : decode cX2_keyOf 108 = .ok (.iaload, 1) := by decide +kernel
theorem dX2_keyOf_109 : decode cX2_keyOf 109 = .ok (.istore 6, 2) := by decide +kernel
theorem dX2_keyOf_111 : decode cX2_keyOf 111 = .ok (.iinc 7 1, 3) := by decide +kernel
theorem dX2_keyOf_114 : decode cX2_keyOf 114 = .ok (.goto (-56), 3) := by decide +kernel
theorem dX2_keyOf_117 : decode cX2_keyOf 117 = .ok (.aload_n 0, 1) := by decide +kernel
theorem dX2_keyOf_118 : decode cX2_keyOf 118 = .ok (.iload_n 2, 1) := by decide +kernel
theorem dX2_keyOf_119 : decode cX2_keyOf 119 = .ok (.iload_n 3, 1) := by decide +kernel
theorem dX2_keyOf_120 : decode cX2_keyOf 120 = .ok (.iload 5, 2) := by decide +kernel
theorem dX2_keyOf_122 : decode cX2_keyOf 122 = .ok (.invokevirtual 97, 3) := by decide +kernel
theorem dX2_keyOf_125 : decode cX2_keyOf 125 = .ok (.ireturn, 1) := by decide +kernel
theorem dX2_addKey_0 : decode cX2_addKey 0 = .ok (.aload_n 0, 1) := by decide +kernel
theorem dX2_addKey_1 : decode cX2_addKey 1 = .ok (.getfield 37, 3) := by decide +kernel
theorem dX2_addKey_4 : decode cX2_addKey 4 = .ok (.sipush 960, 3) := by decide +kernel
theorem dX2_addKey_7 : decode cX2_addKey 7 = .ok (.if_icmp .lt 5, 3) := by decide +kernel
theorem dX2_addKey_10 : decode cX2_addKey 10 = .ok (.iconst (-1), 1) := by decide +kernel
theorem dX2_addKey_11 : decode cX2_addKey 11 = .ok (.ireturn, 1) := by decide +kernel
theorem dX2_addKey_12 : decode cX2_addKey 12 = .ok (.aload_n 0, 1) := by decide +kernel
theorem dX2_addKey_13 : decode cX2_addKey 13 = .ok (.getfield 25, 3) := by decide +kernel
theorem dX2_addKey_16 : decode cX2_addKey 16 = .ok (.aload_n 0, 1) := by decide +kernel
theorem dX2_addKey_17 : decode cX2_addKey 17 = .ok (.getfield 37, 3) := by decide +kernel
theorem dX2_addKey_20 : decode cX2_addKey 20 = .ok (.iload_n 1, 1) := by decide +kernel
theorem dX2_addKey_21 : decode cX2_addKey 21 = .ok (.iastore, 1) := by decide +kernel
theorem dX2_addKey_22 : decode cX2_addKey 22 = .ok (.aload_n 0, 1) := by decide +kernel
theorem dX2_addKey_23 : decode cX2_addKey 23 = .ok (.getfield 28, 3) := by decide +kernel
theorem dX2_addKey_26 : decode cX2_addKey 26 = .ok (.aload_n 0, 1) := by decide +kernel
theorem dX2_addKey_27 : decode cX2_addKey 27 = .ok (.getfield 37, 3) := by decide +kernel
theorem dX2_addKey_30 : decode cX2_addKey 30 = .ok (.iload_n 2, 1) := by decide +kernel
theorem dX2_addKey_31 : decode cX2_addKey 31 = .ok (.iastore, 1) := by decide +kernel
theorem dX2_addKey_32 : decode cX2_addKey 32 = .ok (.aload_n 0, 1) := by decide +kernel
theorem dX2_addKey_33 : decode cX2_addKey 33 = .ok (.getfield 31, 3) := by decide +kernel
theorem dX2_addKey_36 : decode cX2_addKey 36 = .ok (.aload_n 0, 1) := by decide +kernel
theorem dX2_addKey_37 : decode cX2_addKey 37 = .ok (.getfield 37, 3) := by decide +kernel
theorem dX2_addKey_40 : decode cX2_addKey 40 = .ok (.aload_n 0, 1) := by decide +kernel
theorem dX2_addKey_41 : decode cX2_addKey 41 = .ok (.getfield 34, 3) := by decide +kernel
theorem dX2_addKey_44 : decode cX2_addKey 44 = .ok (.iload_n 3, 1) := by decide +kernel
theorem dX2_addKey_45 : decode cX2_addKey 45 = .ok (.iaload, 1) := by decide +kernel
theorem dX2_addKey_46 : decode cX2_addKey 46 = .ok (.iastore, 1) := by decide +kernel
theorem dX2_addKey_47 : decode cX2_addKey 47 = .ok (.aload_n 0, 1) := by decide +kernel
theorem dX2_addKey_48 : decode cX2_addKey 48 = .ok (.getfield 34, 3) := by decide +kernel
theorem dX2_addKey_51 : decode cX2_addKey 51 = .ok (.iload_n 3, 1) := by decide +kernel
theorem dX2_addKey_52 : decode cX2_addKey 52 = .ok (.aload_n 0, 1) := by decide +kernel
theorem dX2_addKey_53 : decode cX2_addKey 53 = .ok (.getfield 37, 3) := by decide +kernel
theorem dX2_addKey_56 : decode cX2_addKey 56 = .ok (.iastore, 1) := by decide +kernel
theorem dX2_addKey_57 : decode cX2_addKey 57 = .ok (.aload_n 0, 1) := by decide +kernel
theorem dX2_addKey_58 : decode cX2_addKey 58 = .ok (.dup, 1) := by decide +kernel
theorem dX2_addKey_59 : decode cX2_addKey 59 = .ok (.getfield 37, 3) := by decide +kernel
theorem dX2_addKey_62 : decode cX2_addKey 62 = .ok (.iconst 1, 1) := by decide +kernel
theorem dX2_addKey_63 : decode cX2_addKey 63 = .ok (.iadd, 1) := by decide +kernel
theorem dX2_addKey_64 : decode cX2_addKey 64 = .ok (.putfield 37, 3) := by decide +kernel
theorem dX2_addKey_67 : decode cX2_addKey 67 = .ok (.aload_n 0, 1) := by decide +kernel
theorem dX2_addKey_68 : decode cX2_addKey 68 = .ok (.getfield 37, 3) := by decide +kernel
theorem dX2_addKey_71 : decode cX2_addKey 71 = .ok (.iconst 1, 1) := by decide +kernel
theorem dX2_addKey_72 : decode cX2_addKey 72 = .ok (.isub, 1) := by decide +kernel
theorem dX2_addKey_73 : decode cX2_addKey 73 = .ok (.ireturn, 1) := by decide +kernel
theorem dX2_isSame_0 : decode cX2_isSame 0 = .ok (.iconst 0, 1) := by decide +kernel
theorem dX2_isSame_1 : decode cX2_isSame 1 = .ok (.istore 4, 2) := by decide +kernel
theorem dX2_isSame_3 : decode cX2_isSame 3 = .ok (.iload 4, 2) := by decide +kernel
theorem dX2_isSame_5 : decode cX2_isSame 5 = .ok (.iload_n 3, 1) := by decide +kernel
theorem dX2_isSame_6 : decode cX2_isSame 6 = .ok (.if_icmp .ge 26, 3) := by decide +kernel
theorem dX2_isSame_9 : decode cX2_isSame 9 = .ok (.aload_n 0, 1) := by decide +kernel
theorem dX2_isSame_10 : decode cX2_isSame 10 = .ok (.iload_n 1, 1) := by decide +kernel
theorem dX2_isSame_11 : decode cX2_isSame 11 = .ok (.iload 4, 2) := by decide +kernel
theorem dX2_isSame_13 : decode cX2_isSame 13 = .ok (.iadd, 1) := by decide +kernel
theorem dX2_isSame_14 : decode cX2_isSame 14 = .ok (.iaload, 1) := by decide +kernel
theorem dX2_isSame_15 : decode cX2_isSame 15 = .ok (.aload_n 0, 1) := by decide +kernel
theorem dX2_isSame_16 : decode cX2_isSame 16 = .ok (.iload_n 2, 1) := by decide +kernel
theorem dX2_isSame_17 : decode cX2_isSame 17 = .ok (.iload 4, 2) := by decide +kernel
theorem dX2_isSame_19 : decode cX2_isSame 19 = .ok (.iadd, 1) := by decide +kernel
theorem dX2_isSame_20 : decode cX2_isSame 20 = .ok (.iaload, 1) := by decide +kernel
theorem dX2_isSame_21 : decode cX2_isSame 21 = .ok (.if_icmp .eq 5, 3) := by decide +kernel
theorem dX2_isSame_24 : decode cX2_isSame 24 = .ok (.iconst 0, 1) := by decide +kernel
theorem dX2_isSame_25 : decode cX2_isSame 25 = .ok (.ireturn, 1) := by decide +kernel
theorem dX2_isSame_26 : decode cX2_isSame 26 = .ok (.iinc 4 1, 3) := by decide +kernel
theorem dX2_isSame_29 : decode cX2_isSame 29 = .ok (.goto (-26), 3) := by decide +kernel
theorem dX2_isSame_32 : decode cX2_isSame 32 = .ok (.iconst 1, 1) := by decide +kernel
theorem dX2_isSame_33 : decode cX2_isSame 33 = .ok (.ireturn, 1) := by decide +kernel
theorem dX2_longsUsed_0 : decode cX2_longsUsed 0 = .ok (.aload_n 0, 1) := by decide +kernel
theorem dX2_longsUsed_1 : decode cX2_longsUsed 1 = .ok (.getfield 37, 3) := by decide +kernel
theorem dX2_longsUsed_4 : decode cX2_longsUsed 4 = .ok (.bipush 63, 2) := by decide +kernel
theorem dX2_longsUsed_6 : decode cX2_longsUsed 6 = .ok (.iadd, 1) := by decide +kernel
theorem dX2_longsUsed_7 : decode cX2_longsUsed 7 = .ok (.bipush 64, 2) := by decide +kernel
theorem dX2_longsUsed_9 : decode cX2_longsUsed 9 = .ok (.idiv, 1) := by decide +kernel
theorem dX2_longsUsed_10 : decode cX2_longsUsed 10 = .ok (.ireturn, 1) := by decide +kernel
theorem dX2_compare_0 : decode cX2_compare 0 = .ok (.aload_n 0, 1) := by decide +kernel
theorem dX2_compare_1 : decode cX2_compare 1 = .ok (.invokevirtual 101, 3) := by decide +kernel
theorem dX2_compare_4 : decode cX2_compare 4 = .ok (.istore_n 2, 1) := by decide +kernel
theorem dX2_compare_5 : decode cX2_compare 5 = .ok (.iconst 0, 1) := by decide +kernel
theorem dX2_compare_6 : decode cX2_compare 6 = .ok (.istore_n 3, 1) := by decide +kernel
theorem dX2_compare_7 : decode cX2_compare 7 = .ok (.iload_n 3, 1) := by decide +kernel
theorem dX2_compare_8 : decode cX2_compare 8 = .ok (.iload_n 1, 1) := by decide +kernel
theorem dX2_compare_9 : decode cX2_compare 9 = .ok (.if_icmp .ge 121, 3) := by decide +kernel
theorem dX2_compare_12 : decode cX2_compare 12 = .ok (.iconst 0, 1) := by decide +kernel
theorem dX2_compare_13 : decode cX2_compare 13 = .ok (.istore 4, 2) := by decide +kernel
theorem dX2_compare_15 : decode cX2_compare 15 = .ok (.iload 4, 2) := by decide +kernel
theorem dX2_compare_17 : decode cX2_compare 17 = .ok (.iload_n 3, 1) := by decide +kernel
theorem dX2_compare_18 : decode cX2_compare 18 = .ok (.if_icmp .gt 89, 3) := by decide +kernel
theorem dX2_compare_21 : decode cX2_compare 21 = .ok (.iconst 0, 1) := by decide +kernel
theorem dX2_compare_22 : decode cX2_compare 22 = .ok (.istore 5, 2) := by decide +kernel
theorem dX2_compare_24 : decode cX2_compare 24 = .ok (.iconst 0, 1) := by decide +kernel
end
section
theorem dX2_compare_25 : decode cX2_compare 25 = .ok (.istore 6, 2) := by decide +kernel
theorem dX2_compare_27 : decode cX2_compare 27 = .ok (.iload 6, 2) := by decide +kernel
theorem dX2_compare_29 : decode cX2_compare 29 = .ok (.iload_n 2, 1) := by decide +kernel
theorem dX2_compare_30 : decode cX2_compare 30 = .ok (.if_icmp .ge 43, 3) := by decide +kernel
theorem dX2_compare_33 : decode cX2_compare 33 = .ok (.iload 5, 2) := by decide +kernel
theorem dX2_compare_35 : decode cX2_compare 35 = .ok (.aload_n 0, 1) := by decide +kernel
theorem dX2_compare_36 : decode cX2_compare 36 = .ok (.getfield 21, 3) := by decide +kernel
theorem dX2_compare_39 : decode cX2_compare 39 = .ok (.iload_n 3, 1) := by decide +kernel
theorem dX2_compare_40 : decode cX2_compare 40 = .ok (.bipush 15, 2) := by decide +kernel
theorem dX2_compare_42 : decode cX2_compare 42 = .ok (.imul, 1) := by decide +kernel
theorem dX2_compare_43 : decode cX2_compare 43 = .ok (.iload 6, 2) := by decide +kernel
theorem dX2_compare_45 : decode cX2_compare 45 = .ok (.iadd, 1) := by decide +kernel
theorem dX2_compare_46 : decode cX2_compare 46 = .ok (.laload, 1) := by decide +kernel
theorem dX2_compare_47 : decode cX2_compare 47 = .ok (.aload_n 0, 1) := by decide +kernel
theorem dX2_compare_48 : decode cX2_compare 48 = .ok (.getfield 21, 3) := by decide +kernel
theorem dX2_compare_51 : decode cX2_compare 51 = .ok (.iload 4, 2) := by decide +kernel
theorem dX2_compare_53 : decode cX2_compare 53 = .ok (.bipush 15, 2) := by decide +kernel
theorem dX2_compare_55 : decode cX2_compare 55 = .ok (.imul, 1) := by decide +kernel
theorem dX2_compare_56 : decode cX2_compare 56 = .ok (.iload 6, 2) := by decide +kernel
theorem dX2_compare_58 : decode cX2_compare 58 = .ok (.iadd, 1) := by decide +kernel
theorem dX2_compare_59 : decode cX2_compare 59 = .ok (.laload, 1) := by decide +kernel
theorem dX2_compare_60 : decode cX2_compare 60 = .ok (.land, 1) := by decide +kernel
theorem dX2_compare_61 : decode cX2_compare 61 = .ok (.invokestatic 105, 3) := by decide +kernel
theorem dX2_compare_64 : decode cX2_compare 64 = .ok (.iadd, 1) := by decide +kernel
theorem dX2_compare_65 : decode cX2_compare 65 = .ok (.istore 5, 2) := by decide +kernel
theorem dX2_compare_67 : decode cX2_compare 67 = .ok (.iinc 6 1, 3) := by decide +kernel
theorem dX2_compare_70 : decode cX2_compare 70 = .ok (.goto (-43), 3) := by decide +kernel
theorem dX2_compare_73 : decode cX2_compare 73 = .ok (.aload_n 0, 1) := by decide +kernel
theorem dX2_compare_74 : decode cX2_compare 74 = .ok (.getfield 18, 3) := by decide +kernel
theorem dX2_compare_77 : decode cX2_compare 77 = .ok (.iload_n 3, 1) := by decide +kernel
theorem dX2_compare_78 : decode cX2_compare 78 = .ok (.bipush 24, 2) := by decide +kernel
theorem dX2_compare_80 : decode cX2_compare 80 = .ok (.imul, 1) := by decide +kernel
theorem dX2_compare_81 : decode cX2_compare 81 = .ok (.iload 4, 2) := by decide +kernel
theorem dX2_compare_83 : decode cX2_compare 83 = .ok (.iadd, 1) := by decide +kernel
theorem dX2_compare_84 : decode cX2_compare 84 = .ok (.iload 5, 2) := by decide +kernel
theorem dX2_compare_86 : decode cX2_compare 86 = .ok (.iastore, 1) := by decide +kernel
theorem dX2_compare_87 : decode cX2_compare 87 = .ok (.aload_n 0, 1) := by decide +kernel
theorem dX2_compare_88 : decode cX2_compare 88 = .ok (.getfield 18, 3) := by decide +kernel
theorem dX2_compare_91 : decode cX2_compare 91 = .ok (.iload 4, 2) := by decide +kernel
theorem dX2_compare_93 : decode cX2_compare 93 = .ok (.bipush 24, 2) := by decide +kernel
theorem dX2_compare_95 : decode cX2_compare 95 = .ok (.imul, 1) := by decide +kernel
theorem dX2_compare_96 : decode cX2_compare 96 = .ok (.iload_n 3, 1) := by decide +kernel
theorem dX2_compare_97 : decode cX2_compare 97 = .ok (.iadd, 1) := by decide +kernel
theorem dX2_compare_98 : decode cX2_compare 98 = .ok (.iload 5, 2) := by decide +kernel
theorem dX2_compare_100 : decode cX2_compare 100 = .ok (.iastore, 1) := by decide +kernel
theorem dX2_compare_101 : decode cX2_compare 101 = .ok (.iinc 4 1, 3) := by decide +kernel
theorem dX2_compare_104 : decode cX2_compare 104 = .ok (.goto (-89), 3) := by decide +kernel
theorem dX2_compare_107 : decode cX2_compare 107 = .ok (.aload_n 0, 1) := by decide +kernel
theorem dX2_compare_108 : decode cX2_compare 108 = .ok (.getfield 15, 3) := by decide +kernel
theorem dX2_compare_111 : decode cX2_compare 111 = .ok (.iload_n 3, 1) := by decide +kernel
theorem dX2_compare_112 : decode cX2_compare 112 = .ok (.aload_n 0, 1) := by decide +kernel
theorem dX2_compare_113 : decode cX2_compare 113 = .ok (.getfield 18, 3) := by decide +kernel
theorem dX2_compare_116 : decode cX2_compare 116 = .ok (.iload_n 3, 1) := by decide +kernel
theorem dX2_compare_117 : decode cX2_compare 117 = .ok (.bipush 24, 2) := by decide +kernel
theorem dX2_compare_119 : decode cX2_compare 119 = .ok (.imul, 1) := by decide +kernel
theorem dX2_compare_120 : decode cX2_compare 120 = .ok (.iload_n 3, 1) := by decide +kernel
theorem dX2_compare_121 : decode cX2_compare 121 = .ok (.iadd, 1) := by decide +kernel
theorem dX2_compare_122 : decode cX2_compare 122 = .ok (.iaload, 1) := by decide +kernel
theorem dX2_compare_123 : decode cX2_compare 123 = .ok (.iastore, 1) := by decide +kernel
theorem dX2_compare_124 : decode cX2_compare 124 = .ok (.iinc 3 1, 3) := by decide +kernel
theorem dX2_compare_127 : decode cX2_compare 127 = .ok (.goto (-120), 3) := by decide +kernel
theorem dX2_compare_130 : decode cX2_compare 130 = .ok (.return_, 1) := by decide +kernel
theorem dX2_isStale_0 : decode cX2_isStale 0 = .ok (.aload_n 2, 1) := by decide +kernel
theorem dX2_isStale_1 : decode cX2_isStale 1 = .ok (.iload_n 1, 1) := by decide +kernel
theorem dX2_isStale_2 : decode cX2_isStale 2 = .ok (.iaload, 1) := by decide +kernel
theorem dX2_isStale_3 : decode cX2_isStale 3 = .ok (.istore_n 3, 1) := by decide +kernel
theorem dX2_isStale_4 : decode cX2_isStale 4 = .ok (.aload_n 0, 1) := by decide +kernel
theorem dX2_isStale_5 : decode cX2_isStale 5 = .ok (.invokevirtual 101, 3) := by decide +kernel
theorem dX2_isStale_8 : decode cX2_isStale 8 = .ok (.istore 4, 2) := by decide +kernel
theorem dX2_isStale_10 : decode cX2_isStale 10 = .ok (.iconst 0, 1) := by decide +kernel
theorem dX2_isStale_11 : decode cX2_isStale 11 = .ok (.istore 5, 2) := by decide +kernel
theorem dX2_isStale_13 : decode cX2_isStale 13 = .ok (.iload 5, 2) := by decide +kernel
theorem dX2_isStale_15 : decode cX2_isStale 15 = .ok (.iload 4, 2) := by decide +kernel
theorem dX2_isStale_17 : decode cX2_isStale 17 = .ok (.if_icmp .ge 71, 3) := by decide +kernel
theorem dX2_isStale_20 : decode cX2_isStale 20 = .ok (.aload_n 0, 1) := by decide +kernel
theorem dX2_isStale_21 : decode cX2_isStale 21 = .ok (.getfield 21, 3) := by decide +kernel
theorem dX2_isStale_24 : decode cX2_isStale 24 = .ok (.iload_n 3, 1) := by decide +kernel
theorem dX2_isStale_25 : decode cX2_isStale 25 = .ok (.bipush 15, 2) := by decide +kernel
theorem dX2_isStale_27 : decode cX2_isStale 27 = .ok (.imul, 1) := by decide +kernel
theorem dX2_isStale_28 : decode cX2_isStale 28 = .ok (.iload 5, 2) := by decide +kernel
theorem dX2_isStale_30 : decode cX2_isStale 30 = .ok (.iadd, 1) := by decide +kernel
theorem dX2_isStale_31 : decode cX2_isStale 31 = .ok (.laload, 1) := by decide +kernel
theorem dX2_isStale_32 : decode cX2_isStale 32 = .ok (.lstore 6, 2) := by decide +kernel
theorem dX2_isStale_34 : decode cX2_isStale 34 = .ok (.iconst 0, 1) := by decide +kernel
theorem dX2_isStale_35 : decode cX2_isStale 35 = .ok (.istore 8, 2) := by decide +kernel
theorem dX2_isStale_37 : decode cX2_isStale 37 = .ok (.iload 8, 2) := by decide +kernel
theorem dX2_isStale_39 : decode cX2_isStale 39 = .ok (.iload_n 1, 1) := by decide +kernel
theorem dX2_isStale_40 : decode cX2_isStale 40 = .ok (.if_icmp .ge 33, 3) := by decide +kernel
theorem dX2_isStale_43 : decode cX2_isStale 43 = .ok (.lload 6, 2) := by decide +kernel
theorem dX2_isStale_45 : decode cX2_isStale 45 = .ok (.aload_n 0, 1) := by decide +kernel
theorem dX2_isStale_46 : decode cX2_isStale 46 = .ok (.getfield 21, 3) := by decide +kernel
theorem dX2_isStale_49 : decode cX2_isStale 49 = .ok (.aload_n 2, 1) := by decide +kernel
theorem dX2_isStale_50 : decode cX2_isStale 50 = .ok (.iload 8, 2) := by decide +kernel
theorem dX2_isStale_52 : decode cX2_isStale 52 = .ok (.iaload, 1) := by decide +kernel
theorem dX2_isStale_53 : decode cX2_isStale 53 = .ok (.bipush 15, 2) := by decide +kernel
theorem dX2_isStale_55 : decode cX2_isStale 55 = .ok (.imul, 1) := by decide +kernel
theorem dX2_isStale_56 : decode cX2_isStale 56 = .ok (.iload 5, 2) := by decide +kernel
theorem dX2_isStale_58 : decode cX2_isStale 58 = .ok (.iadd, 1) := by decide +kernel
theorem dX2_isStale_59 : decode cX2_isStale 59 = .ok (.laload, 1) := by decide +kernel
theorem dX2_isStale_60 : decode cX2_isStale 60 = .ok (.ldc2_w 111, 3) := by decide +kernel
theorem dX2_isStale_63 : decode cX2_isStale 63 = .ok (.lxor, 1) := by decide +kernel
theorem dX2_isStale_64 : decode cX2_isStale 64 = .ok (.land, 1) := by decide +kernel
theorem dX2_isStale_65 : decode cX2_isStale 65 = .ok (.lstore 6, 2) := by decide +kernel
theorem dX2_isStale_67 : decode cX2_isStale 67 = .ok (.iinc 8 1, 3) := by decide +kernel
theorem dX2_isStale_70 : decode cX2_isStale 70 = .ok (.goto (-33), 3) := by decide +kernel
theorem dX2_isStale_73 : decode cX2_isStale 73 = .ok (.lload 6, 2) := by decide +kernel
theorem dX2_isStale_75 : decode cX2_isStale 75 = .ok (.lconst 0, 1) := by decide +kernel
theorem dX2_isStale_76 : decode cX2_isStale 76 = .ok (.lcmp, 1) := by decide +kernel
theorem dX2_isStale_77 : decode cX2_isStale 77 = .ok (.ifCond .eq 5, 3) := by decide +kernel
theorem dX2_isStale_80 : decode cX2_isStale 80 = .ok (.iconst 0, 1) := by decide +kernel
theorem dX2_isStale_81 : decode cX2_isStale 81 = .ok (.ireturn, 1) := by decide +kernel
theorem dX2_isStale_82 : decode cX2_isStale 82 = .ok (.iinc 5 1, 3) := by decide +kernel
theorem dX2_isStale_85 : decode cX2_isStale 85 = .ok (.goto (-72), 3) := by decide +kernel
theorem dX2_isStale_88 : decode cX2_isStale 88 = .ok (.aload_n 0, 1) := by decide +kernel
theorem dX2_isStale_89 : decode cX2_isStale 89 = .ok (.getfield 15, 3) := by decide +kernel
theorem dX2_isStale_92 : decode cX2_isStale 92 = .ok (.iload_n 3, 1) := by decide +kernel
theorem dX2_isStale_93 : decode cX2_isStale 93 = .ok (.iaload, 1) := by decide +kernel
theorem dX2_isStale_94 : decode cX2_isStale 94 = .ok (.ifCond .le 7, 3) := by decide +kernel
theorem dX2_isStale_97 : decode cX2_isStale 97 = .ok (.iconst 1, 1) := by decide +kernel
theorem dX2_isStale_98 : decode cX2_isStale 98 = .ok (.goto 4, 3) := by decide +kernel
theorem dX2_isStale_101 : decode cX2_isStale 101 = .ok (.iconst 0, 1) := by decide +kernel
theorem dX2_isStale_102 : decode cX2_isStale 102 = .ok (.ireturn, 1) := by decide +kernel
theorem dX3_init_0 : decode cX3_init 0 = .ok (.aload_n 0, 1) := by decide +kernel
theorem dX3_init_1 : decode cX3_init 1 = .ok (.invokespecial 3, 3) := by decide +kernel
theorem dX3_init_4 : decode cX3_init 4 = .ok (.aload_n 0, 1) := by decide +kernel
theorem dX3_init_5 : decode cX3_init 5 = .ok (.bipush 10, 2) := by decide +kernel
theorem dX3_init_7 : decode cX3_init 7 = .ok (.newarray .int, 2) := by decide +kernel
theorem dX3_init_9 : decode cX3_init 9 = .ok (.putfield 9, 3) := by decide +kernel
theorem dX3_init_12 : decode cX3_init 12 = .ok (.aload_n 0, 1) := by decide +kernel
theorem dX3_init_13 : decode cX3_init 13 = .ok (.bipush 10, 2) := by decide +kernel
theorem dX3_init_15 : decode cX3_init 15 = .ok (.newarray .int, 2) := by decide +kernel
theorem dX3_init_17 : decode cX3_init 17 = .ok (.putfield 15, 3) := by decide +kernel
theorem dX3_init_20 : decode cX3_init 20 = .ok (.aload_n 0, 1) := by decide +kernel
theorem dX3_init_21 : decode cX3_init 21 = .ok (.bipush 10, 2) := by decide +kernel
theorem dX3_init_23 : decode cX3_init 23 = .ok (.newarray .int, 2) := by decide +kernel
theorem dX3_init_25 : decode cX3_init 25 = .ok (.putfield 18, 3) := by decide +kernel
theorem dX3_init_28 : decode cX3_init 28 = .ok (.aload_n 0, 1) := by decide +kernel
theorem dX3_init_29 : decode cX3_init 29 = .ok (.bipush 10, 2) := by decide +kernel
theorem dX3_init_31 : decode cX3_init 31 = .ok (.newarray .int, 2) := by decide +kernel
theorem dX3_init_33 : decode cX3_init 33 = .ok (.putfield 21, 3) := by decide +kernel
theorem dX3_init_36 : decode cX3_init 36 = .ok (.aload_n 0, 1) := by decide +kernel
theorem dX3_init_37 : decode cX3_init 37 = .ok (.sipush 1024, 3) := by decide +kernel
theorem dX3_init_40 : decode cX3_init 40 = .ok (.newarray .int, 2) := by decide +kernel
theorem dX3_init_42 : decode cX3_init 42 = .ok (.putfield 24, 3) := by decide +kernel
theorem dX3_init_45 : decode cX3_init 45 = .ok (.aload_n 0, 1) := by decide +kernel
theorem dX3_init_46 : decode cX3_init 46 = .ok (.bipush 10, 2) := by decide +kernel
theorem dX3_init_48 : decode cX3_init 48 = .ok (.newarray .int, 2) := by decide +kernel
theorem dX3_init_50 : decode cX3_init 50 = .ok (.putfield 27, 3) := by decide +kernel
theorem dX3_init_53 : decode cX3_init 53 = .ok (.aload_n 0, 1) := by decide +kernel
theorem dX3_init_54 : decode cX3_init 54 = .ok (.bipush 10, 2) := by decide +kernel
theorem dX3_init_56 : decode cX3_init 56 = .ok (.newarray .int, 2) := by decide +kernel
theorem dX3_init_58 : decode cX3_init 58 = .ok (.putfield 30, 3) := by decide +kernel
theorem dX3_init_61 : decode cX3_init 61 = .ok (.return_, 1) := by decide +kernel
theorem dX3_clear_0 : decode cX3_clear 0 = .ok (.aload_n 0, 1) := by decide +kernel
theorem dX3_clear_1 : decode cX3_clear 1 = .ok (.iconst 0, 1) := by decide +kernel
theorem dX3_clear_2 : decode cX3_clear 2 = .ok (.putfield 33, 3) := by decide +kernel
theorem dX3_clear_5 : decode cX3_clear 5 = .ok (.aload_n 0, 1) := by decide +kernel
theorem dX3_clear_6 : decode cX3_clear 6 = .ok (.iconst 0, 1) := by decide +kernel
theorem dX3_clear_7 : decode cX3_clear 7 = .ok (.putfield 37, 3) := by decide +kernel
theorem dX3_clear_10 : decode cX3_clear 10 = .ok (.return_, 1) := by decide +kernel
theorem dX3_addHead_0 : decode cX3_addHead 0 = .ok (.aload_n 0, 1) := by decide +kernel
theorem dX3_addHead_1 : decode cX3_addHead 1 = .ok (.aload_n 0, 1) := by decide +kernel
theorem dX3_addHead_2 : decode cX3_addHead 2 = .ok (.getfield 33, 3) := by decide +kernel
theorem dX3_addHead_5 : decode cX3_addHead 5 = .ok (.putfield 37, 3) := by decide +kernel
theorem dX3_addHead_8 : decode cX3_addHead 8 = .ok (.aload_n 0, 1) := by decide +kernel
theorem dX3_addHead_9 : decode cX3_addHead 9 = .ok (.iload_n 1, 1) := by decide +kernel
theorem dX3_addHead_10 : decode cX3_addHead 10 = .ok (.iload_n 1, 1) := by decide +kernel
theorem dX3_addHead_11 : decode cX3_addHead 11 = .ok (.iconst 1, 1) := by decide +kernel
theorem dX3_addHead_12 : decode cX3_addHead 12 = .ok (.invokevirtual 40, 3) := by decide +kernel
theorem dX3_addHead_15 : decode cX3_addHead 15 = .ok (.return_, 1) := by decide +kernel
theorem dX3_addPart_0 : decode cX3_addPart 0 = .ok (.aload_n 0, 1) := by decide +kernel
theorem dX3_addPart_1 : decode cX3_addPart 1 = .ok (.getfield 33, 3) := by decide +kernel
theorem dX3_addPart_4 : decode cX3_addPart 4 = .ok (.bipush 10, 2) := by decide +kernel
theorem dX3_addPart_6 : decode cX3_addPart 6 = .ok (.if_icmp .ge 53, 3) := by decide +kernel
theorem dX3_addPart_9 : decode cX3_addPart 9 = .ok (.aload_n 0, 1) := by decide +kernel
theorem dX3_addPart_10 : decode cX3_addPart 10 = .ok (.getfield 9, 3) := by decide +kernel
theorem dX3_addPart_13 : decode cX3_addPart 13 = .ok (.aload_n 0, 1) := by decide +kernel
theorem dX3_addPart_14 : decode cX3_addPart 14 = .ok (.getfield 33, 3) := by decide +kernel
theorem dX3_addPart_17 : decode cX3_addPart 17 = .ok (.iload_n 1, 1) := by decide +kernel
theorem dX3_addPart_18 : decode cX3_addPart 18 = .ok (.iastore, 1) := by decide +kernel
theorem dX3_addPart_19 : decode cX3_addPart 19 = .ok (.aload_n 0, 1) := by decide +kernel
theorem dX3_addPart_20 : decode cX3_addPart 20 = .ok (.getfield 15, 3) := by decide +kernel
theorem dX3_addPart_23 : decode cX3_addPart 23 = .ok (.aload_n 0, 1) := by decide +kernel
theorem dX3_addPart_24 : decode cX3_addPart 24 = .ok (.getfield 33, 3) := by decide +kernel
theorem dX3_addPart_27 : decode cX3_addPart 27 = .ok (.iload_n 2, 1) := by decide +kernel
theorem dX3_addPart_28 : decode cX3_addPart 28 = .ok (.iastore, 1) := by decide +kernel
theorem dX3_addPart_29 : decode cX3_addPart 29 = .ok (.aload_n 0, 1) := by decide +kernel
theorem dX3_addPart_30 : decode cX3_addPart 30 = .ok (.getfield 18, 3) := by decide +kernel
theorem dX3_addPart_33 : decode cX3_addPart 33 = .ok (.aload_n 0, 1) := by decide +kernel
theorem dX3_addPart_34 : decode cX3_addPart 34 = .ok (.getfield 33, 3) := by decide +kernel
theorem dX3_addPart_37 : decode cX3_addPart 37 = .ok (.iload_n 3, 1) := by decide +kernel
theorem dX3_addPart_38 : decode cX3_addPart 38 = .ok (.iastore, 1) := by decide +kernel
theorem dX3_addPart_39 : decode cX3_addPart 39 = .ok (.aload_n 0, 1) := by decide +kernel
theorem dX3_addPart_40 : decode cX3_addPart 40 = .ok (.getfield 21, 3) := by decide +kernel
theorem dX3_addPart_43 : decode cX3_addPart 43 = .ok (.aload_n 0, 1) := by decide +kernel
theorem dX3_addPart_44 : decode cX3_addPart 44 = .ok (.getfield 33, 3) := by decide +kernel
theorem dX3_addPart_47 : decode cX3_addPart 47 = .ok (.iconst 0, 1) := by decide +kernel
theorem dX3_addPart_48 : decode cX3_addPart 48 = .ok (.iastore, 1) := by decide +kernel
theorem dX3_addPart_49 : decode cX3_addPart 49 = .ok (.aload_n 0, 1) := by decide +kernel
theorem dX3_addPart_50 : decode cX3_addPart 50 = .ok (.dup, 1) := by decide +kernel
theorem dX3_addPart_51 : decode cX3_addPart 51 = .ok (.getfield 33, 3) := by decide +kernel
theorem dX3_addPart_54 : decode cX3_addPart 54 = .ok (.iconst 1, 1) := by decide +kernel
theorem dX3_addPart_55 : decode cX3_addPart 55 = .ok (.iadd, 1) := by decide +kernel
theorem dX3_addPart_56 : decode cX3_addPart 56 = .ok (.putfield 33, 3) := by decide +kernel
theorem dX3_addPart_59 : decode cX3_addPart 59 = .ok (.return_, 1) := by decide +kernel
theorem dX3_bind_0 : decode cX3_bind 0 = .ok (.aload_n 0, 1) := by decide +kernel
theorem dX3_bind_1 : decode cX3_bind 1 = .ok (.iload_n 1, 1) := by decide +kernel
theorem dX3_bind_2 : decode cX3_bind 2 = .ok (.invokevirtual 44, 3) := by decide +kernel
theorem dX3_bind_5 : decode cX3_bind 5 = .ok (.istore_n 3, 1) := by decide +kernel
theorem dX3_bind_6 : decode cX3_bind 6 = .ok (.aload_n 0, 1) := by decide +kernel
theorem dX3_bind_7 : decode cX3_bind 7 = .ok (.iload_n 2, 1) := by decide +kernel
theorem dX3_bind_8 : decode cX3_bind 8 = .ok (.invokevirtual 44, 3) := by decide +kernel
theorem dX3_bind_11 : decode cX3_bind 11 = .ok (.istore 4, 2) := by decide +kernel
theorem dX3_bind_13 : decode cX3_bind 13 = .ok (.iload_n 3, 1) := by decide +kernel
theorem dX3_bind_14 : decode cX3_bind 14 = .ok (.ifCond .lt 27, 3) := by decide +kernel
theorem dX3_bind_17 : decode cX3_bind 17 = .ok (.iload 4, 2) := by decide +kernel
theorem dX3_bind_19 : decode cX3_bind 19 = .ok (.ifCond .lt 22, 3) := by decide +kernel
theorem dX3_bind_22 : decode cX3_bind 22 = .ok (.iload_n 3, 1) := by decide +kernel
theorem dX3_bind_23 : decode cX3_bind 23 = .ok (.iload 4, 2) := by decide +kernel
theorem dX3_bind_25 : decode cX3_bind 25 = .ok (.if_icmp .eq 16, 3) := by decide +kernel
theorem dX3_bind_28 : decode cX3_bind 28 = .ok (.aload_n 0, 1) := by decide +kernel
theorem dX3_bind_29 : decode cX3_bind 29 = .ok (.getfield 21, 3) := by decide +kernel
theorem dX3_bind_32 : decode cX3_bind 32 = .ok (.iload 4, 2) := by decide +kernel
theorem dX3_bind_34 : decode cX3_bind 34 = .ok (.dup2, 1) := by decide +kernel
theorem dX3_bind_35 : decode cX3_bind 35 = .ok (.iaload, 1) := by decide +kernel
theorem dX3_bind_36 : decode cX3_bind 36 = .ok (.iconst 1, 1) := by decide +kernel
theorem dX3_bind_37 : decode cX3_bind 37 = .ok (.iload_n 3, 1) := by decide +kernel
theorem dX3_bind_38 : decode cX3_bind 38 = .ok (.ishl, 1) := by decide +kernel
theorem dX3_bind_39 : decode cX3_bind 39 = .ok (.ior, 1) := by decide +kernel
theorem dX3_bind_40 : decode cX3_bind 40 = .ok (.iastore, 1) := by decide +kernel
theorem dX3_bind_41 : decode cX3_bind 41 = .ok (.return_, 1) := by decide +kernel
theorem dX3_unitOf_0 : decode cX3_unitOf 0 = .ok (.iconst 0, 1) := by decide +kernel
theorem dX3_unitOf_1 : decode cX3_unitOf 1 = .ok (.istore_n 2, 1) := by decide +kernel
theorem dX3_unitOf_2 : decode cX3_unitOf 2 = .ok (.iload_n 2, 1) := by decide +kernel
theorem dX3_unitOf_3 : decode cX3_unitOf 3 = .ok (.aload_n 0, 1) := by decide +kernel
theorem dX3_unitOf_4 : decode cX3_unitOf 4 = .ok (.getfield 33, 3) := by decide +kernel
theorem dX3_unitOf_7 : decode cX3_unitOf 7 = .ok (.if_icmp .ge 38, 3) := by decide +kernel
theorem dX3_unitOf_10 : decode cX3_unitOf 10 = .ok (.iload_n 1, 1) := by decide +kernel
theorem dX3_unitOf_11 : decode cX3_unitOf 11 = .ok (.aload_n 0, 1) := by decide +kernel
theorem dX3_unitOf_12 : decode cX3_unitOf 12 = .ok (.getfield 15, 3) := by decide +kernel
theorem dX3_unitOf_15 : decode cX3_unitOf 15 = .ok (.iload_n 2, 1) := by decide +kernel
theorem dX3_unitOf_16 : decode cX3_unitOf 16 = .ok (.iaload, 1) := by decide +kernel
theorem dX3_unitOf_17 : decode cX3_unitOf 17 = .ok (.if_icmp .lt 22, 3) := by decide +kernel
theorem dX3_unitOf_20 : decode cX3_unitOf 20 = .ok (.iload_n 1, 1) := by decide +kernel
theorem dX3_unitOf_21 : decode cX3_unitOf 21 = .ok (.aload_n 0, 1) := by decide +kernel
theorem dX3_unitOf_22 : decode cX3_unitOf 22 = .ok (.getfield 15, 3) := by decide +kernel
theorem dX3_unitOf_25 : decode cX3_unitOf 25 = .ok (.iload_n 2, 1) := by decide +kernel
theorem dX3_unitOf_26 : decode cX3_unitOf 26 = .ok (.iaload, 1) := by decide +kernel
theorem dX3_unitOf_27 : decode cX3_unitOf 27 = .ok (.aload_n 0, 1) := by decide +kernel
theorem dX3_unitOf_28 : decode cX3_unitOf 28 = .ok (.getfield 18, 3) := by decide +kernel
theorem dX3_unitOf_31 : decode cX3_unitOf 31 = .ok (.iload_n 2, 1) := by decide +kernel
theorem dX3_unitOf_32 : decode cX3_unitOf 32 = .ok (.iaload, 1) := by decide +kernel
theorem dX3_unitOf_33 : decode cX3_unitOf 33 = .ok (.iadd, 1) := by decide +kernel
theorem dX3_unitOf_34 : decode cX3_unitOf 34 = .ok (.if_icmp .ge 5, 3) := by decide +kernel
theorem dX3_unitOf_37 : decode cX3_unitOf 37 = .ok (.iload_n 2, 1) := by decide +kernel
theorem dX3_unitOf_38 : decode cX3_unitOf 38 = .ok (.ireturn, 1) := by decide +kernel
theorem dX3_unitOf_39 : decode cX3_unitOf 39 = .ok (.iinc 2 1, 3) := by decide +kernel
theorem dX3_unitOf_42 : decode cX3_unitOf 42 = .ok (.goto (-40), 3) := by decide +kernel
theorem dX3_unitOf_45 : decode cX3_unitOf 45 = .ok (.iconst (-1), 1) := by decide +kernel
theorem dX3_unitOf_46 : decode cX3_unitOf 46 = .ok (.ireturn, 1) := by decide +kernel
theorem dX3_solve_0 : decode cX3_solve 0 = .ok (.iconst 1, 1) := by decide +kernel
theorem dX3_solve_1 : decode cX3_solve 1 = .ok (.aload_n 0, 1) := by decide +kernel
theorem dX3_solve_2 : decode cX3_solve 2 = .ok (.getfield 33, 3) := by decide +kernel
theorem dX3_solve_5 : decode cX3_solve 5 = .ok (.ishl, 1) := by decide +kernel
theorem dX3_solve_6 : decode cX3_solve 6 = .ok (.iconst 1, 1) := by decide +kernel
theorem dX3_solve_7 : decode cX3_solve 7 = .ok (.isub, 1) := by decide +kernel
theorem dX3_solve_8 : decode cX3_solve 8 = .ok (.istore_n 1, 1) := by decide +kernel
theorem dX3_solve_9 : decode cX3_solve 9 = .ok (.aload_n 0, 1) := by decide +kernel
theorem dX3_solve_10 : decode cX3_solve 10 = .ok (.getfield 24, 3) := by decide +kernel
theorem dX3_solve_13 : decode cX3_solve 13 = .ok (.iload_n 1, 1) := by decide +kernel
theorem dX3_solve_14 : decode cX3_solve 14 = .ok (.iconst 0, 1) := by decide +kernel
theorem dX3_solve_15 : decode cX3_solve 15 = .ok (.iastore, 1) := by decide +kernel
theorem dX3_solve_16 : decode cX3_solve 16 = .ok (.iload_n 1, 1) := by decide +kernel
theorem dX3_solve_17 : decode cX3_solve 17 = .ok (.iconst 1, 1) := by decide +kernel
theorem dX3_solve_18 : decode cX3_solve 18 = .ok (.isub, 1) := by decide +kernel
theorem dX3_solve_19 : decode cX3_solve 19 = .ok (.istore_n 2, 1) := by decide +kernel
theorem dX3_solve_20 : decode cX3_solve 20 = .ok (.iload_n 2, 1) := by decide +kernel
theorem dX3_solve_21 : decode cX3_solve 21 = .ok (.ifCond .lt 63, 3) := by decide +kernel
theorem dX3_solve_24 : decode cX3_solve 24 = .ok (.aload_n 0, 1) := by decide +kernel
theorem dX3_solve_25 : decode cX3_solve 25 = .ok (.getfield 24, 3) := by decide +kernel
theorem dX3_solve_28 : decode cX3_solve 28 = .ok (.iload_n 2, 1) := by decide +kernel
theorem dX3_solve_29 : decode cX3_solve 29 = .ok (.ldc 48, 2) := by decide +kernel
theorem dX3_solve_31 : decode cX3_solve 31 = .ok (.iastore, 1) := by decide +kernel
theorem dX3_solve_32 : decode cX3_solve 32 = .ok (.iconst 0, 1) := by decide +kernel
theorem dX3_solve_33 : decode cX3_solve 33 = .ok (.istore_n 3, 1) := by decide +kernel
theorem dX3_solve_34 : decode cX3_solve 34 = .ok (.iload_n 3, 1) := by decide +kernel
theorem dX3_solve_35 : decode cX3_solve 35 = .ok (.aload_n 0, 1) := by decide +kernel
theorem dX3_solve_36 : decode cX3_solve 36 = .ok (.getfield 33, 3) := by decide +kernel
theorem dX3_solve_39 : decode cX3_solve 39 = .ok (.if_icmp .ge 39, 3) := by decide +kernel
theorem dX3_solve_42 : decode cX3_solve 42 = .ok (.aload_n 0, 1) := by decide +kernel
theorem dX3_solve_43 : decode cX3_solve 43 = .ok (.iload_n 3, 1) := by decide +kernel
theorem dX3_solve_44 : decode cX3_solve 44 = .ok (.iload_n 2, 1) := by decide +kernel
theorem dX3_solve_45 : decode cX3_solve 45 = .ok (.invokevirtual 49, 3) := by decide +kernel
theorem dX3_solve_48 : decode cX3_solve 48 = .ok (.ifCond .eq 24, 3) := by decide +kernel
theorem dX3_solve_51 : decode cX3_solve 51 = .ok (.aload_n 0, 1) := by decide +kernel
theorem dX3_solve_52 : decode cX3_solve 52 = .ok (.getfield 24, 3) := by decide +kernel
theorem dX3_solve_55 : decode cX3_solve 55 = .ok (.iload_n 2, 1) := by decide +kernel
theorem dX3_solve_56 : decode cX3_solve 56 = .ok (.aload_n 0, 1) := by decide +kernel
theorem dX3_solve_57 : decode cX3_solve 57 = .ok (.getfield 24, 3) := by decide +kernel
theorem dX3_solve_60 : decode cX3_solve 60 = .ok (.iload_n 2, 1) := by decide +kernel
theorem dX3_solve_61 : decode cX3_solve 61 = .ok (.iaload, 1) := by decide +kernel
theorem dX3_solve_62 : decode cX3_solve 62 = .ok (.aload_n 0, 1) := by decide +kernel
theorem dX3_solve_63 : decode cX3_solve 63 = .ok (.iload_n 3, 1) := by decide +kernel
theorem dX3_solve_64 : decode cX3_solve 64 = .ok (.iload_n 2, 1) := by decide +kernel
theorem dX3_solve_65 : decode cX3_solve 65 = .ok (.invokevirtual 53, 3) := by decide +kernel
theorem dX3_solve_68 : decode cX3_solve 68 = .ok (.invokestatic 57, 3) := by decide +kernel
theorem dX3_solve_71 : decode cX3_solve 71 = .ok (.iastore, 1) := by decide +kernel
theorem dX3_solve_72 : decode cX3_solve 72 = .ok (.iinc 3 1, 3) := by decide +kernel
theorem dX3_solve_75 : decode cX3_solve 75 = .ok (.goto (-41), 3) := by decide +kernel
theorem dX3_solve_78 : decode cX3_solve 78 = .ok (.iinc 2 (-1), 3) := by decide +kernel
theorem dX3_solve_81 : decode cX3_solve 81 = .ok (.goto (-61), 3) := by decide +kernel
theorem dX3_solve_84 : decode cX3_solve 84 = .ok (.aload_n 0, 1) := by decide +kernel
theorem dX3_solve_85 : decode cX3_solve 85 = .ok (.getfield 24, 3) := by decide +kernel
theorem dX3_solve_88 : decode cX3_solve 88 = .ok (.iconst 0, 1) := by decide +kernel
theorem dX3_solve_89 : decode cX3_solve 89 = .ok (.iaload, 1) := by decide +kernel
theorem dX3_solve_90 : decode cX3_solve 90 = .ok (.ldc 48, 2) := by decide +kernel
theorem dX3_solve_92 : decode cX3_solve 92 = .ok (.if_icmp .lt 5, 3) := by decide +kernel
theorem dX3_solve_95 : decode cX3_solve 95 = .ok (.iconst 0, 1) := by decide +kernel
theorem dX3_solve_96 : decode cX3_solve 96 = .ok (.ireturn, 1) := by decide +kernel
theorem dX3_solve_97 : decode cX3_solve 97 = .ok (.aload_n 0, 1) := by decide +kernel
theorem dX3_solve_98 : decode cX3_solve 98 = .ok (.invokevirtual 62, 3) := by decide +kernel
theorem dX3_solve_101 : decode cX3_solve 101 = .ok (.iconst 1, 1) := by decide +kernel
theorem dX3_solve_102 : decode cX3_solve 102 = .ok (.ireturn, 1) := by decide +kernel
theorem dX3_chooseRow_0 : decode cX3_chooseRow 0 = .ok (.iconst 0, 1) := by decide +kernel
theorem dX3_chooseRow_1 : decode cX3_chooseRow 1 = .ok (.istore_n 1, 1) := by decide +kernel
theorem dX3_chooseRow_2 : decode cX3_chooseRow 2 = .ok (.iconst 0, 1) := by decide +kernel
theorem dX3_chooseRow_3 : decode cX3_chooseRow 3 = .ok (.istore_n 2, 1) := by decide +kernel
theorem dX3_chooseRow_4 : decode cX3_chooseRow 4 = .ok (.iload_n 2, 1) := by decide +kernel
theorem dX3_chooseRow_5 : decode cX3_chooseRow 5 = .ok (.aload_n 0, 1) := by decide +kernel
theorem dX3_chooseRow_6 : decode cX3_chooseRow 6 = .ok (.getfield 33, 3) := by decide +kernel
theorem dX3_chooseRow_9 : decode cX3_chooseRow 9 = .ok (.if_icmp .ge 64, 3) := by decide +kernel
theorem dX3_chooseRow_12 : decode cX3_chooseRow 12 = .ok (.iconst 0, 1) := by decide +kernel
theorem dX3_chooseRow_13 : decode cX3_chooseRow 13 = .ok (.istore_n 3, 1) := by decide +kernel
theorem dX3_chooseRow_14 : decode cX3_chooseRow 14 = .ok (.iload_n 3, 1) := by decide +kernel
theorem dX3_chooseRow_15 : decode cX3_chooseRow 15 = .ok (.aload_n 0, 1) := by decide +kernel
theorem dX3_chooseRow_16 : decode cX3_chooseRow 16 = .ok (.getfield 33, 3) := by decide +kernel
theorem dX3_chooseRow_19 : decode cX3_chooseRow 19 = .ok (.iconst 1, 1) := by decide +kernel
theorem dX3_chooseRow_20 : decode cX3_chooseRow 20 = .ok (.isub, 1) := by decide +kernel
theorem dX3_chooseRow_21 : decode cX3_chooseRow 21 = .ok (.if_icmp .ge 33, 3) := by decide +kernel
theorem dX3_chooseRow_24 : decode cX3_chooseRow 24 = .ok (.aload_n 0, 1) := by decide +kernel
theorem dX3_chooseRow_25 : decode cX3_chooseRow 25 = .ok (.iload_n 3, 1) := by decide +kernel
theorem dX3_chooseRow_26 : decode cX3_chooseRow 26 = .ok (.iload_n 1, 1) := by decide +kernel
theorem dX3_chooseRow_27 : decode cX3_chooseRow 27 = .ok (.invokevirtual 49, 3) := by decide +kernel
theorem dX3_chooseRow_30 : decode cX3_chooseRow 30 = .ok (.ifCond .eq 18, 3) := by decide +kernel
theorem dX3_chooseRow_33 : decode cX3_chooseRow 33 = .ok (.aload_n 0, 1) := by decide +kernel
theorem dX3_chooseRow_34 : decode cX3_chooseRow 34 = .ok (.iload_n 3, 1) := by decide +kernel
theorem dX3_chooseRow_35 : decode cX3_chooseRow 35 = .ok (.iload_n 1, 1) := by decide +kernel
theorem dX3_chooseRow_36 : decode cX3_chooseRow 36 = .ok (.invokevirtual 53, 3) := by decide +kernel
theorem dX3_chooseRow_39 : decode cX3_chooseRow 39 = .ok (.aload_n 0, 1) := by decide +kernel
theorem dX3_chooseRow_40 : decode cX3_chooseRow 40 = .ok (.getfield 24, 3) := by decide +kernel
theorem dX3_chooseRow_43 : decode cX3_chooseRow 43 = .ok (.iload_n 1, 1) := by decide +kernel
theorem dX3_chooseRow_44 : decode cX3_chooseRow 44 = .ok (.iaload, 1) := by decide +kernel
theorem dX3_chooseRow_45 : decode cX3_chooseRow 45 = .ok (.if_icmp .eq 9, 3) := by decide +kernel
theorem dX3_chooseRow_48 : decode cX3_chooseRow 48 = .ok (.iinc 3 1, 3) := by decide +kernel
theorem dX3_chooseRow_51 : decode cX3_chooseRow 51 = .ok (.goto (-37), 3) := by decide +kernel
theorem dX3_chooseRow_54 : decode cX3_chooseRow 54 = .ok (.aload_n 0, 1) := by decide +kernel
theorem dX3_chooseRow_55 : decode cX3_chooseRow 55 = .ok (.getfield 27, 3) := by decide +kernel
theorem dX3_chooseRow_58 : decode cX3_chooseRow 58 = .ok (.iload_n 2, 1) := by decide +kernel
theorem dX3_chooseRow_59 : decode cX3_chooseRow 59 = .ok (.iload_n 3, 1) := by decide +kernel
theorem dX3_chooseRow_60 : decode cX3_chooseRow 60 = .ok (.iastore, 1) := by decide +kernel
theorem dX3_chooseRow_61 : decode cX3_chooseRow 61 = .ok (.iload_n 1, 1) := by decide +kernel
theorem dX3_chooseRow_62 : decode cX3_chooseRow 62 = .ok (.iconst 1, 1) := by decide +kernel
theorem dX3_chooseRow_63 : decode cX3_chooseRow 63 = .ok (.iload_n 3, 1) := by decide +kernel
theorem dX3_chooseRow_64 : decode cX3_chooseRow 64 = .ok (.ishl, 1) := by decide +kernel
theorem dX3_chooseRow_65 : decode cX3_chooseRow 65 = .ok (.ior, 1) := by decide +kernel
theorem dX3_chooseRow_66 : decode cX3_chooseRow 66 = .ok (.istore_n 1, 1) := by decide +kernel
theorem dX3_chooseRow_67 : decode cX3_chooseRow 67 = .ok (.iinc 2 1, 3) := by decide +kernel
theorem dX3_chooseRow_70 : decode cX3_chooseRow 70 = .ok (.goto (-66), 3) := by decide +kernel
theorem dX3_chooseRow_73 : decode cX3_chooseRow 73 = .ok (.return_, 1) := by decide +kernel
theorem dX3_mayCome_0 : decode cX3_mayCome 0 = .ok (.iload_n 2, 1) := by decide +kernel
theorem dX3_mayCome_1 : decode cX3_mayCome 1 = .ok (.iload_n 1, 1) := by decide +kernel
theorem dX3_mayCome_2 : decode cX3_mayCome 2 = .ok (.ishr, 1) := by decide +kernel
theorem dX3_mayCome_3 : decode cX3_mayCome 3 = .ok (.iconst 1, 1) := by decide +kernel
theorem dX3_mayCome_4 : decode cX3_mayCome 4 = .ok (.iand, 1) := by decide +kernel
theorem dX3_mayCome_5 : decode cX3_mayCome 5 = .ok (.ifCond .ne 20, 3) := by decide +kernel
theorem dX3_mayCome_8 : decode cX3_mayCome 8 = .ok (.aload_n 0, 1) := by decide +kernel
theorem dX3_mayCome_9 : decode cX3_mayCome 9 = .ok (.getfield 21, 3) := by decide +kernel
theorem dX3_mayCome_12 : decode cX3_mayCome 12 = .ok (.iload_n 1, 1) := by decide +kernel
theorem dX3_mayCome_13 : decode cX3_mayCome 13 = .ok (.iaload, 1) := by decide +kernel
theorem dX3_mayCome_14 : decode cX3_mayCome 14 = .ok (.iload_n 2, 1) := by decide +kernel
theorem dX3_mayCome_15 : decode cX3_mayCome 15 = .ok (.iconst (-1), 1) := by decide +kernel
theorem dX3_mayCome_16 : decode cX3_mayCome 16 = .ok (.ixor, 1) := by decide +kernel
theorem dX3_mayCome_17 : decode cX3_mayCome 17 = .ok (.iand, 1) := by decide +kernel
theorem dX3_mayCome_18 : decode cX3_mayCome 18 = .ok (.ifCond .ne 7, 3) := by decide +kernel
theorem dX3_mayCome_21 : decode cX3_mayCome 21 = .ok (.iconst 1, 1) := by decide +kernel
theorem dX3_mayCome_22 : decode cX3_mayCome 22 = .ok (.goto 4, 3) := by decide +kernel
theorem dX3_mayCome_25 : decode cX3_mayCome 25 = .ok (.iconst 0, 1) := by decide +kernel
theorem dX3_mayCome_26 : decode cX3_mayCome 26 = .ok (.ireturn, 1) := by decide +kernel
theorem dX3_costWith_0 : decode cX3_costWith 0 = .ok (.ldc 48, 2) := by decide +kernel
theorem dX3_costWith_2 : decode cX3_costWith 2 = .ok (.aload_n 0, 1) := by decide +kernel
theorem dX3_costWith_3 : decode cX3_costWith 3 = .ok (.iload_n 1, 1) := by decide +kernel
theorem dX3_costWith_4 : decode cX3_costWith 4 = .ok (.iload_n 2, 1) := by decide +kernel
theorem dX3_costWith_5 : decode cX3_costWith 5 = .ok (.invokevirtual 65, 3) := by decide +kernel
theorem dX3_costWith_8 : decode cX3_costWith 8 = .ok (.aload_n 0, 1) := by decide +kernel
theorem dX3_costWith_9 : decode cX3_costWith 9 = .ok (.getfield 24, 3) := by decide +kernel
theorem dX3_costWith_12 : decode cX3_costWith 12 = .ok (.iload_n 2, 1) := by decide +kernel
theorem dX3_costWith_13 : decode cX3_costWith 13 = .ok (.iconst 1, 1) := by decide +kernel
theorem dX3_costWith_14 : decode cX3_costWith 14 = .ok (.iload_n 1, 1) := by decide +kernel
theorem dX3_costWith_15 : decode cX3_costWith 15 = .ok (.ishl, 1) := by decide +kernel
theorem dX3_costWith_16 : decode cX3_costWith 16 = .ok (.ior, 1) := by decide +kernel
theorem dX3_costWith_17 : decode cX3_costWith 17 = .ok (.iaload, 1) := by decide +kernel
theorem dX3_costWith_18 : decode cX3_costWith 18 = .ok (.iadd, 1) := by decide +kernel
theorem dX3_costWith_19 : decode cX3_costWith 19 = .ok (.invokestatic 57, 3) := by decide +kernel
theorem dX3_costWith_22 : decode cX3_costWith 22 = .ok (.ireturn, 1) := by decide +kernel
theorem dX3_stepCost_0 : decode cX3_stepCost 0 = .ok (.iload_n 1, 1) := by decide +kernel
theorem dX3_stepCost_1 : decode cX3_stepCost 1 = .ok (.aload_n 0, 1) := by decide +kernel
theorem dX3_stepCost_2 : decode cX3_stepCost 2 = .ok (.getfield 37, 3) := by decide +kernel
theorem dX3_stepCost_5 : decode cX3_stepCost 5 = .ok (.if_icmp .ne 5, 3) := by decide +kernel
theorem dX3_stepCost_8 : decode cX3_stepCost 8 = .ok (.iconst 0, 1) := by decide +kernel
theorem dX3_stepCost_9 : decode cX3_stepCost 9 = .ok (.ireturn, 1) := by decide +kernel
theorem dX3_stepCost_10 : decode cX3_stepCost 10 = .ok (.iload_n 2, 1) := by decide +kernel
theorem dX3_stepCost_11 : decode cX3_stepCost 11 = .ok (.invokestatic 68, 3) := by decide +kernel
theorem dX3_stepCost_14 : decode cX3_stepCost 14 = .ok (.istore_n 3, 1) := by decide +kernel
theorem dX3_stepCost_15 : decode cX3_stepCost 15 = .ok (.aload_n 0, 1) := by decide +kernel
theorem dX3_stepCost_16 : decode cX3_stepCost 16 = .ok (.getfield 9, 3) := by decide +kernel
theorem dX3_stepCost_19 : decode cX3_stepCost 19 = .ok (.iload_n 1, 1) := by decide +kernel
theorem dX3_stepCost_20 : decode cX3_stepCost 20 = .ok (.iaload, 1) := by decide +kernel
theorem dX3_stepCost_21 : decode cX3_stepCost 21 = .ok (.aload_n 0, 1) := by decide +kernel
theorem dX3_stepCost_22 : decode cX3_stepCost 22 = .ok (.getfield 15, 3) := by decide +kernel
theorem dX3_stepCost_25 : decode cX3_stepCost 25 = .ok (.iload_n 1, 1) := by decide +kernel
theorem dX3_stepCost_26 : decode cX3_stepCost 26 = .ok (.iaload, 1) := by decide +kernel
theorem dX3_stepCost_27 : decode cX3_stepCost 27 = .ok (.isub, 1) := by decide +kernel
theorem dX3_stepCost_28 : decode cX3_stepCost 28 = .ok (.istore 4, 2) := by decide +kernel
theorem dX3_stepCost_30 : decode cX3_stepCost 30 = .ok (.iload_n 2, 1) := by decide +kernel
theorem dX3_stepCost_31 : decode cX3_stepCost 31 = .ok (.aload_n 0, 1) := by decide +kernel
theorem dX3_stepCost_32 : decode cX3_stepCost 32 = .ok (.getfield 37, 3) := by decide +kernel
theorem dX3_stepCost_35 : decode cX3_stepCost 35 = .ok (.ishr, 1) := by decide +kernel
theorem dX3_stepCost_36 : decode cX3_stepCost 36 = .ok (.iconst 1, 1) := by decide +kernel
theorem dX3_stepCost_37 : decode cX3_stepCost 37 = .ok (.iand, 1) := by decide +kernel
theorem dX3_stepCost_38 : decode cX3_stepCost 38 = .ok (.ifCond .ne 22, 3) := by decide +kernel
theorem dX3_stepCost_41 : decode cX3_stepCost 41 = .ok (.aload_n 0, 1) := by decide +kernel
theorem dX3_stepCost_42 : decode cX3_stepCost 42 = .ok (.getfield 18, 3) := by decide +kernel
theorem dX3_stepCost_45 : decode cX3_stepCost 45 = .ok (.iload_n 1, 1) := by decide +kernel
theorem dX3_stepCost_46 : decode cX3_stepCost 46 = .ok (.iaload, 1) := by decide +kernel
theorem dX3_stepCost_47 : decode cX3_stepCost 47 = .ok (.iload 4, 2) := by decide +kernel
theorem dX3_stepCost_49 : decode cX3_stepCost 49 = .ok (.isub, 1) := by decide +kernel
theorem dX3_stepCost_50 : decode cX3_stepCost 50 = .ok (.aload_n 0, 1) := by decide +kernel
theorem dX3_stepCost_51 : decode cX3_stepCost 51 = .ok (.getfield 18, 3) := by decide +kernel
theorem dX3_stepCost_54 : decode cX3_stepCost 54 = .ok (.iload_n 1, 1) := by decide +kernel
theorem dX3_stepCost_55 : decode cX3_stepCost 55 = .ok (.iaload, 1) := by decide +kernel
theorem dX3_stepCost_56 : decode cX3_stepCost 56 = .ok (.iload_n 3, 1) := by decide +kernel
theorem dX3_stepCost_57 : decode cX3_stepCost 57 = .ok (.imul, 1) := by decide +kernel
theorem dX3_stepCost_58 : decode cX3_stepCost 58 = .ok (.iadd, 1) := by decide +kernel
theorem dX3_stepCost_59 : decode cX3_stepCost 59 = .ok (.ireturn, 1) := by decide +kernel
theorem dX3_stepCost_60 : decode cX3_stepCost 60 = .ok (.iload 4, 2) := by decide +kernel
theorem dX3_stepCost_62 : decode cX3_stepCost 62 = .ok (.iconst 1, 1) := by decide +kernel
theorem dX3_stepCost_63 : decode cX3_stepCost 63 = .ok (.iadd, 1) := by decide +kernel
theorem dX3_stepCost_64 : decode cX3_stepCost 64 = .ok (.aload_n 0, 1) := by decide +kernel
theorem dX3_stepCost_65 : decode cX3_stepCost 65 = .ok (.getfield 18, 3) := by decide +kernel
theorem dX3_stepCost_68 : decode cX3_stepCost 68 = .ok (.iload_n 1, 1) := by decide +kernel
theorem dX3_stepCost_69 : decode cX3_stepCost 69 = .ok (.iaload, 1) := by decide +kernel
theorem dX3_stepCost_70 : decode cX3_stepCost 70 = .ok (.aload_n 0, 1) := by decide +kernel
theorem dX3_stepCost_71 : decode cX3_stepCost 71 = .ok (.getfield 33, 3) := by decide +kernel
theorem dX3_stepCost_74 : decode cX3_stepCost 74 = .ok (.iload_n 3, 1) := by decide +kernel
theorem dX3_stepCost_75 : decode cX3_stepCost 75 = .ok (.isub, 1) := by decide +kernel
theorem dX3_stepCost_76 : decode cX3_stepCost 76 = .ok (.iconst 1, 1) := by decide +kernel
theorem dX3_stepCost_77 : decode cX3_stepCost 77 = .ok (.isub, 1) := by decide +kernel
theorem dX3_stepCost_78 : decode cX3_stepCost 78 = .ok (.imul, 1) := by decide +kernel
theorem dX3_stepCost_79 : decode cX3_stepCost 79 = .ok (.iadd, 1) := by decide +kernel
theorem dX3_stepCost_80 : decode cX3_stepCost 80 = .ok (.ireturn, 1) := by decide +kernel
theorem dX3_leastCost_0 : decode cX3_leastCost 0 = .ok (.aload_n 0, 1) := by decide +kernel
theorem dX3_leastCost_1 : decode cX3_leastCost 1 = .ok (.getfield 24, 3) := by decide +kernel
theorem dX3_leastCost_4 : decode cX3_leastCost 4 = .ok (.iconst 0, 1) := by decide +kernel
theorem dX3_leastCost_5 : decode cX3_leastCost 5 = .ok (.iaload, 1) := by decide +kernel
theorem dX3_leastCost_6 : decode cX3_leastCost 6 = .ok (.ireturn, 1) := by decide +kernel
theorem dX3_keepRow_0 : decode cX3_keepRow 0 = .ok (.iconst 0, 1) := by decide +kernel
theorem dX3_keepRow_1 : decode cX3_keepRow 1 = .ok (.istore_n 1, 1) := by decide +kernel
theorem dX3_keepRow_2 : decode cX3_keepRow 2 = .ok (.iload_n 1, 1) := by decide +kernel
theorem dX3_keepRow_3 : decode cX3_keepRow 3 = .ok (.aload_n 0, 1) := by decide +kernel
theorem dX3_keepRow_4 : decode cX3_keepRow 4 = .ok (.getfield 33, 3) := by decide +kernel
theorem dX3_keepRow_7 : decode cX3_keepRow 7 = .ok (.if_icmp .ge 26, 3) := by decide +kernel
theorem dX3_keepRow_10 : decode cX3_keepRow 10 = .ok (.aload_n 0, 1) := by decide +kernel
theorem dX3_keepRow_11 : decode cX3_keepRow 11 = .ok (.getfield 30, 3) := by decide +kernel
theorem dX3_keepRow_14 : decode cX3_keepRow 14 = .ok (.iload_n 1, 1) := by decide +kernel
theorem dX3_keepRow_15 : decode cX3_keepRow 15 = .ok (.aload_n 0, 1) := by decide +kernel
theorem dX3_keepRow_16 : decode cX3_keepRow 16 = .ok (.getfield 9, 3) := by decide +kernel
theorem dX3_keepRow_19 : decode cX3_keepRow 19 = .ok (.aload_n 0, 1) := by decide +kernel
theorem dX3_keepRow_20 : decode cX3_keepRow 20 = .ok (.getfield 27, 3) := by decide +kernel
theorem dX3_keepRow_23 : decode cX3_keepRow 23 = .ok (.iload_n 1, 1) := by decide +kernel
theorem dX3_keepRow_24 : decode cX3_keepRow 24 = .ok (.iaload, 1) := by decide +kernel
theorem dX3_keepRow_25 : decode cX3_keepRow 25 = .ok (.iaload, 1) := by decide +kernel
theorem dX3_keepRow_26 : decode cX3_keepRow 26 = .ok (.iastore, 1) := by decide +kernel
theorem dX3_keepRow_27 : decode cX3_keepRow 27 = .ok (.iinc 1 1, 3) := by decide +kernel
theorem dX3_keepRow_30 : decode cX3_keepRow 30 = .ok (.goto (-28), 3) := by decide +kernel
theorem dX3_keepRow_33 : decode cX3_keepRow 33 = .ok (.aload_n 0, 1) := by decide +kernel
theorem dX3_keepRow_34 : decode cX3_keepRow 34 = .ok (.aload_n 0, 1) := by decide +kernel
theorem dX3_keepRow_35 : decode cX3_keepRow 35 = .ok (.getfield 33, 3) := by decide +kernel
theorem dX3_keepRow_38 : decode cX3_keepRow 38 = .ok (.putfield 73, 3) := by decide +kernel
theorem dX3_keepRow_41 : decode cX3_keepRow 41 = .ok (.return_, 1) := by decide +kernel
theorem dX4_init_0 : decode cX4_init 0 = .ok (.aload_n 0, 1) := by decide +kernel
theorem dX4_init_1 : decode cX4_init 1 = .ok (.invokespecial 3, 3) := by decide +kernel
theorem dX4_init_4 : decode cX4_init 4 = .ok (.aload_n 0, 1) := by decide +kernel
theorem dX4_init_5 : decode cX4_init 5 = .ok (.bipush 20, 2) := by decide +kernel
theorem dX4_init_7 : decode cX4_init 7 = .ok (.newarray .int, 2) := by decide +kernel
theorem dX4_init_9 : decode cX4_init 9 = .ok (.putfield 9, 3) := by decide +kernel
theorem dX4_init_12 : decode cX4_init 12 = .ok (.aload_n 0, 1) := by decide +kernel
theorem dX4_init_13 : decode cX4_init 13 = .ok (.bipush 20, 2) := by decide +kernel
theorem dX4_init_15 : decode cX4_init 15 = .ok (.newarray .int, 2) := by decide +kernel
theorem dX4_init_17 : decode cX4_init 17 = .ok (.putfield 15, 3) := by decide +kernel
theorem dX4_init_20 : decode cX4_init 20 = .ok (.return_, 1) := by decide +kernel
theorem dX4_has_0 : decode cX4_has 0 = .ok (.iconst 0, 1) := by decide +kernel
theorem dX4_has_1 : decode cX4_has 1 = .ok (.istore_n 3, 1) := by decide +kernel
theorem dX4_has_2 : decode cX4_has 2 = .ok (.iload_n 3, 1) := by decide +kernel
theorem dX4_has_3 : decode cX4_has 3 = .ok (.aload_n 0, 1) := by decide +kernel
theorem dX4_has_4 : decode cX4_has 4 = .ok (.getfield 18, 3) := by decide +kernel
theorem dX4_has_7 : decode cX4_has 7 = .ok (.if_icmp .ge 31, 3) := by decide +kernel
theorem dX4_has_10 : decode cX4_has 10 = .ok (.aload_n 0, 1) := by decide +kernel
theorem dX4_has_11 : decode cX4_has 11 = .ok (.getfield 9, 3) := by decide +kernel
theorem dX4_has_14 : decode cX4_has 14 = .ok (.iload_n 3, 1) := by decide +kernel
theorem dX4_has_15 : decode cX4_has 15 = .ok (.iaload, 1) := by decide +kernel
theorem dX4_has_16 : decode cX4_has 16 = .ok (.iload_n 1, 1) := by decide +kernel
theorem dX4_has_17 : decode cX4_has 17 = .ok (.if_icmp .ne 15, 3) := by decide +kernel
theorem dX4_has_20 : decode cX4_has 20 = .ok (.aload_n 0, 1) := by decide +kernel
theorem dX4_has_21 : decode cX4_has 21 = .ok (.getfield 15, 3) := by decide +kernel
theorem dX4_has_24 : decode cX4_has 24 = .ok (.iload_n 3, 1) := by decide +kernel
theorem dX4_has_25 : decode cX4_has 25 = .ok (.iaload, 1) := by decide +kernel
theorem dX4_has_26 : decode cX4_has 26 = .ok (.iload_n 2, 1) := by decide +kernel
theorem dX4_has_27 : decode cX4_has 27 = .ok (.if_icmp .ne 5, 3) := by decide +kernel
theorem dX4_has_30 : decode cX4_has 30 = .ok (.iconst 1, 1) := by decide +kernel
theorem dX4_has_31 : decode cX4_has 31 = .ok (.ireturn, 1) := by decide +kernel
theorem dX4_has_32 : decode cX4_has 32 = .ok (.iinc 3 1, 3) := by decide +kernel
theorem dX4_has_35 : decode cX4_has 35 = .ok (.goto (-33), 3) := by decide +kernel
theorem dX4_has_38 : decode cX4_has 38 = .ok (.iconst 0, 1) := by decide +kernel
theorem dX4_has_39 : decode cX4_has 39 = .ok (.ireturn, 1) := by decide +kernel
theorem dX4_add_0 : decode cX4_add 0 = .ok (.aload_n 0, 1) := by decide +kernel
theorem dX4_add_1 : decode cX4_add 1 = .ok (.getfield 18, 3) := by decide +kernel
theorem dX4_add_4 : decode cX4_add 4 = .ok (.bipush 20, 2) := by decide +kernel
theorem dX4_add_6 : decode cX4_add 6 = .ok (.if_icmp .ge 33, 3) := by decide +kernel
theorem dX4_add_9 : decode cX4_add 9 = .ok (.aload_n 0, 1) := by decide +kernel
theorem dX4_add_10 : decode cX4_add 10 = .ok (.getfield 9, 3) := by decide +kernel
theorem dX4_add_13 : decode cX4_add 13 = .ok (.aload_n 0, 1) := by decide +kernel
theorem dX4_add_14 : decode cX4_add 14 = .ok (.getfield 18, 3) := by decide +kernel
theorem dX4_add_17 : decode cX4_add 17 = .ok (.iload_n 1, 1) := by decide +kernel
theorem dX4_add_18 : decode cX4_add 18 = .ok (.iastore, 1) := by decide +kernel
theorem dX4_add_19 : decode cX4_add 19 = .ok (.aload_n 0, 1) := by decide +kernel
theorem dX4_add_20 : decode cX4_add 20 = .ok (.getfield 15, 3) := by decide +kernel
theorem dX4_add_23 : decode cX4_add 23 = .ok (.aload_n 0, 1) := by decide +kernel
theorem dX4_add_24 : decode cX4_add 24 = .ok (.getfield 18, 3) := by decide +kernel
theorem dX4_add_27 : decode cX4_add 27 = .ok (.iload_n 2, 1) := by decide +kernel
theorem dX4_add_28 : decode cX4_add 28 = .ok (.iastore, 1) := by decide +kernel
theorem dX4_add_29 : decode cX4_add 29 = .ok (.aload_n 0, 1) := by decide +kernel
theorem dX4_add_30 : decode cX4_add 30 = .ok (.dup, 1) := by decide +kernel
theorem dX4_add_31 : decode cX4_add 31 = .ok (.getfield 18, 3) := by decide +kernel
theorem dX4_add_34 : decode cX4_add 34 = .ok (.iconst 1, 1) := by decide +kernel
theorem dX4_add_35 : decode cX4_add 35 = .ok (.iadd, 1) := by decide +kernel
theorem dX4_add_36 : decode cX4_add 36 = .ok (.putfield 18, 3) := by decide +kernel
theorem dX4_add_39 : decode cX4_add 39 = .ok (.return_, 1) := by decide +kernel
theorem dX4_mustBeAhead_0 : decode cX4_mustBeAhead 0 = .ok (.iconst 1, 1) := by decide +kernel
theorem dX4_mustBeAhead_1 : decode cX4_mustBeAhead 1 = .ok (.iload_n 1, 1) := by decide +kernel
theorem dX4_mustBeAhead_2 : decode cX4_mustBeAhead 2 = .ok (.ishl, 1) := by decide +kernel
theorem dX4_mustBeAhead_3 : decode cX4_mustBeAhead 3 = .ok (.istore_n 3, 1) := by decide +kernel
theorem dX4_mustBeAhead_4 : decode cX4_mustBeAhead 4 = .ok (.iconst 0, 1) := by decide +kernel
theorem dX4_mustBeAhead_5 : decode cX4_mustBeAhead 5 = .ok (.istore 4, 2) := by decide +kernel
theorem dX4_mustBeAhead_7 : decode cX4_mustBeAhead 7 = .ok (.iload 4, 2) := by decide +kernel
theorem dX4_mustBeAhead_9 : decode cX4_mustBeAhead 9 = .ok (.aload_n 0, 1) := by decide +kernel
theorem dX4_mustBeAhead_10 : decode cX4_mustBeAhead 10 = .ok (.getfield 18, 3) := by decide +kernel
theorem dX4_mustBeAhead_13 : decode cX4_mustBeAhead 13 = .ok (.if_icmp .ge 53, 3) := by decide +kernel
theorem dX4_mustBeAhead_16 : decode cX4_mustBeAhead 16 = .ok (.iconst 0, 1) := by decide +kernel
theorem dX4_mustBeAhead_17 : decode cX4_mustBeAhead 17 = .ok (.istore 5, 2) := by decide +kernel
theorem dX4_mustBeAhead_19 : decode cX4_mustBeAhead 19 = .ok (.iload 5, 2) := by decide +kernel
theorem dX4_mustBeAhead_21 : decode cX4_mustBeAhead 21 = .ok (.aload_n 0, 1) := by decide +kernel
theorem dX4_mustBeAhead_22 : decode cX4_mustBeAhead 22 = .ok (.getfield 18, 3) := by decide +kernel
theorem dX4_mustBeAhead_25 : decode cX4_mustBeAhead 25 = .ok (.if_icmp .ge 35, 3) := by decide +kernel
theorem dX4_mustBeAhead_28 : decode cX4_mustBeAhead 28 = .ok (.iload_n 3, 1) := by decide +kernel
theorem dX4_mustBeAhead_29 : decode cX4_mustBeAhead 29 = .ok (.aload_n 0, 1) := by decide +kernel
theorem dX4_mustBeAhead_30 : decode cX4_mustBeAhead 30 = .ok (.getfield 9, 3) := by decide +kernel
theorem dX4_mustBeAhead_33 : decode cX4_mustBeAhead 33 = .ok (.iload 5, 2) := by decide +kernel
theorem dX4_mustBeAhead_35 : decode cX4_mustBeAhead 35 = .ok (.iaload, 1) := by decide +kernel
theorem dX4_mustBeAhead_36 : decode cX4_mustBeAhead 36 = .ok (.ishr, 1) := by decide +kernel
theorem dX4_mustBeAhead_37 : decode cX4_mustBeAhead 37 = .ok (.iconst 1, 1) := by decide +kernel
theorem dX4_mustBeAhead_38 : decode cX4_mustBeAhead 38 = .ok (.iand, 1) := by decide +kernel
theorem dX4_mustBeAhead_39 : decode cX4_mustBeAhead 39 = .ok (.ifCond .eq 15, 3) := by decide +kernel
theorem dX4_mustBeAhead_42 : decode cX4_mustBeAhead 42 = .ok (.iload_n 3, 1) := by decide +kernel
theorem dX4_mustBeAhead_43 : decode cX4_mustBeAhead 43 = .ok (.iconst 1, 1) := by decide +kernel
theorem dX4_mustBeAhead_44 : decode cX4_mustBeAhead 44 = .ok (.aload_n 0, 1) := by decide +kernel
theorem dX4_mustBeAhead_45 : decode cX4_mustBeAhead 45 = .ok (.getfield 15, 3) := by decide +kernel
theorem dX4_mustBeAhead_48 : decode cX4_mustBeAhead 48 = .ok (.iload 5, 2) := by decide +kernel
theorem dX4_mustBeAhead_50 : decode cX4_mustBeAhead 50 = .ok (.iaload, 1) := by decide +kernel
theorem dX4_mustBeAhead_51 : decode cX4_mustBeAhead 51 = .ok (.ishl, 1) := by decide +kernel
theorem dX4_mustBeAhead_52 : decode cX4_mustBeAhead 52 = .ok (.ior, 1) := by decide +kernel
theorem dX4_mustBeAhead_53 : decode cX4_mustBeAhead 53 = .ok (.istore_n 3, 1) := by decide +kernel
theorem dX4_mustBeAhead_54 : decode cX4_mustBeAhead 54 = .ok (.iinc 5 1, 3) := by decide +kernel
theorem dX4_mustBeAhead_57 : decode cX4_mustBeAhead 57 = .ok (.goto (-38), 3) := by decide +kernel
theorem dX4_mustBeAhead_60 : decode cX4_mustBeAhead 60 = .ok (.iinc 4 1, 3) := by decide +kernel
theorem dX4_mustBeAhead_63 : decode cX4_mustBeAhead 63 = .ok (.goto (-56), 3) := by decide +kernel
theorem dX4_mustBeAhead_66 : decode cX4_mustBeAhead 66 = .ok (.iload_n 3, 1) := by decide +kernel
theorem dX4_mustBeAhead_67 : decode cX4_mustBeAhead 67 = .ok (.iload_n 2, 1) := by decide +kernel
theorem dX4_mustBeAhead_68 : decode cX4_mustBeAhead 68 = .ok (.ishr, 1) := by decide +kernel
theorem dX4_mustBeAhead_69 : decode cX4_mustBeAhead 69 = .ok (.iconst 1, 1) := by decide +kernel
theorem dX4_mustBeAhead_70 : decode cX4_mustBeAhead 70 = .ok (.iand, 1) := by decide +kernel
theorem dX4_mustBeAhead_71 : decode cX4_mustBeAhead 71 = .ok (.ifCond .eq 7, 3) := by decide +kernel
theorem dX4_mustBeAhead_74 : decode cX4_mustBeAhead 74 = .ok (.iconst 1, 1) := by decide +kernel
theorem dX4_mustBeAhead_75 : decode cX4_mustBeAhead 75 = .ok (.goto 4, 3) := by decide +kernel
theorem dX4_mustBeAhead_78 : decode cX4_mustBeAhead 78 = .ok (.iconst 0, 1) := by decide +kernel
theorem dX4_mustBeAhead_79 : decode cX4_mustBeAhead 79 = .ok (.ireturn, 1) := by decide +kernel
theorem dX5_init_0 : decode cX5_init 0 = .ok (.aload_n 0, 1) := by decide +kernel
theorem dX5_init_1 : decode cX5_init 1 = .ok (.invokespecial 3, 3) := by decide +kernel
theorem dX5_init_4 : decode cX5_init 4 = .ok (.aload_n 0, 1) := by decide +kernel
theorem dX5_init_5 : decode cX5_init 5 = .ok (.bipush 24, 2) := by decide +kernel
theorem dX5_init_7 : decode cX5_init 7 = .ok (.newarray .int, 2) := by decide +kernel
theorem dX5_init_9 : decode cX5_init 9 = .ok (.putfield 9, 3) := by decide +kernel
theorem dX5_init_12 : decode cX5_init 12 = .ok (.aload_n 0, 1) := by decide +kernel
theorem dX5_init_13 : decode cX5_init 13 = .ok (.bipush 24, 2) := by decide +kernel
theorem dX5_init_15 : decode cX5_init 15 = .ok (.newarray .int, 2) := by decide +kernel
theorem dX5_init_17 : decode cX5_init 17 = .ok (.putfield 15, 3) := by decide +kernel
theorem dX5_init_20 : decode cX5_init 20 = .ok (.return_, 1) := by decide +kernel
theorem dX5_reset_0 : decode cX5_reset 0 = .ok (.aload_n 0, 1) := by decide +kernel
theorem dX5_reset_1 : decode cX5_reset 1 = .ok (.iload_n 1, 1) := by decide +kernel
theorem dX5_reset_2 : decode cX5_reset 2 = .ok (.bipush 24, 2) := by decide +kernel
theorem dX5_reset_4 : decode cX5_reset 4 = .ok (.invokestatic 18, 3) := by decide +kernel
theorem dX5_reset_7 : decode cX5_reset 7 = .ok (.putfield 24, 3) := by decide +kernel
theorem dX5_reset_10 : decode cX5_reset 10 = .ok (.iconst 0, 1) := by decide +kernel
theorem dX5_reset_11 : decode cX5_reset 11 = .ok (.istore_n 2, 1) := by decide +kernel
theorem dX5_reset_12 : decode cX5_reset 12 = .ok (.iload_n 2, 1) := by decide +kernel
theorem dX5_reset_13 : decode cX5_reset 13 = .ok (.aload_n 0, 1) := by decide +kernel
theorem dX5_reset_14 : decode cX5_reset 14 = .ok (.getfield 24, 3) := by decide +kernel
theorem dX5_reset_17 : decode cX5_reset 17 = .ok (.if_icmp .ge 16, 3) := by decide +kernel
theorem dX5_reset_20 : decode cX5_reset 20 = .ok (.aload_n 0, 1) := by decide +kernel
theorem dX5_reset_21 : decode cX5_reset 21 = .ok (.getfield 9, 3) := by decide +kernel
theorem dX5_reset_24 : decode cX5_reset 24 = .ok (.iload_n 2, 1) := by decide +kernel
theorem dX5_reset_25 : decode cX5_reset 25 = .ok (.iload_n 2, 1) := by decide +kernel
theorem dX5_reset_26 : decode cX5_reset 26 = .ok (.iastore, 1) := by decide +kernel
theorem dX5_reset_27 : decode cX5_reset 27 = .ok (.iinc 2 1, 3) := by decide +kernel
theorem dX5_reset_30 : decode cX5_reset 30 = .ok (.goto (-18), 3) := by decide +kernel
theorem dX5_reset_33 : decode cX5_reset 33 = .ok (.return_, 1) := by decide +kernel
theorem dX5_placeOf_0 : decode cX5_placeOf 0 = .ok (.iconst 0, 1) := by decide +kernel
theorem dX5_placeOf_1 : decode cX5_placeOf 1 = .ok (.istore_n 2, 1) := by decide +kernel
theorem dX5_placeOf_2 : decode cX5_placeOf 2 = .ok (.iload_n 2, 1) := by decide +kernel
theorem dX5_placeOf_3 : decode cX5_placeOf 3 = .ok (.aload_n 0, 1) := by decide +kernel
theorem dX5_placeOf_4 : decode cX5_placeOf 4 = .ok (.getfield 24, 3) := by decide +kernel
theorem dX5_placeOf_7 : decode cX5_placeOf 7 = .ok (.if_icmp .ge 21, 3) := by decide +kernel
theorem dX5_placeOf_10 : decode cX5_placeOf 10 = .ok (.aload_n 0, 1) := by decide +kernel
theorem dX5_placeOf_11 : decode cX5_placeOf 11 = .ok (.getfield 9, 3) := by decide +kernel
theorem dX5_placeOf_14 : decode cX5_placeOf 14 = .ok (.iload_n 2, 1) := by decide +kernel
theorem dX5_placeOf_15 : decode cX5_placeOf 15 = .ok (.iaload, 1) := by decide +kernel
theorem dX5_placeOf_16 : decode cX5_placeOf 16 = .ok (.iload_n 1, 1) := by decide +kernel
theorem dX5_placeOf_17 : decode cX5_placeOf 17 = .ok (.if_icmp .ne 5, 3) := by decide +kernel
theorem dX5_placeOf_20 : decode cX5_placeOf 20 = .ok (.iload_n 2, 1) := by decide +kernel
theorem dX5_placeOf_21 : decode cX5_placeOf 21 = .ok (.ireturn, 1) := by decide +kernel
theorem dX5_placeOf_22 : decode cX5_placeOf 22 = .ok (.iinc 2 1, 3) := by decide +kernel
theorem dX5_placeOf_25 : decode cX5_placeOf 25 = .ok (.goto (-23), 3) := by decide +kernel
theorem dX5_placeOf_28 : decode cX5_placeOf 28 = .ok (.iconst (-1), 1) := by decide +kernel
theorem dX5_placeOf_29 : decode cX5_placeOf 29 = .ok (.ireturn, 1) := by decide +kernel
theorem dX5_start_0 : decode cX5_start 0 = .ok (.aload_n 0, 1) := by decide +kernel
theorem dX5_start_1 : decode cX5_start 1 = .ok (.getfield 9, 3) := by decide +kernel
theorem dX5_start_4 : decode cX5_start 4 = .ok (.iconst 0, 1) := by decide +kernel
theorem dX5_start_5 : decode cX5_start 5 = .ok (.aload_n 0, 1) := by decide +kernel
theorem dX5_start_6 : decode cX5_start 6 = .ok (.getfield 15, 3) := by decide +kernel
theorem dX5_start_9 : decode cX5_start 9 = .ok (.iconst 0, 1) := by decide +kernel
theorem dX5_start_10 : decode cX5_start 10 = .ok (.aload_n 0, 1) := by decide +kernel
theorem dX5_start_11 : decode cX5_start 11 = .ok (.getfield 24, 3) := by decide +kernel
theorem dX5_start_14 : decode cX5_start 14 = .ok (.invokestatic 28, 3) := by decide +kernel
theorem dX5_start_17 : decode cX5_start 17 = .ok (.aload_n 0, 1) := by decide +kernel
theorem dX5_start_18 : decode cX5_start 18 = .ok (.iload_n 1, 1) := by decide +kernel
theorem dX5_start_19 : decode cX5_start 19 = .ok (.putfield 34, 3) := by decide +kernel
theorem dX5_start_22 : decode cX5_start 22 = .ok (.return_, 1) := by decide +kernel
theorem dX5_put_0 : decode cX5_put 0 = .ok (.iconst 0, 1) := by decide +kernel
theorem dX5_put_1 : decode cX5_put 1 = .ok (.istore_n 3, 1) := by decide +kernel
theorem dX5_put_2 : decode cX5_put 2 = .ok (.iload_n 3, 1) := by decide +kernel
theorem dX5_put_3 : decode cX5_put 3 = .ok (.iload_n 2, 1) := by decide +kernel
theorem dX5_put_4 : decode cX5_put 4 = .ok (.if_icmp .ge 68, 3) := by decide +kernel
theorem dX5_put_7 : decode cX5_put 7 = .ok (.aload_n 0, 1) := by decide +kernel
theorem dX5_put_8 : decode cX5_put 8 = .ok (.getfield 34, 3) := by decide +kernel
theorem dX5_put_11 : decode cX5_put 11 = .ok (.ifCond .lt 55, 3) := by decide +kernel
theorem dX5_put_14 : decode cX5_put 14 = .ok (.aload_n 0, 1) := by decide +kernel
theorem dX5_put_15 : decode cX5_put 15 = .ok (.getfield 34, 3) := by decide +kernel
theorem dX5_put_18 : decode cX5_put 18 = .ok (.aload_n 0, 1) := by decide +kernel
theorem dX5_put_19 : decode cX5_put 19 = .ok (.getfield 24, 3) := by decide +kernel
theorem dX5_put_22 : decode cX5_put 22 = .ok (.if_icmp .ge 44, 3) := by decide +kernel
theorem dX5_put_25 : decode cX5_put 25 = .ok (.iload_n 1, 1) := by decide +kernel
theorem dX5_put_26 : decode cX5_put 26 = .ok (.ifCond .lt 40, 3) := by decide +kernel
theorem dX5_put_29 : decode cX5_put 29 = .ok (.iload_n 1, 1) := by decide +kernel
theorem dX5_put_30 : decode cX5_put 30 = .ok (.iload_n 3, 1) := by decide +kernel
theorem dX5_put_31 : decode cX5_put 31 = .ok (.iadd, 1) := by decide +kernel
theorem dX5_put_32 : decode cX5_put 32 = .ok (.aload_n 0, 1) := by decide +kernel
theorem dX5_put_33 : decode cX5_put 33 = .ok (.getfield 24, 3) := by decide +kernel
theorem dX5_put_36 : decode cX5_put 36 = .ok (.if_icmp .ge 30, 3) := by decide +kernel
theorem dX5_put_39 : decode cX5_put 39 = .ok (.aload_n 0, 1) := by decide +kernel
theorem dX5_put_40 : decode cX5_put 40 = .ok (.getfield 15, 3) := by decide +kernel
theorem dX5_put_43 : decode cX5_put 43 = .ok (.aload_n 0, 1) := by decide +kernel
theorem dX5_put_44 : decode cX5_put 44 = .ok (.getfield 34, 3) := by decide +kernel
theorem dX5_put_47 : decode cX5_put 47 = .ok (.aload_n 0, 1) := by decide +kernel
theorem dX5_put_48 : decode cX5_put 48 = .ok (.getfield 9, 3) := by decide +kernel
theorem dX5_put_51 : decode cX5_put 51 = .ok (.iload_n 1, 1) := by decide +kernel
theorem dX5_put_52 : decode cX5_put 52 = .ok (.iload_n 3, 1) := by decide +kernel
theorem dX5_put_53 : decode cX5_put 53 = .ok (.iadd, 1) := by decide +kernel
theorem dX5_put_54 : decode cX5_put 54 = .ok (.iaload, 1) := by decide +kernel
theorem dX5_put_55 : decode cX5_put 55 = .ok (.iastore, 1) := by decide +kernel
theorem dX5_put_56 : decode cX5_put 56 = .ok (.aload_n 0, 1) := by decide +kernel
theorem dX5_put_57 : decode cX5_put 57 = .ok (.dup, 1) := by decide +kernel
theorem dX5_put_58 : decode cX5_put 58 = .ok (.getfield 34, 3) := by decide +kernel
theorem dX5_put_61 : decode cX5_put 61 = .ok (.iconst 1, 1) := by decide +kernel
theorem dX5_put_62 : decode cX5_put 62 = .ok (.iadd, 1) := by decide +kernel
theorem dX5_put_63 : decode cX5_put 63 = .ok (.putfield 34, 3) := by decide +kernel
theorem dX5_put_66 : decode cX5_put 66 = .ok (.iinc 3 1, 3) := by decide +kernel
theorem dX5_put_69 : decode cX5_put 69 = .ok (.goto (-67), 3) := by decide +kernel
theorem dX5_put_72 : decode cX5_put 72 = .ok (.return_, 1) := by decide +kernel
theorem dX5_take_0 : decode cX5_take 0 = .ok (.iconst 0, 1) := by decide +kernel
theorem dX5_take_1 : decode cX5_take 1 = .ok (.istore_n 1, 1) := by decide +kernel
theorem dX5_take_2 : decode cX5_take 2 = .ok (.iconst 0, 1) := by decide +kernel
theorem dX5_take_3 : decode cX5_take 3 = .ok (.istore_n 2, 1) := by decide +kernel
theorem dX5_take_4 : decode cX5_take 4 = .ok (.iload_n 2, 1) := by decide +kernel
theorem dX5_take_5 : decode cX5_take 5 = .ok (.aload_n 0, 1) := by decide +kernel
theorem dX5_take_6 : decode cX5_take 6 = .ok (.getfield 24, 3) := by decide +kernel
theorem dX5_take_9 : decode cX5_take 9 = .ok (.if_icmp .ge 39, 3) := by decide +kernel
theorem dX5_take_12 : decode cX5_take 12 = .ok (.aload_n 0, 1) := by decide +kernel
theorem dX5_take_13 : decode cX5_take 13 = .ok (.getfield 9, 3) := by decide +kernel
theorem dX5_take_16 : decode cX5_take 16 = .ok (.iload_n 2, 1) := by decide +kernel
theorem dX5_take_17 : decode cX5_take 17 = .ok (.iaload, 1) := by decide +kernel
theorem dX5_take_18 : decode cX5_take 18 = .ok (.aload_n 0, 1) := by decide +kernel
theorem dX5_take_19 : decode cX5_take 19 = .ok (.getfield 15, 3) := by decide +kernel
theorem dX5_take_22 : decode cX5_take 22 = .ok (.iload_n 2, 1) := by decide +kernel
theorem dX5_take_23 : decode cX5_take 23 = .ok (.iaload, 1) := by decide +kernel
theorem dX5_take_24 : decode cX5_take 24 = .ok (.if_icmp .eq 6, 3) := by decide +kernel
theorem dX5_take_27 : decode cX5_take 27 = .ok (.iinc 1 1, 3) := by decide +kernel
theorem dX5_take_30 : decode cX5_take 30 = .ok (.aload_n 0, 1) := by decide +kernel
theorem dX5_take_31 : decode cX5_take 31 = .ok (.getfield 9, 3) := by decide +kernel
theorem dX5_take_34 : decode cX5_take 34 = .ok (.iload_n 2, 1) := by decide +kernel
theorem dX5_take_35 : decode cX5_take 35 = .ok (.aload_n 0, 1) := by decide +kernel
theorem dX5_take_36 : decode cX5_take 36 = .ok (.getfield 15, 3) := by decide +kernel
theorem dX5_take_39 : decode cX5_take 39 = .ok (.iload_n 2, 1) := by decide +kernel
theorem dX5_take_40 : decode cX5_take 40 = .ok (.iaload, 1) := by decide +kernel
theorem dX5_take_41 : decode cX5_take 41 = .ok (.iastore, 1) := by decide +kernel
theorem dX5_take_42 : decode cX5_take 42 = .ok (.iinc 2 1, 3) := by decide +kernel
theorem dX5_take_45 : decode cX5_take 45 = .ok (.goto (-41), 3) := by decide +kernel
theorem dX5_take_48 : decode cX5_take 48 = .ok (.iload_n 1, 1) := by decide +kernel
theorem dX5_take_49 : decode cX5_take 49 = .ok (.ireturn, 1) := by decide +kernel
theorem dX6_init_0 : decode cX6_init 0 = .ok (.aload_n 0, 1) := by decide +kernel
theorem dX6_init_1 : decode cX6_init 1 = .ok (.invokespecial 3, 3) := by decide +kernel
theorem dX6_init_4 : decode cX6_init 4 = .ok (.aload_n 0, 1) := by decide +kernel
theorem dX6_init_5 : decode cX6_init 5 = .ok (.iconst (-1), 1) := by decide +kernel
theorem dX6_init_6 : decode cX6_init 6 = .ok (.putfield 9, 3) := by decide +kernel
theorem dX6_init_9 : decode cX6_init 9 = .ok (.return_, 1) := by decide +kernel
theorem dX6_scan_0 : decode cX6_scan 0 = .ok (.aload_n 0, 1) := by decide +kernel
theorem dX6_scan_1 : decode cX6_scan 1 = .ok (.aload_n 2, 1) := by decide +kernel
theorem dX6_scan_2 : decode cX6_scan 2 = .ok (.invokevirtual 15, 3) := by decide +kernel
theorem dX6_scan_5 : decode cX6_scan 5 = .ok (.iconst 0, 1) := by decide +kernel
theorem dX6_scan_6 : decode cX6_scan 6 = .ok (.istore_n 3, 1) := by decide +kernel
theorem dX6_scan_7 : decode cX6_scan 7 = .ok (.iload_n 3, 1) := by decide +kernel
theorem dX6_scan_8 : decode cX6_scan 8 = .ok (.aload_n 1, 1) := by decide +kernel
theorem dX6_scan_9 : decode cX6_scan 9 = .ok (.getfield 19, 3) := by decide +kernel
theorem dX6_scan_12 : decode cX6_scan 12 = .ok (.if_icmp .ge 65, 3) := by decide +kernel
theorem dX6_scan_15 : decode cX6_scan 15 = .ok (.aload_n 0, 1) := by decide +kernel
theorem dX6_scan_16 : decode cX6_scan 16 = .ok (.getfield 24, 3) := by decide +kernel
theorem dX6_scan_19 : decode cX6_scan 19 = .ok (.ifCond .ne 58, 3) := by decide +kernel
theorem dX6_scan_22 : decode cX6_scan 22 = .ok (.aload_n 1, 1) := by decide +kernel
theorem dX6_scan_23 : decode cX6_scan 23 = .ok (.getfield 27, 3) := by decide +kernel
theorem dX6_scan_26 : decode cX6_scan 26 = .ok (.iload_n 3, 1) := by decide +kernel
theorem dX6_scan_27 : decode cX6_scan 27 = .ok (.iaload, 1) := by decide +kernel
theorem dX6_scan_28 : decode cX6_scan 28 = .ok (.invokestatic 31, 3) := by decide +kernel
theorem dX6_scan_31 : decode cX6_scan 31 = .ok (.istore 4, 2) := by decide +kernel
theorem dX6_scan_33 : decode cX6_scan 33 = .ok (.aload_n 2, 1) := by decide +kernel
theorem dX6_scan_34 : decode cX6_scan 34 = .ok (.getfield 35, 3) := by decide +kernel
theorem dX6_scan_37 : decode cX6_scan 37 = .ok (.iload_n 3, 1) := by decide +kernel
theorem dX6_scan_38 : decode cX6_scan 38 = .ok (.iload 4, 2) := by decide +kernel
theorem dX6_scan_40 : decode cX6_scan 40 = .ok (.iastore, 1) := by decide +kernel
theorem dX6_scan_41 : decode cX6_scan 41 = .ok (.iload 4, 2) := by decide +kernel
theorem dX6_scan_43 : decode cX6_scan 43 = .ok (.invokestatic 40, 3) := by decide +kernel
theorem dX6_scan_46 : decode cX6_scan 46 = .ok (.ifCond .eq 12, 3) := by decide +kernel
theorem dX6_scan_49 : decode cX6_scan 49 = .ok (.aload_n 0, 1) := by decide +kernel
theorem dX6_scan_50 : decode cX6_scan 50 = .ok (.aload_n 2, 1) := by decide +kernel
theorem dX6_scan_51 : decode cX6_scan 51 = .ok (.iload_n 3, 1) := by decide +kernel
theorem dX6_scan_52 : decode cX6_scan 52 = .ok (.invokevirtual 44, 3) := by decide +kernel
theorem dX6_scan_55 : decode cX6_scan 55 = .ok (.goto 16, 3) := by decide +kernel
theorem dX6_scan_58 : decode cX6_scan 58 = .ok (.aload_n 0, 1) := by decide +kernel
theorem dX6_scan_59 : decode cX6_scan 59 = .ok (.iconst 0, 1) := by decide +kernel
theorem dX6_scan_60 : decode cX6_scan 60 = .ok (.putfield 48, 3) := by decide +kernel
theorem dX6_scan_63 : decode cX6_scan 63 = .ok (.aload_n 0, 1) := by decide +kernel
theorem dX6_scan_64 : decode cX6_scan 64 = .ok (.aload_n 2, 1) := by decide +kernel
theorem dX6_scan_65 : decode cX6_scan 65 = .ok (.iload_n 3, 1) := by decide +kernel
theorem dX6_scan_66 : decode cX6_scan 66 = .ok (.iload 4, 2) := by decide +kernel
theorem dX6_scan_68 : decode cX6_scan 68 = .ok (.invokevirtual 52, 3) := by decide +kernel
theorem dX6_scan_71 : decode cX6_scan 71 = .ok (.iinc 3 1, 3) := by decide +kernel
theorem dX6_scan_74 : decode cX6_scan 74 = .ok (.goto (-67), 3) := by decide +kernel
theorem dX6_scan_77 : decode cX6_scan 77 = .ok (.aload_n 0, 1) := by decide +kernel
theorem dX6_scan_78 : decode cX6_scan 78 = .ok (.getfield 24, 3) := by decide +kernel
theorem dX6_scan_81 : decode cX6_scan 81 = .ok (.ifCond .ne 27, 3) := by decide +kernel
theorem dX6_scan_84 : decode cX6_scan 84 = .ok (.aload_n 0, 1) := by decide +kernel
theorem dX6_scan_85 : decode cX6_scan 85 = .ok (.getfield 56, 3) := by decide +kernel
theorem dX6_scan_88 : decode cX6_scan 88 = .ok (.ifCond .ne 10, 3) := by decide +kernel
theorem dX6_scan_91 : decode cX6_scan 91 = .ok (.aload_n 2, 1) := by decide +kernel
theorem dX6_scan_92 : decode cX6_scan 92 = .ok (.getfield 59, 3) := by decide +kernel
theorem dX6_scan_95 : decode cX6_scan 95 = .ok (.ifCond .ne 13, 3) := by decide +kernel
theorem dX6_scan_98 : decode cX6_scan 98 = .ok (.aload_n 0, 1) := by decide +kernel
theorem dX6_scan_99 : decode cX6_scan 99 = .ok (.bipush 6, 2) := by decide +kernel
theorem dX6_scan_101 : decode cX6_scan 101 = .ok (.aload_n 1, 1) := by decide +kernel
theorem dX6_scan_102 : decode cX6_scan 102 = .ok (.getfield 19, 3) := by decide +kernel
theorem dX6_scan_105 : decode cX6_scan 105 = .ok (.invokevirtual 62, 3) := by decide +kernel
theorem dX6_scan_108 : decode cX6_scan 108 = .ok (.return_, 1) := by decide +kernel
theorem dX6_clear_0 : decode cX6_clear 0 = .ok (.aload_n 0, 1) := by decide +kernel
theorem dX6_clear_1 : decode cX6_clear 1 = .ok (.iconst 0, 1) := by decide +kernel
theorem dX6_clear_2 : decode cX6_clear 2 = .ok (.putfield 24, 3) := by decide +kernel
theorem dX6_clear_5 : decode cX6_clear 5 = .ok (.aload_n 0, 1) := by decide +kernel
theorem dX6_clear_6 : decode cX6_clear 6 = .ok (.iconst (-1), 1) := by decide +kernel
theorem dX6_clear_7 : decode cX6_clear 7 = .ok (.putfield 9, 3) := by decide +kernel
theorem dX6_clear_10 : decode cX6_clear 10 = .ok (.aload_n 0, 1) := by decide +kernel
theorem dX6_clear_11 : decode cX6_clear 11 = .ok (.iconst 0, 1) := by decide +kernel
theorem dX6_clear_12 : decode cX6_clear 12 = .ok (.putfield 48, 3) := by decide +kernel
theorem dX6_clear_15 : decode cX6_clear 15 = .ok (.aload_n 0, 1) := by decide +kernel
theorem dX6_clear_16 : decode cX6_clear 16 = .ok (.iconst 0, 1) := by decide +kernel
theorem dX6_clear_17 : decode cX6_clear 17 = .ok (.putfield 56, 3) := by decide +kernel
theorem dX6_clear_20 : decode cX6_clear 20 = .ok (.aload_n 0, 1) := by decide +kernel
theorem dX6_clear_21 : decode cX6_clear 21 = .ok (.iconst 0, 1) := by decide +kernel
theorem dX6_clear_22 : decode cX6_clear 22 = .ok (.putfield 66, 3) := by decide +kernel
theorem dX6_clear_25 : decode cX6_clear 25 = .ok (.aload_n 0, 1) := by decide +kernel
theorem dX6_clear_26 : decode cX6_clear 26 = .ok (.iconst 0, 1) := by decide +kernel
theorem dX6_clear_27 : decode cX6_clear 27 = .ok (.putfield 69, 3) := by decide +kernel
theorem dX6_clear_30 : decode cX6_clear 30 = .ok (.aload_n 0, 1) := by decide +kernel
theorem dX6_clear_31 : decode cX6_clear 31 = .ok (.iconst 0, 1) := by decide +kernel
theorem dX6_clear_32 : decode cX6_clear 32 = .ok (.putfield 72, 3) := by decide +kernel
theorem dX6_clear_35 : decode cX6_clear 35 = .ok (.aload_n 1, 1) := by decide +kernel
theorem dX6_clear_36 : decode cX6_clear 36 = .ok (.iconst 0, 1) := by decide +kernel
theorem dX6_clear_37 : decode cX6_clear 37 = .ok (.putfield 75, 3) := by decide +kernel
theorem dX6_clear_40 : decode cX6_clear 40 = .ok (.aload_n 1, 1) := by decide +kernel
theorem dX6_clear_41 : decode cX6_clear 41 = .ok (.iconst 0, 1) := by decide +kernel
theorem dX6_clear_42 : decode cX6_clear 42 = .ok (.putfield 59, 3) := by decide +kernel
theorem dX6_clear_45 : decode cX6_clear 45 = .ok (.return_, 1) := by decide +kernel
theorem dX6_note_0 : decode cX6_note 0 = .ok (.aload_n 0, 1) := by decide +kernel
theorem dX6_note_1 : decode cX6_note 1 = .ok (.iload_n 1, 1) := by decide +kernel
theorem dX6_note_2 : decode cX6_note 2 = .ok (.putfield 24, 3) := by decide +kernel
theorem dX6_note_5 : decode cX6_note 5 = .ok (.aload_n 0, 1) := by decide +kernel
theorem dX6_note_6 : decode cX6_note 6 = .ok (.iload_n 2, 1) := by decide +kernel
theorem dX6_note_7 : decode cX6_note 7 = .ok (.putfield 9, 3) := by decide +kernel
theorem dX6_note_10 : decode cX6_note 10 = .ok (.return_, 1) := by decide +kernel
theorem dX6_takeLetter_0 : decode cX6_takeLetter 0 = .ok (.aload_n 0, 1) := by decide +kernel
theorem dX6_takeLetter_1 : decode cX6_takeLetter 1 = .ok (.getfield 48, 3) := by decide +kernel
theorem dX6_takeLetter_4 : decode cX6_takeLetter 4 = .ok (.ifCond .ne 12, 3) := by decide +kernel
theorem dX6_takeLetter_7 : decode cX6_takeLetter 7 = .ok (.aload_n 0, 1) := by decide +kernel
theorem dX6_takeLetter_8 : decode cX6_takeLetter 8 = .ok (.aload_n 1, 1) := by decide +kernel
theorem dX6_takeLetter_9 : decode cX6_takeLetter 9 = .ok (.iload_n 2, 1) := by decide +kernel
theorem dX6_takeLetter_10 : decode cX6_takeLetter 10 = .ok (.invokevirtual 78, 3) := by decide +kernel
theorem dX6_takeLetter_13 : decode cX6_takeLetter 13 = .ok (.goto 43, 3) := by decide +kernel
theorem dX6_takeLetter_16 : decode cX6_takeLetter 16 = .ok (.aload_n 1, 1) := by decide +kernel
theorem dX6_takeLetter_17 : decode cX6_takeLetter 17 = .ok (.getfield 81, 3) := by decide +kernel
theorem dX6_takeLetter_20 : decode cX6_takeLetter 20 = .ok (.aload_n 1, 1) := by decide +kernel
theorem dX6_takeLetter_21 : decode cX6_takeLetter 21 = .ok (.getfield 75, 3) := by decide +kernel
theorem dX6_takeLetter_24 : decode cX6_takeLetter 24 = .ok (.iconst 1, 1) := by decide +kernel
theorem dX6_takeLetter_25 : decode cX6_takeLetter 25 = .ok (.isub, 1) := by decide +kernel
theorem dX6_takeLetter_26 : decode cX6_takeLetter 26 = .ok (.iaload, 1) := by decide +kernel
theorem dX6_takeLetter_27 : decode cX6_takeLetter 27 = .ok (.bipush 16, 2) := by decide +kernel
theorem dX6_takeLetter_29 : decode cX6_takeLetter 29 = .ok (.if_icmp .lt 12, 3) := by decide +kernel
theorem dX6_takeLetter_32 : decode cX6_takeLetter 32 = .ok (.aload_n 0, 1) := by decide +kernel
theorem dX6_takeLetter_33 : decode cX6_takeLetter 33 = .ok (.iconst 2, 1) := by decide +kernel
theorem dX6_takeLetter_34 : decode cX6_takeLetter 34 = .ok (.iload_n 2, 1) := by decide +kernel
theorem dX6_takeLetter_35 : decode cX6_takeLetter 35 = .ok (.invokevirtual 62, 3) := by decide +kernel
theorem dX6_takeLetter_38 : decode cX6_takeLetter 38 = .ok (.goto 18, 3) := by decide +kernel
theorem dX6_takeLetter_41 : decode cX6_takeLetter 41 = .ok (.aload_n 1, 1) := by decide +kernel
theorem dX6_takeLetter_42 : decode cX6_takeLetter 42 = .ok (.getfield 81, 3) := by decide +kernel
theorem dX6_takeLetter_45 : decode cX6_takeLetter 45 = .ok (.aload_n 1, 1) := by decide +kernel
theorem dX6_takeLetter_46 : decode cX6_takeLetter 46 = .ok (.getfield 75, 3) := by decide +kernel
theorem dX6_takeLetter_49 : decode cX6_takeLetter 49 = .ok (.iconst 1, 1) := by decide +kernel
theorem dX6_takeLetter_50 : decode cX6_takeLetter 50 = .ok (.isub, 1) := by decide +kernel
theorem dX6_takeLetter_51 : decode cX6_takeLetter 51 = .ok (.dup2, 1) := by decide +kernel
theorem dX6_takeLetter_52 : decode cX6_takeLetter 52 = .ok (.iaload, 1) := by decide +kernel
theorem dX6_takeLetter_53 : decode cX6_takeLetter 53 = .ok (.iconst 1, 1) := by decide +kernel
theorem dX6_takeLetter_54 : decode cX6_takeLetter 54 = .ok (.iadd, 1) := by decide +kernel
theorem dX6_takeLetter_55 : decode cX6_takeLetter 55 = .ok (.iastore, 1) := by decide +kernel
theorem dX6_takeLetter_56 : decode cX6_takeLetter 56 = .ok (.return_, 1) := by decide +kernel
theorem dX6_startWord_0 : decode cX6_startWord 0 = .ok (.aload_n 0, 1) := by decide +kernel
theorem dX6_startWord_1 : decode cX6_startWord 1 = .ok (.getfield 56, 3) := by decide +kernel
theorem dX6_startWord_4 : decode cX6_startWord 4 = .ok (.ifCond .ne 12, 3) := by decide +kernel
theorem dX6_startWord_7 : decode cX6_startWord 7 = .ok (.aload_n 0, 1) := by decide +kernel
theorem dX6_startWord_8 : decode cX6_startWord 8 = .ok (.aload_n 1, 1) := by decide +kernel
theorem dX6_startWord_9 : decode cX6_startWord 9 = .ok (.iload_n 2, 1) := by decide +kernel
theorem dX6_startWord_10 : decode cX6_startWord 10 = .ok (.invokevirtual 84, 3) := by decide +kernel
theorem dX6_startWord_13 : decode cX6_startWord 13 = .ok (.goto 25, 3) := by decide +kernel
theorem dX6_startWord_16 : decode cX6_startWord 16 = .ok (.aload_n 1, 1) := by decide +kernel
theorem dX6_startWord_17 : decode cX6_startWord 17 = .ok (.getfield 87, 3) := by decide +kernel
theorem dX6_startWord_20 : decode cX6_startWord 20 = .ok (.aload_n 1, 1) := by decide +kernel
theorem dX6_startWord_21 : decode cX6_startWord 21 = .ok (.getfield 59, 3) := by decide +kernel
theorem dX6_startWord_24 : decode cX6_startWord 24 = .ok (.iconst 1, 1) := by decide +kernel
theorem dX6_startWord_25 : decode cX6_startWord 25 = .ok (.isub, 1) := by decide +kernel
theorem dX6_startWord_26 : decode cX6_startWord 26 = .ok (.iaload, 1) := by decide +kernel
theorem dX6_startWord_27 : decode cX6_startWord 27 = .ok (.bipush 40, 2) := by decide +kernel
theorem dX6_startWord_29 : decode cX6_startWord 29 = .ok (.if_icmp .lt 9, 3) := by decide +kernel
theorem dX6_startWord_32 : decode cX6_startWord 32 = .ok (.aload_n 0, 1) := by decide +kernel
theorem dX6_startWord_33 : decode cX6_startWord 33 = .ok (.iconst 3, 1) := by decide +kernel
theorem dX6_startWord_34 : decode cX6_startWord 34 = .ok (.iload_n 2, 1) := by decide +kernel
theorem dX6_startWord_35 : decode cX6_startWord 35 = .ok (.invokevirtual 62, 3) := by decide +kernel
theorem dX6_startWord_38 : decode cX6_startWord 38 = .ok (.aload_n 0, 1) := by decide +kernel
theorem dX6_startWord_39 : decode cX6_startWord 39 = .ok (.getfield 24, 3) := by decide +kernel
theorem dX6_startWord_42 : decode cX6_startWord 42 = .ok (.ifCond .ne 53, 3) := by decide +kernel
theorem dX6_startWord_45 : decode cX6_startWord 45 = .ok (.aload_n 0, 1) := by decide +kernel
theorem dX6_startWord_46 : decode cX6_startWord 46 = .ok (.iconst 1, 1) := by decide +kernel
theorem dX6_startWord_47 : decode cX6_startWord 47 = .ok (.putfield 48, 3) := by decide +kernel
theorem dX6_startWord_50 : decode cX6_startWord 50 = .ok (.aload_n 1, 1) := by decide +kernel
theorem dX6_startWord_51 : decode cX6_startWord 51 = .ok (.getfield 90, 3) := by decide +kernel
theorem dX6_startWord_54 : decode cX6_startWord 54 = .ok (.aload_n 1, 1) := by decide +kernel
theorem dX6_startWord_55 : decode cX6_startWord 55 = .ok (.getfield 75, 3) := by decide +kernel
theorem dX6_startWord_58 : decode cX6_startWord 58 = .ok (.iload_n 2, 1) := by decide +kernel
theorem dX6_startWord_59 : decode cX6_startWord 59 = .ok (.iastore, 1) := by decide +kernel
theorem dX6_startWord_60 : decode cX6_startWord 60 = .ok (.aload_n 1, 1) := by decide +kernel
theorem dX6_startWord_61 : decode cX6_startWord 61 = .ok (.getfield 81, 3) := by decide +kernel
theorem dX6_startWord_64 : decode cX6_startWord 64 = .ok (.aload_n 1, 1) := by decide +kernel
theorem dX6_startWord_65 : decode cX6_startWord 65 = .ok (.getfield 75, 3) := by decide +kernel
theorem dX6_startWord_68 : decode cX6_startWord 68 = .ok (.iconst 1, 1) := by decide +kernel
theorem dX6_startWord_69 : decode cX6_startWord 69 = .ok (.iastore, 1) := by decide +kernel
theorem dX6_startWord_70 : decode cX6_startWord 70 = .ok (.aload_n 1, 1) := by decide +kernel
theorem dX6_startWord_71 : decode cX6_startWord 71 = .ok (.dup, 1) := by decide +kernel
theorem dX6_startWord_72 : decode cX6_startWord 72 = .ok (.getfield 75, 3) := by decide +kernel
end
section
theorem dX6_startWord_75 : decode cX6_startWord 75 = .ok (.iconst 1, 1) := by decide +kernel
theorem dX6_startWord_76 : decode cX6_startWord 76 = .ok (.iadd, 1) := by decide +kernel
theorem dX6_startWord_77 : decode cX6_startWord 77 = .ok (.putfield 75, 3) := by decide +kernel
theorem dX6_startWord_80 : decode cX6_startWord 80 = .ok (.aload_n 1, 1) := by decide +kernel
theorem dX6_startWord_81 : decode cX6_startWord 81 = .ok (.getfield 87, 3) := by decide +kernel
theorem dX6_startWord_84 : decode cX6_startWord 84 = .ok (.aload_n 1, 1) := by decide +kernel
theorem dX6_startWord_85 : decode cX6_startWord 85 = .ok (.getfield 59, 3) := by decide +kernel
theorem dX6_startWord_88 : decode cX6_startWord 88 = .ok (.iconst 1, 1) := by decide +kernel
theorem dX6_startWord_89 : decode cX6_startWord 89 = .ok (.isub, 1) := by decide +kernel
theorem dX6_startWord_90 : decode cX6_startWord 90 = .ok (.dup2, 1) := by decide +kernel
theorem dX6_startWord_91 : decode cX6_startWord 91 = .ok (.iaload, 1) := by decide +kernel
theorem dX6_startWord_92 : decode cX6_startWord 92 = .ok (.iconst 1, 1) := by decide +kernel
theorem dX6_startWord_93 : decode cX6_startWord 93 = .ok (.iadd, 1) := by decide +kernel
theorem dX6_startWord_94 : decode cX6_startWord 94 = .ok (.iastore, 1) := by decide +kernel
theorem dX6_startWord_95 : decode cX6_startWord 95 = .ok (.return_, 1) := by decide +kernel
theorem dX6_startSentence_0 : decode cX6_startSentence 0 = .ok (.aload_n 1, 1) := by decide +kernel
theorem dX6_startSentence_1 : decode cX6_startSentence 1 = .ok (.getfield 59, 3) := by decide +kernel
theorem dX6_startSentence_4 : decode cX6_startSentence 4 = .ok (.bipush 24, 2) := by decide +kernel
theorem dX6_startSentence_6 : decode cX6_startSentence 6 = .ok (.if_icmp .lt 10, 3) := by decide +kernel
theorem dX6_startSentence_9 : decode cX6_startSentence 9 = .ok (.aload_n 0, 1) := by decide +kernel
theorem dX6_startSentence_10 : decode cX6_startSentence 10 = .ok (.iconst 4, 1) := by decide +kernel
theorem dX6_startSentence_11 : decode cX6_startSentence 11 = .ok (.iload_n 2, 1) := by decide +kernel
theorem dX6_startSentence_12 : decode cX6_startSentence 12 = .ok (.invokevirtual 62, 3) := by decide +kernel
theorem dX6_startSentence_15 : decode cX6_startSentence 15 = .ok (.return_, 1) := by decide +kernel
theorem dX6_startSentence_16 : decode cX6_startSentence 16 = .ok (.aload_n 0, 1) := by decide +kernel
theorem dX6_startSentence_17 : decode cX6_startSentence 17 = .ok (.getfield 69, 3) := by decide +kernel
theorem dX6_startSentence_20 : decode cX6_startSentence 20 = .ok (.ifCond .eq 13, 3) := by decide +kernel
theorem dX6_startSentence_23 : decode cX6_startSentence 23 = .ok (.aload_n 0, 1) := by decide +kernel
theorem dX6_startSentence_24 : decode cX6_startSentence 24 = .ok (.dup, 1) := by decide +kernel
theorem dX6_startSentence_25 : decode cX6_startSentence 25 = .ok (.getfield 72, 3) := by decide +kernel
theorem dX6_startSentence_28 : decode cX6_startSentence 28 = .ok (.iconst 1, 1) := by decide +kernel
theorem dX6_startSentence_29 : decode cX6_startSentence 29 = .ok (.iadd, 1) := by decide +kernel
theorem dX6_startSentence_30 : decode cX6_startSentence 30 = .ok (.putfield 72, 3) := by decide +kernel
theorem dX6_startSentence_33 : decode cX6_startSentence 33 = .ok (.aload_n 0, 1) := by decide +kernel
theorem dX6_startSentence_34 : decode cX6_startSentence 34 = .ok (.iconst 0, 1) := by decide +kernel
theorem dX6_startSentence_35 : decode cX6_startSentence 35 = .ok (.putfield 69, 3) := by decide +kernel
theorem dX6_startSentence_38 : decode cX6_startSentence 38 = .ok (.aload_n 0, 1) := by decide +kernel
theorem dX6_startSentence_39 : decode cX6_startSentence 39 = .ok (.iconst 0, 1) := by decide +kernel
theorem dX6_startSentence_40 : decode cX6_startSentence 40 = .ok (.putfield 66, 3) := by decide +kernel
theorem dX6_startSentence_43 : decode cX6_startSentence 43 = .ok (.aload_n 0, 1) := by decide +kernel
theorem dX6_startSentence_44 : decode cX6_startSentence 44 = .ok (.iconst 1, 1) := by decide +kernel
theorem dX6_startSentence_45 : decode cX6_startSentence 45 = .ok (.putfield 56, 3) := by decide +kernel
theorem dX6_startSentence_48 : decode cX6_startSentence 48 = .ok (.aload_n 1, 1) := by decide +kernel
theorem dX6_startSentence_49 : decode cX6_startSentence 49 = .ok (.getfield 93, 3) := by decide +kernel
theorem dX6_startSentence_52 : decode cX6_startSentence 52 = .ok (.aload_n 1, 1) := by decide +kernel
theorem dX6_startSentence_53 : decode cX6_startSentence 53 = .ok (.getfield 59, 3) := by decide +kernel
theorem dX6_startSentence_56 : decode cX6_startSentence 56 = .ok (.aload_n 1, 1) := by decide +kernel
theorem dX6_startSentence_57 : decode cX6_startSentence 57 = .ok (.getfield 75, 3) := by decide +kernel
theorem dX6_startSentence_60 : decode cX6_startSentence 60 = .ok (.iastore, 1) := by decide +kernel
theorem dX6_startSentence_61 : decode cX6_startSentence 61 = .ok (.aload_n 1, 1) := by decide +kernel
theorem dX6_startSentence_62 : decode cX6_startSentence 62 = .ok (.getfield 87, 3) := by decide +kernel
theorem dX6_startSentence_65 : decode cX6_startSentence 65 = .ok (.aload_n 1, 1) := by decide +kernel
theorem dX6_startSentence_66 : decode cX6_startSentence 66 = .ok (.getfield 59, 3) := by decide +kernel
theorem dX6_startSentence_69 : decode cX6_startSentence 69 = .ok (.iconst 0, 1) := by decide +kernel
theorem dX6_startSentence_70 : decode cX6_startSentence 70 = .ok (.iastore, 1) := by decide +kernel
theorem dX6_startSentence_71 : decode cX6_startSentence 71 = .ok (.aload_n 1, 1) := by decide +kernel
theorem dX6_startSentence_72 : decode cX6_startSentence 72 = .ok (.getfield 96, 3) := by decide +kernel
theorem dX6_startSentence_75 : decode cX6_startSentence 75 = .ok (.aload_n 1, 1) := by decide +kernel
theorem dX6_startSentence_76 : decode cX6_startSentence 76 = .ok (.getfield 59, 3) := by decide +kernel
theorem dX6_startSentence_79 : decode cX6_startSentence 79 = .ok (.aload_n 0, 1) := by decide +kernel
theorem dX6_startSentence_80 : decode cX6_startSentence 80 = .ok (.getfield 72, 3) := by decide +kernel
theorem dX6_startSentence_83 : decode cX6_startSentence 83 = .ok (.iastore, 1) := by decide +kernel
theorem dX6_startSentence_84 : decode cX6_startSentence 84 = .ok (.aload_n 1, 1) := by decide +kernel
theorem dX6_startSentence_85 : decode cX6_startSentence 85 = .ok (.dup, 1) := by decide +kernel
theorem dX6_startSentence_86 : decode cX6_startSentence 86 = .ok (.getfield 59, 3) := by decide +kernel
theorem dX6_startSentence_89 : decode cX6_startSentence 89 = .ok (.iconst 1, 1) := by decide +kernel
theorem dX6_startSentence_90 : decode cX6_startSentence 90 = .ok (.iadd, 1) := by decide +kernel
theorem dX6_startSentence_91 : decode cX6_startSentence 91 = .ok (.putfield 59, 3) := by decide +kernel
theorem dX6_startSentence_94 : decode cX6_startSentence 94 = .ok (.return_, 1) := by decide +kernel
theorem dX6_takeMark_0 : decode cX6_takeMark 0 = .ok (.iload_n 3, 1) := by decide +kernel
theorem dX6_takeMark_1 : decode cX6_takeMark 1 = .ok (.lookupswitch 102 #[(10, 78), (32, 75), (33, 94), (44, 86), (46, 94), (58, 86), (59, 86), (63, 94)], 75) := by decide +kernel
theorem dX6_takeMark_76 : decode cX6_takeMark 76 = .ok (.goto 33, 3) := by decide +kernel
theorem dX6_takeMark_79 : decode cX6_takeMark 79 = .ok (.aload_n 0, 1) := by decide +kernel
theorem dX6_takeMark_80 : decode cX6_takeMark 80 = .ok (.aload_n 1, 1) := by decide +kernel
theorem dX6_takeMark_81 : decode cX6_takeMark 81 = .ok (.invokevirtual 98, 3) := by decide +kernel
theorem dX6_takeMark_84 : decode cX6_takeMark 84 = .ok (.goto 25, 3) := by decide +kernel
theorem dX6_takeMark_87 : decode cX6_takeMark 87 = .ok (.aload_n 0, 1) := by decide +kernel
theorem dX6_takeMark_88 : decode cX6_takeMark 88 = .ok (.iconst 0, 1) := by decide +kernel
theorem dX6_takeMark_89 : decode cX6_takeMark 89 = .ok (.putfield 66, 3) := by decide +kernel
theorem dX6_takeMark_92 : decode cX6_takeMark 92 = .ok (.goto 17, 3) := by decide +kernel
theorem dX6_takeMark_95 : decode cX6_takeMark 95 = .ok (.aload_n 0, 1) := by decide +kernel
theorem dX6_takeMark_96 : decode cX6_takeMark 96 = .ok (.iload_n 2, 1) := by decide +kernel
theorem dX6_takeMark_97 : decode cX6_takeMark 97 = .ok (.invokevirtual 101, 3) := by decide +kernel
theorem dX6_takeMark_100 : decode cX6_takeMark 100 = .ok (.goto 9, 3) := by decide +kernel
theorem dX6_takeMark_103 : decode cX6_takeMark 103 = .ok (.aload_n 0, 1) := by decide +kernel
theorem dX6_takeMark_104 : decode cX6_takeMark 104 = .ok (.iconst 1, 1) := by decide +kernel
theorem dX6_takeMark_105 : decode cX6_takeMark 105 = .ok (.iload_n 2, 1) := by decide +kernel
theorem dX6_takeMark_106 : decode cX6_takeMark 106 = .ok (.invokevirtual 62, 3) := by decide +kernel
theorem dX6_takeMark_109 : decode cX6_takeMark 109 = .ok (.return_, 1) := by decide +kernel
theorem dX6_takeLineEnd_0 : decode cX6_takeLineEnd 0 = .ok (.aload_n 0, 1) := by decide +kernel
theorem dX6_takeLineEnd_1 : decode cX6_takeLineEnd 1 = .ok (.getfield 56, 3) := by decide +kernel
theorem dX6_takeLineEnd_4 : decode cX6_takeLineEnd 4 = .ok (.ifCond .ne 38, 3) := by decide +kernel
theorem dX6_takeLineEnd_7 : decode cX6_takeLineEnd 7 = .ok (.aload_n 1, 1) := by decide +kernel
theorem dX6_takeLineEnd_8 : decode cX6_takeLineEnd 8 = .ok (.getfield 59, 3) := by decide +kernel
theorem dX6_takeLineEnd_11 : decode cX6_takeLineEnd 11 = .ok (.ifCond .le 31, 3) := by decide +kernel
theorem dX6_takeLineEnd_14 : decode cX6_takeLineEnd 14 = .ok (.aload_n 0, 1) := by decide +kernel
theorem dX6_takeLineEnd_15 : decode cX6_takeLineEnd 15 = .ok (.aload_n 0, 1) := by decide +kernel
theorem dX6_takeLineEnd_16 : decode cX6_takeLineEnd 16 = .ok (.getfield 69, 3) := by decide +kernel
theorem dX6_takeLineEnd_19 : decode cX6_takeLineEnd 19 = .ok (.ifCond .ne 10, 3) := by decide +kernel
theorem dX6_takeLineEnd_22 : decode cX6_takeLineEnd 22 = .ok (.aload_n 0, 1) := by decide +kernel
theorem dX6_takeLineEnd_23 : decode cX6_takeLineEnd 23 = .ok (.getfield 66, 3) := by decide +kernel
theorem dX6_takeLineEnd_26 : decode cX6_takeLineEnd 26 = .ok (.ifCond .eq 7, 3) := by decide +kernel
theorem dX6_takeLineEnd_29 : decode cX6_takeLineEnd 29 = .ok (.iconst 1, 1) := by decide +kernel
theorem dX6_takeLineEnd_30 : decode cX6_takeLineEnd 30 = .ok (.goto 4, 3) := by decide +kernel
theorem dX6_takeLineEnd_33 : decode cX6_takeLineEnd 33 = .ok (.iconst 0, 1) := by decide +kernel
theorem dX6_takeLineEnd_34 : decode cX6_takeLineEnd 34 = .ok (.putfield 69, 3) := by decide +kernel
theorem dX6_takeLineEnd_37 : decode cX6_takeLineEnd 37 = .ok (.aload_n 0, 1) := by decide +kernel
theorem dX6_takeLineEnd_38 : decode cX6_takeLineEnd 38 = .ok (.iconst 1, 1) := by decide +kernel
theorem dX6_takeLineEnd_39 : decode cX6_takeLineEnd 39 = .ok (.putfield 66, 3) := by decide +kernel
theorem dX6_takeLineEnd_42 : decode cX6_takeLineEnd 42 = .ok (.return_, 1) := by decide +kernel
theorem dX6_takeSentenceEnd_0 : decode cX6_takeSentenceEnd 0 = .ok (.aload_n 0, 1) := by decide +kernel
theorem dX6_takeSentenceEnd_1 : decode cX6_takeSentenceEnd 1 = .ok (.getfield 56, 3) := by decide +kernel
theorem dX6_takeSentenceEnd_4 : decode cX6_takeSentenceEnd 4 = .ok (.ifCond .ne 9, 3) := by decide +kernel
theorem dX6_takeSentenceEnd_7 : decode cX6_takeSentenceEnd 7 = .ok (.aload_n 0, 1) := by decide +kernel
theorem dX6_takeSentenceEnd_8 : decode cX6_takeSentenceEnd 8 = .ok (.iconst 5, 1) := by decide +kernel
theorem dX6_takeSentenceEnd_9 : decode cX6_takeSentenceEnd 9 = .ok (.iload_n 1, 1) := by decide +kernel
theorem dX6_takeSentenceEnd_10 : decode cX6_takeSentenceEnd 10 = .ok (.invokevirtual 62, 3) := by decide +kernel
theorem dX6_takeSentenceEnd_13 : decode cX6_takeSentenceEnd 13 = .ok (.aload_n 0, 1) := by decide +kernel
theorem dX6_takeSentenceEnd_14 : decode cX6_takeSentenceEnd 14 = .ok (.iconst 0, 1) := by decide +kernel
theorem dX6_takeSentenceEnd_15 : decode cX6_takeSentenceEnd 15 = .ok (.putfield 56, 3) := by decide +kernel
theorem dX6_takeSentenceEnd_18 : decode cX6_takeSentenceEnd 18 = .ok (.return_, 1) := by decide +kernel
theorem dX7_init_0 : decode cX7_init 0 = .ok (.aload_n 0, 1) := by decide +kernel
theorem dX7_init_1 : decode cX7_init 1 = .ok (.invokespecial 3, 3) := by decide +kernel
theorem dX7_init_4 : decode cX7_init 4 = .ok (.aload_n 0, 1) := by decide +kernel
theorem dX7_init_5 : decode cX7_init 5 = .ok (.sipush 3000, 3) := by decide +kernel
theorem dX7_init_8 : decode cX7_init 8 = .ok (.newarray .int, 2) := by decide +kernel
theorem dX7_init_10 : decode cX7_init 10 = .ok (.putfield 9, 3) := by decide +kernel
theorem dX7_init_13 : decode cX7_init 13 = .ok (.return_, 1) := by decide +kernel
theorem dX7_append_0 : decode cX7_append 0 = .ok (.bipush 24, 2) := by decide +kernel
theorem dX7_append_2 : decode cX7_append 2 = .ok (.istore_n 2, 1) := by decide +kernel
theorem dX7_append_3 : decode cX7_append 3 = .ok (.iload_n 2, 1) := by decide +kernel
theorem dX7_append_4 : decode cX7_append 4 = .ok (.ifCond .lt 45, 3) := by decide +kernel
theorem dX7_append_7 : decode cX7_append 7 = .ok (.aload_n 0, 1) := by decide +kernel
theorem dX7_append_8 : decode cX7_append 8 = .ok (.getfield 15, 3) := by decide +kernel
theorem dX7_append_11 : decode cX7_append 11 = .ok (.sipush 3000, 3) := by decide +kernel
theorem dX7_append_14 : decode cX7_append 14 = .ok (.if_icmp .ge 29, 3) := by decide +kernel
theorem dX7_append_17 : decode cX7_append 17 = .ok (.aload_n 0, 1) := by decide +kernel
theorem dX7_append_18 : decode cX7_append 18 = .ok (.getfield 9, 3) := by decide +kernel
theorem dX7_append_21 : decode cX7_append 21 = .ok (.aload_n 0, 1) := by decide +kernel
theorem dX7_append_22 : decode cX7_append 22 = .ok (.getfield 15, 3) := by decide +kernel
theorem dX7_append_25 : decode cX7_append 25 = .ok (.iload_n 1, 1) := by decide +kernel
theorem dX7_append_26 : decode cX7_append 26 = .ok (.iload_n 2, 1) := by decide +kernel
theorem dX7_append_27 : decode cX7_append 27 = .ok (.iushr, 1) := by decide +kernel
theorem dX7_append_28 : decode cX7_append 28 = .ok (.sipush 255, 3) := by decide +kernel
theorem dX7_append_31 : decode cX7_append 31 = .ok (.iand, 1) := by decide +kernel
theorem dX7_append_32 : decode cX7_append 32 = .ok (.iastore, 1) := by decide +kernel
theorem dX7_append_33 : decode cX7_append 33 = .ok (.aload_n 0, 1) := by decide +kernel
theorem dX7_append_34 : decode cX7_append 34 = .ok (.dup, 1) := by decide +kernel
theorem dX7_append_35 : decode cX7_append 35 = .ok (.getfield 15, 3) := by decide +kernel
theorem dX7_append_38 : decode cX7_append 38 = .ok (.iconst 1, 1) := by decide +kernel
theorem dX7_append_39 : decode cX7_append 39 = .ok (.iadd, 1) := by decide +kernel
theorem dX7_append_40 : decode cX7_append 40 = .ok (.putfield 15, 3) := by decide +kernel
theorem dX7_append_43 : decode cX7_append 43 = .ok (.iinc 2 (-8), 3) := by decide +kernel
theorem dX7_append_46 : decode cX7_append 46 = .ok (.goto (-43), 3) := by decide +kernel
theorem dX7_append_49 : decode cX7_append 49 = .ok (.return_, 1) := by decide +kernel
theorem dX7_takeWord_0 : decode cX7_takeWord 0 = .ok (.aload_n 0, 1) := by decide +kernel
theorem dX7_takeWord_1 : decode cX7_takeWord 1 = .ok (.getfield 15, 3) := by decide +kernel
theorem dX7_takeWord_4 : decode cX7_takeWord 4 = .ok (.istore_n 2, 1) := by decide +kernel
theorem dX7_takeWord_5 : decode cX7_takeWord 5 = .ok (.aload_n 0, 1) := by decide +kernel
theorem dX7_takeWord_6 : decode cX7_takeWord 6 = .ok (.iconst 0, 1) := by decide +kernel
theorem dX7_takeWord_7 : decode cX7_takeWord 7 = .ok (.putfield 15, 3) := by decide +kernel
theorem dX7_takeWord_10 : decode cX7_takeWord 10 = .ok (.iload_n 2, 1) := by decide +kernel
theorem dX7_takeWord_11 : decode cX7_takeWord 11 = .ok (.iload_n 1, 1) := by decide +kernel
theorem dX7_takeWord_12 : decode cX7_takeWord 12 = .ok (.if_icmp .gt 10, 3) := by decide +kernel
theorem dX7_takeWord_15 : decode cX7_takeWord 15 = .ok (.iload_n 2, 1) := by decide +kernel
theorem dX7_takeWord_16 : decode cX7_takeWord 16 = .ok (.sipush 3000, 3) := by decide +kernel
theorem dX7_takeWord_19 : decode cX7_takeWord 19 = .ok (.if_icmp .le 5, 3) := by decide +kernel
theorem dX7_takeWord_22 : decode cX7_takeWord 22 = .ok (.iconst 0, 1) := by decide +kernel
theorem dX7_takeWord_23 : decode cX7_takeWord 23 = .ok (.ireturn, 1) := by decide +kernel
theorem dX7_takeWord_24 : decode cX7_takeWord 24 = .ok (.iconst 0, 1) := by decide +kernel
theorem dX7_takeWord_25 : decode cX7_takeWord 25 = .ok (.istore_n 3, 1) := by decide +kernel
theorem dX7_takeWord_26 : decode cX7_takeWord 26 = .ok (.iload_n 3, 1) := by decide +kernel
theorem dX7_takeWord_27 : decode cX7_takeWord 27 = .ok (.iload_n 2, 1) := by decide +kernel
theorem dX7_takeWord_28 : decode cX7_takeWord 28 = .ok (.if_icmp .ge 38, 3) := by decide +kernel
theorem dX7_takeWord_31 : decode cX7_takeWord 31 = .ok (.aload_n 0, 1) := by decide +kernel
theorem dX7_takeWord_32 : decode cX7_takeWord 32 = .ok (.getfield 9, 3) := by decide +kernel
theorem dX7_takeWord_35 : decode cX7_takeWord 35 = .ok (.iload_n 3, 1) := by decide +kernel
theorem dX7_takeWord_36 : decode cX7_takeWord 36 = .ok (.aload_n 0, 1) := by decide +kernel
theorem dX7_takeWord_37 : decode cX7_takeWord 37 = .ok (.getfield 9, 3) := by decide +kernel
theorem dX7_takeWord_40 : decode cX7_takeWord 40 = .ok (.iload_n 3, 1) := by decide +kernel
theorem dX7_takeWord_41 : decode cX7_takeWord 41 = .ok (.iaload, 1) := by decide +kernel
theorem dX7_takeWord_42 : decode cX7_takeWord 42 = .ok (.invokestatic 19, 3) := by decide +kernel
theorem dX7_takeWord_45 : decode cX7_takeWord 45 = .ok (.iastore, 1) := by decide +kernel
theorem dX7_takeWord_46 : decode cX7_takeWord 46 = .ok (.aload_n 0, 1) := by decide +kernel
theorem dX7_takeWord_47 : decode cX7_takeWord 47 = .ok (.getfield 9, 3) := by decide +kernel
theorem dX7_takeWord_50 : decode cX7_takeWord 50 = .ok (.iload_n 3, 1) := by decide +kernel
theorem dX7_takeWord_51 : decode cX7_takeWord 51 = .ok (.iaload, 1) := by decide +kernel
theorem dX7_takeWord_52 : decode cX7_takeWord 52 = .ok (.invokestatic 23, 3) := by decide +kernel
theorem dX7_takeWord_55 : decode cX7_takeWord 55 = .ok (.ifCond .ne 5, 3) := by decide +kernel
theorem dX7_takeWord_58 : decode cX7_takeWord 58 = .ok (.iconst 0, 1) := by decide +kernel
theorem dX7_takeWord_59 : decode cX7_takeWord 59 = .ok (.ireturn, 1) := by decide +kernel
theorem dX7_takeWord_60 : decode cX7_takeWord 60 = .ok (.iinc 3 1, 3) := by decide +kernel
theorem dX7_takeWord_63 : decode cX7_takeWord 63 = .ok (.goto (-37), 3) := by decide +kernel
theorem dX7_takeWord_66 : decode cX7_takeWord 66 = .ok (.iload_n 2, 1) := by decide +kernel
theorem dX7_takeWord_67 : decode cX7_takeWord 67 = .ok (.ireturn, 1) := by decide +kernel
theorem dX8_init_0 : decode cX8_init 0 = .ok (.aload_n 0, 1) := by decide +kernel
theorem dX8_init_1 : decode cX8_init 1 = .ok (.invokespecial 3, 3) := by decide +kernel
theorem dX8_init_4 : decode cX8_init 4 = .ok (.aload_n 0, 1) := by decide +kernel
theorem dX8_init_5 : decode cX8_init 5 = .ok (.sipush 3000, 3) := by decide +kernel
theorem dX8_init_8 : decode cX8_init 8 = .ok (.newarray .int, 2) := by decide +kernel
theorem dX8_init_10 : decode cX8_init 10 = .ok (.putfield 9, 3) := by decide +kernel
theorem dX8_init_13 : decode cX8_init 13 = .ok (.aload_n 0, 1) := by decide +kernel
theorem dX8_init_14 : decode cX8_init 14 = .ok (.sipush 960, 3) := by decide +kernel
theorem dX8_init_17 : decode cX8_init 17 = .ok (.newarray .int, 2) := by decide +kernel
theorem dX8_init_19 : decode cX8_init 19 = .ok (.putfield 15, 3) := by decide +kernel
theorem dX8_init_22 : decode cX8_init 22 = .ok (.aload_n 0, 1) := by decide +kernel
theorem dX8_init_23 : decode cX8_init 23 = .ok (.sipush 960, 3) := by decide +kernel
theorem dX8_init_26 : decode cX8_init 26 = .ok (.newarray .int, 2) := by decide +kernel
theorem dX8_init_28 : decode cX8_init 28 = .ok (.putfield 18, 3) := by decide +kernel
theorem dX8_init_31 : decode cX8_init 31 = .ok (.aload_n 0, 1) := by decide +kernel
theorem dX8_init_32 : decode cX8_init 32 = .ok (.bipush 24, 2) := by decide +kernel
theorem dX8_init_34 : decode cX8_init 34 = .ok (.newarray .int, 2) := by decide +kernel
theorem dX8_init_36 : decode cX8_init 36 = .ok (.putfield 21, 3) := by decide +kernel
theorem dX8_init_39 : decode cX8_init 39 = .ok (.aload_n 0, 1) := by decide +kernel
theorem dX8_init_40 : decode cX8_init 40 = .ok (.bipush 24, 2) := by decide +kernel
theorem dX8_init_42 : decode cX8_init 42 = .ok (.newarray .int, 2) := by decide +kernel
theorem dX8_init_44 : decode cX8_init 44 = .ok (.putfield 24, 3) := by decide +kernel
theorem dX8_init_47 : decode cX8_init 47 = .ok (.aload_n 0, 1) := by decide +kernel
theorem dX8_init_48 : decode cX8_init 48 = .ok (.bipush 24, 2) := by decide +kernel
theorem dX8_init_50 : decode cX8_init 50 = .ok (.newarray .int, 2) := by decide +kernel
theorem dX8_init_52 : decode cX8_init 52 = .ok (.putfield 27, 3) := by decide +kernel
theorem dX8_init_55 : decode cX8_init 55 = .ok (.return_, 1) := by decide +kernel
theorem dX8_paragraphs_0 : decode cX8_paragraphs 0 = .ok (.aload_n 0, 1) := by decide +kernel
theorem dX8_paragraphs_1 : decode cX8_paragraphs 1 = .ok (.getfield 30, 3) := by decide +kernel
theorem dX8_paragraphs_4 : decode cX8_paragraphs 4 = .ok (.ifCond .ne 7, 3) := by decide +kernel
theorem dX8_paragraphs_7 : decode cX8_paragraphs 7 = .ok (.iconst 0, 1) := by decide +kernel
theorem dX8_paragraphs_8 : decode cX8_paragraphs 8 = .ok (.goto 16, 3) := by decide +kernel
theorem dX8_paragraphs_11 : decode cX8_paragraphs 11 = .ok (.aload_n 0, 1) := by decide +kernel
theorem dX8_paragraphs_12 : decode cX8_paragraphs 12 = .ok (.getfield 27, 3) := by decide +kernel
theorem dX8_paragraphs_15 : decode cX8_paragraphs 15 = .ok (.aload_n 0, 1) := by decide +kernel
theorem dX8_paragraphs_16 : decode cX8_paragraphs 16 = .ok (.getfield 30, 3) := by decide +kernel
theorem dX8_paragraphs_19 : decode cX8_paragraphs 19 = .ok (.iconst 1, 1) := by decide +kernel
theorem dX8_paragraphs_20 : decode cX8_paragraphs 20 = .ok (.isub, 1) := by decide +kernel
theorem dX8_paragraphs_21 : decode cX8_paragraphs 21 = .ok (.iaload, 1) := by decide +kernel
theorem dX8_paragraphs_22 : decode cX8_paragraphs 22 = .ok (.iconst 1, 1) := by decide +kernel
theorem dX8_paragraphs_23 : decode cX8_paragraphs 23 = .ok (.iadd, 1) := by decide +kernel
theorem dX8_paragraphs_24 : decode cX8_paragraphs 24 = .ok (.ireturn, 1) := by decide +kernel
theorem dX9_init_0 : decode cX9_init 0 = .ok (.aload_n 0, 1) := by decide +kernel
theorem dX9_init_1 : decode cX9_init 1 = .ok (.invokespecial 3, 3) := by decide +kernel
theorem dX9_init_4 : decode cX9_init 4 = .ok (.aload_n 0, 1) := by decide +kernel
theorem dX9_init_5 : decode cX9_init 5 = .ok (.iload_n 1, 1) := by decide +kernel
theorem dX9_init_6 : decode cX9_init 6 = .ok (.putfield 9, 3) := by decide +kernel
theorem dX9_init_9 : decode cX9_init 9 = .ok (.aload_n 0, 1) := by decide +kernel
theorem dX9_init_10 : decode cX9_init 10 = .ok (.iload_n 2, 1) := by decide +kernel
theorem dX9_init_11 : decode cX9_init 11 = .ok (.putfield 15, 3) := by decide +kernel
theorem dX9_init_14 : decode cX9_init 14 = .ok (.aload_n 0, 1) := by decide +kernel
theorem dX9_init_15 : decode cX9_init 15 = .ok (.iload_n 1, 1) := by decide +kernel
theorem dX9_init_16 : decode cX9_init 16 = .ok (.iload_n 2, 1) := by decide +kernel
theorem dX9_init_17 : decode cX9_init 17 = .ok (.imul, 1) := by decide +kernel
theorem dX9_init_18 : decode cX9_init 18 = .ok (.newarray .int, 2) := by decide +kernel
theorem dX9_init_20 : decode cX9_init 20 = .ok (.putfield 18, 3) := by decide +kernel
theorem dX9_init_23 : decode cX9_init 23 = .ok (.aload_n 0, 1) := by decide +kernel
theorem dX9_init_24 : decode cX9_init 24 = .ok (.iload_n 1, 1) := by decide +kernel
theorem dX9_init_25 : decode cX9_init 25 = .ok (.newarray .int, 2) := by decide +kernel
theorem dX9_init_27 : decode cX9_init 27 = .ok (.putfield 22, 3) := by decide +kernel
theorem dX9_init_30 : decode cX9_init 30 = .ok (.aload_n 0, 1) := by decide +kernel
theorem dX9_init_31 : decode cX9_init 31 = .ok (.iload_n 1, 1) := by decide +kernel
theorem dX9_init_32 : decode cX9_init 32 = .ok (.newarray .int, 2) := by decide +kernel
theorem dX9_init_34 : decode cX9_init 34 = .ok (.putfield 25, 3) := by decide +kernel
theorem dX9_init_37 : decode cX9_init 37 = .ok (.return_, 1) := by decide +kernel
theorem dX9_isFull_0 : decode cX9_isFull 0 = .ok (.aload_n 0, 1) := by decide +kernel
theorem dX9_isFull_1 : decode cX9_isFull 1 = .ok (.getfield 28, 3) := by decide +kernel
theorem dX9_isFull_4 : decode cX9_isFull 4 = .ok (.aload_n 0, 1) := by decide +kernel
theorem dX9_isFull_5 : decode cX9_isFull 5 = .ok (.getfield 9, 3) := by decide +kernel
theorem dX9_isFull_8 : decode cX9_isFull 8 = .ok (.if_icmp .lt 7, 3) := by decide +kernel
theorem dX9_isFull_11 : decode cX9_isFull 11 = .ok (.iconst 1, 1) := by decide +kernel
theorem dX9_isFull_12 : decode cX9_isFull 12 = .ok (.goto 4, 3) := by decide +kernel
theorem dX9_isFull_15 : decode cX9_isFull 15 = .ok (.iconst 0, 1) := by decide +kernel
theorem dX9_isFull_16 : decode cX9_isFull 16 = .ok (.ireturn, 1) := by decide +kernel
theorem dX9_find_0 : decode cX9_find 0 = .ok (.iconst 0, 1) := by decide +kernel
theorem dX9_find_1 : decode cX9_find 1 = .ok (.istore 4, 2) := by decide +kernel
theorem dX9_find_3 : decode cX9_find 3 = .ok (.iload 4, 2) := by decide +kernel
theorem dX9_find_5 : decode cX9_find 5 = .ok (.aload_n 0, 1) := by decide +kernel
theorem dX9_find_6 : decode cX9_find 6 = .ok (.getfield 28, 3) := by decide +kernel
theorem dX9_find_9 : decode cX9_find 9 = .ok (.if_icmp .ge 34, 3) := by decide +kernel
theorem dX9_find_12 : decode cX9_find 12 = .ok (.aload_n 0, 1) := by decide +kernel
theorem dX9_find_13 : decode cX9_find 13 = .ok (.getfield 22, 3) := by decide +kernel
theorem dX9_find_16 : decode cX9_find 16 = .ok (.iload 4, 2) := by decide +kernel
theorem dX9_find_18 : decode cX9_find 18 = .ok (.iaload, 1) := by decide +kernel
theorem dX9_find_19 : decode cX9_find 19 = .ok (.iload_n 3, 1) := by decide +kernel
theorem dX9_find_20 : decode cX9_find 20 = .ok (.if_icmp .ne 17, 3) := by decide +kernel
theorem dX9_find_23 : decode cX9_find 23 = .ok (.aload_n 0, 1) := by decide +kernel
theorem dX9_find_24 : decode cX9_find 24 = .ok (.iload 4, 2) := by decide +kernel
theorem dX9_find_26 : decode cX9_find 26 = .ok (.aload_n 1, 1) := by decide +kernel
theorem dX9_find_27 : decode cX9_find 27 = .ok (.iload_n 2, 1) := by decide +kernel
theorem dX9_find_28 : decode cX9_find 28 = .ok (.invokevirtual 31, 3) := by decide +kernel
theorem dX9_find_31 : decode cX9_find 31 = .ok (.ifCond .eq 6, 3) := by decide +kernel
theorem dX9_find_34 : decode cX9_find 34 = .ok (.iload 4, 2) := by decide +kernel
theorem dX9_find_36 : decode cX9_find 36 = .ok (.ireturn, 1) := by decide +kernel
theorem dX9_find_37 : decode cX9_find 37 = .ok (.iinc 4 1, 3) := by decide +kernel
theorem dX9_find_40 : decode cX9_find 40 = .ok (.goto (-37), 3) := by decide +kernel
theorem dX9_find_43 : decode cX9_find 43 = .ok (.iconst (-1), 1) := by decide +kernel
theorem dX9_find_44 : decode cX9_find 44 = .ok (.ireturn, 1) := by decide +kernel
theorem dX9_isAt_0 : decode cX9_isAt 0 = .ok (.iload_n 1, 1) := by decide +kernel
theorem dX9_isAt_1 : decode cX9_isAt 1 = .ok (.aload_n 0, 1) := by decide +kernel
theorem dX9_isAt_2 : decode cX9_isAt 2 = .ok (.getfield 15, 3) := by decide +kernel
theorem dX9_isAt_5 : decode cX9_isAt 5 = .ok (.imul, 1) := by decide +kernel
theorem dX9_isAt_6 : decode cX9_isAt 6 = .ok (.istore 4, 2) := by decide +kernel
theorem dX9_isAt_8 : decode cX9_isAt 8 = .ok (.iconst 0, 1) := by decide +kernel
theorem dX9_isAt_9 : decode cX9_isAt 9 = .ok (.istore 5, 2) := by decide +kernel
theorem dX9_isAt_11 : decode cX9_isAt 11 = .ok (.iload 5, 2) := by decide +kernel
theorem dX9_isAt_13 : decode cX9_isAt 13 = .ok (.aload_n 0, 1) := by decide +kernel
theorem dX9_isAt_14 : decode cX9_isAt 14 = .ok (.getfield 22, 3) := by decide +kernel
theorem dX9_isAt_17 : decode cX9_isAt 17 = .ok (.iload_n 1, 1) := by decide +kernel
theorem dX9_isAt_18 : decode cX9_isAt 18 = .ok (.iaload, 1) := by decide +kernel
theorem dX9_isAt_19 : decode cX9_isAt 19 = .ok (.if_icmp .ge 30, 3) := by decide +kernel
theorem dX9_isAt_22 : decode cX9_isAt 22 = .ok (.aload_n 0, 1) := by decide +kernel
theorem dX9_isAt_23 : decode cX9_isAt 23 = .ok (.getfield 18, 3) := by decide +kernel
theorem dX9_isAt_26 : decode cX9_isAt 26 = .ok (.iload 4, 2) := by decide +kernel
theorem dX9_isAt_28 : decode cX9_isAt 28 = .ok (.iload 5, 2) := by decide +kernel
theorem dX9_isAt_30 : decode cX9_isAt 30 = .ok (.iadd, 1) := by decide +kernel
theorem dX9_isAt_31 : decode cX9_isAt 31 = .ok (.iaload, 1) := by decide +kernel
theorem dX9_isAt_32 : decode cX9_isAt 32 = .ok (.aload_n 2, 1) := by decide +kernel
theorem dX9_isAt_33 : decode cX9_isAt 33 = .ok (.iload_n 3, 1) := by decide +kernel
theorem dX9_isAt_34 : decode cX9_isAt 34 = .ok (.iload 5, 2) := by decide +kernel
theorem dX9_isAt_36 : decode cX9_isAt 36 = .ok (.iadd, 1) := by decide +kernel
theorem dX9_isAt_37 : decode cX9_isAt 37 = .ok (.iaload, 1) := by decide +kernel
theorem dX9_isAt_38 : decode cX9_isAt 38 = .ok (.if_icmp .eq 5, 3) := by decide +kernel
theorem dX9_isAt_41 : decode cX9_isAt 41 = .ok (.iconst 0, 1) := by decide +kernel
theorem dX9_isAt_42 : decode cX9_isAt 42 = .ok (.ireturn, 1) := by decide +kernel
theorem dX9_isAt_43 : decode cX9_isAt 43 = .ok (.iinc 5 1, 3) := by decide +kernel
theorem dX9_isAt_46 : decode cX9_isAt 46 = .ok (.goto (-35), 3) := by decide +kernel
theorem dX9_isAt_49 : decode cX9_isAt 49 = .ok (.iconst 1, 1) := by decide +kernel
theorem dX9_isAt_50 : decode cX9_isAt 50 = .ok (.ireturn, 1) := by decide +kernel
theorem dX9_add_0 : decode cX9_add 0 = .ok (.aload_n 0, 1) := by decide +kernel
theorem dX9_add_1 : decode cX9_add 1 = .ok (.getfield 28, 3) := by decide +kernel
theorem dX9_add_4 : decode cX9_add 4 = .ok (.aload_n 0, 1) := by decide +kernel
theorem dX9_add_5 : decode cX9_add 5 = .ok (.getfield 9, 3) := by decide +kernel
theorem dX9_add_8 : decode cX9_add 8 = .ok (.if_icmp .ge 60, 3) := by decide +kernel
theorem dX9_add_11 : decode cX9_add 11 = .ok (.iload_n 2, 1) := by decide +kernel
theorem dX9_add_12 : decode cX9_add 12 = .ok (.aload_n 0, 1) := by decide +kernel
theorem dX9_add_13 : decode cX9_add 13 = .ok (.getfield 15, 3) := by decide +kernel
theorem dX9_add_16 : decode cX9_add 16 = .ok (.if_icmp .gt 52, 3) := by decide +kernel
theorem dX9_add_19 : decode cX9_add 19 = .ok (.aload_n 1, 1) := by decide +kernel
theorem dX9_add_20 : decode cX9_add 20 = .ok (.iconst 0, 1) := by decide +kernel
theorem dX9_add_21 : decode cX9_add 21 = .ok (.aload_n 0, 1) := by decide +kernel
theorem dX9_add_22 : decode cX9_add 22 = .ok (.getfield 18, 3) := by decide +kernel
theorem dX9_add_25 : decode cX9_add 25 = .ok (.aload_n 0, 1) := by decide +kernel
theorem dX9_add_26 : decode cX9_add 26 = .ok (.getfield 28, 3) := by decide +kernel
theorem dX9_add_29 : decode cX9_add 29 = .ok (.aload_n 0, 1) := by decide +kernel
theorem dX9_add_30 : decode cX9_add 30 = .ok (.getfield 15, 3) := by decide +kernel
theorem dX9_add_33 : decode cX9_add 33 = .ok (.imul, 1) := by decide +kernel
theorem dX9_add_34 : decode cX9_add 34 = .ok (.iload_n 2, 1) := by decide +kernel
theorem dX9_add_35 : decode cX9_add 35 = .ok (.invokestatic 35, 3) := by decide +kernel
theorem dX9_add_38 : decode cX9_add 38 = .ok (.aload_n 0, 1) := by decide +kernel
theorem dX9_add_39 : decode cX9_add 39 = .ok (.getfield 22, 3) := by decide +kernel
theorem dX9_add_42 : decode cX9_add 42 = .ok (.aload_n 0, 1) := by decide +kernel
theorem dX9_add_43 : decode cX9_add 43 = .ok (.getfield 28, 3) := by decide +kernel
theorem dX9_add_46 : decode cX9_add 46 = .ok (.iload_n 2, 1) := by decide +kernel
theorem dX9_add_47 : decode cX9_add 47 = .ok (.iastore, 1) := by decide +kernel
theorem dX9_add_48 : decode cX9_add 48 = .ok (.aload_n 0, 1) := by decide +kernel
theorem dX9_add_49 : decode cX9_add 49 = .ok (.getfield 25, 3) := by decide +kernel
theorem dX9_add_52 : decode cX9_add 52 = .ok (.aload_n 0, 1) := by decide +kernel
theorem dX9_add_53 : decode cX9_add 53 = .ok (.getfield 28, 3) := by decide +kernel
theorem dX9_add_56 : decode cX9_add 56 = .ok (.iload_n 3, 1) := by decide +kernel
theorem dX9_add_57 : decode cX9_add 57 = .ok (.iastore, 1) := by decide +kernel
theorem dX9_add_58 : decode cX9_add 58 = .ok (.aload_n 0, 1) := by decide +kernel
theorem dX9_add_59 : decode cX9_add 59 = .ok (.dup, 1) := by decide +kernel
theorem dX9_add_60 : decode cX9_add 60 = .ok (.getfield 28, 3) := by decide +kernel
theorem dX9_add_63 : decode cX9_add 63 = .ok (.iconst 1, 1) := by decide +kernel
theorem dX9_add_64 : decode cX9_add 64 = .ok (.iadd, 1) := by decide +kernel
theorem dX9_add_65 : decode cX9_add 65 = .ok (.putfield 28, 3) := by decide +kernel
theorem dX9_add_68 : decode cX9_add 68 = .ok (.return_, 1) := by decide +kernel
theorem dX9_drop_0 : decode cX9_drop 0 = .ok (.iload_n 1, 1) := by decide +kernel
theorem dX9_drop_1 : decode cX9_drop 1 = .ok (.ifCond .lt 81, 3) := by decide +kernel
theorem dX9_drop_4 : decode cX9_drop 4 = .ok (.iload_n 1, 1) := by decide +kernel
theorem dX9_drop_5 : decode cX9_drop 5 = .ok (.aload_n 0, 1) := by decide +kernel
theorem dX9_drop_6 : decode cX9_drop 6 = .ok (.getfield 28, 3) := by decide +kernel
theorem dX9_drop_9 : decode cX9_drop 9 = .ok (.if_icmp .ge 73, 3) := by decide +kernel
theorem dX9_drop_12 : decode cX9_drop 12 = .ok (.aload_n 0, 1) := by decide +kernel
theorem dX9_drop_13 : decode cX9_drop 13 = .ok (.dup, 1) := by decide +kernel
theorem dX9_drop_14 : decode cX9_drop 14 = .ok (.getfield 28, 3) := by decide +kernel
theorem dX9_drop_17 : decode cX9_drop 17 = .ok (.iconst 1, 1) := by decide +kernel
theorem dX9_drop_18 : decode cX9_drop 18 = .ok (.isub, 1) := by decide +kernel
theorem dX9_drop_19 : decode cX9_drop 19 = .ok (.putfield 28, 3) := by decide +kernel
theorem dX9_drop_22 : decode cX9_drop 22 = .ok (.aload_n 0, 1) := by decide +kernel
theorem dX9_drop_23 : decode cX9_drop 23 = .ok (.getfield 18, 3) := by decide +kernel
theorem dX9_drop_26 : decode cX9_drop 26 = .ok (.aload_n 0, 1) := by decide +kernel
theorem dX9_drop_27 : decode cX9_drop 27 = .ok (.getfield 28, 3) := by decide +kernel
theorem dX9_drop_30 : decode cX9_drop 30 = .ok (.aload_n 0, 1) := by decide +kernel
theorem dX9_drop_31 : decode cX9_drop 31 = .ok (.getfield 15, 3) := by decide +kernel
theorem dX9_drop_34 : decode cX9_drop 34 = .ok (.imul, 1) := by decide +kernel
theorem dX9_drop_35 : decode cX9_drop 35 = .ok (.aload_n 0, 1) := by decide +kernel
theorem dX9_drop_36 : decode cX9_drop 36 = .ok (.getfield 18, 3) := by decide +kernel
theorem dX9_drop_39 : decode cX9_drop 39 = .ok (.iload_n 1, 1) := by decide +kernel
theorem dX9_drop_40 : decode cX9_drop 40 = .ok (.aload_n 0, 1) := by decide +kernel
theorem dX9_drop_41 : decode cX9_drop 41 = .ok (.getfield 15, 3) := by decide +kernel
theorem dX9_drop_44 : decode cX9_drop 44 = .ok (.imul, 1) := by decide +kernel
theorem dX9_drop_45 : decode cX9_drop 45 = .ok (.aload_n 0, 1) := by decide +kernel
theorem dX9_drop_46 : decode cX9_drop 46 = .ok (.getfield 15, 3) := by decide +kernel
theorem dX9_drop_49 : decode cX9_drop 49 = .ok (.invokestatic 35, 3) := by decide +kernel
theorem dX9_drop_52 : decode cX9_drop 52 = .ok (.aload_n 0, 1) := by decide +kernel
theorem dX9_drop_53 : decode cX9_drop 53 = .ok (.getfield 22, 3) := by decide +kernel
theorem dX9_drop_56 : decode cX9_drop 56 = .ok (.iload_n 1, 1) := by decide +kernel
theorem dX9_drop_57 : decode cX9_drop 57 = .ok (.aload_n 0, 1) := by decide +kernel
theorem dX9_drop_58 : decode cX9_drop 58 = .ok (.getfield 22, 3) := by decide +kernel
theorem dX9_drop_61 : decode cX9_drop 61 = .ok (.aload_n 0, 1) := by decide +kernel
theorem dX9_drop_62 : decode cX9_drop 62 = .ok (.getfield 28, 3) := by decide +kernel
theorem dX9_drop_65 : decode cX9_drop 65 = .ok (.iaload, 1) := by decide +kernel
theorem dX9_drop_66 : decode cX9_drop 66 = .ok (.iastore, 1) := by decide +kernel
theorem dX9_drop_67 : decode cX9_drop 67 = .ok (.aload_n 0, 1) := by decide +kernel
theorem dX9_drop_68 : decode cX9_drop 68 = .ok (.getfield 25, 3) := by decide +kernel
theorem dX9_drop_71 : decode cX9_drop 71 = .ok (.iload_n 1, 1) := by decide +kernel
theorem dX9_drop_72 : decode cX9_drop 72 = .ok (.aload_n 0, 1) := by decide +kernel
theorem dX9_drop_73 : decode cX9_drop 73 = .ok (.getfield 25, 3) := by decide +kernel
theorem dX9_drop_76 : decode cX9_drop 76 = .ok (.aload_n 0, 1) := by decide +kernel
theorem dX9_drop_77 : decode cX9_drop 77 = .ok (.getfield 28, 3) := by decide +kernel
theorem dX9_drop_80 : decode cX9_drop 80 = .ok (.iaload, 1) := by decide +kernel
theorem dX9_drop_81 : decode cX9_drop 81 = .ok (.iastore, 1) := by decide +kernel
theorem dX9_drop_82 : decode cX9_drop 82 = .ok (.return_, 1) := by decide +kernel
theorem dX9_lengthWithout_0 : decode cX9_lengthWithout 0 = .ok (.iconst 0, 1) := by decide +kernel
theorem dX9_lengthWithout_1 : decode cX9_lengthWithout 1 = .ok (.istore 4, 2) := by decide +kernel
theorem dX9_lengthWithout_3 : decode cX9_lengthWithout 3 = .ok (.iconst 0, 1) := by decide +kernel
theorem dX9_lengthWithout_4 : decode cX9_lengthWithout 4 = .ok (.istore 5, 2) := by decide +kernel
theorem dX9_lengthWithout_6 : decode cX9_lengthWithout 6 = .ok (.iload 5, 2) := by decide +kernel
theorem dX9_lengthWithout_8 : decode cX9_lengthWithout 8 = .ok (.aload_n 0, 1) := by decide +kernel
theorem dX9_lengthWithout_9 : decode cX9_lengthWithout 9 = .ok (.getfield 28, 3) := by decide +kernel
theorem dX9_lengthWithout_12 : decode cX9_lengthWithout 12 = .ok (.if_icmp .ge 61, 3) := by decide +kernel
theorem dX9_lengthWithout_15 : decode cX9_lengthWithout 15 = .ok (.iload_n 3, 1) := by decide +kernel
theorem dX9_lengthWithout_16 : decode cX9_lengthWithout 16 = .ok (.aload_n 0, 1) := by decide +kernel
theorem dX9_lengthWithout_17 : decode cX9_lengthWithout 17 = .ok (.getfield 22, 3) := by decide +kernel
theorem dX9_lengthWithout_20 : decode cX9_lengthWithout 20 = .ok (.iload 5, 2) := by decide +kernel
theorem dX9_lengthWithout_22 : decode cX9_lengthWithout 22 = .ok (.iaload, 1) := by decide +kernel
theorem dX9_lengthWithout_23 : decode cX9_lengthWithout 23 = .ok (.isub, 1) := by decide +kernel
theorem dX9_lengthWithout_24 : decode cX9_lengthWithout 24 = .ok (.istore 6, 2) := by decide +kernel
theorem dX9_lengthWithout_26 : decode cX9_lengthWithout 26 = .ok (.aload_n 0, 1) := by decide +kernel
theorem dX9_lengthWithout_27 : decode cX9_lengthWithout 27 = .ok (.getfield 22, 3) := by decide +kernel
theorem dX9_lengthWithout_30 : decode cX9_lengthWithout 30 = .ok (.iload 5, 2) := by decide +kernel
theorem dX9_lengthWithout_32 : decode cX9_lengthWithout 32 = .ok (.iaload, 1) := by decide +kernel
theorem dX9_lengthWithout_33 : decode cX9_lengthWithout 33 = .ok (.iload 4, 2) := by decide +kernel
theorem dX9_lengthWithout_35 : decode cX9_lengthWithout 35 = .ok (.if_icmp .le 32, 3) := by decide +kernel
theorem dX9_lengthWithout_38 : decode cX9_lengthWithout 38 = .ok (.iload 6, 2) := by decide +kernel
theorem dX9_lengthWithout_40 : decode cX9_lengthWithout 40 = .ok (.iconst 3, 1) := by decide +kernel
theorem dX9_lengthWithout_41 : decode cX9_lengthWithout 41 = .ok (.if_icmp .lt 26, 3) := by decide +kernel
theorem dX9_lengthWithout_44 : decode cX9_lengthWithout 44 = .ok (.aload_n 0, 1) := by decide +kernel
theorem dX9_lengthWithout_45 : decode cX9_lengthWithout 45 = .ok (.iload 5, 2) := by decide +kernel
theorem dX9_lengthWithout_47 : decode cX9_lengthWithout 47 = .ok (.aload_n 1, 1) := by decide +kernel
theorem dX9_lengthWithout_48 : decode cX9_lengthWithout 48 = .ok (.iload_n 2, 1) := by decide +kernel
theorem dX9_lengthWithout_49 : decode cX9_lengthWithout 49 = .ok (.iload 6, 2) := by decide +kernel
theorem dX9_lengthWithout_51 : decode cX9_lengthWithout 51 = .ok (.iadd, 1) := by decide +kernel
theorem dX9_lengthWithout_52 : decode cX9_lengthWithout 52 = .ok (.invokevirtual 31, 3) := by decide +kernel
theorem dX9_lengthWithout_55 : decode cX9_lengthWithout 55 = .ok (.ifCond .eq 12, 3) := by decide +kernel
theorem dX9_lengthWithout_58 : decode cX9_lengthWithout 58 = .ok (.aload_n 0, 1) := by decide +kernel
theorem dX9_lengthWithout_59 : decode cX9_lengthWithout 59 = .ok (.getfield 22, 3) := by decide +kernel
theorem dX9_lengthWithout_62 : decode cX9_lengthWithout 62 = .ok (.iload 5, 2) := by decide +kernel
theorem dX9_lengthWithout_64 : decode cX9_lengthWithout 64 = .ok (.iaload, 1) := by decide +kernel
theorem dX9_lengthWithout_65 : decode cX9_lengthWithout 65 = .ok (.istore 4, 2) := by decide +kernel
theorem dX9_lengthWithout_67 : decode cX9_lengthWithout 67 = .ok (.iinc 5 1, 3) := by decide +kernel
theorem dX9_lengthWithout_70 : decode cX9_lengthWithout 70 = .ok (.goto (-64), 3) := by decide +kernel
theorem dX9_lengthWithout_73 : decode cX9_lengthWithout 73 = .ok (.iload_n 3, 1) := by decide +kernel
theorem dX9_lengthWithout_74 : decode cX9_lengthWithout 74 = .ok (.iload 4, 2) := by decide +kernel
theorem dX9_lengthWithout_76 : decode cX9_lengthWithout 76 = .ok (.isub, 1) := by decide +kernel
theorem dX9_lengthWithout_77 : decode cX9_lengthWithout 77 = .ok (.ireturn, 1) := by decide +kernel
end
section
theorem dX10_init_0 : decode cX10_init 0 = .ok (.aload_n 0, 1) := by decide +kernel
theorem dX10_init_1 : decode cX10_init 1 = .ok (.invokespecial 3, 3) := by decide +kernel
theorem dX10_init_4 : decode cX10_init 4 = .ok (.aload_n 0, 1) := by decide +kernel
theorem dX10_init_5 : decode cX10_init 5 = .ok (.new 9, 3) := by decide +kernel
theorem dX10_init_8 : decode cX10_init 8 = .ok (.dup, 1) := by decide +kernel
theorem dX10_init_9 : decode cX10_init 9 = .ok (.invokespecial 11, 3) := by decide +kernel
theorem dX10_init_12 : decode cX10_init 12 = .ok (.putfield 12, 3) := by decide +kernel
theorem dX10_init_15 : decode cX10_init 15 = .ok (.aload_n 0, 1) := by decide +kernel
theorem dX10_init_16 : decode cX10_init 16 = .ok (.new 16, 3) := by decide +kernel
theorem dX10_init_19 : decode cX10_init 19 = .ok (.dup, 1) := by decide +kernel
theorem dX10_init_20 : decode cX10_init 20 = .ok (.bipush 60, 2) := by decide +kernel
theorem dX10_init_22 : decode cX10_init 22 = .ok (.bipush 16, 2) := by decide +kernel
theorem dX10_init_24 : decode cX10_init 24 = .ok (.invokespecial 18, 3) := by decide +kernel
theorem dX10_init_27 : decode cX10_init 27 = .ok (.putfield 21, 3) := by decide +kernel
theorem dX10_init_30 : decode cX10_init 30 = .ok (.aload_n 0, 1) := by decide +kernel
theorem dX10_init_31 : decode cX10_init 31 = .ok (.new 16, 3) := by decide +kernel
theorem dX10_init_34 : decode cX10_init 34 = .ok (.dup, 1) := by decide +kernel
theorem dX10_init_35 : decode cX10_init 35 = .ok (.bipush 30, 2) := by decide +kernel
theorem dX10_init_37 : decode cX10_init 37 = .ok (.bipush 16, 2) := by decide +kernel
theorem dX10_init_39 : decode cX10_init 39 = .ok (.invokespecial 18, 3) := by decide +kernel
theorem dX10_init_42 : decode cX10_init 42 = .ok (.putfield 25, 3) := by decide +kernel
theorem dX10_init_45 : decode cX10_init 45 = .ok (.aload_n 0, 1) := by decide +kernel
theorem dX10_init_46 : decode cX10_init 46 = .ok (.new 16, 3) := by decide +kernel
theorem dX10_init_49 : decode cX10_init 49 = .ok (.dup, 1) := by decide +kernel
theorem dX10_init_50 : decode cX10_init 50 = .ok (.bipush 10, 2) := by decide +kernel
theorem dX10_init_52 : decode cX10_init 52 = .ok (.bipush 6, 2) := by decide +kernel
theorem dX10_init_54 : decode cX10_init 54 = .ok (.invokespecial 18, 3) := by decide +kernel
theorem dX10_init_57 : decode cX10_init 57 = .ok (.putfield 28, 3) := by decide +kernel
theorem dX10_init_60 : decode cX10_init 60 = .ok (.aload_n 0, 1) := by decide +kernel
theorem dX10_init_61 : decode cX10_init 61 = .ok (.iconst 4, 1) := by decide +kernel
theorem dX10_init_62 : decode cX10_init 62 = .ok (.newarray .int, 2) := by decide +kernel
theorem dX10_init_64 : decode cX10_init 64 = .ok (.putfield 31, 3) := by decide +kernel
theorem dX10_init_67 : decode cX10_init 67 = .ok (.aload_n 0, 1) := by decide +kernel
theorem dX10_init_68 : decode cX10_init 68 = .ok (.getfield 31, 3) := by decide +kernel
theorem dX10_init_71 : decode cX10_init 71 = .ok (.iconst 0, 1) := by decide +kernel
theorem dX10_init_72 : decode cX10_init 72 = .ok (.iconst 2, 1) := by decide +kernel
theorem dX10_init_73 : decode cX10_init 73 = .ok (.iastore, 1) := by decide +kernel
theorem dX10_init_74 : decode cX10_init 74 = .ok (.aload_n 0, 1) := by decide +kernel
theorem dX10_init_75 : decode cX10_init 75 = .ok (.getfield 31, 3) := by decide +kernel
theorem dX10_init_78 : decode cX10_init 78 = .ok (.iconst 1, 1) := by decide +kernel
theorem dX10_init_79 : decode cX10_init 79 = .ok (.iconst 3, 1) := by decide +kernel
theorem dX10_init_80 : decode cX10_init 80 = .ok (.iastore, 1) := by decide +kernel
theorem dX10_init_81 : decode cX10_init 81 = .ok (.aload_n 0, 1) := by decide +kernel
theorem dX10_init_82 : decode cX10_init 82 = .ok (.getfield 31, 3) := by decide +kernel
theorem dX10_init_85 : decode cX10_init 85 = .ok (.iconst 2, 1) := by decide +kernel
theorem dX10_init_86 : decode cX10_init 86 = .ok (.bipush 10, 2) := by decide +kernel
theorem dX10_init_88 : decode cX10_init 88 = .ok (.iastore, 1) := by decide +kernel
theorem dX10_init_89 : decode cX10_init 89 = .ok (.aload_n 0, 1) := by decide +kernel
theorem dX10_init_90 : decode cX10_init 90 = .ok (.getfield 31, 3) := by decide +kernel
theorem dX10_init_93 : decode cX10_init 93 = .ok (.iconst 3, 1) := by decide +kernel
theorem dX10_init_94 : decode cX10_init 94 = .ok (.iconst 5, 1) := by decide +kernel
theorem dX10_init_95 : decode cX10_init 95 = .ok (.iastore, 1) := by decide +kernel
theorem dX10_init_96 : decode cX10_init 96 = .ok (.aload_n 0, 1) := by decide +kernel
theorem dX10_init_97 : decode cX10_init 97 = .ok (.new 35, 3) := by decide +kernel
theorem dX10_init_100 : decode cX10_init 100 = .ok (.dup, 1) := by decide +kernel
theorem dX10_init_101 : decode cX10_init 101 = .ok (.invokespecial 37, 3) := by decide +kernel
theorem dX10_init_104 : decode cX10_init 104 = .ok (.putfield 38, 3) := by decide +kernel
theorem dX10_init_107 : decode cX10_init 107 = .ok (.aload_n 0, 1) := by decide +kernel
theorem dX10_init_108 : decode cX10_init 108 = .ok (.new 42, 3) := by decide +kernel
theorem dX10_init_111 : decode cX10_init 111 = .ok (.dup, 1) := by decide +kernel
theorem dX10_init_112 : decode cX10_init 112 = .ok (.invokespecial 44, 3) := by decide +kernel
theorem dX10_init_115 : decode cX10_init 115 = .ok (.putfield 45, 3) := by decide +kernel
theorem dX10_init_118 : decode cX10_init 118 = .ok (.aload_n 0, 1) := by decide +kernel
theorem dX10_init_119 : decode cX10_init 119 = .ok (.new 42, 3) := by decide +kernel
theorem dX10_init_122 : decode cX10_init 122 = .ok (.dup, 1) := by decide +kernel
theorem dX10_init_123 : decode cX10_init 123 = .ok (.invokespecial 44, 3) := by decide +kernel
theorem dX10_init_126 : decode cX10_init 126 = .ok (.putfield 49, 3) := by decide +kernel
theorem dX10_init_129 : decode cX10_init 129 = .ok (.aload_n 0, 1) := by decide +kernel
theorem dX10_init_130 : decode cX10_init 130 = .ok (.new 52, 3) := by decide +kernel
theorem dX10_init_133 : decode cX10_init 133 = .ok (.dup, 1) := by decide +kernel
theorem dX10_init_134 : decode cX10_init 134 = .ok (.invokespecial 54, 3) := by decide +kernel
theorem dX10_init_137 : decode cX10_init 137 = .ok (.putfield 55, 3) := by decide +kernel
theorem dX10_init_140 : decode cX10_init 140 = .ok (.aload_n 0, 1) := by decide +kernel
theorem dX10_init_141 : decode cX10_init 141 = .ok (.new 59, 3) := by decide +kernel
theorem dX10_init_144 : decode cX10_init 144 = .ok (.dup, 1) := by decide +kernel
theorem dX10_init_145 : decode cX10_init 145 = .ok (.invokespecial 61, 3) := by decide +kernel
theorem dX10_init_148 : decode cX10_init 148 = .ok (.putfield 62, 3) := by decide +kernel
theorem dX10_init_151 : decode cX10_init 151 = .ok (.aload_n 0, 1) := by decide +kernel
theorem dX10_init_152 : decode cX10_init 152 = .ok (.new 66, 3) := by decide +kernel
theorem dX10_init_155 : decode cX10_init 155 = .ok (.dup, 1) := by decide +kernel
theorem dX10_init_156 : decode cX10_init 156 = .ok (.invokespecial 68, 3) := by decide +kernel
theorem dX10_init_159 : decode cX10_init 159 = .ok (.putfield 69, 3) := by decide +kernel
theorem dX10_init_162 : decode cX10_init 162 = .ok (.aload_n 0, 1) := by decide +kernel
theorem dX10_init_163 : decode cX10_init 163 = .ok (.new 73, 3) := by decide +kernel
theorem dX10_init_166 : decode cX10_init 166 = .ok (.dup, 1) := by decide +kernel
theorem dX10_init_167 : decode cX10_init 167 = .ok (.invokespecial 75, 3) := by decide +kernel
theorem dX10_init_170 : decode cX10_init 170 = .ok (.putfield 76, 3) := by decide +kernel
theorem dX10_init_173 : decode cX10_init 173 = .ok (.aload_n 0, 1) := by decide +kernel
theorem dX10_init_174 : decode cX10_init 174 = .ok (.new 80, 3) := by decide +kernel
theorem dX10_init_177 : decode cX10_init 177 = .ok (.dup, 1) := by decide +kernel
theorem dX10_init_178 : decode cX10_init 178 = .ok (.invokespecial 82, 3) := by decide +kernel
theorem dX10_init_181 : decode cX10_init 181 = .ok (.putfield 83, 3) := by decide +kernel
theorem dX10_init_184 : decode cX10_init 184 = .ok (.aload_n 0, 1) := by decide +kernel
theorem dX10_init_185 : decode cX10_init 185 = .ok (.new 87, 3) := by decide +kernel
theorem dX10_init_188 : decode cX10_init 188 = .ok (.dup, 1) := by decide +kernel
theorem dX10_init_189 : decode cX10_init 189 = .ok (.invokespecial 89, 3) := by decide +kernel
theorem dX10_init_192 : decode cX10_init 192 = .ok (.putfield 90, 3) := by decide +kernel
theorem dX10_init_195 : decode cX10_init 195 = .ok (.return_, 1) := by decide +kernel
theorem dX10_feed_0 : decode cX10_feed 0 = .ok (.aload_n 0, 1) := by decide +kernel
theorem dX10_feed_1 : decode cX10_feed 1 = .ok (.getfield 12, 3) := by decide +kernel
theorem dX10_feed_4 : decode cX10_feed 4 = .ok (.getfield 94, 3) := by decide +kernel
theorem dX10_feed_7 : decode cX10_feed 7 = .ok (.bipush 20, 2) := by decide +kernel
theorem dX10_feed_9 : decode cX10_feed 9 = .ok (.iadd, 1) := by decide +kernel
theorem dX10_feed_10 : decode cX10_feed 10 = .ok (.sipush 3000, 3) := by decide +kernel
theorem dX10_feed_13 : decode cX10_feed 13 = .ok (.if_icmp .le 6, 3) := by decide +kernel
theorem dX10_feed_16 : decode cX10_feed 16 = .ok (.bipush (-3), 2) := by decide +kernel
theorem dX10_feed_18 : decode cX10_feed 18 = .ok (.ireturn, 1) := by decide +kernel
theorem dX10_feed_19 : decode cX10_feed 19 = .ok (.aload_n 0, 1) := by decide +kernel
theorem dX10_feed_20 : decode cX10_feed 20 = .ok (.getfield 12, 3) := by decide +kernel
theorem dX10_feed_23 : decode cX10_feed 23 = .ok (.iload_n 1, 1) := by decide +kernel
theorem dX10_feed_24 : decode cX10_feed 24 = .ok (.invokevirtual 98, 3) := by decide +kernel
theorem dX10_feed_27 : decode cX10_feed 27 = .ok (.aload_n 0, 1) := by decide +kernel
theorem dX10_feed_28 : decode cX10_feed 28 = .ok (.getfield 12, 3) := by decide +kernel
theorem dX10_feed_31 : decode cX10_feed 31 = .ok (.iload_n 2, 1) := by decide +kernel
theorem dX10_feed_32 : decode cX10_feed 32 = .ok (.invokevirtual 98, 3) := by decide +kernel
theorem dX10_feed_35 : decode cX10_feed 35 = .ok (.aload_n 0, 1) := by decide +kernel
theorem dX10_feed_36 : decode cX10_feed 36 = .ok (.getfield 12, 3) := by decide +kernel
theorem dX10_feed_39 : decode cX10_feed 39 = .ok (.iload_n 3, 1) := by decide +kernel
theorem dX10_feed_40 : decode cX10_feed 40 = .ok (.invokevirtual 98, 3) := by decide +kernel
theorem dX10_feed_43 : decode cX10_feed 43 = .ok (.aload_n 0, 1) := by decide +kernel
theorem dX10_feed_44 : decode cX10_feed 44 = .ok (.getfield 12, 3) := by decide +kernel
theorem dX10_feed_47 : decode cX10_feed 47 = .ok (.iload 4, 2) := by decide +kernel
theorem dX10_feed_49 : decode cX10_feed 49 = .ok (.invokevirtual 98, 3) := by decide +kernel
theorem dX10_feed_52 : decode cX10_feed 52 = .ok (.aload_n 0, 1) := by decide +kernel
theorem dX10_feed_53 : decode cX10_feed 53 = .ok (.getfield 12, 3) := by decide +kernel
theorem dX10_feed_56 : decode cX10_feed 56 = .ok (.iload 5, 2) := by decide +kernel
theorem dX10_feed_58 : decode cX10_feed 58 = .ok (.invokevirtual 98, 3) := by decide +kernel
theorem dX10_feed_61 : decode cX10_feed 61 = .ok (.aload_n 0, 1) := by decide +kernel
theorem dX10_feed_62 : decode cX10_feed 62 = .ok (.getfield 12, 3) := by decide +kernel
theorem dX10_feed_65 : decode cX10_feed 65 = .ok (.getfield 94, 3) := by decide +kernel
theorem dX10_feed_68 : decode cX10_feed 68 = .ok (.ireturn, 1) := by decide +kernel
theorem dX10_end_0 : decode cX10_end 0 = .ok (.iload_n 1, 1) := by decide +kernel
theorem dX10_end_1 : decode cX10_end 1 = .ok (.ifCond .lt 14, 3) := by decide +kernel
theorem dX10_end_4 : decode cX10_end 4 = .ok (.iload_n 1, 1) := by decide +kernel
theorem dX10_end_5 : decode cX10_end 5 = .ok (.aload_n 0, 1) := by decide +kernel
theorem dX10_end_6 : decode cX10_end 6 = .ok (.getfield 12, 3) := by decide +kernel
theorem dX10_end_9 : decode cX10_end 9 = .ok (.getfield 94, 3) := by decide +kernel
theorem dX10_end_12 : decode cX10_end 12 = .ok (.if_icmp .le 5, 3) := by decide +kernel
theorem dX10_end_15 : decode cX10_end 15 = .ok (.iconst (-1), 1) := by decide +kernel
theorem dX10_end_16 : decode cX10_end 16 = .ok (.ireturn, 1) := by decide +kernel
theorem dX10_end_17 : decode cX10_end 17 = .ok (.aload_n 0, 1) := by decide +kernel
theorem dX10_end_18 : decode cX10_end 18 = .ok (.getfield 12, 3) := by decide +kernel
theorem dX10_end_21 : decode cX10_end 21 = .ok (.iload_n 1, 1) := by decide +kernel
theorem dX10_end_22 : decode cX10_end 22 = .ok (.putfield 94, 3) := by decide +kernel
theorem dX10_end_25 : decode cX10_end 25 = .ok (.iload_n 1, 1) := by decide +kernel
theorem dX10_end_26 : decode cX10_end 26 = .ok (.ireturn, 1) := by decide +kernel
theorem dX10_stop_0 : decode cX10_stop 0 = .ok (.aload_n 0, 1) := by decide +kernel
theorem dX10_stop_1 : decode cX10_stop 1 = .ok (.aload_n 0, 1) := by decide +kernel
theorem dX10_stop_2 : decode cX10_stop 2 = .ok (.getfield 21, 3) := by decide +kernel
theorem dX10_stop_5 : decode cX10_stop 5 = .ok (.invokevirtual 102, 3) := by decide +kernel
theorem dX10_stop_8 : decode cX10_stop 8 = .ok (.ireturn, 1) := by decide +kernel
theorem dX10_sign_0 : decode cX10_sign 0 = .ok (.aload_n 0, 1) := by decide +kernel
theorem dX10_sign_1 : decode cX10_sign 1 = .ok (.getfield 12, 3) := by decide +kernel
theorem dX10_sign_4 : decode cX10_sign 4 = .ok (.bipush 16, 2) := by decide +kernel
theorem dX10_sign_6 : decode cX10_sign 6 = .ok (.invokevirtual 106, 3) := by decide +kernel
theorem dX10_sign_9 : decode cX10_sign 9 = .ok (.istore_n 2, 1) := by decide +kernel
theorem dX10_sign_10 : decode cX10_sign 10 = .ok (.iload_n 2, 1) := by decide +kernel
theorem dX10_sign_11 : decode cX10_sign 11 = .ok (.ifCond .eq 12, 3) := by decide +kernel
theorem dX10_sign_14 : decode cX10_sign 14 = .ok (.iload_n 1, 1) := by decide +kernel
theorem dX10_sign_15 : decode cX10_sign 15 = .ok (.ifCond .lt 8, 3) := by decide +kernel
theorem dX10_sign_18 : decode cX10_sign 18 = .ok (.iload_n 1, 1) := by decide +kernel
theorem dX10_sign_19 : decode cX10_sign 19 = .ok (.iconst 4, 1) := by decide +kernel
theorem dX10_sign_20 : decode cX10_sign 20 = .ok (.if_icmp .le 6, 3) := by decide +kernel
theorem dX10_sign_23 : decode cX10_sign 23 = .ok (.bipush (-2), 2) := by decide +kernel
theorem dX10_sign_25 : decode cX10_sign 25 = .ok (.ireturn, 1) := by decide +kernel
theorem dX10_sign_26 : decode cX10_sign 26 = .ok (.aload_n 0, 1) := by decide +kernel
theorem dX10_sign_27 : decode cX10_sign 27 = .ok (.getfield 25, 3) := by decide +kernel
theorem dX10_sign_30 : decode cX10_sign 30 = .ok (.aload_n 0, 1) := by decide +kernel
theorem dX10_sign_31 : decode cX10_sign 31 = .ok (.getfield 12, 3) := by decide +kernel
theorem dX10_sign_34 : decode cX10_sign 34 = .ok (.getfield 110, 3) := by decide +kernel
theorem dX10_sign_37 : decode cX10_sign 37 = .ok (.iconst 0, 1) := by decide +kernel
theorem dX10_sign_38 : decode cX10_sign 38 = .ok (.iload_n 2, 1) := by decide +kernel
theorem dX10_sign_39 : decode cX10_sign 39 = .ok (.invokevirtual 113, 3) := by decide +kernel
theorem dX10_sign_42 : decode cX10_sign 42 = .ok (.istore_n 3, 1) := by decide +kernel
theorem dX10_sign_43 : decode cX10_sign 43 = .ok (.iload_n 1, 1) := by decide +kernel
theorem dX10_sign_44 : decode cX10_sign 44 = .ok (.ifCond .ne 14, 3) := by decide +kernel
theorem dX10_sign_47 : decode cX10_sign 47 = .ok (.aload_n 0, 1) := by decide +kernel
theorem dX10_sign_48 : decode cX10_sign 48 = .ok (.getfield 25, 3) := by decide +kernel
theorem dX10_sign_51 : decode cX10_sign 51 = .ok (.iload_n 3, 1) := by decide +kernel
theorem dX10_sign_52 : decode cX10_sign 52 = .ok (.invokevirtual 117, 3) := by decide +kernel
theorem dX10_sign_55 : decode cX10_sign 55 = .ok (.goto 49, 3) := by decide +kernel
theorem dX10_sign_58 : decode cX10_sign 58 = .ok (.iload_n 3, 1) := by decide +kernel
theorem dX10_sign_59 : decode cX10_sign 59 = .ok (.ifCond .lt 16, 3) := by decide +kernel
theorem dX10_sign_62 : decode cX10_sign 62 = .ok (.aload_n 0, 1) := by decide +kernel
theorem dX10_sign_63 : decode cX10_sign 63 = .ok (.getfield 25, 3) := by decide +kernel
theorem dX10_sign_66 : decode cX10_sign 66 = .ok (.getfield 120, 3) := by decide +kernel
theorem dX10_sign_69 : decode cX10_sign 69 = .ok (.iload_n 3, 1) := by decide +kernel
theorem dX10_sign_70 : decode cX10_sign 70 = .ok (.iload_n 1, 1) := by decide +kernel
theorem dX10_sign_71 : decode cX10_sign 71 = .ok (.iastore, 1) := by decide +kernel
theorem dX10_sign_72 : decode cX10_sign 72 = .ok (.goto 32, 3) := by decide +kernel
theorem dX10_sign_75 : decode cX10_sign 75 = .ok (.aload_n 0, 1) := by decide +kernel
theorem dX10_sign_76 : decode cX10_sign 76 = .ok (.getfield 25, 3) := by decide +kernel
theorem dX10_sign_79 : decode cX10_sign 79 = .ok (.invokevirtual 123, 3) := by decide +kernel
theorem dX10_sign_82 : decode cX10_sign 82 = .ok (.ifCond .eq 6, 3) := by decide +kernel
theorem dX10_sign_85 : decode cX10_sign 85 = .ok (.bipush (-3), 2) := by decide +kernel
theorem dX10_sign_87 : decode cX10_sign 87 = .ok (.ireturn, 1) := by decide +kernel
theorem dX10_sign_88 : decode cX10_sign 88 = .ok (.aload_n 0, 1) := by decide +kernel
theorem dX10_sign_89 : decode cX10_sign 89 = .ok (.getfield 25, 3) := by decide +kernel
theorem dX10_sign_92 : decode cX10_sign 92 = .ok (.aload_n 0, 1) := by decide +kernel
theorem dX10_sign_93 : decode cX10_sign 93 = .ok (.getfield 12, 3) := by decide +kernel
theorem dX10_sign_96 : decode cX10_sign 96 = .ok (.getfield 110, 3) := by decide +kernel
theorem dX10_sign_99 : decode cX10_sign 99 = .ok (.iload_n 2, 1) := by decide +kernel
theorem dX10_sign_100 : decode cX10_sign 100 = .ok (.iload_n 1, 1) := by decide +kernel
theorem dX10_sign_101 : decode cX10_sign 101 = .ok (.invokevirtual 127, 3) := by decide +kernel
theorem dX10_sign_104 : decode cX10_sign 104 = .ok (.aload_n 0, 1) := by decide +kernel
theorem dX10_sign_105 : decode cX10_sign 105 = .ok (.iconst 1, 1) := by decide +kernel
theorem dX10_sign_106 : decode cX10_sign 106 = .ok (.putfield 131, 3) := by decide +kernel
theorem dX10_sign_109 : decode cX10_sign 109 = .ok (.aload_n 0, 1) := by decide +kernel
theorem dX10_sign_110 : decode cX10_sign 110 = .ok (.getfield 25, 3) := by decide +kernel
theorem dX10_sign_113 : decode cX10_sign 113 = .ok (.getfield 135, 3) := by decide +kernel
theorem dX10_sign_116 : decode cX10_sign 116 = .ok (.ireturn, 1) := by decide +kernel
theorem dX10_ending_0 : decode cX10_ending 0 = .ok (.aload_n 0, 1) := by decide +kernel
theorem dX10_ending_1 : decode cX10_ending 1 = .ok (.aload_n 0, 1) := by decide +kernel
theorem dX10_ending_2 : decode cX10_ending 2 = .ok (.getfield 28, 3) := by decide +kernel
theorem dX10_ending_5 : decode cX10_ending 5 = .ok (.invokevirtual 102, 3) := by decide +kernel
theorem dX10_ending_8 : decode cX10_ending 8 = .ok (.ireturn, 1) := by decide +kernel
theorem dX10_weight_0 : decode cX10_weight 0 = .ok (.iload_n 1, 1) := by decide +kernel
theorem dX10_weight_1 : decode cX10_weight 1 = .ok (.ifCond .lt 18, 3) := by decide +kernel
theorem dX10_weight_4 : decode cX10_weight 4 = .ok (.iload_n 1, 1) := by decide +kernel
theorem dX10_weight_5 : decode cX10_weight 5 = .ok (.iconst 4, 1) := by decide +kernel
theorem dX10_weight_6 : decode cX10_weight 6 = .ok (.if_icmp .ge 13, 3) := by decide +kernel
theorem dX10_weight_9 : decode cX10_weight 9 = .ok (.iload_n 2, 1) := by decide +kernel
theorem dX10_weight_10 : decode cX10_weight 10 = .ok (.ifCond .lt 9, 3) := by decide +kernel
theorem dX10_weight_13 : decode cX10_weight 13 = .ok (.iload_n 2, 1) := by decide +kernel
theorem dX10_weight_14 : decode cX10_weight 14 = .ok (.bipush 50, 2) := by decide +kernel
theorem dX10_weight_16 : decode cX10_weight 16 = .ok (.if_icmp .le 6, 3) := by decide +kernel
theorem dX10_weight_19 : decode cX10_weight 19 = .ok (.bipush (-2), 2) := by decide +kernel
theorem dX10_weight_21 : decode cX10_weight 21 = .ok (.ireturn, 1) := by decide +kernel
theorem dX10_weight_22 : decode cX10_weight 22 = .ok (.aload_n 0, 1) := by decide +kernel
theorem dX10_weight_23 : decode cX10_weight 23 = .ok (.getfield 31, 3) := by decide +kernel
theorem dX10_weight_26 : decode cX10_weight 26 = .ok (.iload_n 1, 1) := by decide +kernel
theorem dX10_weight_27 : decode cX10_weight 27 = .ok (.iaload, 1) := by decide +kernel
theorem dX10_weight_28 : decode cX10_weight 28 = .ok (.istore_n 3, 1) := by decide +kernel
theorem dX10_weight_29 : decode cX10_weight 29 = .ok (.aload_n 0, 1) := by decide +kernel
theorem dX10_weight_30 : decode cX10_weight 30 = .ok (.getfield 31, 3) := by decide +kernel
theorem dX10_weight_33 : decode cX10_weight 33 = .ok (.iload_n 1, 1) := by decide +kernel
theorem dX10_weight_34 : decode cX10_weight 34 = .ok (.iload_n 2, 1) := by decide +kernel
theorem dX10_weight_35 : decode cX10_weight 35 = .ok (.iastore, 1) := by decide +kernel
theorem dX10_weight_36 : decode cX10_weight 36 = .ok (.aload_n 0, 1) := by decide +kernel
theorem dX10_weight_37 : decode cX10_weight 37 = .ok (.iconst 1, 1) := by decide +kernel
theorem dX10_weight_38 : decode cX10_weight 38 = .ok (.putfield 136, 3) := by decide +kernel
theorem dX10_weight_41 : decode cX10_weight 41 = .ok (.iload_n 3, 1) := by decide +kernel
theorem dX10_weight_42 : decode cX10_weight 42 = .ok (.ireturn, 1) := by decide +kernel
theorem dX10_toggle_0 : decode cX10_toggle 0 = .ok (.aload_n 0, 1) := by decide +kernel
theorem dX10_toggle_1 : decode cX10_toggle 1 = .ok (.getfield 12, 3) := by decide +kernel
theorem dX10_toggle_4 : decode cX10_toggle 4 = .ok (.aload_n 1, 1) := by decide +kernel
theorem dX10_toggle_5 : decode cX10_toggle 5 = .ok (.getfield 139, 3) := by decide +kernel
theorem dX10_toggle_8 : decode cX10_toggle 8 = .ok (.invokevirtual 106, 3) := by decide +kernel
theorem dX10_toggle_11 : decode cX10_toggle 11 = .ok (.istore_n 2, 1) := by decide +kernel
theorem dX10_toggle_12 : decode cX10_toggle 12 = .ok (.iload_n 2, 1) := by decide +kernel
theorem dX10_toggle_13 : decode cX10_toggle 13 = .ok (.ifCond .ne 6, 3) := by decide +kernel
theorem dX10_toggle_16 : decode cX10_toggle 16 = .ok (.bipush (-2), 2) := by decide +kernel
theorem dX10_toggle_18 : decode cX10_toggle 18 = .ok (.ireturn, 1) := by decide +kernel
theorem dX10_toggle_19 : decode cX10_toggle 19 = .ok (.aload_n 1, 1) := by decide +kernel
theorem dX10_toggle_20 : decode cX10_toggle 20 = .ok (.aload_n 0, 1) := by decide +kernel
theorem dX10_toggle_21 : decode cX10_toggle 21 = .ok (.getfield 12, 3) := by decide +kernel
theorem dX10_toggle_24 : decode cX10_toggle 24 = .ok (.getfield 110, 3) := by decide +kernel
theorem dX10_toggle_27 : decode cX10_toggle 27 = .ok (.iconst 0, 1) := by decide +kernel
theorem dX10_toggle_28 : decode cX10_toggle 28 = .ok (.iload_n 2, 1) := by decide +kernel
theorem dX10_toggle_29 : decode cX10_toggle 29 = .ok (.invokevirtual 113, 3) := by decide +kernel
theorem dX10_toggle_32 : decode cX10_toggle 32 = .ok (.istore_n 3, 1) := by decide +kernel
theorem dX10_toggle_33 : decode cX10_toggle 33 = .ok (.iload_n 3, 1) := by decide +kernel
theorem dX10_toggle_34 : decode cX10_toggle 34 = .ok (.ifCond .lt 11, 3) := by decide +kernel
theorem dX10_toggle_37 : decode cX10_toggle 37 = .ok (.aload_n 1, 1) := by decide +kernel
theorem dX10_toggle_38 : decode cX10_toggle 38 = .ok (.iload_n 3, 1) := by decide +kernel
theorem dX10_toggle_39 : decode cX10_toggle 39 = .ok (.invokevirtual 117, 3) := by decide +kernel
theorem dX10_toggle_42 : decode cX10_toggle 42 = .ok (.goto 26, 3) := by decide +kernel
theorem dX10_toggle_45 : decode cX10_toggle 45 = .ok (.aload_n 1, 1) := by decide +kernel
theorem dX10_toggle_46 : decode cX10_toggle 46 = .ok (.invokevirtual 123, 3) := by decide +kernel
theorem dX10_toggle_49 : decode cX10_toggle 49 = .ok (.ifCond .eq 6, 3) := by decide +kernel
theorem dX10_toggle_52 : decode cX10_toggle 52 = .ok (.bipush (-3), 2) := by decide +kernel
theorem dX10_toggle_54 : decode cX10_toggle 54 = .ok (.ireturn, 1) := by decide +kernel
theorem dX10_toggle_55 : decode cX10_toggle 55 = .ok (.aload_n 1, 1) := by decide +kernel
theorem dX10_toggle_56 : decode cX10_toggle 56 = .ok (.aload_n 0, 1) := by decide +kernel
theorem dX10_toggle_57 : decode cX10_toggle 57 = .ok (.getfield 12, 3) := by decide +kernel
theorem dX10_toggle_60 : decode cX10_toggle 60 = .ok (.getfield 110, 3) := by decide +kernel
theorem dX10_toggle_63 : decode cX10_toggle 63 = .ok (.iload_n 2, 1) := by decide +kernel
theorem dX10_toggle_64 : decode cX10_toggle 64 = .ok (.iconst 0, 1) := by decide +kernel
theorem dX10_toggle_65 : decode cX10_toggle 65 = .ok (.invokevirtual 127, 3) := by decide +kernel
theorem dX10_toggle_68 : decode cX10_toggle 68 = .ok (.aload_n 0, 1) := by decide +kernel
theorem dX10_toggle_69 : decode cX10_toggle 69 = .ok (.iconst 1, 1) := by decide +kernel
theorem dX10_toggle_70 : decode cX10_toggle 70 = .ok (.putfield 131, 3) := by decide +kernel
theorem dX10_toggle_73 : decode cX10_toggle 73 = .ok (.aload_n 1, 1) := by decide +kernel
theorem dX10_toggle_74 : decode cX10_toggle 74 = .ok (.getfield 135, 3) := by decide +kernel
theorem dX10_toggle_77 : decode cX10_toggle 77 = .ok (.ireturn, 1) := by decide +kernel
theorem dX10_read_0 : decode cX10_read 0 = .ok (.aload_n 0, 1) := by decide +kernel
theorem dX10_read_1 : decode cX10_read 1 = .ok (.getfield 38, 3) := by decide +kernel
theorem dX10_read_4 : decode cX10_read 4 = .ok (.aload_n 0, 1) := by decide +kernel
theorem dX10_read_5 : decode cX10_read 5 = .ok (.getfield 12, 3) := by decide +kernel
theorem dX10_read_8 : decode cX10_read 8 = .ok (.aload_n 0, 1) := by decide +kernel
theorem dX10_read_9 : decode cX10_read 9 = .ok (.getfield 49, 3) := by decide +kernel
theorem dX10_read_12 : decode cX10_read 12 = .ok (.invokevirtual 142, 3) := by decide +kernel
theorem dX10_read_15 : decode cX10_read 15 = .ok (.aload_n 0, 1) := by decide +kernel
theorem dX10_read_16 : decode cX10_read 16 = .ok (.getfield 12, 3) := by decide +kernel
theorem dX10_read_19 : decode cX10_read 19 = .ok (.iconst 0, 1) := by decide +kernel
theorem dX10_read_20 : decode cX10_read 20 = .ok (.putfield 94, 3) := by decide +kernel
theorem dX10_read_23 : decode cX10_read 23 = .ok (.aload_n 0, 1) := by decide +kernel
theorem dX10_read_24 : decode cX10_read 24 = .ok (.getfield 38, 3) := by decide +kernel
theorem dX10_read_27 : decode cX10_read 27 = .ok (.getfield 146, 3) := by decide +kernel
theorem dX10_read_30 : decode cX10_read 30 = .ok (.ifCond .eq 5, 3) := by decide +kernel
theorem dX10_read_33 : decode cX10_read 33 = .ok (.iconst (-1), 1) := by decide +kernel
theorem dX10_read_34 : decode cX10_read 34 = .ok (.ireturn, 1) := by decide +kernel
theorem dX10_read_35 : decode cX10_read 35 = .ok (.aload_n 0, 1) := by decide +kernel
theorem dX10_read_36 : decode cX10_read 36 = .ok (.getfield 45, 3) := by decide +kernel
theorem dX10_read_39 : decode cX10_read 39 = .ok (.astore_n 1, 1) := by decide +kernel
theorem dX10_read_40 : decode cX10_read 40 = .ok (.aload_n 0, 1) := by decide +kernel
theorem dX10_read_41 : decode cX10_read 41 = .ok (.aload_n 0, 1) := by decide +kernel
theorem dX10_read_42 : decode cX10_read 42 = .ok (.getfield 49, 3) := by decide +kernel
theorem dX10_read_45 : decode cX10_read 45 = .ok (.putfield 45, 3) := by decide +kernel
theorem dX10_read_48 : decode cX10_read 48 = .ok (.aload_n 0, 1) := by decide +kernel
theorem dX10_read_49 : decode cX10_read 49 = .ok (.aload_n 1, 1) := by decide +kernel
theorem dX10_read_50 : decode cX10_read 50 = .ok (.putfield 49, 3) := by decide +kernel
theorem dX10_read_53 : decode cX10_read 53 = .ok (.aload_n 0, 1) := by decide +kernel
theorem dX10_read_54 : decode cX10_read 54 = .ok (.getfield 62, 3) := by decide +kernel
theorem dX10_read_57 : decode cX10_read 57 = .ok (.aload_n 0, 1) := by decide +kernel
theorem dX10_read_58 : decode cX10_read 58 = .ok (.getfield 45, 3) := by decide +kernel
theorem dX10_read_61 : decode cX10_read 61 = .ok (.getfield 149, 3) := by decide +kernel
theorem dX10_read_64 : decode cX10_read 64 = .ok (.invokevirtual 152, 3) := by decide +kernel
theorem dX10_read_67 : decode cX10_read 67 = .ok (.aload_n 0, 1) := by decide +kernel
theorem dX10_read_68 : decode cX10_read 68 = .ok (.getfield 83, 3) := by decide +kernel
theorem dX10_read_71 : decode cX10_read 71 = .ok (.iconst 0, 1) := by decide +kernel
theorem dX10_read_72 : decode cX10_read 72 = .ok (.putfield 155, 3) := by decide +kernel
theorem dX10_read_75 : decode cX10_read 75 = .ok (.aload_n 0, 1) := by decide +kernel
theorem dX10_read_76 : decode cX10_read 76 = .ok (.iconst 1, 1) := by decide +kernel
theorem dX10_read_77 : decode cX10_read 77 = .ok (.putfield 131, 3) := by decide +kernel
theorem dX10_read_80 : decode cX10_read 80 = .ok (.aload_n 0, 1) := by decide +kernel
theorem dX10_read_81 : decode cX10_read 81 = .ok (.getfield 45, 3) := by decide +kernel
theorem dX10_read_84 : decode cX10_read 84 = .ok (.getfield 149, 3) := by decide +kernel
theorem dX10_read_87 : decode cX10_read 87 = .ok (.ireturn, 1) := by decide +kernel
theorem dX10_fault_0 : decode cX10_fault 0 = .ok (.iload_n 1, 1) := by decide +kernel
theorem dX10_fault_1 : decode cX10_fault 1 = .ok (.ifCond .ne 11, 3) := by decide +kernel
theorem dX10_fault_4 : decode cX10_fault 4 = .ok (.aload_n 0, 1) := by decide +kernel
theorem dX10_fault_5 : decode cX10_fault 5 = .ok (.getfield 38, 3) := by decide +kernel
theorem dX10_fault_8 : decode cX10_fault 8 = .ok (.getfield 146, 3) := by decide +kernel
theorem dX10_fault_11 : decode cX10_fault 11 = .ok (.ireturn, 1) := by decide +kernel
theorem dX10_fault_12 : decode cX10_fault 12 = .ok (.iload_n 1, 1) := by decide +kernel
theorem dX10_fault_13 : decode cX10_fault 13 = .ok (.iconst 1, 1) := by decide +kernel
theorem dX10_fault_14 : decode cX10_fault 14 = .ok (.if_icmp .ne 13, 3) := by decide +kernel
theorem dX10_fault_17 : decode cX10_fault 17 = .ok (.aload_n 0, 1) := by decide +kernel
theorem dX10_fault_18 : decode cX10_fault 18 = .ok (.getfield 38, 3) := by decide +kernel
theorem dX10_fault_21 : decode cX10_fault 21 = .ok (.getfield 156, 3) := by decide +kernel
theorem dX10_fault_24 : decode cX10_fault 24 = .ok (.goto 4, 3) := by decide +kernel
theorem dX10_fault_27 : decode cX10_fault 27 = .ok (.iconst (-1), 1) := by decide +kernel
theorem dX10_fault_28 : decode cX10_fault 28 = .ok (.ireturn, 1) := by decide +kernel
theorem dX10_sentence_0 : decode cX10_sentence 0 = .ok (.aload_n 0, 1) := by decide +kernel
theorem dX10_sentence_1 : decode cX10_sentence 1 = .ok (.iload_n 1, 1) := by decide +kernel
theorem dX10_sentence_2 : decode cX10_sentence 2 = .ok (.invokevirtual 159, 3) := by decide +kernel
theorem dX10_sentence_5 : decode cX10_sentence 5 = .ok (.ifCond .eq 6, 3) := by decide +kernel
theorem dX10_sentence_8 : decode cX10_sentence 8 = .ok (.bipush (-2), 2) := by decide +kernel
theorem dX10_sentence_10 : decode cX10_sentence 10 = .ok (.ireturn, 1) := by decide +kernel
theorem dX10_sentence_11 : decode cX10_sentence 11 = .ok (.aload_n 0, 1) := by decide +kernel
theorem dX10_sentence_12 : decode cX10_sentence 12 = .ok (.invokevirtual 163, 3) := by decide +kernel
theorem dX10_sentence_15 : decode cX10_sentence 15 = .ok (.aload_n 0, 1) := by decide +kernel
theorem dX10_sentence_16 : decode cX10_sentence 16 = .ok (.getfield 62, 3) := by decide +kernel
theorem dX10_sentence_19 : decode cX10_sentence 19 = .ok (.getfield 166, 3) := by decide +kernel
theorem dX10_sentence_22 : decode cX10_sentence 22 = .ok (.iload_n 1, 1) := by decide +kernel
theorem dX10_sentence_23 : decode cX10_sentence 23 = .ok (.iaload, 1) := by decide +kernel
theorem dX10_sentence_24 : decode cX10_sentence 24 = .ok (.istore_n 3, 1) := by decide +kernel
theorem dX10_sentence_25 : decode cX10_sentence 25 = .ok (.iload_n 2, 1) := by decide +kernel
theorem dX10_sentence_26 : decode cX10_sentence 26 = .ok (.tableswitch 118 0 7 #[46, 56, 66, 76, 86, 96, 106, 116], 46) := by decide +kernel
theorem dX10_sentence_72 : decode cX10_sentence 72 = .ok (.aload_n 0, 1) := by decide +kernel
theorem dX10_sentence_73 : decode cX10_sentence 73 = .ok (.getfield 45, 3) := by decide +kernel
theorem dX10_sentence_76 : decode cX10_sentence 76 = .ok (.getfield 169, 3) := by decide +kernel
theorem dX10_sentence_79 : decode cX10_sentence 79 = .ok (.iload_n 3, 1) := by decide +kernel
theorem dX10_sentence_80 : decode cX10_sentence 80 = .ok (.iaload, 1) := by decide +kernel
theorem dX10_sentence_81 : decode cX10_sentence 81 = .ok (.ireturn, 1) := by decide +kernel
theorem dX10_sentence_82 : decode cX10_sentence 82 = .ok (.aload_n 0, 1) := by decide +kernel
theorem dX10_sentence_83 : decode cX10_sentence 83 = .ok (.getfield 55, 3) := by decide +kernel
theorem dX10_sentence_86 : decode cX10_sentence 86 = .ok (.getfield 172, 3) := by decide +kernel
theorem dX10_sentence_89 : decode cX10_sentence 89 = .ok (.iload_n 3, 1) := by decide +kernel
theorem dX10_sentence_90 : decode cX10_sentence 90 = .ok (.iaload, 1) := by decide +kernel
theorem dX10_sentence_91 : decode cX10_sentence 91 = .ok (.ireturn, 1) := by decide +kernel
theorem dX10_sentence_92 : decode cX10_sentence 92 = .ok (.aload_n 0, 1) := by decide +kernel
theorem dX10_sentence_93 : decode cX10_sentence 93 = .ok (.getfield 55, 3) := by decide +kernel
theorem dX10_sentence_96 : decode cX10_sentence 96 = .ok (.getfield 175, 3) := by decide +kernel
theorem dX10_sentence_99 : decode cX10_sentence 99 = .ok (.iload_n 3, 1) := by decide +kernel
theorem dX10_sentence_100 : decode cX10_sentence 100 = .ok (.iaload, 1) := by decide +kernel
theorem dX10_sentence_101 : decode cX10_sentence 101 = .ok (.ireturn, 1) := by decide +kernel
theorem dX10_sentence_102 : decode cX10_sentence 102 = .ok (.aload_n 0, 1) := by decide +kernel
theorem dX10_sentence_103 : decode cX10_sentence 103 = .ok (.getfield 45, 3) := by decide +kernel
theorem dX10_sentence_106 : decode cX10_sentence 106 = .ok (.getfield 178, 3) := by decide +kernel
theorem dX10_sentence_109 : decode cX10_sentence 109 = .ok (.iload_n 1, 1) := by decide +kernel
theorem dX10_sentence_110 : decode cX10_sentence 110 = .ok (.iaload, 1) := by decide +kernel
theorem dX10_sentence_111 : decode cX10_sentence 111 = .ok (.ireturn, 1) := by decide +kernel
theorem dX10_sentence_112 : decode cX10_sentence 112 = .ok (.aload_n 0, 1) := by decide +kernel
theorem dX10_sentence_113 : decode cX10_sentence 113 = .ok (.getfield 76, 3) := by decide +kernel
theorem dX10_sentence_116 : decode cX10_sentence 116 = .ok (.getfield 181, 3) := by decide +kernel
theorem dX10_sentence_119 : decode cX10_sentence 119 = .ok (.iload_n 1, 1) := by decide +kernel
theorem dX10_sentence_120 : decode cX10_sentence 120 = .ok (.iaload, 1) := by decide +kernel
theorem dX10_sentence_121 : decode cX10_sentence 121 = .ok (.ireturn, 1) := by decide +kernel
theorem dX10_sentence_122 : decode cX10_sentence 122 = .ok (.aload_n 0, 1) := by decide +kernel
theorem dX10_sentence_123 : decode cX10_sentence 123 = .ok (.getfield 76, 3) := by decide +kernel
theorem dX10_sentence_126 : decode cX10_sentence 126 = .ok (.getfield 184, 3) := by decide +kernel
theorem dX10_sentence_129 : decode cX10_sentence 129 = .ok (.iload_n 1, 1) := by decide +kernel
theorem dX10_sentence_130 : decode cX10_sentence 130 = .ok (.iaload, 1) := by decide +kernel
theorem dX10_sentence_131 : decode cX10_sentence 131 = .ok (.ireturn, 1) := by decide +kernel
theorem dX10_sentence_132 : decode cX10_sentence 132 = .ok (.aload_n 0, 1) := by decide +kernel
theorem dX10_sentence_133 : decode cX10_sentence 133 = .ok (.getfield 76, 3) := by decide +kernel
theorem dX10_sentence_136 : decode cX10_sentence 136 = .ok (.getfield 187, 3) := by decide +kernel
theorem dX10_sentence_139 : decode cX10_sentence 139 = .ok (.iload_n 1, 1) := by decide +kernel
theorem dX10_sentence_140 : decode cX10_sentence 140 = .ok (.iaload, 1) := by decide +kernel
theorem dX10_sentence_141 : decode cX10_sentence 141 = .ok (.ireturn, 1) := by decide +kernel
theorem dX10_sentence_142 : decode cX10_sentence 142 = .ok (.iload_n 3, 1) := by decide +kernel
theorem dX10_sentence_143 : decode cX10_sentence 143 = .ok (.ireturn, 1) := by decide +kernel
theorem dX10_sentence_144 : decode cX10_sentence 144 = .ok (.bipush (-2), 2) := by decide +kernel
theorem dX10_sentence_146 : decode cX10_sentence 146 = .ok (.ireturn, 1) := by decide +kernel
theorem dX10_word_0 : decode cX10_word 0 = .ok (.aload_n 0, 1) := by decide +kernel
theorem dX10_word_1 : decode cX10_word 1 = .ok (.iload_n 1, 1) := by decide +kernel
theorem dX10_word_2 : decode cX10_word 2 = .ok (.invokevirtual 159, 3) := by decide +kernel
theorem dX10_word_5 : decode cX10_word 5 = .ok (.ifCond .eq 5, 3) := by decide +kernel
theorem dX10_word_8 : decode cX10_word 8 = .ok (.iconst (-1), 1) := by decide +kernel
theorem dX10_word_9 : decode cX10_word 9 = .ok (.ireturn, 1) := by decide +kernel
theorem dX10_word_10 : decode cX10_word 10 = .ok (.aload_n 0, 1) := by decide +kernel
theorem dX10_word_11 : decode cX10_word 11 = .ok (.getfield 62, 3) := by decide +kernel
theorem dX10_word_14 : decode cX10_word 14 = .ok (.getfield 166, 3) := by decide +kernel
theorem dX10_word_17 : decode cX10_word 17 = .ok (.iload_n 1, 1) := by decide +kernel
theorem dX10_word_18 : decode cX10_word 18 = .ok (.iaload, 1) := by decide +kernel
theorem dX10_word_19 : decode cX10_word 19 = .ok (.istore 4, 2) := by decide +kernel
theorem dX10_word_21 : decode cX10_word 21 = .ok (.iload_n 2, 1) := by decide +kernel
theorem dX10_word_22 : decode cX10_word 22 = .ok (.ifCond .lt 17, 3) := by decide +kernel
theorem dX10_word_25 : decode cX10_word 25 = .ok (.iload_n 2, 1) := by decide +kernel
theorem dX10_word_26 : decode cX10_word 26 = .ok (.aload_n 0, 1) := by decide +kernel
theorem dX10_word_27 : decode cX10_word 27 = .ok (.getfield 45, 3) := by decide +kernel
theorem dX10_word_30 : decode cX10_word 30 = .ok (.getfield 169, 3) := by decide +kernel
theorem dX10_word_33 : decode cX10_word 33 = .ok (.iload 4, 2) := by decide +kernel
theorem dX10_word_35 : decode cX10_word 35 = .ok (.iaload, 1) := by decide +kernel
theorem dX10_word_36 : decode cX10_word 36 = .ok (.if_icmp .lt 5, 3) := by decide +kernel
theorem dX10_word_39 : decode cX10_word 39 = .ok (.iconst (-1), 1) := by decide +kernel
theorem dX10_word_40 : decode cX10_word 40 = .ok (.ireturn, 1) := by decide +kernel
theorem dX10_word_41 : decode cX10_word 41 = .ok (.aload_n 0, 1) := by decide +kernel
theorem dX10_word_42 : decode cX10_word 42 = .ok (.getfield 45, 3) := by decide +kernel
theorem dX10_word_45 : decode cX10_word 45 = .ok (.getfield 190, 3) := by decide +kernel
theorem dX10_word_48 : decode cX10_word 48 = .ok (.iload 4, 2) := by decide +kernel
theorem dX10_word_50 : decode cX10_word 50 = .ok (.iaload, 1) := by decide +kernel
theorem dX10_word_51 : decode cX10_word 51 = .ok (.iload_n 2, 1) := by decide +kernel
theorem dX10_word_52 : decode cX10_word 52 = .ok (.iadd, 1) := by decide +kernel
theorem dX10_word_53 : decode cX10_word 53 = .ok (.istore 5, 2) := by decide +kernel
theorem dX10_word_55 : decode cX10_word 55 = .ok (.iload_n 3, 1) := by decide +kernel
theorem dX10_word_56 : decode cX10_word 56 = .ok (.ifCond .lt 17, 3) := by decide +kernel
theorem dX10_word_59 : decode cX10_word 59 = .ok (.iload_n 3, 1) := by decide +kernel
theorem dX10_word_60 : decode cX10_word 60 = .ok (.aload_n 0, 1) := by decide +kernel
theorem dX10_word_61 : decode cX10_word 61 = .ok (.getfield 45, 3) := by decide +kernel
theorem dX10_word_64 : decode cX10_word 64 = .ok (.getfield 193, 3) := by decide +kernel
theorem dX10_word_67 : decode cX10_word 67 = .ok (.iload 5, 2) := by decide +kernel
theorem dX10_word_69 : decode cX10_word 69 = .ok (.iaload, 1) := by decide +kernel
theorem dX10_word_70 : decode cX10_word 70 = .ok (.if_icmp .lt 5, 3) := by decide +kernel
theorem dX10_word_73 : decode cX10_word 73 = .ok (.iconst (-1), 1) := by decide +kernel
theorem dX10_word_74 : decode cX10_word 74 = .ok (.ireturn, 1) := by decide +kernel
theorem dX10_word_75 : decode cX10_word 75 = .ok (.aload_n 0, 1) := by decide +kernel
theorem dX10_word_76 : decode cX10_word 76 = .ok (.getfield 45, 3) := by decide +kernel
theorem dX10_word_79 : decode cX10_word 79 = .ok (.getfield 196, 3) := by decide +kernel
theorem dX10_word_82 : decode cX10_word 82 = .ok (.aload_n 0, 1) := by decide +kernel
theorem dX10_word_83 : decode cX10_word 83 = .ok (.getfield 45, 3) := by decide +kernel
theorem dX10_word_86 : decode cX10_word 86 = .ok (.getfield 199, 3) := by decide +kernel
theorem dX10_word_89 : decode cX10_word 89 = .ok (.iload 5, 2) := by decide +kernel
theorem dX10_word_91 : decode cX10_word 91 = .ok (.iaload, 1) := by decide +kernel
theorem dX10_word_92 : decode cX10_word 92 = .ok (.iload_n 3, 1) := by decide +kernel
theorem dX10_word_93 : decode cX10_word 93 = .ok (.iadd, 1) := by decide +kernel
theorem dX10_word_94 : decode cX10_word 94 = .ok (.iaload, 1) := by decide +kernel
theorem dX10_word_95 : decode cX10_word 95 = .ok (.ireturn, 1) := by decide +kernel
theorem dX10_shared_0 : decode cX10_shared 0 = .ok (.aload_n 0, 1) := by decide +kernel
theorem dX10_shared_1 : decode cX10_shared 1 = .ok (.iload_n 1, 1) := by decide +kernel
theorem dX10_shared_2 : decode cX10_shared 2 = .ok (.invokevirtual 159, 3) := by decide +kernel
theorem dX10_shared_5 : decode cX10_shared 5 = .ok (.ifCond .ne 11, 3) := by decide +kernel
theorem dX10_shared_8 : decode cX10_shared 8 = .ok (.aload_n 0, 1) := by decide +kernel
theorem dX10_shared_9 : decode cX10_shared 9 = .ok (.iload_n 2, 1) := by decide +kernel
theorem dX10_shared_10 : decode cX10_shared 10 = .ok (.invokevirtual 159, 3) := by decide +kernel
theorem dX10_shared_13 : decode cX10_shared 13 = .ok (.ifCond .eq 6, 3) := by decide +kernel
theorem dX10_shared_16 : decode cX10_shared 16 = .ok (.bipush (-2), 2) := by decide +kernel
theorem dX10_shared_18 : decode cX10_shared 18 = .ok (.ireturn, 1) := by decide +kernel
theorem dX10_shared_19 : decode cX10_shared 19 = .ok (.aload_n 0, 1) := by decide +kernel
theorem dX10_shared_20 : decode cX10_shared 20 = .ok (.invokevirtual 202, 3) := by decide +kernel
theorem dX10_shared_23 : decode cX10_shared 23 = .ok (.aload_n 0, 1) := by decide +kernel
theorem dX10_shared_24 : decode cX10_shared 24 = .ok (.iload_n 1, 1) := by decide +kernel
theorem dX10_shared_25 : decode cX10_shared 25 = .ok (.iload_n 2, 1) := by decide +kernel
theorem dX10_shared_26 : decode cX10_shared 26 = .ok (.invokevirtual 205, 3) := by decide +kernel
theorem dX10_shared_29 : decode cX10_shared 29 = .ok (.ireturn, 1) := by decide +kernel
theorem dX10_isNoSentence_0 : decode cX10_isNoSentence 0 = .ok (.iload_n 1, 1) := by decide +kernel
theorem dX10_isNoSentence_1 : decode cX10_isNoSentence 1 = .ok (.ifCond .lt 14, 3) := by decide +kernel
theorem dX10_isNoSentence_4 : decode cX10_isNoSentence 4 = .ok (.iload_n 1, 1) := by decide +kernel
theorem dX10_isNoSentence_5 : decode cX10_isNoSentence 5 = .ok (.aload_n 0, 1) := by decide +kernel
theorem dX10_isNoSentence_6 : decode cX10_isNoSentence 6 = .ok (.getfield 45, 3) := by decide +kernel
theorem dX10_isNoSentence_9 : decode cX10_isNoSentence 9 = .ok (.getfield 149, 3) := by decide +kernel
theorem dX10_isNoSentence_12 : decode cX10_isNoSentence 12 = .ok (.if_icmp .lt 7, 3) := by decide +kernel
theorem dX10_isNoSentence_15 : decode cX10_isNoSentence 15 = .ok (.iconst 1, 1) := by decide +kernel
theorem dX10_isNoSentence_16 : decode cX10_isNoSentence 16 = .ok (.goto 4, 3) := by decide +kernel
theorem dX10_isNoSentence_19 : decode cX10_isNoSentence 19 = .ok (.iconst 0, 1) := by decide +kernel
theorem dX10_isNoSentence_20 : decode cX10_isNoSentence 20 = .ok (.ireturn, 1) := by decide +kernel
theorem dX10_sharedKeys_0 : decode cX10_sharedKeys 0 = .ok (.aload_n 0, 1) := by decide +kernel
theorem dX10_sharedKeys_1 : decode cX10_sharedKeys 1 = .ok (.getfield 55, 3) := by decide +kernel
theorem dX10_sharedKeys_4 : decode cX10_sharedKeys 4 = .ok (.getfield 209, 3) := by decide +kernel
theorem dX10_sharedKeys_7 : decode cX10_sharedKeys 7 = .ok (.aload_n 0, 1) := by decide +kernel
theorem dX10_sharedKeys_8 : decode cX10_sharedKeys 8 = .ok (.getfield 62, 3) := by decide +kernel
theorem dX10_sharedKeys_11 : decode cX10_sharedKeys 11 = .ok (.getfield 166, 3) := by decide +kernel
theorem dX10_sharedKeys_14 : decode cX10_sharedKeys 14 = .ok (.iload_n 1, 1) := by decide +kernel
theorem dX10_sharedKeys_15 : decode cX10_sharedKeys 15 = .ok (.iaload, 1) := by decide +kernel
theorem dX10_sharedKeys_16 : decode cX10_sharedKeys 16 = .ok (.bipush 24, 2) := by decide +kernel
theorem dX10_sharedKeys_18 : decode cX10_sharedKeys 18 = .ok (.imul, 1) := by decide +kernel
theorem dX10_sharedKeys_19 : decode cX10_sharedKeys 19 = .ok (.aload_n 0, 1) := by decide +kernel
theorem dX10_sharedKeys_20 : decode cX10_sharedKeys 20 = .ok (.getfield 62, 3) := by decide +kernel
theorem dX10_sharedKeys_23 : decode cX10_sharedKeys 23 = .ok (.getfield 166, 3) := by decide +kernel
theorem dX10_sharedKeys_26 : decode cX10_sharedKeys 26 = .ok (.iload_n 2, 1) := by decide +kernel
theorem dX10_sharedKeys_27 : decode cX10_sharedKeys 27 = .ok (.iaload, 1) := by decide +kernel
theorem dX10_sharedKeys_28 : decode cX10_sharedKeys 28 = .ok (.iadd, 1) := by decide +kernel
theorem dX10_sharedKeys_29 : decode cX10_sharedKeys 29 = .ok (.iaload, 1) := by decide +kernel
theorem dX10_sharedKeys_30 : decode cX10_sharedKeys 30 = .ok (.ireturn, 1) := by decide +kernel
theorem dX10_kindAt_0 : decode cX10_kindAt 0 = .ok (.aload_n 0, 1) := by decide +kernel
theorem dX10_kindAt_1 : decode cX10_kindAt 1 = .ok (.getfield 55, 3) := by decide +kernel
theorem dX10_kindAt_4 : decode cX10_kindAt 4 = .ok (.getfield 175, 3) := by decide +kernel
theorem dX10_kindAt_7 : decode cX10_kindAt 7 = .ok (.aload_n 0, 1) := by decide +kernel
theorem dX10_kindAt_8 : decode cX10_kindAt 8 = .ok (.getfield 62, 3) := by decide +kernel
theorem dX10_kindAt_11 : decode cX10_kindAt 11 = .ok (.getfield 166, 3) := by decide +kernel
theorem dX10_kindAt_14 : decode cX10_kindAt 14 = .ok (.iload_n 1, 1) := by decide +kernel
theorem dX10_kindAt_15 : decode cX10_kindAt 15 = .ok (.iaload, 1) := by decide +kernel
theorem dX10_kindAt_16 : decode cX10_kindAt 16 = .ok (.iaload, 1) := by decide +kernel
theorem dX10_kindAt_17 : decode cX10_kindAt 17 = .ok (.ireturn, 1) := by decide +kernel
theorem dX10_refreshKeys_0 : decode cX10_refreshKeys 0 = .ok (.aload_n 0, 1) := by decide +kernel
theorem dX10_refreshKeys_1 : decode cX10_refreshKeys 1 = .ok (.getfield 131, 3) := by decide +kernel
theorem dX10_refreshKeys_4 : decode cX10_refreshKeys 4 = .ok (.ifCond .eq 36, 3) := by decide +kernel
theorem dX10_refreshKeys_7 : decode cX10_refreshKeys 7 = .ok (.aload_n 0, 1) := by decide +kernel
theorem dX10_refreshKeys_8 : decode cX10_refreshKeys 8 = .ok (.getfield 55, 3) := by decide +kernel
theorem dX10_refreshKeys_11 : decode cX10_refreshKeys 11 = .ok (.aload_n 0, 1) := by decide +kernel
theorem dX10_refreshKeys_12 : decode cX10_refreshKeys 12 = .ok (.getfield 45, 3) := by decide +kernel
theorem dX10_refreshKeys_15 : decode cX10_refreshKeys 15 = .ok (.aload_n 0, 1) := by decide +kernel
theorem dX10_refreshKeys_16 : decode cX10_refreshKeys 16 = .ok (.getfield 21, 3) := by decide +kernel
theorem dX10_refreshKeys_19 : decode cX10_refreshKeys 19 = .ok (.aload_n 0, 1) := by decide +kernel
theorem dX10_refreshKeys_20 : decode cX10_refreshKeys 20 = .ok (.getfield 25, 3) := by decide +kernel
theorem dX10_refreshKeys_23 : decode cX10_refreshKeys 23 = .ok (.aload_n 0, 1) := by decide +kernel
theorem dX10_refreshKeys_24 : decode cX10_refreshKeys 24 = .ok (.getfield 28, 3) := by decide +kernel
theorem dX10_refreshKeys_27 : decode cX10_refreshKeys 27 = .ok (.invokevirtual 212, 3) := by decide +kernel
theorem dX10_refreshKeys_30 : decode cX10_refreshKeys 30 = .ok (.aload_n 0, 1) := by decide +kernel
theorem dX10_refreshKeys_31 : decode cX10_refreshKeys 31 = .ok (.iconst 0, 1) := by decide +kernel
theorem dX10_refreshKeys_32 : decode cX10_refreshKeys 32 = .ok (.putfield 131, 3) := by decide +kernel
theorem dX10_refreshKeys_35 : decode cX10_refreshKeys 35 = .ok (.aload_n 0, 1) := by decide +kernel
theorem dX10_refreshKeys_36 : decode cX10_refreshKeys 36 = .ok (.iconst 1, 1) := by decide +kernel
theorem dX10_refreshKeys_37 : decode cX10_refreshKeys 37 = .ok (.putfield 136, 3) := by decide +kernel
theorem dX10_refreshKeys_40 : decode cX10_refreshKeys 40 = .ok (.return_, 1) := by decide +kernel
theorem dX10_cost_0 : decode cX10_cost 0 = .ok (.aload_n 0, 1) := by decide +kernel
theorem dX10_cost_1 : decode cX10_cost 1 = .ok (.iload_n 1, 1) := by decide +kernel
theorem dX10_cost_2 : decode cX10_cost 2 = .ok (.invokevirtual 159, 3) := by decide +kernel
theorem dX10_cost_5 : decode cX10_cost 5 = .ok (.ifCond .ne 16, 3) := by decide +kernel
theorem dX10_cost_8 : decode cX10_cost 8 = .ok (.aload_n 0, 1) := by decide +kernel
theorem dX10_cost_9 : decode cX10_cost 9 = .ok (.iload_n 2, 1) := by decide +kernel
theorem dX10_cost_10 : decode cX10_cost 10 = .ok (.invokevirtual 159, 3) := by decide +kernel
theorem dX10_cost_13 : decode cX10_cost 13 = .ok (.ifCond .ne 8, 3) := by decide +kernel
theorem dX10_cost_16 : decode cX10_cost 16 = .ok (.iload_n 1, 1) := by decide +kernel
theorem dX10_cost_17 : decode cX10_cost 17 = .ok (.iload_n 2, 1) := by decide +kernel
theorem dX10_cost_18 : decode cX10_cost 18 = .ok (.if_icmp .ne 6, 3) := by decide +kernel
theorem dX10_cost_21 : decode cX10_cost 21 = .ok (.bipush (-2), 2) := by decide +kernel
theorem dX10_cost_23 : decode cX10_cost 23 = .ok (.ireturn, 1) := by decide +kernel
theorem dX10_cost_24 : decode cX10_cost 24 = .ok (.aload_n 0, 1) := by decide +kernel
theorem dX10_cost_25 : decode cX10_cost 25 = .ok (.invokevirtual 202, 3) := by decide +kernel
theorem dX10_cost_28 : decode cX10_cost 28 = .ok (.aload_n 0, 1) := by decide +kernel
theorem dX10_cost_29 : decode cX10_cost 29 = .ok (.iload_n 1, 1) := by decide +kernel
theorem dX10_cost_30 : decode cX10_cost 30 = .ok (.iload_n 2, 1) := by decide +kernel
theorem dX10_cost_31 : decode cX10_cost 31 = .ok (.invokevirtual 216, 3) := by decide +kernel
theorem dX10_cost_34 : decode cX10_cost 34 = .ok (.ireturn, 1) := by decide +kernel
theorem dX10_tree_0 : decode cX10_tree 0 = .ok (.aload_n 0, 1) := by decide +kernel
theorem dX10_tree_1 : decode cX10_tree 1 = .ok (.getfield 45, 3) := by decide +kernel
theorem dX10_tree_4 : decode cX10_tree 4 = .ok (.getfield 149, 3) := by decide +kernel
theorem dX10_tree_7 : decode cX10_tree 7 = .ok (.ifCond .ne 5, 3) := by decide +kernel
theorem dX10_tree_10 : decode cX10_tree 10 = .ok (.iconst (-1), 1) := by decide +kernel
theorem dX10_tree_11 : decode cX10_tree 11 = .ok (.ireturn, 1) := by decide +kernel
theorem dX10_tree_12 : decode cX10_tree 12 = .ok (.aload_n 0, 1) := by decide +kernel
theorem dX10_tree_13 : decode cX10_tree 13 = .ok (.invokevirtual 163, 3) := by decide +kernel
theorem dX10_tree_16 : decode cX10_tree 16 = .ok (.aload_n 0, 1) := by decide +kernel
theorem dX10_tree_17 : decode cX10_tree 17 = .ok (.getfield 69, 3) := by decide +kernel
theorem dX10_tree_20 : decode cX10_tree 20 = .ok (.invokevirtual 219, 3) := by decide +kernel
theorem dX10_tree_23 : decode cX10_tree 23 = .ok (.ireturn, 1) := by decide +kernel
theorem dX10_next_0 : decode cX10_next 0 = .ok (.aload_n 0, 1) := by decide +kernel
theorem dX10_next_1 : decode cX10_next 1 = .ok (.getfield 45, 3) := by decide +kernel
theorem dX10_next_4 : decode cX10_next 4 = .ok (.getfield 149, 3) := by decide +kernel
theorem dX10_next_7 : decode cX10_next 7 = .ok (.ifCond .ne 5, 3) := by decide +kernel
theorem dX10_next_10 : decode cX10_next 10 = .ok (.iconst (-1), 1) := by decide +kernel
theorem dX10_next_11 : decode cX10_next 11 = .ok (.ireturn, 1) := by decide +kernel
theorem dX10_next_12 : decode cX10_next 12 = .ok (.aload_n 0, 1) := by decide +kernel
theorem dX10_next_13 : decode cX10_next 13 = .ok (.invokevirtual 163, 3) := by decide +kernel
theorem dX10_next_16 : decode cX10_next 16 = .ok (.aload_n 0, 1) := by decide +kernel
theorem dX10_next_17 : decode cX10_next 17 = .ok (.getfield 69, 3) := by decide +kernel
theorem dX10_next_20 : decode cX10_next 20 = .ok (.invokevirtual 223, 3) := by decide +kernel
theorem dX10_next_23 : decode cX10_next 23 = .ok (.istore_n 1, 1) := by decide +kernel
theorem dX10_next_24 : decode cX10_next 24 = .ok (.iload_n 1, 1) := by decide +kernel
theorem dX10_next_25 : decode cX10_next 25 = .ok (.ldc 226, 2) := by decide +kernel
theorem dX10_next_27 : decode cX10_next 27 = .ok (.if_icmp .ge 7, 3) := by decide +kernel
theorem dX10_next_30 : decode cX10_next 30 = .ok (.iload_n 1, 1) := by decide +kernel
theorem dX10_next_31 : decode cX10_next 31 = .ok (.goto 4, 3) := by decide +kernel
theorem dX10_next_34 : decode cX10_next 34 = .ok (.iconst (-1), 1) := by decide +kernel
theorem dX10_next_35 : decode cX10_next 35 = .ok (.ireturn, 1) := by decide +kernel
theorem dX10_finding_0 : decode cX10_finding 0 = .ok (.aload_n 0, 1) := by decide +kernel
theorem dX10_finding_1 : decode cX10_finding 1 = .ok (.iload_n 1, 1) := by decide +kernel
theorem dX10_finding_2 : decode cX10_finding 2 = .ok (.invokevirtual 159, 3) := by decide +kernel
theorem dX10_finding_5 : decode cX10_finding 5 = .ok (.ifCond .eq 6, 3) := by decide +kernel
theorem dX10_finding_8 : decode cX10_finding 8 = .ok (.bipush (-2), 2) := by decide +kernel
theorem dX10_finding_10 : decode cX10_finding 10 = .ok (.ireturn, 1) := by decide +kernel
theorem dX10_finding_11 : decode cX10_finding 11 = .ok (.aload_n 0, 1) := by decide +kernel
theorem dX10_finding_12 : decode cX10_finding 12 = .ok (.invokevirtual 163, 3) := by decide +kernel
theorem dX10_finding_15 : decode cX10_finding 15 = .ok (.aload_n 0, 1) := by decide +kernel
theorem dX10_finding_16 : decode cX10_finding 16 = .ok (.iload_n 1, 1) := by decide +kernel
theorem dX10_finding_17 : decode cX10_finding 17 = .ok (.invokevirtual 227, 3) := by decide +kernel
theorem dX10_finding_20 : decode cX10_finding 20 = .ok (.ireturn, 1) := by decide +kernel
theorem dX10_marks_0 : decode cX10_marks 0 = .ok (.iload_n 1, 1) := by decide +kernel
theorem dX10_marks_1 : decode cX10_marks 1 = .ok (.invokestatic 230, 3) := by decide +kernel
theorem dX10_marks_4 : decode cX10_marks 4 = .ok (.ifCond .ne 33, 3) := by decide +kernel
theorem dX10_marks_7 : decode cX10_marks 7 = .ok (.iload_n 2, 1) := by decide +kernel
theorem dX10_marks_8 : decode cX10_marks 8 = .ok (.invokestatic 230, 3) := by decide +kernel
theorem dX10_marks_11 : decode cX10_marks 11 = .ok (.ifCond .ne 26, 3) := by decide +kernel
theorem dX10_marks_14 : decode cX10_marks 14 = .ok (.iload_n 3, 1) := by decide +kernel
theorem dX10_marks_15 : decode cX10_marks 15 = .ok (.invokestatic 230, 3) := by decide +kernel
theorem dX10_marks_18 : decode cX10_marks 18 = .ok (.ifCond .ne 19, 3) := by decide +kernel
theorem dX10_marks_21 : decode cX10_marks 21 = .ok (.iload 4, 2) := by decide +kernel
theorem dX10_marks_23 : decode cX10_marks 23 = .ok (.invokestatic 230, 3) := by decide +kernel
theorem dX10_marks_26 : decode cX10_marks 26 = .ok (.ifCond .ne 11, 3) := by decide +kernel
theorem dX10_marks_29 : decode cX10_marks 29 = .ok (.iload 5, 2) := by decide +kernel
theorem dX10_marks_31 : decode cX10_marks 31 = .ok (.invokestatic 230, 3) := by decide +kernel
theorem dX10_marks_34 : decode cX10_marks 34 = .ok (.ifCond .eq 6, 3) := by decide +kernel
theorem dX10_marks_37 : decode cX10_marks 37 = .ok (.bipush (-2), 2) := by decide +kernel
theorem dX10_marks_39 : decode cX10_marks 39 = .ok (.ireturn, 1) := by decide +kernel
theorem dX10_marks_40 : decode cX10_marks 40 = .ok (.aload_n 0, 1) := by decide +kernel
theorem dX10_marks_41 : decode cX10_marks 41 = .ok (.invokevirtual 163, 3) := by decide +kernel
theorem dX10_marks_44 : decode cX10_marks 44 = .ok (.iconst 0, 1) := by decide +kernel
theorem dX10_marks_45 : decode cX10_marks 45 = .ok (.istore 6, 2) := by decide +kernel
theorem dX10_marks_47 : decode cX10_marks 47 = .ok (.iconst 0, 1) := by decide +kernel
theorem dX10_marks_48 : decode cX10_marks 48 = .ok (.istore 7, 2) := by decide +kernel
theorem dX10_marks_50 : decode cX10_marks 50 = .ok (.iload 7, 2) := by decide +kernel
theorem dX10_marks_52 : decode cX10_marks 52 = .ok (.aload_n 0, 1) := by decide +kernel
theorem dX10_marks_53 : decode cX10_marks 53 = .ok (.getfield 45, 3) := by decide +kernel
theorem dX10_marks_56 : decode cX10_marks 56 = .ok (.getfield 149, 3) := by decide +kernel
theorem dX10_marks_59 : decode cX10_marks 59 = .ok (.if_icmp .ge 106, 3) := by decide +kernel
theorem dX10_marks_62 : decode cX10_marks 62 = .ok (.aload_n 0, 1) := by decide +kernel
theorem dX10_marks_63 : decode cX10_marks 63 = .ok (.iload 7, 2) := by decide +kernel
theorem dX10_marks_65 : decode cX10_marks 65 = .ok (.invokevirtual 227, 3) := by decide +kernel
theorem dX10_marks_68 : decode cX10_marks 68 = .ok (.istore 8, 2) := by decide +kernel
theorem dX10_marks_70 : decode cX10_marks 70 = .ok (.iload 6, 2) := by decide +kernel
theorem dX10_marks_72 : decode cX10_marks 72 = .ok (.iload 8, 2) := by decide +kernel
theorem dX10_marks_74 : decode cX10_marks 74 = .ok (.iconst 1, 1) := by decide +kernel
theorem dX10_marks_75 : decode cX10_marks 75 = .ok (.iand, 1) := by decide +kernel
theorem dX10_marks_76 : decode cX10_marks 76 = .ok (.ifCond .eq 7, 3) := by decide +kernel
theorem dX10_marks_79 : decode cX10_marks 79 = .ok (.iload_n 1, 1) := by decide +kernel
theorem dX10_marks_80 : decode cX10_marks 80 = .ok (.goto 4, 3) := by decide +kernel
theorem dX10_marks_83 : decode cX10_marks 83 = .ok (.iconst 0, 1) := by decide +kernel
theorem dX10_marks_84 : decode cX10_marks 84 = .ok (.iadd, 1) := by decide +kernel
theorem dX10_marks_85 : decode cX10_marks 85 = .ok (.istore 6, 2) := by decide +kernel
theorem dX10_marks_87 : decode cX10_marks 87 = .ok (.iload 6, 2) := by decide +kernel
theorem dX10_marks_89 : decode cX10_marks 89 = .ok (.iload 8, 2) := by decide +kernel
theorem dX10_marks_91 : decode cX10_marks 91 = .ok (.iconst 2, 1) := by decide +kernel
theorem dX10_marks_92 : decode cX10_marks 92 = .ok (.iand, 1) := by decide +kernel
theorem dX10_marks_93 : decode cX10_marks 93 = .ok (.ifCond .eq 7, 3) := by decide +kernel
theorem dX10_marks_96 : decode cX10_marks 96 = .ok (.iload_n 2, 1) := by decide +kernel
theorem dX10_marks_97 : decode cX10_marks 97 = .ok (.goto 4, 3) := by decide +kernel
theorem dX10_marks_100 : decode cX10_marks 100 = .ok (.iconst 0, 1) := by decide +kernel
theorem dX10_marks_101 : decode cX10_marks 101 = .ok (.iadd, 1) := by decide +kernel
theorem dX10_marks_102 : decode cX10_marks 102 = .ok (.istore 6, 2) := by decide +kernel
theorem dX10_marks_104 : decode cX10_marks 104 = .ok (.iload 6, 2) := by decide +kernel
theorem dX10_marks_106 : decode cX10_marks 106 = .ok (.iload 8, 2) := by decide +kernel
theorem dX10_marks_108 : decode cX10_marks 108 = .ok (.iconst 4, 1) := by decide +kernel
theorem dX10_marks_109 : decode cX10_marks 109 = .ok (.iand, 1) := by decide +kernel
theorem dX10_marks_110 : decode cX10_marks 110 = .ok (.ifCond .eq 7, 3) := by decide +kernel
theorem dX10_marks_113 : decode cX10_marks 113 = .ok (.iload_n 3, 1) := by decide +kernel
theorem dX10_marks_114 : decode cX10_marks 114 = .ok (.goto 4, 3) := by decide +kernel
theorem dX10_marks_117 : decode cX10_marks 117 = .ok (.iconst 0, 1) := by decide +kernel
theorem dX10_marks_118 : decode cX10_marks 118 = .ok (.iadd, 1) := by decide +kernel
theorem dX10_marks_119 : decode cX10_marks 119 = .ok (.istore 6, 2) := by decide +kernel
theorem dX10_marks_121 : decode cX10_marks 121 = .ok (.iload 6, 2) := by decide +kernel
theorem dX10_marks_123 : decode cX10_marks 123 = .ok (.iload 8, 2) := by decide +kernel
theorem dX10_marks_125 : decode cX10_marks 125 = .ok (.bipush 8, 2) := by decide +kernel
theorem dX10_marks_127 : decode cX10_marks 127 = .ok (.iand, 1) := by decide +kernel
theorem dX10_marks_128 : decode cX10_marks 128 = .ok (.ifCond .eq 8, 3) := by decide +kernel
theorem dX10_marks_131 : decode cX10_marks 131 = .ok (.iload 4, 2) := by decide +kernel
theorem dX10_marks_133 : decode cX10_marks 133 = .ok (.goto 4, 3) := by decide +kernel
theorem dX10_marks_136 : decode cX10_marks 136 = .ok (.iconst 0, 1) := by decide +kernel
theorem dX10_marks_137 : decode cX10_marks 137 = .ok (.iadd, 1) := by decide +kernel
theorem dX10_marks_138 : decode cX10_marks 138 = .ok (.istore 6, 2) := by decide +kernel
theorem dX10_marks_140 : decode cX10_marks 140 = .ok (.iload 6, 2) := by decide +kernel
theorem dX10_marks_142 : decode cX10_marks 142 = .ok (.iload 8, 2) := by decide +kernel
theorem dX10_marks_144 : decode cX10_marks 144 = .ok (.bipush 16, 2) := by decide +kernel
theorem dX10_marks_146 : decode cX10_marks 146 = .ok (.iand, 1) := by decide +kernel
theorem dX10_marks_147 : decode cX10_marks 147 = .ok (.ifCond .eq 8, 3) := by decide +kernel
theorem dX10_marks_150 : decode cX10_marks 150 = .ok (.iload 5, 2) := by decide +kernel
theorem dX10_marks_152 : decode cX10_marks 152 = .ok (.goto 4, 3) := by decide +kernel
theorem dX10_marks_155 : decode cX10_marks 155 = .ok (.iconst 0, 1) := by decide +kernel
theorem dX10_marks_156 : decode cX10_marks 156 = .ok (.iadd, 1) := by decide +kernel
theorem dX10_marks_157 : decode cX10_marks 157 = .ok (.istore 6, 2) := by decide +kernel
theorem dX10_marks_159 : decode cX10_marks 159 = .ok (.iinc 7 1, 3) := by decide +kernel
theorem dX10_marks_162 : decode cX10_marks 162 = .ok (.goto (-112), 3) := by decide +kernel
theorem dX10_marks_165 : decode cX10_marks 165 = .ok (.iload 6, 2) := by decide +kernel
theorem dX10_marks_167 : decode cX10_marks 167 = .ok (.ireturn, 1) := by decide +kernel
theorem dX10_refresh_0 : decode cX10_refresh 0 = .ok (.aload_n 0, 1) := by decide +kernel
theorem dX10_refresh_1 : decode cX10_refresh 1 = .ok (.invokevirtual 202, 3) := by decide +kernel
theorem dX10_refresh_4 : decode cX10_refresh 4 = .ok (.aload_n 0, 1) := by decide +kernel
theorem dX10_refresh_5 : decode cX10_refresh 5 = .ok (.getfield 136, 3) := by decide +kernel
theorem dX10_refresh_8 : decode cX10_refresh 8 = .ok (.ifCond .eq 12, 3) := by decide +kernel
theorem dX10_refresh_11 : decode cX10_refresh 11 = .ok (.aload_n 0, 1) := by decide +kernel
theorem dX10_refresh_12 : decode cX10_refresh 12 = .ok (.invokevirtual 233, 3) := by decide +kernel
theorem dX10_refresh_15 : decode cX10_refresh 15 = .ok (.aload_n 0, 1) := by decide +kernel
theorem dX10_refresh_16 : decode cX10_refresh 16 = .ok (.iconst 0, 1) := by decide +kernel
theorem dX10_refresh_17 : decode cX10_refresh 17 = .ok (.putfield 136, 3) := by decide +kernel
theorem dX10_refresh_20 : decode cX10_refresh 20 = .ok (.return_, 1) := by decide +kernel
theorem dX10_growTree_0 : decode cX10_growTree 0 = .ok (.aload_n 0, 1) := by decide +kernel
theorem dX10_growTree_1 : decode cX10_growTree 1 = .ok (.getfield 45, 3) := by decide +kernel
theorem dX10_growTree_4 : decode cX10_growTree 4 = .ok (.getfield 149, 3) := by decide +kernel
theorem dX10_growTree_7 : decode cX10_growTree 7 = .ok (.istore_n 1, 1) := by decide +kernel
theorem dX10_growTree_8 : decode cX10_growTree 8 = .ok (.iconst 0, 1) := by decide +kernel
theorem dX10_growTree_9 : decode cX10_growTree 9 = .ok (.istore_n 2, 1) := by decide +kernel
theorem dX10_growTree_10 : decode cX10_growTree 10 = .ok (.iload_n 2, 1) := by decide +kernel
theorem dX10_growTree_11 : decode cX10_growTree 11 = .ok (.iload_n 1, 1) := by decide +kernel
theorem dX10_growTree_12 : decode cX10_growTree 12 = .ok (.if_icmp .ge 77, 3) := by decide +kernel
theorem dX10_growTree_15 : decode cX10_growTree 15 = .ok (.aload_n 0, 1) := by decide +kernel
theorem dX10_growTree_16 : decode cX10_growTree 16 = .ok (.getfield 69, 3) := by decide +kernel
theorem dX10_growTree_19 : decode cX10_growTree 19 = .ok (.getfield 236, 3) := by decide +kernel
theorem dX10_growTree_22 : decode cX10_growTree 22 = .ok (.iload_n 2, 1) := by decide +kernel
theorem dX10_growTree_23 : decode cX10_growTree 23 = .ok (.aload_n 0, 1) := by decide +kernel
theorem dX10_growTree_24 : decode cX10_growTree 24 = .ok (.iload_n 2, 1) := by decide +kernel
theorem dX10_growTree_25 : decode cX10_growTree 25 = .ok (.invokevirtual 239, 3) := by decide +kernel
theorem dX10_growTree_28 : decode cX10_growTree 28 = .ok (.invokestatic 242, 3) := by decide +kernel
theorem dX10_growTree_31 : decode cX10_growTree 31 = .ok (.ifCond .eq 12, 3) := by decide +kernel
theorem dX10_growTree_34 : decode cX10_growTree 34 = .ok (.aload_n 0, 1) := by decide +kernel
theorem dX10_growTree_35 : decode cX10_growTree 35 = .ok (.getfield 31, 3) := by decide +kernel
theorem dX10_growTree_38 : decode cX10_growTree 38 = .ok (.iconst 2, 1) := by decide +kernel
theorem dX10_growTree_39 : decode cX10_growTree 39 = .ok (.iaload, 1) := by decide +kernel
theorem dX10_growTree_40 : decode cX10_growTree 40 = .ok (.goto 4, 3) := by decide +kernel
theorem dX10_growTree_43 : decode cX10_growTree 43 = .ok (.iconst 0, 1) := by decide +kernel
theorem dX10_growTree_44 : decode cX10_growTree 44 = .ok (.iastore, 1) := by decide +kernel
theorem dX10_growTree_45 : decode cX10_growTree 45 = .ok (.iconst 0, 1) := by decide +kernel
theorem dX10_growTree_46 : decode cX10_growTree 46 = .ok (.istore_n 3, 1) := by decide +kernel
theorem dX10_growTree_47 : decode cX10_growTree 47 = .ok (.iload_n 3, 1) := by decide +kernel
theorem dX10_growTree_48 : decode cX10_growTree 48 = .ok (.iload_n 1, 1) := by decide +kernel
theorem dX10_growTree_49 : decode cX10_growTree 49 = .ok (.if_icmp .ge 34, 3) := by decide +kernel
theorem dX10_growTree_52 : decode cX10_growTree 52 = .ok (.iload_n 2, 1) := by decide +kernel
theorem dX10_growTree_53 : decode cX10_growTree 53 = .ok (.iload_n 3, 1) := by decide +kernel
theorem dX10_growTree_54 : decode cX10_growTree 54 = .ok (.if_icmp .eq 23, 3) := by decide +kernel
theorem dX10_growTree_57 : decode cX10_growTree 57 = .ok (.aload_n 0, 1) := by decide +kernel
theorem dX10_growTree_58 : decode cX10_growTree 58 = .ok (.getfield 69, 3) := by decide +kernel
theorem dX10_growTree_61 : decode cX10_growTree 61 = .ok (.getfield 245, 3) := by decide +kernel
theorem dX10_growTree_64 : decode cX10_growTree 64 = .ok (.iload_n 2, 1) := by decide +kernel
theorem dX10_growTree_65 : decode cX10_growTree 65 = .ok (.bipush 24, 2) := by decide +kernel
theorem dX10_growTree_67 : decode cX10_growTree 67 = .ok (.imul, 1) := by decide +kernel
theorem dX10_growTree_68 : decode cX10_growTree 68 = .ok (.iload_n 3, 1) := by decide +kernel
theorem dX10_growTree_69 : decode cX10_growTree 69 = .ok (.iadd, 1) := by decide +kernel
theorem dX10_growTree_70 : decode cX10_growTree 70 = .ok (.aload_n 0, 1) := by decide +kernel
theorem dX10_growTree_71 : decode cX10_growTree 71 = .ok (.iload_n 2, 1) := by decide +kernel
theorem dX10_growTree_72 : decode cX10_growTree 72 = .ok (.iload_n 3, 1) := by decide +kernel
theorem dX10_growTree_73 : decode cX10_growTree 73 = .ok (.invokevirtual 216, 3) := by decide +kernel
theorem dX10_growTree_76 : decode cX10_growTree 76 = .ok (.iastore, 1) := by decide +kernel
theorem dX10_growTree_77 : decode cX10_growTree 77 = .ok (.iinc 3 1, 3) := by decide +kernel
theorem dX10_growTree_80 : decode cX10_growTree 80 = .ok (.goto (-33), 3) := by decide +kernel
theorem dX10_growTree_83 : decode cX10_growTree 83 = .ok (.iinc 2 1, 3) := by decide +kernel
theorem dX10_growTree_86 : decode cX10_growTree 86 = .ok (.goto (-76), 3) := by decide +kernel
theorem dX10_growTree_89 : decode cX10_growTree 89 = .ok (.aload_n 0, 1) := by decide +kernel
theorem dX10_growTree_90 : decode cX10_growTree 90 = .ok (.getfield 69, 3) := by decide +kernel
theorem dX10_growTree_93 : decode cX10_growTree 93 = .ok (.iload_n 1, 1) := by decide +kernel
theorem dX10_growTree_94 : decode cX10_growTree 94 = .ok (.invokevirtual 247, 3) := by decide +kernel
theorem dX10_growTree_97 : decode cX10_growTree 97 = .ok (.iconst 0, 1) := by decide +kernel
theorem dX10_growTree_98 : decode cX10_growTree 98 = .ok (.istore_n 2, 1) := by decide +kernel
theorem dX10_growTree_99 : decode cX10_growTree 99 = .ok (.iload_n 2, 1) := by decide +kernel
theorem dX10_growTree_100 : decode cX10_growTree 100 = .ok (.iload_n 1, 1) := by decide +kernel
theorem dX10_growTree_101 : decode cX10_growTree 101 = .ok (.if_icmp .ge 26, 3) := by decide +kernel
theorem dX10_growTree_104 : decode cX10_growTree 104 = .ok (.aload_n 0, 1) := by decide +kernel
theorem dX10_growTree_105 : decode cX10_growTree 105 = .ok (.getfield 76, 3) := by decide +kernel
theorem dX10_growTree_108 : decode cX10_growTree 108 = .ok (.getfield 181, 3) := by decide +kernel
theorem dX10_growTree_111 : decode cX10_growTree 111 = .ok (.iload_n 2, 1) := by decide +kernel
theorem dX10_growTree_112 : decode cX10_growTree 112 = .ok (.aload_n 0, 1) := by decide +kernel
theorem dX10_growTree_113 : decode cX10_growTree 113 = .ok (.getfield 69, 3) := by decide +kernel
theorem dX10_growTree_116 : decode cX10_growTree 116 = .ok (.iload_n 2, 1) := by decide +kernel
theorem dX10_growTree_117 : decode cX10_growTree 117 = .ok (.invokevirtual 250, 3) := by decide +kernel
theorem dX10_growTree_120 : decode cX10_growTree 120 = .ok (.iastore, 1) := by decide +kernel
theorem dX10_growTree_121 : decode cX10_growTree 121 = .ok (.iinc 2 1, 3) := by decide +kernel
theorem dX10_growTree_124 : decode cX10_growTree 124 = .ok (.goto (-25), 3) := by decide +kernel
theorem dX10_growTree_127 : decode cX10_growTree 127 = .ok (.aload_n 0, 1) := by decide +kernel
theorem dX10_growTree_128 : decode cX10_growTree 128 = .ok (.getfield 76, 3) := by decide +kernel
theorem dX10_growTree_131 : decode cX10_growTree 131 = .ok (.iload_n 1, 1) := by decide +kernel
theorem dX10_growTree_132 : decode cX10_growTree 132 = .ok (.invokevirtual 253, 3) := by decide +kernel
theorem dX10_growTree_135 : decode cX10_growTree 135 = .ok (.return_, 1) := by decide +kernel
theorem dX10_hangCost_0 : decode cX10_hangCost 0 = .ok (.iload_n 1, 1) := by decide +kernel
theorem dX10_hangCost_1 : decode cX10_hangCost 1 = .ok (.iload_n 2, 1) := by decide +kernel
theorem dX10_hangCost_2 : decode cX10_hangCost 2 = .ok (.isub, 1) := by decide +kernel
theorem dX10_hangCost_3 : decode cX10_hangCost 3 = .ok (.invokestatic 256, 3) := by decide +kernel
theorem dX10_hangCost_6 : decode cX10_hangCost 6 = .ok (.iconst 1, 1) := by decide +kernel
theorem dX10_hangCost_7 : decode cX10_hangCost 7 = .ok (.isub, 1) := by decide +kernel
theorem dX10_hangCost_8 : decode cX10_hangCost 8 = .ok (.istore_n 3, 1) := by decide +kernel
theorem dX10_hangCost_9 : decode cX10_hangCost 9 = .ok (.iconst 4, 1) := by decide +kernel
theorem dX10_hangCost_10 : decode cX10_hangCost 10 = .ok (.iconst 4, 1) := by decide +kernel
theorem dX10_hangCost_11 : decode cX10_hangCost 11 = .ok (.aload_n 0, 1) := by decide +kernel
theorem dX10_hangCost_12 : decode cX10_hangCost 12 = .ok (.iload_n 1, 1) := by decide +kernel
theorem dX10_hangCost_13 : decode cX10_hangCost 13 = .ok (.iload_n 2, 1) := by decide +kernel
theorem dX10_hangCost_14 : decode cX10_hangCost 14 = .ok (.invokevirtual 205, 3) := by decide +kernel
theorem dX10_hangCost_17 : decode cX10_hangCost 17 = .ok (.invokestatic 261, 3) := by decide +kernel
theorem dX10_hangCost_20 : decode cX10_hangCost 20 = .ok (.isub, 1) := by decide +kernel
theorem dX10_hangCost_21 : decode cX10_hangCost 21 = .ok (.istore 4, 2) := by decide +kernel
theorem dX10_hangCost_23 : decode cX10_hangCost 23 = .ok (.aload_n 0, 1) := by decide +kernel
theorem dX10_hangCost_24 : decode cX10_hangCost 24 = .ok (.getfield 31, 3) := by decide +kernel
theorem dX10_hangCost_27 : decode cX10_hangCost 27 = .ok (.iconst 0, 1) := by decide +kernel
theorem dX10_hangCost_28 : decode cX10_hangCost 28 = .ok (.iaload, 1) := by decide +kernel
theorem dX10_hangCost_29 : decode cX10_hangCost 29 = .ok (.iload_n 3, 1) := by decide +kernel
theorem dX10_hangCost_30 : decode cX10_hangCost 30 = .ok (.imul, 1) := by decide +kernel
theorem dX10_hangCost_31 : decode cX10_hangCost 31 = .ok (.aload_n 0, 1) := by decide +kernel
theorem dX10_hangCost_32 : decode cX10_hangCost 32 = .ok (.getfield 31, 3) := by decide +kernel
theorem dX10_hangCost_35 : decode cX10_hangCost 35 = .ok (.iconst 1, 1) := by decide +kernel
theorem dX10_hangCost_36 : decode cX10_hangCost 36 = .ok (.iaload, 1) := by decide +kernel
theorem dX10_hangCost_37 : decode cX10_hangCost 37 = .ok (.iload 4, 2) := by decide +kernel
theorem dX10_hangCost_39 : decode cX10_hangCost 39 = .ok (.imul, 1) := by decide +kernel
theorem dX10_hangCost_40 : decode cX10_hangCost 40 = .ok (.iadd, 1) := by decide +kernel
theorem dX10_hangCost_41 : decode cX10_hangCost 41 = .ok (.istore 5, 2) := by decide +kernel
theorem dX10_hangCost_43 : decode cX10_hangCost 43 = .ok (.aload_n 0, 1) := by decide +kernel
theorem dX10_hangCost_44 : decode cX10_hangCost 44 = .ok (.getfield 45, 3) := by decide +kernel
theorem dX10_hangCost_47 : decode cX10_hangCost 47 = .ok (.getfield 178, 3) := by decide +kernel
theorem dX10_hangCost_50 : decode cX10_hangCost 50 = .ok (.iload_n 1, 1) := by decide +kernel
theorem dX10_hangCost_51 : decode cX10_hangCost 51 = .ok (.iaload, 1) := by decide +kernel
theorem dX10_hangCost_52 : decode cX10_hangCost 52 = .ok (.aload_n 0, 1) := by decide +kernel
theorem dX10_hangCost_53 : decode cX10_hangCost 53 = .ok (.getfield 45, 3) := by decide +kernel
theorem dX10_hangCost_56 : decode cX10_hangCost 56 = .ok (.getfield 178, 3) := by decide +kernel
theorem dX10_hangCost_59 : decode cX10_hangCost 59 = .ok (.iload_n 2, 1) := by decide +kernel
theorem dX10_hangCost_60 : decode cX10_hangCost 60 = .ok (.iaload, 1) := by decide +kernel
theorem dX10_hangCost_61 : decode cX10_hangCost 61 = .ok (.if_icmp .eq 14, 3) := by decide +kernel
theorem dX10_hangCost_64 : decode cX10_hangCost 64 = .ok (.iload 5, 2) := by decide +kernel
theorem dX10_hangCost_66 : decode cX10_hangCost 66 = .ok (.aload_n 0, 1) := by decide +kernel
theorem dX10_hangCost_67 : decode cX10_hangCost 67 = .ok (.getfield 31, 3) := by decide +kernel
theorem dX10_hangCost_70 : decode cX10_hangCost 70 = .ok (.iconst 3, 1) := by decide +kernel
theorem dX10_hangCost_71 : decode cX10_hangCost 71 = .ok (.iaload, 1) := by decide +kernel
theorem dX10_hangCost_72 : decode cX10_hangCost 72 = .ok (.iadd, 1) := by decide +kernel
theorem dX10_hangCost_73 : decode cX10_hangCost 73 = .ok (.istore 5, 2) := by decide +kernel
theorem dX10_hangCost_75 : decode cX10_hangCost 75 = .ok (.aload_n 0, 1) := by decide +kernel
theorem dX10_hangCost_76 : decode cX10_hangCost 76 = .ok (.iload_n 1, 1) := by decide +kernel
theorem dX10_hangCost_77 : decode cX10_hangCost 77 = .ok (.iload_n 2, 1) := by decide +kernel
theorem dX10_hangCost_78 : decode cX10_hangCost 78 = .ok (.invokevirtual 264, 3) := by decide +kernel
theorem dX10_hangCost_81 : decode cX10_hangCost 81 = .ok (.ifCond .eq 14, 3) := by decide +kernel
theorem dX10_hangCost_84 : decode cX10_hangCost 84 = .ok (.iload 5, 2) := by decide +kernel
theorem dX10_hangCost_86 : decode cX10_hangCost 86 = .ok (.aload_n 0, 1) := by decide +kernel
theorem dX10_hangCost_87 : decode cX10_hangCost 87 = .ok (.getfield 31, 3) := by decide +kernel
theorem dX10_hangCost_90 : decode cX10_hangCost 90 = .ok (.iconst 2, 1) := by decide +kernel
theorem dX10_hangCost_91 : decode cX10_hangCost 91 = .ok (.iaload, 1) := by decide +kernel
theorem dX10_hangCost_92 : decode cX10_hangCost 92 = .ok (.iadd, 1) := by decide +kernel
theorem dX10_hangCost_93 : decode cX10_hangCost 93 = .ok (.istore 5, 2) := by decide +kernel
theorem dX10_hangCost_95 : decode cX10_hangCost 95 = .ok (.iload 5, 2) := by decide +kernel
theorem dX10_hangCost_97 : decode cX10_hangCost 97 = .ok (.ireturn, 1) := by decide +kernel
theorem dX10_isAgainstSign_0 : decode cX10_isAgainstSign 0 = .ok (.aload_n 0, 1) := by decide +kernel
theorem dX10_isAgainstSign_1 : decode cX10_isAgainstSign 1 = .ok (.iload_n 2, 1) := by decide +kernel
theorem dX10_isAgainstSign_2 : decode cX10_isAgainstSign 2 = .ok (.invokevirtual 239, 3) := by decide +kernel
theorem dX10_isAgainstSign_5 : decode cX10_isAgainstSign 5 = .ok (.tableswitch 77 1 4 #[31, 42, 53, 66], 31) := by decide +kernel
theorem dX10_isAgainstSign_36 : decode cX10_isAgainstSign 36 = .ok (.iload_n 1, 1) := by decide +kernel
theorem dX10_isAgainstSign_37 : decode cX10_isAgainstSign 37 = .ok (.iload_n 2, 1) := by decide +kernel
theorem dX10_isAgainstSign_38 : decode cX10_isAgainstSign 38 = .ok (.if_icmp .le 7, 3) := by decide +kernel
theorem dX10_isAgainstSign_41 : decode cX10_isAgainstSign 41 = .ok (.iconst 1, 1) := by decide +kernel
theorem dX10_isAgainstSign_42 : decode cX10_isAgainstSign 42 = .ok (.goto 4, 3) := by decide +kernel
theorem dX10_isAgainstSign_45 : decode cX10_isAgainstSign 45 = .ok (.iconst 0, 1) := by decide +kernel
theorem dX10_isAgainstSign_46 : decode cX10_isAgainstSign 46 = .ok (.ireturn, 1) := by decide +kernel
theorem dX10_isAgainstSign_47 : decode cX10_isAgainstSign 47 = .ok (.iload_n 1, 1) := by decide +kernel
theorem dX10_isAgainstSign_48 : decode cX10_isAgainstSign 48 = .ok (.iload_n 2, 1) := by decide +kernel
theorem dX10_isAgainstSign_49 : decode cX10_isAgainstSign 49 = .ok (.if_icmp .le 7, 3) := by decide +kernel
theorem dX10_isAgainstSign_52 : decode cX10_isAgainstSign 52 = .ok (.iconst 1, 1) := by decide +kernel
theorem dX10_isAgainstSign_53 : decode cX10_isAgainstSign 53 = .ok (.goto 4, 3) := by decide +kernel
theorem dX10_isAgainstSign_56 : decode cX10_isAgainstSign 56 = .ok (.iconst 0, 1) := by decide +kernel
theorem dX10_isAgainstSign_57 : decode cX10_isAgainstSign 57 = .ok (.ireturn, 1) := by decide +kernel
theorem dX10_isAgainstSign_58 : decode cX10_isAgainstSign 58 = .ok (.iload_n 1, 1) := by decide +kernel
theorem dX10_isAgainstSign_59 : decode cX10_isAgainstSign 59 = .ok (.iload_n 2, 1) := by decide +kernel
theorem dX10_isAgainstSign_60 : decode cX10_isAgainstSign 60 = .ok (.iconst 1, 1) := by decide +kernel
theorem dX10_isAgainstSign_61 : decode cX10_isAgainstSign 61 = .ok (.isub, 1) := by decide +kernel
theorem dX10_isAgainstSign_62 : decode cX10_isAgainstSign 62 = .ok (.if_icmp .eq 7, 3) := by decide +kernel
theorem dX10_isAgainstSign_65 : decode cX10_isAgainstSign 65 = .ok (.iconst 1, 1) := by decide +kernel
theorem dX10_isAgainstSign_66 : decode cX10_isAgainstSign 66 = .ok (.goto 4, 3) := by decide +kernel
theorem dX10_isAgainstSign_69 : decode cX10_isAgainstSign 69 = .ok (.iconst 0, 1) := by decide +kernel
theorem dX10_isAgainstSign_70 : decode cX10_isAgainstSign 70 = .ok (.ireturn, 1) := by decide +kernel
theorem dX10_isAgainstSign_71 : decode cX10_isAgainstSign 71 = .ok (.iload_n 1, 1) := by decide +kernel
theorem dX10_isAgainstSign_72 : decode cX10_isAgainstSign 72 = .ok (.iload_n 2, 1) := by decide +kernel
theorem dX10_isAgainstSign_73 : decode cX10_isAgainstSign 73 = .ok (.if_icmp .ge 7, 3) := by decide +kernel
theorem dX10_isAgainstSign_76 : decode cX10_isAgainstSign 76 = .ok (.iconst 1, 1) := by decide +kernel
theorem dX10_isAgainstSign_77 : decode cX10_isAgainstSign 77 = .ok (.goto 4, 3) := by decide +kernel
theorem dX10_isAgainstSign_80 : decode cX10_isAgainstSign 80 = .ok (.iconst 0, 1) := by decide +kernel
theorem dX10_isAgainstSign_81 : decode cX10_isAgainstSign 81 = .ok (.ireturn, 1) := by decide +kernel
theorem dX10_isAgainstSign_82 : decode cX10_isAgainstSign 82 = .ok (.iconst 0, 1) := by decide +kernel
theorem dX10_isAgainstSign_83 : decode cX10_isAgainstSign 83 = .ok (.ireturn, 1) := by decide +kernel
theorem dX10_isBound_0 : decode cX10_isBound 0 = .ok (.iload_n 0, 1) := by decide +kernel
theorem dX10_isBound_1 : decode cX10_isBound 1 = .ok (.iconst 1, 1) := by decide +kernel
theorem dX10_isBound_2 : decode cX10_isBound 2 = .ok (.if_icmp .eq 13, 3) := by decide +kernel
theorem dX10_isBound_5 : decode cX10_isBound 5 = .ok (.iload_n 0, 1) := by decide +kernel
theorem dX10_isBound_6 : decode cX10_isBound 6 = .ok (.iconst 2, 1) := by decide +kernel
theorem dX10_isBound_7 : decode cX10_isBound 7 = .ok (.if_icmp .eq 8, 3) := by decide +kernel
theorem dX10_isBound_10 : decode cX10_isBound 10 = .ok (.iload_n 0, 1) := by decide +kernel
theorem dX10_isBound_11 : decode cX10_isBound 11 = .ok (.iconst 3, 1) := by decide +kernel
theorem dX10_isBound_12 : decode cX10_isBound 12 = .ok (.if_icmp .ne 7, 3) := by decide +kernel
theorem dX10_isBound_15 : decode cX10_isBound 15 = .ok (.iconst 1, 1) := by decide +kernel
theorem dX10_isBound_16 : decode cX10_isBound 16 = .ok (.goto 4, 3) := by decide +kernel
theorem dX10_isBound_19 : decode cX10_isBound 19 = .ok (.iconst 0, 1) := by decide +kernel
theorem dX10_isBound_20 : decode cX10_isBound 20 = .ok (.ireturn, 1) := by decide +kernel
theorem dX10_isNoPoint_0 : decode cX10_isNoPoint 0 = .ok (.iload_n 0, 1) := by decide +kernel
theorem dX10_isNoPoint_1 : decode cX10_isNoPoint 1 = .ok (.bipush (-100), 2) := by decide +kernel
theorem dX10_isNoPoint_3 : decode cX10_isNoPoint 3 = .ok (.if_icmp .lt 9, 3) := by decide +kernel
theorem dX10_isNoPoint_6 : decode cX10_isNoPoint 6 = .ok (.iload_n 0, 1) := by decide +kernel
theorem dX10_isNoPoint_7 : decode cX10_isNoPoint 7 = .ok (.bipush 100, 2) := by decide +kernel
theorem dX10_isNoPoint_9 : decode cX10_isNoPoint 9 = .ok (.if_icmp .le 7, 3) := by decide +kernel
theorem dX10_isNoPoint_12 : decode cX10_isNoPoint 12 = .ok (.iconst 1, 1) := by decide +kernel
theorem dX10_isNoPoint_13 : decode cX10_isNoPoint 13 = .ok (.goto 4, 3) := by decide +kernel
theorem dX10_isNoPoint_16 : decode cX10_isNoPoint 16 = .ok (.iconst 0, 1) := by decide +kernel
theorem dX10_isNoPoint_17 : decode cX10_isNoPoint 17 = .ok (.ireturn, 1) := by decide +kernel
theorem dX10_findings_0 : decode cX10_findings 0 = .ok (.aload_n 0, 1) := by decide +kernel
theorem dX10_findings_1 : decode cX10_findings 1 = .ok (.iload_n 1, 1) := by decide +kernel
theorem dX10_findings_2 : decode cX10_findings 2 = .ok (.invokevirtual 239, 3) := by decide +kernel
theorem dX10_findings_5 : decode cX10_findings 5 = .ok (.istore_n 2, 1) := by decide +kernel
theorem dX10_findings_6 : decode cX10_findings 6 = .ok (.iconst 0, 1) := by decide +kernel
theorem dX10_findings_7 : decode cX10_findings 7 = .ok (.istore_n 3, 1) := by decide +kernel
theorem dX10_findings_8 : decode cX10_findings 8 = .ok (.iload_n 2, 1) := by decide +kernel
end
section
theorem dX10_findings_9 : decode cX10_findings 9 = .ok (.ifCond .eq 8, 3) := by decide +kernel
theorem dX10_findings_12 : decode cX10_findings 12 = .ok (.iload_n 2, 1) := by decide +kernel
theorem dX10_findings_13 : decode cX10_findings 13 = .ok (.iconst 4, 1) := by decide +kernel
theorem dX10_findings_14 : decode cX10_findings 14 = .ok (.if_icmp .ne 15, 3) := by decide +kernel
theorem dX10_findings_17 : decode cX10_findings 17 = .ok (.aload_n 0, 1) := by decide +kernel
theorem dX10_findings_18 : decode cX10_findings 18 = .ok (.iload_n 1, 1) := by decide +kernel
theorem dX10_findings_19 : decode cX10_findings 19 = .ok (.invokevirtual 268, 3) := by decide +kernel
theorem dX10_findings_22 : decode cX10_findings 22 = .ok (.ifCond .ne 7, 3) := by decide +kernel
theorem dX10_findings_25 : decode cX10_findings 25 = .ok (.iload_n 3, 1) := by decide +kernel
theorem dX10_findings_26 : decode cX10_findings 26 = .ok (.iconst 1, 1) := by decide +kernel
theorem dX10_findings_27 : decode cX10_findings 27 = .ok (.ior, 1) := by decide +kernel
theorem dX10_findings_28 : decode cX10_findings 28 = .ok (.istore_n 3, 1) := by decide +kernel
theorem dX10_findings_29 : decode cX10_findings 29 = .ok (.iload_n 2, 1) := by decide +kernel
theorem dX10_findings_30 : decode cX10_findings 30 = .ok (.iconst 2, 1) := by decide +kernel
theorem dX10_findings_31 : decode cX10_findings 31 = .ok (.if_icmp .ne 19, 3) := by decide +kernel
theorem dX10_findings_34 : decode cX10_findings 34 = .ok (.aload_n 0, 1) := by decide +kernel
theorem dX10_findings_35 : decode cX10_findings 35 = .ok (.getfield 76, 3) := by decide +kernel
theorem dX10_findings_38 : decode cX10_findings 38 = .ok (.getfield 184, 3) := by decide +kernel
theorem dX10_findings_41 : decode cX10_findings 41 = .ok (.iload_n 1, 1) := by decide +kernel
theorem dX10_findings_42 : decode cX10_findings 42 = .ok (.iaload, 1) := by decide +kernel
theorem dX10_findings_43 : decode cX10_findings 43 = .ok (.ifCond .ne 7, 3) := by decide +kernel
theorem dX10_findings_46 : decode cX10_findings 46 = .ok (.iload_n 3, 1) := by decide +kernel
theorem dX10_findings_47 : decode cX10_findings 47 = .ok (.iconst 2, 1) := by decide +kernel
theorem dX10_findings_48 : decode cX10_findings 48 = .ok (.ior, 1) := by decide +kernel
theorem dX10_findings_49 : decode cX10_findings 49 = .ok (.istore_n 3, 1) := by decide +kernel
theorem dX10_findings_50 : decode cX10_findings 50 = .ok (.aload_n 0, 1) := by decide +kernel
theorem dX10_findings_51 : decode cX10_findings 51 = .ok (.iload_n 1, 1) := by decide +kernel
theorem dX10_findings_52 : decode cX10_findings 52 = .ok (.invokevirtual 271, 3) := by decide +kernel
theorem dX10_findings_55 : decode cX10_findings 55 = .ok (.ifCond .eq 7, 3) := by decide +kernel
theorem dX10_findings_58 : decode cX10_findings 58 = .ok (.iload_n 3, 1) := by decide +kernel
theorem dX10_findings_59 : decode cX10_findings 59 = .ok (.iconst 4, 1) := by decide +kernel
theorem dX10_findings_60 : decode cX10_findings 60 = .ok (.ior, 1) := by decide +kernel
theorem dX10_findings_61 : decode cX10_findings 61 = .ok (.istore_n 3, 1) := by decide +kernel
theorem dX10_findings_62 : decode cX10_findings 62 = .ok (.aload_n 0, 1) := by decide +kernel
theorem dX10_findings_63 : decode cX10_findings 63 = .ok (.getfield 55, 3) := by decide +kernel
theorem dX10_findings_66 : decode cX10_findings 66 = .ok (.iload_n 1, 1) := by decide +kernel
theorem dX10_findings_67 : decode cX10_findings 67 = .ok (.aload_n 0, 1) := by decide +kernel
theorem dX10_findings_68 : decode cX10_findings 68 = .ok (.getfield 62, 3) := by decide +kernel
theorem dX10_findings_71 : decode cX10_findings 71 = .ok (.getfield 166, 3) := by decide +kernel
theorem dX10_findings_74 : decode cX10_findings 74 = .ok (.invokevirtual 274, 3) := by decide +kernel
theorem dX10_findings_77 : decode cX10_findings 77 = .ok (.ifCond .eq 8, 3) := by decide +kernel
theorem dX10_findings_80 : decode cX10_findings 80 = .ok (.iload_n 3, 1) := by decide +kernel
theorem dX10_findings_81 : decode cX10_findings 81 = .ok (.bipush 8, 2) := by decide +kernel
theorem dX10_findings_83 : decode cX10_findings 83 = .ok (.ior, 1) := by decide +kernel
theorem dX10_findings_84 : decode cX10_findings 84 = .ok (.istore_n 3, 1) := by decide +kernel
theorem dX10_findings_85 : decode cX10_findings 85 = .ok (.iload_n 1, 1) := by decide +kernel
theorem dX10_findings_86 : decode cX10_findings 86 = .ok (.ifCond .ne 15, 3) := by decide +kernel
theorem dX10_findings_89 : decode cX10_findings 89 = .ok (.iload_n 2, 1) := by decide +kernel
theorem dX10_findings_90 : decode cX10_findings 90 = .ok (.invokestatic 242, 3) := by decide +kernel
theorem dX10_findings_93 : decode cX10_findings 93 = .ok (.ifCond .eq 8, 3) := by decide +kernel
theorem dX10_findings_96 : decode cX10_findings 96 = .ok (.iload_n 3, 1) := by decide +kernel
theorem dX10_findings_97 : decode cX10_findings 97 = .ok (.bipush 16, 2) := by decide +kernel
theorem dX10_findings_99 : decode cX10_findings 99 = .ok (.ior, 1) := by decide +kernel
theorem dX10_findings_100 : decode cX10_findings 100 = .ok (.istore_n 3, 1) := by decide +kernel
theorem dX10_findings_101 : decode cX10_findings 101 = .ok (.iload_n 3, 1) := by decide +kernel
theorem dX10_findings_102 : decode cX10_findings 102 = .ok (.ireturn, 1) := by decide +kernel
theorem dX10_hasSupport_0 : decode cX10_hasSupport 0 = .ok (.iconst 0, 1) := by decide +kernel
theorem dX10_hasSupport_1 : decode cX10_hasSupport 1 = .ok (.istore_n 2, 1) := by decide +kernel
theorem dX10_hasSupport_2 : decode cX10_hasSupport 2 = .ok (.iload_n 2, 1) := by decide +kernel
theorem dX10_hasSupport_3 : decode cX10_hasSupport 3 = .ok (.aload_n 0, 1) := by decide +kernel
theorem dX10_hasSupport_4 : decode cX10_hasSupport 4 = .ok (.getfield 45, 3) := by decide +kernel
theorem dX10_hasSupport_7 : decode cX10_hasSupport 7 = .ok (.getfield 149, 3) := by decide +kernel
theorem dX10_hasSupport_10 : decode cX10_hasSupport 10 = .ok (.if_icmp .ge 40, 3) := by decide +kernel
theorem dX10_hasSupport_13 : decode cX10_hasSupport 13 = .ok (.aload_n 0, 1) := by decide +kernel
theorem dX10_hasSupport_14 : decode cX10_hasSupport 14 = .ok (.iload_n 2, 1) := by decide +kernel
theorem dX10_hasSupport_15 : decode cX10_hasSupport 15 = .ok (.invokevirtual 239, 3) := by decide +kernel
theorem dX10_hasSupport_18 : decode cX10_hasSupport 18 = .ok (.istore_n 3, 1) := by decide +kernel
theorem dX10_hasSupport_19 : decode cX10_hasSupport 19 = .ok (.aload_n 0, 1) := by decide +kernel
theorem dX10_hasSupport_20 : decode cX10_hasSupport 20 = .ok (.getfield 76, 3) := by decide +kernel
theorem dX10_hasSupport_23 : decode cX10_hasSupport 23 = .ok (.getfield 181, 3) := by decide +kernel
theorem dX10_hasSupport_26 : decode cX10_hasSupport 26 = .ok (.iload_n 2, 1) := by decide +kernel
theorem dX10_hasSupport_27 : decode cX10_hasSupport 27 = .ok (.iaload, 1) := by decide +kernel
theorem dX10_hasSupport_28 : decode cX10_hasSupport 28 = .ok (.iload_n 1, 1) := by decide +kernel
theorem dX10_hasSupport_29 : decode cX10_hasSupport 29 = .ok (.if_icmp .ne 15, 3) := by decide +kernel
theorem dX10_hasSupport_32 : decode cX10_hasSupport 32 = .ok (.iload_n 3, 1) := by decide +kernel
theorem dX10_hasSupport_33 : decode cX10_hasSupport 33 = .ok (.iconst 1, 1) := by decide +kernel
theorem dX10_hasSupport_34 : decode cX10_hasSupport 34 = .ok (.if_icmp .eq 8, 3) := by decide +kernel
theorem dX10_hasSupport_37 : decode cX10_hasSupport 37 = .ok (.iload_n 3, 1) := by decide +kernel
theorem dX10_hasSupport_38 : decode cX10_hasSupport 38 = .ok (.iconst 3, 1) := by decide +kernel
theorem dX10_hasSupport_39 : decode cX10_hasSupport 39 = .ok (.if_icmp .ne 5, 3) := by decide +kernel
theorem dX10_hasSupport_42 : decode cX10_hasSupport 42 = .ok (.iconst 1, 1) := by decide +kernel
theorem dX10_hasSupport_43 : decode cX10_hasSupport 43 = .ok (.ireturn, 1) := by decide +kernel
theorem dX10_hasSupport_44 : decode cX10_hasSupport 44 = .ok (.iinc 2 1, 3) := by decide +kernel
theorem dX10_hasSupport_47 : decode cX10_hasSupport 47 = .ok (.goto (-45), 3) := by decide +kernel
theorem dX10_hasSupport_50 : decode cX10_hasSupport 50 = .ok (.iconst 0, 1) := by decide +kernel
theorem dX10_hasSupport_51 : decode cX10_hasSupport 51 = .ok (.ireturn, 1) := by decide +kernel
theorem dX10_isToldTwice_0 : decode cX10_isToldTwice 0 = .ok (.aload_n 0, 1) := by decide +kernel
theorem dX10_isToldTwice_1 : decode cX10_isToldTwice 1 = .ok (.getfield 55, 3) := by decide +kernel
theorem dX10_isToldTwice_4 : decode cX10_isToldTwice 4 = .ok (.getfield 172, 3) := by decide +kernel
theorem dX10_isToldTwice_7 : decode cX10_isToldTwice 7 = .ok (.aload_n 0, 1) := by decide +kernel
theorem dX10_isToldTwice_8 : decode cX10_isToldTwice 8 = .ok (.getfield 62, 3) := by decide +kernel
theorem dX10_isToldTwice_11 : decode cX10_isToldTwice 11 = .ok (.getfield 166, 3) := by decide +kernel
theorem dX10_isToldTwice_14 : decode cX10_isToldTwice 14 = .ok (.iload_n 1, 1) := by decide +kernel
theorem dX10_isToldTwice_15 : decode cX10_isToldTwice 15 = .ok (.iaload, 1) := by decide +kernel
theorem dX10_isToldTwice_16 : decode cX10_isToldTwice 16 = .ok (.iaload, 1) := by decide +kernel
theorem dX10_isToldTwice_17 : decode cX10_isToldTwice 17 = .ok (.istore_n 2, 1) := by decide +kernel
theorem dX10_isToldTwice_18 : decode cX10_isToldTwice 18 = .ok (.aload_n 0, 1) := by decide +kernel
theorem dX10_isToldTwice_19 : decode cX10_isToldTwice 19 = .ok (.getfield 76, 3) := by decide +kernel
theorem dX10_isToldTwice_22 : decode cX10_isToldTwice 22 = .ok (.getfield 181, 3) := by decide +kernel
theorem dX10_isToldTwice_25 : decode cX10_isToldTwice 25 = .ok (.iload_n 1, 1) := by decide +kernel
theorem dX10_isToldTwice_26 : decode cX10_isToldTwice 26 = .ok (.iaload, 1) := by decide +kernel
theorem dX10_isToldTwice_27 : decode cX10_isToldTwice 27 = .ok (.istore_n 3, 1) := by decide +kernel
theorem dX10_isToldTwice_28 : decode cX10_isToldTwice 28 = .ok (.iload_n 3, 1) := by decide +kernel
theorem dX10_isToldTwice_29 : decode cX10_isToldTwice 29 = .ok (.iconst (-1), 1) := by decide +kernel
theorem dX10_isToldTwice_30 : decode cX10_isToldTwice 30 = .ok (.if_icmp .eq 7, 3) := by decide +kernel
theorem dX10_isToldTwice_33 : decode cX10_isToldTwice 33 = .ok (.iload_n 2, 1) := by decide +kernel
theorem dX10_isToldTwice_34 : decode cX10_isToldTwice 34 = .ok (.ifCond .ne 5, 3) := by decide +kernel
theorem dX10_isToldTwice_37 : decode cX10_isToldTwice 37 = .ok (.iconst 0, 1) := by decide +kernel
theorem dX10_isToldTwice_38 : decode cX10_isToldTwice 38 = .ok (.ireturn, 1) := by decide +kernel
theorem dX10_isToldTwice_39 : decode cX10_isToldTwice 39 = .ok (.iconst 0, 1) := by decide +kernel
theorem dX10_isToldTwice_40 : decode cX10_isToldTwice 40 = .ok (.istore 4, 2) := by decide +kernel
theorem dX10_isToldTwice_42 : decode cX10_isToldTwice 42 = .ok (.iload 4, 2) := by decide +kernel
theorem dX10_isToldTwice_44 : decode cX10_isToldTwice 44 = .ok (.iload_n 1, 1) := by decide +kernel
theorem dX10_isToldTwice_45 : decode cX10_isToldTwice 45 = .ok (.if_icmp .ge 38, 3) := by decide +kernel
theorem dX10_isToldTwice_48 : decode cX10_isToldTwice 48 = .ok (.aload_n 0, 1) := by decide +kernel
theorem dX10_isToldTwice_49 : decode cX10_isToldTwice 49 = .ok (.getfield 76, 3) := by decide +kernel
theorem dX10_isToldTwice_52 : decode cX10_isToldTwice 52 = .ok (.getfield 181, 3) := by decide +kernel
theorem dX10_isToldTwice_55 : decode cX10_isToldTwice 55 = .ok (.iload 4, 2) := by decide +kernel
theorem dX10_isToldTwice_57 : decode cX10_isToldTwice 57 = .ok (.iaload, 1) := by decide +kernel
theorem dX10_isToldTwice_58 : decode cX10_isToldTwice 58 = .ok (.iload_n 3, 1) := by decide +kernel
theorem dX10_isToldTwice_59 : decode cX10_isToldTwice 59 = .ok (.if_icmp .ne 18, 3) := by decide +kernel
theorem dX10_isToldTwice_62 : decode cX10_isToldTwice 62 = .ok (.iconst 2, 1) := by decide +kernel
theorem dX10_isToldTwice_63 : decode cX10_isToldTwice 63 = .ok (.aload_n 0, 1) := by decide +kernel
theorem dX10_isToldTwice_64 : decode cX10_isToldTwice 64 = .ok (.iload 4, 2) := by decide +kernel
theorem dX10_isToldTwice_66 : decode cX10_isToldTwice 66 = .ok (.iload_n 1, 1) := by decide +kernel
theorem dX10_isToldTwice_67 : decode cX10_isToldTwice 67 = .ok (.invokevirtual 205, 3) := by decide +kernel
theorem dX10_isToldTwice_70 : decode cX10_isToldTwice 70 = .ok (.imul, 1) := by decide +kernel
theorem dX10_isToldTwice_71 : decode cX10_isToldTwice 71 = .ok (.iload_n 2, 1) := by decide +kernel
theorem dX10_isToldTwice_72 : decode cX10_isToldTwice 72 = .ok (.if_icmp .lt 5, 3) := by decide +kernel
theorem dX10_isToldTwice_75 : decode cX10_isToldTwice 75 = .ok (.iconst 1, 1) := by decide +kernel
theorem dX10_isToldTwice_76 : decode cX10_isToldTwice 76 = .ok (.ireturn, 1) := by decide +kernel
theorem dX10_isToldTwice_77 : decode cX10_isToldTwice 77 = .ok (.iinc 4 1, 3) := by decide +kernel
theorem dX10_isToldTwice_80 : decode cX10_isToldTwice 80 = .ok (.goto (-38), 3) := by decide +kernel
theorem dX10_isToldTwice_83 : decode cX10_isToldTwice 83 = .ok (.iconst 0, 1) := by decide +kernel
theorem dX10_isToldTwice_84 : decode cX10_isToldTwice 84 = .ok (.ireturn, 1) := by decide +kernel
theorem dX10_pair_0 : decode cX10_pair 0 = .ok (.aload_n 0, 1) := by decide +kernel
theorem dX10_pair_1 : decode cX10_pair 1 = .ok (.iload_n 1, 1) := by decide +kernel
theorem dX10_pair_2 : decode cX10_pair 2 = .ok (.invokevirtual 159, 3) := by decide +kernel
theorem dX10_pair_5 : decode cX10_pair 5 = .ok (.ifCond .ne 16, 3) := by decide +kernel
theorem dX10_pair_8 : decode cX10_pair 8 = .ok (.aload_n 0, 1) := by decide +kernel
theorem dX10_pair_9 : decode cX10_pair 9 = .ok (.iload_n 2, 1) := by decide +kernel
theorem dX10_pair_10 : decode cX10_pair 10 = .ok (.invokevirtual 159, 3) := by decide +kernel
theorem dX10_pair_13 : decode cX10_pair 13 = .ok (.ifCond .ne 8, 3) := by decide +kernel
theorem dX10_pair_16 : decode cX10_pair 16 = .ok (.iload_n 1, 1) := by decide +kernel
theorem dX10_pair_17 : decode cX10_pair 17 = .ok (.iload_n 2, 1) := by decide +kernel
theorem dX10_pair_18 : decode cX10_pair 18 = .ok (.if_icmp .ne 6, 3) := by decide +kernel
theorem dX10_pair_21 : decode cX10_pair 21 = .ok (.bipush (-2), 2) := by decide +kernel
theorem dX10_pair_23 : decode cX10_pair 23 = .ok (.ireturn, 1) := by decide +kernel
theorem dX10_pair_24 : decode cX10_pair 24 = .ok (.aload_n 0, 1) := by decide +kernel
theorem dX10_pair_25 : decode cX10_pair 25 = .ok (.getfield 62, 3) := by decide +kernel
theorem dX10_pair_28 : decode cX10_pair 28 = .ok (.getfield 166, 3) := by decide +kernel
theorem dX10_pair_31 : decode cX10_pair 31 = .ok (.iload_n 1, 1) := by decide +kernel
theorem dX10_pair_32 : decode cX10_pair 32 = .ok (.iaload, 1) := by decide +kernel
theorem dX10_pair_33 : decode cX10_pair 33 = .ok (.istore_n 3, 1) := by decide +kernel
theorem dX10_pair_34 : decode cX10_pair 34 = .ok (.aload_n 0, 1) := by decide +kernel
theorem dX10_pair_35 : decode cX10_pair 35 = .ok (.getfield 62, 3) := by decide +kernel
theorem dX10_pair_38 : decode cX10_pair 38 = .ok (.getfield 166, 3) := by decide +kernel
theorem dX10_pair_41 : decode cX10_pair 41 = .ok (.iload_n 2, 1) := by decide +kernel
theorem dX10_pair_42 : decode cX10_pair 42 = .ok (.iaload, 1) := by decide +kernel
theorem dX10_pair_43 : decode cX10_pair 43 = .ok (.istore 4, 2) := by decide +kernel
theorem dX10_pair_45 : decode cX10_pair 45 = .ok (.aload_n 0, 1) := by decide +kernel
theorem dX10_pair_46 : decode cX10_pair 46 = .ok (.getfield 83, 3) := by decide +kernel
theorem dX10_pair_49 : decode cX10_pair 49 = .ok (.iload 4, 2) := by decide +kernel
theorem dX10_pair_51 : decode cX10_pair 51 = .ok (.iload_n 3, 1) := by decide +kernel
theorem dX10_pair_52 : decode cX10_pair 52 = .ok (.invokevirtual 278, 3) := by decide +kernel
theorem dX10_pair_55 : decode cX10_pair 55 = .ok (.ifCond .eq 6, 3) := by decide +kernel
theorem dX10_pair_58 : decode cX10_pair 58 = .ok (.bipush (-2), 2) := by decide +kernel
theorem dX10_pair_60 : decode cX10_pair 60 = .ok (.ireturn, 1) := by decide +kernel
theorem dX10_pair_61 : decode cX10_pair 61 = .ok (.aload_n 0, 1) := by decide +kernel
theorem dX10_pair_62 : decode cX10_pair 62 = .ok (.getfield 83, 3) := by decide +kernel
theorem dX10_pair_65 : decode cX10_pair 65 = .ok (.iload_n 3, 1) := by decide +kernel
theorem dX10_pair_66 : decode cX10_pair 66 = .ok (.iload 4, 2) := by decide +kernel
theorem dX10_pair_68 : decode cX10_pair 68 = .ok (.invokevirtual 281, 3) := by decide +kernel
theorem dX10_pair_71 : decode cX10_pair 71 = .ok (.ifCond .eq 11, 3) := by decide +kernel
theorem dX10_pair_74 : decode cX10_pair 74 = .ok (.aload_n 0, 1) := by decide +kernel
theorem dX10_pair_75 : decode cX10_pair 75 = .ok (.getfield 83, 3) := by decide +kernel
theorem dX10_pair_78 : decode cX10_pair 78 = .ok (.getfield 155, 3) := by decide +kernel
theorem dX10_pair_81 : decode cX10_pair 81 = .ok (.ireturn, 1) := by decide +kernel
theorem dX10_pair_82 : decode cX10_pair 82 = .ok (.aload_n 0, 1) := by decide +kernel
theorem dX10_pair_83 : decode cX10_pair 83 = .ok (.getfield 83, 3) := by decide +kernel
theorem dX10_pair_86 : decode cX10_pair 86 = .ok (.getfield 155, 3) := by decide +kernel
theorem dX10_pair_89 : decode cX10_pair 89 = .ok (.bipush 20, 2) := by decide +kernel
theorem dX10_pair_91 : decode cX10_pair 91 = .ok (.if_icmp .lt 6, 3) := by decide +kernel
theorem dX10_pair_94 : decode cX10_pair 94 = .ok (.bipush (-3), 2) := by decide +kernel
theorem dX10_pair_96 : decode cX10_pair 96 = .ok (.ireturn, 1) := by decide +kernel
theorem dX10_pair_97 : decode cX10_pair 97 = .ok (.aload_n 0, 1) := by decide +kernel
theorem dX10_pair_98 : decode cX10_pair 98 = .ok (.getfield 83, 3) := by decide +kernel
theorem dX10_pair_101 : decode cX10_pair 101 = .ok (.iload_n 3, 1) := by decide +kernel
theorem dX10_pair_102 : decode cX10_pair 102 = .ok (.iload 4, 2) := by decide +kernel
theorem dX10_pair_104 : decode cX10_pair 104 = .ok (.invokevirtual 284, 3) := by decide +kernel
theorem dX10_pair_107 : decode cX10_pair 107 = .ok (.aload_n 0, 1) := by decide +kernel
theorem dX10_pair_108 : decode cX10_pair 108 = .ok (.getfield 83, 3) := by decide +kernel
theorem dX10_pair_111 : decode cX10_pair 111 = .ok (.getfield 155, 3) := by decide +kernel
theorem dX10_pair_114 : decode cX10_pair 114 = .ok (.ireturn, 1) := by decide +kernel
theorem dX10_order_0 : decode cX10_order 0 = .ok (.aload_n 0, 1) := by decide +kernel
theorem dX10_order_1 : decode cX10_order 1 = .ok (.iload_n 1, 1) := by decide +kernel
theorem dX10_order_2 : decode cX10_order 2 = .ok (.invokevirtual 159, 3) := by decide +kernel
theorem dX10_order_5 : decode cX10_order 5 = .ok (.ifCond .eq 6, 3) := by decide +kernel
theorem dX10_order_8 : decode cX10_order 8 = .ok (.bipush (-2), 2) := by decide +kernel
theorem dX10_order_10 : decode cX10_order 10 = .ok (.ireturn, 1) := by decide +kernel
theorem dX10_order_11 : decode cX10_order 11 = .ok (.aload_n 0, 1) := by decide +kernel
theorem dX10_order_12 : decode cX10_order 12 = .ok (.invokevirtual 163, 3) := by decide +kernel
theorem dX10_order_15 : decode cX10_order 15 = .ok (.aload_n 0, 1) := by decide +kernel
theorem dX10_order_16 : decode cX10_order 16 = .ok (.iload_n 1, 1) := by decide +kernel
theorem dX10_order_17 : decode cX10_order 17 = .ok (.invokevirtual 286, 3) := by decide +kernel
theorem dX10_order_20 : decode cX10_order 20 = .ok (.istore_n 2, 1) := by decide +kernel
theorem dX10_order_21 : decode cX10_order 21 = .ok (.iload_n 2, 1) := by decide +kernel
theorem dX10_order_22 : decode cX10_order 22 = .ok (.ifCond .lt 10, 3) := by decide +kernel
theorem dX10_order_25 : decode cX10_order 25 = .ok (.aload_n 0, 1) := by decide +kernel
theorem dX10_order_26 : decode cX10_order 26 = .ok (.getfield 90, 3) := by decide +kernel
theorem dX10_order_29 : decode cX10_order 29 = .ok (.invokevirtual 289, 3) := by decide +kernel
theorem dX10_order_32 : decode cX10_order 32 = .ok (.iload_n 2, 1) := by decide +kernel
theorem dX10_order_33 : decode cX10_order 33 = .ok (.ireturn, 1) := by decide +kernel
theorem dX10_ordered_0 : decode cX10_ordered 0 = .ok (.iload_n 1, 1) := by decide +kernel
theorem dX10_ordered_1 : decode cX10_ordered 1 = .ok (.ifCond .lt 14, 3) := by decide +kernel
theorem dX10_ordered_4 : decode cX10_ordered 4 = .ok (.iload_n 1, 1) := by decide +kernel
theorem dX10_ordered_5 : decode cX10_ordered 5 = .ok (.aload_n 0, 1) := by decide +kernel
theorem dX10_ordered_6 : decode cX10_ordered 6 = .ok (.getfield 90, 3) := by decide +kernel
theorem dX10_ordered_9 : decode cX10_ordered 9 = .ok (.getfield 292, 3) := by decide +kernel
theorem dX10_ordered_12 : decode cX10_ordered 12 = .ok (.if_icmp .lt 7, 3) := by decide +kernel
theorem dX10_ordered_15 : decode cX10_ordered 15 = .ok (.iconst (-1), 1) := by decide +kernel
theorem dX10_ordered_16 : decode cX10_ordered 16 = .ok (.goto 12, 3) := by decide +kernel
theorem dX10_ordered_19 : decode cX10_ordered 19 = .ok (.aload_n 0, 1) := by decide +kernel
theorem dX10_ordered_20 : decode cX10_ordered 20 = .ok (.getfield 90, 3) := by decide +kernel
theorem dX10_ordered_23 : decode cX10_ordered 23 = .ok (.getfield 295, 3) := by decide +kernel
theorem dX10_ordered_26 : decode cX10_ordered 26 = .ok (.iload_n 1, 1) := by decide +kernel
theorem dX10_ordered_27 : decode cX10_ordered 27 = .ok (.iaload, 1) := by decide +kernel
theorem dX10_ordered_28 : decode cX10_ordered 28 = .ok (.ireturn, 1) := by decide +kernel
theorem dX10_stands_0 : decode cX10_stands 0 = .ok (.aload_n 0, 1) := by decide +kernel
theorem dX10_stands_1 : decode cX10_stands 1 = .ok (.iload_n 1, 1) := by decide +kernel
theorem dX10_stands_2 : decode cX10_stands 2 = .ok (.invokevirtual 159, 3) := by decide +kernel
theorem dX10_stands_5 : decode cX10_stands 5 = .ok (.ifCond .eq 6, 3) := by decide +kernel
theorem dX10_stands_8 : decode cX10_stands 8 = .ok (.bipush (-2), 2) := by decide +kernel
theorem dX10_stands_10 : decode cX10_stands 10 = .ok (.ireturn, 1) := by decide +kernel
theorem dX10_stands_11 : decode cX10_stands 11 = .ok (.aload_n 0, 1) := by decide +kernel
theorem dX10_stands_12 : decode cX10_stands 12 = .ok (.invokevirtual 163, 3) := by decide +kernel
theorem dX10_stands_15 : decode cX10_stands 15 = .ok (.iconst 0, 1) := by decide +kernel
theorem dX10_stands_16 : decode cX10_stands 16 = .ok (.istore_n 2, 1) := by decide +kernel
theorem dX10_stands_17 : decode cX10_stands 17 = .ok (.iconst 0, 1) := by decide +kernel
theorem dX10_stands_18 : decode cX10_stands 18 = .ok (.istore_n 3, 1) := by decide +kernel
theorem dX10_stands_19 : decode cX10_stands 19 = .ok (.iload_n 3, 1) := by decide +kernel
theorem dX10_stands_20 : decode cX10_stands 20 = .ok (.aload_n 0, 1) := by decide +kernel
theorem dX10_stands_21 : decode cX10_stands 21 = .ok (.getfield 45, 3) := by decide +kernel
theorem dX10_stands_24 : decode cX10_stands 24 = .ok (.getfield 149, 3) := by decide +kernel
theorem dX10_stands_27 : decode cX10_stands 27 = .ok (.if_icmp .ge 31, 3) := by decide +kernel
theorem dX10_stands_30 : decode cX10_stands 30 = .ok (.aload_n 0, 1) := by decide +kernel
theorem dX10_stands_31 : decode cX10_stands 31 = .ok (.getfield 76, 3) := by decide +kernel
theorem dX10_stands_34 : decode cX10_stands 34 = .ok (.getfield 181, 3) := by decide +kernel
theorem dX10_stands_37 : decode cX10_stands 37 = .ok (.iload_n 3, 1) := by decide +kernel
theorem dX10_stands_38 : decode cX10_stands 38 = .ok (.iaload, 1) := by decide +kernel
theorem dX10_stands_39 : decode cX10_stands 39 = .ok (.iload_n 1, 1) := by decide +kernel
theorem dX10_stands_40 : decode cX10_stands 40 = .ok (.if_icmp .ne 12, 3) := by decide +kernel
theorem dX10_stands_43 : decode cX10_stands 43 = .ok (.iload_n 2, 1) := by decide +kernel
theorem dX10_stands_44 : decode cX10_stands 44 = .ok (.iload_n 1, 1) := by decide +kernel
theorem dX10_stands_45 : decode cX10_stands 45 = .ok (.iload_n 3, 1) := by decide +kernel
theorem dX10_stands_46 : decode cX10_stands 46 = .ok (.isub, 1) := by decide +kernel
theorem dX10_stands_47 : decode cX10_stands 47 = .ok (.invokestatic 256, 3) := by decide +kernel
theorem dX10_stands_50 : decode cX10_stands 50 = .ok (.iadd, 1) := by decide +kernel
theorem dX10_stands_51 : decode cX10_stands 51 = .ok (.istore_n 2, 1) := by decide +kernel
theorem dX10_stands_52 : decode cX10_stands 52 = .ok (.iinc 3 1, 3) := by decide +kernel
theorem dX10_stands_55 : decode cX10_stands 55 = .ok (.goto (-36), 3) := by decide +kernel
theorem dX10_stands_58 : decode cX10_stands 58 = .ok (.iload_n 2, 1) := by decide +kernel
theorem dX10_stands_59 : decode cX10_stands 59 = .ok (.ireturn, 1) := by decide +kernel
theorem dX10_arrange_0 : decode cX10_arrange 0 = .ok (.aload_n 0, 1) := by decide +kernel
theorem dX10_arrange_1 : decode cX10_arrange 1 = .ok (.iload_n 1, 1) := by decide +kernel
theorem dX10_arrange_2 : decode cX10_arrange 2 = .ok (.invokevirtual 159, 3) := by decide +kernel
theorem dX10_arrange_5 : decode cX10_arrange 5 = .ok (.ifCond .eq 6, 3) := by decide +kernel
theorem dX10_arrange_8 : decode cX10_arrange 8 = .ok (.bipush (-2), 2) := by decide +kernel
theorem dX10_arrange_10 : decode cX10_arrange 10 = .ok (.ireturn, 1) := by decide +kernel
theorem dX10_arrange_11 : decode cX10_arrange 11 = .ok (.aload_n 0, 1) := by decide +kernel
theorem dX10_arrange_12 : decode cX10_arrange 12 = .ok (.invokevirtual 163, 3) := by decide +kernel
theorem dX10_arrange_15 : decode cX10_arrange 15 = .ok (.aload_n 0, 1) := by decide +kernel
theorem dX10_arrange_16 : decode cX10_arrange 16 = .ok (.iload_n 1, 1) := by decide +kernel
theorem dX10_arrange_17 : decode cX10_arrange 17 = .ok (.invokevirtual 286, 3) := by decide +kernel
theorem dX10_arrange_20 : decode cX10_arrange 20 = .ok (.ifCond .ge 5, 3) := by decide +kernel
theorem dX10_arrange_23 : decode cX10_arrange 23 = .ok (.iconst (-1), 1) := by decide +kernel
theorem dX10_arrange_24 : decode cX10_arrange 24 = .ok (.ireturn, 1) := by decide +kernel
theorem dX10_arrange_25 : decode cX10_arrange 25 = .ok (.aload_n 0, 1) := by decide +kernel
theorem dX10_arrange_26 : decode cX10_arrange 26 = .ok (.getfield 62, 3) := by decide +kernel
theorem dX10_arrange_29 : decode cX10_arrange 29 = .ok (.aload_n 0, 1) := by decide +kernel
theorem dX10_arrange_30 : decode cX10_arrange 30 = .ok (.getfield 76, 3) := by decide +kernel
theorem dX10_arrange_33 : decode cX10_arrange 33 = .ok (.getfield 298, 3) := by decide +kernel
theorem dX10_arrange_36 : decode cX10_arrange 36 = .ok (.iload_n 1, 1) := by decide +kernel
theorem dX10_arrange_37 : decode cX10_arrange 37 = .ok (.iaload, 1) := by decide +kernel
theorem dX10_arrange_38 : decode cX10_arrange 38 = .ok (.invokevirtual 301, 3) := by decide +kernel
theorem dX10_arrange_41 : decode cX10_arrange 41 = .ok (.iconst 0, 1) := by decide +kernel
theorem dX10_arrange_42 : decode cX10_arrange 42 = .ok (.istore_n 2, 1) := by decide +kernel
theorem dX10_arrange_43 : decode cX10_arrange 43 = .ok (.iload_n 2, 1) := by decide +kernel
theorem dX10_arrange_44 : decode cX10_arrange 44 = .ok (.aload_n 0, 1) := by decide +kernel
theorem dX10_arrange_45 : decode cX10_arrange 45 = .ok (.getfield 90, 3) := by decide +kernel
theorem dX10_arrange_48 : decode cX10_arrange 48 = .ok (.getfield 304, 3) := by decide +kernel
theorem dX10_arrange_51 : decode cX10_arrange 51 = .ok (.if_icmp .ge 44, 3) := by decide +kernel
theorem dX10_arrange_54 : decode cX10_arrange 54 = .ok (.aload_n 0, 1) := by decide +kernel
theorem dX10_arrange_55 : decode cX10_arrange 55 = .ok (.getfield 90, 3) := by decide +kernel
theorem dX10_arrange_58 : decode cX10_arrange 58 = .ok (.getfield 307, 3) := by decide +kernel
theorem dX10_arrange_61 : decode cX10_arrange 61 = .ok (.iload_n 2, 1) := by decide +kernel
theorem dX10_arrange_62 : decode cX10_arrange 62 = .ok (.iaload, 1) := by decide +kernel
theorem dX10_arrange_63 : decode cX10_arrange 63 = .ok (.istore_n 3, 1) := by decide +kernel
theorem dX10_arrange_64 : decode cX10_arrange 64 = .ok (.aload_n 0, 1) := by decide +kernel
theorem dX10_arrange_65 : decode cX10_arrange 65 = .ok (.getfield 62, 3) := by decide +kernel
theorem dX10_arrange_68 : decode cX10_arrange 68 = .ok (.aload_n 0, 1) := by decide +kernel
theorem dX10_arrange_69 : decode cX10_arrange 69 = .ok (.getfield 90, 3) := by decide +kernel
theorem dX10_arrange_72 : decode cX10_arrange 72 = .ok (.getfield 310, 3) := by decide +kernel
theorem dX10_arrange_75 : decode cX10_arrange 75 = .ok (.iload_n 3, 1) := by decide +kernel
theorem dX10_arrange_76 : decode cX10_arrange 76 = .ok (.iaload, 1) := by decide +kernel
theorem dX10_arrange_77 : decode cX10_arrange 77 = .ok (.aload_n 0, 1) := by decide +kernel
theorem dX10_arrange_78 : decode cX10_arrange 78 = .ok (.getfield 90, 3) := by decide +kernel
theorem dX10_arrange_81 : decode cX10_arrange 81 = .ok (.getfield 313, 3) := by decide +kernel
theorem dX10_arrange_84 : decode cX10_arrange 84 = .ok (.iload_n 3, 1) := by decide +kernel
theorem dX10_arrange_85 : decode cX10_arrange 85 = .ok (.iaload, 1) := by decide +kernel
theorem dX10_arrange_86 : decode cX10_arrange 86 = .ok (.invokevirtual 315, 3) := by decide +kernel
theorem dX10_arrange_89 : decode cX10_arrange 89 = .ok (.iinc 2 1, 3) := by decide +kernel
theorem dX10_arrange_92 : decode cX10_arrange 92 = .ok (.goto (-49), 3) := by decide +kernel
theorem dX10_arrange_95 : decode cX10_arrange 95 = .ok (.aload_n 0, 1) := by decide +kernel
theorem dX10_arrange_96 : decode cX10_arrange 96 = .ok (.iconst 1, 1) := by decide +kernel
theorem dX10_arrange_97 : decode cX10_arrange 97 = .ok (.putfield 136, 3) := by decide +kernel
theorem dX10_arrange_100 : decode cX10_arrange 100 = .ok (.aload_n 0, 1) := by decide +kernel
theorem dX10_arrange_101 : decode cX10_arrange 101 = .ok (.getfield 62, 3) := by decide +kernel
theorem dX10_arrange_104 : decode cX10_arrange 104 = .ok (.invokevirtual 318, 3) := by decide +kernel
theorem dX10_arrange_107 : decode cX10_arrange 107 = .ok (.ireturn, 1) := by decide +kernel
theorem dX10_move_0 : decode cX10_move 0 = .ok (.aload_n 0, 1) := by decide +kernel
theorem dX10_move_1 : decode cX10_move 1 = .ok (.getfield 45, 3) := by decide +kernel
theorem dX10_move_4 : decode cX10_move 4 = .ok (.getfield 149, 3) := by decide +kernel
theorem dX10_move_7 : decode cX10_move 7 = .ok (.istore_n 3, 1) := by decide +kernel
theorem dX10_move_8 : decode cX10_move 8 = .ok (.aload_n 0, 1) := by decide +kernel
theorem dX10_move_9 : decode cX10_move 9 = .ok (.iload_n 1, 1) := by decide +kernel
theorem dX10_move_10 : decode cX10_move 10 = .ok (.invokevirtual 159, 3) := by decide +kernel
theorem dX10_move_13 : decode cX10_move 13 = .ok (.ifCond .ne 12, 3) := by decide +kernel
theorem dX10_move_16 : decode cX10_move 16 = .ok (.iload_n 2, 1) := by decide +kernel
theorem dX10_move_17 : decode cX10_move 17 = .ok (.ifCond .lt 8, 3) := by decide +kernel
theorem dX10_move_20 : decode cX10_move 20 = .ok (.iload_n 2, 1) := by decide +kernel
theorem dX10_move_21 : decode cX10_move 21 = .ok (.iload_n 3, 1) := by decide +kernel
theorem dX10_move_22 : decode cX10_move 22 = .ok (.if_icmp .le 6, 3) := by decide +kernel
theorem dX10_move_25 : decode cX10_move 25 = .ok (.bipush (-2), 2) := by decide +kernel
theorem dX10_move_27 : decode cX10_move 27 = .ok (.ireturn, 1) := by decide +kernel
theorem dX10_move_28 : decode cX10_move 28 = .ok (.aload_n 0, 1) := by decide +kernel
theorem dX10_move_29 : decode cX10_move 29 = .ok (.invokevirtual 163, 3) := by decide +kernel
theorem dX10_move_32 : decode cX10_move 32 = .ok (.aload_n 0, 1) := by decide +kernel
theorem dX10_move_33 : decode cX10_move 33 = .ok (.getfield 76, 3) := by decide +kernel
theorem dX10_move_36 : decode cX10_move 36 = .ok (.getfield 298, 3) := by decide +kernel
theorem dX10_move_39 : decode cX10_move 39 = .ok (.iload_n 1, 1) := by decide +kernel
theorem dX10_move_40 : decode cX10_move 40 = .ok (.iaload, 1) := by decide +kernel
theorem dX10_move_41 : decode cX10_move 41 = .ok (.istore 4, 2) := by decide +kernel
theorem dX10_move_43 : decode cX10_move 43 = .ok (.iload 4, 2) := by decide +kernel
theorem dX10_move_45 : decode cX10_move 45 = .ok (.aload_n 0, 1) := by decide +kernel
theorem dX10_move_46 : decode cX10_move 46 = .ok (.getfield 76, 3) := by decide +kernel
theorem dX10_move_49 : decode cX10_move 49 = .ok (.getfield 187, 3) := by decide +kernel
theorem dX10_move_52 : decode cX10_move 52 = .ok (.iload_n 1, 1) := by decide +kernel
theorem dX10_move_53 : decode cX10_move 53 = .ok (.iaload, 1) := by decide +kernel
theorem dX10_move_54 : decode cX10_move 54 = .ok (.iadd, 1) := by decide +kernel
theorem dX10_move_55 : decode cX10_move 55 = .ok (.istore 5, 2) := by decide +kernel
theorem dX10_move_57 : decode cX10_move 57 = .ok (.iload_n 2, 1) := by decide +kernel
theorem dX10_move_58 : decode cX10_move 58 = .ok (.iload 4, 2) := by decide +kernel
theorem dX10_move_60 : decode cX10_move 60 = .ok (.if_icmp .lt 12, 3) := by decide +kernel
theorem dX10_move_63 : decode cX10_move 63 = .ok (.iload_n 2, 1) := by decide +kernel
theorem dX10_move_64 : decode cX10_move 64 = .ok (.iload 5, 2) := by decide +kernel
theorem dX10_move_66 : decode cX10_move 66 = .ok (.if_icmp .ge 6, 3) := by decide +kernel
theorem dX10_move_69 : decode cX10_move 69 = .ok (.bipush (-2), 2) := by decide +kernel
theorem dX10_move_71 : decode cX10_move 71 = .ok (.ireturn, 1) := by decide +kernel
theorem dX10_move_72 : decode cX10_move 72 = .ok (.iload_n 2, 1) := by decide +kernel
theorem dX10_move_73 : decode cX10_move 73 = .ok (.iload 4, 2) := by decide +kernel
theorem dX10_move_75 : decode cX10_move 75 = .ok (.if_icmp .ge 40, 3) := by decide +kernel
theorem dX10_move_78 : decode cX10_move 78 = .ok (.aload_n 0, 1) := by decide +kernel
theorem dX10_move_79 : decode cX10_move 79 = .ok (.getfield 62, 3) := by decide +kernel
theorem dX10_move_82 : decode cX10_move 82 = .ok (.iload_n 2, 1) := by decide +kernel
theorem dX10_move_83 : decode cX10_move 83 = .ok (.invokevirtual 301, 3) := by decide +kernel
theorem dX10_move_86 : decode cX10_move 86 = .ok (.aload_n 0, 1) := by decide +kernel
theorem dX10_move_87 : decode cX10_move 87 = .ok (.getfield 62, 3) := by decide +kernel
theorem dX10_move_90 : decode cX10_move 90 = .ok (.iload 4, 2) := by decide +kernel
theorem dX10_move_92 : decode cX10_move 92 = .ok (.iload 5, 2) := by decide +kernel
theorem dX10_move_94 : decode cX10_move 94 = .ok (.iload 4, 2) := by decide +kernel
theorem dX10_move_96 : decode cX10_move 96 = .ok (.isub, 1) := by decide +kernel
theorem dX10_move_97 : decode cX10_move 97 = .ok (.invokevirtual 315, 3) := by decide +kernel
theorem dX10_move_100 : decode cX10_move 100 = .ok (.aload_n 0, 1) := by decide +kernel
theorem dX10_move_101 : decode cX10_move 101 = .ok (.getfield 62, 3) := by decide +kernel
theorem dX10_move_104 : decode cX10_move 104 = .ok (.iload_n 2, 1) := by decide +kernel
theorem dX10_move_105 : decode cX10_move 105 = .ok (.iload 4, 2) := by decide +kernel
theorem dX10_move_107 : decode cX10_move 107 = .ok (.iload_n 2, 1) := by decide +kernel
theorem dX10_move_108 : decode cX10_move 108 = .ok (.isub, 1) := by decide +kernel
theorem dX10_move_109 : decode cX10_move 109 = .ok (.invokevirtual 315, 3) := by decide +kernel
theorem dX10_move_112 : decode cX10_move 112 = .ok (.goto 39, 3) := by decide +kernel
theorem dX10_move_115 : decode cX10_move 115 = .ok (.aload_n 0, 1) := by decide +kernel
theorem dX10_move_116 : decode cX10_move 116 = .ok (.getfield 62, 3) := by decide +kernel
theorem dX10_move_119 : decode cX10_move 119 = .ok (.iload 4, 2) := by decide +kernel
theorem dX10_move_121 : decode cX10_move 121 = .ok (.invokevirtual 301, 3) := by decide +kernel
theorem dX10_move_124 : decode cX10_move 124 = .ok (.aload_n 0, 1) := by decide +kernel
theorem dX10_move_125 : decode cX10_move 125 = .ok (.getfield 62, 3) := by decide +kernel
theorem dX10_move_128 : decode cX10_move 128 = .ok (.iload 5, 2) := by decide +kernel
theorem dX10_move_130 : decode cX10_move 130 = .ok (.iload_n 2, 1) := by decide +kernel
theorem dX10_move_131 : decode cX10_move 131 = .ok (.iload 5, 2) := by decide +kernel
theorem dX10_move_133 : decode cX10_move 133 = .ok (.isub, 1) := by decide +kernel
theorem dX10_move_134 : decode cX10_move 134 = .ok (.invokevirtual 315, 3) := by decide +kernel
theorem dX10_move_137 : decode cX10_move 137 = .ok (.aload_n 0, 1) := by decide +kernel
theorem dX10_move_138 : decode cX10_move 138 = .ok (.getfield 62, 3) := by decide +kernel
theorem dX10_move_141 : decode cX10_move 141 = .ok (.iload 4, 2) := by decide +kernel
theorem dX10_move_143 : decode cX10_move 143 = .ok (.iload 5, 2) := by decide +kernel
theorem dX10_move_145 : decode cX10_move 145 = .ok (.iload 4, 2) := by decide +kernel
theorem dX10_move_147 : decode cX10_move 147 = .ok (.isub, 1) := by decide +kernel
theorem dX10_move_148 : decode cX10_move 148 = .ok (.invokevirtual 315, 3) := by decide +kernel
theorem dX10_move_151 : decode cX10_move 151 = .ok (.aload_n 0, 1) := by decide +kernel
theorem dX10_move_152 : decode cX10_move 152 = .ok (.iconst 1, 1) := by decide +kernel
theorem dX10_move_153 : decode cX10_move 153 = .ok (.putfield 136, 3) := by decide +kernel
theorem dX10_move_156 : decode cX10_move 156 = .ok (.aload_n 0, 1) := by decide +kernel
theorem dX10_move_157 : decode cX10_move 157 = .ok (.getfield 62, 3) := by decide +kernel
theorem dX10_move_160 : decode cX10_move 160 = .ok (.invokevirtual 318, 3) := by decide +kernel
theorem dX10_move_163 : decode cX10_move 163 = .ok (.ireturn, 1) := by decide +kernel
theorem dX10_count_0 : decode cX10_count 0 = .ok (.iload_n 1, 1) := by decide +kernel
theorem dX10_count_1 : decode cX10_count 1 = .ok (.tableswitch 108 0 7 #[47, 55, 63, 71, 79, 87, 95, 103], 47) := by decide +kernel
theorem dX10_count_48 : decode cX10_count 48 = .ok (.aload_n 0, 1) := by decide +kernel
theorem dX10_count_49 : decode cX10_count 49 = .ok (.getfield 45, 3) := by decide +kernel
theorem dX10_count_52 : decode cX10_count 52 = .ok (.getfield 149, 3) := by decide +kernel
theorem dX10_count_55 : decode cX10_count 55 = .ok (.ireturn, 1) := by decide +kernel
theorem dX10_count_56 : decode cX10_count 56 = .ok (.aload_n 0, 1) := by decide +kernel
theorem dX10_count_57 : decode cX10_count 57 = .ok (.getfield 45, 3) := by decide +kernel
theorem dX10_count_60 : decode cX10_count 60 = .ok (.invokevirtual 321, 3) := by decide +kernel
theorem dX10_count_63 : decode cX10_count 63 = .ok (.ireturn, 1) := by decide +kernel
theorem dX10_count_64 : decode cX10_count 64 = .ok (.aload_n 0, 1) := by decide +kernel
theorem dX10_count_65 : decode cX10_count 65 = .ok (.getfield 21, 3) := by decide +kernel
theorem dX10_count_68 : decode cX10_count 68 = .ok (.getfield 135, 3) := by decide +kernel
theorem dX10_count_71 : decode cX10_count 71 = .ok (.ireturn, 1) := by decide +kernel
theorem dX10_count_72 : decode cX10_count 72 = .ok (.aload_n 0, 1) := by decide +kernel
theorem dX10_count_73 : decode cX10_count 73 = .ok (.getfield 25, 3) := by decide +kernel
theorem dX10_count_76 : decode cX10_count 76 = .ok (.getfield 135, 3) := by decide +kernel
theorem dX10_count_79 : decode cX10_count 79 = .ok (.ireturn, 1) := by decide +kernel
theorem dX10_count_80 : decode cX10_count 80 = .ok (.aload_n 0, 1) := by decide +kernel
theorem dX10_count_81 : decode cX10_count 81 = .ok (.getfield 28, 3) := by decide +kernel
theorem dX10_count_84 : decode cX10_count 84 = .ok (.getfield 135, 3) := by decide +kernel
theorem dX10_count_87 : decode cX10_count 87 = .ok (.ireturn, 1) := by decide +kernel
theorem dX10_count_88 : decode cX10_count 88 = .ok (.aload_n 0, 1) := by decide +kernel
theorem dX10_count_89 : decode cX10_count 89 = .ok (.getfield 83, 3) := by decide +kernel
theorem dX10_count_92 : decode cX10_count 92 = .ok (.getfield 155, 3) := by decide +kernel
theorem dX10_count_95 : decode cX10_count 95 = .ok (.ireturn, 1) := by decide +kernel
theorem dX10_count_96 : decode cX10_count 96 = .ok (.aload_n 0, 1) := by decide +kernel
theorem dX10_count_97 : decode cX10_count 97 = .ok (.getfield 12, 3) := by decide +kernel
theorem dX10_count_100 : decode cX10_count 100 = .ok (.getfield 94, 3) := by decide +kernel
theorem dX10_count_103 : decode cX10_count 103 = .ok (.ireturn, 1) := by decide +kernel
theorem dX10_count_104 : decode cX10_count 104 = .ok (.aload_n 0, 1) := by decide +kernel
theorem dX10_count_105 : decode cX10_count 105 = .ok (.invokevirtual 324, 3) := by decide +kernel
theorem dX10_count_108 : decode cX10_count 108 = .ok (.ireturn, 1) := by decide +kernel
theorem dX10_count_109 : decode cX10_count 109 = .ok (.iload_n 1, 1) := by decide +kernel
theorem dX10_count_110 : decode cX10_count 110 = .ok (.bipush 10, 2) := by decide +kernel
theorem dX10_count_112 : decode cX10_count 112 = .ok (.if_icmp .lt 21, 3) := by decide +kernel
theorem dX10_count_115 : decode cX10_count 115 = .ok (.iload_n 1, 1) := by decide +kernel
theorem dX10_count_116 : decode cX10_count 116 = .ok (.bipush 14, 2) := by decide +kernel
theorem dX10_count_118 : decode cX10_count 118 = .ok (.if_icmp .ge 15, 3) := by decide +kernel
theorem dX10_count_121 : decode cX10_count 121 = .ok (.aload_n 0, 1) := by decide +kernel
theorem dX10_count_122 : decode cX10_count 122 = .ok (.getfield 31, 3) := by decide +kernel
theorem dX10_count_125 : decode cX10_count 125 = .ok (.iload_n 1, 1) := by decide +kernel
theorem dX10_count_126 : decode cX10_count 126 = .ok (.bipush 10, 2) := by decide +kernel
theorem dX10_count_128 : decode cX10_count 128 = .ok (.isub, 1) := by decide +kernel
theorem dX10_count_129 : decode cX10_count 129 = .ok (.iaload, 1) := by decide +kernel
theorem dX10_count_130 : decode cX10_count 130 = .ok (.goto 4, 3) := by decide +kernel
theorem dX10_count_133 : decode cX10_count 133 = .ok (.iconst (-1), 1) := by decide +kernel
theorem dX10_count_134 : decode cX10_count 134 = .ok (.ireturn, 1) := by decide +kernel
theorem dX10_rootPlace_0 : decode cX10_rootPlace 0 = .ok (.aload_n 0, 1) := by decide +kernel
theorem dX10_rootPlace_1 : decode cX10_rootPlace 1 = .ok (.getfield 45, 3) := by decide +kernel
theorem dX10_rootPlace_4 : decode cX10_rootPlace 4 = .ok (.getfield 149, 3) := by decide +kernel
theorem dX10_rootPlace_7 : decode cX10_rootPlace 7 = .ok (.ifCond .ne 5, 3) := by decide +kernel
theorem dX10_rootPlace_10 : decode cX10_rootPlace 10 = .ok (.iconst (-1), 1) := by decide +kernel
theorem dX10_rootPlace_11 : decode cX10_rootPlace 11 = .ok (.ireturn, 1) := by decide +kernel
theorem dX10_rootPlace_12 : decode cX10_rootPlace 12 = .ok (.aload_n 0, 1) := by decide +kernel
theorem dX10_rootPlace_13 : decode cX10_rootPlace 13 = .ok (.invokevirtual 163, 3) := by decide +kernel
theorem dX10_rootPlace_16 : decode cX10_rootPlace 16 = .ok (.aload_n 0, 1) := by decide +kernel
theorem dX10_rootPlace_17 : decode cX10_rootPlace 17 = .ok (.getfield 76, 3) := by decide +kernel
theorem dX10_rootPlace_20 : decode cX10_rootPlace 20 = .ok (.getfield 327, 3) := by decide +kernel
theorem dX10_rootPlace_23 : decode cX10_rootPlace 23 = .ok (.ireturn, 1) := by decide +kernel
theorem dX10_findOrder_0 : decode cX10_findOrder 0 = .ok (.aload_n 0, 1) := by decide +kernel
theorem dX10_findOrder_1 : decode cX10_findOrder 1 = .ok (.getfield 76, 3) := by decide +kernel
theorem dX10_findOrder_4 : decode cX10_findOrder 4 = .ok (.getfield 184, 3) := by decide +kernel
theorem dX10_findOrder_7 : decode cX10_findOrder 7 = .ok (.iload_n 1, 1) := by decide +kernel
theorem dX10_findOrder_8 : decode cX10_findOrder 8 = .ok (.iaload, 1) := by decide +kernel
theorem dX10_findOrder_9 : decode cX10_findOrder 9 = .ok (.bipush 9, 2) := by decide +kernel
theorem dX10_findOrder_11 : decode cX10_findOrder 11 = .ok (.if_icmp .le 5, 3) := by decide +kernel
theorem dX10_findOrder_14 : decode cX10_findOrder 14 = .ok (.iconst (-1), 1) := by decide +kernel
theorem dX10_findOrder_15 : decode cX10_findOrder 15 = .ok (.ireturn, 1) := by decide +kernel
theorem dX10_findOrder_16 : decode cX10_findOrder 16 = .ok (.aload_n 0, 1) := by decide +kernel
theorem dX10_findOrder_17 : decode cX10_findOrder 17 = .ok (.getfield 90, 3) := by decide +kernel
theorem dX10_findOrder_20 : decode cX10_findOrder 20 = .ok (.invokevirtual 330, 3) := by decide +kernel
theorem dX10_findOrder_23 : decode cX10_findOrder 23 = .ok (.iconst 0, 1) := by decide +kernel
theorem dX10_findOrder_24 : decode cX10_findOrder 24 = .ok (.istore_n 2, 1) := by decide +kernel
theorem dX10_findOrder_25 : decode cX10_findOrder 25 = .ok (.iload_n 2, 1) := by decide +kernel
theorem dX10_findOrder_26 : decode cX10_findOrder 26 = .ok (.aload_n 0, 1) := by decide +kernel
theorem dX10_findOrder_27 : decode cX10_findOrder 27 = .ok (.getfield 45, 3) := by decide +kernel
theorem dX10_findOrder_30 : decode cX10_findOrder 30 = .ok (.getfield 149, 3) := by decide +kernel
theorem dX10_findOrder_33 : decode cX10_findOrder 33 = .ok (.if_icmp .ge 64, 3) := by decide +kernel
theorem dX10_findOrder_36 : decode cX10_findOrder 36 = .ok (.iload_n 2, 1) := by decide +kernel
theorem dX10_findOrder_37 : decode cX10_findOrder 37 = .ok (.iload_n 1, 1) := by decide +kernel
theorem dX10_findOrder_38 : decode cX10_findOrder 38 = .ok (.if_icmp .ne 14, 3) := by decide +kernel
theorem dX10_findOrder_41 : decode cX10_findOrder 41 = .ok (.aload_n 0, 1) := by decide +kernel
theorem dX10_findOrder_42 : decode cX10_findOrder 42 = .ok (.getfield 90, 3) := by decide +kernel
theorem dX10_findOrder_45 : decode cX10_findOrder 45 = .ok (.iload_n 1, 1) := by decide +kernel
theorem dX10_findOrder_46 : decode cX10_findOrder 46 = .ok (.invokevirtual 333, 3) := by decide +kernel
theorem dX10_findOrder_49 : decode cX10_findOrder 49 = .ok (.goto 42, 3) := by decide +kernel
theorem dX10_findOrder_52 : decode cX10_findOrder 52 = .ok (.aload_n 0, 1) := by decide +kernel
theorem dX10_findOrder_53 : decode cX10_findOrder 53 = .ok (.getfield 76, 3) := by decide +kernel
theorem dX10_findOrder_56 : decode cX10_findOrder 56 = .ok (.getfield 181, 3) := by decide +kernel
theorem dX10_findOrder_59 : decode cX10_findOrder 59 = .ok (.iload_n 2, 1) := by decide +kernel
theorem dX10_findOrder_60 : decode cX10_findOrder 60 = .ok (.iaload, 1) := by decide +kernel
theorem dX10_findOrder_61 : decode cX10_findOrder 61 = .ok (.iload_n 1, 1) := by decide +kernel
theorem dX10_findOrder_62 : decode cX10_findOrder 62 = .ok (.if_icmp .ne 29, 3) := by decide +kernel
theorem dX10_findOrder_65 : decode cX10_findOrder 65 = .ok (.aload_n 0, 1) := by decide +kernel
theorem dX10_findOrder_66 : decode cX10_findOrder 66 = .ok (.getfield 90, 3) := by decide +kernel
theorem dX10_findOrder_69 : decode cX10_findOrder 69 = .ok (.iload_n 2, 1) := by decide +kernel
theorem dX10_findOrder_70 : decode cX10_findOrder 70 = .ok (.aload_n 0, 1) := by decide +kernel
theorem dX10_findOrder_71 : decode cX10_findOrder 71 = .ok (.getfield 76, 3) := by decide +kernel
theorem dX10_findOrder_74 : decode cX10_findOrder 74 = .ok (.getfield 298, 3) := by decide +kernel
theorem dX10_findOrder_77 : decode cX10_findOrder 77 = .ok (.iload_n 2, 1) := by decide +kernel
theorem dX10_findOrder_78 : decode cX10_findOrder 78 = .ok (.iaload, 1) := by decide +kernel
theorem dX10_findOrder_79 : decode cX10_findOrder 79 = .ok (.aload_n 0, 1) := by decide +kernel
theorem dX10_findOrder_80 : decode cX10_findOrder 80 = .ok (.getfield 76, 3) := by decide +kernel
theorem dX10_findOrder_83 : decode cX10_findOrder 83 = .ok (.getfield 187, 3) := by decide +kernel
theorem dX10_findOrder_86 : decode cX10_findOrder 86 = .ok (.iload_n 2, 1) := by decide +kernel
theorem dX10_findOrder_87 : decode cX10_findOrder 87 = .ok (.iaload, 1) := by decide +kernel
theorem dX10_findOrder_88 : decode cX10_findOrder 88 = .ok (.invokevirtual 336, 3) := by decide +kernel
theorem dX10_findOrder_91 : decode cX10_findOrder 91 = .ok (.iinc 2 1, 3) := by decide +kernel
theorem dX10_findOrder_94 : decode cX10_findOrder 94 = .ok (.goto (-69), 3) := by decide +kernel
theorem dX10_findOrder_97 : decode cX10_findOrder 97 = .ok (.aload_n 0, 1) := by decide +kernel
theorem dX10_findOrder_98 : decode cX10_findOrder 98 = .ok (.iload_n 1, 1) := by decide +kernel
theorem dX10_findOrder_99 : decode cX10_findOrder 99 = .ok (.invokevirtual 340, 3) := by decide +kernel
theorem dX10_findOrder_102 : decode cX10_findOrder 102 = .ok (.aload_n 0, 1) := by decide +kernel
theorem dX10_findOrder_103 : decode cX10_findOrder 103 = .ok (.getfield 90, 3) := by decide +kernel
theorem dX10_findOrder_106 : decode cX10_findOrder 106 = .ok (.invokevirtual 343, 3) := by decide +kernel
theorem dX10_findOrder_109 : decode cX10_findOrder 109 = .ok (.ifCond .eq 13, 3) := by decide +kernel
theorem dX10_findOrder_112 : decode cX10_findOrder 112 = .ok (.aload_n 0, 1) := by decide +kernel
theorem dX10_findOrder_113 : decode cX10_findOrder 113 = .ok (.getfield 90, 3) := by decide +kernel
theorem dX10_findOrder_116 : decode cX10_findOrder 116 = .ok (.invokevirtual 346, 3) := by decide +kernel
theorem dX10_findOrder_119 : decode cX10_findOrder 119 = .ok (.goto 4, 3) := by decide +kernel
theorem dX10_findOrder_122 : decode cX10_findOrder 122 = .ok (.iconst (-1), 1) := by decide +kernel
theorem dX10_findOrder_123 : decode cX10_findOrder 123 = .ok (.ireturn, 1) := by decide +kernel
theorem dX10_bindUnits_0 : decode cX10_bindUnits 0 = .ok (.iconst 0, 1) := by decide +kernel
theorem dX10_bindUnits_1 : decode cX10_bindUnits 1 = .ok (.istore_n 2, 1) := by decide +kernel
theorem dX10_bindUnits_2 : decode cX10_bindUnits 2 = .ok (.iload_n 2, 1) := by decide +kernel
theorem dX10_bindUnits_3 : decode cX10_bindUnits 3 = .ok (.aload_n 0, 1) := by decide +kernel
theorem dX10_bindUnits_4 : decode cX10_bindUnits 4 = .ok (.getfield 90, 3) := by decide +kernel
theorem dX10_bindUnits_7 : decode cX10_bindUnits 7 = .ok (.getfield 304, 3) := by decide +kernel
theorem dX10_bindUnits_10 : decode cX10_bindUnits 10 = .ok (.if_icmp .ge 44, 3) := by decide +kernel
theorem dX10_bindUnits_13 : decode cX10_bindUnits 13 = .ok (.aload_n 0, 1) := by decide +kernel
theorem dX10_bindUnits_14 : decode cX10_bindUnits 14 = .ok (.getfield 90, 3) := by decide +kernel
theorem dX10_bindUnits_17 : decode cX10_bindUnits 17 = .ok (.getfield 347, 3) := by decide +kernel
theorem dX10_bindUnits_20 : decode cX10_bindUnits 20 = .ok (.iload_n 2, 1) := by decide +kernel
theorem dX10_bindUnits_21 : decode cX10_bindUnits 21 = .ok (.iaload, 1) := by decide +kernel
theorem dX10_bindUnits_22 : decode cX10_bindUnits 22 = .ok (.istore_n 3, 1) := by decide +kernel
theorem dX10_bindUnits_23 : decode cX10_bindUnits 23 = .ok (.iload_n 3, 1) := by decide +kernel
theorem dX10_bindUnits_24 : decode cX10_bindUnits 24 = .ok (.iload_n 1, 1) := by decide +kernel
theorem dX10_bindUnits_25 : decode cX10_bindUnits 25 = .ok (.if_icmp .eq 23, 3) := by decide +kernel
theorem dX10_bindUnits_28 : decode cX10_bindUnits 28 = .ok (.aload_n 0, 1) := by decide +kernel
theorem dX10_bindUnits_29 : decode cX10_bindUnits 29 = .ok (.iload_n 3, 1) := by decide +kernel
theorem dX10_bindUnits_30 : decode cX10_bindUnits 30 = .ok (.invokevirtual 239, 3) := by decide +kernel
theorem dX10_bindUnits_33 : decode cX10_bindUnits 33 = .ok (.invokestatic 242, 3) := by decide +kernel
theorem dX10_bindUnits_36 : decode cX10_bindUnits 36 = .ok (.ifCond .eq 12, 3) := by decide +kernel
theorem dX10_bindUnits_39 : decode cX10_bindUnits 39 = .ok (.aload_n 0, 1) := by decide +kernel
theorem dX10_bindUnits_40 : decode cX10_bindUnits 40 = .ok (.getfield 90, 3) := by decide +kernel
theorem dX10_bindUnits_43 : decode cX10_bindUnits 43 = .ok (.iload_n 1, 1) := by decide +kernel
theorem dX10_bindUnits_44 : decode cX10_bindUnits 44 = .ok (.iload_n 3, 1) := by decide +kernel
theorem dX10_bindUnits_45 : decode cX10_bindUnits 45 = .ok (.invokevirtual 350, 3) := by decide +kernel
theorem dX10_bindUnits_48 : decode cX10_bindUnits 48 = .ok (.iinc 2 1, 3) := by decide +kernel
theorem dX10_bindUnits_51 : decode cX10_bindUnits 51 = .ok (.goto (-49), 3) := by decide +kernel
theorem dX10_bindUnits_54 : decode cX10_bindUnits 54 = .ok (.iconst 0, 1) := by decide +kernel
theorem dX10_bindUnits_55 : decode cX10_bindUnits 55 = .ok (.istore_n 2, 1) := by decide +kernel
theorem dX10_bindUnits_56 : decode cX10_bindUnits 56 = .ok (.iload_n 2, 1) := by decide +kernel
theorem dX10_bindUnits_57 : decode cX10_bindUnits 57 = .ok (.aload_n 0, 1) := by decide +kernel
theorem dX10_bindUnits_58 : decode cX10_bindUnits 58 = .ok (.getfield 83, 3) := by decide +kernel
theorem dX10_bindUnits_61 : decode cX10_bindUnits 61 = .ok (.getfield 155, 3) := by decide +kernel
theorem dX10_bindUnits_64 : decode cX10_bindUnits 64 = .ok (.if_icmp .ge 48, 3) := by decide +kernel
theorem dX10_bindUnits_67 : decode cX10_bindUnits 67 = .ok (.aload_n 0, 1) := by decide +kernel
theorem dX10_bindUnits_68 : decode cX10_bindUnits 68 = .ok (.getfield 90, 3) := by decide +kernel
theorem dX10_bindUnits_71 : decode cX10_bindUnits 71 = .ok (.aload_n 0, 1) := by decide +kernel
theorem dX10_bindUnits_72 : decode cX10_bindUnits 72 = .ok (.getfield 62, 3) := by decide +kernel
theorem dX10_bindUnits_75 : decode cX10_bindUnits 75 = .ok (.aload_n 0, 1) := by decide +kernel
theorem dX10_bindUnits_76 : decode cX10_bindUnits 76 = .ok (.getfield 83, 3) := by decide +kernel
theorem dX10_bindUnits_79 : decode cX10_bindUnits 79 = .ok (.getfield 353, 3) := by decide +kernel
theorem dX10_bindUnits_82 : decode cX10_bindUnits 82 = .ok (.iload_n 2, 1) := by decide +kernel
theorem dX10_bindUnits_83 : decode cX10_bindUnits 83 = .ok (.iaload, 1) := by decide +kernel
theorem dX10_bindUnits_84 : decode cX10_bindUnits 84 = .ok (.invokevirtual 354, 3) := by decide +kernel
theorem dX10_bindUnits_87 : decode cX10_bindUnits 87 = .ok (.aload_n 0, 1) := by decide +kernel
theorem dX10_bindUnits_88 : decode cX10_bindUnits 88 = .ok (.getfield 62, 3) := by decide +kernel
theorem dX10_bindUnits_91 : decode cX10_bindUnits 91 = .ok (.aload_n 0, 1) := by decide +kernel
theorem dX10_bindUnits_92 : decode cX10_bindUnits 92 = .ok (.getfield 83, 3) := by decide +kernel
theorem dX10_bindUnits_95 : decode cX10_bindUnits 95 = .ok (.getfield 357, 3) := by decide +kernel
theorem dX10_bindUnits_98 : decode cX10_bindUnits 98 = .ok (.iload_n 2, 1) := by decide +kernel
theorem dX10_bindUnits_99 : decode cX10_bindUnits 99 = .ok (.iaload, 1) := by decide +kernel
theorem dX10_bindUnits_100 : decode cX10_bindUnits 100 = .ok (.invokevirtual 354, 3) := by decide +kernel
theorem dX10_bindUnits_103 : decode cX10_bindUnits 103 = .ok (.invokevirtual 350, 3) := by decide +kernel
theorem dX10_bindUnits_106 : decode cX10_bindUnits 106 = .ok (.iinc 2 1, 3) := by decide +kernel
theorem dX10_bindUnits_109 : decode cX10_bindUnits 109 = .ok (.goto (-53), 3) := by decide +kernel
theorem dX10_bindUnits_112 : decode cX10_bindUnits 112 = .ok (.return_, 1) := by decide +kernel
theorem dX10_smallLetter_0 : decode cX10_smallLetter 0 = .ok (.iload_n 0, 1) := by decide +kernel
theorem dX10_smallLetter_1 : decode cX10_smallLetter 1 = .ok (.bipush 65, 2) := by decide +kernel
theorem dX10_smallLetter_3 : decode cX10_smallLetter 3 = .ok (.if_icmp .lt 16, 3) := by decide +kernel
theorem dX10_smallLetter_6 : decode cX10_smallLetter 6 = .ok (.iload_n 0, 1) := by decide +kernel
theorem dX10_smallLetter_7 : decode cX10_smallLetter 7 = .ok (.bipush 90, 2) := by decide +kernel
theorem dX10_smallLetter_9 : decode cX10_smallLetter 9 = .ok (.if_icmp .gt 10, 3) := by decide +kernel
theorem dX10_smallLetter_12 : decode cX10_smallLetter 12 = .ok (.iload_n 0, 1) := by decide +kernel
theorem dX10_smallLetter_13 : decode cX10_smallLetter 13 = .ok (.bipush 32, 2) := by decide +kernel
theorem dX10_smallLetter_15 : decode cX10_smallLetter 15 = .ok (.iadd, 1) := by decide +kernel
theorem dX10_smallLetter_16 : decode cX10_smallLetter 16 = .ok (.goto 4, 3) := by decide +kernel
theorem dX10_smallLetter_19 : decode cX10_smallLetter 19 = .ok (.iload_n 0, 1) := by decide +kernel
theorem dX10_smallLetter_20 : decode cX10_smallLetter 20 = .ok (.ireturn, 1) := by decide +kernel
theorem dX10_isOfWords_0 : decode cX10_isOfWords 0 = .ok (.iload_n 0, 1) := by decide +kernel
theorem dX10_isOfWords_1 : decode cX10_isOfWords 1 = .ok (.bipush 97, 2) := by decide +kernel
theorem dX10_isOfWords_3 : decode cX10_isOfWords 3 = .ok (.if_icmp .lt 9, 3) := by decide +kernel
theorem dX10_isOfWords_6 : decode cX10_isOfWords 6 = .ok (.iload_n 0, 1) := by decide +kernel
theorem dX10_isOfWords_7 : decode cX10_isOfWords 7 = .ok (.bipush 122, 2) := by decide +kernel
theorem dX10_isOfWords_9 : decode cX10_isOfWords 9 = .ok (.if_icmp .le 21, 3) := by decide +kernel
theorem dX10_isOfWords_12 : decode cX10_isOfWords 12 = .ok (.iload_n 0, 1) := by decide +kernel
theorem dX10_isOfWords_13 : decode cX10_isOfWords 13 = .ok (.bipush 48, 2) := by decide +kernel
theorem dX10_isOfWords_15 : decode cX10_isOfWords 15 = .ok (.if_icmp .lt 9, 3) := by decide +kernel
theorem dX10_isOfWords_18 : decode cX10_isOfWords 18 = .ok (.iload_n 0, 1) := by decide +kernel
theorem dX10_isOfWords_19 : decode cX10_isOfWords 19 = .ok (.bipush 57, 2) := by decide +kernel
theorem dX10_isOfWords_21 : decode cX10_isOfWords 21 = .ok (.if_icmp .le 9, 3) := by decide +kernel
theorem dX10_isOfWords_24 : decode cX10_isOfWords 24 = .ok (.iload_n 0, 1) := by decide +kernel
theorem dX10_isOfWords_25 : decode cX10_isOfWords 25 = .ok (.bipush 39, 2) := by decide +kernel
theorem dX10_isOfWords_27 : decode cX10_isOfWords 27 = .ok (.if_icmp .ne 7, 3) := by decide +kernel
theorem dX10_isOfWords_30 : decode cX10_isOfWords 30 = .ok (.iconst 1, 1) := by decide +kernel
theorem dX10_isOfWords_31 : decode cX10_isOfWords 31 = .ok (.goto 4, 3) := by decide +kernel
theorem dX10_isOfWords_34 : decode cX10_isOfWords 34 = .ok (.iconst 0, 1) := by decide +kernel
theorem dX10_isOfWords_35 : decode cX10_isOfWords 35 = .ok (.ireturn, 1) := by decide +kernel
end
section
/-! THE FLAT PICTURE: every object and array of the class and of the reference has a number; memory is a table: number, place -> Int. -/
abbrev Mm : Type := Nat → Int → Int
def mput (M : Mm) (i : Nat) (k : Int) (x : Int) : Mm := fun a => if a = i then (fun b => if b = k then x else M i b) else M a
theorem mput_ne {M : Mm} {i a : Nat} {k x : Int} (h : a ≠ i) : mput M i k x a = M a := by simp [mput, h]
theorem mput_at {M : Mm} {i : Nat} {k x b : Int} : mput M i k x i b = if b = k then x else M i b := by simp [mput]
theorem mput_eq {M : Mm} {i : Nat} {k x : Int} : mput M i k x i k = x := by simp [mput]
theorem mput_nk {M : Mm} {i : Nat} {k x b : Int} (h : b ≠ k) : mput M i k x i b = M i b := by simp [mput, h]
def zi (z : Int) : Value := .int (Int32.ofInt z)
def zl (z : Int) : Value := .long (Int64.ofInt z)
abbrev NID : Nat := 107
def kdL : List Nat := [10, 7, 20, 9, 20, 20, 20, 9, 20, 20, 20, 9, 20, 20, 20, 20, 6, 8, 20, 20, 20, 20, 20, 20, 8, 20, 20, 20, 20, 20, 20, 2, 20, 20, 20, 21, 20, 20, 20, 20, 5, 20, 20, 1, 20, 20, 20, 20, 21, 21, 0, 20, 20, 20, 20, 4, 20, 20, 3, 20, 20, 20, 20, 20, 20, 20, 11, 22, 22, 22, 20, 22, 20, 20, 22, 20, 20, 22, 20, 20, 22, 20, 20, 20, 20, 20, 20, 20, 20, 20, 20, 20, 23, 20, 20, 20, 20, 20, 20, 20, 20, 20, 20, 20, 20, 20, 20]
def kd (i : Nat) : Nat := kdL.getD i 99
def lnL : List Nat := [0, 0, 3000, 0, 960, 60, 60, 0, 480, 30, 30, 0, 60, 10, 10, 4, 0, 0, 3000, 960, 960, 24, 24, 24, 0, 3000, 960, 960, 24, 24, 24, 0, 24, 24, 576, 360, 960, 960, 960, 256, 0, 24, 24, 0, 576, 24, 1153, 1153, 1153, 1153, 0, 24, 24, 24, 24, 0, 20, 20, 0, 10, 10, 10, 10, 1024, 10, 10, 0, 3000, 16, 960, 60, 480, 30, 30, 160, 10, 4, 15360, 960, 24, 15360, 960, 24, 24, 24, 24, 960, 960, 24, 24, 576, 24, 600, 576, 576, 24, 20, 20, 10, 10, 10, 10, 1024, 1024, 10, 10, 24]
def ln (i : Nat) : Nat := lnL.getD i 0
def nfL : List Nat := [5, 6, 9, 10, 3, 4, 7, 2, 8, 6, 16, 55]
def nf (c : Nat) : Nat := nfL.getD c 0
def ftL : List (List Nat) := [[2, 2, 2, 2, 0], [2, 2, 2, 2, 2, 2], [2, 2, 2, 2, 2, 2, 2, 2, 0], [2, 2, 2, 2, 2, 2, 2, 0, 0, 0], [2, 2, 0], [2, 2, 0, 0], [0, 0, 1, 1, 1, 1, 0], [2, 0], [2, 2, 2, 2, 2, 2, 0, 0], [0, 0, 2, 2, 2, 0], [2, 2, 2, 2, 2, 2, 3, 3, 2, 2, 2, 2, 2, 2, 1, 1], [2, 0, 2, 0, 2, 2, 0, 2, 2, 2, 0, 2, 2, 0, 2, 2, 2, 2, 2, 2, 2, 2, 2, 2, 0, 0, 0, 0, 2, 2, 2, 2, 1, 2, 2, 2, 2, 2, 2, 0, 0, 0, 2, 2, 2, 2, 2, 0, 2, 2, 2, 2, 0, 2, 2]]
def ft (c k : Nat) : Nat := (ftL.getD c []).getD k 9
def rfL : List (List Nat) := [[1, 3, 7, 11, 15, 16, 17, 24, 31, 40, 43, 50, 55, 58, 0, 0], [2, 0], [], [0, 0, 4, 5, 6, 0], [], [], [], [0, 0, 8, 9, 10, 0], [], [], [], [0, 0, 12, 13, 14, 0], [], [], [], [], [0, 0, 0, 0, 0, 0, 0], [18, 19, 20, 21, 22, 23, 0, 0], [], [], [], [], [], [], [25, 26, 27, 28, 29, 30, 0, 0], [], [], [], [], [], [], [32, 33, 34, 35, 36, 37, 38, 39, 0], [], [], [], [], [], [], [], [], [41, 42, 0, 0], [], [], [44, 45, 46, 47, 48, 49], [], [], [], [], [], [], [51, 52, 53, 54, 0], [], [], [], [], [56, 57, 0], [], [], [59, 60, 61, 62, 63, 64, 65, 0, 0, 0], [], [], [], [], [], [], [], [67, 0, 68, 0, 69, 70, 0, 71, 72, 73, 0, 74, 75, 0, 76, 77, 78, 79, 80, 81, 82, 83, 84, 85, 0, 0, 0, 0, 86, 87, 88, 89, 0, 90, 91, 92, 93, 94, 95, 0, 0, 0, 96, 97, 98, 99, 100, 0, 101, 102, 103, 104, 0, 105, 106], [], [], [], [], [], [], [], [], [], [], [], [], [], [], [], [], [], [], [], [], [], [], [], [], [], [], [], [], [], [], [], [], [], [], [], [], [], [], [], []]
def rf (i k : Nat) : Nat := (rfL.getD i []).getD k 0
abbrev vwCl : List vw_C := [(RX0, TX0, 5), (RX1, TX1, 6), (RX2, TX2, 9), (RX3, TX3, 10), (RX4, TX4, 3), (RX5, TX5, 4), (RX6, TX6, 7), (RX7, TX7, 2), (RX8, TX8, 8), (RX9, TX9, 6), (RX10, TX10, 16), (RX11, TX11, 55)]
def fv (ad : Nat → Nat) (M : Mm) (i k : Nat) : Value :=
  if ft (kd i) k = 2 then .ref (ad (rf i k)) else if ft (kd i) k = 3 then .ref (ad (M i k).toNat) else zi (M i k)
def cE (ad : Nat → Nat) (cy : Nat → ClassId) (M : Mm) (i : Nat) : va_E :=
  if kd i < 12 then .inr (kd i, (List.range (nf (kd i))).map (fv ad M i))
  else if kd i = 21 then .inl (cy 21, ln i, .inr (.inl (fun k => Int64.ofInt (M i (k : Int)))))
  else .inl (cy (kd i), ln i, .inl (fun k => Int32.ofInt (M i (k : Int))))
def wl (ad : Nat → Nat) (cy : Nat → ClassId) (M : Mm) : va_W := (List.range NID).map (fun i => (ad i, cE ad cy M i))
theorem wl_get {ad : Nat → Nat} {cy : Nat → ClassId} {M : Mm} {i : Nat} (h : i < NID) : (wl ad cy M)[i]? = some (ad i, cE ad cy M i) := by
  simp [wl, List.getElem?_range h]
theorem wl_set {ad : Nat → Nat} {cy : Nat → ClassId} {M M' : Mm} {i : Nat} (h : i < NID) {q : va_E} (he : cE ad cy M' i = q) (ho : ∀ j, j ≠ i → cE ad cy M' j = cE ad cy M j) : (wl ad cy M).set i (ad i, q) = wl ad cy M' := by
  apply List.ext_getElem?
  intro j
  by_cases hj : j = i
  · subst hj
    rw [List.getElem?_set_self (by simp [wl]; exact h), wl_get h, he]
  · rw [List.getElem?_set_ne (Ne.symm hj)]
    by_cases hN : j < NID
    · rw [wl_get hN, wl_get hN, ho j hj]
    · rw [List.getElem?_eq_none (by simp [wl]; omega), List.getElem?_eq_none (by simp [wl]; omega)]
theorem cE_other {ad : Nat → Nat} {cy : Nat → ClassId} {M : Mm} {i j : Nat} {k x : Int} (h : j ≠ i) : cE ad cy (mput M i k x) j = cE ad cy M j := by
  have h1 : mput M i k x j = M j := mput_ne h
  have h2 : fv ad (mput M i k x) j = fv ad M j := by
    funext q
    simp only [fv, h1]
  simp only [cE, h1, h2]
def Ev : Type := Launch × va_G × (Nat → Nat) × (Nat → ClassId)
def aD (E : Ev) : Nat → Nat := E.2.2.1
def cY (E : Ev) : Nat → ClassId := E.2.2.2
def zr (E : Ev) (i : Nat) : Value := .ref (aD E i)
def tyE (E : Ev) : List (ClassId × FieldType) := [(cY E 20, .int), (cY E 21, .long), (cY E 22, .byte), (cY E 23, .boolean)]
/-- the words that are steady by their kind, and those of nest mates -/
def BG : List Cond := lw_tbl.filter goodWord
def isNest : Cond → Bool
  | .fieldLinkNest _ _ _ _ _ _ => true
  | .methodLinkNest _ _ _ _ => true
  | _ => false
def NW : List Cond := tables_1.filter isNest
theorem bg_of (i : Nat) {w : Cond} (h : lw_tbl[i]? = some w) (g : goodWord w = true) : w ∈ BG := List.mem_filter.mpr ⟨List.mem_of_getElem? h, g⟩
theorem nw_of (i : Nat) {w : Cond} (h : tables_1[i]? = some w) (g : isNest w = true) : w ∈ NW := List.mem_filter.mpr ⟨List.mem_of_getElem? h, g⟩
theorem NW_warm {s U : State} (hW : s.WarmedH U.vm) (h : ∀ w ∈ NW, va_Nw w s) : ∀ w ∈ NW, va_Nw w U := by
  intro w hw
  have hn := (List.mem_filter.mp hw).2
  have hs := h w hw
  cases w <;> simp [isNest] at hn
  · exact va_Nw.warmM hW hs
  · exact va_Nw.warmF hW hs
theorem NW_same {s U : State} (e : s.vm = U.vm) (h : ∀ w ∈ NW, va_Nw w s) : ∀ w ∈ NW, va_Nw w U := by
  intro w hw
  have hn := (List.mem_filter.mp hw).2
  have hs := h w hw
  cases w <;> simp [isNest] at hn
  · exact va_Nw.same rfl e hs
  · exact va_Nw.same rfl e hs
def Kw (E : Ev) (U : State) : Prop := va_K E.2.1 vwCl (tyE E) U ∧ ∀ w ∈ NW, va_Nw w U
theorem Kw.warm {E : Ev} {s U : State} (hW : s.WarmedH U.vm) (h : Kw E s) : Kw E U := ⟨va_K.moved hW.alike h.1, NW_warm hW h.2⟩
abbrev rg (x : Int) : Prop := -2147483648 ≤ x ∧ x < 2147483648
abbrev rgl (x : Int) : Prop := -9223372036854775808 ≤ x ∧ x < 9223372036854775808
/-- what a place may hold, by the kind of its cell -/
def Ok (a : Nat) (k z : Int) : Prop := if kd a = 21 then rgl z else if kd a = 22 then (-128 ≤ z ∧ z < 128) else if kd a = 23 then (z = 0 ∨ z = 1) else if kd a < 12 ∧ ft (kd a) k.toNat = 1 then (z = 0 ∨ z = 1) else rg z
def Rg (M : Mm) : Prop := ∀ a k, Ok a k (M a k)
theorem Rg.put {M : Mm} {a : Nat} {k x : Int} (h : Rg M) (hx : Ok a k x) : Rg (mput M a k x) := by
  intro b j
  by_cases hb : b = a
  · subst hb
    by_cases hj : j = k
    · subst hj; rw [mput_eq]; exact hx
    · rw [mput_nk hj]; exact h b j
  · rw [mput_ne hb]; exact h b j
theorem Ok_i {a : Nat} {k z : Int} (h : kd a = 20) : Ok a k z ↔ rg z := by simp [Ok, h]
theorem Ok_l {a : Nat} {k z : Int} (h : kd a = 21) : Ok a k z ↔ rgl z := by simp [Ok, h]
theorem Ok_b {a : Nat} {k z : Int} (h : kd a = 22) : Ok a k z ↔ (-128 ≤ z ∧ z < 128) := by simp [Ok, h]
theorem Ok_z {a : Nat} {k z : Int} (h : kd a = 23) : Ok a k z ↔ (z = 0 ∨ z = 1) := by simp [Ok, h]
theorem Ok_f {a : Nat} {k : Nat} {z : Int} (h : kd a < 12) (hf : ft (kd a) k ≠ 1) : Ok a k z ↔ rg z := by
  unfold Ok
  rw [if_neg (by omega), if_neg (by omega), if_neg (by omega), if_neg (fun q => hf q.2)]
theorem Ok_fz {a : Nat} {k : Nat} {z : Int} (h : kd a < 12) (hf : ft (kd a) k = 1) : Ok a k z ↔ (z = 0 ∨ z = 1) := by
  unfold Ok
  rw [if_neg (by omega), if_neg (by omega), if_neg (by omega), if_pos ⟨h, hf⟩]
def Wp (E : Ev) (M : Mm) (H : Heap) : Prop := va_P E.2.1 vwCl (wl (aD E) (cY E) M) H ∧ Rg M
def Dd (E : Ev) : Prop := ∀ i j, i < NID → j < NID → aD E i = aD E j → i = j
def Ad (E : Ev) (sz : Nat) : Nat → Prop := fun q => (∃ i, i < NID ∧ q = aD E i) ∨ sz ≤ q
theorem wl_some {ad : Nat → Nat} {cy : Nat → ClassId} {M : Mm} {k : Nat} {q : Nat × va_E} (h : (wl ad cy M)[k]? = some q) : k < NID ∧ q = (ad k, cE ad cy M k) := by
  have hk : k < NID := by
    have := (List.getElem?_eq_some_iff.mp h).1
    simpa [wl] using this
  rw [wl_get hk] at h
  exact ⟨hk, (Option.some.inj h).symm⟩
theorem Dd.D {E : Ev} (h : Dd E) (M : Mm) (sz : Nat) : va_D (Ad E sz) (wl (aD E) (cY E) M) := by
  refine ⟨fun i j p q hp hq e => ?_, fun k q hq => ?_⟩
  · obtain ⟨h1, rfl⟩ := wl_some hp
    obtain ⟨h2, rfl⟩ := wl_some hq
    exact h i j h1 h2 e
  · obtain ⟨h1, rfl⟩ := wl_some hq
    exact Or.inl ⟨k, h1, rfl⟩
/-- locals by their places; none: not known -/
def Lh (ls : Array Slot) (nL : Nat) (lv : List (Option Value)) : Prop := ls.size = nL ∧ lv_wf ls ∧ lv.length = nL ∧ ∀ (i : Nat) (v : Value), lv[i]? = some (some v) → ls[i]? = some (.val v)
def lvl (lv : List (Option Value)) : List (Nat × Value) := lv.zipIdx.filterMap (fun q => q.1.map (fun v => (q.2, v)))
theorem lvl_mem {lv : List (Option Value)} {q : Nat × Value} : q ∈ lvl lv ↔ lv[q.1]? = some (some q.2) := by
  simp only [lvl, List.mem_filterMap]
  constructor
  · rintro ⟨⟨a, i⟩, h1, h2⟩
    have h3 := List.mem_zipIdx_iff_getElem?.mp h1
    cases a with
    | none => simp at h2
    | some v => simp at h2; subst h2; exact h3
  · intro h
    exact ⟨(some q.2, q.1), List.mem_zipIdx_iff_getElem?.mpr h, rfl⟩
theorem Lh.has {ls : Array Slot} {nL : Nat} {lv : List (Option Value)} (h : Lh ls nL lv) : lv_has ls nL (lvl lv) := ⟨h.1, h.2.1, fun q hq => h.2.2.2 q.1 q.2 (lvl_mem.mp hq)⟩
/-- a store of one word at i: the slot ahead of it holds no long -/
def oks (lv : List (Option Value)) (i : Nat) : Bool := match i with
  | 0 => true
  | j + 1 => match lv[j]? with
    | some (some v) => v.category == 1
    | _ => true
/-- the slot ahead of i becomes unknown if it isn't sure to be of one word -/
theorem Lh.st1 {ls ls' : Array Slot} {nL i : Nat} {lv : List (Option Value)} {v : Value} (h : Lh ls nL lv) (ho : oks lv i = true) (hs : lv_has ls' nL ((i, v) :: (lvl lv).filter (fun q => !(q.1 == i) && !(q.1 + 1 == i && q.2.category == 2)))) : Lh ls' nL (lv.set i (some v)) := by
  refine ⟨hs.1, hs.2.1, by simp [h.2.2.1], fun j w hj => ?_⟩
  by_cases hji : j = i
  · subst hji
    have hl : j < lv.length := by
      have := (List.getElem?_eq_some_iff.mp hj).1
      simpa using this
    rw [List.getElem?_set_self hl] at hj
    cases hj
    exact hs.2.2 (j, v) List.mem_cons_self
  · rw [List.getElem?_set_ne (Ne.symm hji)] at hj
    refine hs.2.2 (j, w) (List.mem_cons_of_mem _ (List.mem_filter.mpr ⟨lvl_mem.mpr hj, ?_⟩))
    have h1 : (j == i) = false := by simp [hji]
    simp only [h1, Bool.not_false, Bool.true_and, Bool.not_eq_true', Bool.and_eq_false_iff]
    by_cases hi : j + 1 = i
    · right
      subst hi
      simp only [oks, hj] at ho
      have : w.category = 1 := by simpa using ho
      rw [this]
      rfl
    · left
      simp [hi]
theorem Lh.st2 {ls ls' : Array Slot} {nL i : Nat} {lv : List (Option Value)} {v : Value} (h : Lh ls nL lv) (ho : oks lv i = true) (hs : lv_has ls' nL ((i, v) :: (lvl lv).filter (fun q => !(q.1 == i) && (!(q.1 == i + 1) && !(q.1 + 1 == i && q.2.category == 2))))) : Lh ls' nL ((lv.set i (some v)).set (i + 1) none) := by
  refine ⟨hs.1, hs.2.1, by simp [h.2.2.1], fun j w hj => ?_⟩
  by_cases hj1 : j = i + 1
  · subst hj1
    have hl : i + 1 < (lv.set i (some v)).length := by
      have := (List.getElem?_eq_some_iff.mp hj).1
      simpa using this
    rw [List.getElem?_set_self hl] at hj
    cases hj
  rw [List.getElem?_set_ne (Ne.symm hj1)] at hj
  by_cases hji : j = i
  · subst hji
    have hl : j < lv.length := by
      have := (List.getElem?_eq_some_iff.mp hj).1
      simpa using this
    rw [List.getElem?_set_self hl] at hj
    cases hj
    exact hs.2.2 (j, v) List.mem_cons_self
  · rw [List.getElem?_set_ne (Ne.symm hji)] at hj
    refine hs.2.2 (j, w) (List.mem_cons_of_mem _ (List.mem_filter.mpr ⟨lvl_mem.mpr hj, ?_⟩))
    have h1 : (j == i) = false := by simp [hji]
    have h2 : (j == i + 1) = false := by simp [hj1]
    simp only [h1, h2, Bool.not_false, Bool.true_and, Bool.not_eq_true', Bool.and_eq_false_iff]
    by_cases hi : j + 1 = i
    · right
      subst hi
      simp only [oks, hj] at ho
      have : w.category = 1 := by simpa using ho
      rw [this]
      rfl
    · left
      simp [hi]
def Kp : Type := Program × Env × Room × State × MethodId × Array Value × List Frame × Method × Code
def kS (κ : Kp) : State := κ.2.2.2.1
def rmH (h : Nat) : Room := { frames := h, cells := 0, slots := 0, locals := 40 * h }
def Qx (E : Ev) (sz : Nat) (post : Option Value → Mm → Prop) : Array Value → State → Outcome → State → Prop :=
  fun _ st oc t => (∃ (r : Option Value) (M' : Mm), oc = .returned r ∧ post r M' ∧ Wp E M' t.heap) ∧ va_F (Ad E sz) st t
def Gm (E : Ev) (κ : Kp) (post : Option Value → Mm → Prop) (nL pc : Nat) (lv : List (Option Value)) (st : List Value) (M : Mm) : Prop :=
  ∀ (ls : Array Slot) (H : Heap) (locs : List Loc), Lh ls nL lv → Wp E M H → va_S (Ad E (kS κ).heap.size) (kS κ).heap H locs →
    W κ.1 E.1 κ.2.1 κ.2.2.1 (kS κ) κ.2.2.2.2.1 κ.2.2.2.2.2.1 κ.2.2.2.2.2.2.1 κ.2.2.2.2.2.2.2.1 κ.2.2.2.2.2.2.2.2 H locs 0 0 (MQ κ.2.2.2.2.2.2.1 (Qx E (kS κ).heap.size post) κ.2.2.2.2.2.1 (kS κ) 0 0 (Ad E (kS κ).heap.size)) (F0 κ.2.2.2.2.1 pc ls st)
def Cx (E : Ev) (κ : Kp) (cc : ByteArray) (nL : Nat) (own : String) (ret : Option FieldType) (ht : Nat) : Prop :=
  κ.1.tables.exec = Jvm.exec ∧ κ.2.2.2.2.2.2.2.2.code = cc ∧ κ.2.2.2.2.2.2.2.2.maxLocals = nL ∧ (kS κ).vm.findClass own = some κ.2.2.2.2.1.cls ∧ (∀ w ∈ BG, w.before κ.2.2.2.2.2.1 (kS κ) = true) ∧ Kw E (kS κ) ∧ Dd E ∧ κ.2.2.2.2.2.2.2.1.sig.returnType = ret ∧ κ.2.2.2.2.2.2.2.1.locks = false ∧ κ.2.2.1 = rmH ht
/-- a method's contract, over the flat picture: from the values args and the memory M it returns, with post -/
def Ct (E : Ev) (y : MethodName) (cc : ByteArray) (nL : Nat) (ret : Option FieldType) (ht : Nat) (args : List Value) (M : Mm) (post : Option Value → Mm → Prop) : Prop :=
  ∀ sz : Nat, Met E.1 y (.code y cc nL ret :: BG) (rmH ht) (va_Pc args (fun U => U.heap.size = sz ∧ Wp E M U.heap ∧ Kw E U ∧ Dd E)) (Qx E sz post) 0 0 (Ad E sz)
theorem Ct.mono {E : Ev} {y : MethodName} {cc : ByteArray} {nL : Nat} {ret : Option FieldType} {ht : Nat} {args : List Value} {M : Mm} {post post' : Option Value → Mm → Prop} (h : Ct E y cc nL ret ht args M post) (hp : ∀ r M', post r M' → post' r M') : Ct E y cc nL ret ht args M post' := by
  intro sz p e ha hc hk s m a below hf happ hP _
  obtain ⟨t, o, h1, h2, h3, ⟨⟨⟨r, M', q1, q2, q3⟩, q4⟩, h5⟩⟩ := h sz p e ha hc hk s m a below hf happ hP trivial
  exact ⟨t, o, h1, h2, h3, ⟨⟨⟨r, M', q1, hp _ _ q2, q3⟩, q4⟩, h5⟩⟩
/-- what the tables say of class ci: its name, fields, their types -/
def Cl (ci : Nat) (C : String) (T : u_T) (ty : Nat → FieldType) : Prop := vwCl[ci]? = some (C, T, nf ci) ∧ ci < 12 ∧ (∀ w ∈ u_ws C T (nf ci), w ∈ BG) ∧ (∀ k, k < nf ci → parseFieldDescriptor (T k).2.2.1 = some (ty k)) ∧ ∀ a, a < nf ci → ∀ b, b < nf ci → a ≠ b → (T a).2.1 ≠ (T b).2.1
/-- entry index of own's pool is field k of class ci -/
def Fl (own : String) (index ci k : Nat) : Prop := ∃ (C : String) (T : u_T) (ty : Nat → FieldType), Cl ci C T ty ∧ k < nf ci ∧ (T k).1 = C ∧
  (Cond.fieldLink own index C (T k).2.1 (T k).2.2.1 ∈ BG ∨ ∃ host, Cond.fieldLinkNest own index C (T k).2.1 (T k).2.2.1 host ∈ NW)
def Fp (own : String) (index ci k : Nat) (t : FieldType) : Prop := ∃ (C : String) (T : u_T) (ty : Nat → FieldType), Cl ci C T ty ∧ k < nf ci ∧ (T k).1 = C ∧
  (Cond.fieldLink own index C (T k).2.1 (T k).2.2.1 ∈ BG ∨ ∃ host, Cond.fieldLinkNest own index C (T k).2.1 (T k).2.2.1 host ∈ NW) ∧ (T k).2.2.2 = false ∧ parseFieldDescriptor (T k).2.2.1 = some t
def Cy (y : MethodName) (bytes : ByteArray) (maxL : Nat) (ret : Option FieldType) (n : Nat) : Prop := Cond.code y bytes maxL ret ∈ BG ∧ Cond.initialized y.cls ∈ BG ∧ (y.cls ≠ "java/lang/invoke/MethodHandle" ∧ y.cls ≠ "java/lang/invoke/VarHandle" ∧ (parseMethodDescriptor y.desc).map (fun d => d.parameters.length) = some n) ∧ maxL ≤ 21
def Cv (y : MethodName) : Prop := Cond.instanceMethod y ∈ BG ∧ Cond.selects y.cls y y ∈ BG
def Cs (y : MethodName) : Prop := Cond.static y ∈ BG
def Lk (own : String) (index : Nat) (y : MethodName) : Prop := Cond.methodLink own index y ∈ BG ∨ ∃ host, Cond.methodLinkNest own index y host ∈ NW
end
section
section FR
variable {E : Ev} {κ : Kp} {post : Option Value → Mm → Prop} {cc : ByteArray} {nL : Nat} {own : String} {ret : Option FieldType} {ht pc : Nat} {lv : List (Option Value)} {st : List Value} {M : Mm}
theorem toInt_zi {x : Int} (h : rg x) : (Int32.ofInt x).toInt = x := Int32.toInt_ofInt_of_le (by omega) (by omega)
theorem toInt_zl {x : Int} (h : rgl x) : (Int64.ofInt x).toInt = x := Int64.toInt_ofInt_of_le (by omega) (by omega)
theorem ofInt_inj {x y : Int} (hx : rg x) (hy : rg y) : Int32.ofInt x = Int32.ofInt y ↔ x = y := by
  constructor
  · intro h
    have := congrArg Int32.toInt h
    rwa [toInt_zi hx, toInt_zi hy] at this
  · intro h; rw [h]
theorem ofInt_lt {x y : Int} (hx : rg x) (hy : rg y) : Int32.ofInt x < Int32.ofInt y ↔ x < y := by
  rw [Int32.lt_iff_toInt_lt, toInt_zi hx, toInt_zi hy]
theorem ofInt_le {x y : Int} (hx : rg x) (hy : rg y) : Int32.ofInt x ≤ Int32.ofInt y ↔ x ≤ y := by
  rw [Int32.le_iff_toInt_le, toInt_zi hx, toInt_zi hy]
theorem vp_in_zi {x : Int} {n : Nat} (h0 : 0 ≤ x) (h1 : x < (n : Int)) (h2 : x < 2147483648) : vp_in (Int32.ofInt x) n ∧ (Int32.ofInt x).toNatClampNeg = x.toNat := by
  have h : (Int32.ofInt x).toInt = x := toInt_zi (by omega)
  have h3 : (Int32.ofInt x).toNatClampNeg = x.toNat := by rw [← Int32.toNat_toInt, h]
  refine ⟨?_, h3⟩
  unfold vp_in
  rw [h3, Int32.lt_iff_toInt_lt, h]
  rintro (q | q)
  · have : (0 : Int32).toInt = 0 := by decide
    omega
  · omega
theorem s_eq {pc' : Nat} {lv' : List (Option Value)} {st' : List Value} {M' : Mm} (h1 : pc = pc') (h2 : lv = lv') (h3 : st = st') (h4 : M = M') (k : Gm E κ post nL pc' lv' st' M') : Gm E κ post nL pc lv st M := by
  subst h1; subst h2; subst h3; subst h4; exact k
theorem s_top {z z' : Int} (h : z = z') (k : Gm E κ post nL pc lv (zi z' :: st) M) : Gm E κ post nL pc lv (zi z :: st) M := h ▸ k
theorem s_topl {z z' : Int} (h : z = z') (k : Gm E κ post nL pc lv (zl z' :: st) M) : Gm E κ post nL pc lv (zl z :: st) M := h ▸ k
-- constants
theorem s_iconst (C : Cx E κ cc nL own ret ht) {n : Int} (hd : decode cc pc = .ok (.iconst n, 1)) (k : Gm E κ post nL (pc + 1) lv (zi n :: st) M) : Gm E κ post nL pc lv st M :=
  fun ls H locs hl hP hS => lv_iconst C.1 C.2.1 hd rfl (k ls H locs hl hP hS)
theorem s_bipush (C : Cx E κ cc nL own ret ht) {n : Int} (hd : decode cc pc = .ok (.bipush n, 2)) (hn : (Int8.ofInt n).toInt32 = Int32.ofInt n) (k : Gm E κ post nL (pc + 2) lv (zi n :: st) M) : Gm E κ post nL pc lv st M :=
  fun ls H locs hl hP hS => lv_bipush C.1 C.2.1 hd hn (k ls H locs hl hP hS)
theorem s_sipush (C : Cx E κ cc nL own ret ht) {n : Int} (hd : decode cc pc = .ok (.sipush n, 3)) (hn : (Int16.ofInt n).toInt32 = Int32.ofInt n) (k : Gm E κ post nL (pc + 3) lv (zi n :: st) M) : Gm E κ post nL pc lv st M :=
  fun ls H locs hl hP hS => lv_sipush C.1 C.2.1 hd hn (k ls H locs hl hP hS)
theorem s_lconst (C : Cx E κ cc nL own ret ht) {n : Fin 2} {z : Int} (hd : decode cc pc = .ok (.lconst n, 1)) (hn : Int64.ofNat (n : Nat) = Int64.ofInt z) (k : Gm E κ post nL (pc + 1) lv (zl z :: st) M) : Gm E κ post nL pc lv st M :=
  fun ls H locs hl hP hS => lv_lconst C.1 C.2.1 hd hn (k ls H locs hl hP hS)
theorem s_ldc (C : Cx E κ cc nL own ret ht) {index : Nat} {z : Int} (hd : decode cc pc = .ok (.ldc index, 2)) (hw : Cond.constant own index (Int32.ofInt z) ∈ BG) (k : Gm E κ post nL (pc + 2) lv (zi z :: st) M) : Gm E κ post nL pc lv st M :=
  fun ls H locs hl hP hS => lv_ldc C.1 C.2.1 C.2.2.2.1 (C.2.2.2.2.1 _ hw) hd (k ls H locs hl hP hS)
theorem s_ldcw (C : Cx E κ cc nL own ret ht) {index : Nat} {z : Int} (hd : decode cc pc = .ok (.ldc_w index, 3)) (hw : Cond.constant own index (Int32.ofInt z) ∈ BG) (k : Gm E κ post nL (pc + 3) lv (zi z :: st) M) : Gm E κ post nL pc lv st M :=
  fun ls H locs hl hP hS => lv_ldcw C.1 C.2.1 C.2.2.2.1 (C.2.2.2.2.1 _ hw) hd (k ls H locs hl hP hS)
theorem s_ldc2 (C : Cx E κ cc nL own ret ht) {index : Nat} {z : Int} (hd : decode cc pc = .ok (.ldc2_w index, 3)) (hw : Cond.constantLong own index (Int64.ofInt z) ∈ BG) (k : Gm E κ post nL (pc + 3) lv (zl z :: st) M) : Gm E κ post nL pc lv st M :=
  fun ls H locs hl hP hS => lv_ldc2 C.1 C.2.1 C.2.2.2.1 (C.2.2.2.2.1 _ hw) hd (k ls H locs hl hP hS)
-- locals
theorem s_iload_n (C : Cx E κ cc nL own ret ht) {i : Fin 4} {x : Int} (hd : decode cc pc = .ok (.iload_n i, 1)) (hl : lv[(i : Nat)]? = some (some (zi x))) (k : Gm E κ post nL (pc + 1) lv (zi x :: st) M) : Gm E κ post nL pc lv st M :=
  fun ls H locs h hP hS => lv_iload_n C.1 C.2.1 hd rfl (h.2.2.2 _ _ hl) (k ls H locs h hP hS)
theorem s_iload (C : Cx E κ cc nL own ret ht) {i : Nat} {x : Int} (hd : decode cc pc = .ok (.iload i, 2)) (hl : lv[i]? = some (some (zi x))) (k : Gm E κ post nL (pc + 2) lv (zi x :: st) M) : Gm E κ post nL pc lv st M :=
  fun ls H locs h hP hS => lv_iload C.1 C.2.1 hd (h.2.2.2 _ _ hl) (k ls H locs h hP hS)
theorem s_lload_n (C : Cx E κ cc nL own ret ht) {i : Fin 4} {x : Int} (hd : decode cc pc = .ok (.lload_n i, 1)) (hl : lv[(i : Nat)]? = some (some (zl x))) (k : Gm E κ post nL (pc + 1) lv (zl x :: st) M) : Gm E κ post nL pc lv st M :=
  fun ls H locs h hP hS => lv_lload_n C.1 C.2.1 hd rfl (h.2.2.2 _ _ hl) (k ls H locs h hP hS)
theorem s_lload (C : Cx E κ cc nL own ret ht) {i : Nat} {x : Int} (hd : decode cc pc = .ok (.lload i, 2)) (hl : lv[i]? = some (some (zl x))) (k : Gm E κ post nL (pc + 2) lv (zl x :: st) M) : Gm E κ post nL pc lv st M :=
  fun ls H locs h hP hS => lv_lload C.1 C.2.1 hd (h.2.2.2 _ _ hl) (k ls H locs h hP hS)
theorem s_aload_n (C : Cx E κ cc nL own ret ht) {i : Fin 4} {a : Nat} (hd : decode cc pc = .ok (.aload_n i, 1)) (hl : lv[(i : Nat)]? = some (some (zr E a))) (k : Gm E κ post nL (pc + 1) lv (zr E a :: st) M) : Gm E κ post nL pc lv st M :=
  fun ls H locs h hP hS => lv_aload_n C.1 C.2.1 hd rfl (h.2.2.2 _ _ hl) (k ls H locs h hP hS)
theorem s_aload (C : Cx E κ cc nL own ret ht) {i : Nat} {a : Nat} (hd : decode cc pc = .ok (.aload i, 2)) (hl : lv[i]? = some (some (zr E a))) (k : Gm E κ post nL (pc + 2) lv (zr E a :: st) M) : Gm E κ post nL pc lv st M :=
  fun ls H locs h hP hS => lv_aload C.1 C.2.1 hd (h.2.2.2 _ _ hl) (k ls H locs h hP hS)
theorem s_istore_n (C : Cx E κ cc nL own ret ht) {i : Fin 4} {x : Int} (hd : decode cc pc = .ok (.istore_n i, 1)) {lv' : List (Option Value)} (hn : (i : Nat) < nL) (ho : oks lv i = true) (he : lv.set i (some (zi x)) = lv') (k : Gm E κ post nL (pc + 1) lv' st M) : Gm E κ post nL pc lv (zi x :: st) M :=
  fun ls H locs h hP hS => lv_istore_n C.1 C.2.1 hd rfl h.has hn rfl (fun ls' hl' => k ls' H locs (he ▸ h.st1 ho hl') hP hS)
theorem s_istore (C : Cx E κ cc nL own ret ht) {i : Nat} {x : Int} (hd : decode cc pc = .ok (.istore i, 2)) {lv' : List (Option Value)} (hn : i < nL) (ho : oks lv i = true) (he : lv.set i (some (zi x)) = lv') (k : Gm E κ post nL (pc + 2) lv' st M) : Gm E κ post nL pc lv (zi x :: st) M :=
  fun ls H locs h hP hS => lv_istore C.1 C.2.1 hd h.has hn rfl (fun ls' hl' => k ls' H locs (he ▸ h.st1 ho hl') hP hS)
theorem s_lstore_n (C : Cx E κ cc nL own ret ht) {i : Fin 4} {x : Int} (hd : decode cc pc = .ok (.lstore_n i, 1)) (hn : (i : Nat) + 1 < nL) {lv' : List (Option Value)} (ho : oks lv i = true) (he : (lv.set i (some (zl x))).set (i + 1) none = lv') (k : Gm E κ post nL (pc + 1) lv' st M) : Gm E κ post nL pc lv (zl x :: st) M :=
  fun ls H locs h hP hS => lv_lstore_n C.1 C.2.1 hd rfl h.has hn rfl (fun ls' hl' => k ls' H locs (he ▸ h.st2 ho hl') hP hS)
theorem s_lstore (C : Cx E κ cc nL own ret ht) {i : Nat} {x : Int} (hd : decode cc pc = .ok (.lstore i, 2)) (hn : i + 1 < nL) {lv' : List (Option Value)} (ho : oks lv i = true) (he : (lv.set i (some (zl x))).set (i + 1) none = lv') (k : Gm E κ post nL (pc + 2) lv' st M) : Gm E κ post nL pc lv (zl x :: st) M :=
  fun ls H locs h hP hS => lv_lstore C.1 C.2.1 hd h.has hn rfl (fun ls' hl' => k ls' H locs (he ▸ h.st2 ho hl') hP hS)
theorem s_astore_n (C : Cx E κ cc nL own ret ht) {i : Fin 4} {a : Nat} (hd : decode cc pc = .ok (.astore_n i, 1)) (hn : (i : Nat) < nL) {lv' : List (Option Value)} (ho : oks lv i = true) (he : lv.set i (some (zr E a)) = lv') (k : Gm E κ post nL (pc + 1) lv' st M) : Gm E κ post nL pc lv (zr E a :: st) M :=
  fun ls H locs h hP hS => lv_astore_n C.1 C.2.1 hd rfl h.has hn rfl (fun ls' hl' => k ls' H locs (he ▸ h.st1 ho hl') hP hS)
theorem s_iinc (C : Cx E κ cc nL own ret ht) {i : Nat} {n x : Int} (hd : decode cc pc = .ok (.iinc i n, 3)) (hl : lv[i]? = some (some (zi x))) (hn : i < nL) {lv' : List (Option Value)} {z : Int} (hz : x + n = z) (ho : oks lv i = true) (he : lv.set i (some (zi z)) = lv') (k : Gm E κ post nL (pc + 3) lv' st M) : Gm E κ post nL pc lv st M := by
  intro ls H locs h hP hS
  have hm : (i, zi x) ∈ lvl lv := lvl_mem.mpr hl
  obtain ⟨j, hj⟩ := List.getElem?_of_mem hm
  exact lv_iinc C.1 C.2.1 hd h.has hj (by rw [← hz]; exact (Int32.ofInt_add x n).symm) hn rfl (fun ls' hl' => k ls' H locs (he ▸ h.st1 ho hl') hP hS)
-- arithmetic
theorem s_iadd (C : Cx E κ cc nL own ret ht) {x y : Int} (hd : decode cc pc = .ok (.iadd, 1)) (k : Gm E κ post nL (pc + 1) lv (zi (x + y) :: st) M) : Gm E κ post nL pc lv (zi y :: zi x :: st) M :=
  fun ls H locs hl hP hS => lv_iadd C.1 C.2.1 hd (Int32.ofInt_add x y ▸ k ls H locs hl hP hS)
theorem s_isub (C : Cx E κ cc nL own ret ht) {x y : Int} (hd : decode cc pc = .ok (.isub, 1)) (k : Gm E κ post nL (pc + 1) lv (zi (x - y) :: st) M) : Gm E κ post nL pc lv (zi y :: zi x :: st) M :=
  fun ls H locs hl hP hS => lv_isub C.1 C.2.1 hd (Int32.ofInt_sub x y ▸ k ls H locs hl hP hS)
theorem s_imul (C : Cx E κ cc nL own ret ht) {x y : Int} (hd : decode cc pc = .ok (.imul, 1)) (k : Gm E κ post nL (pc + 1) lv (zi (x * y) :: st) M) : Gm E κ post nL pc lv (zi y :: zi x :: st) M :=
  fun ls H locs hl hP hS => lv_imul C.1 C.2.1 hd (Int32.ofInt_mul x y ▸ k ls H locs hl hP hS)
theorem s_ineg (C : Cx E κ cc nL own ret ht) {x : Int} (hd : decode cc pc = .ok (.ineg, 1)) (k : Gm E κ post nL (pc + 1) lv (zi (-x) :: st) M) : Gm E κ post nL pc lv (zi x :: st) M :=
  fun ls H locs hl hP hS => lv_ineg C.1 C.2.1 hd (Int32.ofInt_neg x ▸ k ls H locs hl hP hS)
theorem zi_toInt (v : Int32) : zi v.toInt = .int v := by simp [zi]
theorem zl_toInt (v : Int64) : zl v.toInt = .long v := by simp [zl]
def zand (x y : Int) : Int := (Int32.ofInt x &&& Int32.ofInt y).toInt
def zor (x y : Int) : Int := (Int32.ofInt x ||| Int32.ofInt y).toInt
def zxor (x y : Int) : Int := (Int32.ofInt x ^^^ Int32.ofInt y).toInt
def zshl (x y : Int) : Int := (Int32.ofInt x <<< (Int32.ofInt y &&& 31)).toInt
def zshr (x y : Int) : Int := (Int32.ofInt x >>> (Int32.ofInt y &&& 31)).toInt
def zushr (x y : Int) : Int := ((Int32.ofInt x).toUInt32 >>> ((Int32.ofInt y).toUInt32 &&& Int32.toUInt32 31)).toInt32.toInt
def zdiv (x y : Int) : Int := (Int32.ofInt x / Int32.ofInt y).toInt
def zrem (x y : Int) : Int := (Int32.ofInt x - Int32.ofInt x / Int32.ofInt y * Int32.ofInt y).toInt
def zland (x y : Int) : Int := (Int64.ofInt x &&& Int64.ofInt y).toInt
def zlor (x y : Int) : Int := (Int64.ofInt x ||| Int64.ofInt y).toInt
def zlxor (x y : Int) : Int := (Int64.ofInt x ^^^ Int64.ofInt y).toInt
def zlshl (x y : Int) : Int := (Int64.ofInt x <<< ((Int32.ofInt y).toInt64 &&& 63)).toInt
def zlushr (x y : Int) : Int := ((Int64.ofInt x).toUInt64 >>> ((Int32.ofInt y).toInt64.toUInt64 &&& Int64.toUInt64 63)).toInt64.toInt
theorem s_iand (C : Cx E κ cc nL own ret ht) {x y : Int} (hd : decode cc pc = .ok (.iand, 1)) (k : Gm E κ post nL (pc + 1) lv (zi (zand x y) :: st) M) : Gm E κ post nL pc lv (zi y :: zi x :: st) M :=
  fun ls H locs hl hP hS => lv_iand C.1 C.2.1 hd (zi_toInt _ ▸ k ls H locs hl hP hS)
theorem s_ior (C : Cx E κ cc nL own ret ht) {x y : Int} (hd : decode cc pc = .ok (.ior, 1)) (k : Gm E κ post nL (pc + 1) lv (zi (zor x y) :: st) M) : Gm E κ post nL pc lv (zi y :: zi x :: st) M :=
  fun ls H locs hl hP hS => lv_ior C.1 C.2.1 hd (zi_toInt _ ▸ k ls H locs hl hP hS)
theorem s_ixor (C : Cx E κ cc nL own ret ht) {x y : Int} (hd : decode cc pc = .ok (.ixor, 1)) (k : Gm E κ post nL (pc + 1) lv (zi (zxor x y) :: st) M) : Gm E κ post nL pc lv (zi y :: zi x :: st) M :=
  fun ls H locs hl hP hS => lv_ixor C.1 C.2.1 hd (zi_toInt _ ▸ k ls H locs hl hP hS)
theorem s_ishl (C : Cx E κ cc nL own ret ht) {x y : Int} (hd : decode cc pc = .ok (.ishl, 1)) (k : Gm E κ post nL (pc + 1) lv (zi (zshl x y) :: st) M) : Gm E κ post nL pc lv (zi y :: zi x :: st) M :=
  fun ls H locs hl hP hS => lv_ishl C.1 C.2.1 hd (zi_toInt _ ▸ k ls H locs hl hP hS)
theorem s_ishr (C : Cx E κ cc nL own ret ht) {x y : Int} (hd : decode cc pc = .ok (.ishr, 1)) (k : Gm E κ post nL (pc + 1) lv (zi (zshr x y) :: st) M) : Gm E κ post nL pc lv (zi y :: zi x :: st) M :=
  fun ls H locs hl hP hS => lv_ishr C.1 C.2.1 hd (zi_toInt _ ▸ k ls H locs hl hP hS)
theorem s_iushr (C : Cx E κ cc nL own ret ht) {x y : Int} (hd : decode cc pc = .ok (.iushr, 1)) (k : Gm E κ post nL (pc + 1) lv (zi (zushr x y) :: st) M) : Gm E κ post nL pc lv (zi y :: zi x :: st) M :=
  fun ls H locs hl hP hS => lv_iushr C.1 C.2.1 hd rfl (zi_toInt _ ▸ k ls H locs hl hP hS)
theorem s_idiv (C : Cx E κ cc nL own ret ht) {x y : Int} (hd : decode cc pc = .ok (.idiv, 1)) (hy : ¬ Int32.ofInt y = 0) (k : Gm E κ post nL (pc + 1) lv (zi (zdiv x y) :: st) M) : Gm E κ post nL pc lv (zi y :: zi x :: st) M :=
  fun ls H locs hl hP hS => lv_idiv C.1 C.2.1 hd hy (zi_toInt _ ▸ k ls H locs hl hP hS)
theorem s_irem (C : Cx E κ cc nL own ret ht) {x y : Int} (hd : decode cc pc = .ok (.irem, 1)) (hy : ¬ Int32.ofInt y = 0) (k : Gm E κ post nL (pc + 1) lv (zi (zrem x y) :: st) M) : Gm E κ post nL pc lv (zi y :: zi x :: st) M :=
  fun ls H locs hl hP hS => lv_irem C.1 C.2.1 hd hy (zi_toInt _ ▸ k ls H locs hl hP hS)
theorem s_ladd (C : Cx E κ cc nL own ret ht) {x y : Int} (hd : decode cc pc = .ok (.ladd, 1)) (k : Gm E κ post nL (pc + 1) lv (zl (x + y) :: st) M) : Gm E κ post nL pc lv (zl y :: zl x :: st) M :=
  fun ls H locs hl hP hS => lv_ladd C.1 C.2.1 hd (Int64.ofInt_add x y ▸ k ls H locs hl hP hS)
theorem s_land (C : Cx E κ cc nL own ret ht) {x y : Int} (hd : decode cc pc = .ok (.land, 1)) (k : Gm E κ post nL (pc + 1) lv (zl (zland x y) :: st) M) : Gm E κ post nL pc lv (zl y :: zl x :: st) M :=
  fun ls H locs hl hP hS => lv_land C.1 C.2.1 hd (zl_toInt _ ▸ k ls H locs hl hP hS)
theorem s_lor (C : Cx E κ cc nL own ret ht) {x y : Int} (hd : decode cc pc = .ok (.lor, 1)) (k : Gm E κ post nL (pc + 1) lv (zl (zlor x y) :: st) M) : Gm E κ post nL pc lv (zl y :: zl x :: st) M :=
  fun ls H locs hl hP hS => lv_lor C.1 C.2.1 hd (zl_toInt _ ▸ k ls H locs hl hP hS)
theorem s_lxor (C : Cx E κ cc nL own ret ht) {x y : Int} (hd : decode cc pc = .ok (.lxor, 1)) (k : Gm E κ post nL (pc + 1) lv (zl (zlxor x y) :: st) M) : Gm E κ post nL pc lv (zl y :: zl x :: st) M :=
  fun ls H locs hl hP hS => lv_lxor C.1 C.2.1 hd (zl_toInt _ ▸ k ls H locs hl hP hS)
theorem s_lsub (C : Cx E κ cc nL own ret ht) {x y : Int} (hd : decode cc pc = .ok (.lsub, 1)) (k : Gm E κ post nL (pc + 1) lv (zl (x - y) :: st) M) : Gm E κ post nL pc lv (zl y :: zl x :: st) M :=
  fun ls H locs hl hP hS => lv_lsub C.1 C.2.1 hd (Int64.ofInt_sub x y ▸ k ls H locs hl hP hS)
theorem s_lshl (C : Cx E κ cc nL own ret ht) {x y : Int} (hd : decode cc pc = .ok (.lshl, 1)) (k : Gm E κ post nL (pc + 1) lv (zl (zlshl x y) :: st) M) : Gm E κ post nL pc lv (zi y :: zl x :: st) M :=
  fun ls H locs hl hP hS => lv_lshl C.1 C.2.1 hd rfl (zl_toInt _ ▸ k ls H locs hl hP hS)
theorem s_lushr (C : Cx E κ cc nL own ret ht) {x y : Int} (hd : decode cc pc = .ok (.lushr, 1)) (k : Gm E κ post nL (pc + 1) lv (zl (zlushr x y) :: st) M) : Gm E κ post nL pc lv (zi y :: zl x :: st) M :=
  fun ls H locs hl hP hS => lv_lushr C.1 C.2.1 hd rfl (zl_toInt _ ▸ k ls H locs hl hP hS)
theorem s_i2l (C : Cx E κ cc nL own ret ht) {x : Int} (hd : decode cc pc = .ok (.i2l, 1)) (hx : rg x) (k : Gm E κ post nL (pc + 1) lv (zl x :: st) M) : Gm E κ post nL pc lv (zi x :: st) M :=
  fun ls H locs hl hP hS => lv_i2l C.1 C.2.1 hd (Int64.toInt_inj.mp (by rw [Int32.toInt_toInt64, toInt_zi hx, toInt_zl (by omega)])) (k ls H locs hl hP hS)
def zl2i (x : Int) : Int := (Int64.ofInt x).toInt32.toInt
theorem s_l2i (C : Cx E κ cc nL own ret ht) {x : Int} (hd : decode cc pc = .ok (.l2i, 1)) (k : Gm E κ post nL (pc + 1) lv (zi (zl2i x) :: st) M) : Gm E κ post nL pc lv (zl x :: st) M :=
  fun ls H locs hl hP hS => lv_l2i C.1 C.2.1 hd rfl (zi_toInt _ ▸ k ls H locs hl hP hS)
def zb (x : Int) : Int := (Int32.ofInt x).toInt8.toInt32.toInt
theorem s_i2b (C : Cx E κ cc nL own ret ht) {x : Int} (hd : decode cc pc = .ok (.i2b, 1)) (k : Gm E κ post nL (pc + 1) lv (zi (zb x) :: st) M) : Gm E κ post nL pc lv (zi x :: st) M :=
  fun ls H locs hl hP hS => lv_i2b C.1 C.2.1 hd rfl (zi_toInt _ ▸ k ls H locs hl hP hS)
theorem cat_zi (x : Int) : (zi x).category = 1 := rfl
theorem cat_zl (x : Int) : (zl x).category = 2 := rfl
theorem cat_zr (E : Ev) (a : Nat) : (zr E a).category = 1 := rfl
theorem s_dup (C : Cx E κ cc nL own ret ht) {v : Value} (hd : decode cc pc = .ok (.dup, 1)) (hv : v.category = 1) (k : Gm E κ post nL (pc + 1) lv (v :: v :: st) M) : Gm E κ post nL pc lv (v :: st) M :=
  fun ls H locs hl hP hS => lv_dup C.1 C.2.1 hd hv (k ls H locs hl hP hS)
theorem s_pop (C : Cx E κ cc nL own ret ht) {v : Value} (hd : decode cc pc = .ok (.pop, 1)) (hv : v.category = 1) (k : Gm E κ post nL (pc + 1) lv st M) : Gm E κ post nL pc lv (v :: st) M :=
  fun ls H locs hl hP hS => lv_pop C.1 C.2.1 hd hv (k ls H locs hl hP hS)
theorem s_dup2 (C : Cx E κ cc nL own ret ht) {v w : Value} (hd : decode cc pc = .ok (.dup2, 1)) (hv : v.category = 1) (hw : w.category = 1) (k : Gm E κ post nL (pc + 1) lv (v :: w :: v :: w :: st) M) : Gm E κ post nL pc lv (v :: w :: st) M :=
  fun ls H locs hl hP hS => lv_dup2_11 C.1 C.2.1 hd hv hw (k ls H locs hl hP hS)
-- branches
theorem s_goto (C : Cx E κ cc nL own ret ht) {off : Int} {tgt : Nat} (hd : decode cc pc = .ok (.goto off, 3)) (h : (pc : Int) + off = (tgt : Int)) (k : Gm E κ post nL tgt lv st M) : Gm E κ post nL pc lv st M :=
  fun ls H locs hl hP hS => lv_goto C.1 C.2.1 hd h (k ls H locs hl hP hS)
theorem rg_0 : rg 0 := by decide
theorem s_icmp_lt (C : Cx E κ cc nL own ret ht) {x y off : Int} {tgt : Nat} (hd : decode cc pc = .ok (.if_icmp .lt off, 3)) (h : (pc : Int) + off = (tgt : Int)) (hx : rg x) (hy : rg y) (kt : x < y → Gm E κ post nL tgt lv st M) (kf : y ≤ x → Gm E κ post nL (pc + 3) lv st M) : Gm E κ post nL pc lv (zi y :: zi x :: st) M := by
  intro ls H locs hl hP hS
  exact lv_icmp_lt C.1 C.2.1 hd h (fun q => kt ((ofInt_lt hx hy).mp q) ls H locs hl hP hS) (fun q => kf (Int.not_lt.mp (fun z => q ((ofInt_lt hx hy).mpr z))) ls H locs hl hP hS)
theorem s_if_lt (C : Cx E κ cc nL own ret ht) {x off : Int} {tgt : Nat} (hd : decode cc pc = .ok (.ifCond .lt off, 3)) (h : (pc : Int) + off = (tgt : Int)) (hx : rg x) (kt : x < 0 → Gm E κ post nL tgt lv st M) (kf : 0 ≤ x → Gm E κ post nL (pc + 3) lv st M) : Gm E κ post nL pc lv (zi x :: st) M := by
  intro ls H locs hl hP hS
  exact lv_if_lt C.1 C.2.1 hd h (fun q => kt ((ofInt_lt hx (rg_0)).mp q) ls H locs hl hP hS) (fun q => kf (Int.not_lt.mp (fun z => q ((ofInt_lt hx (rg_0)).mpr z))) ls H locs hl hP hS)
theorem s_icmp_ge (C : Cx E κ cc nL own ret ht) {x y off : Int} {tgt : Nat} (hd : decode cc pc = .ok (.if_icmp .ge off, 3)) (h : (pc : Int) + off = (tgt : Int)) (hx : rg x) (hy : rg y) (kt : y ≤ x → Gm E κ post nL tgt lv st M) (kf : x < y → Gm E κ post nL (pc + 3) lv st M) : Gm E κ post nL pc lv (zi y :: zi x :: st) M := by
  intro ls H locs hl hP hS
  exact lv_icmp_ge C.1 C.2.1 hd h (fun q => kt ((ofInt_le hy hx).mp q) ls H locs hl hP hS) (fun q => kf (Int.not_le.mp (fun z => q ((ofInt_le hy hx).mpr z))) ls H locs hl hP hS)
theorem s_if_ge (C : Cx E κ cc nL own ret ht) {x off : Int} {tgt : Nat} (hd : decode cc pc = .ok (.ifCond .ge off, 3)) (h : (pc : Int) + off = (tgt : Int)) (hx : rg x) (kt : 0 ≤ x → Gm E κ post nL tgt lv st M) (kf : x < 0 → Gm E κ post nL (pc + 3) lv st M) : Gm E κ post nL pc lv (zi x :: st) M := by
  intro ls H locs hl hP hS
  exact lv_if_ge C.1 C.2.1 hd h (fun q => kt ((ofInt_le (rg_0) hx).mp q) ls H locs hl hP hS) (fun q => kf (Int.not_le.mp (fun z => q ((ofInt_le (rg_0) hx).mpr z))) ls H locs hl hP hS)
theorem s_icmp_gt (C : Cx E κ cc nL own ret ht) {x y off : Int} {tgt : Nat} (hd : decode cc pc = .ok (.if_icmp .gt off, 3)) (h : (pc : Int) + off = (tgt : Int)) (hx : rg x) (hy : rg y) (kt : y < x → Gm E κ post nL tgt lv st M) (kf : x ≤ y → Gm E κ post nL (pc + 3) lv st M) : Gm E κ post nL pc lv (zi y :: zi x :: st) M := by
  intro ls H locs hl hP hS
  exact lv_icmp_gt C.1 C.2.1 hd h (fun q => kt ((ofInt_lt hy hx).mp q) ls H locs hl hP hS) (fun q => kf (Int.not_lt.mp (fun z => q ((ofInt_lt hy hx).mpr z))) ls H locs hl hP hS)
theorem s_if_gt (C : Cx E κ cc nL own ret ht) {x off : Int} {tgt : Nat} (hd : decode cc pc = .ok (.ifCond .gt off, 3)) (h : (pc : Int) + off = (tgt : Int)) (hx : rg x) (kt : 0 < x → Gm E κ post nL tgt lv st M) (kf : x ≤ 0 → Gm E κ post nL (pc + 3) lv st M) : Gm E κ post nL pc lv (zi x :: st) M := by
  intro ls H locs hl hP hS
  exact lv_if_gt C.1 C.2.1 hd h (fun q => kt ((ofInt_lt (rg_0) hx).mp q) ls H locs hl hP hS) (fun q => kf (Int.not_lt.mp (fun z => q ((ofInt_lt (rg_0) hx).mpr z))) ls H locs hl hP hS)
theorem s_icmp_le (C : Cx E κ cc nL own ret ht) {x y off : Int} {tgt : Nat} (hd : decode cc pc = .ok (.if_icmp .le off, 3)) (h : (pc : Int) + off = (tgt : Int)) (hx : rg x) (hy : rg y) (kt : x ≤ y → Gm E κ post nL tgt lv st M) (kf : y < x → Gm E κ post nL (pc + 3) lv st M) : Gm E κ post nL pc lv (zi y :: zi x :: st) M := by
  intro ls H locs hl hP hS
  exact lv_icmp_le C.1 C.2.1 hd h (fun q => kt ((ofInt_le hx hy).mp q) ls H locs hl hP hS) (fun q => kf (Int.not_le.mp (fun z => q ((ofInt_le hx hy).mpr z))) ls H locs hl hP hS)
theorem s_if_le (C : Cx E κ cc nL own ret ht) {x off : Int} {tgt : Nat} (hd : decode cc pc = .ok (.ifCond .le off, 3)) (h : (pc : Int) + off = (tgt : Int)) (hx : rg x) (kt : x ≤ 0 → Gm E κ post nL tgt lv st M) (kf : 0 < x → Gm E κ post nL (pc + 3) lv st M) : Gm E κ post nL pc lv (zi x :: st) M := by
  intro ls H locs hl hP hS
  exact lv_if_le C.1 C.2.1 hd h (fun q => kt ((ofInt_le hx (rg_0)).mp q) ls H locs hl hP hS) (fun q => kf (Int.not_le.mp (fun z => q ((ofInt_le hx (rg_0)).mpr z))) ls H locs hl hP hS)
theorem s_icmp_eq (C : Cx E κ cc nL own ret ht) {x y off : Int} {tgt : Nat} (hd : decode cc pc = .ok (.if_icmp .eq off, 3)) (h : (pc : Int) + off = (tgt : Int)) (hx : rg x) (hy : rg y) (kt : x = y → Gm E κ post nL tgt lv st M) (kf : x ≠ y → Gm E κ post nL (pc + 3) lv st M) : Gm E κ post nL pc lv (zi y :: zi x :: st) M := by
  intro ls H locs hl hP hS
  exact lv_icmp_eq C.1 C.2.1 hd h (fun q => kt ((ofInt_inj hx hy).mp q) ls H locs hl hP hS) (fun q => kf ( (fun z => q ((ofInt_inj hx hy).mpr z))) ls H locs hl hP hS)
theorem s_if_eq (C : Cx E κ cc nL own ret ht) {x off : Int} {tgt : Nat} (hd : decode cc pc = .ok (.ifCond .eq off, 3)) (h : (pc : Int) + off = (tgt : Int)) (hx : rg x) (kt : x = 0 → Gm E κ post nL tgt lv st M) (kf : x ≠ 0 → Gm E κ post nL (pc + 3) lv st M) : Gm E κ post nL pc lv (zi x :: st) M := by
  intro ls H locs hl hP hS
  exact lv_if_eq C.1 C.2.1 hd h (fun q => kt ((ofInt_inj hx (rg_0)).mp q) ls H locs hl hP hS) (fun q => kf ( (fun z => q ((ofInt_inj hx (rg_0)).mpr z))) ls H locs hl hP hS)
theorem s_icmp_ne (C : Cx E κ cc nL own ret ht) {x y off : Int} {tgt : Nat} (hd : decode cc pc = .ok (.if_icmp .ne off, 3)) (h : (pc : Int) + off = (tgt : Int)) (hx : rg x) (hy : rg y) (kt : x ≠ y → Gm E κ post nL tgt lv st M) (kf : x = y → Gm E κ post nL (pc + 3) lv st M) : Gm E κ post nL pc lv (zi y :: zi x :: st) M := by
  intro ls H locs hl hP hS
  exact lv_icmp_ne C.1 C.2.1 hd h (fun q => kt (fun z => q ((ofInt_inj hx hy).mpr z)) ls H locs hl hP hS) (fun q => kf ((ofInt_inj hx hy).mp q) ls H locs hl hP hS)
theorem s_if_ne (C : Cx E κ cc nL own ret ht) {x off : Int} {tgt : Nat} (hd : decode cc pc = .ok (.ifCond .ne off, 3)) (h : (pc : Int) + off = (tgt : Int)) (hx : rg x) (kt : x ≠ 0 → Gm E κ post nL tgt lv st M) (kf : x = 0 → Gm E κ post nL (pc + 3) lv st M) : Gm E κ post nL pc lv (zi x :: st) M := by
  intro ls H locs hl hP hS
  exact lv_if_ne C.1 C.2.1 hd h (fun q => kt (fun z => q ((ofInt_inj hx (rg_0)).mpr z)) ls H locs hl hP hS) (fun q => kf ((ofInt_inj hx (rg_0)).mp q) ls H locs hl hP hS)
theorem s_lcmp (C : Cx E κ cc nL own ret ht) {x y : Int} (hd : decode cc pc = .ok (.lcmp, 1)) (hx : rgl x) (hy : rgl y) (k : Gm E κ post nL (pc + 1) lv (zi (if y < x then 1 else if x = y then 0 else -1) :: st) M) : Gm E κ post nL pc lv (zl y :: zl x :: st) M := by
  intro ls H locs hl hP hS
  refine W.lcmp C.1 C.2.1 hd ?_
  have h := k ls H locs hl hP hS
  have e : lg_cmp (Int64.ofInt x) (Int64.ofInt y) = Int32.ofInt (if y < x then 1 else if x = y then 0 else -1) := by
    unfold lg_cmp
    have h1 : (Int64.ofInt x > Int64.ofInt y) ↔ y < x := by
      show Int64.ofInt y < Int64.ofInt x ↔ y < x
      rw [Int64.lt_iff_toInt_lt, toInt_zl hx, toInt_zl hy]
    have h2 : Int64.ofInt x = Int64.ofInt y ↔ x = y := by
      rw [← Int64.toInt_inj, toInt_zl hx, toInt_zl hy]
    by_cases c1 : y < x
    · rw [if_pos (h1.mpr c1), if_pos c1]; rfl
    · rw [if_neg (fun q => c1 (h1.mp q)), if_neg c1]
      by_cases c2 : x = y
      · rw [if_pos (h2.mpr c2), if_pos c2]; rfl
      · rw [if_neg (fun q => c2 (h2.mp q)), if_neg c2]; rfl
  rw [e]
  exact h
theorem rg_toInt (v : Int32) : rg v.toInt := ⟨Int32.le_toInt v, Int32.toInt_lt v⟩
theorem rgl_toInt (v : Int64) : rgl v.toInt := ⟨Int64.le_toInt v, Int64.toInt_lt v⟩
end FR
end
section
section FF
variable {E : Ev} {κ : Kp} {post : Option Value → Mm → Prop} {cc : ByteArray} {nL : Nat} {own : String} {ret : Option FieldType} {ht pc : Nat} {lv : List (Option Value)} {st : List Value} {M : Mm}
theorem fs_get {a k : Nat} (hk : k < nf (kd a)) : ((List.range (nf (kd a))).map (fv (aD E) M a))[k]? = some (fv (aD E) M a k) := by
  simp [List.getElem?_range hk]
theorem s_getv (C : Cx E κ cc nL own ret ht) {a index ci k : Nat} (hd : decode cc pc = .ok (.getfield index, 3)) (hF : Fl own index ci k) (ha : a < NID) (hka : kd a = ci) (kk : Ok a (k : Int) (M a (k : Int)) → kd a < 12 → Gm E κ post nL (pc + 3) lv (fv (aD E) M a k :: st) M) : Gm E κ post nL pc lv (zr E a :: st) M := by
  intro ls H locs hl hP hS
  obtain ⟨hx, hb, hml, hown, hts, hKw, hD, hr, hlk, hR⟩ := C
  obtain ⟨Cn, T, ty, ⟨hc, hci, hin, -, -⟩, hk, hT, hlink⟩ := hF
  subst hka
  have he : (wl (aD E) (cY E) M)[a]? = some (aD E a, .inr (kd a, (List.range (nf (kd a))).map (fv (aD E) M a))) := by
    rw [wl_get ha]; simp only [cE, if_pos hci]
  rcases hlink with h | ⟨host, h⟩
  · exact va_get (D := E.2.1) (cl := vwCl) hx hb hts hin hown hKw.1 hP.1 a he hc k hk (hts _ h) (fun x hx => hT ▸ hx) (fs_get hk) hd (kk (hP.2 a k) hci ls H locs hl hP hS)
  · exact va_getN (D := E.2.1) (cl := vwCl) hx hb hts hin hown hKw.1 hP.1 a he hc k hk (va_Nw.use rfl (hKw.2 _ h)) (fun x hx => hT ▸ hx) (fs_get hk) hd (kk (hP.2 a k) hci ls H locs hl hP hS)
theorem s_geti (C : Cx E κ cc nL own ret ht) {a index ci k : Nat} {j : Int} (hd : decode cc pc = .ok (.getfield index, 3)) (hF : Fl own index ci k) (ha : a < NID) (hka : kd a = ci) (hft : ft ci k = 0) (hj : (k : Int) = j) {z : Int} (hz : M a j = z) (kk : rg z → Gm E κ post nL (pc + 3) lv (zi z :: st) M) : Gm E κ post nL pc lv (zr E a :: st) M := by
  refine s_getv C hd hF ha hka (fun h0 h1 => ?_)
  subst hka; subst hj; subst hz
  rw [Ok_f h1 (by omega)] at h0
  have : fv (aD E) M a k = zi (M a k) := by
    simp only [fv]
    rw [if_neg (by omega), if_neg (by omega)]
  rw [this]; exact kk h0
theorem s_getz (C : Cx E κ cc nL own ret ht) {a index ci k : Nat} {j : Int} (hd : decode cc pc = .ok (.getfield index, 3)) (hF : Fl own index ci k) (ha : a < NID) (hka : kd a = ci) (hft : ft ci k = 1) (hj : (k : Int) = j) {z : Int} (hz : M a j = z) (kk : (z = 0 ∨ z = 1) → Gm E κ post nL (pc + 3) lv (zi z :: st) M) : Gm E κ post nL pc lv (zr E a :: st) M := by
  refine s_getv C hd hF ha hka (fun h0 h1 => ?_)
  subst hka; subst hj; subst hz
  rw [Ok_fz h1 hft] at h0
  have : fv (aD E) M a k = zi (M a k) := by
    simp only [fv]
    rw [if_neg (by omega), if_neg (by omega)]
  rw [this]; exact kk h0
theorem s_getr (C : Cx E κ cc nL own ret ht) {a index ci k b : Nat} (hd : decode cc pc = .ok (.getfield index, 3)) (hF : Fl own index ci k) (ha : a < NID) (hka : kd a = ci) (hft : ft ci k = 2) (hb : rf a k = b) (kk : Gm E κ post nL (pc + 3) lv (zr E b :: st) M) : Gm E κ post nL pc lv (zr E a :: st) M := by
  refine s_getv C hd hF ha hka (fun _ _ => ?_)
  have : fv (aD E) M a k = zr E b := by
    subst hka; subst hb
    simp only [fv]
    rw [if_pos hft]; rfl
  rw [this]; exact kk
theorem s_getd (C : Cx E κ cc nL own ret ht) {a index ci k b : Nat} {j : Int} (hd : decode cc pc = .ok (.getfield index, 3)) (hF : Fl own index ci k) (ha : a < NID) (hka : kd a = ci) (hft : ft ci k = 3) (hj : (k : Int) = j) (hb : M a j = (b : Int)) (kk : Gm E κ post nL (pc + 3) lv (zr E b :: st) M) : Gm E κ post nL pc lv (zr E a :: st) M := by
  refine s_getv C hd hF ha hka (fun _ _ => ?_)
  have : fv (aD E) M a k = zr E b := by
    subst hka; subst hj
    simp only [fv]
    rw [if_neg (by omega), if_pos hft, hb]; rfl
  rw [this]; exact kk
theorem cE_put {a k : Nat} {x : Int} {v : Value} (hci : kd a < 12) (hk : k < nf (kd a)) (hv : fv (aD E) (mput M a k x) a k = v) : cE (aD E) (cY E) (mput M a k x) a = .inr (kd a, ((List.range (nf (kd a))).map (fv (aD E) M a)).set k v) := by
  simp only [cE, if_pos hci]
  congr 2
  apply List.ext_getElem?
  intro j
  by_cases hj : j = k
  · subst hj
    rw [List.getElem?_set_self (by simpa using hk)]
    simp [List.getElem?_range hk, hv]
  · rw [List.getElem?_set_ne (Ne.symm hj)]
    by_cases hjn : j < nf (kd a)
    · simp only [List.getElem?_map, List.getElem?_range hjn, Option.map_some]
      simp only [fv, mput_nk (show (j : Int) ≠ (k : Int) by omega)]
    · rw [List.getElem?_eq_none (by simp; omega), List.getElem?_eq_none (by simp; omega)]
theorem s_putv (C : Cx E κ cc nL own ret ht) {a index ci k : Nat} {x : Int} {v : Value} {t : FieldType} (hd : decode cc pc = .ok (.putfield index, 3)) (hF : Fp own index ci k t) (ha : a < NID) (hka : kd a = ci) (hn : narrow t v = v) (hft : fits t v = true) (hv : fv (aD E) (mput M a k x) a k = v) (hok : kd a < 12 → Ok a (k : Int) x) (kk : Gm E κ post nL (pc + 3) lv st (mput M a k x)) : Gm E κ post nL pc lv (v :: zr E a :: st) M := by
  intro ls H locs hl hP hS
  obtain ⟨hx, hb, hml, hown, hts, hKw, hD, hr, hlk, hR⟩ := C
  obtain ⟨Cn, T, ty, ⟨hc, hci, hin, hty, hnm⟩, hk, hT, hlink, hfin, hpt⟩ := hF
  subst hka
  have he : (wl (aD E) (cY E) M)[a]? = some (aD E a, .inr (kd a, (List.range (nf (kd a))).map (fv (aD E) M a))) := by
    rw [wl_get ha]; simp only [cE, if_pos hci]
  have hset : (wl (aD E) (cY E) M).set a (aD E a, .inr (kd a, ((List.range (nf (kd a))).map (fv (aD E) M a)).set k v)) = wl (aD E) (cY E) (mput M a k x) := wl_set ha (cE_put hci hk hv) (fun j hj => cE_other hj)
  rcases hlink with h | ⟨host, h⟩
  · exact va_put (D := E.2.1) (cl := vwCl) hx hb hts hin ty hty hnm hown hKw.1 hP.1 (hD.D M _) hS a he hc k hk (hts _ h) (fun x hx => hT ▸ hx) hfin hpt hn hft (by simpa using hk) hd (fun H1 locs1 h1 _ h3 => kk ls H1 locs1 hl ⟨by rw [← hset]; exact h1, hP.2.put (hok hci)⟩ h3)
  · exact va_putN (D := E.2.1) (cl := vwCl) hx hb hts hin ty hty hnm hown hKw.1 hP.1 (hD.D M _) hS a he hc k hk (va_Nw.use rfl (hKw.2 _ h)) (fun x hx => hT ▸ hx) hfin hpt hn hft (by simpa using hk) hd (fun H1 locs1 h1 _ h3 => kk ls H1 locs1 hl ⟨by rw [← hset]; exact h1, hP.2.put (hok hci)⟩ h3)
theorem s_puti (C : Cx E κ cc nL own ret ht) {a index ci k : Nat} {x j : Int} (hd : decode cc pc = .ok (.putfield index, 3)) (hF : Fp own index ci k .int) (ha : a < NID) (hka : kd a = ci) (hft : ft ci k = 0) (hj : (k : Int) = j) (hr : rg x) (kk : Gm E κ post nL (pc + 3) lv st (mput M a j x)) : Gm E κ post nL pc lv (zi x :: zr E a :: st) M := by
  subst hj
  refine s_putv (x := x) C hd hF ha hka rfl rfl ?_ (fun h => (Ok_f h (by rw [hka]; omega)).mpr hr) kk
  subst hka
  simp only [fv, mput_eq]
  rw [if_neg (by omega), if_neg (by omega)]
theorem s_putz (C : Cx E κ cc nL own ret ht) {a index ci k : Nat} {x j : Int} (hd : decode cc pc = .ok (.putfield index, 3)) (hF : Fp own index ci k .boolean) (ha : a < NID) (hka : kd a = ci) (hft : ft ci k = 1) (hj : (k : Int) = j) (hx : x = 0 ∨ x = 1) (kk : Gm E κ post nL (pc + 3) lv st (mput M a j x)) : Gm E κ post nL pc lv (zi x :: zr E a :: st) M := by
  subst hj
  refine s_putv (x := x) C hd hF ha hka ?_ ?_ ?_ (fun h => (Ok_fz h (by rw [hka]; exact hft)).mpr hx) kk
  · rcases hx with rfl | rfl <;> rfl
  · rcases hx with rfl | rfl <;> rfl
  subst hka
  simp only [fv, mput_eq]
  rw [if_neg (by omega), if_neg (by omega)]
theorem s_putd (C : Cx E κ cc nL own ret ht) {a b index ci k : Nat} {j : Int} {n : String} (hd : decode cc pc = .ok (.putfield index, 3)) (hF : Fp own index ci k (.object n)) (ha : a < NID) (hka : kd a = ci) (hft : ft ci k = 3) (hj : (k : Int) = j) (hb : b < NID) (kk : Gm E κ post nL (pc + 3) lv st (mput M a j (b : Int))) : Gm E κ post nL pc lv (zr E b :: zr E a :: st) M := by
  subst hj
  refine s_putv (x := (b : Int)) C hd hF ha hka rfl rfl ?_ (fun h => (Ok_f h (by rw [hka]; omega)).mpr (by simp only [NID] at hb; omega)) kk
  subst hka
  simp only [fv, mput_eq]
  rw [if_neg (by omega), if_pos hft]; rfl
-- arrays
theorem cE_i {a : Nat} (h : kd a = 20 ∨ kd a = 22 ∨ kd a = 23) : cE (aD E) (cY E) M a = .inl (cY E (kd a), ln a, .inl (fun k => Int32.ofInt (M a (k : Int)))) := by
  simp only [cE]; rw [if_neg (by omega), if_neg (by omega)]
theorem cE_l {a : Nat} (h : kd a = 21) : cE (aD E) (cY E) M a = .inl (cY E 21, ln a, .inr (.inl (fun k => Int64.ofInt (M a (k : Int))))) := by
  simp only [cE]; rw [if_neg (by omega), if_pos h]
theorem s_iaload (C : Cx E κ cc nL own ret ht) {a n : Nat} {i : Int} (hd : decode cc pc = .ok (.iaload, 1)) (ha : a < NID) (hka : kd a = 20) (hn : ln a = n) (h0 : 0 ≤ i) (h1 : i < (n : Int)) (h2 : i < 2147483648) {z : Int} (hz : M a i = z) (kk : rg z → Gm E κ post nL (pc + 1) lv (zi z :: st) M) : Gm E κ post nL pc lv (zi i :: zr E a :: st) M := by
  intro ls H locs hl hP hS
  obtain ⟨hx, hb, hml, hown, hts, hKw, hD, hr, hlk, hR⟩ := C
  subst hn
  obtain ⟨q1, q2⟩ := vp_in_zi h0 h1 h2
  refine va_iald (D := E.2.1) (cl := vwCl) (tys := tyE E) hx hb hKw.1 hP.1 a 0 (by rw [wl_get ha, cE_i (Or.inl hka), hka]) rfl q1 hd ?_
  rw [q2, Int.toNat_of_nonneg h0, hz]
  exact kk ((Ok_i hka).mp (hz ▸ hP.2 a i)) ls H locs hl hP hS
theorem s_baload (C : Cx E κ cc nL own ret ht) {a n : Nat} {i : Int} (hd : decode cc pc = .ok (.baload, 1)) (ha : a < NID) (hka : kd a = 22) (hn : ln a = n) (h0 : 0 ≤ i) (h1 : i < (n : Int)) (h2 : i < 2147483648) {z : Int} (hz : M a i = z) (kk : (-128 ≤ z ∧ z < 128) → Gm E κ post nL (pc + 1) lv (zi z :: st) M) : Gm E κ post nL pc lv (zi i :: zr E a :: st) M := by
  intro ls H locs hl hP hS
  obtain ⟨hx, hb, hml, hown, hts, hKw, hD, hr, hlk, hR⟩ := C
  subst hn
  obtain ⟨q1, q2⟩ := vp_in_zi h0 h1 h2
  refine va_bald (D := E.2.1) (cl := vwCl) (tys := tyE E) hx hb hKw.1 hP.1 a 2 (by rw [wl_get ha, cE_i (by omega), hka]) rfl q1 hd ?_
  rw [q2, Int.toNat_of_nonneg h0, hz]
  exact kk ((Ok_b hka).mp (hz ▸ hP.2 a i)) ls H locs hl hP hS
theorem s_zaload (C : Cx E κ cc nL own ret ht) {a n : Nat} {i : Int} (hd : decode cc pc = .ok (.baload, 1)) (ha : a < NID) (hka : kd a = 23) (hn : ln a = n) (h0 : 0 ≤ i) (h1 : i < (n : Int)) (h2 : i < 2147483648) {z : Int} (hz : M a i = z) (kk : (z = 0 ∨ z = 1) → Gm E κ post nL (pc + 1) lv (zi z :: st) M) : Gm E κ post nL pc lv (zi i :: zr E a :: st) M := by
  intro ls H locs hl hP hS
  obtain ⟨hx, hb, hml, hown, hts, hKw, hD, hr, hlk, hR⟩ := C
  subst hn
  obtain ⟨q1, q2⟩ := vp_in_zi h0 h1 h2
  refine va_zald (D := E.2.1) (cl := vwCl) (tys := tyE E) hx hb hKw.1 hP.1 a 3 (by rw [wl_get ha, cE_i (by omega), hka]) rfl q1 hd ?_
  rw [q2, Int.toNat_of_nonneg h0, hz]
  exact kk ((Ok_z hka).mp (hz ▸ hP.2 a i)) ls H locs hl hP hS
theorem s_laload (C : Cx E κ cc nL own ret ht) {a n : Nat} {i : Int} (hd : decode cc pc = .ok (.laload, 1)) (ha : a < NID) (hka : kd a = 21) (hn : ln a = n) (h0 : 0 ≤ i) (h1 : i < (n : Int)) (h2 : i < 2147483648) {z : Int} (hz : M a i = z) (kk : rgl z → Gm E κ post nL (pc + 1) lv (zl z :: st) M) : Gm E κ post nL pc lv (zi i :: zr E a :: st) M := by
  intro ls H locs hl hP hS
  obtain ⟨hx, hb, hml, hown, hts, hKw, hD, hr, hlk, hR⟩ := C
  subst hn
  obtain ⟨q1, q2⟩ := vp_in_zi h0 h1 h2
  refine va_lald (D := E.2.1) (cl := vwCl) (tys := tyE E) hx hb hKw.1 hP.1 a 1 (by rw [wl_get ha, cE_l hka]) rfl q1 hd ?_
  rw [q2, Int.toNat_of_nonneg h0, hz]
  exact kk ((Ok_l hka).mp (hz ▸ hP.2 a i)) ls H locs hl hP hS
theorem upd_mput {a : Nat} {i x : Int} (h0 : 0 ≤ i) : upd (fun k => Int32.ofInt (M a (k : Int))) i.toNat (Int32.ofInt x) = (fun k : Nat => Int32.ofInt (mput M a i x a (k : Int))) := by
  funext k
  simp only [upd, mput_at]
  by_cases h : k = i.toNat
  · rw [if_pos h, if_pos (by omega)]
  · rw [if_neg h, if_neg (by omega)]
theorem updL_mput {a : Nat} {i x : Int} (h0 : 0 ≤ i) : vp_updL (fun k => Int64.ofInt (M a (k : Int))) i.toNat (Int64.ofInt x) = (fun k : Nat => Int64.ofInt (mput M a i x a (k : Int))) := by
  funext k
  simp only [vp_updL, mput_at]
  by_cases h : k = i.toNat
  · rw [if_pos h, if_pos (by omega)]
  · rw [if_neg h, if_neg (by omega)]
theorem s_iastore (C : Cx E κ cc nL own ret ht) {a n : Nat} {i x : Int} (hd : decode cc pc = .ok (.iastore, 1)) (ha : a < NID) (hka : kd a = 20) (hn : ln a = n) (h0 : 0 ≤ i) (h1 : i < (n : Int)) (h2 : i < 2147483648) (hr : rg x) (kk : Gm E κ post nL (pc + 1) lv st (mput M a i x)) : Gm E κ post nL pc lv (zi x :: zi i :: zr E a :: st) M := by
  intro ls H locs hl hP hS
  obtain ⟨hx, hb, hml, hown, hts, hKw, hD, hrt, hlk, hR⟩ := C
  subst hn
  obtain ⟨q1, q2⟩ := vp_in_zi h0 h1 h2
  refine va_iast (D := E.2.1) (cl := vwCl) (tys := tyE E) hx hb hKw.1 hP.1 (hD.D M _) hS a 0 (by rw [wl_get ha, cE_i (Or.inl hka), hka]) rfl q1 hd (fun H1 locs1 g1 _ g3 => kk ls H1 locs1 hl ?_ g3)
  rw [q2, upd_mput h0, wl_set ha (M' := mput M a i x) (by rw [cE_i (Or.inl hka), hka]) (fun j hj => cE_other hj)] at g1
  exact ⟨g1, hP.2.put ((Ok_i hka).mpr hr)⟩
theorem s_bastore (C : Cx E κ cc nL own ret ht) {a n : Nat} {i x : Int} (hd : decode cc pc = .ok (.bastore, 1)) (ha : a < NID) (hka : kd a = 22) (hn : ln a = n) (h0 : 0 ≤ i) (h1 : i < (n : Int)) (h2 : i < 2147483648) (hx1 : -128 ≤ x) (hx2 : x < 128) (kk : Gm E κ post nL (pc + 1) lv st (mput M a i x)) : Gm E κ post nL pc lv (zi x :: zi i :: zr E a :: st) M := by
  intro ls H locs hl hP hS
  obtain ⟨hx, hb, hml, hown, hts, hKw, hD, hr, hlk, hR⟩ := C
  subst hn
  obtain ⟨q1, q2⟩ := vp_in_zi h0 h1 h2
  have hnr : vp_nar .byte (Int32.ofInt x) = Int32.ofInt x := by
    show (Int32.ofInt x).toInt8.toInt32 = Int32.ofInt x
    rw [← Int32.toInt_inj, Int8.toInt_toInt32, Int32.toInt_toInt8, toInt_zi ⟨by omega, by omega⟩]
    exact Int.bmod_eq_of_le (by omega) (by omega)
  refine va_bast (D := E.2.1) (cl := vwCl) (tys := tyE E) hx hb hKw.1 hP.1 (hD.D M _) hS a 2 (by rw [wl_get ha, cE_i (by omega), hka]) rfl q1 hd (fun H1 locs1 g1 _ g3 => kk ls H1 locs1 hl ?_ g3)
  rw [q2, hnr, upd_mput h0, wl_set ha (M' := mput M a i x) (by rw [cE_i (by omega), hka]) (fun j hj => cE_other hj)] at g1
  exact ⟨g1, hP.2.put ((Ok_b hka).mpr ⟨hx1, hx2⟩)⟩
theorem s_zastore (C : Cx E κ cc nL own ret ht) {a n : Nat} {i x : Int} (hd : decode cc pc = .ok (.bastore, 1)) (ha : a < NID) (hka : kd a = 23) (hn : ln a = n) (h0 : 0 ≤ i) (h1 : i < (n : Int)) (h2 : i < 2147483648) (hx1 : x = 0 ∨ x = 1) (kk : Gm E κ post nL (pc + 1) lv st (mput M a i x)) : Gm E κ post nL pc lv (zi x :: zi i :: zr E a :: st) M := by
  intro ls H locs hl hP hS
  obtain ⟨hx, hb, hml, hown, hts, hKw, hD, hr, hlk, hR⟩ := C
  subst hn
  obtain ⟨q1, q2⟩ := vp_in_zi h0 h1 h2
  have hnr : vp_nar .boolean (Int32.ofInt x) = Int32.ofInt x := by
    rcases hx1 with rfl | rfl <;> decide
  refine va_zast (D := E.2.1) (cl := vwCl) (tys := tyE E) hx hb hKw.1 hP.1 (hD.D M _) hS a 3 (by rw [wl_get ha, cE_i (by omega), hka]) rfl q1 hd (fun H1 locs1 g1 _ g3 => kk ls H1 locs1 hl ?_ g3)
  rw [q2, hnr, upd_mput h0, wl_set ha (M' := mput M a i x) (by rw [cE_i (by omega), hka]) (fun j hj => cE_other hj)] at g1
  exact ⟨g1, hP.2.put ((Ok_z hka).mpr hx1)⟩
theorem s_lastore (C : Cx E κ cc nL own ret ht) {a n : Nat} {i x : Int} (hd : decode cc pc = .ok (.lastore, 1)) (ha : a < NID) (hka : kd a = 21) (hn : ln a = n) (h0 : 0 ≤ i) (h1 : i < (n : Int)) (h2 : i < 2147483648) (hr : rgl x) (kk : Gm E κ post nL (pc + 1) lv st (mput M a i x)) : Gm E κ post nL pc lv (zl x :: zi i :: zr E a :: st) M := by
  intro ls H locs hl hP hS
  obtain ⟨hx, hb, hml, hown, hts, hKw, hD, hrt, hlk, hR⟩ := C
  subst hn
  obtain ⟨q1, q2⟩ := vp_in_zi h0 h1 h2
  refine va_last (D := E.2.1) (cl := vwCl) (tys := tyE E) hx hb hKw.1 hP.1 (hD.D M _) hS a 1 (by rw [wl_get ha, cE_l hka]) rfl q1 hd (fun H1 locs1 g1 _ g3 => kk ls H1 locs1 hl ?_ g3)
  rw [q2, updL_mput h0, wl_set ha (M' := mput M a i x) (by rw [cE_l hka]) (fun j hj => cE_other hj)] at g1
  exact ⟨g1, hP.2.put ((Ok_l hka).mpr hr)⟩
-- returns
theorem s_ireturn (C : Cx E κ cc nL own (some .int) ht) {x : Int} (hd : decode cc pc = .ok (.ireturn, 1)) (hp : post (some (zi x)) M) : Gm E κ post nL pc lv [zi x] M := by
  intro ls H locs hl hP hS
  obtain ⟨hx, hb, hml, hown, hts, hKw, hD, hr, hlk, hR⟩ := C
  exact W.iret hx hb hr (fun t ht _ => ⟨⟨some (zi x), M, rfl, hp, by rw [ht]; exact hP⟩, hS.F ht⟩) (fun q hq => hS.2.2 q hq) hd
theorem s_zreturn (C : Cx E κ cc nL own (some .boolean) ht) {x : Int} (hd : decode cc pc = .ok (.ireturn, 1)) (hz : x = 0 ∨ x = 1) (hp : post (some (zi x)) M) : Gm E κ post nL pc lv [zi x] M := by
  intro ls H locs hl hP hS
  obtain ⟨hx, hb, hml, hown, hts, hKw, hD, hr, hlk, hR⟩ := C
  exact W.zret hx hb hr (by rcases hz with rfl | rfl <;> rfl) (fun t ht _ => ⟨⟨some (zi x), M, rfl, hp, by rw [ht]; exact hP⟩, hS.F ht⟩) (fun q hq => hS.2.2 q hq) hd
theorem s_return (C : Cx E κ cc nL own none ht) (hd : decode cc pc = .ok (.return_, 1)) (hp : post none M) : Gm E κ post nL pc lv [] M := by
  intro ls H locs hl hP hS
  obtain ⟨hx, hb, hml, hown, hts, hKw, hD, hr, hlk, hR⟩ := C
  exact W.vret hx hb hr (fun t ht _ => ⟨⟨none, M, rfl, hp, by rw [ht]; exact hP⟩, hS.F ht⟩) (fun q hq => hS.2.2 q hq) hd
end FF
end
section
section FC
variable {E : Ev} {κ : Kp} {post : Option Value → Mm → Prop} {cc : ByteArray} {nL : Nat} {own : String} {ret : Option FieldType} {ht pc : Nat} {lv : List (Option Value)} {st : List Value} {M : Mm}
/-- the locals at a method's entry -/
def sltv : Slot → Option Value
  | .val v => some v
  | _ => none
def ent (vs : List Value) (n : Nat) : List (Option Value) := (lg_sl vs ++ List.replicate (n - (lg_sl vs).length) Slot.unset).map sltv
theorem Lh_ent {vs : List Value} {n : Nat} (h : (lg_sl vs).length ≤ n) : Lh ((lg_sl vs ++ List.replicate (n - (lg_sl vs).length) Slot.unset).toArray) n (ent vs n) := by
  have h0 := lv_entry vs h
  refine ⟨h0.1, h0.2.1, by simp [ent]; omega, fun i v hv => ?_⟩
  rw [List.getElem?_toArray]
  simp only [ent, List.getElem?_map] at hv
  cases hs : (lg_sl vs ++ List.replicate (n - (lg_sl vs).length) Slot.unset)[i]? with
  | none => rw [hs] at hv; cases hv
  | some x =>
    rw [hs] at hv
    cases x <;> simp [sltv] at hv
    subst hv; rfl
theorem Ct.of {y : MethodName} {args : List Value} {lv0 : List (Option Value)} (hy : plainName y.cls = true) (hown : y.cls = own) (hn : (lg_sl args).length ≤ nL) (hlv : ent args nL = lv0) (body : ∀ κ : Kp, Cx E κ cc nL own ret ht → Gm E κ post nL 0 lv0 [] M) : Ct E y cc nL ret ht args M post := by
  intro sz
  refine Met.ofW (cc := cc) (maxL := nL) (ret := ret) hy rfl ?_
  intro p e s m args' below meth c s₁ B hml hv
  obtain ⟨rfl, hsz, hP, hKw, hD⟩ := hv
  subst hsz; subst hown; subst hlv
  have hts := atoms_spec (ws := .code y cc nL ret :: BG) B.pre
  have G := body (p, e, rmH ht, s, m, args.toArray, below, meth, c) ⟨B.exec, B.bytes, hml, findClass_of_methodNamed B.named, fun w hw => hts w (List.mem_cons_of_mem _ hw), hKw, hD, B.returns, B.notSynchronized, rfl⟩
  rw [lg_entry_eq]
  exact G _ s.heap [] (Lh_ent hn) hP va_S.rf
theorem goodBG {w : Cond} (h : w ∈ BG) : GoodIn BG (w :: BG) := by
  intro v hv
  have : v ∈ BG := by
    rcases List.mem_cons.mp hv with rfl | q
    · exact h
    · exact q
  exact ⟨this, good_of_word (List.mem_filter.mp this).2⟩
theorem s_run {rest : List Value} {post' : Option Value → Mm → Prop} {a : Array Value}
    (hr : ∀ (ls : Array Slot) (H : Heap) (locs : List Loc), Lh ls nL lv → Wp E M H → va_S (Ad E (kS κ).heap.size) (kS κ).heap H locs → va_Run κ.1 E.1 κ.2.1 κ.2.2.1 (kS κ) κ.2.2.2.2.1 κ.2.2.2.2.2.1 κ.2.2.2.2.2.2.1 κ.2.2.2.2.2.2.2.1 κ.2.2.2.2.2.2.2.2 H locs 0 0 0 0 (F0 κ.2.2.2.2.1 pc ls st) rest (Qx E H.size post' a) (Ad E H.size))
    (kk : ∀ r M', post' r M' → Gm E κ post nL (pc + 3) lv (r.toList ++ rest) M') : Gm E κ post nL pc lv st M := by
  intro ls H locs hl hP hS T hT X
  obtain ⟨v, st₀, t, T', L, h0, X', hL, e1, e2, ⟨⟨r, M', hv, hp, hW'⟩, hz, hk⟩, stp⟩ := hr ls H locs hl hP hS T hT X
  cases hv
  rw [h0] at hz hk
  have sub : ∀ q, Ad E H.size q → Ad E (kS κ).heap.size q := by
    rintro q (z | z)
    · exact Or.inl z
    · exact Or.inr (Nat.le_trans hS.1 z)
  obtain ⟨t2, a1, b1⟩ := kk v M' hp ls T'.heap (locs ++ L) hl (by rw [e1]; exact hW') ⟨Nat.le_trans hS.1 (by rw [e1]; exact hz), fun q h1 h2 => by
      rw [e1, hk q (Nat.lt_of_lt_of_le h1 hS.1) (fun z => h2 (sub q z))]; exact hS.2.1 q h1 h2, fun q hq => by
      rcases List.mem_append.mp hq with h | h
      · exact hS.2.2 q h
      · exact sub _ (hL q h)⟩ T' rfl X'
  exact ⟨t2, stp t2 a1, b1⟩
theorem blindPc {args : List Value} {sz : Nat} : FrameBlind (va_Pc args (fun U => U.heap.size = sz ∧ Wp E M U.heap ∧ Kw E U ∧ Dd E)) := by
  intro a U g mk q
  obtain ⟨q0, q1, q2, q3, q4⟩ := q
  exact ⟨q0, q1, q2, ⟨va_K.moved (u := U) (U := U.calling g mk a) (Vm.Alike.refl U.vm) q3.1, NW_same (s := U) (U := U.calling g mk a) rfl q3.2⟩, q4⟩
theorem s_callV (C : Cx E κ cc nL own ret ht) {y : MethodName} {bytes : ByteArray} {maxL n ht' a index : Nat} {ret' : Option FieldType} {As rest : List Value} {post' : Option Value → Mm → Prop} (hd : decode cc pc = .ok (.invokevirtual index, 3)) (hy : Cy y bytes maxL ret' n) (hv : Cv y) (hlk : Lk own index y) (hct : Ct E y bytes maxL ret' ht' (zr E a :: As) M post') (hh : ht' + 1 ≤ ht) (ha : a < NID) (hka : kd a < 12) (hcl : (vwCl[kd a]?).map (fun q => q.1) = some y.cls) (hn : As.length = n) (hst : st = As.reverse ++ zr E a :: rest) (hcat : (rest.map fun v => v.category).sum ≤ 8)
    (kk : ∀ r M', post' r M' → Gm E κ post nL (pc + 3) lv (r.toList ++ rest) M') : Gm E κ post nL pc lv st M := by
  obtain ⟨hx, hb, hml, hown, hts, hKw, hD, hr, hlks, hR⟩ := C
  obtain ⟨y1, y2, y3, y4⟩ := hy
  refine s_run (rest := rest) (post' := post') (a := (Value.ref (aD E a) :: As).toArray) (fun ls H locs hl hP hS => ?_) kk
  have hpre : PreV (kS κ) H y.cls (aD E a) (va_Pc (zr E a :: As) (fun U => U.heap.size = H.size ∧ Wp E M U.heap ∧ Kw E U ∧ Dd E)) As := by
    refine ⟨blindPc, ?_, fun U hU hW => ⟨rfl, by rw [hU], by rw [hU]; exact hP, hKw.warm hW, hD⟩⟩
    cases hq : vwCl[kd a]? with
    | none => rw [hq] at hcl; cases hcl
    | some q =>
      rw [hq] at hcl
      have e : q.1 = y.cls := Option.some.inj hcl
      rw [← e]
      exact va_recv hKw.1 hP.1 hq (q0 := a) (fs := (List.range (nf (kd a))).map (fv (aD E) M a)) (by rw [wl_get ha]; simp only [cE, if_pos hka])
  have hroom : (rmH ht').frames + 1 ≤ (rmH ht).frames ∧ 8 + (maxL + 11) + (rmH ht').locals ≤ (rmH ht).locals := by
    simp only [rmH]; omega
  rw [← hR] at hroom
  rcases hlk with h | ⟨host, h⟩
  · exact va_runV (As := As) (rest := rest) ⟨hx, hb, hml, hown, hts⟩ (hct H.size) ⟨callB_of (ws := .code y bytes maxL ret' :: BG) (ws' := BG) n hts (goodBG y1) rfl rfl rfl (hts _ y2) (hts _ h) y3 hroom, hts _ hv.1, hts _ hv.2⟩ hpre rfl hn hl.1 hst (lv_room hcat) hd ⟨Nat.zero_le _, Nat.zero_le _⟩
  · exact va_runVN (As := As) (rest := rest) (C := y.cls) ⟨hx, hb, hml, hown, hts⟩ (hct H.size) ⟨va_cnB (ws := .code y bytes maxL ret' :: BG) (ws' := BG) n hts (goodBG y1) rfl rfl rfl (hKw.2 _ h) (hts _ y2) y3 hroom, hts _ hv.1, hts _ hv.2⟩ hpre rfl hn hl.1 hst (lv_room hcat) hd ⟨Nat.zero_le _, Nat.zero_le _⟩
theorem s_callS (C : Cx E κ cc nL own ret ht) {y : MethodName} {bytes : ByteArray} {maxL n ht' index : Nat} {ret' : Option FieldType} {As rest : List Value} {post' : Option Value → Mm → Prop} (hd : decode cc pc = .ok (.invokestatic index, 3)) (hy : Cy y bytes maxL ret' n) (hs : Cs y) (hlk : Lk own index y) (hct : Ct E y bytes maxL ret' ht' As M post') (hh : ht' + 1 ≤ ht) (hn : As.length = n) (hst : st = As.reverse ++ rest) (hcat : (rest.map fun v => v.category).sum ≤ 8)
    (kk : ∀ r M', post' r M' → Gm E κ post nL (pc + 3) lv (r.toList ++ rest) M') : Gm E κ post nL pc lv st M := by
  obtain ⟨hx, hb, hml, hown, hts, hKw, hD, hr, hlks, hR⟩ := C
  obtain ⟨y1, y2, y3, y4⟩ := hy
  refine s_run (rest := rest) (post' := post') (a := As.toArray) (fun ls H locs hl hP hS => ?_) kk
  have hpre : PreS (kS κ) H (va_Pc As (fun U => U.heap.size = H.size ∧ Wp E M U.heap ∧ Kw E U ∧ Dd E)) As :=
    ⟨blindPc, fun U hU hW => ⟨rfl, by rw [hU], by rw [hU]; exact hP, hKw.warm hW, hD⟩⟩
  have hroom : (rmH ht').frames + 1 ≤ (rmH ht).frames ∧ 8 + (maxL + 11) + (rmH ht').locals ≤ (rmH ht).locals := by
    simp only [rmH]; omega
  rw [← hR] at hroom
  rcases hlk with h | ⟨host, h⟩
  · exact va_runS (As := As) (rest := rest) ⟨hx, hb, hml, hown, hts⟩ (hct H.size) ⟨callB_of (ws := .code y bytes maxL ret' :: BG) (ws' := BG) n hts (goodBG y1) rfl rfl rfl (hts _ y2) (hts _ h) y3 hroom, hts _ hs⟩ hpre rfl hn hl.1 hst (lv_room hcat) hd ⟨Nat.zero_le _, Nat.zero_le _⟩
  · exact va_runSN (As := As) (rest := rest) ⟨hx, hb, hml, hown, hts⟩ (hct H.size) ⟨va_cnB (ws := .code y bytes maxL ret' :: BG) (ws' := BG) n hts (goodBG y1) rfl rfl rfl (hKw.2 _ h) (hts _ y2) y3 hroom, hts _ hs, trivial⟩ hpre rfl hn hl.1 hst (lv_room hcat) hd ⟨Nat.zero_le _, Nat.zero_le _⟩
/-- an answer that is a number; nothing answered -/
def pI (Q : Int → Mm → Prop) : Option Value → Mm → Prop := fun r M' => ∃ z, r = some (zi z) ∧ Q z M'
def pV (Q : Mm → Prop) : Option Value → Mm → Prop := fun r M' => r = none ∧ Q M'
theorem k_I {Q : Int → Mm → Prop} {rest : List Value} (kk : ∀ z M', Q z M' → Gm E κ post nL pc lv (zi z :: rest) M') : ∀ r M', pI Q r M' → Gm E κ post nL pc lv (r.toList ++ rest) M' := by
  rintro r M' ⟨z, rfl, h⟩
  exact kk z M' h
theorem k_V {Q : Mm → Prop} {rest : List Value} (kk : ∀ M', Q M' → Gm E κ post nL pc lv rest M') : ∀ r M', pV Q r M' → Gm E κ post nL pc lv (r.toList ++ rest) M' := by
  rintro r M' ⟨rfl, h⟩
  exact kk M' h
theorem s_callV0 (C : Cx E κ cc nL own ret ht) {y : MethodName} {bytes : ByteArray} {maxL ht' a index : Nat} {ret' : Option FieldType} {rest : List Value} {post' : Option Value → Mm → Prop} (hd : decode cc pc = .ok (.invokevirtual index, 3)) (hy : Cy y bytes maxL ret' 0) (hv : Cv y) (hlk : Lk own index y) (hct : Ct E y bytes maxL ret' ht' [zr E a] M post') (hh : ht' + 1 ≤ ht) (ha : a < NID) (hka : kd a < 12) (hcl : (vwCl[kd a]?).map (fun q => q.1) = some y.cls) (hcat : (rest.map fun v => v.category).sum ≤ 8)
    (kk : ∀ r M', post' r M' → Gm E κ post nL (pc + 3) lv (r.toList ++ rest) M') : Gm E κ post nL pc lv (zr E a :: rest) M := s_callV (As := []) C hd hy hv hlk hct hh ha hka hcl rfl rfl hcat kk
theorem s_callS0 (C : Cx E κ cc nL own ret ht) {y : MethodName} {bytes : ByteArray} {maxL ht' index : Nat} {ret' : Option FieldType} {rest : List Value} {post' : Option Value → Mm → Prop} (hd : decode cc pc = .ok (.invokestatic index, 3)) (hy : Cy y bytes maxL ret' 0) (hv : Cs y) (hlk : Lk own index y) (hct : Ct E y bytes maxL ret' ht' [] M post') (hh : ht' + 1 ≤ ht) (hcat : (rest.map fun v => v.category).sum ≤ 8)
    (kk : ∀ r M', post' r M' → Gm E κ post nL (pc + 3) lv (r.toList ++ rest) M') : Gm E κ post nL pc lv (rest) M := s_callS (As := []) C hd hy hv hlk hct hh rfl rfl hcat kk
theorem s_callV1 (C : Cx E κ cc nL own ret ht) {y : MethodName} {bytes : ByteArray} {maxL ht' a index : Nat} {ret' : Option FieldType} {rest : List Value} {post' : Option Value → Mm → Prop} {x1 : Value} (hd : decode cc pc = .ok (.invokevirtual index, 3)) (hy : Cy y bytes maxL ret' 1) (hv : Cv y) (hlk : Lk own index y) (hct : Ct E y bytes maxL ret' ht' [zr E a, x1] M post') (hh : ht' + 1 ≤ ht) (ha : a < NID) (hka : kd a < 12) (hcl : (vwCl[kd a]?).map (fun q => q.1) = some y.cls) (hcat : (rest.map fun v => v.category).sum ≤ 8)
    (kk : ∀ r M', post' r M' → Gm E κ post nL (pc + 3) lv (r.toList ++ rest) M') : Gm E κ post nL pc lv (x1 :: zr E a :: rest) M := s_callV (As := [x1]) C hd hy hv hlk hct hh ha hka hcl rfl rfl hcat kk
theorem s_callS1 (C : Cx E κ cc nL own ret ht) {y : MethodName} {bytes : ByteArray} {maxL ht' index : Nat} {ret' : Option FieldType} {rest : List Value} {post' : Option Value → Mm → Prop} {x1 : Value} (hd : decode cc pc = .ok (.invokestatic index, 3)) (hy : Cy y bytes maxL ret' 1) (hv : Cs y) (hlk : Lk own index y) (hct : Ct E y bytes maxL ret' ht' [x1] M post') (hh : ht' + 1 ≤ ht) (hcat : (rest.map fun v => v.category).sum ≤ 8)
    (kk : ∀ r M', post' r M' → Gm E κ post nL (pc + 3) lv (r.toList ++ rest) M') : Gm E κ post nL pc lv (x1 :: rest) M := s_callS (As := [x1]) C hd hy hv hlk hct hh rfl rfl hcat kk
theorem s_callV2 (C : Cx E κ cc nL own ret ht) {y : MethodName} {bytes : ByteArray} {maxL ht' a index : Nat} {ret' : Option FieldType} {rest : List Value} {post' : Option Value → Mm → Prop} {x1 x2 : Value} (hd : decode cc pc = .ok (.invokevirtual index, 3)) (hy : Cy y bytes maxL ret' 2) (hv : Cv y) (hlk : Lk own index y) (hct : Ct E y bytes maxL ret' ht' [zr E a, x1, x2] M post') (hh : ht' + 1 ≤ ht) (ha : a < NID) (hka : kd a < 12) (hcl : (vwCl[kd a]?).map (fun q => q.1) = some y.cls) (hcat : (rest.map fun v => v.category).sum ≤ 8)
    (kk : ∀ r M', post' r M' → Gm E κ post nL (pc + 3) lv (r.toList ++ rest) M') : Gm E κ post nL pc lv (x2 :: x1 :: zr E a :: rest) M := s_callV (As := [x1, x2]) C hd hy hv hlk hct hh ha hka hcl rfl rfl hcat kk
theorem s_callS2 (C : Cx E κ cc nL own ret ht) {y : MethodName} {bytes : ByteArray} {maxL ht' index : Nat} {ret' : Option FieldType} {rest : List Value} {post' : Option Value → Mm → Prop} {x1 x2 : Value} (hd : decode cc pc = .ok (.invokestatic index, 3)) (hy : Cy y bytes maxL ret' 2) (hv : Cs y) (hlk : Lk own index y) (hct : Ct E y bytes maxL ret' ht' [x1, x2] M post') (hh : ht' + 1 ≤ ht) (hcat : (rest.map fun v => v.category).sum ≤ 8)
    (kk : ∀ r M', post' r M' → Gm E κ post nL (pc + 3) lv (r.toList ++ rest) M') : Gm E κ post nL pc lv (x2 :: x1 :: rest) M := s_callS (As := [x1, x2]) C hd hy hv hlk hct hh rfl rfl hcat kk
theorem s_callV3 (C : Cx E κ cc nL own ret ht) {y : MethodName} {bytes : ByteArray} {maxL ht' a index : Nat} {ret' : Option FieldType} {rest : List Value} {post' : Option Value → Mm → Prop} {x1 x2 x3 : Value} (hd : decode cc pc = .ok (.invokevirtual index, 3)) (hy : Cy y bytes maxL ret' 3) (hv : Cv y) (hlk : Lk own index y) (hct : Ct E y bytes maxL ret' ht' [zr E a, x1, x2, x3] M post') (hh : ht' + 1 ≤ ht) (ha : a < NID) (hka : kd a < 12) (hcl : (vwCl[kd a]?).map (fun q => q.1) = some y.cls) (hcat : (rest.map fun v => v.category).sum ≤ 8)
    (kk : ∀ r M', post' r M' → Gm E κ post nL (pc + 3) lv (r.toList ++ rest) M') : Gm E κ post nL pc lv (x3 :: x2 :: x1 :: zr E a :: rest) M := s_callV (As := [x1, x2, x3]) C hd hy hv hlk hct hh ha hka hcl rfl rfl hcat kk
theorem s_callS3 (C : Cx E κ cc nL own ret ht) {y : MethodName} {bytes : ByteArray} {maxL ht' index : Nat} {ret' : Option FieldType} {rest : List Value} {post' : Option Value → Mm → Prop} {x1 x2 x3 : Value} (hd : decode cc pc = .ok (.invokestatic index, 3)) (hy : Cy y bytes maxL ret' 3) (hv : Cs y) (hlk : Lk own index y) (hct : Ct E y bytes maxL ret' ht' [x1, x2, x3] M post') (hh : ht' + 1 ≤ ht) (hcat : (rest.map fun v => v.category).sum ≤ 8)
    (kk : ∀ r M', post' r M' → Gm E κ post nL (pc + 3) lv (r.toList ++ rest) M') : Gm E κ post nL pc lv (x3 :: x2 :: x1 :: rest) M := s_callS (As := [x1, x2, x3]) C hd hy hv hlk hct hh rfl rfl hcat kk
theorem s_callV4 (C : Cx E κ cc nL own ret ht) {y : MethodName} {bytes : ByteArray} {maxL ht' a index : Nat} {ret' : Option FieldType} {rest : List Value} {post' : Option Value → Mm → Prop} {x1 x2 x3 x4 : Value} (hd : decode cc pc = .ok (.invokevirtual index, 3)) (hy : Cy y bytes maxL ret' 4) (hv : Cv y) (hlk : Lk own index y) (hct : Ct E y bytes maxL ret' ht' [zr E a, x1, x2, x3, x4] M post') (hh : ht' + 1 ≤ ht) (ha : a < NID) (hka : kd a < 12) (hcl : (vwCl[kd a]?).map (fun q => q.1) = some y.cls) (hcat : (rest.map fun v => v.category).sum ≤ 8)
    (kk : ∀ r M', post' r M' → Gm E κ post nL (pc + 3) lv (r.toList ++ rest) M') : Gm E κ post nL pc lv (x4 :: x3 :: x2 :: x1 :: zr E a :: rest) M := s_callV (As := [x1, x2, x3, x4]) C hd hy hv hlk hct hh ha hka hcl rfl rfl hcat kk
theorem s_callS4 (C : Cx E κ cc nL own ret ht) {y : MethodName} {bytes : ByteArray} {maxL ht' index : Nat} {ret' : Option FieldType} {rest : List Value} {post' : Option Value → Mm → Prop} {x1 x2 x3 x4 : Value} (hd : decode cc pc = .ok (.invokestatic index, 3)) (hy : Cy y bytes maxL ret' 4) (hv : Cs y) (hlk : Lk own index y) (hct : Ct E y bytes maxL ret' ht' [x1, x2, x3, x4] M post') (hh : ht' + 1 ≤ ht) (hcat : (rest.map fun v => v.category).sum ≤ 8)
    (kk : ∀ r M', post' r M' → Gm E κ post nL (pc + 3) lv (r.toList ++ rest) M') : Gm E κ post nL pc lv (x4 :: x3 :: x2 :: x1 :: rest) M := s_callS (As := [x1, x2, x3, x4]) C hd hy hv hlk hct hh rfl rfl hcat kk
theorem s_callV5 (C : Cx E κ cc nL own ret ht) {y : MethodName} {bytes : ByteArray} {maxL ht' a index : Nat} {ret' : Option FieldType} {rest : List Value} {post' : Option Value → Mm → Prop} {x1 x2 x3 x4 x5 : Value} (hd : decode cc pc = .ok (.invokevirtual index, 3)) (hy : Cy y bytes maxL ret' 5) (hv : Cv y) (hlk : Lk own index y) (hct : Ct E y bytes maxL ret' ht' [zr E a, x1, x2, x3, x4, x5] M post') (hh : ht' + 1 ≤ ht) (ha : a < NID) (hka : kd a < 12) (hcl : (vwCl[kd a]?).map (fun q => q.1) = some y.cls) (hcat : (rest.map fun v => v.category).sum ≤ 8)
    (kk : ∀ r M', post' r M' → Gm E κ post nL (pc + 3) lv (r.toList ++ rest) M') : Gm E κ post nL pc lv (x5 :: x4 :: x3 :: x2 :: x1 :: zr E a :: rest) M := s_callV (As := [x1, x2, x3, x4, x5]) C hd hy hv hlk hct hh ha hka hcl rfl rfl hcat kk
theorem s_callS5 (C : Cx E κ cc nL own ret ht) {y : MethodName} {bytes : ByteArray} {maxL ht' index : Nat} {ret' : Option FieldType} {rest : List Value} {post' : Option Value → Mm → Prop} {x1 x2 x3 x4 x5 : Value} (hd : decode cc pc = .ok (.invokestatic index, 3)) (hy : Cy y bytes maxL ret' 5) (hv : Cs y) (hlk : Lk own index y) (hct : Ct E y bytes maxL ret' ht' [x1, x2, x3, x4, x5] M post') (hh : ht' + 1 ≤ ht) (hcat : (rest.map fun v => v.category).sum ≤ 8)
    (kk : ∀ r M', post' r M' → Gm E κ post nL (pc + 3) lv (r.toList ++ rest) M') : Gm E κ post nL pc lv (x5 :: x4 :: x3 :: x2 :: x1 :: rest) M := s_callS (As := [x1, x2, x3, x4, x5]) C hd hy hv hlk hct hh rfl rfl hcat kk
theorem s_callV6 (C : Cx E κ cc nL own ret ht) {y : MethodName} {bytes : ByteArray} {maxL ht' a index : Nat} {ret' : Option FieldType} {rest : List Value} {post' : Option Value → Mm → Prop} {x1 x2 x3 x4 x5 x6 : Value} (hd : decode cc pc = .ok (.invokevirtual index, 3)) (hy : Cy y bytes maxL ret' 6) (hv : Cv y) (hlk : Lk own index y) (hct : Ct E y bytes maxL ret' ht' [zr E a, x1, x2, x3, x4, x5, x6] M post') (hh : ht' + 1 ≤ ht) (ha : a < NID) (hka : kd a < 12) (hcl : (vwCl[kd a]?).map (fun q => q.1) = some y.cls) (hcat : (rest.map fun v => v.category).sum ≤ 8)
    (kk : ∀ r M', post' r M' → Gm E κ post nL (pc + 3) lv (r.toList ++ rest) M') : Gm E κ post nL pc lv (x6 :: x5 :: x4 :: x3 :: x2 :: x1 :: zr E a :: rest) M := s_callV (As := [x1, x2, x3, x4, x5, x6]) C hd hy hv hlk hct hh ha hka hcl rfl rfl hcat kk
theorem s_callS6 (C : Cx E κ cc nL own ret ht) {y : MethodName} {bytes : ByteArray} {maxL ht' index : Nat} {ret' : Option FieldType} {rest : List Value} {post' : Option Value → Mm → Prop} {x1 x2 x3 x4 x5 x6 : Value} (hd : decode cc pc = .ok (.invokestatic index, 3)) (hy : Cy y bytes maxL ret' 6) (hv : Cs y) (hlk : Lk own index y) (hct : Ct E y bytes maxL ret' ht' [x1, x2, x3, x4, x5, x6] M post') (hh : ht' + 1 ≤ ht) (hcat : (rest.map fun v => v.category).sum ≤ 8)
    (kk : ∀ r M', post' r M' → Gm E κ post nL (pc + 3) lv (r.toList ++ rest) M') : Gm E κ post nL pc lv (x6 :: x5 :: x4 :: x3 :: x2 :: x1 :: rest) M := s_callS (As := [x1, x2, x3, x4, x5, x6]) C hd hy hv hlk hct hh rfl rfl hcat kk
/-- a number answered, nothing changed -/
def pP (M : Mm) (Q : Int → Prop) : Option Value → Mm → Prop := fun r M' => ∃ z, r = some (zi z) ∧ M' = M ∧ Q z
theorem k_P {Q : Int → Prop} {rest : List Value} (kk : ∀ z, Q z → Gm E κ post nL pc lv (zi z :: rest) M) : ∀ r M', pP M Q r M' → Gm E κ post nL pc lv (r.toList ++ rest) M' := by
  rintro r M' ⟨z, rfl, rfl, h⟩
  exact kk z h
theorem s_min (C : Cx E κ cc nL own ret ht) {index : Nat} {x y : Int} (hd : decode cc pc = .ok (.invokestatic index, 3)) (hl : Cond.methodLink own index Lib.Math.min.name ∈ BG) (h1 : Cond.static Lib.Math.min.name ∈ BG) (h2 : Cond.initialized "java/lang/Math" ∈ BG) (h3 : Cond.code Lib.Math.min.name Lib.Math.min.code 2 (some .int) ∈ BG) (hh : 1 ≤ ht) (hcat : (st.map fun v => v.category).sum ≤ 8) (hx : rg x) (hy : rg y) (k : Gm E κ post nL (pc + 3) lv (zi (if y < x then y else x) :: st) M) : Gm E κ post nL pc lv (zi y :: zi x :: st) M := by
  intro ls H locs h hP hS
  obtain ⟨hx0, hb, hml, hown, hts, hKw, hD, hr, hlks, hR⟩ := C
  refine va_mmin hx0 hb (by rw [hml, h.1]) hown (hts _ hl) (hts _ h1) (hts _ h2) (hts _ h3) (by rw [hR]; exact hh) (by rw [hR]; simp only [rmH]; omega) (by rw [hR]; exact Nat.zero_le _) (by rw [hR]; exact Nat.zero_le _) hd ?_
  have e : (if Int32.ofInt y < Int32.ofInt x then Int32.ofInt y else Int32.ofInt x) = Int32.ofInt (if y < x then y else x) := by
    by_cases c : y < x
    · rw [if_pos ((ofInt_lt hy hx).mpr c), if_pos c]
    · rw [if_neg (fun q => c ((ofInt_lt hy hx).mp q)), if_neg c]
  rw [e]
  exact k ls H locs h hP hS
end FC
end
