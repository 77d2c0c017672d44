section
-- ===== PART A: goes FIRST, ahead of the names: the tables' words, and 'selects' of the private methods out of them =====
/-- a private method of a class that the tables say can be made, by its rows of tables_1 -/
def lw_okq (q : MethodName × Nat) : Prop := (q.1.cls ≠ "java/lang/invoke/MethodHandle" ∧ q.1.cls ≠ "java/lang/invoke/VarHandle") ∧ Cond.instantiable q.1.cls q.2 ∈ tables_1 ∧ Cond.privateMethod q.1 ∈ tables_1 ∧ Cond.instanceMethod q.1 ∈ tables_1
theorem lw_p0 : lw_okq (⟨"ChildCourt", "faulty", "(I)I"⟩, 7) := ⟨⟨by decide +kernel, by decide +kernel⟩, List.mem_of_getElem? (i := 12) (by decide +kernel), List.mem_of_getElem? (i := 229) (by decide +kernel), List.mem_of_getElem? (i := 230) (by decide +kernel)⟩
theorem lw_p1 : lw_okq (⟨"ChildCourt$Text", "goesOn", "(I)Z"⟩, 3) := ⟨⟨by decide +kernel, by decide +kernel⟩, List.mem_of_getElem? (i := 22) (by decide +kernel), List.mem_of_getElem? (i := 240) (by decide +kernel), List.mem_of_getElem? (i := 241) (by decide +kernel)⟩
theorem lw_p2 : lw_okq (⟨"ChildCourt$Text", "goesOnInMinutes", "(I)Z"⟩, 3) := ⟨⟨by decide +kernel, by decide +kernel⟩, List.mem_of_getElem? (i := 22) (by decide +kernel), List.mem_of_getElem? (i := 244) (by decide +kernel), List.mem_of_getElem? (i := 245) (by decide +kernel)⟩
theorem lw_p3 : lw_okq (⟨"ChildCourt$Text", "isDigit", "(III)Z"⟩, 3) := ⟨⟨by decide +kernel, by decide +kernel⟩, List.mem_of_getElem? (i := 22) (by decide +kernel), List.mem_of_getElem? (i := 248) (by decide +kernel), List.mem_of_getElem? (i := 249) (by decide +kernel)⟩
theorem lw_p4 : lw_okq (⟨"ChildCourt$Text", "digit", "(I)I"⟩, 3) := ⟨⟨by decide +kernel, by decide +kernel⟩, List.mem_of_getElem? (i := 22) (by decide +kernel), List.mem_of_getElem? (i := 256) (by decide +kernel), List.mem_of_getElem? (i := 257) (by decide +kernel)⟩
theorem lw_p5 : lw_okq (⟨"ChildCourt$Text", "goesOnInJurors", "(I)Z"⟩, 3) := ⟨⟨by decide +kernel, by decide +kernel⟩, List.mem_of_getElem? (i := 22) (by decide +kernel), List.mem_of_getElem? (i := 260) (by decide +kernel), List.mem_of_getElem? (i := 261) (by decide +kernel)⟩
theorem lw_p6 : lw_okq (⟨"ChildCourt$Text", "kindAt", "(I)I"⟩, 3) := ⟨⟨by decide +kernel, by decide +kernel⟩, List.mem_of_getElem? (i := 22) (by decide +kernel), List.mem_of_getElem? (i := 264) (by decide +kernel), List.mem_of_getElem? (i := 265) (by decide +kernel)⟩
theorem lw_p7 : lw_okq (⟨"ChildCourt$Text", "goesOnInCases", "(I)Z"⟩, 3) := ⟨⟨by decide +kernel, by decide +kernel⟩, List.mem_of_getElem? (i := 22) (by decide +kernel), List.mem_of_getElem? (i := 268) (by decide +kernel), List.mem_of_getElem? (i := 269) (by decide +kernel)⟩
theorem lw_p8 : lw_okq (⟨"ChildCourt$Text", "isWhole", "()Z"⟩, 3) := ⟨⟨by decide +kernel, by decide +kernel⟩, List.mem_of_getElem? (i := 22) (by decide +kernel), List.mem_of_getElem? (i := 272) (by decide +kernel), List.mem_of_getElem? (i := 273) (by decide +kernel)⟩
theorem lw_p9 : lw_okq (⟨"ChildCourt", "takeOrder", "(LChildCourt$Sheet;III)I"⟩, 7) := ⟨⟨by decide +kernel, by decide +kernel⟩, List.mem_of_getElem? (i := 12) (by decide +kernel), List.mem_of_getElem? (i := 347) (by decide +kernel), List.mem_of_getElem? (i := 348) (by decide +kernel)⟩
theorem lw_p10 : lw_okq (⟨"ChildCourt$Sitting", "judge", "(IZ)V"⟩, 12) := ⟨⟨by decide +kernel, by decide +kernel⟩, List.mem_of_getElem? (i := 112) (by decide +kernel), List.mem_of_getElem? (i := 367) (by decide +kernel), List.mem_of_getElem? (i := 368) (by decide +kernel)⟩
theorem lw_p11 : lw_okq (⟨"ChildCourt$Sitting", "voters", "()I"⟩, 12) := ⟨⟨by decide +kernel, by decide +kernel⟩, List.mem_of_getElem? (i := 112) (by decide +kernel), List.mem_of_getElem? (i := 376) (by decide +kernel), List.mem_of_getElem? (i := 377) (by decide +kernel)⟩
theorem lw_p12 : lw_okq (⟨"ChildCourt$Sitting", "votesGuilty", "(IZI)Z"⟩, 12) := ⟨⟨by decide +kernel, by decide +kernel⟩, List.mem_of_getElem? (i := 112) (by decide +kernel), List.mem_of_getElem? (i := 380) (by decide +kernel), List.mem_of_getElem? (i := 381) (by decide +kernel)⟩
theorem lw_p13 : lw_okq (⟨"ChildCourt", "byOrderOfHighest", "(II)I"⟩, 7) := ⟨⟨by decide +kernel, by decide +kernel⟩, List.mem_of_getElem? (i := 12) (by decide +kernel), List.mem_of_getElem? (i := 399) (by decide +kernel), List.mem_of_getElem? (i := 400) (by decide +kernel)⟩
theorem lw_p14 : lw_okq (⟨"ChildCourt", "findOrderOfHighest", "(I)I"⟩, 7) := ⟨⟨by decide +kernel, by decide +kernel⟩, List.mem_of_getElem? (i := 12) (by decide +kernel), List.mem_of_getElem? (i := 403) (by decide +kernel), List.mem_of_getElem? (i := 404) (by decide +kernel)⟩
theorem lw_p15 : lw_okq (⟨"ChildCourt", "prepareByNumbers", "()V"⟩, 7) := ⟨⟨by decide +kernel, by decide +kernel⟩, List.mem_of_getElem? (i := 12) (by decide +kernel), List.mem_of_getElem? (i := 407) (by decide +kernel), List.mem_of_getElem? (i := 408) (by decide +kernel)⟩
def lw_privs_1 : List (MethodName × Nat) := [(⟨"ChildCourt", "faulty", "(I)I"⟩, 7), (⟨"ChildCourt$Text", "goesOn", "(I)Z"⟩, 3), (⟨"ChildCourt$Text", "goesOnInMinutes", "(I)Z"⟩, 3), (⟨"ChildCourt$Text", "isDigit", "(III)Z"⟩, 3), (⟨"ChildCourt$Text", "digit", "(I)I"⟩, 3), (⟨"ChildCourt$Text", "goesOnInJurors", "(I)Z"⟩, 3), (⟨"ChildCourt$Text", "kindAt", "(I)I"⟩, 3), (⟨"ChildCourt$Text", "goesOnInCases", "(I)Z"⟩, 3), (⟨"ChildCourt$Text", "isWhole", "()Z"⟩, 3), (⟨"ChildCourt", "takeOrder", "(LChildCourt$Sheet;III)I"⟩, 7), (⟨"ChildCourt$Sitting", "judge", "(IZ)V"⟩, 12), (⟨"ChildCourt$Sitting", "voters", "()I"⟩, 12), (⟨"ChildCourt$Sitting", "votesGuilty", "(IZI)Z"⟩, 12), (⟨"ChildCourt", "byOrderOfHighest", "(II)I"⟩, 7), (⟨"ChildCourt", "findOrderOfHighest", "(I)I"⟩, 7), (⟨"ChildCourt", "prepareByNumbers", "()V"⟩, 7)]
theorem lw_r1 : ∀ q ∈ lw_privs_1, lw_okq q := List.forall_mem_cons.mpr ⟨lw_p0, List.forall_mem_cons.mpr ⟨lw_p1, List.forall_mem_cons.mpr ⟨lw_p2, List.forall_mem_cons.mpr ⟨lw_p3, List.forall_mem_cons.mpr ⟨lw_p4, List.forall_mem_cons.mpr ⟨lw_p5, List.forall_mem_cons.mpr ⟨lw_p6, List.forall_mem_cons.mpr ⟨lw_p7, List.forall_mem_cons.mpr ⟨lw_p8, List.forall_mem_cons.mpr ⟨lw_p9, List.forall_mem_cons.mpr ⟨lw_p10, List.forall_mem_cons.mpr ⟨lw_p11, List.forall_mem_cons.mpr ⟨lw_p12, List.forall_mem_cons.mpr ⟨lw_p13, List.forall_mem_cons.mpr ⟨lw_p14, List.forall_mem_cons.mpr ⟨lw_p15, fun _ h => absurd h List.not_mem_nil⟩⟩⟩⟩⟩⟩⟩⟩⟩⟩⟩⟩⟩⟩⟩⟩
theorem lw_p16 : lw_okq (⟨"ChildCourt$Sitting", "swapInOrder", "(II)V"⟩, 12) := ⟨⟨by decide +kernel, by decide +kernel⟩, List.mem_of_getElem? (i := 112) (by decide +kernel), List.mem_of_getElem? (i := 416) (by decide +kernel), List.mem_of_getElem? (i := 417) (by decide +kernel)⟩
theorem lw_p17 : lw_okq (⟨"ChildCourt", "fewestSweets", "(I)I"⟩, 7) := ⟨⟨by decide +kernel, by decide +kernel⟩, List.mem_of_getElem? (i := 12) (by decide +kernel), List.mem_of_getElem? (i := 428) (by decide +kernel), List.mem_of_getElem? (i := 429) (by decide +kernel)⟩
theorem lw_p18 : lw_okq (⟨"ChildCourt", "mostByCourtsStrike", "(I)I"⟩, 7) := ⟨⟨by decide +kernel, by decide +kernel⟩, List.mem_of_getElem? (i := 12) (by decide +kernel), List.mem_of_getElem? (i := 440) (by decide +kernel), List.mem_of_getElem? (i := 441) (by decide +kernel)⟩
theorem lw_p19 : lw_okq (⟨"ChildCourt", "sentencedIfStruck", "(I)I"⟩, 7) := ⟨⟨by decide +kernel, by decide +kernel⟩, List.mem_of_getElem? (i := 12) (by decide +kernel), List.mem_of_getElem? (i := 444) (by decide +kernel), List.mem_of_getElem? (i := 445) (by decide +kernel)⟩
theorem lw_p20 : lw_okq (⟨"ChildCourt", "isAsRead", "()Z"⟩, 7) := ⟨⟨by decide +kernel, by decide +kernel⟩, List.mem_of_getElem? (i := 12) (by decide +kernel), List.mem_of_getElem? (i := 467) (by decide +kernel), List.mem_of_getElem? (i := 468) (by decide +kernel)⟩
theorem lw_p21 : lw_okq (⟨"ChildCourt", "sweetTelling", "(I)I"⟩, 7) := ⟨⟨by decide +kernel, by decide +kernel⟩, List.mem_of_getElem? (i := 12) (by decide +kernel), List.mem_of_getElem? (i := 523) (by decide +kernel), List.mem_of_getElem? (i := 524) (by decide +kernel)⟩
theorem lw_p22 : lw_okq (⟨"ChildCourt", "leaveInTrace", "(I)V"⟩, 7) := ⟨⟨by decide +kernel, by decide +kernel⟩, List.mem_of_getElem? (i := 12) (by decide +kernel), List.mem_of_getElem? (i := 527) (by decide +kernel), List.mem_of_getElem? (i := 528) (by decide +kernel)⟩
theorem lw_p23 : lw_okq (⟨"ChildCourt", "hungryTelling", "(I)I"⟩, 7) := ⟨⟨by decide +kernel, by decide +kernel⟩, List.mem_of_getElem? (i := 12) (by decide +kernel), List.mem_of_getElem? (i := 531) (by decide +kernel), List.mem_of_getElem? (i := 532) (by decide +kernel)⟩
theorem lw_p24 : lw_okq (⟨"ChildCourt", "childTelling", "(I)I"⟩, 7) := ⟨⟨by decide +kernel, by decide +kernel⟩, List.mem_of_getElem? (i := 12) (by decide +kernel), List.mem_of_getElem? (i := 535) (by decide +kernel), List.mem_of_getElem? (i := 536) (by decide +kernel)⟩
theorem lw_p25 : lw_okq (⟨"ChildCourtModel", "against", "(IIII)I"⟩, 33) := ⟨⟨by decide +kernel, by decide +kernel⟩, List.mem_of_getElem? (i := 559) (by decide +kernel), List.mem_of_getElem? (i := 679) (by decide +kernel), List.mem_of_getElem? (i := 680) (by decide +kernel)⟩
theorem lw_p26 : lw_okq (⟨"ChildCourtModel", "fails", "(I)I"⟩, 33) := ⟨⟨by decide +kernel, by decide +kernel⟩, List.mem_of_getElem? (i := 559) (by decide +kernel), List.mem_of_getElem? (i := 683) (by decide +kernel), List.mem_of_getElem? (i := 684) (by decide +kernel)⟩
theorem lw_p27 : lw_okq (⟨"ChildCourtModel", "readCourt", "(I)Z"⟩, 33) := ⟨⟨by decide +kernel, by decide +kernel⟩, List.mem_of_getElem? (i := 559) (by decide +kernel), List.mem_of_getElem? (i := 687) (by decide +kernel), List.mem_of_getElem? (i := 688) (by decide +kernel)⟩
theorem lw_p28 : lw_okq (⟨"ChildCourtModel", "isSign", "(II)Z"⟩, 33) := ⟨⟨by decide +kernel, by decide +kernel⟩, List.mem_of_getElem? (i := 559) (by decide +kernel), List.mem_of_getElem? (i := 691) (by decide +kernel), List.mem_of_getElem? (i := 692) (by decide +kernel)⟩
theorem lw_p29 : lw_okq (⟨"ChildCourtModel", "readTheMinutes", "(I)Z"⟩, 33) := ⟨⟨by decide +kernel, by decide +kernel⟩, List.mem_of_getElem? (i := 559) (by decide +kernel), List.mem_of_getElem? (i := 695) (by decide +kernel), List.mem_of_getElem? (i := 696) (by decide +kernel)⟩
theorem lw_p30 : lw_okq (⟨"ChildCourtModel", "digit", "(III)I"⟩, 33) := ⟨⟨by decide +kernel, by decide +kernel⟩, List.mem_of_getElem? (i := 559) (by decide +kernel), List.mem_of_getElem? (i := 699) (by decide +kernel), List.mem_of_getElem? (i := 700) (by decide +kernel)⟩
theorem lw_p31 : lw_okq (⟨"ChildCourtModel", "readOneJuror", "(I)Z"⟩, 33) := ⟨⟨by decide +kernel, by decide +kernel⟩, List.mem_of_getElem? (i := 559) (by decide +kernel), List.mem_of_getElem? (i := 703) (by decide +kernel), List.mem_of_getElem? (i := 704) (by decide +kernel)⟩
def lw_privs_2 : List (MethodName × Nat) := [(⟨"ChildCourt$Sitting", "swapInOrder", "(II)V"⟩, 12), (⟨"ChildCourt", "fewestSweets", "(I)I"⟩, 7), (⟨"ChildCourt", "mostByCourtsStrike", "(I)I"⟩, 7), (⟨"ChildCourt", "sentencedIfStruck", "(I)I"⟩, 7), (⟨"ChildCourt", "isAsRead", "()Z"⟩, 7), (⟨"ChildCourt", "sweetTelling", "(I)I"⟩, 7), (⟨"ChildCourt", "leaveInTrace", "(I)V"⟩, 7), (⟨"ChildCourt", "hungryTelling", "(I)I"⟩, 7), (⟨"ChildCourt", "childTelling", "(I)I"⟩, 7), (⟨"ChildCourtModel", "against", "(IIII)I"⟩, 33), (⟨"ChildCourtModel", "fails", "(I)I"⟩, 33), (⟨"ChildCourtModel", "readCourt", "(I)Z"⟩, 33), (⟨"ChildCourtModel", "isSign", "(II)Z"⟩, 33), (⟨"ChildCourtModel", "readTheMinutes", "(I)Z"⟩, 33), (⟨"ChildCourtModel", "digit", "(III)I"⟩, 33), (⟨"ChildCourtModel", "readOneJuror", "(I)Z"⟩, 33)]
theorem lw_r2 : ∀ q ∈ lw_privs_2, lw_okq q := List.forall_mem_cons.mpr ⟨lw_p16, List.forall_mem_cons.mpr ⟨lw_p17, List.forall_mem_cons.mpr ⟨lw_p18, List.forall_mem_cons.mpr ⟨lw_p19, List.forall_mem_cons.mpr ⟨lw_p20, List.forall_mem_cons.mpr ⟨lw_p21, List.forall_mem_cons.mpr ⟨lw_p22, List.forall_mem_cons.mpr ⟨lw_p23, List.forall_mem_cons.mpr ⟨lw_p24, List.forall_mem_cons.mpr ⟨lw_p25, List.forall_mem_cons.mpr ⟨lw_p26, List.forall_mem_cons.mpr ⟨lw_p27, List.forall_mem_cons.mpr ⟨lw_p28, List.forall_mem_cons.mpr ⟨lw_p29, List.forall_mem_cons.mpr ⟨lw_p30, List.forall_mem_cons.mpr ⟨lw_p31, fun _ h => absurd h List.not_mem_nil⟩⟩⟩⟩⟩⟩⟩⟩⟩⟩⟩⟩⟩⟩⟩⟩
theorem lw_p32 : lw_okq (⟨"ChildCourtModel", "readOneCase", "(I)Z"⟩, 33) := ⟨⟨by decide +kernel, by decide +kernel⟩, List.mem_of_getElem? (i := 559) (by decide +kernel), List.mem_of_getElem? (i := 707) (by decide +kernel), List.mem_of_getElem? (i := 708) (by decide +kernel)⟩
theorem lw_p33 : lw_okq (⟨"ChildCourtModel", "isJuror", "(I)Z"⟩, 33) := ⟨⟨by decide +kernel, by decide +kernel⟩, List.mem_of_getElem? (i := 559) (by decide +kernel), List.mem_of_getElem? (i := 715) (by decide +kernel), List.mem_of_getElem? (i := 716) (by decide +kernel)⟩
theorem lw_p34 : lw_okq (⟨"ChildCourtModel", "isCase", "(I)Z"⟩, 33) := ⟨⟨by decide +kernel, by decide +kernel⟩, List.mem_of_getElem? (i := 559) (by decide +kernel), List.mem_of_getElem? (i := 723) (by decide +kernel), List.mem_of_getElem? (i := 724) (by decide +kernel)⟩
theorem lw_p35 : lw_okq (⟨"ChildCourtModel", "layRow", "(IIII)I"⟩, 33) := ⟨⟨by decide +kernel, by decide +kernel⟩, List.mem_of_getElem? (i := 559) (by decide +kernel), List.mem_of_getElem? (i := 747) (by decide +kernel), List.mem_of_getElem? (i := 748) (by decide +kernel)⟩
theorem lw_p36 : lw_okq (⟨"ChildCourtModel", "goRow", "()V"⟩, 33) := ⟨⟨by decide +kernel, by decide +kernel⟩, List.mem_of_getElem? (i := 559) (by decide +kernel), List.mem_of_getElem? (i := 751) (by decide +kernel), List.mem_of_getElem? (i := 752) (by decide +kernel)⟩
theorem lw_p37 : lw_okq (⟨"ChildCourtModel", "begin", "()V"⟩, 33) := ⟨⟨by decide +kernel, by decide +kernel⟩, List.mem_of_getElem? (i := 559) (by decide +kernel), List.mem_of_getElem? (i := 755) (by decide +kernel), List.mem_of_getElem? (i := 756) (by decide +kernel)⟩
theorem lw_p38 : lw_okq (⟨"ChildCourtModel", "tryCase", "(I)V"⟩, 33) := ⟨⟨by decide +kernel, by decide +kernel⟩, List.mem_of_getElem? (i := 559) (by decide +kernel), List.mem_of_getElem? (i := 759) (by decide +kernel), List.mem_of_getElem? (i := 760) (by decide +kernel)⟩
theorem lw_p39 : lw_okq (⟨"ChildCourtModel", "verdictOf", "(I)I"⟩, 33) := ⟨⟨by decide +kernel, by decide +kernel⟩, List.mem_of_getElem? (i := 559) (by decide +kernel), List.mem_of_getElem? (i := 763) (by decide +kernel), List.mem_of_getElem? (i := 764) (by decide +kernel)⟩
theorem lw_p40 : lw_okq (⟨"ChildCourtModel", "isAgainst", "(IIIZ)Z"⟩, 33) := ⟨⟨by decide +kernel, by decide +kernel⟩, List.mem_of_getElem? (i := 559) (by decide +kernel), List.mem_of_getElem? (i := 767) (by decide +kernel), List.mem_of_getElem? (i := 768) (by decide +kernel)⟩
theorem lw_p41 : lw_okq (⟨"ChildCourtModel", "isCrime", "(I)Z"⟩, 33) := ⟨⟨by decide +kernel, by decide +kernel⟩, List.mem_of_getElem? (i := 559) (by decide +kernel), List.mem_of_getElem? (i := 771) (by decide +kernel), List.mem_of_getElem? (i := 772) (by decide +kernel)⟩
theorem lw_p42 : lw_okq (⟨"ChildCourtModel", "sentenced", "()I"⟩, 33) := ⟨⟨by decide +kernel, by decide +kernel⟩, List.mem_of_getElem? (i := 559) (by decide +kernel), List.mem_of_getElem? (i := 775) (by decide +kernel), List.mem_of_getElem? (i := 776) (by decide +kernel)⟩
theorem lw_p43 : lw_okq (⟨"ChildCourtModel", "order", "(IZ)I"⟩, 33) := ⟨⟨by decide +kernel, by decide +kernel⟩, List.mem_of_getElem? (i := 559) (by decide +kernel), List.mem_of_getElem? (i := 787) (by decide +kernel), List.mem_of_getElem? (i := 788) (by decide +kernel)⟩
theorem lw_p44 : lw_okq (⟨"ChildCourtModel", "findOrder", "(Z)I"⟩, 33) := ⟨⟨by decide +kernel, by decide +kernel⟩, List.mem_of_getElem? (i := 559) (by decide +kernel), List.mem_of_getElem? (i := 791) (by decide +kernel), List.mem_of_getElem? (i := 792) (by decide +kernel)⟩
theorem lw_p45 : lw_okq (⟨"ChildCourtModel", "layNumbers", "()V"⟩, 33) := ⟨⟨by decide +kernel, by decide +kernel⟩, List.mem_of_getElem? (i := 559) (by decide +kernel), List.mem_of_getElem? (i := 795) (by decide +kernel), List.mem_of_getElem? (i := 796) (by decide +kernel)⟩
theorem lw_p46 : lw_okq (⟨"ChildCourtModel", "nextRow", "()Z"⟩, 33) := ⟨⟨by decide +kernel, by decide +kernel⟩, List.mem_of_getElem? (i := 559) (by decide +kernel), List.mem_of_getElem? (i := 799) (by decide +kernel), List.mem_of_getElem? (i := 800) (by decide +kernel)⟩
theorem lw_p47 : lw_okq (⟨"ChildCourtModel", "swap", "(II)V"⟩, 33) := ⟨⟨by decide +kernel, by decide +kernel⟩, List.mem_of_getElem? (i := 559) (by decide +kernel), List.mem_of_getElem? (i := 803) (by decide +kernel), List.mem_of_getElem? (i := 804) (by decide +kernel)⟩
def lw_privs_3 : List (MethodName × Nat) := [(⟨"ChildCourtModel", "readOneCase", "(I)Z"⟩, 33), (⟨"ChildCourtModel", "isJuror", "(I)Z"⟩, 33), (⟨"ChildCourtModel", "isCase", "(I)Z"⟩, 33), (⟨"ChildCourtModel", "layRow", "(IIII)I"⟩, 33), (⟨"ChildCourtModel", "goRow", "()V"⟩, 33), (⟨"ChildCourtModel", "begin", "()V"⟩, 33), (⟨"ChildCourtModel", "tryCase", "(I)V"⟩, 33), (⟨"ChildCourtModel", "verdictOf", "(I)I"⟩, 33), (⟨"ChildCourtModel", "isAgainst", "(IIIZ)Z"⟩, 33), (⟨"ChildCourtModel", "isCrime", "(I)Z"⟩, 33), (⟨"ChildCourtModel", "sentenced", "()I"⟩, 33), (⟨"ChildCourtModel", "order", "(IZ)I"⟩, 33), (⟨"ChildCourtModel", "findOrder", "(Z)I"⟩, 33), (⟨"ChildCourtModel", "layNumbers", "()V"⟩, 33), (⟨"ChildCourtModel", "nextRow", "()Z"⟩, 33), (⟨"ChildCourtModel", "swap", "(II)V"⟩, 33)]
theorem lw_r3 : ∀ q ∈ lw_privs_3, lw_okq q := List.forall_mem_cons.mpr ⟨lw_p32, List.forall_mem_cons.mpr ⟨lw_p33, List.forall_mem_cons.mpr ⟨lw_p34, List.forall_mem_cons.mpr ⟨lw_p35, List.forall_mem_cons.mpr ⟨lw_p36, List.forall_mem_cons.mpr ⟨lw_p37, List.forall_mem_cons.mpr ⟨lw_p38, List.forall_mem_cons.mpr ⟨lw_p39, List.forall_mem_cons.mpr ⟨lw_p40, List.forall_mem_cons.mpr ⟨lw_p41, List.forall_mem_cons.mpr ⟨lw_p42, List.forall_mem_cons.mpr ⟨lw_p43, List.forall_mem_cons.mpr ⟨lw_p44, List.forall_mem_cons.mpr ⟨lw_p45, List.forall_mem_cons.mpr ⟨lw_p46, List.forall_mem_cons.mpr ⟨lw_p47, fun _ h => absurd h List.not_mem_nil⟩⟩⟩⟩⟩⟩⟩⟩⟩⟩⟩⟩⟩⟩⟩⟩
theorem lw_p48 : lw_okq (⟨"ChildCourtModel", "sweets", "()I"⟩, 33) := ⟨⟨by decide +kernel, by decide +kernel⟩, List.mem_of_getElem? (i := 559) (by decide +kernel), List.mem_of_getElem? (i := 815) (by decide +kernel), List.mem_of_getElem? (i := 816) (by decide +kernel)⟩
theorem lw_p49 : lw_okq (⟨"ChildCourtModel", "laySweets", "(I)V"⟩, 33) := ⟨⟨by decide +kernel, by decide +kernel⟩, List.mem_of_getElem? (i := 559) (by decide +kernel), List.mem_of_getElem? (i := 822) (by decide +kernel), List.mem_of_getElem? (i := 823) (by decide +kernel)⟩
theorem lw_p50 : lw_okq (⟨"ChildCourtModel", "byNumbers", "()I"⟩, 33) := ⟨⟨by decide +kernel, by decide +kernel⟩, List.mem_of_getElem? (i := 559) (by decide +kernel), List.mem_of_getElem? (i := 830) (by decide +kernel), List.mem_of_getElem? (i := 831) (by decide +kernel)⟩
theorem lw_p51 : lw_okq (⟨"ChildCourtModel", "mostByCourt", "()I"⟩, 33) := ⟨⟨by decide +kernel, by decide +kernel⟩, List.mem_of_getElem? (i := 559) (by decide +kernel), List.mem_of_getElem? (i := 834) (by decide +kernel), List.mem_of_getElem? (i := 835) (by decide +kernel)⟩
theorem lw_p52 : lw_okq (⟨"ChildCourtModel", "areSo", "()Z"⟩, 33) := ⟨⟨by decide +kernel, by decide +kernel⟩, List.mem_of_getElem? (i := 559) (by decide +kernel), List.mem_of_getElem? (i := 854) (by decide +kernel), List.mem_of_getElem? (i := 855) (by decide +kernel)⟩
theorem lw_p53 : lw_okq (⟨"ChildCourtModel", "struck", "()I"⟩, 33) := ⟨⟨by decide +kernel, by decide +kernel⟩, List.mem_of_getElem? (i := 559) (by decide +kernel), List.mem_of_getElem? (i := 871) (by decide +kernel), List.mem_of_getElem? (i := 872) (by decide +kernel)⟩
theorem lw_p54 : lw_okq (⟨"ChildCourtModel", "layStruck", "(I)V"⟩, 33) := ⟨⟨by decide +kernel, by decide +kernel⟩, List.mem_of_getElem? (i := 559) (by decide +kernel), List.mem_of_getElem? (i := 875) (by decide +kernel), List.mem_of_getElem? (i := 876) (by decide +kernel)⟩
theorem lw_p55 : lw_okq (⟨"ChildCourtModel", "lost", "(I)J"⟩, 33) := ⟨⟨by decide +kernel, by decide +kernel⟩, List.mem_of_getElem? (i := 559) (by decide +kernel), List.mem_of_getElem? (i := 898) (by decide +kernel), List.mem_of_getElem? (i := 899) (by decide +kernel)⟩
theorem lw_p56 : lw_okq (⟨"ChildCourtModel", "begins", "(I)V"⟩, 33) := ⟨⟨by decide +kernel, by decide +kernel⟩, List.mem_of_getElem? (i := 559) (by decide +kernel), List.mem_of_getElem? (i := 910) (by decide +kernel), List.mem_of_getElem? (i := 911) (by decide +kernel)⟩
def lw_privs_4 : List (MethodName × Nat) := [(⟨"ChildCourtModel", "sweets", "()I"⟩, 33), (⟨"ChildCourtModel", "laySweets", "(I)V"⟩, 33), (⟨"ChildCourtModel", "byNumbers", "()I"⟩, 33), (⟨"ChildCourtModel", "mostByCourt", "()I"⟩, 33), (⟨"ChildCourtModel", "areSo", "()Z"⟩, 33), (⟨"ChildCourtModel", "struck", "()I"⟩, 33), (⟨"ChildCourtModel", "layStruck", "(I)V"⟩, 33), (⟨"ChildCourtModel", "lost", "(I)J"⟩, 33), (⟨"ChildCourtModel", "begins", "(I)V"⟩, 33)]
theorem lw_r4 : ∀ q ∈ lw_privs_4, lw_okq q := List.forall_mem_cons.mpr ⟨lw_p48, List.forall_mem_cons.mpr ⟨lw_p49, List.forall_mem_cons.mpr ⟨lw_p50, List.forall_mem_cons.mpr ⟨lw_p51, List.forall_mem_cons.mpr ⟨lw_p52, List.forall_mem_cons.mpr ⟨lw_p53, List.forall_mem_cons.mpr ⟨lw_p54, List.forall_mem_cons.mpr ⟨lw_p55, List.forall_mem_cons.mpr ⟨lw_p56, fun _ h => absurd h List.not_mem_nil⟩⟩⟩⟩⟩⟩⟩⟩⟩
def lw_privs : List (MethodName × Nat) := lw_privs_1 ++ (lw_privs_2 ++ (lw_privs_3 ++ (lw_privs_4)))
def lw_tbl : List Cond := k2_sels lw_privs ++ tables_1
theorem lw_privs_ok : ∀ q ∈ lw_privs, lw_okq q := by
  show ∀ q ∈ lw_privs_1 ++ (lw_privs_2 ++ (lw_privs_3 ++ (lw_privs_4))), lw_okq q
  exact List.forall_mem_append.mpr ⟨lw_r1, List.forall_mem_append.mpr ⟨lw_r2, List.forall_mem_append.mpr ⟨lw_r3, lw_r4⟩⟩⟩
-- ===== end of PART A; then your names; then what follows =====
end
section
def RX0 : String := "ChildCourt$Court"
def TX0 : u_T := fun k => match k with
  | 0 => ("ChildCourt$Court", "kind", "[I", true)
  | 1 => ("ChildCourt$Court", "age", "[I", true)
  | 2 => ("ChildCourt$Court", "deed", "[I", true)
  | 3 => ("ChildCourt$Court", "takes", "[I", true)
  | 4 => ("ChildCourt$Court", "weight", "[I", true)
  | 5 => ("ChildCourt$Court", "readCase", "[I", true)
  | 6 => ("ChildCourt$Court", "readHow", "[I", true)
  | 7 => ("ChildCourt$Court", "sits", "I", false)
  | 8 => ("ChildCourt$Court", "jurors", "I", false)
  | 9 => ("ChildCourt$Court", "cases", "I", false)
  | 10 => ("ChildCourt$Court", "law", "I", false)
  | 11 => ("ChildCourt$Court", "sweets", "I", false)
  | 12 => ("ChildCourt$Court", "struck", "I", false)
  | _ => ("ChildCourt$Court", "readings", "I", false)
def tyX0 : Nat → FieldType := fun k => match k with
  | 0 => .array .int
  | 1 => .array .int
  | 2 => .array .int
  | 3 => .array .int
  | 4 => .array .int
  | 5 => .array .int
  | 6 => .array .int
  | 7 => .int
  | 8 => .int
  | 9 => .int
  | 10 => .int
  | 11 => .int
  | 12 => .int
  | _ => .int
theorem nmX0 : ∀ a, a < 14 → ∀ b, b < 14 → a ≠ b → (TX0 a).2.1 ≠ (TX0 b).2.1 := by decide +kernel
theorem tyX0_ok : ∀ k, k < 14 → parseFieldDescriptor (TX0 k).2.2.1 = some (tyX0 k) := by decide +kernel
abbrev cX0_init : ByteArray := prog_2_method_1_code
def yX0_init : MethodName := ⟨RX0, "<init>", "()V"⟩
abbrev cX0_stands : ByteArray := prog_2_method_2_code
def yX0_stands : MethodName := ⟨RX0, "stands", "()Z"⟩
abbrev cX0_isJuror : ByteArray := prog_2_method_3_code
def yX0_isJuror : MethodName := ⟨RX0, "isJuror", "(I)Z"⟩
abbrev cX0_isCase : ByteArray := prog_2_method_4_code
def yX0_isCase : MethodName := ⟨RX0, "isCase", "(I)Z"⟩
abbrev cX0_makeAnew : ByteArray := prog_2_method_5_code
def yX0_makeAnew : MethodName := ⟨RX0, "makeAnew", "(LChildCourt$Text;)V"⟩
def RX1 : String := "ChildCourt$Sheet"
def TX1 : u_T := fun k => match k with
  | 0 => ("ChildCourt$Sheet", "cells", "[I", true)
  | 1 => ("ChildCourt$Sheet", "has", "Z", false)
  | 2 => ("ChildCourt$Sheet", "lane", "I", false)
  | _ => ("ChildCourt$Sheet", "length", "I", false)
def tyX1 : Nat → FieldType := fun k => match k with
  | 0 => .array .int
  | 1 => .boolean
  | 2 => .int
  | _ => .int
theorem nmX1 : ∀ a, a < 4 → ∀ b, b < 4 → a ≠ b → (TX1 a).2.1 ≠ (TX1 b).2.1 := by decide +kernel
theorem tyX1_ok : ∀ k, k < 4 → parseFieldDescriptor (TX1 k).2.2.1 = some (tyX1 k) := by decide +kernel
abbrev cX1_init : ByteArray := prog_3_method_1_code
def yX1_init : MethodName := ⟨RX1, "<init>", "()V"⟩
abbrev cX1_renew : ByteArray := prog_3_method_2_code
def yX1_renew : MethodName := ⟨RX1, "renew", "(II)V"⟩
abbrev cX1_isPlace : ByteArray := prog_3_method_3_code
def yX1_isPlace : MethodName := ⟨RX1, "isPlace", "(I)Z"⟩
abbrev cX1_hasCells : ByteArray := prog_3_method_4_code
def yX1_hasCells : MethodName := ⟨RX1, "hasCells", "(II)Z"⟩
abbrev cX1_cut : ByteArray := prog_3_method_5_code
def yX1_cut : MethodName := ⟨RX1, "cut", "(I)I"⟩
abbrev cX1_faultOfLane : ByteArray := prog_3_method_6_code
def yX1_faultOfLane : MethodName := ⟨RX1, "faultOfLane", "(I)I"⟩
abbrev cX1_faultOfCells : ByteArray := prog_3_method_7_code
def yX1_faultOfCells : MethodName := ⟨RX1, "faultOfCells", "(III)I"⟩
def RX2 : String := "ChildCourt$Sitting"
def TX2 : u_T := fun k => match k with
  | 0 => ("ChildCourt$Sitting", "of", "LChildCourt$Court;", true)
  | 1 => ("ChildCourt$Sitting", "kind", "[I", true)
  | 2 => ("ChildCourt$Sitting", "order", "[I", true)
  | 3 => ("ChildCourt$Sitting", "verdict", "[I", true)
  | 4 => ("ChildCourt$Sitting", "verdictOnDeed", "[I", true)
  | 5 => ("ChildCourt$Sitting", "length", "I", false)
  | 6 => ("ChildCourt$Sitting", "law", "I", false)
  | 7 => ("ChildCourt$Sitting", "sweets", "I", false)
  | 8 => ("ChildCourt$Sitting", "struck", "I", false)
  | 9 => ("ChildCourt$Sitting", "uneaten", "I", false)
  | 10 => ("ChildCourt$Sitting", "end", "I", false)
  | _ => ("ChildCourt$Sitting", "sentenced", "I", false)
def tyX2 : Nat → FieldType := fun k => match k with
  | 0 => .object "ChildCourt$Court"
  | 1 => .array .int
  | 2 => .array .int
  | 3 => .array .int
  | 4 => .array .int
  | 5 => .int
  | 6 => .int
  | 7 => .int
  | 8 => .int
  | 9 => .int
  | 10 => .int
  | _ => .int
theorem nmX2 : ∀ a, a < 12 → ∀ b, b < 12 → a ≠ b → (TX2 a).2.1 ≠ (TX2 b).2.1 := by decide +kernel
theorem tyX2_ok : ∀ k, k < 12 → parseFieldDescriptor (TX2 k).2.2.1 = some (tyX2 k) := by decide +kernel
abbrev cX2_init : ByteArray := prog_4_method_1_code
def yX2_init : MethodName := ⟨RX2, "<init>", "(LChildCourt$Court;)V"⟩
abbrev cX2_prepare : ByteArray := prog_4_method_2_code
def yX2_prepare : MethodName := ⟨RX2, "prepare", "()V"⟩
abbrev cX2_addToOrder : ByteArray := prog_4_method_3_code
def yX2_addToOrder : MethodName := ⟨RX2, "addToOrder", "(I)V"⟩
abbrev cX2_goToNextOrder : ByteArray := prog_4_method_4_code
def yX2_goToNextOrder : MethodName := ⟨RX2, "goToNextOrder", "()Z"⟩
abbrev cX2_swapInOrder : ByteArray := prog_4_method_5_code
def yX2_swapInOrder : MethodName := ⟨RX2, "swapInOrder", "(II)V"⟩
abbrev cX2_hold : ByteArray := prog_4_method_6_code
def yX2_hold : MethodName := ⟨RX2, "hold", "()V"⟩
abbrev cX2_judge : ByteArray := prog_4_method_7_code
def yX2_judge : MethodName := ⟨RX2, "judge", "(IZ)V"⟩
abbrev cX2_voters : ByteArray := prog_4_method_8_code
def yX2_voters : MethodName := ⟨RX2, "voters", "()I"⟩
abbrev cX2_guiltyVotes : ByteArray := prog_4_method_9_code
def yX2_guiltyVotes : MethodName := ⟨RX2, "guiltyVotes", "(II)I"⟩
abbrev cX2_votesGuilty : ByteArray := prog_4_method_10_code
def yX2_votesGuilty : MethodName := ⟨RX2, "votesGuilty", "(IZI)Z"⟩
def RX3 : String := "ChildCourt$Text"
def TX3 : u_T := fun k => match k with
  | 0 => ("ChildCourt$Text", "codes", "[I", true)
  | 1 => ("ChildCourt$Text", "length", "I", false)
  | _ => ("ChildCourt$Text", "casesFrom", "I", false)
def tyX3 : Nat → FieldType := fun k => match k with
  | 0 => .array .int
  | 1 => .int
  | _ => .int
theorem nmX3 : ∀ a, a < 3 → ∀ b, b < 3 → a ≠ b → (TX3 a).2.1 ≠ (TX3 b).2.1 := by decide +kernel
theorem tyX3_ok : ∀ k, k < 3 → parseFieldDescriptor (TX3 k).2.2.1 = some (tyX3 k) := by decide +kernel
abbrev cX3_init : ByteArray := prog_5_method_1_code
def yX3_init : MethodName := ⟨RX3, "<init>", "()V"⟩
abbrev cX3_firstFault : ByteArray := prog_5_method_2_code
def yX3_firstFault : MethodName := ⟨RX3, "firstFault", "(LChildCourt$Sheet;II)I"⟩
abbrev cX3_goesOn : ByteArray := prog_5_method_3_code
def yX3_goesOn : MethodName := ⟨RX3, "goesOn", "(I)Z"⟩
abbrev cX3_goesOnInMinutes : ByteArray := prog_5_method_4_code
def yX3_goesOnInMinutes : MethodName := ⟨RX3, "goesOnInMinutes", "(I)Z"⟩
abbrev cX3_goesOnInJurors : ByteArray := prog_5_method_5_code
def yX3_goesOnInJurors : MethodName := ⟨RX3, "goesOnInJurors", "(I)Z"⟩
abbrev cX3_goesOnInCases : ByteArray := prog_5_method_6_code
def yX3_goesOnInCases : MethodName := ⟨RX3, "goesOnInCases", "(I)Z"⟩
abbrev cX3_isWhole : ByteArray := prog_5_method_7_code
def yX3_isWhole : MethodName := ⟨RX3, "isWhole", "()Z"⟩
abbrev cX3_isDigit : ByteArray := prog_5_method_8_code
def yX3_isDigit : MethodName := ⟨RX3, "isDigit", "(III)Z"⟩
abbrev cX3_digit : ByteArray := prog_5_method_9_code
def yX3_digit : MethodName := ⟨RX3, "digit", "(I)I"⟩
abbrev cX3_kindAt : ByteArray := prog_5_method_10_code
def yX3_kindAt : MethodName := ⟨RX3, "kindAt", "(I)I"⟩
abbrev cX3_toldMinutes : ByteArray := prog_5_method_11_code
def yX3_toldMinutes : MethodName := ⟨RX3, "toldMinutes", "()I"⟩
abbrev cX3_toldJurors : ByteArray := prog_5_method_12_code
def yX3_toldJurors : MethodName := ⟨RX3, "toldJurors", "()I"⟩
abbrev cX3_toldCases : ByteArray := prog_5_method_13_code
def yX3_toldCases : MethodName := ⟨RX3, "toldCases", "()I"⟩
abbrev cX3_toldKind : ByteArray := prog_5_method_14_code
def yX3_toldKind : MethodName := ⟨RX3, "toldKind", "(I)I"⟩
abbrev cX3_toldAge : ByteArray := prog_5_method_15_code
def yX3_toldAge : MethodName := ⟨RX3, "toldAge", "(I)I"⟩
abbrev cX3_toldOfCase : ByteArray := prog_5_method_16_code
def yX3_toldOfCase : MethodName := ⟨RX3, "toldOfCase", "(II)I"⟩
def RX4 : String := "ChildCourt"
def TX4 : u_T := fun k => match k with
  | 0 => ("ChildCourt", "sheets", "[LChildCourt$Sheet;", true)
  | 1 => ("ChildCourt", "text", "LChildCourt$Text;", true)
  | 2 => ("ChildCourt", "now", "LChildCourt$Court;", true)
  | 3 => ("ChildCourt", "trial", "LChildCourt$Sitting;", true)
  | 4 => ("ChildCourt", "bestOrder", "[I", true)
  | 5 => ("ChildCourt", "traced", "I", false)
  | _ => ("ChildCourt", "latestFault", "I", false)
def tyX4 : Nat → FieldType := fun k => match k with
  | 0 => .array (.object "ChildCourt$Sheet")
  | 1 => .object "ChildCourt$Text"
  | 2 => .object "ChildCourt$Court"
  | 3 => .object "ChildCourt$Sitting"
  | 4 => .array .int
  | 5 => .int
  | _ => .int
theorem nmX4 : ∀ a, a < 7 → ∀ b, b < 7 → a ≠ b → (TX4 a).2.1 ≠ (TX4 b).2.1 := by decide +kernel
theorem tyX4_ok : ∀ k, k < 7 → parseFieldDescriptor (TX4 k).2.2.1 = some (tyX4 k) := by decide +kernel
abbrev cX4_init : ByteArray := prog_1_method_1_code
def yX4_init : MethodName := ⟨RX4, "<init>", "()V"⟩
abbrev cX4_court : ByteArray := prog_1_method_2_code
def yX4_court : MethodName := ⟨RX4, "court", "(IIII)I"⟩
abbrev cX4_ofJuror : ByteArray := prog_1_method_3_code
def yX4_ofJuror : MethodName := ⟨RX4, "ofJuror", "(II)I"⟩
abbrev cX4_ofCase : ByteArray := prog_1_method_4_code
def yX4_ofCase : MethodName := ⟨RX4, "ofCase", "(II)I"⟩
abbrev cX4_chalk : ByteArray := prog_1_method_5_code
def yX4_chalk : MethodName := ⟨RX4, "chalk", "(I)I"⟩
abbrev cX4_treat : ByteArray := prog_1_method_6_code
def yX4_treat : MethodName := ⟨RX4, "treat", "(IZ)I"⟩
abbrev cX4_strike : ByteArray := prog_1_method_7_code
def yX4_strike : MethodName := ⟨RX4, "strike", "(IZ)I"⟩
abbrev cX4_minutes : ByteArray := prog_1_method_8_code
def yX4_minutes : MethodName := ⟨RX4, "minutes", "(I)I"⟩
abbrev cX4_sitting : ByteArray := prog_1_method_9_code
def yX4_sitting : MethodName := ⟨RX4, "sitting", "(IIIII)I"⟩
abbrev cX4_votes : ByteArray := prog_1_method_10_code
def yX4_votes : MethodName := ⟨RX4, "votes", "(II)I"⟩
abbrev cX4_most : ByteArray := prog_1_method_11_code
def yX4_most : MethodName := ⟨RX4, "most", "(I)I"⟩
abbrev cX4_delay : ByteArray := prog_1_method_12_code
def yX4_delay : MethodName := ⟨RX4, "delay", "(I)I"⟩
abbrev cX4_bribe : ByteArray := prog_1_method_13_code
def yX4_bribe : MethodName := ⟨RX4, "bribe", "(IIIII)I"⟩
abbrev cX4_strikes : ByteArray := prog_1_method_14_code
def yX4_strikes : MethodName := ⟨RX4, "strikes", "(I)I"⟩
abbrev cX4_worth : ByteArray := prog_1_method_15_code
def yX4_worth : MethodName := ⟨RX4, "worth", "(I)I"⟩
abbrev cX4_reading : ByteArray := prog_1_method_16_code
def yX4_reading : MethodName := ⟨RX4, "reading", "(II)I"⟩
abbrev cX4_back : ByteArray := prog_1_method_17_code
def yX4_back : MethodName := ⟨RX4, "back", "(I)I"⟩
abbrev cX4_codes : ByteArray := prog_1_method_18_code
def yX4_codes : MethodName := ⟨RX4, "codes", "(I)I"⟩
abbrev cX4_kinds : ByteArray := prog_1_method_19_code
def yX4_kinds : MethodName := ⟨RX4, "kinds", "(I)I"⟩
abbrev cX4_treated : ByteArray := prog_1_method_20_code
def yX4_treated : MethodName := ⟨RX4, "treated", "()I"⟩
abbrev cX4_odds : ByteArray := prog_1_method_21_code
def yX4_odds : MethodName := ⟨RX4, "odds", "(II)J"⟩
abbrev cX4_sheet : ByteArray := prog_1_method_22_code
def yX4_sheet : MethodName := ⟨RX4, "sheet", "(III)I"⟩
abbrev cX4_lose : ByteArray := prog_1_method_23_code
def yX4_lose : MethodName := ⟨RX4, "lose", "(I)I"⟩
abbrev cX4_put : ByteArray := prog_1_method_24_code
def yX4_put : MethodName := ⟨RX4, "put", "(III)I"⟩
abbrev cX4_cell : ByteArray := prog_1_method_25_code
def yX4_cell : MethodName := ⟨RX4, "cell", "(III)J"⟩
abbrev cX4_copy : ByteArray := prog_1_method_26_code
def yX4_copy : MethodName := ⟨RX4, "copy", "(IIIII)I"⟩
abbrev cX4_tell : ByteArray := prog_1_method_27_code
def yX4_tell : MethodName := ⟨RX4, "tell", "(I)I"⟩
abbrev cX4_hush : ByteArray := prog_1_method_28_code
def yX4_hush : MethodName := ⟨RX4, "hush", "(I)I"⟩
abbrev cX4_as : ByteArray := prog_1_method_29_code
def yX4_as : MethodName := ⟨RX4, "as", "(II)I"⟩
abbrev cX4_trace : ByteArray := prog_1_method_30_code
def yX4_trace : MethodName := ⟨RX4, "trace", "()I"⟩
abbrev cX4_fault : ByteArray := prog_1_method_31_code
def yX4_fault : MethodName := ⟨RX4, "fault", "()I"⟩
abbrev cX4_many : ByteArray := prog_1_method_32_code
def yX4_many : MethodName := ⟨RX4, "many", "(I)I"⟩
abbrev cX4_isSheet : ByteArray := prog_1_method_33_code
def yX4_isSheet : MethodName := ⟨RX4, "isSheet", "(I)Z"⟩
abbrev cX4_isLane : ByteArray := prog_1_method_34_code
def yX4_isLane : MethodName := ⟨RX4, "isLane", "(I)Z"⟩
abbrev cX4_bitOf : ByteArray := prog_1_method_35_code
def yX4_bitOf : MethodName := ⟨RX4, "bitOf", "(II)I"⟩
abbrev cX4_withBit : ByteArray := prog_1_method_36_code
def yX4_withBit : MethodName := ⟨RX4, "withBit", "(IIZ)I"⟩
abbrev cX4_hasFewer : ByteArray := prog_1_method_37_code
def yX4_hasFewer : MethodName := ⟨RX4, "hasFewer", "(II)Z"⟩
abbrev cX4_faulty : ByteArray := prog_1_method_38_code
def yX4_faulty : MethodName := ⟨RX4, "faulty", "(I)I"⟩
abbrev cX4_takeOrder : ByteArray := prog_1_method_39_code
def yX4_takeOrder : MethodName := ⟨RX4, "takeOrder", "(LChildCourt$Sheet;III)I"⟩
abbrev cX4_prepareByNumbers : ByteArray := prog_1_method_40_code
def yX4_prepareByNumbers : MethodName := ⟨RX4, "prepareByNumbers", "()V"⟩
abbrev cX4_byOrderOfHighest : ByteArray := prog_1_method_41_code
def yX4_byOrderOfHighest : MethodName := ⟨RX4, "byOrderOfHighest", "(II)I"⟩
abbrev cX4_findOrderOfHighest : ByteArray := prog_1_method_42_code
def yX4_findOrderOfHighest : MethodName := ⟨RX4, "findOrderOfHighest", "(I)I"⟩
abbrev cX4_fewestSweets : ByteArray := prog_1_method_43_code
def yX4_fewestSweets : MethodName := ⟨RX4, "fewestSweets", "(I)I"⟩
abbrev cX4_mostByCourtsStrike : ByteArray := prog_1_method_44_code
def yX4_mostByCourtsStrike : MethodName := ⟨RX4, "mostByCourtsStrike", "(I)I"⟩
abbrev cX4_sentencedIfStruck : ByteArray := prog_1_method_45_code
def yX4_sentencedIfStruck : MethodName := ⟨RX4, "sentencedIfStruck", "(I)I"⟩
abbrev cX4_isAsRead : ByteArray := prog_1_method_46_code
def yX4_isAsRead : MethodName := ⟨RX4, "isAsRead", "()Z"⟩
abbrev cX4_leaveInTrace : ByteArray := prog_1_method_47_code
def yX4_leaveInTrace : MethodName := ⟨RX4, "leaveInTrace", "(I)V"⟩
abbrev cX4_childTelling : ByteArray := prog_1_method_48_code
def yX4_childTelling : MethodName := ⟨RX4, "childTelling", "(I)I"⟩
abbrev cX4_hungryTelling : ByteArray := prog_1_method_49_code
def yX4_hungryTelling : MethodName := ⟨RX4, "hungryTelling", "(I)I"⟩
abbrev cX4_sweetTelling : ByteArray := prog_1_method_50_code
def yX4_sweetTelling : MethodName := ⟨RX4, "sweetTelling", "(I)I"⟩
def RX5 : String := "ChildCourtModel"
def TX5 : u_T := fun k => match k with
  | 0 => ("ChildCourtModel", "fault", "I", false)
  | 1 => ("ChildCourtModel", "trace", "I", false)
  | 2 => ("ChildCourtModel", "sorts", "[I", true)
  | 3 => ("ChildCourtModel", "sheetLong", "[I", true)
  | 4 => ("ChildCourtModel", "cells", "[I", true)
  | 5 => ("ChildCourtModel", "minutes", "I", false)
  | 6 => ("ChildCourtModel", "jurors", "I", false)
  | 7 => ("ChildCourtModel", "count", "I", false)
  | 8 => ("ChildCourtModel", "crimes", "I", false)
  | 9 => ("ChildCourtModel", "kind", "[I", true)
  | 10 => ("ChildCourtModel", "age", "[I", true)
  | 11 => ("ChildCourtModel", "hasSweet", "[Z", true)
  | 12 => ("ChildCourtModel", "isStruck", "[Z", true)
  | 13 => ("ChildCourtModel", "deed", "[I", true)
  | 14 => ("ChildCourtModel", "far", "[I", true)
  | 15 => ("ChildCourtModel", "weight", "[I", true)
  | 16 => ("ChildCourtModel", "at", "I", false)
  | 17 => ("ChildCourtModel", "readMinutes", "I", false)
  | 18 => ("ChildCourtModel", "readJurors", "I", false)
  | 19 => ("ChildCourtModel", "readCases", "I", false)
  | 20 => ("ChildCourtModel", "readJuror", "[I", true)
  | 21 => ("ChildCourtModel", "readCase", "[I", true)
  | 22 => ("ChildCourtModel", "now", "I", false)
  | 23 => ("ChildCourtModel", "isOver", "Z", false)
  | 24 => ("ChildCourtModel", "how", "[I", true)
  | 25 => ("ChildCourtModel", "verdict", "[I", true)
  | 26 => ("ChildCourtModel", "isEaten", "[Z", true)
  | 27 => ("ChildCourtModel", "rowLong", "I", false)
  | 28 => ("ChildCourtModel", "row", "[I", true)
  | 29 => ("ChildCourtModel", "found", "[I", true)
  | 30 => ("ChildCourtModel", "readings", "I", false)
  | 31 => ("ChildCourtModel", "readCaseOf", "[I", true)
  | _ => ("ChildCourtModel", "readHow", "[I", true)
def tyX5 : Nat → FieldType := fun k => match k with
  | 0 => .int
  | 1 => .int
  | 2 => .array .int
  | 3 => .array .int
  | 4 => .array .int
  | 5 => .int
  | 6 => .int
  | 7 => .int
  | 8 => .int
  | 9 => .array .int
  | 10 => .array .int
  | 11 => .array .boolean
  | 12 => .array .boolean
  | 13 => .array .int
  | 14 => .array .int
  | 15 => .array .int
  | 16 => .int
  | 17 => .int
  | 18 => .int
  | 19 => .int
  | 20 => .array .int
  | 21 => .array .int
  | 22 => .int
  | 23 => .boolean
  | 24 => .array .int
  | 25 => .array .int
  | 26 => .array .boolean
  | 27 => .int
  | 28 => .array .int
  | 29 => .array .int
  | 30 => .int
  | 31 => .array .int
  | _ => .array .int
theorem nmX5 : ∀ a, a < 33 → ∀ b, b < 33 → a ≠ b → (TX5 a).2.1 ≠ (TX5 b).2.1 := by decide +kernel
theorem tyX5_ok : ∀ k, k < 33 → parseFieldDescriptor (TX5 k).2.2.1 = some (tyX5 k) := by decide +kernel
abbrev cX5_init : ByteArray := prog_7_method_1_code
def yX5_init : MethodName := ⟨RX5, "<init>", "()V"⟩
abbrev cX5_fails : ByteArray := prog_7_method_3_code
def yX5_fails : MethodName := ⟨RX5, "fails", "(I)I"⟩
abbrev cX5_lost : ByteArray := prog_7_method_4_code
def yX5_lost : MethodName := ⟨RX5, "lost", "(I)J"⟩
abbrev cX5_within : ByteArray := prog_7_method_5_code
def yX5_within : MethodName := ⟨RX5, "within", "(III)Z"⟩
abbrev cX5_isSheet : ByteArray := prog_7_method_6_code
def yX5_isSheet : MethodName := ⟨RX5, "isSheet", "(I)Z"⟩
abbrev cX5_isSort : ByteArray := prog_7_method_7_code
def yX5_isSort : MethodName := ⟨RX5, "isSort", "(I)Z"⟩
abbrev cX5_against : ByteArray := prog_7_method_8_code
def yX5_against : MethodName := ⟨RX5, "against", "(IIII)I"⟩
abbrev cX5_isJuror : ByteArray := prog_7_method_9_code
def yX5_isJuror : MethodName := ⟨RX5, "isJuror", "(I)Z"⟩
abbrev cX5_isCase : ByteArray := prog_7_method_10_code
def yX5_isCase : MethodName := ⟨RX5, "isCase", "(I)Z"⟩
abbrev cX5_digit : ByteArray := prog_7_method_11_code
def yX5_digit : MethodName := ⟨RX5, "digit", "(III)I"⟩
abbrev cX5_isSign : ByteArray := prog_7_method_12_code
def yX5_isSign : MethodName := ⟨RX5, "isSign", "(II)Z"⟩
abbrev cX5_court : ByteArray := prog_7_method_13_code
def yX5_court : MethodName := ⟨RX5, "court", "(IIII)I"⟩
abbrev cX5_readCourt : ByteArray := prog_7_method_14_code
def yX5_readCourt : MethodName := ⟨RX5, "readCourt", "(I)Z"⟩
abbrev cX5_readTheMinutes : ByteArray := prog_7_method_15_code
def yX5_readTheMinutes : MethodName := ⟨RX5, "readTheMinutes", "(I)Z"⟩
abbrev cX5_readOneJuror : ByteArray := prog_7_method_16_code
def yX5_readOneJuror : MethodName := ⟨RX5, "readOneJuror", "(I)Z"⟩
abbrev cX5_readOneCase : ByteArray := prog_7_method_17_code
def yX5_readOneCase : MethodName := ⟨RX5, "readOneCase", "(I)Z"⟩
abbrev cX5_ofJuror : ByteArray := prog_7_method_18_code
def yX5_ofJuror : MethodName := ⟨RX5, "ofJuror", "(II)I"⟩
abbrev cX5_ofCase : ByteArray := prog_7_method_19_code
def yX5_ofCase : MethodName := ⟨RX5, "ofCase", "(II)I"⟩
abbrev cX5_chalk : ByteArray := prog_7_method_20_code
def yX5_chalk : MethodName := ⟨RX5, "chalk", "(I)I"⟩
abbrev cX5_treat : ByteArray := prog_7_method_21_code
def yX5_treat : MethodName := ⟨RX5, "treat", "(IZ)I"⟩
abbrev cX5_strike : ByteArray := prog_7_method_22_code
def yX5_strike : MethodName := ⟨RX5, "strike", "(IZ)I"⟩
abbrev cX5_minutes : ByteArray := prog_7_method_23_code
def yX5_minutes : MethodName := ⟨RX5, "minutes", "(I)I"⟩
abbrev cX5_begin : ByteArray := prog_7_method_24_code
def yX5_begin : MethodName := ⟨RX5, "begin", "()V"⟩
abbrev cX5_isCrime : ByteArray := prog_7_method_25_code
def yX5_isCrime : MethodName := ⟨RX5, "isCrime", "(I)Z"⟩
abbrev cX5_isAgainst : ByteArray := prog_7_method_26_code
def yX5_isAgainst : MethodName := ⟨RX5, "isAgainst", "(IIIZ)Z"⟩
abbrev cX5_verdictOf : ByteArray := prog_7_method_27_code
def yX5_verdictOf : MethodName := ⟨RX5, "verdictOf", "(I)I"⟩
abbrev cX5_tryCase : ByteArray := prog_7_method_28_code
def yX5_tryCase : MethodName := ⟨RX5, "tryCase", "(I)V"⟩
abbrev cX5_sentenced : ByteArray := prog_7_method_29_code
def yX5_sentenced : MethodName := ⟨RX5, "sentenced", "()I"⟩
abbrev cX5_goRow : ByteArray := prog_7_method_30_code
def yX5_goRow : MethodName := ⟨RX5, "goRow", "()V"⟩
abbrev cX5_layNumbers : ByteArray := prog_7_method_31_code
def yX5_layNumbers : MethodName := ⟨RX5, "layNumbers", "()V"⟩
abbrev cX5_byNumbers : ByteArray := prog_7_method_32_code
def yX5_byNumbers : MethodName := ⟨RX5, "byNumbers", "()I"⟩
abbrev cX5_layRow : ByteArray := prog_7_method_33_code
def yX5_layRow : MethodName := ⟨RX5, "layRow", "(IIII)I"⟩
abbrev cX5_sitting : ByteArray := prog_7_method_34_code
def yX5_sitting : MethodName := ⟨RX5, "sitting", "(IIIII)I"⟩
abbrev cX5_votes : ByteArray := prog_7_method_35_code
def yX5_votes : MethodName := ⟨RX5, "votes", "(II)I"⟩
abbrev cX5_swap : ByteArray := prog_7_method_36_code
def yX5_swap : MethodName := ⟨RX5, "swap", "(II)V"⟩
abbrev cX5_nextRow : ByteArray := prog_7_method_37_code
def yX5_nextRow : MethodName := ⟨RX5, "nextRow", "()Z"⟩
abbrev cX5_findOrder : ByteArray := prog_7_method_38_code
def yX5_findOrder : MethodName := ⟨RX5, "findOrder", "(Z)I"⟩
abbrev cX5_order : ByteArray := prog_7_method_39_code
def yX5_order : MethodName := ⟨RX5, "order", "(IZ)I"⟩
abbrev cX5_most : ByteArray := prog_7_method_40_code
def yX5_most : MethodName := ⟨RX5, "most", "(I)I"⟩
abbrev cX5_delay : ByteArray := prog_7_method_41_code
def yX5_delay : MethodName := ⟨RX5, "delay", "(I)I"⟩
abbrev cX5_size : ByteArray := prog_7_method_42_code
def yX5_size : MethodName := ⟨RX5, "size", "(I)I"⟩
abbrev cX5_sweets : ByteArray := prog_7_method_43_code
def yX5_sweets : MethodName := ⟨RX5, "sweets", "()I"⟩
abbrev cX5_laySweets : ByteArray := prog_7_method_44_code
def yX5_laySweets : MethodName := ⟨RX5, "laySweets", "(I)V"⟩
abbrev cX5_bribe : ByteArray := prog_7_method_45_code
def yX5_bribe : MethodName := ⟨RX5, "bribe", "(IIIII)I"⟩
abbrev cX5_mostByCourt : ByteArray := prog_7_method_46_code
def yX5_mostByCourt : MethodName := ⟨RX5, "mostByCourt", "()I"⟩
abbrev cX5_strikes : ByteArray := prog_7_method_47_code
def yX5_strikes : MethodName := ⟨RX5, "strikes", "(I)I"⟩
abbrev cX5_worth : ByteArray := prog_7_method_48_code
def yX5_worth : MethodName := ⟨RX5, "worth", "(I)I"⟩
abbrev cX5_reading : ByteArray := prog_7_method_49_code
def yX5_reading : MethodName := ⟨RX5, "reading", "(II)I"⟩
abbrev cX5_back : ByteArray := prog_7_method_50_code
def yX5_back : MethodName := ⟨RX5, "back", "(I)I"⟩
abbrev cX5_areSo : ByteArray := prog_7_method_51_code
def yX5_areSo : MethodName := ⟨RX5, "areSo", "()Z"⟩
abbrev cX5_codes : ByteArray := prog_7_method_52_code
def yX5_codes : MethodName := ⟨RX5, "codes", "(I)I"⟩
abbrev cX5_kinds : ByteArray := prog_7_method_53_code
def yX5_kinds : MethodName := ⟨RX5, "kinds", "(I)I"⟩
abbrev cX5_treated : ByteArray := prog_7_method_54_code
def yX5_treated : MethodName := ⟨RX5, "treated", "()I"⟩
abbrev cX5_inLeastTerms : ByteArray := prog_7_method_55_code
def yX5_inLeastTerms : MethodName := ⟨RX5, "inLeastTerms", "(JJI)J"⟩
abbrev cX5_struck : ByteArray := prog_7_method_56_code
def yX5_struck : MethodName := ⟨RX5, "struck", "()I"⟩
abbrev cX5_layStruck : ByteArray := prog_7_method_57_code
def yX5_layStruck : MethodName := ⟨RX5, "layStruck", "(I)V"⟩
abbrev cX5_odds : ByteArray := prog_7_method_58_code
def yX5_odds : MethodName := ⟨RX5, "odds", "(II)J"⟩
abbrev cX5_sheet : ByteArray := prog_7_method_59_code
def yX5_sheet : MethodName := ⟨RX5, "sheet", "(III)I"⟩
abbrev cX5_lose : ByteArray := prog_7_method_60_code
def yX5_lose : MethodName := ⟨RX5, "lose", "(I)I"⟩
abbrev cX5_put : ByteArray := prog_7_method_61_code
def yX5_put : MethodName := ⟨RX5, "put", "(III)I"⟩
abbrev cX5_cell : ByteArray := prog_7_method_62_code
def yX5_cell : MethodName := ⟨RX5, "cell", "(III)J"⟩
abbrev cX5_copy : ByteArray := prog_7_method_63_code
def yX5_copy : MethodName := ⟨RX5, "copy", "(IIIII)I"⟩
abbrev cX5_begins : ByteArray := prog_7_method_64_code
def yX5_begins : MethodName := ⟨RX5, "begins", "(I)V"⟩
abbrev cX5_tell : ByteArray := prog_7_method_65_code
def yX5_tell : MethodName := ⟨RX5, "tell", "(I)I"⟩
abbrev cX5_hush : ByteArray := prog_7_method_66_code
def yX5_hush : MethodName := ⟨RX5, "hush", "(I)I"⟩
abbrev cX5_as : ByteArray := prog_7_method_67_code
def yX5_as : MethodName := ⟨RX5, "as", "(II)I"⟩
abbrev cX5_trace : ByteArray := prog_7_method_68_code
def yX5_trace : MethodName := ⟨RX5, "trace", "()I"⟩
abbrev cX5_fault : ByteArray := prog_7_method_69_code
def yX5_fault : MethodName := ⟨RX5, "fault", "()I"⟩
abbrev cX5_many : ByteArray := prog_7_method_70_code
def yX5_many : MethodName := ⟨RX5, "many", "(I)I"⟩
def RJ6 : String := "java/lang/Integer"
def TJ6 : u_T := fun k => match k with
  | _ => ("", "", "", false)
def tyJ6 : Nat → FieldType := fun k => match k with
  | _ => .int
theorem nmJ6 : ∀ a, a < 0 → ∀ b, b < 0 → a ≠ b → (TJ6 a).2.1 ≠ (TJ6 b).2.1 := by decide +kernel
theorem tyJ6_ok : ∀ k, k < 0 → parseFieldDescriptor (TJ6 k).2.2.1 = some (tyJ6 k) := by decide +kernel
abbrev cJ6_bitCount_0f7a4 : ByteArray := prog_8_method_49_code
def yJ6_bitCount_0f7a4 : MethodName := ⟨RJ6, "bitCount", "(I)I"⟩
def RJ9 : String := "java/lang/Math"
def TJ9 : u_T := fun k => match k with
  | _ => ("", "", "", false)
def tyJ9 : Nat → FieldType := fun k => match k with
  | _ => .int
theorem nmJ9 : ∀ a, a < 0 → ∀ b, b < 0 → a ≠ b → (TJ9 a).2.1 ≠ (TJ9 b).2.1 := by decide +kernel
theorem tyJ9_ok : ∀ k, k < 0 → parseFieldDescriptor (TJ9 k).2.2.1 = some (tyJ9 k) := by decide +kernel
abbrev cJ9_max_7cf53 : ByteArray := prog_9_method_65_code
def yJ9_max_7cf53 : MethodName := ⟨RJ9, "max", "(II)I"⟩
def RJ10 : String := "java/lang/System"
def TJ10 : u_T := fun k => match k with
  | _ => ("", "", "", false)
def tyJ10 : Nat → FieldType := fun k => match k with
  | _ => .int
theorem nmJ10 : ∀ a, a < 0 → ∀ b, b < 0 → a ≠ b → (TJ10 a).2.1 ≠ (TJ10 b).2.1 := by decide +kernel
theorem tyJ10_ok : ∀ k, k < 0 → parseFieldDescriptor (TJ10 k).2.2.1 = some (tyJ10 k) := by decide +kernel
def RJ7 : String := "java/util/Arrays"
def TJ7 : u_T := fun k => match k with
  | _ => ("", "", "", false)
def tyJ7 : Nat → FieldType := fun k => match k with
  | _ => .int
theorem nmJ7 : ∀ a, a < 0 → ∀ b, b < 0 → a ≠ b → (TJ7 a).2.1 ≠ (TJ7 b).2.1 := by decide +kernel
theorem tyJ7_ok : ∀ k, k < 0 → parseFieldDescriptor (TJ7 k).2.2.1 = some (tyJ7 k) := by decide +kernel
abbrev cJ7_fill_53178 : ByteArray := prog_11_method_103_code
def yJ7_fill_53178 : MethodName := ⟨RJ7, "fill", "([II)V"⟩
def RL : String := "ChildCourtLaw"
abbrev cL_law : ByteArray := code
def yL_law : MethodName := ⟨RL, "law", "([I)Z"⟩
abbrev vwCl : List vw_C := [(RX0, TX0, 14), (RX1, TX1, 4), (RX2, TX2, 12), (RX3, TX3, 3), (RX4, TX4, 7), (RX5, TX5, 33)]
end
section
theorem dX0_init_0 : decode cX0_init 0 = .ok (.aload_n 0, 1) := by decide +kernel
theorem dX0_init_1 : decode cX0_init 1 = .ok (.invokespecial 3, 3) := by decide +kernel
theorem dX0_init_4 : decode cX0_init 4 = .ok (.aload_n 0, 1) := by decide +kernel
theorem dX0_init_5 : decode cX0_init 5 = .ok (.iconst 5, 1) := by decide +kernel
theorem dX0_init_6 : decode cX0_init 6 = .ok (.newarray .int, 2) := by decide +kernel
theorem dX0_init_8 : decode cX0_init 8 = .ok (.putfield 9, 3) := by decide +kernel
theorem dX0_init_11 : decode cX0_init 11 = .ok (.aload_n 0, 1) := by decide +kernel
theorem dX0_init_12 : decode cX0_init 12 = .ok (.iconst 5, 1) := by decide +kernel
theorem dX0_init_13 : decode cX0_init 13 = .ok (.newarray .int, 2) := by decide +kernel
theorem dX0_init_15 : decode cX0_init 15 = .ok (.putfield 15, 3) := by decide +kernel
theorem dX0_init_18 : decode cX0_init 18 = .ok (.aload_n 0, 1) := by decide +kernel
theorem dX0_init_19 : decode cX0_init 19 = .ok (.iconst 5, 1) := by decide +kernel
theorem dX0_init_20 : decode cX0_init 20 = .ok (.newarray .int, 2) := by decide +kernel
theorem dX0_init_22 : decode cX0_init 22 = .ok (.putfield 18, 3) := by decide +kernel
theorem dX0_init_25 : decode cX0_init 25 = .ok (.aload_n 0, 1) := by decide +kernel
theorem dX0_init_26 : decode cX0_init 26 = .ok (.iconst 5, 1) := by decide +kernel
theorem dX0_init_27 : decode cX0_init 27 = .ok (.newarray .int, 2) := by decide +kernel
theorem dX0_init_29 : decode cX0_init 29 = .ok (.putfield 21, 3) := by decide +kernel
theorem dX0_init_32 : decode cX0_init 32 = .ok (.aload_n 0, 1) := by decide +kernel
theorem dX0_init_33 : decode cX0_init 33 = .ok (.iconst 5, 1) := by decide +kernel
theorem dX0_init_34 : decode cX0_init 34 = .ok (.newarray .int, 2) := by decide +kernel
theorem dX0_init_36 : decode cX0_init 36 = .ok (.putfield 24, 3) := by decide +kernel
theorem dX0_init_39 : decode cX0_init 39 = .ok (.aload_n 0, 1) := by decide +kernel
theorem dX0_init_40 : decode cX0_init 40 = .ok (.bipush 8, 2) := by decide +kernel
theorem dX0_init_42 : decode cX0_init 42 = .ok (.newarray .int, 2) := by decide +kernel
theorem dX0_init_44 : decode cX0_init 44 = .ok (.putfield 27, 3) := by decide +kernel
theorem dX0_init_47 : decode cX0_init 47 = .ok (.aload_n 0, 1) := by decide +kernel
theorem dX0_init_48 : decode cX0_init 48 = .ok (.bipush 8, 2) := by decide +kernel
theorem dX0_init_50 : decode cX0_init 50 = .ok (.newarray .int, 2) := by decide +kernel
theorem dX0_init_52 : decode cX0_init 52 = .ok (.putfield 30, 3) := by decide +kernel
theorem dX0_init_55 : decode cX0_init 55 = .ok (.return_, 1) := by decide +kernel
theorem dX0_stands_0 : decode cX0_stands 0 = .ok (.aload_n 0, 1) := by decide +kernel
theorem dX0_stands_1 : decode cX0_stands 1 = .ok (.getfield 33, 3) := by decide +kernel
theorem dX0_stands_4 : decode cX0_stands 4 = .ok (.ifCond .le 7, 3) := by decide +kernel
theorem dX0_stands_7 : decode cX0_stands 7 = .ok (.iconst 1, 1) := by decide +kernel
theorem dX0_stands_8 : decode cX0_stands 8 = .ok (.goto 4, 3) := by decide +kernel
theorem dX0_stands_11 : decode cX0_stands 11 = .ok (.iconst 0, 1) := by decide +kernel
theorem dX0_stands_12 : decode cX0_stands 12 = .ok (.ireturn, 1) := by decide +kernel
theorem dX0_isJuror_0 : decode cX0_isJuror 0 = .ok (.iload_n 1, 1) := by decide +kernel
theorem dX0_isJuror_1 : decode cX0_isJuror 1 = .ok (.ifCond .lt 15, 3) := by decide +kernel
theorem dX0_isJuror_4 : decode cX0_isJuror 4 = .ok (.iload_n 1, 1) := by decide +kernel
theorem dX0_isJuror_5 : decode cX0_isJuror 5 = .ok (.aload_n 0, 1) := by decide +kernel
theorem dX0_isJuror_6 : decode cX0_isJuror 6 = .ok (.getfield 37, 3) := by decide +kernel
theorem dX0_isJuror_9 : decode cX0_isJuror 9 = .ok (.if_icmp .ge 7, 3) := by decide +kernel
theorem dX0_isJuror_12 : decode cX0_isJuror 12 = .ok (.iconst 1, 1) := by decide +kernel
theorem dX0_isJuror_13 : decode cX0_isJuror 13 = .ok (.goto 4, 3) := by decide +kernel
theorem dX0_isJuror_16 : decode cX0_isJuror 16 = .ok (.iconst 0, 1) := by decide +kernel
theorem dX0_isJuror_17 : decode cX0_isJuror 17 = .ok (.ireturn, 1) := by decide +kernel
theorem dX0_isCase_0 : decode cX0_isCase 0 = .ok (.iload_n 1, 1) := by decide +kernel
theorem dX0_isCase_1 : decode cX0_isCase 1 = .ok (.ifCond .lt 15, 3) := by decide +kernel
theorem dX0_isCase_4 : decode cX0_isCase 4 = .ok (.iload_n 1, 1) := by decide +kernel
theorem dX0_isCase_5 : decode cX0_isCase 5 = .ok (.aload_n 0, 1) := by decide +kernel
theorem dX0_isCase_6 : decode cX0_isCase 6 = .ok (.getfield 33, 3) := by decide +kernel
theorem dX0_isCase_9 : decode cX0_isCase 9 = .ok (.if_icmp .ge 7, 3) := by decide +kernel
theorem dX0_isCase_12 : decode cX0_isCase 12 = .ok (.iconst 1, 1) := by decide +kernel
theorem dX0_isCase_13 : decode cX0_isCase 13 = .ok (.goto 4, 3) := by decide +kernel
theorem dX0_isCase_16 : decode cX0_isCase 16 = .ok (.iconst 0, 1) := by decide +kernel
theorem dX0_isCase_17 : decode cX0_isCase 17 = .ok (.ireturn, 1) := by decide +kernel
theorem dX0_makeAnew_0 : decode cX0_makeAnew 0 = .ok (.aload_n 0, 1) := by decide +kernel
theorem dX0_makeAnew_1 : decode cX0_makeAnew 1 = .ok (.aload_n 1, 1) := by decide +kernel
theorem dX0_makeAnew_2 : decode cX0_makeAnew 2 = .ok (.invokevirtual 40, 3) := by decide +kernel
theorem dX0_makeAnew_5 : decode cX0_makeAnew 5 = .ok (.putfield 46, 3) := by decide +kernel
theorem dX0_makeAnew_8 : decode cX0_makeAnew 8 = .ok (.aload_n 0, 1) := by decide +kernel
theorem dX0_makeAnew_9 : decode cX0_makeAnew 9 = .ok (.aload_n 1, 1) := by decide +kernel
theorem dX0_makeAnew_10 : decode cX0_makeAnew 10 = .ok (.invokevirtual 49, 3) := by decide +kernel
theorem dX0_makeAnew_13 : decode cX0_makeAnew 13 = .ok (.putfield 37, 3) := by decide +kernel
theorem dX0_makeAnew_16 : decode cX0_makeAnew 16 = .ok (.iconst 0, 1) := by decide +kernel
theorem dX0_makeAnew_17 : decode cX0_makeAnew 17 = .ok (.istore_n 2, 1) := by decide +kernel
theorem dX0_makeAnew_18 : decode cX0_makeAnew 18 = .ok (.iload_n 2, 1) := by decide +kernel
theorem dX0_makeAnew_19 : decode cX0_makeAnew 19 = .ok (.aload_n 0, 1) := by decide +kernel
theorem dX0_makeAnew_20 : decode cX0_makeAnew 20 = .ok (.getfield 37, 3) := by decide +kernel
theorem dX0_makeAnew_23 : decode cX0_makeAnew 23 = .ok (.if_icmp .ge 31, 3) := by decide +kernel
theorem dX0_makeAnew_26 : decode cX0_makeAnew 26 = .ok (.aload_n 0, 1) := by decide +kernel
theorem dX0_makeAnew_27 : decode cX0_makeAnew 27 = .ok (.getfield 9, 3) := by decide +kernel
theorem dX0_makeAnew_30 : decode cX0_makeAnew 30 = .ok (.iload_n 2, 1) := by decide +kernel
theorem dX0_makeAnew_31 : decode cX0_makeAnew 31 = .ok (.aload_n 1, 1) := by decide +kernel
theorem dX0_makeAnew_32 : decode cX0_makeAnew 32 = .ok (.iload_n 2, 1) := by decide +kernel
theorem dX0_makeAnew_33 : decode cX0_makeAnew 33 = .ok (.invokevirtual 52, 3) := by decide +kernel
theorem dX0_makeAnew_36 : decode cX0_makeAnew 36 = .ok (.iastore, 1) := by decide +kernel
theorem dX0_makeAnew_37 : decode cX0_makeAnew 37 = .ok (.aload_n 0, 1) := by decide +kernel
theorem dX0_makeAnew_38 : decode cX0_makeAnew 38 = .ok (.getfield 15, 3) := by decide +kernel
theorem dX0_makeAnew_41 : decode cX0_makeAnew 41 = .ok (.iload_n 2, 1) := by decide +kernel
theorem dX0_makeAnew_42 : decode cX0_makeAnew 42 = .ok (.aload_n 1, 1) := by decide +kernel
theorem dX0_makeAnew_43 : decode cX0_makeAnew 43 = .ok (.iload_n 2, 1) := by decide +kernel
theorem dX0_makeAnew_44 : decode cX0_makeAnew 44 = .ok (.invokevirtual 56, 3) := by decide +kernel
theorem dX0_makeAnew_47 : decode cX0_makeAnew 47 = .ok (.iastore, 1) := by decide +kernel
theorem dX0_makeAnew_48 : decode cX0_makeAnew 48 = .ok (.iinc 2 1, 3) := by decide +kernel
theorem dX0_makeAnew_51 : decode cX0_makeAnew 51 = .ok (.goto (-33), 3) := by decide +kernel
theorem dX0_makeAnew_54 : decode cX0_makeAnew 54 = .ok (.aload_n 0, 1) := by decide +kernel
theorem dX0_makeAnew_55 : decode cX0_makeAnew 55 = .ok (.aload_n 1, 1) := by decide +kernel
theorem dX0_makeAnew_56 : decode cX0_makeAnew 56 = .ok (.invokevirtual 59, 3) := by decide +kernel
theorem dX0_makeAnew_59 : decode cX0_makeAnew 59 = .ok (.putfield 33, 3) := by decide +kernel
theorem dX0_makeAnew_62 : decode cX0_makeAnew 62 = .ok (.iconst 0, 1) := by decide +kernel
theorem dX0_makeAnew_63 : decode cX0_makeAnew 63 = .ok (.istore_n 2, 1) := by decide +kernel
theorem dX0_makeAnew_64 : decode cX0_makeAnew 64 = .ok (.iload_n 2, 1) := by decide +kernel
theorem dX0_makeAnew_65 : decode cX0_makeAnew 65 = .ok (.aload_n 0, 1) := by decide +kernel
theorem dX0_makeAnew_66 : decode cX0_makeAnew 66 = .ok (.getfield 33, 3) := by decide +kernel
theorem dX0_makeAnew_69 : decode cX0_makeAnew 69 = .ok (.if_icmp .ge 45, 3) := by decide +kernel
theorem dX0_makeAnew_72 : decode cX0_makeAnew 72 = .ok (.aload_n 0, 1) := by decide +kernel
theorem dX0_makeAnew_73 : decode cX0_makeAnew 73 = .ok (.getfield 18, 3) := by decide +kernel
theorem dX0_makeAnew_76 : decode cX0_makeAnew 76 = .ok (.iload_n 2, 1) := by decide +kernel
theorem dX0_makeAnew_77 : decode cX0_makeAnew 77 = .ok (.aload_n 1, 1) := by decide +kernel
theorem dX0_makeAnew_78 : decode cX0_makeAnew 78 = .ok (.iload_n 2, 1) := by decide +kernel
theorem dX0_makeAnew_79 : decode cX0_makeAnew 79 = .ok (.iconst 0, 1) := by decide +kernel
theorem dX0_makeAnew_80 : decode cX0_makeAnew 80 = .ok (.invokevirtual 62, 3) := by decide +kernel
theorem dX0_makeAnew_83 : decode cX0_makeAnew 83 = .ok (.iastore, 1) := by decide +kernel
theorem dX0_makeAnew_84 : decode cX0_makeAnew 84 = .ok (.aload_n 0, 1) := by decide +kernel
theorem dX0_makeAnew_85 : decode cX0_makeAnew 85 = .ok (.getfield 21, 3) := by decide +kernel
theorem dX0_makeAnew_88 : decode cX0_makeAnew 88 = .ok (.iload_n 2, 1) := by decide +kernel
theorem dX0_makeAnew_89 : decode cX0_makeAnew 89 = .ok (.aload_n 1, 1) := by decide +kernel
theorem dX0_makeAnew_90 : decode cX0_makeAnew 90 = .ok (.iload_n 2, 1) := by decide +kernel
theorem dX0_makeAnew_91 : decode cX0_makeAnew 91 = .ok (.iconst 1, 1) := by decide +kernel
theorem dX0_makeAnew_92 : decode cX0_makeAnew 92 = .ok (.invokevirtual 62, 3) := by decide +kernel
theorem dX0_makeAnew_95 : decode cX0_makeAnew 95 = .ok (.iastore, 1) := by decide +kernel
theorem dX0_makeAnew_96 : decode cX0_makeAnew 96 = .ok (.aload_n 0, 1) := by decide +kernel
theorem dX0_makeAnew_97 : decode cX0_makeAnew 97 = .ok (.getfield 24, 3) := by decide +kernel
theorem dX0_makeAnew_100 : decode cX0_makeAnew 100 = .ok (.iload_n 2, 1) := by decide +kernel
theorem dX0_makeAnew_101 : decode cX0_makeAnew 101 = .ok (.aload_n 1, 1) := by decide +kernel
theorem dX0_makeAnew_102 : decode cX0_makeAnew 102 = .ok (.iload_n 2, 1) := by decide +kernel
theorem dX0_makeAnew_103 : decode cX0_makeAnew 103 = .ok (.iconst 2, 1) := by decide +kernel
theorem dX0_makeAnew_104 : decode cX0_makeAnew 104 = .ok (.invokevirtual 62, 3) := by decide +kernel
theorem dX0_makeAnew_107 : decode cX0_makeAnew 107 = .ok (.iastore, 1) := by decide +kernel
theorem dX0_makeAnew_108 : decode cX0_makeAnew 108 = .ok (.iinc 2 1, 3) := by decide +kernel
theorem dX0_makeAnew_111 : decode cX0_makeAnew 111 = .ok (.goto (-47), 3) := by decide +kernel
theorem dX0_makeAnew_114 : decode cX0_makeAnew 114 = .ok (.aload_n 0, 1) := by decide +kernel
theorem dX0_makeAnew_115 : decode cX0_makeAnew 115 = .ok (.iconst 0, 1) := by decide +kernel
theorem dX0_makeAnew_116 : decode cX0_makeAnew 116 = .ok (.putfield 66, 3) := by decide +kernel
theorem dX0_makeAnew_119 : decode cX0_makeAnew 119 = .ok (.aload_n 0, 1) := by decide +kernel
theorem dX0_makeAnew_120 : decode cX0_makeAnew 120 = .ok (.iconst 0, 1) := by decide +kernel
theorem dX0_makeAnew_121 : decode cX0_makeAnew 121 = .ok (.putfield 69, 3) := by decide +kernel
theorem dX0_makeAnew_124 : decode cX0_makeAnew 124 = .ok (.aload_n 0, 1) := by decide +kernel
theorem dX0_makeAnew_125 : decode cX0_makeAnew 125 = .ok (.iconst 0, 1) := by decide +kernel
theorem dX0_makeAnew_126 : decode cX0_makeAnew 126 = .ok (.putfield 72, 3) := by decide +kernel
theorem dX0_makeAnew_129 : decode cX0_makeAnew 129 = .ok (.aload_n 0, 1) := by decide +kernel
theorem dX0_makeAnew_130 : decode cX0_makeAnew 130 = .ok (.iconst 0, 1) := by decide +kernel
theorem dX0_makeAnew_131 : decode cX0_makeAnew 131 = .ok (.putfield 75, 3) := by decide +kernel
theorem dX0_makeAnew_134 : decode cX0_makeAnew 134 = .ok (.return_, 1) := by decide +kernel
theorem dX1_init_0 : decode cX1_init 0 = .ok (.aload_n 0, 1) := by decide +kernel
theorem dX1_init_1 : decode cX1_init 1 = .ok (.invokespecial 3, 3) := by decide +kernel
theorem dX1_init_4 : decode cX1_init 4 = .ok (.aload_n 0, 1) := by decide +kernel
theorem dX1_init_5 : decode cX1_init 5 = .ok (.bipush 60, 2) := by decide +kernel
theorem dX1_init_7 : decode cX1_init 7 = .ok (.newarray .int, 2) := by decide +kernel
theorem dX1_init_9 : decode cX1_init 9 = .ok (.putfield 9, 3) := by decide +kernel
theorem dX1_init_12 : decode cX1_init 12 = .ok (.return_, 1) := by decide +kernel
theorem dX1_renew_0 : decode cX1_renew 0 = .ok (.aload_n 0, 1) := by decide +kernel
theorem dX1_renew_1 : decode cX1_renew 1 = .ok (.getfield 9, 3) := by decide +kernel
theorem dX1_renew_4 : decode cX1_renew 4 = .ok (.iconst 0, 1) := by decide +kernel
theorem dX1_renew_5 : decode cX1_renew 5 = .ok (.invokestatic 15, 3) := by decide +kernel
theorem dX1_renew_8 : decode cX1_renew 8 = .ok (.aload_n 0, 1) := by decide +kernel
theorem dX1_renew_9 : decode cX1_renew 9 = .ok (.iconst 1, 1) := by decide +kernel
theorem dX1_renew_10 : decode cX1_renew 10 = .ok (.putfield 21, 3) := by decide +kernel
theorem dX1_renew_13 : decode cX1_renew 13 = .ok (.aload_n 0, 1) := by decide +kernel
theorem dX1_renew_14 : decode cX1_renew 14 = .ok (.iload_n 1, 1) := by decide +kernel
theorem dX1_renew_15 : decode cX1_renew 15 = .ok (.putfield 25, 3) := by decide +kernel
theorem dX1_renew_18 : decode cX1_renew 18 = .ok (.aload_n 0, 1) := by decide +kernel
theorem dX1_renew_19 : decode cX1_renew 19 = .ok (.iload_n 2, 1) := by decide +kernel
theorem dX1_renew_20 : decode cX1_renew 20 = .ok (.putfield 29, 3) := by decide +kernel
theorem dX1_renew_23 : decode cX1_renew 23 = .ok (.return_, 1) := by decide +kernel
theorem dX1_isPlace_0 : decode cX1_isPlace 0 = .ok (.iload_n 1, 1) := by decide +kernel
theorem dX1_isPlace_1 : decode cX1_isPlace 1 = .ok (.ifCond .lt 15, 3) := by decide +kernel
theorem dX1_isPlace_4 : decode cX1_isPlace 4 = .ok (.iload_n 1, 1) := by decide +kernel
theorem dX1_isPlace_5 : decode cX1_isPlace 5 = .ok (.aload_n 0, 1) := by decide +kernel
theorem dX1_isPlace_6 : decode cX1_isPlace 6 = .ok (.getfield 29, 3) := by decide +kernel
theorem dX1_isPlace_9 : decode cX1_isPlace 9 = .ok (.if_icmp .ge 7, 3) := by decide +kernel
theorem dX1_isPlace_12 : decode cX1_isPlace 12 = .ok (.iconst 1, 1) := by decide +kernel
theorem dX1_isPlace_13 : decode cX1_isPlace 13 = .ok (.goto 4, 3) := by decide +kernel
theorem dX1_isPlace_16 : decode cX1_isPlace 16 = .ok (.iconst 0, 1) := by decide +kernel
theorem dX1_isPlace_17 : decode cX1_isPlace 17 = .ok (.ireturn, 1) := by decide +kernel
theorem dX1_hasCells_0 : decode cX1_hasCells 0 = .ok (.iload_n 1, 1) := by decide +kernel
theorem dX1_hasCells_1 : decode cX1_hasCells 1 = .ok (.ifCond .lt 29, 3) := by decide +kernel
theorem dX1_hasCells_4 : decode cX1_hasCells 4 = .ok (.iload_n 2, 1) := by decide +kernel
theorem dX1_hasCells_5 : decode cX1_hasCells 5 = .ok (.ifCond .lt 25, 3) := by decide +kernel
theorem dX1_hasCells_8 : decode cX1_hasCells 8 = .ok (.iload_n 1, 1) := by decide +kernel
theorem dX1_hasCells_9 : decode cX1_hasCells 9 = .ok (.aload_n 0, 1) := by decide +kernel
theorem dX1_hasCells_10 : decode cX1_hasCells 10 = .ok (.getfield 29, 3) := by decide +kernel
theorem dX1_hasCells_13 : decode cX1_hasCells 13 = .ok (.if_icmp .gt 17, 3) := by decide +kernel
theorem dX1_hasCells_16 : decode cX1_hasCells 16 = .ok (.iload_n 2, 1) := by decide +kernel
theorem dX1_hasCells_17 : decode cX1_hasCells 17 = .ok (.aload_n 0, 1) := by decide +kernel
theorem dX1_hasCells_18 : decode cX1_hasCells 18 = .ok (.getfield 29, 3) := by decide +kernel
theorem dX1_hasCells_21 : decode cX1_hasCells 21 = .ok (.iload_n 1, 1) := by decide +kernel
theorem dX1_hasCells_22 : decode cX1_hasCells 22 = .ok (.isub, 1) := by decide +kernel
theorem dX1_hasCells_23 : decode cX1_hasCells 23 = .ok (.if_icmp .gt 7, 3) := by decide +kernel
theorem dX1_hasCells_26 : decode cX1_hasCells 26 = .ok (.iconst 1, 1) := by decide +kernel
theorem dX1_hasCells_27 : decode cX1_hasCells 27 = .ok (.goto 4, 3) := by decide +kernel
theorem dX1_hasCells_30 : decode cX1_hasCells 30 = .ok (.iconst 0, 1) := by decide +kernel
theorem dX1_hasCells_31 : decode cX1_hasCells 31 = .ok (.ireturn, 1) := by decide +kernel
theorem dX1_cut_0 : decode cX1_cut 0 = .ok (.aload_n 0, 1) := by decide +kernel
theorem dX1_cut_1 : decode cX1_cut 1 = .ok (.getfield 25, 3) := by decide +kernel
theorem dX1_cut_4 : decode cX1_cut 4 = .ok (.lookupswitch 34 #[(0, 28), (1, 31)], 28) := by decide +kernel
theorem dX1_cut_32 : decode cX1_cut 32 = .ok (.iload_n 1, 1) := by decide +kernel
theorem dX1_cut_33 : decode cX1_cut 33 = .ok (.i2b, 1) := by decide +kernel
theorem dX1_cut_34 : decode cX1_cut 34 = .ok (.ireturn, 1) := by decide +kernel
theorem dX1_cut_35 : decode cX1_cut 35 = .ok (.iload_n 1, 1) := by decide +kernel
theorem dX1_cut_36 : decode cX1_cut 36 = .ok (.i2s, 1) := by decide +kernel
theorem dX1_cut_37 : decode cX1_cut 37 = .ok (.ireturn, 1) := by decide +kernel
theorem dX1_cut_38 : decode cX1_cut 38 = .ok (.iload_n 1, 1) := by decide +kernel
theorem dX1_cut_39 : decode cX1_cut 39 = .ok (.ireturn, 1) := by decide +kernel
theorem dX1_faultOfLane_0 : decode cX1_faultOfLane 0 = .ok (.aload_n 0, 1) := by decide +kernel
theorem dX1_faultOfLane_1 : decode cX1_faultOfLane 1 = .ok (.getfield 21, 3) := by decide +kernel
theorem dX1_faultOfLane_4 : decode cX1_faultOfLane 4 = .ok (.ifCond .ne 5, 3) := by decide +kernel
theorem dX1_faultOfLane_7 : decode cX1_faultOfLane 7 = .ok (.iconst 1, 1) := by decide +kernel
theorem dX1_faultOfLane_8 : decode cX1_faultOfLane 8 = .ok (.ireturn, 1) := by decide +kernel
theorem dX1_faultOfLane_9 : decode cX1_faultOfLane 9 = .ok (.aload_n 0, 1) := by decide +kernel
theorem dX1_faultOfLane_10 : decode cX1_faultOfLane 10 = .ok (.getfield 25, 3) := by decide +kernel
theorem dX1_faultOfLane_13 : decode cX1_faultOfLane 13 = .ok (.iload_n 1, 1) := by decide +kernel
theorem dX1_faultOfLane_14 : decode cX1_faultOfLane 14 = .ok (.if_icmp .ne 7, 3) := by decide +kernel
theorem dX1_faultOfLane_17 : decode cX1_faultOfLane 17 = .ok (.iconst 0, 1) := by decide +kernel
theorem dX1_faultOfLane_18 : decode cX1_faultOfLane 18 = .ok (.goto 4, 3) := by decide +kernel
theorem dX1_faultOfLane_21 : decode cX1_faultOfLane 21 = .ok (.iconst 2, 1) := by decide +kernel
theorem dX1_faultOfLane_22 : decode cX1_faultOfLane 22 = .ok (.ireturn, 1) := by decide +kernel
theorem dX1_faultOfCells_0 : decode cX1_faultOfCells 0 = .ok (.aload_n 0, 1) := by decide +kernel
theorem dX1_faultOfCells_1 : decode cX1_faultOfCells 1 = .ok (.iload_n 1, 1) := by decide +kernel
theorem dX1_faultOfCells_2 : decode cX1_faultOfCells 2 = .ok (.invokevirtual 32, 3) := by decide +kernel
theorem dX1_faultOfCells_5 : decode cX1_faultOfCells 5 = .ok (.istore 4, 2) := by decide +kernel
theorem dX1_faultOfCells_7 : decode cX1_faultOfCells 7 = .ok (.iload 4, 2) := by decide +kernel
theorem dX1_faultOfCells_9 : decode cX1_faultOfCells 9 = .ok (.ifCond .eq 6, 3) := by decide +kernel
theorem dX1_faultOfCells_12 : decode cX1_faultOfCells 12 = .ok (.iload 4, 2) := by decide +kernel
theorem dX1_faultOfCells_14 : decode cX1_faultOfCells 14 = .ok (.ireturn, 1) := by decide +kernel
theorem dX1_faultOfCells_15 : decode cX1_faultOfCells 15 = .ok (.iload_n 3, 1) := by decide +kernel
theorem dX1_faultOfCells_16 : decode cX1_faultOfCells 16 = .ok (.ifCond .ge 5, 3) := by decide +kernel
theorem dX1_faultOfCells_19 : decode cX1_faultOfCells 19 = .ok (.iconst 4, 1) := by decide +kernel
theorem dX1_faultOfCells_20 : decode cX1_faultOfCells 20 = .ok (.ireturn, 1) := by decide +kernel
theorem dX1_faultOfCells_21 : decode cX1_faultOfCells 21 = .ok (.aload_n 0, 1) := by decide +kernel
theorem dX1_faultOfCells_22 : decode cX1_faultOfCells 22 = .ok (.iload_n 2, 1) := by decide +kernel
theorem dX1_faultOfCells_23 : decode cX1_faultOfCells 23 = .ok (.iload_n 3, 1) := by decide +kernel
theorem dX1_faultOfCells_24 : decode cX1_faultOfCells 24 = .ok (.invokevirtual 36, 3) := by decide +kernel
theorem dX1_faultOfCells_27 : decode cX1_faultOfCells 27 = .ok (.ifCond .eq 7, 3) := by decide +kernel
theorem dX1_faultOfCells_30 : decode cX1_faultOfCells 30 = .ok (.iconst 0, 1) := by decide +kernel
theorem dX1_faultOfCells_31 : decode cX1_faultOfCells 31 = .ok (.goto 4, 3) := by decide +kernel
theorem dX1_faultOfCells_34 : decode cX1_faultOfCells 34 = .ok (.iconst 3, 1) := by decide +kernel
theorem dX1_faultOfCells_35 : decode cX1_faultOfCells 35 = .ok (.ireturn, 1) := by decide +kernel
theorem dX2_init_0 : decode cX2_init 0 = .ok (.aload_n 0, 1) := by decide +kernel
theorem dX2_init_1 : decode cX2_init 1 = .ok (.invokespecial 3, 3) := by decide +kernel
theorem dX2_init_4 : decode cX2_init 4 = .ok (.aload_n 0, 1) := by decide +kernel
theorem dX2_init_5 : decode cX2_init 5 = .ok (.iconst 5, 1) := by decide +kernel
theorem dX2_init_6 : decode cX2_init 6 = .ok (.newarray .int, 2) := by decide +kernel
theorem dX2_init_8 : decode cX2_init 8 = .ok (.putfield 9, 3) := by decide +kernel
theorem dX2_init_11 : decode cX2_init 11 = .ok (.aload_n 0, 1) := by decide +kernel
theorem dX2_init_12 : decode cX2_init 12 = .ok (.iconst 5, 1) := by decide +kernel
theorem dX2_init_13 : decode cX2_init 13 = .ok (.newarray .int, 2) := by decide +kernel
theorem dX2_init_15 : decode cX2_init 15 = .ok (.putfield 15, 3) := by decide +kernel
theorem dX2_init_18 : decode cX2_init 18 = .ok (.aload_n 0, 1) := by decide +kernel
theorem dX2_init_19 : decode cX2_init 19 = .ok (.iconst 5, 1) := by decide +kernel
theorem dX2_init_20 : decode cX2_init 20 = .ok (.newarray .int, 2) := by decide +kernel
theorem dX2_init_22 : decode cX2_init 22 = .ok (.putfield 18, 3) := by decide +kernel
theorem dX2_init_25 : decode cX2_init 25 = .ok (.aload_n 0, 1) := by decide +kernel
theorem dX2_init_26 : decode cX2_init 26 = .ok (.bipush 6, 2) := by decide +kernel
theorem dX2_init_28 : decode cX2_init 28 = .ok (.newarray .int, 2) := by decide +kernel
theorem dX2_init_30 : decode cX2_init 30 = .ok (.putfield 21, 3) := by decide +kernel
theorem dX2_init_33 : decode cX2_init 33 = .ok (.aload_n 0, 1) := by decide +kernel
theorem dX2_init_34 : decode cX2_init 34 = .ok (.aload_n 1, 1) := by decide +kernel
theorem dX2_init_35 : decode cX2_init 35 = .ok (.putfield 24, 3) := by decide +kernel
theorem dX2_init_38 : decode cX2_init 38 = .ok (.return_, 1) := by decide +kernel
theorem dX2_prepare_0 : decode cX2_prepare 0 = .ok (.aload_n 0, 1) := by decide +kernel
theorem dX2_prepare_1 : decode cX2_prepare 1 = .ok (.getfield 24, 3) := by decide +kernel
theorem dX2_prepare_4 : decode cX2_prepare 4 = .ok (.getfield 28, 3) := by decide +kernel
theorem dX2_prepare_7 : decode cX2_prepare 7 = .ok (.iconst 0, 1) := by decide +kernel
theorem dX2_prepare_8 : decode cX2_prepare 8 = .ok (.aload_n 0, 1) := by decide +kernel
theorem dX2_prepare_9 : decode cX2_prepare 9 = .ok (.getfield 9, 3) := by decide +kernel
theorem dX2_prepare_12 : decode cX2_prepare 12 = .ok (.iconst 0, 1) := by decide +kernel
theorem dX2_prepare_13 : decode cX2_prepare 13 = .ok (.iconst 5, 1) := by decide +kernel
theorem dX2_prepare_14 : decode cX2_prepare 14 = .ok (.invokestatic 31, 3) := by decide +kernel
theorem dX2_prepare_17 : decode cX2_prepare 17 = .ok (.aload_n 0, 1) := by decide +kernel
theorem dX2_prepare_18 : decode cX2_prepare 18 = .ok (.aload_n 0, 1) := by decide +kernel
theorem dX2_prepare_19 : decode cX2_prepare 19 = .ok (.getfield 24, 3) := by decide +kernel
theorem dX2_prepare_22 : decode cX2_prepare 22 = .ok (.getfield 37, 3) := by decide +kernel
theorem dX2_prepare_25 : decode cX2_prepare 25 = .ok (.putfield 41, 3) := by decide +kernel
theorem dX2_prepare_28 : decode cX2_prepare 28 = .ok (.aload_n 0, 1) := by decide +kernel
theorem dX2_prepare_29 : decode cX2_prepare 29 = .ok (.aload_n 0, 1) := by decide +kernel
theorem dX2_prepare_30 : decode cX2_prepare 30 = .ok (.getfield 24, 3) := by decide +kernel
theorem dX2_prepare_33 : decode cX2_prepare 33 = .ok (.getfield 42, 3) := by decide +kernel
theorem dX2_prepare_36 : decode cX2_prepare 36 = .ok (.putfield 45, 3) := by decide +kernel
theorem dX2_prepare_39 : decode cX2_prepare 39 = .ok (.aload_n 0, 1) := by decide +kernel
theorem dX2_prepare_40 : decode cX2_prepare 40 = .ok (.aload_n 0, 1) := by decide +kernel
theorem dX2_prepare_41 : decode cX2_prepare 41 = .ok (.getfield 24, 3) := by decide +kernel
theorem dX2_prepare_44 : decode cX2_prepare 44 = .ok (.getfield 46, 3) := by decide +kernel
theorem dX2_prepare_47 : decode cX2_prepare 47 = .ok (.putfield 49, 3) := by decide +kernel
theorem dX2_prepare_50 : decode cX2_prepare 50 = .ok (.aload_n 0, 1) := by decide +kernel
theorem dX2_prepare_51 : decode cX2_prepare 51 = .ok (.aload_n 0, 1) := by decide +kernel
theorem dX2_prepare_52 : decode cX2_prepare 52 = .ok (.getfield 45, 3) := by decide +kernel
theorem dX2_prepare_55 : decode cX2_prepare 55 = .ok (.putfield 50, 3) := by decide +kernel
theorem dX2_prepare_58 : decode cX2_prepare 58 = .ok (.aload_n 0, 1) := by decide +kernel
theorem dX2_prepare_59 : decode cX2_prepare 59 = .ok (.iconst 0, 1) := by decide +kernel
theorem dX2_prepare_60 : decode cX2_prepare 60 = .ok (.putfield 53, 3) := by decide +kernel
theorem dX2_prepare_63 : decode cX2_prepare 63 = .ok (.return_, 1) := by decide +kernel
theorem dX2_addToOrder_0 : decode cX2_addToOrder 0 = .ok (.aload_n 0, 1) := by decide +kernel
theorem dX2_addToOrder_1 : decode cX2_addToOrder 1 = .ok (.getfield 53, 3) := by decide +kernel
theorem dX2_addToOrder_4 : decode cX2_addToOrder 4 = .ok (.iconst 5, 1) := by decide +kernel
theorem dX2_addToOrder_5 : decode cX2_addToOrder 5 = .ok (.if_icmp .ge 23, 3) := by decide +kernel
theorem dX2_addToOrder_8 : decode cX2_addToOrder 8 = .ok (.aload_n 0, 1) := by decide +kernel
theorem dX2_addToOrder_9 : decode cX2_addToOrder 9 = .ok (.getfield 15, 3) := by decide +kernel
theorem dX2_addToOrder_12 : decode cX2_addToOrder 12 = .ok (.aload_n 0, 1) := by decide +kernel
theorem dX2_addToOrder_13 : decode cX2_addToOrder 13 = .ok (.getfield 53, 3) := by decide +kernel
theorem dX2_addToOrder_16 : decode cX2_addToOrder 16 = .ok (.iload_n 1, 1) := by decide +kernel
theorem dX2_addToOrder_17 : decode cX2_addToOrder 17 = .ok (.iastore, 1) := by decide +kernel
theorem dX2_addToOrder_18 : decode cX2_addToOrder 18 = .ok (.aload_n 0, 1) := by decide +kernel
theorem dX2_addToOrder_19 : decode cX2_addToOrder 19 = .ok (.dup, 1) := by decide +kernel
theorem dX2_addToOrder_20 : decode cX2_addToOrder 20 = .ok (.getfield 53, 3) := by decide +kernel
theorem dX2_addToOrder_23 : decode cX2_addToOrder 23 = .ok (.iconst 1, 1) := by decide +kernel
theorem dX2_addToOrder_24 : decode cX2_addToOrder 24 = .ok (.iadd, 1) := by decide +kernel
theorem dX2_addToOrder_25 : decode cX2_addToOrder 25 = .ok (.putfield 53, 3) := by decide +kernel
theorem dX2_addToOrder_28 : decode cX2_addToOrder 28 = .ok (.return_, 1) := by decide +kernel
theorem dX2_goToNextOrder_0 : decode cX2_goToNextOrder 0 = .ok (.aload_n 0, 1) := by decide +kernel
theorem dX2_goToNextOrder_1 : decode cX2_goToNextOrder 1 = .ok (.getfield 53, 3) := by decide +kernel
theorem dX2_goToNextOrder_4 : decode cX2_goToNextOrder 4 = .ok (.iconst 2, 1) := by decide +kernel
theorem dX2_goToNextOrder_5 : decode cX2_goToNextOrder 5 = .ok (.isub, 1) := by decide +kernel
theorem dX2_goToNextOrder_6 : decode cX2_goToNextOrder 6 = .ok (.istore_n 1, 1) := by decide +kernel
theorem dX2_goToNextOrder_7 : decode cX2_goToNextOrder 7 = .ok (.iload_n 1, 1) := by decide +kernel
theorem dX2_goToNextOrder_8 : decode cX2_goToNextOrder 8 = .ok (.ifCond .lt 26, 3) := by decide +kernel
theorem dX2_goToNextOrder_11 : decode cX2_goToNextOrder 11 = .ok (.aload_n 0, 1) := by decide +kernel
theorem dX2_goToNextOrder_12 : decode cX2_goToNextOrder 12 = .ok (.getfield 15, 3) := by decide +kernel
theorem dX2_goToNextOrder_15 : decode cX2_goToNextOrder 15 = .ok (.iload_n 1, 1) := by decide +kernel
theorem dX2_goToNextOrder_16 : decode cX2_goToNextOrder 16 = .ok (.iaload, 1) := by decide +kernel
theorem dX2_goToNextOrder_17 : decode cX2_goToNextOrder 17 = .ok (.aload_n 0, 1) := by decide +kernel
theorem dX2_goToNextOrder_18 : decode cX2_goToNextOrder 18 = .ok (.getfield 15, 3) := by decide +kernel
theorem dX2_goToNextOrder_21 : decode cX2_goToNextOrder 21 = .ok (.iload_n 1, 1) := by decide +kernel
theorem dX2_goToNextOrder_22 : decode cX2_goToNextOrder 22 = .ok (.iconst 1, 1) := by decide +kernel
theorem dX2_goToNextOrder_23 : decode cX2_goToNextOrder 23 = .ok (.iadd, 1) := by decide +kernel
theorem dX2_goToNextOrder_24 : decode cX2_goToNextOrder 24 = .ok (.iaload, 1) := by decide +kernel
theorem dX2_goToNextOrder_25 : decode cX2_goToNextOrder 25 = .ok (.if_icmp .le 9, 3) := by decide +kernel
theorem dX2_goToNextOrder_28 : decode cX2_goToNextOrder 28 = .ok (.iinc 1 (-1), 3) := by decide +kernel
theorem dX2_goToNextOrder_31 : decode cX2_goToNextOrder 31 = .ok (.goto (-24), 3) := by decide +kernel
theorem dX2_goToNextOrder_34 : decode cX2_goToNextOrder 34 = .ok (.iload_n 1, 1) := by decide +kernel
theorem dX2_goToNextOrder_35 : decode cX2_goToNextOrder 35 = .ok (.ifCond .ge 5, 3) := by decide +kernel
theorem dX2_goToNextOrder_38 : decode cX2_goToNextOrder 38 = .ok (.iconst 0, 1) := by decide +kernel
theorem dX2_goToNextOrder_39 : decode cX2_goToNextOrder 39 = .ok (.ireturn, 1) := by decide +kernel
theorem dX2_goToNextOrder_40 : decode cX2_goToNextOrder 40 = .ok (.aload_n 0, 1) := by decide +kernel
theorem dX2_goToNextOrder_41 : decode cX2_goToNextOrder 41 = .ok (.getfield 53, 3) := by decide +kernel
theorem dX2_goToNextOrder_44 : decode cX2_goToNextOrder 44 = .ok (.iconst 1, 1) := by decide +kernel
theorem dX2_goToNextOrder_45 : decode cX2_goToNextOrder 45 = .ok (.isub, 1) := by decide +kernel
theorem dX2_goToNextOrder_46 : decode cX2_goToNextOrder 46 = .ok (.istore_n 2, 1) := by decide +kernel
theorem dX2_goToNextOrder_47 : decode cX2_goToNextOrder 47 = .ok (.iload_n 2, 1) := by decide +kernel
theorem dX2_goToNextOrder_48 : decode cX2_goToNextOrder 48 = .ok (.iload_n 1, 1) := by decide +kernel
theorem dX2_goToNextOrder_49 : decode cX2_goToNextOrder 49 = .ok (.if_icmp .le 24, 3) := by decide +kernel
theorem dX2_goToNextOrder_52 : decode cX2_goToNextOrder 52 = .ok (.aload_n 0, 1) := by decide +kernel
theorem dX2_goToNextOrder_53 : decode cX2_goToNextOrder 53 = .ok (.getfield 15, 3) := by decide +kernel
theorem dX2_goToNextOrder_56 : decode cX2_goToNextOrder 56 = .ok (.iload_n 2, 1) := by decide +kernel
theorem dX2_goToNextOrder_57 : decode cX2_goToNextOrder 57 = .ok (.iaload, 1) := by decide +kernel
theorem dX2_goToNextOrder_58 : decode cX2_goToNextOrder 58 = .ok (.aload_n 0, 1) := by decide +kernel
theorem dX2_goToNextOrder_59 : decode cX2_goToNextOrder 59 = .ok (.getfield 15, 3) := by decide +kernel
theorem dX2_goToNextOrder_62 : decode cX2_goToNextOrder 62 = .ok (.iload_n 1, 1) := by decide +kernel
theorem dX2_goToNextOrder_63 : decode cX2_goToNextOrder 63 = .ok (.iaload, 1) := by decide +kernel
theorem dX2_goToNextOrder_64 : decode cX2_goToNextOrder 64 = .ok (.if_icmp .ge 9, 3) := by decide +kernel
theorem dX2_goToNextOrder_67 : decode cX2_goToNextOrder 67 = .ok (.iinc 2 (-1), 3) := by decide +kernel
theorem dX2_goToNextOrder_70 : decode cX2_goToNextOrder 70 = .ok (.goto (-23), 3) := by decide +kernel
theorem dX2_goToNextOrder_73 : decode cX2_goToNextOrder 73 = .ok (.aload_n 0, 1) := by decide +kernel
theorem dX2_goToNextOrder_74 : decode cX2_goToNextOrder 74 = .ok (.iload_n 1, 1) := by decide +kernel
theorem dX2_goToNextOrder_75 : decode cX2_goToNextOrder 75 = .ok (.iload_n 2, 1) := by decide +kernel
theorem dX2_goToNextOrder_76 : decode cX2_goToNextOrder 76 = .ok (.invokevirtual 56, 3) := by decide +kernel
theorem dX2_goToNextOrder_79 : decode cX2_goToNextOrder 79 = .ok (.iload_n 1, 1) := by decide +kernel
theorem dX2_goToNextOrder_80 : decode cX2_goToNextOrder 80 = .ok (.iconst 1, 1) := by decide +kernel
theorem dX2_goToNextOrder_81 : decode cX2_goToNextOrder 81 = .ok (.iadd, 1) := by decide +kernel
theorem dX2_goToNextOrder_82 : decode cX2_goToNextOrder 82 = .ok (.istore_n 3, 1) := by decide +kernel
theorem dX2_goToNextOrder_83 : decode cX2_goToNextOrder 83 = .ok (.aload_n 0, 1) := by decide +kernel
theorem dX2_goToNextOrder_84 : decode cX2_goToNextOrder 84 = .ok (.getfield 53, 3) := by decide +kernel
theorem dX2_goToNextOrder_87 : decode cX2_goToNextOrder 87 = .ok (.iconst 1, 1) := by decide +kernel
theorem dX2_goToNextOrder_88 : decode cX2_goToNextOrder 88 = .ok (.isub, 1) := by decide +kernel
theorem dX2_goToNextOrder_89 : decode cX2_goToNextOrder 89 = .ok (.istore 4, 2) := by decide +kernel
theorem dX2_goToNextOrder_91 : decode cX2_goToNextOrder 91 = .ok (.iload_n 3, 1) := by decide +kernel
theorem dX2_goToNextOrder_92 : decode cX2_goToNextOrder 92 = .ok (.iload 4, 2) := by decide +kernel
theorem dX2_goToNextOrder_94 : decode cX2_goToNextOrder 94 = .ok (.if_icmp .ge 19, 3) := by decide +kernel
theorem dX2_goToNextOrder_97 : decode cX2_goToNextOrder 97 = .ok (.aload_n 0, 1) := by decide +kernel
theorem dX2_goToNextOrder_98 : decode cX2_goToNextOrder 98 = .ok (.iload_n 3, 1) := by decide +kernel
theorem dX2_goToNextOrder_99 : decode cX2_goToNextOrder 99 = .ok (.iload 4, 2) := by decide +kernel
theorem dX2_goToNextOrder_101 : decode cX2_goToNextOrder 101 = .ok (.invokevirtual 56, 3) := by decide +kernel
theorem dX2_goToNextOrder_104 : decode cX2_goToNextOrder 104 = .ok (.iinc 3 1, 3) := by decide +kernel
theorem dX2_goToNextOrder_107 : decode cX2_goToNextOrder 107 = .ok (.iinc 4 (-1), 3) := by decide +kernel
theorem dX2_goToNextOrder_110 : decode cX2_goToNextOrder 110 = .ok (.goto (-19), 3) := by decide +kernel
theorem dX2_goToNextOrder_113 : decode cX2_goToNextOrder 113 = .ok (.iconst 1, 1) := by decide +kernel
theorem dX2_goToNextOrder_114 : decode cX2_goToNextOrder 114 = .ok (.ireturn, 1) := by decide +kernel
theorem dX2_swapInOrder_0 : decode cX2_swapInOrder 0 = .ok (.aload_n 0, 1) := by decide +kernel
theorem dX2_swapInOrder_1 : decode cX2_swapInOrder 1 = .ok (.getfield 15, 3) := by decide +kernel
theorem dX2_swapInOrder_4 : decode cX2_swapInOrder 4 = .ok (.iload_n 1, 1) := by decide +kernel
theorem dX2_swapInOrder_5 : decode cX2_swapInOrder 5 = .ok (.iaload, 1) := by decide +kernel
theorem dX2_swapInOrder_6 : decode cX2_swapInOrder 6 = .ok (.istore_n 3, 1) := by decide +kernel
theorem dX2_swapInOrder_7 : decode cX2_swapInOrder 7 = .ok (.aload_n 0, 1) := by decide +kernel
theorem dX2_swapInOrder_8 : decode cX2_swapInOrder 8 = .ok (.getfield 15, 3) := by decide +kernel
theorem dX2_swapInOrder_11 : decode cX2_swapInOrder 11 = .ok (.iload_n 1, 1) := by decide +kernel
theorem dX2_swapInOrder_12 : decode cX2_swapInOrder 12 = .ok (.aload_n 0, 1) := by decide +kernel
theorem dX2_swapInOrder_13 : decode cX2_swapInOrder 13 = .ok (.getfield 15, 3) := by decide +kernel
theorem dX2_swapInOrder_16 : decode cX2_swapInOrder 16 = .ok (.iload_n 2, 1) := by decide +kernel
theorem dX2_swapInOrder_17 : decode cX2_swapInOrder 17 = .ok (.iaload, 1) := by decide +kernel
theorem dX2_swapInOrder_18 : decode cX2_swapInOrder 18 = .ok (.iastore, 1) := by decide +kernel
theorem dX2_swapInOrder_19 : decode cX2_swapInOrder 19 = .ok (.aload_n 0, 1) := by decide +kernel
theorem dX2_swapInOrder_20 : decode cX2_swapInOrder 20 = .ok (.getfield 15, 3) := by decide +kernel
theorem dX2_swapInOrder_23 : decode cX2_swapInOrder 23 = .ok (.iload_n 2, 1) := by decide +kernel
theorem dX2_swapInOrder_24 : decode cX2_swapInOrder 24 = .ok (.iload_n 3, 1) := by decide +kernel
theorem dX2_swapInOrder_25 : decode cX2_swapInOrder 25 = .ok (.iastore, 1) := by decide +kernel
theorem dX2_swapInOrder_26 : decode cX2_swapInOrder 26 = .ok (.return_, 1) := by decide +kernel
theorem dX2_hold_0 : decode cX2_hold 0 = .ok (.aload_n 0, 1) := by decide +kernel
theorem dX2_hold_1 : decode cX2_hold 1 = .ok (.getfield 18, 3) := by decide +kernel
theorem dX2_hold_4 : decode cX2_hold 4 = .ok (.bipush (-9), 2) := by decide +kernel
theorem dX2_hold_6 : decode cX2_hold 6 = .ok (.invokestatic 60, 3) := by decide +kernel
theorem dX2_hold_9 : decode cX2_hold 9 = .ok (.aload_n 0, 1) := by decide +kernel
theorem dX2_hold_10 : decode cX2_hold 10 = .ok (.getfield 21, 3) := by decide +kernel
theorem dX2_hold_13 : decode cX2_hold 13 = .ok (.bipush (-9), 2) := by decide +kernel
theorem dX2_hold_15 : decode cX2_hold 15 = .ok (.invokestatic 60, 3) := by decide +kernel
theorem dX2_hold_18 : decode cX2_hold 18 = .ok (.aload_n 0, 1) := by decide +kernel
theorem dX2_hold_19 : decode cX2_hold 19 = .ok (.aload_n 0, 1) := by decide +kernel
theorem dX2_hold_20 : decode cX2_hold 20 = .ok (.getfield 45, 3) := by decide +kernel
theorem dX2_hold_23 : decode cX2_hold 23 = .ok (.putfield 50, 3) := by decide +kernel
theorem dX2_hold_26 : decode cX2_hold 26 = .ok (.aload_n 0, 1) := by decide +kernel
theorem dX2_hold_27 : decode cX2_hold 27 = .ok (.iconst 0, 1) := by decide +kernel
theorem dX2_hold_28 : decode cX2_hold 28 = .ok (.putfield 66, 3) := by decide +kernel
theorem dX2_hold_31 : decode cX2_hold 31 = .ok (.aload_n 0, 1) := by decide +kernel
theorem dX2_hold_32 : decode cX2_hold 32 = .ok (.iconst 0, 1) := by decide +kernel
theorem dX2_hold_33 : decode cX2_hold 33 = .ok (.putfield 69, 3) := by decide +kernel
theorem dX2_hold_36 : decode cX2_hold 36 = .ok (.iconst 0, 1) := by decide +kernel
theorem dX2_hold_37 : decode cX2_hold 37 = .ok (.istore_n 1, 1) := by decide +kernel
theorem dX2_hold_38 : decode cX2_hold 38 = .ok (.iconst 0, 1) := by decide +kernel
theorem dX2_hold_39 : decode cX2_hold 39 = .ok (.istore_n 2, 1) := by decide +kernel
theorem dX2_hold_40 : decode cX2_hold 40 = .ok (.iload_n 2, 1) := by decide +kernel
theorem dX2_hold_41 : decode cX2_hold 41 = .ok (.aload_n 0, 1) := by decide +kernel
theorem dX2_hold_42 : decode cX2_hold 42 = .ok (.getfield 53, 3) := by decide +kernel
theorem dX2_hold_45 : decode cX2_hold 45 = .ok (.if_icmp .ge 116, 3) := by decide +kernel
theorem dX2_hold_48 : decode cX2_hold 48 = .ok (.aload_n 0, 1) := by decide +kernel
theorem dX2_hold_49 : decode cX2_hold 49 = .ok (.getfield 15, 3) := by decide +kernel
theorem dX2_hold_52 : decode cX2_hold 52 = .ok (.iload_n 2, 1) := by decide +kernel
theorem dX2_hold_53 : decode cX2_hold 53 = .ok (.iaload, 1) := by decide +kernel
theorem dX2_hold_54 : decode cX2_hold 54 = .ok (.istore_n 3, 1) := by decide +kernel
theorem dX2_hold_55 : decode cX2_hold 55 = .ok (.aload_n 0, 1) := by decide +kernel
theorem dX2_hold_56 : decode cX2_hold 56 = .ok (.getfield 21, 3) := by decide +kernel
theorem dX2_hold_59 : decode cX2_hold 59 = .ok (.aload_n 0, 1) := by decide +kernel
theorem dX2_hold_60 : decode cX2_hold 60 = .ok (.getfield 24, 3) := by decide +kernel
theorem dX2_hold_63 : decode cX2_hold 63 = .ok (.getfield 72, 3) := by decide +kernel
theorem dX2_hold_66 : decode cX2_hold 66 = .ok (.iload_n 3, 1) := by decide +kernel
theorem dX2_hold_67 : decode cX2_hold 67 = .ok (.iaload, 1) := by decide +kernel
theorem dX2_hold_68 : decode cX2_hold 68 = .ok (.iaload, 1) := by decide +kernel
theorem dX2_hold_69 : decode cX2_hold 69 = .ok (.bipush (-9), 2) := by decide +kernel
theorem dX2_hold_71 : decode cX2_hold 71 = .ok (.if_icmp .ne 7, 3) := by decide +kernel
theorem dX2_hold_74 : decode cX2_hold 74 = .ok (.iconst 1, 1) := by decide +kernel
theorem dX2_hold_75 : decode cX2_hold 75 = .ok (.goto 4, 3) := by decide +kernel
theorem dX2_hold_78 : decode cX2_hold 78 = .ok (.iconst 0, 1) := by decide +kernel
theorem dX2_hold_79 : decode cX2_hold 79 = .ok (.istore 4, 2) := by decide +kernel
theorem dX2_hold_81 : decode cX2_hold 81 = .ok (.aload_n 0, 1) := by decide +kernel
theorem dX2_hold_82 : decode cX2_hold 82 = .ok (.getfield 66, 3) := by decide +kernel
theorem dX2_hold_85 : decode cX2_hold 85 = .ok (.iload 4, 2) := by decide +kernel
theorem dX2_hold_87 : decode cX2_hold 87 = .ok (.ifCond .eq 15, 3) := by decide +kernel
theorem dX2_hold_90 : decode cX2_hold 90 = .ok (.aload_n 0, 1) := by decide +kernel
theorem dX2_hold_91 : decode cX2_hold 91 = .ok (.getfield 24, 3) := by decide +kernel
theorem dX2_hold_94 : decode cX2_hold 94 = .ok (.getfield 75, 3) := by decide +kernel
theorem dX2_hold_97 : decode cX2_hold 97 = .ok (.iload_n 3, 1) := by decide +kernel
theorem dX2_hold_98 : decode cX2_hold 98 = .ok (.iaload, 1) := by decide +kernel
theorem dX2_hold_99 : decode cX2_hold 99 = .ok (.goto 4, 3) := by decide +kernel
theorem dX2_hold_102 : decode cX2_hold 102 = .ok (.iconst 1, 1) := by decide +kernel
theorem dX2_hold_103 : decode cX2_hold 103 = .ok (.iadd, 1) := by decide +kernel
theorem dX2_hold_104 : decode cX2_hold 104 = .ok (.istore 5, 2) := by decide +kernel
theorem dX2_hold_106 : decode cX2_hold 106 = .ok (.iload_n 1, 1) := by decide +kernel
theorem dX2_hold_107 : decode cX2_hold 107 = .ok (.ifCond .ne 15, 3) := by decide +kernel
theorem dX2_hold_110 : decode cX2_hold 110 = .ok (.iload 5, 2) := by decide +kernel
theorem dX2_hold_112 : decode cX2_hold 112 = .ok (.aload_n 0, 1) := by decide +kernel
theorem dX2_hold_113 : decode cX2_hold 113 = .ok (.getfield 24, 3) := by decide +kernel
theorem dX2_hold_116 : decode cX2_hold 116 = .ok (.getfield 78, 3) := by decide +kernel
theorem dX2_hold_119 : decode cX2_hold 119 = .ok (.if_icmp .le 7, 3) := by decide +kernel
theorem dX2_hold_122 : decode cX2_hold 122 = .ok (.iconst 1, 1) := by decide +kernel
theorem dX2_hold_123 : decode cX2_hold 123 = .ok (.goto 4, 3) := by decide +kernel
theorem dX2_hold_126 : decode cX2_hold 126 = .ok (.iconst 0, 1) := by decide +kernel
theorem dX2_hold_127 : decode cX2_hold 127 = .ok (.istore_n 1, 1) := by decide +kernel
theorem dX2_hold_128 : decode cX2_hold 128 = .ok (.iload_n 1, 1) := by decide +kernel
theorem dX2_hold_129 : decode cX2_hold 129 = .ok (.ifCond .eq 13, 3) := by decide +kernel
theorem dX2_hold_132 : decode cX2_hold 132 = .ok (.aload_n 0, 1) := by decide +kernel
theorem dX2_hold_133 : decode cX2_hold 133 = .ok (.getfield 18, 3) := by decide +kernel
theorem dX2_hold_136 : decode cX2_hold 136 = .ok (.iload_n 3, 1) := by decide +kernel
theorem dX2_hold_137 : decode cX2_hold 137 = .ok (.iconst 2, 1) := by decide +kernel
theorem dX2_hold_138 : decode cX2_hold 138 = .ok (.iastore, 1) := by decide +kernel
theorem dX2_hold_139 : decode cX2_hold 139 = .ok (.goto 16, 3) := by decide +kernel
theorem dX2_hold_142 : decode cX2_hold 142 = .ok (.aload_n 0, 1) := by decide +kernel
theorem dX2_hold_143 : decode cX2_hold 143 = .ok (.iload 5, 2) := by decide +kernel
theorem dX2_hold_145 : decode cX2_hold 145 = .ok (.putfield 66, 3) := by decide +kernel
theorem dX2_hold_148 : decode cX2_hold 148 = .ok (.aload_n 0, 1) := by decide +kernel
theorem dX2_hold_149 : decode cX2_hold 149 = .ok (.iload_n 3, 1) := by decide +kernel
theorem dX2_hold_150 : decode cX2_hold 150 = .ok (.iload 4, 2) := by decide +kernel
theorem dX2_hold_152 : decode cX2_hold 152 = .ok (.invokevirtual 81, 3) := by decide +kernel
theorem dX2_hold_155 : decode cX2_hold 155 = .ok (.iinc 2 1, 3) := by decide +kernel
theorem dX2_hold_158 : decode cX2_hold 158 = .ok (.goto (-118), 3) := by decide +kernel
theorem dX2_hold_161 : decode cX2_hold 161 = .ok (.return_, 1) := by decide +kernel
theorem dX2_judge_0 : decode cX2_judge 0 = .ok (.aload_n 0, 1) := by decide +kernel
theorem dX2_judge_1 : decode cX2_judge 1 = .ok (.getfield 24, 3) := by decide +kernel
theorem dX2_judge_4 : decode cX2_judge 4 = .ok (.getfield 72, 3) := by decide +kernel
theorem dX2_judge_7 : decode cX2_judge 7 = .ok (.iload_n 1, 1) := by decide +kernel
theorem dX2_judge_8 : decode cX2_judge 8 = .ok (.iaload, 1) := by decide +kernel
theorem dX2_judge_9 : decode cX2_judge 9 = .ok (.istore_n 3, 1) := by decide +kernel
theorem dX2_judge_10 : decode cX2_judge 10 = .ok (.iload_n 2, 1) := by decide +kernel
theorem dX2_judge_11 : decode cX2_judge 11 = .ok (.ifCond .eq 42, 3) := by decide +kernel
theorem dX2_judge_14 : decode cX2_judge 14 = .ok (.aload_n 0, 1) := by decide +kernel
theorem dX2_judge_15 : decode cX2_judge 15 = .ok (.iload_n 3, 1) := by decide +kernel
theorem dX2_judge_16 : decode cX2_judge 16 = .ok (.aload_n 0, 1) := by decide +kernel
theorem dX2_judge_17 : decode cX2_judge 17 = .ok (.getfield 66, 3) := by decide +kernel
theorem dX2_judge_20 : decode cX2_judge 20 = .ok (.invokevirtual 85, 3) := by decide +kernel
theorem dX2_judge_23 : decode cX2_judge 23 = .ok (.invokestatic 89, 3) := by decide +kernel
theorem dX2_judge_26 : decode cX2_judge 26 = .ok (.istore 4, 2) := by decide +kernel
theorem dX2_judge_28 : decode cX2_judge 28 = .ok (.aload_n 0, 1) := by decide +kernel
theorem dX2_judge_29 : decode cX2_judge 29 = .ok (.getfield 21, 3) := by decide +kernel
theorem dX2_judge_32 : decode cX2_judge 32 = .ok (.iload_n 3, 1) := by decide +kernel
theorem dX2_judge_33 : decode cX2_judge 33 = .ok (.iconst 2, 1) := by decide +kernel
theorem dX2_judge_34 : decode cX2_judge 34 = .ok (.iload 4, 2) := by decide +kernel
theorem dX2_judge_36 : decode cX2_judge 36 = .ok (.imul, 1) := by decide +kernel
theorem dX2_judge_37 : decode cX2_judge 37 = .ok (.aload_n 0, 1) := by decide +kernel
theorem dX2_judge_38 : decode cX2_judge 38 = .ok (.invokevirtual 95, 3) := by decide +kernel
theorem dX2_judge_41 : decode cX2_judge 41 = .ok (.invokestatic 89, 3) := by decide +kernel
theorem dX2_judge_44 : decode cX2_judge 44 = .ok (.if_icmp .le 7, 3) := by decide +kernel
theorem dX2_judge_47 : decode cX2_judge 47 = .ok (.iconst 1, 1) := by decide +kernel
theorem dX2_judge_48 : decode cX2_judge 48 = .ok (.goto 4, 3) := by decide +kernel
theorem dX2_judge_51 : decode cX2_judge 51 = .ok (.iconst 0, 1) := by decide +kernel
theorem dX2_judge_52 : decode cX2_judge 52 = .ok (.iastore, 1) := by decide +kernel
theorem dX2_judge_53 : decode cX2_judge 53 = .ok (.aload_n 0, 1) := by decide +kernel
theorem dX2_judge_54 : decode cX2_judge 54 = .ok (.getfield 18, 3) := by decide +kernel
theorem dX2_judge_57 : decode cX2_judge 57 = .ok (.iload_n 1, 1) := by decide +kernel
theorem dX2_judge_58 : decode cX2_judge 58 = .ok (.aload_n 0, 1) := by decide +kernel
theorem dX2_judge_59 : decode cX2_judge 59 = .ok (.getfield 21, 3) := by decide +kernel
theorem dX2_judge_62 : decode cX2_judge 62 = .ok (.iload_n 3, 1) := by decide +kernel
theorem dX2_judge_63 : decode cX2_judge 63 = .ok (.iaload, 1) := by decide +kernel
theorem dX2_judge_64 : decode cX2_judge 64 = .ok (.iastore, 1) := by decide +kernel
theorem dX2_judge_65 : decode cX2_judge 65 = .ok (.aload_n 0, 1) := by decide +kernel
theorem dX2_judge_66 : decode cX2_judge 66 = .ok (.getfield 18, 3) := by decide +kernel
theorem dX2_judge_69 : decode cX2_judge 69 = .ok (.iload_n 1, 1) := by decide +kernel
theorem dX2_judge_70 : decode cX2_judge 70 = .ok (.iaload, 1) := by decide +kernel
theorem dX2_judge_71 : decode cX2_judge 71 = .ok (.iconst 1, 1) := by decide +kernel
theorem dX2_judge_72 : decode cX2_judge 72 = .ok (.if_icmp .ne 21, 3) := by decide +kernel
theorem dX2_judge_75 : decode cX2_judge 75 = .ok (.aload_n 0, 1) := by decide +kernel
theorem dX2_judge_76 : decode cX2_judge 76 = .ok (.dup, 1) := by decide +kernel
theorem dX2_judge_77 : decode cX2_judge 77 = .ok (.getfield 69, 3) := by decide +kernel
theorem dX2_judge_80 : decode cX2_judge 80 = .ok (.aload_n 0, 1) := by decide +kernel
theorem dX2_judge_81 : decode cX2_judge 81 = .ok (.getfield 24, 3) := by decide +kernel
theorem dX2_judge_84 : decode cX2_judge 84 = .ok (.getfield 99, 3) := by decide +kernel
theorem dX2_judge_87 : decode cX2_judge 87 = .ok (.iload_n 1, 1) := by decide +kernel
theorem dX2_judge_88 : decode cX2_judge 88 = .ok (.iaload, 1) := by decide +kernel
theorem dX2_judge_89 : decode cX2_judge 89 = .ok (.iadd, 1) := by decide +kernel
theorem dX2_judge_90 : decode cX2_judge 90 = .ok (.putfield 69, 3) := by decide +kernel
theorem dX2_judge_93 : decode cX2_judge 93 = .ok (.return_, 1) := by decide +kernel
theorem dX2_voters_0 : decode cX2_voters 0 = .ok (.iconst 1, 1) := by decide +kernel
theorem dX2_voters_1 : decode cX2_voters 1 = .ok (.aload_n 0, 1) := by decide +kernel
theorem dX2_voters_2 : decode cX2_voters 2 = .ok (.getfield 24, 3) := by decide +kernel
theorem dX2_voters_5 : decode cX2_voters 5 = .ok (.getfield 102, 3) := by decide +kernel
theorem dX2_voters_8 : decode cX2_voters 8 = .ok (.ishl, 1) := by decide +kernel
theorem dX2_voters_9 : decode cX2_voters 9 = .ok (.iconst 1, 1) := by decide +kernel
theorem dX2_voters_10 : decode cX2_voters 10 = .ok (.isub, 1) := by decide +kernel
theorem dX2_voters_11 : decode cX2_voters 11 = .ok (.istore_n 1, 1) := by decide +kernel
theorem dX2_voters_12 : decode cX2_voters 12 = .ok (.iload_n 1, 1) := by decide +kernel
theorem dX2_voters_13 : decode cX2_voters 13 = .ok (.aload_n 0, 1) := by decide +kernel
theorem dX2_voters_14 : decode cX2_voters 14 = .ok (.getfield 49, 3) := by decide +kernel
theorem dX2_voters_17 : decode cX2_voters 17 = .ok (.iconst (-1), 1) := by decide +kernel
theorem dX2_voters_18 : decode cX2_voters 18 = .ok (.ixor, 1) := by decide +kernel
theorem dX2_voters_19 : decode cX2_voters 19 = .ok (.iand, 1) := by decide +kernel
theorem dX2_voters_20 : decode cX2_voters 20 = .ok (.ireturn, 1) := by decide +kernel
theorem dX2_guiltyVotes_0 : decode cX2_guiltyVotes 0 = .ok (.aload_n 0, 1) := by decide +kernel
theorem dX2_guiltyVotes_1 : decode cX2_guiltyVotes 1 = .ok (.getfield 41, 3) := by decide +kernel
theorem dX2_guiltyVotes_4 : decode cX2_guiltyVotes 4 = .ok (.iload_n 1, 1) := by decide +kernel
theorem dX2_guiltyVotes_5 : decode cX2_guiltyVotes 5 = .ok (.invokestatic 105, 3) := by decide +kernel
theorem dX2_guiltyVotes_8 : decode cX2_guiltyVotes 8 = .ok (.iconst 1, 1) := by decide +kernel
theorem dX2_guiltyVotes_9 : decode cX2_guiltyVotes 9 = .ok (.if_icmp .ne 7, 3) := by decide +kernel
theorem dX2_guiltyVotes_12 : decode cX2_guiltyVotes 12 = .ok (.iconst 1, 1) := by decide +kernel
theorem dX2_guiltyVotes_13 : decode cX2_guiltyVotes 13 = .ok (.goto 4, 3) := by decide +kernel
theorem dX2_guiltyVotes_16 : decode cX2_guiltyVotes 16 = .ok (.iconst 0, 1) := by decide +kernel
theorem dX2_guiltyVotes_17 : decode cX2_guiltyVotes 17 = .ok (.istore_n 3, 1) := by decide +kernel
theorem dX2_guiltyVotes_18 : decode cX2_guiltyVotes 18 = .ok (.aload_n 0, 1) := by decide +kernel
theorem dX2_guiltyVotes_19 : decode cX2_guiltyVotes 19 = .ok (.invokevirtual 95, 3) := by decide +kernel
theorem dX2_guiltyVotes_22 : decode cX2_guiltyVotes 22 = .ok (.istore 4, 2) := by decide +kernel
theorem dX2_guiltyVotes_24 : decode cX2_guiltyVotes 24 = .ok (.iconst 0, 1) := by decide +kernel
theorem dX2_guiltyVotes_25 : decode cX2_guiltyVotes 25 = .ok (.istore 5, 2) := by decide +kernel
theorem dX2_guiltyVotes_27 : decode cX2_guiltyVotes 27 = .ok (.iconst 0, 1) := by decide +kernel
theorem dX2_guiltyVotes_28 : decode cX2_guiltyVotes 28 = .ok (.istore 6, 2) := by decide +kernel
theorem dX2_guiltyVotes_30 : decode cX2_guiltyVotes 30 = .ok (.iload 6, 2) := by decide +kernel
theorem dX2_guiltyVotes_32 : decode cX2_guiltyVotes 32 = .ok (.aload_n 0, 1) := by decide +kernel
theorem dX2_guiltyVotes_33 : decode cX2_guiltyVotes 33 = .ok (.getfield 24, 3) := by decide +kernel
theorem dX2_guiltyVotes_36 : decode cX2_guiltyVotes 36 = .ok (.getfield 102, 3) := by decide +kernel
theorem dX2_guiltyVotes_39 : decode cX2_guiltyVotes 39 = .ok (.if_icmp .ge 40, 3) := by decide +kernel
theorem dX2_guiltyVotes_42 : decode cX2_guiltyVotes 42 = .ok (.iload 4, 2) := by decide +kernel
theorem dX2_guiltyVotes_44 : decode cX2_guiltyVotes 44 = .ok (.iload 6, 2) := by decide +kernel
theorem dX2_guiltyVotes_46 : decode cX2_guiltyVotes 46 = .ok (.invokestatic 105, 3) := by decide +kernel
theorem dX2_guiltyVotes_49 : decode cX2_guiltyVotes 49 = .ok (.iconst 1, 1) := by decide +kernel
theorem dX2_guiltyVotes_50 : decode cX2_guiltyVotes 50 = .ok (.if_icmp .ne 23, 3) := by decide +kernel
theorem dX2_guiltyVotes_53 : decode cX2_guiltyVotes 53 = .ok (.aload_n 0, 1) := by decide +kernel
theorem dX2_guiltyVotes_54 : decode cX2_guiltyVotes 54 = .ok (.iload 6, 2) := by decide +kernel
theorem dX2_guiltyVotes_56 : decode cX2_guiltyVotes 56 = .ok (.iload_n 3, 1) := by decide +kernel
theorem dX2_guiltyVotes_57 : decode cX2_guiltyVotes 57 = .ok (.iload_n 2, 1) := by decide +kernel
theorem dX2_guiltyVotes_58 : decode cX2_guiltyVotes 58 = .ok (.invokevirtual 108, 3) := by decide +kernel
theorem dX2_guiltyVotes_61 : decode cX2_guiltyVotes 61 = .ok (.ifCond .eq 12, 3) := by decide +kernel
theorem dX2_guiltyVotes_64 : decode cX2_guiltyVotes 64 = .ok (.iload 5, 2) := by decide +kernel
theorem dX2_guiltyVotes_66 : decode cX2_guiltyVotes 66 = .ok (.iconst 1, 1) := by decide +kernel
theorem dX2_guiltyVotes_67 : decode cX2_guiltyVotes 67 = .ok (.iload 6, 2) := by decide +kernel
theorem dX2_guiltyVotes_69 : decode cX2_guiltyVotes 69 = .ok (.ishl, 1) := by decide +kernel
theorem dX2_guiltyVotes_70 : decode cX2_guiltyVotes 70 = .ok (.ior, 1) := by decide +kernel
theorem dX2_guiltyVotes_71 : decode cX2_guiltyVotes 71 = .ok (.istore 5, 2) := by decide +kernel
theorem dX2_guiltyVotes_73 : decode cX2_guiltyVotes 73 = .ok (.iinc 6 1, 3) := by decide +kernel
theorem dX2_guiltyVotes_76 : decode cX2_guiltyVotes 76 = .ok (.goto (-46), 3) := by decide +kernel
theorem dX2_guiltyVotes_79 : decode cX2_guiltyVotes 79 = .ok (.iload 5, 2) := by decide +kernel
theorem dX2_guiltyVotes_81 : decode cX2_guiltyVotes 81 = .ok (.ireturn, 1) := by decide +kernel
theorem dX2_votesGuilty_0 : decode cX2_votesGuilty 0 = .ok (.aload_n 0, 1) := by decide +kernel
theorem dX2_votesGuilty_1 : decode cX2_votesGuilty 1 = .ok (.getfield 9, 3) := by decide +kernel
theorem dX2_votesGuilty_4 : decode cX2_votesGuilty 4 = .ok (.iload_n 1, 1) := by decide +kernel
theorem dX2_votesGuilty_5 : decode cX2_votesGuilty 5 = .ok (.iaload, 1) := by decide +kernel
theorem dX2_votesGuilty_6 : decode cX2_votesGuilty 6 = .ok (.iconst 2, 1) := by decide +kernel
theorem dX2_votesGuilty_7 : decode cX2_votesGuilty 7 = .ok (.if_icmp .ne 30, 3) := by decide +kernel
theorem dX2_votesGuilty_10 : decode cX2_votesGuilty 10 = .ok (.aload_n 0, 1) := by decide +kernel
theorem dX2_votesGuilty_11 : decode cX2_votesGuilty 11 = .ok (.getfield 50, 3) := by decide +kernel
theorem dX2_votesGuilty_14 : decode cX2_votesGuilty 14 = .ok (.iconst 1, 1) := by decide +kernel
theorem dX2_votesGuilty_15 : decode cX2_votesGuilty 15 = .ok (.iload_n 1, 1) := by decide +kernel
theorem dX2_votesGuilty_16 : decode cX2_votesGuilty 16 = .ok (.ishl, 1) := by decide +kernel
theorem dX2_votesGuilty_17 : decode cX2_votesGuilty 17 = .ok (.iand, 1) := by decide +kernel
theorem dX2_votesGuilty_18 : decode cX2_votesGuilty 18 = .ok (.ifCond .eq 19, 3) := by decide +kernel
theorem dX2_votesGuilty_21 : decode cX2_votesGuilty 21 = .ok (.aload_n 0, 1) := by decide +kernel
theorem dX2_votesGuilty_22 : decode cX2_votesGuilty 22 = .ok (.dup, 1) := by decide +kernel
theorem dX2_votesGuilty_23 : decode cX2_votesGuilty 23 = .ok (.getfield 50, 3) := by decide +kernel
theorem dX2_votesGuilty_26 : decode cX2_votesGuilty 26 = .ok (.iconst 1, 1) := by decide +kernel
theorem dX2_votesGuilty_27 : decode cX2_votesGuilty 27 = .ok (.iload_n 1, 1) := by decide +kernel
theorem dX2_votesGuilty_28 : decode cX2_votesGuilty 28 = .ok (.ishl, 1) := by decide +kernel
theorem dX2_votesGuilty_29 : decode cX2_votesGuilty 29 = .ok (.iconst (-1), 1) := by decide +kernel
theorem dX2_votesGuilty_30 : decode cX2_votesGuilty 30 = .ok (.ixor, 1) := by decide +kernel
theorem dX2_votesGuilty_31 : decode cX2_votesGuilty 31 = .ok (.iand, 1) := by decide +kernel
theorem dX2_votesGuilty_32 : decode cX2_votesGuilty 32 = .ok (.putfield 50, 3) := by decide +kernel
theorem dX2_votesGuilty_35 : decode cX2_votesGuilty 35 = .ok (.iconst 0, 1) := by decide +kernel
theorem dX2_votesGuilty_36 : decode cX2_votesGuilty 36 = .ok (.ireturn, 1) := by decide +kernel
theorem dX2_votesGuilty_37 : decode cX2_votesGuilty 37 = .ok (.iload_n 2, 1) := by decide +kernel
theorem dX2_votesGuilty_38 : decode cX2_votesGuilty 38 = .ok (.ifCond .ne 28, 3) := by decide +kernel
theorem dX2_votesGuilty_41 : decode cX2_votesGuilty 41 = .ok (.aload_n 0, 1) := by decide +kernel
theorem dX2_votesGuilty_42 : decode cX2_votesGuilty 42 = .ok (.getfield 9, 3) := by decide +kernel
theorem dX2_votesGuilty_45 : decode cX2_votesGuilty 45 = .ok (.iload_n 1, 1) := by decide +kernel
theorem dX2_votesGuilty_46 : decode cX2_votesGuilty 46 = .ok (.iaload, 1) := by decide +kernel
theorem dX2_votesGuilty_47 : decode cX2_votesGuilty 47 = .ok (.iconst 1, 1) := by decide +kernel
theorem dX2_votesGuilty_48 : decode cX2_votesGuilty 48 = .ok (.if_icmp .ne 22, 3) := by decide +kernel
theorem dX2_votesGuilty_51 : decode cX2_votesGuilty 51 = .ok (.iload_n 3, 1) := by decide +kernel
theorem dX2_votesGuilty_52 : decode cX2_votesGuilty 52 = .ok (.iconst 5, 1) := by decide +kernel
theorem dX2_votesGuilty_53 : decode cX2_votesGuilty 53 = .ok (.aload_n 0, 1) := by decide +kernel
theorem dX2_votesGuilty_54 : decode cX2_votesGuilty 54 = .ok (.getfield 24, 3) := by decide +kernel
theorem dX2_votesGuilty_57 : decode cX2_votesGuilty 57 = .ok (.getfield 112, 3) := by decide +kernel
theorem dX2_votesGuilty_60 : decode cX2_votesGuilty 60 = .ok (.iload_n 1, 1) := by decide +kernel
theorem dX2_votesGuilty_61 : decode cX2_votesGuilty 61 = .ok (.iaload, 1) := by decide +kernel
theorem dX2_votesGuilty_62 : decode cX2_votesGuilty 62 = .ok (.imul, 1) := by decide +kernel
theorem dX2_votesGuilty_63 : decode cX2_votesGuilty 63 = .ok (.if_icmp .lt 7, 3) := by decide +kernel
theorem dX2_votesGuilty_66 : decode cX2_votesGuilty 66 = .ok (.iconst 1, 1) := by decide +kernel
theorem dX2_votesGuilty_67 : decode cX2_votesGuilty 67 = .ok (.goto 4, 3) := by decide +kernel
theorem dX2_votesGuilty_70 : decode cX2_votesGuilty 70 = .ok (.iconst 0, 1) := by decide +kernel
theorem dX2_votesGuilty_71 : decode cX2_votesGuilty 71 = .ok (.ireturn, 1) := by decide +kernel
theorem dX3_init_0 : decode cX3_init 0 = .ok (.aload_n 0, 1) := by decide +kernel
theorem dX3_init_1 : decode cX3_init 1 = .ok (.invokespecial 3, 3) := by decide +kernel
theorem dX3_init_4 : decode cX3_init 4 = .ok (.aload_n 0, 1) := by decide +kernel
theorem dX3_init_5 : decode cX3_init 5 = .ok (.bipush 60, 2) := by decide +kernel
theorem dX3_init_7 : decode cX3_init 7 = .ok (.newarray .int, 2) := by decide +kernel
theorem dX3_init_9 : decode cX3_init 9 = .ok (.putfield 9, 3) := by decide +kernel
theorem dX3_init_12 : decode cX3_init 12 = .ok (.return_, 1) := by decide +kernel
theorem dX3_firstFault_0 : decode cX3_firstFault 0 = .ok (.aload_n 1, 1) := by decide +kernel
theorem dX3_firstFault_1 : decode cX3_firstFault 1 = .ok (.getfield 15, 3) := by decide +kernel
theorem dX3_firstFault_4 : decode cX3_firstFault 4 = .ok (.iload_n 2, 1) := by decide +kernel
theorem dX3_firstFault_5 : decode cX3_firstFault 5 = .ok (.aload_n 0, 1) := by decide +kernel
theorem dX3_firstFault_6 : decode cX3_firstFault 6 = .ok (.getfield 9, 3) := by decide +kernel
theorem dX3_firstFault_9 : decode cX3_firstFault 9 = .ok (.iconst 0, 1) := by decide +kernel
theorem dX3_firstFault_10 : decode cX3_firstFault 10 = .ok (.iload_n 3, 1) := by decide +kernel
theorem dX3_firstFault_11 : decode cX3_firstFault 11 = .ok (.invokestatic 20, 3) := by decide +kernel
theorem dX3_firstFault_14 : decode cX3_firstFault 14 = .ok (.aload_n 0, 1) := by decide +kernel
theorem dX3_firstFault_15 : decode cX3_firstFault 15 = .ok (.iload_n 3, 1) := by decide +kernel
theorem dX3_firstFault_16 : decode cX3_firstFault 16 = .ok (.putfield 26, 3) := by decide +kernel
theorem dX3_firstFault_19 : decode cX3_firstFault 19 = .ok (.aload_n 0, 1) := by decide +kernel
theorem dX3_firstFault_20 : decode cX3_firstFault 20 = .ok (.bipush (-9), 2) := by decide +kernel
theorem dX3_firstFault_22 : decode cX3_firstFault 22 = .ok (.putfield 30, 3) := by decide +kernel
theorem dX3_firstFault_25 : decode cX3_firstFault 25 = .ok (.iconst 0, 1) := by decide +kernel
theorem dX3_firstFault_26 : decode cX3_firstFault 26 = .ok (.istore 4, 2) := by decide +kernel
theorem dX3_firstFault_28 : decode cX3_firstFault 28 = .ok (.iload 4, 2) := by decide +kernel
theorem dX3_firstFault_30 : decode cX3_firstFault 30 = .ok (.iload_n 3, 1) := by decide +kernel
theorem dX3_firstFault_31 : decode cX3_firstFault 31 = .ok (.if_icmp .ge 48, 3) := by decide +kernel
theorem dX3_firstFault_34 : decode cX3_firstFault 34 = .ok (.aload_n 0, 1) := by decide +kernel
theorem dX3_firstFault_35 : decode cX3_firstFault 35 = .ok (.iload 4, 2) := by decide +kernel
theorem dX3_firstFault_37 : decode cX3_firstFault 37 = .ok (.invokevirtual 33, 3) := by decide +kernel
theorem dX3_firstFault_40 : decode cX3_firstFault 40 = .ok (.ifCond .ne 6, 3) := by decide +kernel
theorem dX3_firstFault_43 : decode cX3_firstFault 43 = .ok (.iload 4, 2) := by decide +kernel
theorem dX3_firstFault_45 : decode cX3_firstFault 45 = .ok (.ireturn, 1) := by decide +kernel
theorem dX3_firstFault_46 : decode cX3_firstFault 46 = .ok (.aload_n 0, 1) := by decide +kernel
theorem dX3_firstFault_47 : decode cX3_firstFault 47 = .ok (.getfield 30, 3) := by decide +kernel
theorem dX3_firstFault_50 : decode cX3_firstFault 50 = .ok (.bipush (-9), 2) := by decide +kernel
theorem dX3_firstFault_52 : decode cX3_firstFault 52 = .ok (.if_icmp .ne 21, 3) := by decide +kernel
theorem dX3_firstFault_55 : decode cX3_firstFault 55 = .ok (.aload_n 0, 1) := by decide +kernel
theorem dX3_firstFault_56 : decode cX3_firstFault 56 = .ok (.getfield 9, 3) := by decide +kernel
theorem dX3_firstFault_59 : decode cX3_firstFault 59 = .ok (.iload 4, 2) := by decide +kernel
theorem dX3_firstFault_61 : decode cX3_firstFault 61 = .ok (.iaload, 1) := by decide +kernel
theorem dX3_firstFault_62 : decode cX3_firstFault 62 = .ok (.bipush 59, 2) := by decide +kernel
theorem dX3_firstFault_64 : decode cX3_firstFault 64 = .ok (.if_icmp .ne 9, 3) := by decide +kernel
theorem dX3_firstFault_67 : decode cX3_firstFault 67 = .ok (.aload_n 0, 1) := by decide +kernel
theorem dX3_firstFault_68 : decode cX3_firstFault 68 = .ok (.iload 4, 2) := by decide +kernel
theorem dX3_firstFault_70 : decode cX3_firstFault 70 = .ok (.putfield 30, 3) := by decide +kernel
theorem dX3_firstFault_73 : decode cX3_firstFault 73 = .ok (.iinc 4 1, 3) := by decide +kernel
theorem dX3_firstFault_76 : decode cX3_firstFault 76 = .ok (.goto (-48), 3) := by decide +kernel
theorem dX3_firstFault_79 : decode cX3_firstFault 79 = .ok (.aload_n 0, 1) := by decide +kernel
theorem dX3_firstFault_80 : decode cX3_firstFault 80 = .ok (.invokevirtual 37, 3) := by decide +kernel
theorem dX3_firstFault_83 : decode cX3_firstFault 83 = .ok (.ifCond .eq 8, 3) := by decide +kernel
theorem dX3_firstFault_86 : decode cX3_firstFault 86 = .ok (.bipush (-9), 2) := by decide +kernel
theorem dX3_firstFault_88 : decode cX3_firstFault 88 = .ok (.goto 4, 3) := by decide +kernel
theorem dX3_firstFault_91 : decode cX3_firstFault 91 = .ok (.iload_n 3, 1) := by decide +kernel
theorem dX3_firstFault_92 : decode cX3_firstFault 92 = .ok (.ireturn, 1) := by decide +kernel
theorem dX3_goesOn_0 : decode cX3_goesOn 0 = .ok (.iload_n 1, 1) := by decide +kernel
theorem dX3_goesOn_1 : decode cX3_goesOn 1 = .ok (.ifCond .ne 20, 3) := by decide +kernel
theorem dX3_goesOn_4 : decode cX3_goesOn 4 = .ok (.aload_n 0, 1) := by decide +kernel
theorem dX3_goesOn_5 : decode cX3_goesOn 5 = .ok (.getfield 9, 3) := by decide +kernel
theorem dX3_goesOn_8 : decode cX3_goesOn 8 = .ok (.iload_n 1, 1) := by decide +kernel
theorem dX3_goesOn_9 : decode cX3_goesOn 9 = .ok (.iaload, 1) := by decide +kernel
theorem dX3_goesOn_10 : decode cX3_goesOn 10 = .ok (.bipush 107, 2) := by decide +kernel
theorem dX3_goesOn_12 : decode cX3_goesOn 12 = .ok (.if_icmp .ne 7, 3) := by decide +kernel
theorem dX3_goesOn_15 : decode cX3_goesOn 15 = .ok (.iconst 1, 1) := by decide +kernel
theorem dX3_goesOn_16 : decode cX3_goesOn 16 = .ok (.goto 4, 3) := by decide +kernel
theorem dX3_goesOn_19 : decode cX3_goesOn 19 = .ok (.iconst 0, 1) := by decide +kernel
theorem dX3_goesOn_20 : decode cX3_goesOn 20 = .ok (.ireturn, 1) := by decide +kernel
theorem dX3_goesOn_21 : decode cX3_goesOn 21 = .ok (.iload_n 1, 1) := by decide +kernel
theorem dX3_goesOn_22 : decode cX3_goesOn 22 = .ok (.iconst 3, 1) := by decide +kernel
theorem dX3_goesOn_23 : decode cX3_goesOn 23 = .ok (.if_icmp .ge 9, 3) := by decide +kernel
theorem dX3_goesOn_26 : decode cX3_goesOn 26 = .ok (.aload_n 0, 1) := by decide +kernel
theorem dX3_goesOn_27 : decode cX3_goesOn 27 = .ok (.iload_n 1, 1) := by decide +kernel
theorem dX3_goesOn_28 : decode cX3_goesOn 28 = .ok (.invokevirtual 41, 3) := by decide +kernel
theorem dX3_goesOn_31 : decode cX3_goesOn 31 = .ok (.ireturn, 1) := by decide +kernel
theorem dX3_goesOn_32 : decode cX3_goesOn 32 = .ok (.aload_n 0, 1) := by decide +kernel
theorem dX3_goesOn_33 : decode cX3_goesOn 33 = .ok (.getfield 30, 3) := by decide +kernel
theorem dX3_goesOn_36 : decode cX3_goesOn 36 = .ok (.bipush (-9), 2) := by decide +kernel
theorem dX3_goesOn_38 : decode cX3_goesOn 38 = .ok (.if_icmp .ne 11, 3) := by decide +kernel
theorem dX3_goesOn_41 : decode cX3_goesOn 41 = .ok (.aload_n 0, 1) := by decide +kernel
theorem dX3_goesOn_42 : decode cX3_goesOn 42 = .ok (.iload_n 1, 1) := by decide +kernel
theorem dX3_goesOn_43 : decode cX3_goesOn 43 = .ok (.invokevirtual 44, 3) := by decide +kernel
theorem dX3_goesOn_46 : decode cX3_goesOn 46 = .ok (.goto 8, 3) := by decide +kernel
theorem dX3_goesOn_49 : decode cX3_goesOn 49 = .ok (.aload_n 0, 1) := by decide +kernel
theorem dX3_goesOn_50 : decode cX3_goesOn 50 = .ok (.iload_n 1, 1) := by decide +kernel
theorem dX3_goesOn_51 : decode cX3_goesOn 51 = .ok (.invokevirtual 47, 3) := by decide +kernel
theorem dX3_goesOn_54 : decode cX3_goesOn 54 = .ok (.ireturn, 1) := by decide +kernel
theorem dX3_goesOnInMinutes_0 : decode cX3_goesOnInMinutes 0 = .ok (.iload_n 1, 1) := by decide +kernel
theorem dX3_goesOnInMinutes_1 : decode cX3_goesOnInMinutes 1 = .ok (.iconst 1, 1) := by decide +kernel
theorem dX3_goesOnInMinutes_2 : decode cX3_goesOnInMinutes 2 = .ok (.if_icmp .ne 12, 3) := by decide +kernel
theorem dX3_goesOnInMinutes_5 : decode cX3_goesOnInMinutes 5 = .ok (.aload_n 0, 1) := by decide +kernel
theorem dX3_goesOnInMinutes_6 : decode cX3_goesOnInMinutes 6 = .ok (.iload_n 1, 1) := by decide +kernel
theorem dX3_goesOnInMinutes_7 : decode cX3_goesOnInMinutes 7 = .ok (.iconst 0, 1) := by decide +kernel
theorem dX3_goesOnInMinutes_8 : decode cX3_goesOnInMinutes 8 = .ok (.bipush 6, 2) := by decide +kernel
theorem dX3_goesOnInMinutes_10 : decode cX3_goesOnInMinutes 10 = .ok (.invokevirtual 50, 3) := by decide +kernel
theorem dX3_goesOnInMinutes_13 : decode cX3_goesOnInMinutes 13 = .ok (.ireturn, 1) := by decide +kernel
theorem dX3_goesOnInMinutes_14 : decode cX3_goesOnInMinutes 14 = .ok (.aload_n 0, 1) := by decide +kernel
theorem dX3_goesOnInMinutes_15 : decode cX3_goesOnInMinutes 15 = .ok (.iload_n 1, 1) := by decide +kernel
theorem dX3_goesOnInMinutes_16 : decode cX3_goesOnInMinutes 16 = .ok (.iconst 0, 1) := by decide +kernel
theorem dX3_goesOnInMinutes_17 : decode cX3_goesOnInMinutes 17 = .ok (.bipush 9, 2) := by decide +kernel
theorem dX3_goesOnInMinutes_19 : decode cX3_goesOnInMinutes 19 = .ok (.invokevirtual 50, 3) := by decide +kernel
theorem dX3_goesOnInMinutes_22 : decode cX3_goesOnInMinutes 22 = .ok (.ifCond .eq 24, 3) := by decide +kernel
theorem dX3_goesOnInMinutes_25 : decode cX3_goesOnInMinutes 25 = .ok (.aload_n 0, 1) := by decide +kernel
theorem dX3_goesOnInMinutes_26 : decode cX3_goesOnInMinutes 26 = .ok (.invokevirtual 54, 3) := by decide +kernel
theorem dX3_goesOnInMinutes_29 : decode cX3_goesOnInMinutes 29 = .ok (.iconst 5, 1) := by decide +kernel
theorem dX3_goesOnInMinutes_30 : decode cX3_goesOnInMinutes 30 = .ok (.if_icmp .lt 16, 3) := by decide +kernel
theorem dX3_goesOnInMinutes_33 : decode cX3_goesOnInMinutes 33 = .ok (.aload_n 0, 1) := by decide +kernel
theorem dX3_goesOnInMinutes_34 : decode cX3_goesOnInMinutes 34 = .ok (.invokevirtual 54, 3) := by decide +kernel
theorem dX3_goesOnInMinutes_37 : decode cX3_goesOnInMinutes 37 = .ok (.bipush 60, 2) := by decide +kernel
theorem dX3_goesOnInMinutes_39 : decode cX3_goesOnInMinutes 39 = .ok (.if_icmp .gt 7, 3) := by decide +kernel
theorem dX3_goesOnInMinutes_42 : decode cX3_goesOnInMinutes 42 = .ok (.iconst 1, 1) := by decide +kernel
theorem dX3_goesOnInMinutes_43 : decode cX3_goesOnInMinutes 43 = .ok (.goto 4, 3) := by decide +kernel
theorem dX3_goesOnInMinutes_46 : decode cX3_goesOnInMinutes 46 = .ok (.iconst 0, 1) := by decide +kernel
theorem dX3_goesOnInMinutes_47 : decode cX3_goesOnInMinutes 47 = .ok (.ireturn, 1) := by decide +kernel
theorem dX3_goesOnInJurors_0 : decode cX3_goesOnInJurors 0 = .ok (.iload_n 1, 1) := by decide +kernel
theorem dX3_goesOnInJurors_1 : decode cX3_goesOnInJurors 1 = .ok (.iconst 3, 1) := by decide +kernel
theorem dX3_goesOnInJurors_2 : decode cX3_goesOnInJurors 2 = .ok (.isub, 1) := by decide +kernel
theorem dX3_goesOnInJurors_3 : decode cX3_goesOnInJurors 3 = .ok (.iconst 3, 1) := by decide +kernel
theorem dX3_goesOnInJurors_4 : decode cX3_goesOnInJurors 4 = .ok (.idiv, 1) := by decide +kernel
theorem dX3_goesOnInJurors_5 : decode cX3_goesOnInJurors 5 = .ok (.istore_n 2, 1) := by decide +kernel
theorem dX3_goesOnInJurors_6 : decode cX3_goesOnInJurors 6 = .ok (.iload_n 1, 1) := by decide +kernel
theorem dX3_goesOnInJurors_7 : decode cX3_goesOnInJurors 7 = .ok (.iconst 3, 1) := by decide +kernel
theorem dX3_goesOnInJurors_8 : decode cX3_goesOnInJurors 8 = .ok (.isub, 1) := by decide +kernel
theorem dX3_goesOnInJurors_9 : decode cX3_goesOnInJurors 9 = .ok (.iconst 3, 1) := by decide +kernel
theorem dX3_goesOnInJurors_10 : decode cX3_goesOnInJurors 10 = .ok (.irem, 1) := by decide +kernel
theorem dX3_goesOnInJurors_11 : decode cX3_goesOnInJurors 11 = .ok (.lookupswitch 78 #[(0, 25), (1, 62)], 25) := by decide +kernel
theorem dX3_goesOnInJurors_36 : decode cX3_goesOnInJurors 36 = .ok (.aload_n 0, 1) := by decide +kernel
theorem dX3_goesOnInJurors_37 : decode cX3_goesOnInJurors 37 = .ok (.getfield 9, 3) := by decide +kernel
theorem dX3_goesOnInJurors_40 : decode cX3_goesOnInJurors 40 = .ok (.iload_n 1, 1) := by decide +kernel
theorem dX3_goesOnInJurors_41 : decode cX3_goesOnInJurors 41 = .ok (.iaload, 1) := by decide +kernel
theorem dX3_goesOnInJurors_42 : decode cX3_goesOnInJurors 42 = .ok (.bipush 44, 2) := by decide +kernel
theorem dX3_goesOnInJurors_44 : decode cX3_goesOnInJurors 44 = .ok (.if_icmp .ne 8, 3) := by decide +kernel
theorem dX3_goesOnInJurors_47 : decode cX3_goesOnInJurors 47 = .ok (.iload_n 2, 1) := by decide +kernel
theorem dX3_goesOnInJurors_48 : decode cX3_goesOnInJurors 48 = .ok (.iconst 5, 1) := by decide +kernel
theorem dX3_goesOnInJurors_49 : decode cX3_goesOnInJurors 49 = .ok (.if_icmp .lt 18, 3) := by decide +kernel
theorem dX3_goesOnInJurors_52 : decode cX3_goesOnInJurors 52 = .ok (.aload_n 0, 1) := by decide +kernel
theorem dX3_goesOnInJurors_53 : decode cX3_goesOnInJurors 53 = .ok (.getfield 9, 3) := by decide +kernel
theorem dX3_goesOnInJurors_56 : decode cX3_goesOnInJurors 56 = .ok (.iload_n 1, 1) := by decide +kernel
theorem dX3_goesOnInJurors_57 : decode cX3_goesOnInJurors 57 = .ok (.iaload, 1) := by decide +kernel
theorem dX3_goesOnInJurors_58 : decode cX3_goesOnInJurors 58 = .ok (.bipush 59, 2) := by decide +kernel
theorem dX3_goesOnInJurors_60 : decode cX3_goesOnInJurors 60 = .ok (.if_icmp .ne 11, 3) := by decide +kernel
theorem dX3_goesOnInJurors_63 : decode cX3_goesOnInJurors 63 = .ok (.iload_n 2, 1) := by decide +kernel
theorem dX3_goesOnInJurors_64 : decode cX3_goesOnInJurors 64 = .ok (.ifCond .le 7, 3) := by decide +kernel
theorem dX3_goesOnInJurors_67 : decode cX3_goesOnInJurors 67 = .ok (.iconst 1, 1) := by decide +kernel
theorem dX3_goesOnInJurors_68 : decode cX3_goesOnInJurors 68 = .ok (.goto 4, 3) := by decide +kernel
theorem dX3_goesOnInJurors_71 : decode cX3_goesOnInJurors 71 = .ok (.iconst 0, 1) := by decide +kernel
theorem dX3_goesOnInJurors_72 : decode cX3_goesOnInJurors 72 = .ok (.ireturn, 1) := by decide +kernel
theorem dX3_goesOnInJurors_73 : decode cX3_goesOnInJurors 73 = .ok (.aload_n 0, 1) := by decide +kernel
theorem dX3_goesOnInJurors_74 : decode cX3_goesOnInJurors 74 = .ok (.iload_n 1, 1) := by decide +kernel
theorem dX3_goesOnInJurors_75 : decode cX3_goesOnInJurors 75 = .ok (.invokevirtual 58, 3) := by decide +kernel
theorem dX3_goesOnInJurors_78 : decode cX3_goesOnInJurors 78 = .ok (.bipush (-9), 2) := by decide +kernel
theorem dX3_goesOnInJurors_80 : decode cX3_goesOnInJurors 80 = .ok (.if_icmp .eq 7, 3) := by decide +kernel
theorem dX3_goesOnInJurors_83 : decode cX3_goesOnInJurors 83 = .ok (.iconst 1, 1) := by decide +kernel
theorem dX3_goesOnInJurors_84 : decode cX3_goesOnInJurors 84 = .ok (.goto 4, 3) := by decide +kernel
theorem dX3_goesOnInJurors_87 : decode cX3_goesOnInJurors 87 = .ok (.iconst 0, 1) := by decide +kernel
theorem dX3_goesOnInJurors_88 : decode cX3_goesOnInJurors 88 = .ok (.ireturn, 1) := by decide +kernel
theorem dX3_goesOnInJurors_89 : decode cX3_goesOnInJurors 89 = .ok (.aload_n 0, 1) := by decide +kernel
theorem dX3_goesOnInJurors_90 : decode cX3_goesOnInJurors 90 = .ok (.iload_n 1, 1) := by decide +kernel
theorem dX3_goesOnInJurors_91 : decode cX3_goesOnInJurors 91 = .ok (.iconst 1, 1) := by decide +kernel
theorem dX3_goesOnInJurors_92 : decode cX3_goesOnInJurors 92 = .ok (.bipush 9, 2) := by decide +kernel
theorem dX3_goesOnInJurors_94 : decode cX3_goesOnInJurors 94 = .ok (.invokevirtual 50, 3) := by decide +kernel
theorem dX3_goesOnInJurors_97 : decode cX3_goesOnInJurors 97 = .ok (.ireturn, 1) := by decide +kernel
theorem dX3_goesOnInCases_0 : decode cX3_goesOnInCases 0 = .ok (.iload_n 1, 1) := by decide +kernel
theorem dX3_goesOnInCases_1 : decode cX3_goesOnInCases 1 = .ok (.aload_n 0, 1) := by decide +kernel
theorem dX3_goesOnInCases_2 : decode cX3_goesOnInCases 2 = .ok (.getfield 30, 3) := by decide +kernel
theorem dX3_goesOnInCases_5 : decode cX3_goesOnInCases 5 = .ok (.isub, 1) := by decide +kernel
theorem dX3_goesOnInCases_6 : decode cX3_goesOnInCases 6 = .ok (.iconst 4, 1) := by decide +kernel
theorem dX3_goesOnInCases_7 : decode cX3_goesOnInCases 7 = .ok (.idiv, 1) := by decide +kernel
theorem dX3_goesOnInCases_8 : decode cX3_goesOnInCases 8 = .ok (.istore_n 2, 1) := by decide +kernel
theorem dX3_goesOnInCases_9 : decode cX3_goesOnInCases 9 = .ok (.iload_n 1, 1) := by decide +kernel
theorem dX3_goesOnInCases_10 : decode cX3_goesOnInCases 10 = .ok (.aload_n 0, 1) := by decide +kernel
theorem dX3_goesOnInCases_11 : decode cX3_goesOnInCases 11 = .ok (.getfield 30, 3) := by decide +kernel
theorem dX3_goesOnInCases_14 : decode cX3_goesOnInCases 14 = .ok (.isub, 1) := by decide +kernel
theorem dX3_goesOnInCases_15 : decode cX3_goesOnInCases 15 = .ok (.iconst 4, 1) := by decide +kernel
theorem dX3_goesOnInCases_16 : decode cX3_goesOnInCases 16 = .ok (.irem, 1) := by decide +kernel
theorem dX3_goesOnInCases_17 : decode cX3_goesOnInCases 17 = .ok (.lookupswitch 57 #[(0, 27), (1, 49)], 27) := by decide +kernel
theorem dX3_goesOnInCases_44 : decode cX3_goesOnInCases 44 = .ok (.aload_n 0, 1) := by decide +kernel
theorem dX3_goesOnInCases_45 : decode cX3_goesOnInCases 45 = .ok (.getfield 9, 3) := by decide +kernel
theorem dX3_goesOnInCases_48 : decode cX3_goesOnInCases 48 = .ok (.iload_n 1, 1) := by decide +kernel
theorem dX3_goesOnInCases_49 : decode cX3_goesOnInCases 49 = .ok (.iaload, 1) := by decide +kernel
theorem dX3_goesOnInCases_50 : decode cX3_goesOnInCases 50 = .ok (.bipush 59, 2) := by decide +kernel
theorem dX3_goesOnInCases_52 : decode cX3_goesOnInCases 52 = .ok (.if_icmp .ne 12, 3) := by decide +kernel
theorem dX3_goesOnInCases_55 : decode cX3_goesOnInCases 55 = .ok (.iload_n 2, 1) := by decide +kernel
theorem dX3_goesOnInCases_56 : decode cX3_goesOnInCases 56 = .ok (.iconst 5, 1) := by decide +kernel
theorem dX3_goesOnInCases_57 : decode cX3_goesOnInCases 57 = .ok (.if_icmp .ge 7, 3) := by decide +kernel
theorem dX3_goesOnInCases_60 : decode cX3_goesOnInCases 60 = .ok (.iconst 1, 1) := by decide +kernel
theorem dX3_goesOnInCases_61 : decode cX3_goesOnInCases 61 = .ok (.goto 4, 3) := by decide +kernel
theorem dX3_goesOnInCases_64 : decode cX3_goesOnInCases 64 = .ok (.iconst 0, 1) := by decide +kernel
theorem dX3_goesOnInCases_65 : decode cX3_goesOnInCases 65 = .ok (.ireturn, 1) := by decide +kernel
theorem dX3_goesOnInCases_66 : decode cX3_goesOnInCases 66 = .ok (.aload_n 0, 1) := by decide +kernel
theorem dX3_goesOnInCases_67 : decode cX3_goesOnInCases 67 = .ok (.iload_n 1, 1) := by decide +kernel
theorem dX3_goesOnInCases_68 : decode cX3_goesOnInCases 68 = .ok (.iconst 0, 1) := by decide +kernel
theorem dX3_goesOnInCases_69 : decode cX3_goesOnInCases 69 = .ok (.iconst 5, 1) := by decide +kernel
theorem dX3_goesOnInCases_70 : decode cX3_goesOnInCases 70 = .ok (.invokevirtual 50, 3) := by decide +kernel
theorem dX3_goesOnInCases_73 : decode cX3_goesOnInCases 73 = .ok (.ireturn, 1) := by decide +kernel
theorem dX3_goesOnInCases_74 : decode cX3_goesOnInCases 74 = .ok (.aload_n 0, 1) := by decide +kernel
theorem dX3_goesOnInCases_75 : decode cX3_goesOnInCases 75 = .ok (.iload_n 1, 1) := by decide +kernel
theorem dX3_goesOnInCases_76 : decode cX3_goesOnInCases 76 = .ok (.iconst 1, 1) := by decide +kernel
theorem dX3_goesOnInCases_77 : decode cX3_goesOnInCases 77 = .ok (.bipush 9, 2) := by decide +kernel
theorem dX3_goesOnInCases_79 : decode cX3_goesOnInCases 79 = .ok (.invokevirtual 50, 3) := by decide +kernel
theorem dX3_goesOnInCases_82 : decode cX3_goesOnInCases 82 = .ok (.ireturn, 1) := by decide +kernel
theorem dX3_isWhole_0 : decode cX3_isWhole 0 = .ok (.aload_n 0, 1) := by decide +kernel
theorem dX3_isWhole_1 : decode cX3_isWhole 1 = .ok (.getfield 30, 3) := by decide +kernel
theorem dX3_isWhole_4 : decode cX3_isWhole 4 = .ok (.bipush (-9), 2) := by decide +kernel
theorem dX3_isWhole_6 : decode cX3_isWhole 6 = .ok (.if_icmp .eq 21, 3) := by decide +kernel
theorem dX3_isWhole_9 : decode cX3_isWhole 9 = .ok (.aload_n 0, 1) := by decide +kernel
theorem dX3_isWhole_10 : decode cX3_isWhole 10 = .ok (.getfield 26, 3) := by decide +kernel
theorem dX3_isWhole_13 : decode cX3_isWhole 13 = .ok (.aload_n 0, 1) := by decide +kernel
theorem dX3_isWhole_14 : decode cX3_isWhole 14 = .ok (.getfield 30, 3) := by decide +kernel
theorem dX3_isWhole_17 : decode cX3_isWhole 17 = .ok (.isub, 1) := by decide +kernel
theorem dX3_isWhole_18 : decode cX3_isWhole 18 = .ok (.iconst 4, 1) := by decide +kernel
theorem dX3_isWhole_19 : decode cX3_isWhole 19 = .ok (.irem, 1) := by decide +kernel
theorem dX3_isWhole_20 : decode cX3_isWhole 20 = .ok (.ifCond .ne 7, 3) := by decide +kernel
theorem dX3_isWhole_23 : decode cX3_isWhole 23 = .ok (.iconst 1, 1) := by decide +kernel
theorem dX3_isWhole_24 : decode cX3_isWhole 24 = .ok (.goto 4, 3) := by decide +kernel
theorem dX3_isWhole_27 : decode cX3_isWhole 27 = .ok (.iconst 0, 1) := by decide +kernel
theorem dX3_isWhole_28 : decode cX3_isWhole 28 = .ok (.ireturn, 1) := by decide +kernel
theorem dX3_isDigit_0 : decode cX3_isDigit 0 = .ok (.aload_n 0, 1) := by decide +kernel
theorem dX3_isDigit_1 : decode cX3_isDigit 1 = .ok (.getfield 9, 3) := by decide +kernel
theorem dX3_isDigit_4 : decode cX3_isDigit 4 = .ok (.iload_n 1, 1) := by decide +kernel
theorem dX3_isDigit_5 : decode cX3_isDigit 5 = .ok (.iaload, 1) := by decide +kernel
theorem dX3_isDigit_6 : decode cX3_isDigit 6 = .ok (.bipush 48, 2) := by decide +kernel
theorem dX3_isDigit_8 : decode cX3_isDigit 8 = .ok (.iload_n 2, 1) := by decide +kernel
theorem dX3_isDigit_9 : decode cX3_isDigit 9 = .ok (.iadd, 1) := by decide +kernel
theorem dX3_isDigit_10 : decode cX3_isDigit 10 = .ok (.if_icmp .lt 20, 3) := by decide +kernel
theorem dX3_isDigit_13 : decode cX3_isDigit 13 = .ok (.aload_n 0, 1) := by decide +kernel
theorem dX3_isDigit_14 : decode cX3_isDigit 14 = .ok (.getfield 9, 3) := by decide +kernel
theorem dX3_isDigit_17 : decode cX3_isDigit 17 = .ok (.iload_n 1, 1) := by decide +kernel
theorem dX3_isDigit_18 : decode cX3_isDigit 18 = .ok (.iaload, 1) := by decide +kernel
theorem dX3_isDigit_19 : decode cX3_isDigit 19 = .ok (.bipush 48, 2) := by decide +kernel
theorem dX3_isDigit_21 : decode cX3_isDigit 21 = .ok (.iload_n 3, 1) := by decide +kernel
theorem dX3_isDigit_22 : decode cX3_isDigit 22 = .ok (.iadd, 1) := by decide +kernel
theorem dX3_isDigit_23 : decode cX3_isDigit 23 = .ok (.if_icmp .gt 7, 3) := by decide +kernel
theorem dX3_isDigit_26 : decode cX3_isDigit 26 = .ok (.iconst 1, 1) := by decide +kernel
theorem dX3_isDigit_27 : decode cX3_isDigit 27 = .ok (.goto 4, 3) := by decide +kernel
theorem dX3_isDigit_30 : decode cX3_isDigit 30 = .ok (.iconst 0, 1) := by decide +kernel
theorem dX3_isDigit_31 : decode cX3_isDigit 31 = .ok (.ireturn, 1) := by decide +kernel
theorem dX3_digit_0 : decode cX3_digit 0 = .ok (.aload_n 0, 1) := by decide +kernel
theorem dX3_digit_1 : decode cX3_digit 1 = .ok (.getfield 9, 3) := by decide +kernel
theorem dX3_digit_4 : decode cX3_digit 4 = .ok (.iload_n 1, 1) := by decide +kernel
theorem dX3_digit_5 : decode cX3_digit 5 = .ok (.iaload, 1) := by decide +kernel
theorem dX3_digit_6 : decode cX3_digit 6 = .ok (.bipush 48, 2) := by decide +kernel
theorem dX3_digit_8 : decode cX3_digit 8 = .ok (.isub, 1) := by decide +kernel
theorem dX3_digit_9 : decode cX3_digit 9 = .ok (.ireturn, 1) := by decide +kernel
theorem dX3_kindAt_0 : decode cX3_kindAt 0 = .ok (.aload_n 0, 1) := by decide +kernel
theorem dX3_kindAt_1 : decode cX3_kindAt 1 = .ok (.getfield 9, 3) := by decide +kernel
theorem dX3_kindAt_4 : decode cX3_kindAt 4 = .ok (.iload_n 1, 1) := by decide +kernel
theorem dX3_kindAt_5 : decode cX3_kindAt 5 = .ok (.iaload, 1) := by decide +kernel
theorem dX3_kindAt_6 : decode cX3_kindAt 6 = .ok (.lookupswitch 40 #[(99, 34), (104, 36), (115, 38)], 34) := by decide +kernel
theorem dX3_kindAt_40 : decode cX3_kindAt 40 = .ok (.iconst 0, 1) := by decide +kernel
theorem dX3_kindAt_41 : decode cX3_kindAt 41 = .ok (.ireturn, 1) := by decide +kernel
theorem dX3_kindAt_42 : decode cX3_kindAt 42 = .ok (.iconst 1, 1) := by decide +kernel
theorem dX3_kindAt_43 : decode cX3_kindAt 43 = .ok (.ireturn, 1) := by decide +kernel
theorem dX3_kindAt_44 : decode cX3_kindAt 44 = .ok (.iconst 2, 1) := by decide +kernel
theorem dX3_kindAt_45 : decode cX3_kindAt 45 = .ok (.ireturn, 1) := by decide +kernel
theorem dX3_kindAt_46 : decode cX3_kindAt 46 = .ok (.bipush (-9), 2) := by decide +kernel
theorem dX3_kindAt_48 : decode cX3_kindAt 48 = .ok (.ireturn, 1) := by decide +kernel
theorem dX3_toldMinutes_0 : decode cX3_toldMinutes 0 = .ok (.bipush 10, 2) := by decide +kernel
theorem dX3_toldMinutes_2 : decode cX3_toldMinutes 2 = .ok (.aload_n 0, 1) := by decide +kernel
theorem dX3_toldMinutes_3 : decode cX3_toldMinutes 3 = .ok (.iconst 1, 1) := by decide +kernel
theorem dX3_toldMinutes_4 : decode cX3_toldMinutes 4 = .ok (.invokevirtual 62, 3) := by decide +kernel
theorem dX3_toldMinutes_7 : decode cX3_toldMinutes 7 = .ok (.imul, 1) := by decide +kernel
theorem dX3_toldMinutes_8 : decode cX3_toldMinutes 8 = .ok (.aload_n 0, 1) := by decide +kernel
theorem dX3_toldMinutes_9 : decode cX3_toldMinutes 9 = .ok (.iconst 2, 1) := by decide +kernel
theorem dX3_toldMinutes_10 : decode cX3_toldMinutes 10 = .ok (.invokevirtual 62, 3) := by decide +kernel
theorem dX3_toldMinutes_13 : decode cX3_toldMinutes 13 = .ok (.iadd, 1) := by decide +kernel
theorem dX3_toldMinutes_14 : decode cX3_toldMinutes 14 = .ok (.ireturn, 1) := by decide +kernel
theorem dX3_toldJurors_0 : decode cX3_toldJurors 0 = .ok (.aload_n 0, 1) := by decide +kernel
end
section
theorem dX3_toldJurors_1 : decode cX3_toldJurors 1 = .ok (.getfield 30, 3) := by decide +kernel
theorem dX3_toldJurors_4 : decode cX3_toldJurors 4 = .ok (.iconst 3, 1) := by decide +kernel
theorem dX3_toldJurors_5 : decode cX3_toldJurors 5 = .ok (.isub, 1) := by decide +kernel
theorem dX3_toldJurors_6 : decode cX3_toldJurors 6 = .ok (.iconst 3, 1) := by decide +kernel
theorem dX3_toldJurors_7 : decode cX3_toldJurors 7 = .ok (.idiv, 1) := by decide +kernel
theorem dX3_toldJurors_8 : decode cX3_toldJurors 8 = .ok (.ireturn, 1) := by decide +kernel
theorem dX3_toldCases_0 : decode cX3_toldCases 0 = .ok (.aload_n 0, 1) := by decide +kernel
theorem dX3_toldCases_1 : decode cX3_toldCases 1 = .ok (.getfield 26, 3) := by decide +kernel
theorem dX3_toldCases_4 : decode cX3_toldCases 4 = .ok (.aload_n 0, 1) := by decide +kernel
theorem dX3_toldCases_5 : decode cX3_toldCases 5 = .ok (.getfield 30, 3) := by decide +kernel
theorem dX3_toldCases_8 : decode cX3_toldCases 8 = .ok (.isub, 1) := by decide +kernel
theorem dX3_toldCases_9 : decode cX3_toldCases 9 = .ok (.iconst 4, 1) := by decide +kernel
theorem dX3_toldCases_10 : decode cX3_toldCases 10 = .ok (.idiv, 1) := by decide +kernel
theorem dX3_toldCases_11 : decode cX3_toldCases 11 = .ok (.ireturn, 1) := by decide +kernel
theorem dX3_toldKind_0 : decode cX3_toldKind 0 = .ok (.aload_n 0, 1) := by decide +kernel
theorem dX3_toldKind_1 : decode cX3_toldKind 1 = .ok (.iconst 3, 1) := by decide +kernel
theorem dX3_toldKind_2 : decode cX3_toldKind 2 = .ok (.iconst 3, 1) := by decide +kernel
theorem dX3_toldKind_3 : decode cX3_toldKind 3 = .ok (.iload_n 1, 1) := by decide +kernel
theorem dX3_toldKind_4 : decode cX3_toldKind 4 = .ok (.imul, 1) := by decide +kernel
theorem dX3_toldKind_5 : decode cX3_toldKind 5 = .ok (.iadd, 1) := by decide +kernel
theorem dX3_toldKind_6 : decode cX3_toldKind 6 = .ok (.iconst 1, 1) := by decide +kernel
theorem dX3_toldKind_7 : decode cX3_toldKind 7 = .ok (.iadd, 1) := by decide +kernel
theorem dX3_toldKind_8 : decode cX3_toldKind 8 = .ok (.invokevirtual 58, 3) := by decide +kernel
theorem dX3_toldKind_11 : decode cX3_toldKind 11 = .ok (.ireturn, 1) := by decide +kernel
theorem dX3_toldAge_0 : decode cX3_toldAge 0 = .ok (.aload_n 0, 1) := by decide +kernel
theorem dX3_toldAge_1 : decode cX3_toldAge 1 = .ok (.iconst 3, 1) := by decide +kernel
theorem dX3_toldAge_2 : decode cX3_toldAge 2 = .ok (.iconst 3, 1) := by decide +kernel
theorem dX3_toldAge_3 : decode cX3_toldAge 3 = .ok (.iload_n 1, 1) := by decide +kernel
theorem dX3_toldAge_4 : decode cX3_toldAge 4 = .ok (.imul, 1) := by decide +kernel
theorem dX3_toldAge_5 : decode cX3_toldAge 5 = .ok (.iadd, 1) := by decide +kernel
theorem dX3_toldAge_6 : decode cX3_toldAge 6 = .ok (.iconst 2, 1) := by decide +kernel
theorem dX3_toldAge_7 : decode cX3_toldAge 7 = .ok (.iadd, 1) := by decide +kernel
theorem dX3_toldAge_8 : decode cX3_toldAge 8 = .ok (.invokevirtual 62, 3) := by decide +kernel
theorem dX3_toldAge_11 : decode cX3_toldAge 11 = .ok (.ireturn, 1) := by decide +kernel
theorem dX3_toldOfCase_0 : decode cX3_toldOfCase 0 = .ok (.aload_n 0, 1) := by decide +kernel
theorem dX3_toldOfCase_1 : decode cX3_toldOfCase 1 = .ok (.aload_n 0, 1) := by decide +kernel
theorem dX3_toldOfCase_2 : decode cX3_toldOfCase 2 = .ok (.getfield 30, 3) := by decide +kernel
theorem dX3_toldOfCase_5 : decode cX3_toldOfCase 5 = .ok (.iconst 4, 1) := by decide +kernel
theorem dX3_toldOfCase_6 : decode cX3_toldOfCase 6 = .ok (.iload_n 1, 1) := by decide +kernel
theorem dX3_toldOfCase_7 : decode cX3_toldOfCase 7 = .ok (.imul, 1) := by decide +kernel
theorem dX3_toldOfCase_8 : decode cX3_toldOfCase 8 = .ok (.iadd, 1) := by decide +kernel
theorem dX3_toldOfCase_9 : decode cX3_toldOfCase 9 = .ok (.iconst 1, 1) := by decide +kernel
theorem dX3_toldOfCase_10 : decode cX3_toldOfCase 10 = .ok (.iadd, 1) := by decide +kernel
theorem dX3_toldOfCase_11 : decode cX3_toldOfCase 11 = .ok (.iload_n 2, 1) := by decide +kernel
theorem dX3_toldOfCase_12 : decode cX3_toldOfCase 12 = .ok (.iadd, 1) := by decide +kernel
theorem dX3_toldOfCase_13 : decode cX3_toldOfCase 13 = .ok (.invokevirtual 62, 3) := by decide +kernel
theorem dX3_toldOfCase_16 : decode cX3_toldOfCase 16 = .ok (.ireturn, 1) := by decide +kernel
theorem dX4_init_0 : decode cX4_init 0 = .ok (.aload_n 0, 1) := by decide +kernel
theorem dX4_init_1 : decode cX4_init 1 = .ok (.invokespecial 3, 3) := by decide +kernel
theorem dX4_init_4 : decode cX4_init 4 = .ok (.aload_n 0, 1) := by decide +kernel
theorem dX4_init_5 : decode cX4_init 5 = .ok (.iconst 4, 1) := by decide +kernel
theorem dX4_init_6 : decode cX4_init 6 = .ok (.anewarray 11, 3) := by decide +kernel
theorem dX4_init_9 : decode cX4_init 9 = .ok (.putfield 13, 3) := by decide +kernel
theorem dX4_init_12 : decode cX4_init 12 = .ok (.aload_n 0, 1) := by decide +kernel
theorem dX4_init_13 : decode cX4_init 13 = .ok (.new 17, 3) := by decide +kernel
theorem dX4_init_16 : decode cX4_init 16 = .ok (.dup, 1) := by decide +kernel
theorem dX4_init_17 : decode cX4_init 17 = .ok (.invokespecial 19, 3) := by decide +kernel
theorem dX4_init_20 : decode cX4_init 20 = .ok (.putfield 20, 3) := by decide +kernel
theorem dX4_init_23 : decode cX4_init 23 = .ok (.aload_n 0, 1) := by decide +kernel
theorem dX4_init_24 : decode cX4_init 24 = .ok (.new 24, 3) := by decide +kernel
theorem dX4_init_27 : decode cX4_init 27 = .ok (.dup, 1) := by decide +kernel
theorem dX4_init_28 : decode cX4_init 28 = .ok (.invokespecial 26, 3) := by decide +kernel
theorem dX4_init_31 : decode cX4_init 31 = .ok (.putfield 27, 3) := by decide +kernel
theorem dX4_init_34 : decode cX4_init 34 = .ok (.aload_n 0, 1) := by decide +kernel
theorem dX4_init_35 : decode cX4_init 35 = .ok (.new 31, 3) := by decide +kernel
theorem dX4_init_38 : decode cX4_init 38 = .ok (.dup, 1) := by decide +kernel
theorem dX4_init_39 : decode cX4_init 39 = .ok (.aload_n 0, 1) := by decide +kernel
theorem dX4_init_40 : decode cX4_init 40 = .ok (.getfield 27, 3) := by decide +kernel
theorem dX4_init_43 : decode cX4_init 43 = .ok (.invokespecial 33, 3) := by decide +kernel
theorem dX4_init_46 : decode cX4_init 46 = .ok (.putfield 36, 3) := by decide +kernel
theorem dX4_init_49 : decode cX4_init 49 = .ok (.aload_n 0, 1) := by decide +kernel
theorem dX4_init_50 : decode cX4_init 50 = .ok (.iconst 5, 1) := by decide +kernel
theorem dX4_init_51 : decode cX4_init 51 = .ok (.newarray .int, 2) := by decide +kernel
theorem dX4_init_53 : decode cX4_init 53 = .ok (.putfield 40, 3) := by decide +kernel
theorem dX4_init_56 : decode cX4_init 56 = .ok (.iconst 0, 1) := by decide +kernel
theorem dX4_init_57 : decode cX4_init 57 = .ok (.istore_n 1, 1) := by decide +kernel
theorem dX4_init_58 : decode cX4_init 58 = .ok (.iload_n 1, 1) := by decide +kernel
theorem dX4_init_59 : decode cX4_init 59 = .ok (.iconst 4, 1) := by decide +kernel
theorem dX4_init_60 : decode cX4_init 60 = .ok (.if_icmp .ge 22, 3) := by decide +kernel
theorem dX4_init_63 : decode cX4_init 63 = .ok (.aload_n 0, 1) := by decide +kernel
theorem dX4_init_64 : decode cX4_init 64 = .ok (.getfield 13, 3) := by decide +kernel
theorem dX4_init_67 : decode cX4_init 67 = .ok (.iload_n 1, 1) := by decide +kernel
theorem dX4_init_68 : decode cX4_init 68 = .ok (.new 11, 3) := by decide +kernel
theorem dX4_init_71 : decode cX4_init 71 = .ok (.dup, 1) := by decide +kernel
theorem dX4_init_72 : decode cX4_init 72 = .ok (.invokespecial 44, 3) := by decide +kernel
theorem dX4_init_75 : decode cX4_init 75 = .ok (.aastore, 1) := by decide +kernel
theorem dX4_init_76 : decode cX4_init 76 = .ok (.iinc 1 1, 3) := by decide +kernel
theorem dX4_init_79 : decode cX4_init 79 = .ok (.goto (-21), 3) := by decide +kernel
theorem dX4_init_82 : decode cX4_init 82 = .ok (.return_, 1) := by decide +kernel
theorem dX4_court_0 : decode cX4_court 0 = .ok (.aload_n 0, 1) := by decide +kernel
theorem dX4_court_1 : decode cX4_court 1 = .ok (.iconst 0, 1) := by decide +kernel
theorem dX4_court_2 : decode cX4_court 2 = .ok (.putfield 45, 3) := by decide +kernel
theorem dX4_court_5 : decode cX4_court 5 = .ok (.iload_n 1, 1) := by decide +kernel
theorem dX4_court_6 : decode cX4_court 6 = .ok (.invokestatic 49, 3) := by decide +kernel
theorem dX4_court_9 : decode cX4_court 9 = .ok (.ifCond .ne 5, 3) := by decide +kernel
theorem dX4_court_12 : decode cX4_court 12 = .ok (.iconst (-1), 1) := by decide +kernel
theorem dX4_court_13 : decode cX4_court 13 = .ok (.ireturn, 1) := by decide +kernel
theorem dX4_court_14 : decode cX4_court 14 = .ok (.iload_n 2, 1) := by decide +kernel
theorem dX4_court_15 : decode cX4_court 15 = .ok (.invokestatic 53, 3) := by decide +kernel
theorem dX4_court_18 : decode cX4_court 18 = .ok (.ifCond .ne 6, 3) := by decide +kernel
theorem dX4_court_21 : decode cX4_court 21 = .ok (.bipush (-2), 2) := by decide +kernel
theorem dX4_court_23 : decode cX4_court 23 = .ok (.ireturn, 1) := by decide +kernel
theorem dX4_court_24 : decode cX4_court 24 = .ok (.aload_n 0, 1) := by decide +kernel
theorem dX4_court_25 : decode cX4_court 25 = .ok (.getfield 13, 3) := by decide +kernel
theorem dX4_court_28 : decode cX4_court 28 = .ok (.iload_n 1, 1) := by decide +kernel
theorem dX4_court_29 : decode cX4_court 29 = .ok (.aaload, 1) := by decide +kernel
theorem dX4_court_30 : decode cX4_court 30 = .ok (.astore 5, 2) := by decide +kernel
theorem dX4_court_32 : decode cX4_court 32 = .ok (.aload 5, 2) := by decide +kernel
theorem dX4_court_34 : decode cX4_court 34 = .ok (.iload_n 2, 1) := by decide +kernel
theorem dX4_court_35 : decode cX4_court 35 = .ok (.iload_n 3, 1) := by decide +kernel
theorem dX4_court_36 : decode cX4_court 36 = .ok (.iload 4, 2) := by decide +kernel
theorem dX4_court_38 : decode cX4_court 38 = .ok (.invokevirtual 56, 3) := by decide +kernel
theorem dX4_court_41 : decode cX4_court 41 = .ok (.istore 6, 2) := by decide +kernel
theorem dX4_court_43 : decode cX4_court 43 = .ok (.iload 6, 2) := by decide +kernel
theorem dX4_court_45 : decode cX4_court 45 = .ok (.ifCond .eq 10, 3) := by decide +kernel
theorem dX4_court_48 : decode cX4_court 48 = .ok (.aload_n 0, 1) := by decide +kernel
theorem dX4_court_49 : decode cX4_court 49 = .ok (.iload 6, 2) := by decide +kernel
theorem dX4_court_51 : decode cX4_court 51 = .ok (.invokevirtual 60, 3) := by decide +kernel
theorem dX4_court_54 : decode cX4_court 54 = .ok (.ireturn, 1) := by decide +kernel
theorem dX4_court_55 : decode cX4_court 55 = .ok (.aload_n 0, 1) := by decide +kernel
theorem dX4_court_56 : decode cX4_court 56 = .ok (.getfield 20, 3) := by decide +kernel
theorem dX4_court_59 : decode cX4_court 59 = .ok (.aload 5, 2) := by decide +kernel
theorem dX4_court_61 : decode cX4_court 61 = .ok (.iload_n 3, 1) := by decide +kernel
theorem dX4_court_62 : decode cX4_court 62 = .ok (.iload 4, 2) := by decide +kernel
theorem dX4_court_64 : decode cX4_court 64 = .ok (.invokevirtual 64, 3) := by decide +kernel
theorem dX4_court_67 : decode cX4_court 67 = .ok (.istore 7, 2) := by decide +kernel
theorem dX4_court_69 : decode cX4_court 69 = .ok (.iload 7, 2) := by decide +kernel
theorem dX4_court_71 : decode cX4_court 71 = .ok (.bipush (-9), 2) := by decide +kernel
theorem dX4_court_73 : decode cX4_court 73 = .ok (.if_icmp .eq 9, 3) := by decide +kernel
theorem dX4_court_76 : decode cX4_court 76 = .ok (.bipush (-100), 2) := by decide +kernel
theorem dX4_court_78 : decode cX4_court 78 = .ok (.iload 7, 2) := by decide +kernel
theorem dX4_court_80 : decode cX4_court 80 = .ok (.isub, 1) := by decide +kernel
theorem dX4_court_81 : decode cX4_court 81 = .ok (.ireturn, 1) := by decide +kernel
theorem dX4_court_82 : decode cX4_court 82 = .ok (.aload_n 0, 1) := by decide +kernel
theorem dX4_court_83 : decode cX4_court 83 = .ok (.getfield 27, 3) := by decide +kernel
theorem dX4_court_86 : decode cX4_court 86 = .ok (.aload_n 0, 1) := by decide +kernel
theorem dX4_court_87 : decode cX4_court 87 = .ok (.getfield 20, 3) := by decide +kernel
theorem dX4_court_90 : decode cX4_court 90 = .ok (.invokevirtual 68, 3) := by decide +kernel
theorem dX4_court_93 : decode cX4_court 93 = .ok (.aload_n 0, 1) := by decide +kernel
theorem dX4_court_94 : decode cX4_court 94 = .ok (.getfield 27, 3) := by decide +kernel
theorem dX4_court_97 : decode cX4_court 97 = .ok (.getfield 72, 3) := by decide +kernel
theorem dX4_court_100 : decode cX4_court 100 = .ok (.ireturn, 1) := by decide +kernel
theorem dX4_ofJuror_0 : decode cX4_ofJuror 0 = .ok (.aload_n 0, 1) := by decide +kernel
theorem dX4_ofJuror_1 : decode cX4_ofJuror 1 = .ok (.getfield 27, 3) := by decide +kernel
theorem dX4_ofJuror_4 : decode cX4_ofJuror 4 = .ok (.iload_n 1, 1) := by decide +kernel
theorem dX4_ofJuror_5 : decode cX4_ofJuror 5 = .ok (.invokevirtual 75, 3) := by decide +kernel
theorem dX4_ofJuror_8 : decode cX4_ofJuror 8 = .ok (.ifCond .ne 5, 3) := by decide +kernel
theorem dX4_ofJuror_11 : decode cX4_ofJuror 11 = .ok (.iconst (-1), 1) := by decide +kernel
theorem dX4_ofJuror_12 : decode cX4_ofJuror 12 = .ok (.ireturn, 1) := by decide +kernel
theorem dX4_ofJuror_13 : decode cX4_ofJuror 13 = .ok (.iload_n 2, 1) := by decide +kernel
theorem dX4_ofJuror_14 : decode cX4_ofJuror 14 = .ok (.tableswitch 74 0 3 #[30, 40, 50, 62], 30) := by decide +kernel
theorem dX4_ofJuror_44 : decode cX4_ofJuror 44 = .ok (.aload_n 0, 1) := by decide +kernel
theorem dX4_ofJuror_45 : decode cX4_ofJuror 45 = .ok (.getfield 27, 3) := by decide +kernel
theorem dX4_ofJuror_48 : decode cX4_ofJuror 48 = .ok (.getfield 78, 3) := by decide +kernel
theorem dX4_ofJuror_51 : decode cX4_ofJuror 51 = .ok (.iload_n 1, 1) := by decide +kernel
theorem dX4_ofJuror_52 : decode cX4_ofJuror 52 = .ok (.iaload, 1) := by decide +kernel
theorem dX4_ofJuror_53 : decode cX4_ofJuror 53 = .ok (.ireturn, 1) := by decide +kernel
theorem dX4_ofJuror_54 : decode cX4_ofJuror 54 = .ok (.aload_n 0, 1) := by decide +kernel
theorem dX4_ofJuror_55 : decode cX4_ofJuror 55 = .ok (.getfield 27, 3) := by decide +kernel
theorem dX4_ofJuror_58 : decode cX4_ofJuror 58 = .ok (.getfield 81, 3) := by decide +kernel
theorem dX4_ofJuror_61 : decode cX4_ofJuror 61 = .ok (.iload_n 1, 1) := by decide +kernel
theorem dX4_ofJuror_62 : decode cX4_ofJuror 62 = .ok (.iaload, 1) := by decide +kernel
theorem dX4_ofJuror_63 : decode cX4_ofJuror 63 = .ok (.ireturn, 1) := by decide +kernel
theorem dX4_ofJuror_64 : decode cX4_ofJuror 64 = .ok (.aload_n 0, 1) := by decide +kernel
theorem dX4_ofJuror_65 : decode cX4_ofJuror 65 = .ok (.getfield 27, 3) := by decide +kernel
theorem dX4_ofJuror_68 : decode cX4_ofJuror 68 = .ok (.getfield 84, 3) := by decide +kernel
theorem dX4_ofJuror_71 : decode cX4_ofJuror 71 = .ok (.iload_n 1, 1) := by decide +kernel
theorem dX4_ofJuror_72 : decode cX4_ofJuror 72 = .ok (.invokestatic 87, 3) := by decide +kernel
theorem dX4_ofJuror_75 : decode cX4_ofJuror 75 = .ok (.ireturn, 1) := by decide +kernel
theorem dX4_ofJuror_76 : decode cX4_ofJuror 76 = .ok (.aload_n 0, 1) := by decide +kernel
theorem dX4_ofJuror_77 : decode cX4_ofJuror 77 = .ok (.getfield 27, 3) := by decide +kernel
theorem dX4_ofJuror_80 : decode cX4_ofJuror 80 = .ok (.getfield 91, 3) := by decide +kernel
theorem dX4_ofJuror_83 : decode cX4_ofJuror 83 = .ok (.iload_n 1, 1) := by decide +kernel
theorem dX4_ofJuror_84 : decode cX4_ofJuror 84 = .ok (.invokestatic 87, 3) := by decide +kernel
theorem dX4_ofJuror_87 : decode cX4_ofJuror 87 = .ok (.ireturn, 1) := by decide +kernel
theorem dX4_ofJuror_88 : decode cX4_ofJuror 88 = .ok (.bipush (-2), 2) := by decide +kernel
theorem dX4_ofJuror_90 : decode cX4_ofJuror 90 = .ok (.ireturn, 1) := by decide +kernel
theorem dX4_ofCase_0 : decode cX4_ofCase 0 = .ok (.aload_n 0, 1) := by decide +kernel
theorem dX4_ofCase_1 : decode cX4_ofCase 1 = .ok (.getfield 27, 3) := by decide +kernel
theorem dX4_ofCase_4 : decode cX4_ofCase 4 = .ok (.iload_n 1, 1) := by decide +kernel
theorem dX4_ofCase_5 : decode cX4_ofCase 5 = .ok (.invokevirtual 94, 3) := by decide +kernel
theorem dX4_ofCase_8 : decode cX4_ofCase 8 = .ok (.ifCond .ne 5, 3) := by decide +kernel
theorem dX4_ofCase_11 : decode cX4_ofCase 11 = .ok (.iconst (-1), 1) := by decide +kernel
theorem dX4_ofCase_12 : decode cX4_ofCase 12 = .ok (.ireturn, 1) := by decide +kernel
theorem dX4_ofCase_13 : decode cX4_ofCase 13 = .ok (.iload_n 2, 1) := by decide +kernel
theorem dX4_ofCase_14 : decode cX4_ofCase 14 = .ok (.tableswitch 56 0 2 #[26, 36, 46], 26) := by decide +kernel
theorem dX4_ofCase_40 : decode cX4_ofCase 40 = .ok (.aload_n 0, 1) := by decide +kernel
theorem dX4_ofCase_41 : decode cX4_ofCase 41 = .ok (.getfield 27, 3) := by decide +kernel
theorem dX4_ofCase_44 : decode cX4_ofCase 44 = .ok (.getfield 97, 3) := by decide +kernel
theorem dX4_ofCase_47 : decode cX4_ofCase 47 = .ok (.iload_n 1, 1) := by decide +kernel
theorem dX4_ofCase_48 : decode cX4_ofCase 48 = .ok (.iaload, 1) := by decide +kernel
theorem dX4_ofCase_49 : decode cX4_ofCase 49 = .ok (.ireturn, 1) := by decide +kernel
theorem dX4_ofCase_50 : decode cX4_ofCase 50 = .ok (.aload_n 0, 1) := by decide +kernel
theorem dX4_ofCase_51 : decode cX4_ofCase 51 = .ok (.getfield 27, 3) := by decide +kernel
theorem dX4_ofCase_54 : decode cX4_ofCase 54 = .ok (.getfield 100, 3) := by decide +kernel
theorem dX4_ofCase_57 : decode cX4_ofCase 57 = .ok (.iload_n 1, 1) := by decide +kernel
theorem dX4_ofCase_58 : decode cX4_ofCase 58 = .ok (.iaload, 1) := by decide +kernel
theorem dX4_ofCase_59 : decode cX4_ofCase 59 = .ok (.ireturn, 1) := by decide +kernel
theorem dX4_ofCase_60 : decode cX4_ofCase 60 = .ok (.aload_n 0, 1) := by decide +kernel
theorem dX4_ofCase_61 : decode cX4_ofCase 61 = .ok (.getfield 27, 3) := by decide +kernel
theorem dX4_ofCase_64 : decode cX4_ofCase 64 = .ok (.getfield 103, 3) := by decide +kernel
theorem dX4_ofCase_67 : decode cX4_ofCase 67 = .ok (.iload_n 1, 1) := by decide +kernel
theorem dX4_ofCase_68 : decode cX4_ofCase 68 = .ok (.iaload, 1) := by decide +kernel
theorem dX4_ofCase_69 : decode cX4_ofCase 69 = .ok (.ireturn, 1) := by decide +kernel
theorem dX4_ofCase_70 : decode cX4_ofCase 70 = .ok (.bipush (-2), 2) := by decide +kernel
theorem dX4_ofCase_72 : decode cX4_ofCase 72 = .ok (.ireturn, 1) := by decide +kernel
theorem dX4_chalk_0 : decode cX4_chalk 0 = .ok (.iload_n 1, 1) := by decide +kernel
theorem dX4_chalk_1 : decode cX4_chalk 1 = .ok (.ifCond .lt 9, 3) := by decide +kernel
theorem dX4_chalk_4 : decode cX4_chalk 4 = .ok (.iload_n 1, 1) := by decide +kernel
theorem dX4_chalk_5 : decode cX4_chalk 5 = .ok (.bipush 64, 2) := by decide +kernel
theorem dX4_chalk_7 : decode cX4_chalk 7 = .ok (.if_icmp .lt 6, 3) := by decide +kernel
theorem dX4_chalk_10 : decode cX4_chalk 10 = .ok (.bipush (-2), 2) := by decide +kernel
theorem dX4_chalk_12 : decode cX4_chalk 12 = .ok (.ireturn, 1) := by decide +kernel
theorem dX4_chalk_13 : decode cX4_chalk 13 = .ok (.aload_n 0, 1) := by decide +kernel
theorem dX4_chalk_14 : decode cX4_chalk 14 = .ok (.getfield 27, 3) := by decide +kernel
theorem dX4_chalk_17 : decode cX4_chalk 17 = .ok (.invokevirtual 106, 3) := by decide +kernel
theorem dX4_chalk_20 : decode cX4_chalk 20 = .ok (.ifCond .ne 6, 3) := by decide +kernel
theorem dX4_chalk_23 : decode cX4_chalk 23 = .ok (.bipush (-3), 2) := by decide +kernel
theorem dX4_chalk_25 : decode cX4_chalk 25 = .ok (.ireturn, 1) := by decide +kernel
theorem dX4_chalk_26 : decode cX4_chalk 26 = .ok (.aload_n 0, 1) := by decide +kernel
theorem dX4_chalk_27 : decode cX4_chalk 27 = .ok (.getfield 27, 3) := by decide +kernel
theorem dX4_chalk_30 : decode cX4_chalk 30 = .ok (.getfield 110, 3) := by decide +kernel
theorem dX4_chalk_33 : decode cX4_chalk 33 = .ok (.istore_n 2, 1) := by decide +kernel
theorem dX4_chalk_34 : decode cX4_chalk 34 = .ok (.aload_n 0, 1) := by decide +kernel
theorem dX4_chalk_35 : decode cX4_chalk 35 = .ok (.getfield 27, 3) := by decide +kernel
theorem dX4_chalk_38 : decode cX4_chalk 38 = .ok (.iload_n 1, 1) := by decide +kernel
theorem dX4_chalk_39 : decode cX4_chalk 39 = .ok (.putfield 110, 3) := by decide +kernel
theorem dX4_chalk_42 : decode cX4_chalk 42 = .ok (.iload_n 2, 1) := by decide +kernel
theorem dX4_chalk_43 : decode cX4_chalk 43 = .ok (.ireturn, 1) := by decide +kernel
theorem dX4_treat_0 : decode cX4_treat 0 = .ok (.aload_n 0, 1) := by decide +kernel
theorem dX4_treat_1 : decode cX4_treat 1 = .ok (.getfield 27, 3) := by decide +kernel
theorem dX4_treat_4 : decode cX4_treat 4 = .ok (.iload_n 1, 1) := by decide +kernel
theorem dX4_treat_5 : decode cX4_treat 5 = .ok (.invokevirtual 75, 3) := by decide +kernel
theorem dX4_treat_8 : decode cX4_treat 8 = .ok (.ifCond .ne 5, 3) := by decide +kernel
theorem dX4_treat_11 : decode cX4_treat 11 = .ok (.iconst (-1), 1) := by decide +kernel
theorem dX4_treat_12 : decode cX4_treat 12 = .ok (.ireturn, 1) := by decide +kernel
theorem dX4_treat_13 : decode cX4_treat 13 = .ok (.aload_n 0, 1) := by decide +kernel
theorem dX4_treat_14 : decode cX4_treat 14 = .ok (.getfield 27, 3) := by decide +kernel
theorem dX4_treat_17 : decode cX4_treat 17 = .ok (.getfield 84, 3) := by decide +kernel
theorem dX4_treat_20 : decode cX4_treat 20 = .ok (.istore_n 3, 1) := by decide +kernel
theorem dX4_treat_21 : decode cX4_treat 21 = .ok (.aload_n 0, 1) := by decide +kernel
theorem dX4_treat_22 : decode cX4_treat 22 = .ok (.getfield 27, 3) := by decide +kernel
theorem dX4_treat_25 : decode cX4_treat 25 = .ok (.iload_n 3, 1) := by decide +kernel
theorem dX4_treat_26 : decode cX4_treat 26 = .ok (.iload_n 1, 1) := by decide +kernel
theorem dX4_treat_27 : decode cX4_treat 27 = .ok (.iload_n 2, 1) := by decide +kernel
theorem dX4_treat_28 : decode cX4_treat 28 = .ok (.invokestatic 113, 3) := by decide +kernel
theorem dX4_treat_31 : decode cX4_treat 31 = .ok (.putfield 84, 3) := by decide +kernel
theorem dX4_treat_34 : decode cX4_treat 34 = .ok (.aload_n 0, 1) := by decide +kernel
theorem dX4_treat_35 : decode cX4_treat 35 = .ok (.getfield 27, 3) := by decide +kernel
theorem dX4_treat_38 : decode cX4_treat 38 = .ok (.getfield 84, 3) := by decide +kernel
theorem dX4_treat_41 : decode cX4_treat 41 = .ok (.iload_n 3, 1) := by decide +kernel
theorem dX4_treat_42 : decode cX4_treat 42 = .ok (.if_icmp .ne 7, 3) := by decide +kernel
theorem dX4_treat_45 : decode cX4_treat 45 = .ok (.iconst 0, 1) := by decide +kernel
theorem dX4_treat_46 : decode cX4_treat 46 = .ok (.goto 4, 3) := by decide +kernel
theorem dX4_treat_49 : decode cX4_treat 49 = .ok (.iconst 1, 1) := by decide +kernel
theorem dX4_treat_50 : decode cX4_treat 50 = .ok (.ireturn, 1) := by decide +kernel
theorem dX4_strike_0 : decode cX4_strike 0 = .ok (.aload_n 0, 1) := by decide +kernel
theorem dX4_strike_1 : decode cX4_strike 1 = .ok (.getfield 27, 3) := by decide +kernel
theorem dX4_strike_4 : decode cX4_strike 4 = .ok (.iload_n 1, 1) := by decide +kernel
theorem dX4_strike_5 : decode cX4_strike 5 = .ok (.invokevirtual 75, 3) := by decide +kernel
theorem dX4_strike_8 : decode cX4_strike 8 = .ok (.ifCond .ne 5, 3) := by decide +kernel
theorem dX4_strike_11 : decode cX4_strike 11 = .ok (.iconst (-1), 1) := by decide +kernel
theorem dX4_strike_12 : decode cX4_strike 12 = .ok (.ireturn, 1) := by decide +kernel
theorem dX4_strike_13 : decode cX4_strike 13 = .ok (.aload_n 0, 1) := by decide +kernel
theorem dX4_strike_14 : decode cX4_strike 14 = .ok (.getfield 27, 3) := by decide +kernel
theorem dX4_strike_17 : decode cX4_strike 17 = .ok (.getfield 91, 3) := by decide +kernel
theorem dX4_strike_20 : decode cX4_strike 20 = .ok (.istore_n 3, 1) := by decide +kernel
theorem dX4_strike_21 : decode cX4_strike 21 = .ok (.aload_n 0, 1) := by decide +kernel
theorem dX4_strike_22 : decode cX4_strike 22 = .ok (.getfield 27, 3) := by decide +kernel
theorem dX4_strike_25 : decode cX4_strike 25 = .ok (.iload_n 3, 1) := by decide +kernel
theorem dX4_strike_26 : decode cX4_strike 26 = .ok (.iload_n 1, 1) := by decide +kernel
theorem dX4_strike_27 : decode cX4_strike 27 = .ok (.iload_n 2, 1) := by decide +kernel
theorem dX4_strike_28 : decode cX4_strike 28 = .ok (.invokestatic 113, 3) := by decide +kernel
theorem dX4_strike_31 : decode cX4_strike 31 = .ok (.putfield 91, 3) := by decide +kernel
theorem dX4_strike_34 : decode cX4_strike 34 = .ok (.aload_n 0, 1) := by decide +kernel
theorem dX4_strike_35 : decode cX4_strike 35 = .ok (.getfield 27, 3) := by decide +kernel
theorem dX4_strike_38 : decode cX4_strike 38 = .ok (.getfield 91, 3) := by decide +kernel
theorem dX4_strike_41 : decode cX4_strike 41 = .ok (.iload_n 3, 1) := by decide +kernel
theorem dX4_strike_42 : decode cX4_strike 42 = .ok (.if_icmp .ne 7, 3) := by decide +kernel
theorem dX4_strike_45 : decode cX4_strike 45 = .ok (.iconst 0, 1) := by decide +kernel
theorem dX4_strike_46 : decode cX4_strike 46 = .ok (.goto 4, 3) := by decide +kernel
theorem dX4_strike_49 : decode cX4_strike 49 = .ok (.iconst 1, 1) := by decide +kernel
theorem dX4_strike_50 : decode cX4_strike 50 = .ok (.ireturn, 1) := by decide +kernel
theorem dX4_minutes_0 : decode cX4_minutes 0 = .ok (.iload_n 1, 1) := by decide +kernel
theorem dX4_minutes_1 : decode cX4_minutes 1 = .ok (.iconst 5, 1) := by decide +kernel
theorem dX4_minutes_2 : decode cX4_minutes 2 = .ok (.if_icmp .lt 9, 3) := by decide +kernel
theorem dX4_minutes_5 : decode cX4_minutes 5 = .ok (.iload_n 1, 1) := by decide +kernel
theorem dX4_minutes_6 : decode cX4_minutes 6 = .ok (.bipush 60, 2) := by decide +kernel
theorem dX4_minutes_8 : decode cX4_minutes 8 = .ok (.if_icmp .le 6, 3) := by decide +kernel
theorem dX4_minutes_11 : decode cX4_minutes 11 = .ok (.bipush (-2), 2) := by decide +kernel
theorem dX4_minutes_13 : decode cX4_minutes 13 = .ok (.ireturn, 1) := by decide +kernel
theorem dX4_minutes_14 : decode cX4_minutes 14 = .ok (.aload_n 0, 1) := by decide +kernel
theorem dX4_minutes_15 : decode cX4_minutes 15 = .ok (.getfield 27, 3) := by decide +kernel
theorem dX4_minutes_18 : decode cX4_minutes 18 = .ok (.invokevirtual 106, 3) := by decide +kernel
theorem dX4_minutes_21 : decode cX4_minutes 21 = .ok (.ifCond .ne 6, 3) := by decide +kernel
theorem dX4_minutes_24 : decode cX4_minutes 24 = .ok (.bipush (-3), 2) := by decide +kernel
theorem dX4_minutes_26 : decode cX4_minutes 26 = .ok (.ireturn, 1) := by decide +kernel
theorem dX4_minutes_27 : decode cX4_minutes 27 = .ok (.aload_n 0, 1) := by decide +kernel
theorem dX4_minutes_28 : decode cX4_minutes 28 = .ok (.getfield 27, 3) := by decide +kernel
theorem dX4_minutes_31 : decode cX4_minutes 31 = .ok (.getfield 117, 3) := by decide +kernel
theorem dX4_minutes_34 : decode cX4_minutes 34 = .ok (.istore_n 2, 1) := by decide +kernel
theorem dX4_minutes_35 : decode cX4_minutes 35 = .ok (.aload_n 0, 1) := by decide +kernel
theorem dX4_minutes_36 : decode cX4_minutes 36 = .ok (.getfield 27, 3) := by decide +kernel
theorem dX4_minutes_39 : decode cX4_minutes 39 = .ok (.iload_n 1, 1) := by decide +kernel
theorem dX4_minutes_40 : decode cX4_minutes 40 = .ok (.putfield 117, 3) := by decide +kernel
theorem dX4_minutes_43 : decode cX4_minutes 43 = .ok (.iload_n 2, 1) := by decide +kernel
theorem dX4_minutes_44 : decode cX4_minutes 44 = .ok (.ireturn, 1) := by decide +kernel
theorem dX4_sitting_0 : decode cX4_sitting 0 = .ok (.aload_n 0, 1) := by decide +kernel
theorem dX4_sitting_1 : decode cX4_sitting 1 = .ok (.iconst 0, 1) := by decide +kernel
theorem dX4_sitting_2 : decode cX4_sitting 2 = .ok (.putfield 45, 3) := by decide +kernel
theorem dX4_sitting_5 : decode cX4_sitting 5 = .ok (.iload_n 1, 1) := by decide +kernel
theorem dX4_sitting_6 : decode cX4_sitting 6 = .ok (.invokestatic 49, 3) := by decide +kernel
theorem dX4_sitting_9 : decode cX4_sitting 9 = .ok (.ifCond .ne 5, 3) := by decide +kernel
theorem dX4_sitting_12 : decode cX4_sitting 12 = .ok (.iconst (-1), 1) := by decide +kernel
theorem dX4_sitting_13 : decode cX4_sitting 13 = .ok (.ireturn, 1) := by decide +kernel
theorem dX4_sitting_14 : decode cX4_sitting 14 = .ok (.iload 5, 2) := by decide +kernel
theorem dX4_sitting_16 : decode cX4_sitting 16 = .ok (.bipush 10, 2) := by decide +kernel
theorem dX4_sitting_18 : decode cX4_sitting 18 = .ok (.if_icmp .lt 14, 3) := by decide +kernel
theorem dX4_sitting_21 : decode cX4_sitting 21 = .ok (.iload 5, 2) := by decide +kernel
theorem dX4_sitting_23 : decode cX4_sitting 23 = .ok (.bipush 15, 2) := by decide +kernel
theorem dX4_sitting_25 : decode cX4_sitting 25 = .ok (.if_icmp .ge 7, 3) := by decide +kernel
theorem dX4_sitting_28 : decode cX4_sitting 28 = .ok (.iconst 1, 1) := by decide +kernel
theorem dX4_sitting_29 : decode cX4_sitting 29 = .ok (.goto 4, 3) := by decide +kernel
theorem dX4_sitting_32 : decode cX4_sitting 32 = .ok (.iconst 0, 1) := by decide +kernel
theorem dX4_sitting_33 : decode cX4_sitting 33 = .ok (.istore 6, 2) := by decide +kernel
theorem dX4_sitting_35 : decode cX4_sitting 35 = .ok (.iload_n 2, 1) := by decide +kernel
theorem dX4_sitting_36 : decode cX4_sitting 36 = .ok (.invokestatic 53, 3) := by decide +kernel
theorem dX4_sitting_39 : decode cX4_sitting 39 = .ok (.ifCond .eq 19, 3) := by decide +kernel
theorem dX4_sitting_42 : decode cX4_sitting 42 = .ok (.iload 6, 2) := by decide +kernel
theorem dX4_sitting_44 : decode cX4_sitting 44 = .ok (.ifCond .ne 17, 3) := by decide +kernel
theorem dX4_sitting_47 : decode cX4_sitting 47 = .ok (.iload 5, 2) := by decide +kernel
theorem dX4_sitting_49 : decode cX4_sitting 49 = .ok (.ifCond .eq 12, 3) := by decide +kernel
theorem dX4_sitting_52 : decode cX4_sitting 52 = .ok (.iload 5, 2) := by decide +kernel
theorem dX4_sitting_54 : decode cX4_sitting 54 = .ok (.iconst 1, 1) := by decide +kernel
theorem dX4_sitting_55 : decode cX4_sitting 55 = .ok (.if_icmp .eq 6, 3) := by decide +kernel
theorem dX4_sitting_58 : decode cX4_sitting 58 = .ok (.bipush (-2), 2) := by decide +kernel
theorem dX4_sitting_60 : decode cX4_sitting 60 = .ok (.ireturn, 1) := by decide +kernel
theorem dX4_sitting_61 : decode cX4_sitting 61 = .ok (.aload_n 0, 1) := by decide +kernel
theorem dX4_sitting_62 : decode cX4_sitting 62 = .ok (.aload_n 0, 1) := by decide +kernel
theorem dX4_sitting_63 : decode cX4_sitting 63 = .ok (.getfield 13, 3) := by decide +kernel
theorem dX4_sitting_66 : decode cX4_sitting 66 = .ok (.iload_n 1, 1) := by decide +kernel
theorem dX4_sitting_67 : decode cX4_sitting 67 = .ok (.aaload, 1) := by decide +kernel
theorem dX4_sitting_68 : decode cX4_sitting 68 = .ok (.iload_n 2, 1) := by decide +kernel
theorem dX4_sitting_69 : decode cX4_sitting 69 = .ok (.iload_n 3, 1) := by decide +kernel
theorem dX4_sitting_70 : decode cX4_sitting 70 = .ok (.iload 4, 2) := by decide +kernel
theorem dX4_sitting_72 : decode cX4_sitting 72 = .ok (.invokevirtual 120, 3) := by decide +kernel
theorem dX4_sitting_75 : decode cX4_sitting 75 = .ok (.istore 7, 2) := by decide +kernel
theorem dX4_sitting_77 : decode cX4_sitting 77 = .ok (.iload 7, 2) := by decide +kernel
theorem dX4_sitting_79 : decode cX4_sitting 79 = .ok (.ifCond .eq 6, 3) := by decide +kernel
theorem dX4_sitting_82 : decode cX4_sitting 82 = .ok (.iload 7, 2) := by decide +kernel
theorem dX4_sitting_84 : decode cX4_sitting 84 = .ok (.ireturn, 1) := by decide +kernel
theorem dX4_sitting_85 : decode cX4_sitting 85 = .ok (.aload_n 0, 1) := by decide +kernel
theorem dX4_sitting_86 : decode cX4_sitting 86 = .ok (.getfield 36, 3) := by decide +kernel
theorem dX4_sitting_89 : decode cX4_sitting 89 = .ok (.invokevirtual 124, 3) := by decide +kernel
theorem dX4_sitting_92 : decode cX4_sitting 92 = .ok (.iload 6, 2) := by decide +kernel
theorem dX4_sitting_94 : decode cX4_sitting 94 = .ok (.ifCond .eq 17, 3) := by decide +kernel
theorem dX4_sitting_97 : decode cX4_sitting 97 = .ok (.aload_n 0, 1) := by decide +kernel
theorem dX4_sitting_98 : decode cX4_sitting 98 = .ok (.getfield 36, 3) := by decide +kernel
theorem dX4_sitting_101 : decode cX4_sitting 101 = .ok (.getfield 127, 3) := by decide +kernel
theorem dX4_sitting_104 : decode cX4_sitting 104 = .ok (.iload 5, 2) := by decide +kernel
theorem dX4_sitting_106 : decode cX4_sitting 106 = .ok (.bipush 10, 2) := by decide +kernel
theorem dX4_sitting_108 : decode cX4_sitting 108 = .ok (.isub, 1) := by decide +kernel
theorem dX4_sitting_109 : decode cX4_sitting 109 = .ok (.iaload, 1) := by decide +kernel
theorem dX4_sitting_110 : decode cX4_sitting 110 = .ok (.ireturn, 1) := by decide +kernel
theorem dX4_sitting_111 : decode cX4_sitting 111 = .ok (.iload 5, 2) := by decide +kernel
theorem dX4_sitting_113 : decode cX4_sitting 113 = .ok (.ifCond .ne 13, 3) := by decide +kernel
theorem dX4_sitting_116 : decode cX4_sitting 116 = .ok (.aload_n 0, 1) := by decide +kernel
theorem dX4_sitting_117 : decode cX4_sitting 117 = .ok (.getfield 36, 3) := by decide +kernel
theorem dX4_sitting_120 : decode cX4_sitting 120 = .ok (.getfield 130, 3) := by decide +kernel
theorem dX4_sitting_123 : decode cX4_sitting 123 = .ok (.goto 10, 3) := by decide +kernel
theorem dX4_sitting_126 : decode cX4_sitting 126 = .ok (.aload_n 0, 1) := by decide +kernel
theorem dX4_sitting_127 : decode cX4_sitting 127 = .ok (.getfield 36, 3) := by decide +kernel
theorem dX4_sitting_130 : decode cX4_sitting 130 = .ok (.getfield 133, 3) := by decide +kernel
theorem dX4_sitting_133 : decode cX4_sitting 133 = .ok (.ireturn, 1) := by decide +kernel
theorem dX4_votes_0 : decode cX4_votes 0 = .ok (.aload_n 0, 1) := by decide +kernel
theorem dX4_votes_1 : decode cX4_votes 1 = .ok (.getfield 27, 3) := by decide +kernel
theorem dX4_votes_4 : decode cX4_votes 4 = .ok (.iload_n 1, 1) := by decide +kernel
theorem dX4_votes_5 : decode cX4_votes 5 = .ok (.invokevirtual 94, 3) := by decide +kernel
theorem dX4_votes_8 : decode cX4_votes 8 = .ok (.ifCond .ne 5, 3) := by decide +kernel
theorem dX4_votes_11 : decode cX4_votes 11 = .ok (.iconst (-1), 1) := by decide +kernel
theorem dX4_votes_12 : decode cX4_votes 12 = .ok (.ireturn, 1) := by decide +kernel
theorem dX4_votes_13 : decode cX4_votes 13 = .ok (.iload_n 2, 1) := by decide +kernel
theorem dX4_votes_14 : decode cX4_votes 14 = .ok (.ifCond .lt 9, 3) := by decide +kernel
theorem dX4_votes_17 : decode cX4_votes 17 = .ok (.iload_n 2, 1) := by decide +kernel
theorem dX4_votes_18 : decode cX4_votes 18 = .ok (.bipush 60, 2) := by decide +kernel
theorem dX4_votes_20 : decode cX4_votes 20 = .ok (.if_icmp .le 6, 3) := by decide +kernel
theorem dX4_votes_23 : decode cX4_votes 23 = .ok (.bipush (-2), 2) := by decide +kernel
theorem dX4_votes_25 : decode cX4_votes 25 = .ok (.ireturn, 1) := by decide +kernel
theorem dX4_votes_26 : decode cX4_votes 26 = .ok (.aload_n 0, 1) := by decide +kernel
theorem dX4_votes_27 : decode cX4_votes 27 = .ok (.getfield 36, 3) := by decide +kernel
theorem dX4_votes_30 : decode cX4_votes 30 = .ok (.invokevirtual 136, 3) := by decide +kernel
theorem dX4_votes_33 : decode cX4_votes 33 = .ok (.aload_n 0, 1) := by decide +kernel
theorem dX4_votes_34 : decode cX4_votes 34 = .ok (.getfield 36, 3) := by decide +kernel
theorem dX4_votes_37 : decode cX4_votes 37 = .ok (.aload_n 0, 1) := by decide +kernel
theorem dX4_votes_38 : decode cX4_votes 38 = .ok (.getfield 27, 3) := by decide +kernel
theorem dX4_votes_41 : decode cX4_votes 41 = .ok (.getfield 97, 3) := by decide +kernel
theorem dX4_votes_44 : decode cX4_votes 44 = .ok (.iload_n 1, 1) := by decide +kernel
theorem dX4_votes_45 : decode cX4_votes 45 = .ok (.iaload, 1) := by decide +kernel
theorem dX4_votes_46 : decode cX4_votes 46 = .ok (.iload_n 2, 1) := by decide +kernel
theorem dX4_votes_47 : decode cX4_votes 47 = .ok (.invokevirtual 139, 3) := by decide +kernel
theorem dX4_votes_50 : decode cX4_votes 50 = .ok (.ireturn, 1) := by decide +kernel
theorem dX4_most_0 : decode cX4_most 0 = .ok (.aload_n 0, 1) := by decide +kernel
theorem dX4_most_1 : decode cX4_most 1 = .ok (.iload_n 1, 1) := by decide +kernel
theorem dX4_most_2 : decode cX4_most 2 = .ok (.iconst 1, 1) := by decide +kernel
theorem dX4_most_3 : decode cX4_most 3 = .ok (.invokevirtual 142, 3) := by decide +kernel
theorem dX4_most_6 : decode cX4_most 6 = .ok (.ireturn, 1) := by decide +kernel
theorem dX4_delay_0 : decode cX4_delay 0 = .ok (.aload_n 0, 1) := by decide +kernel
theorem dX4_delay_1 : decode cX4_delay 1 = .ok (.iload_n 1, 1) := by decide +kernel
theorem dX4_delay_2 : decode cX4_delay 2 = .ok (.iconst (-1), 1) := by decide +kernel
theorem dX4_delay_3 : decode cX4_delay 3 = .ok (.invokevirtual 142, 3) := by decide +kernel
theorem dX4_delay_6 : decode cX4_delay 6 = .ok (.ireturn, 1) := by decide +kernel
theorem dX4_bribe_0 : decode cX4_bribe 0 = .ok (.aload_n 0, 1) := by decide +kernel
theorem dX4_bribe_1 : decode cX4_bribe 1 = .ok (.iconst 0, 1) := by decide +kernel
theorem dX4_bribe_2 : decode cX4_bribe 2 = .ok (.putfield 45, 3) := by decide +kernel
theorem dX4_bribe_5 : decode cX4_bribe 5 = .ok (.aload_n 0, 1) := by decide +kernel
theorem dX4_bribe_6 : decode cX4_bribe 6 = .ok (.getfield 27, 3) := by decide +kernel
theorem dX4_bribe_9 : decode cX4_bribe 9 = .ok (.iload_n 1, 1) := by decide +kernel
theorem dX4_bribe_10 : decode cX4_bribe 10 = .ok (.invokevirtual 94, 3) := by decide +kernel
theorem dX4_bribe_13 : decode cX4_bribe 13 = .ok (.ifCond .eq 10, 3) := by decide +kernel
theorem dX4_bribe_16 : decode cX4_bribe 16 = .ok (.iload_n 2, 1) := by decide +kernel
theorem dX4_bribe_17 : decode cX4_bribe 17 = .ok (.invokestatic 49, 3) := by decide +kernel
theorem dX4_bribe_20 : decode cX4_bribe 20 = .ok (.ifCond .ne 5, 3) := by decide +kernel
theorem dX4_bribe_23 : decode cX4_bribe 23 = .ok (.iconst (-1), 1) := by decide +kernel
theorem dX4_bribe_24 : decode cX4_bribe 24 = .ok (.ireturn, 1) := by decide +kernel
theorem dX4_bribe_25 : decode cX4_bribe 25 = .ok (.iload_n 3, 1) := by decide +kernel
theorem dX4_bribe_26 : decode cX4_bribe 26 = .ok (.invokestatic 53, 3) := by decide +kernel
theorem dX4_bribe_29 : decode cX4_bribe 29 = .ok (.ifCond .ne 6, 3) := by decide +kernel
theorem dX4_bribe_32 : decode cX4_bribe 32 = .ok (.bipush (-2), 2) := by decide +kernel
theorem dX4_bribe_34 : decode cX4_bribe 34 = .ok (.ireturn, 1) := by decide +kernel
theorem dX4_bribe_35 : decode cX4_bribe 35 = .ok (.aload_n 0, 1) := by decide +kernel
theorem dX4_bribe_36 : decode cX4_bribe 36 = .ok (.aload_n 0, 1) := by decide +kernel
theorem dX4_bribe_37 : decode cX4_bribe 37 = .ok (.getfield 13, 3) := by decide +kernel
theorem dX4_bribe_40 : decode cX4_bribe 40 = .ok (.iload_n 2, 1) := by decide +kernel
theorem dX4_bribe_41 : decode cX4_bribe 41 = .ok (.aaload, 1) := by decide +kernel
theorem dX4_bribe_42 : decode cX4_bribe 42 = .ok (.iload_n 3, 1) := by decide +kernel
theorem dX4_bribe_43 : decode cX4_bribe 43 = .ok (.iload 4, 2) := by decide +kernel
theorem dX4_bribe_45 : decode cX4_bribe 45 = .ok (.iload 5, 2) := by decide +kernel
theorem dX4_bribe_47 : decode cX4_bribe 47 = .ok (.invokevirtual 120, 3) := by decide +kernel
theorem dX4_bribe_50 : decode cX4_bribe 50 = .ok (.istore 6, 2) := by decide +kernel
theorem dX4_bribe_52 : decode cX4_bribe 52 = .ok (.iload 6, 2) := by decide +kernel
theorem dX4_bribe_54 : decode cX4_bribe 54 = .ok (.ifCond .eq 8, 3) := by decide +kernel
theorem dX4_bribe_57 : decode cX4_bribe 57 = .ok (.iload 6, 2) := by decide +kernel
theorem dX4_bribe_59 : decode cX4_bribe 59 = .ok (.goto 8, 3) := by decide +kernel
theorem dX4_bribe_62 : decode cX4_bribe 62 = .ok (.aload_n 0, 1) := by decide +kernel
theorem dX4_bribe_63 : decode cX4_bribe 63 = .ok (.iload_n 1, 1) := by decide +kernel
theorem dX4_bribe_64 : decode cX4_bribe 64 = .ok (.invokevirtual 145, 3) := by decide +kernel
theorem dX4_bribe_67 : decode cX4_bribe 67 = .ok (.ireturn, 1) := by decide +kernel
theorem dX4_strikes_0 : decode cX4_strikes 0 = .ok (.iload_n 1, 1) := by decide +kernel
theorem dX4_strikes_1 : decode cX4_strikes 1 = .ok (.ifCond .lt 8, 3) := by decide +kernel
theorem dX4_strikes_4 : decode cX4_strikes 4 = .ok (.iload_n 1, 1) := by decide +kernel
theorem dX4_strikes_5 : decode cX4_strikes 5 = .ok (.iconst 1, 1) := by decide +kernel
theorem dX4_strikes_6 : decode cX4_strikes 6 = .ok (.if_icmp .le 6, 3) := by decide +kernel
theorem dX4_strikes_9 : decode cX4_strikes 9 = .ok (.bipush (-2), 2) := by decide +kernel
theorem dX4_strikes_11 : decode cX4_strikes 11 = .ok (.ireturn, 1) := by decide +kernel
theorem dX4_strikes_12 : decode cX4_strikes 12 = .ok (.aload_n 0, 1) := by decide +kernel
theorem dX4_strikes_13 : decode cX4_strikes 13 = .ok (.getfield 27, 3) := by decide +kernel
theorem dX4_strikes_16 : decode cX4_strikes 16 = .ok (.invokevirtual 106, 3) := by decide +kernel
theorem dX4_strikes_19 : decode cX4_strikes 19 = .ok (.ifCond .ne 6, 3) := by decide +kernel
theorem dX4_strikes_22 : decode cX4_strikes 22 = .ok (.bipush (-3), 2) := by decide +kernel
theorem dX4_strikes_24 : decode cX4_strikes 24 = .ok (.ireturn, 1) := by decide +kernel
theorem dX4_strikes_25 : decode cX4_strikes 25 = .ok (.aload_n 0, 1) := by decide +kernel
theorem dX4_strikes_26 : decode cX4_strikes 26 = .ok (.invokevirtual 148, 3) := by decide +kernel
theorem dX4_strikes_29 : decode cX4_strikes 29 = .ok (.bipush (-9), 2) := by decide +kernel
theorem dX4_strikes_31 : decode cX4_strikes 31 = .ok (.istore_n 2, 1) := by decide +kernel
theorem dX4_strikes_32 : decode cX4_strikes 32 = .ok (.iconst 0, 1) := by decide +kernel
theorem dX4_strikes_33 : decode cX4_strikes 33 = .ok (.istore_n 3, 1) := by decide +kernel
theorem dX4_strikes_34 : decode cX4_strikes 34 = .ok (.iconst 0, 1) := by decide +kernel
theorem dX4_strikes_35 : decode cX4_strikes 35 = .ok (.istore 4, 2) := by decide +kernel
theorem dX4_strikes_37 : decode cX4_strikes 37 = .ok (.iload 4, 2) := by decide +kernel
theorem dX4_strikes_39 : decode cX4_strikes 39 = .ok (.aload_n 0, 1) := by decide +kernel
theorem dX4_strikes_40 : decode cX4_strikes 40 = .ok (.getfield 27, 3) := by decide +kernel
theorem dX4_strikes_43 : decode cX4_strikes 43 = .ok (.getfield 151, 3) := by decide +kernel
theorem dX4_strikes_46 : decode cX4_strikes 46 = .ok (.if_icmp .ge 61, 3) := by decide +kernel
theorem dX4_strikes_49 : decode cX4_strikes 49 = .ok (.aload_n 0, 1) := by decide +kernel
theorem dX4_strikes_50 : decode cX4_strikes 50 = .ok (.getfield 27, 3) := by decide +kernel
theorem dX4_strikes_53 : decode cX4_strikes 53 = .ok (.getfield 91, 3) := by decide +kernel
theorem dX4_strikes_56 : decode cX4_strikes 56 = .ok (.iload 4, 2) := by decide +kernel
theorem dX4_strikes_58 : decode cX4_strikes 58 = .ok (.invokestatic 87, 3) := by decide +kernel
theorem dX4_strikes_61 : decode cX4_strikes 61 = .ok (.ifCond .ne 40, 3) := by decide +kernel
theorem dX4_strikes_64 : decode cX4_strikes 64 = .ok (.aload_n 0, 1) := by decide +kernel
theorem dX4_strikes_65 : decode cX4_strikes 65 = .ok (.aload_n 0, 1) := by decide +kernel
theorem dX4_strikes_66 : decode cX4_strikes 66 = .ok (.getfield 27, 3) := by decide +kernel
theorem dX4_strikes_69 : decode cX4_strikes 69 = .ok (.getfield 91, 3) := by decide +kernel
theorem dX4_strikes_72 : decode cX4_strikes 72 = .ok (.iload 4, 2) := by decide +kernel
theorem dX4_strikes_74 : decode cX4_strikes 74 = .ok (.iconst 1, 1) := by decide +kernel
theorem dX4_strikes_75 : decode cX4_strikes 75 = .ok (.invokestatic 113, 3) := by decide +kernel
theorem dX4_strikes_78 : decode cX4_strikes 78 = .ok (.invokevirtual 154, 3) := by decide +kernel
theorem dX4_strikes_81 : decode cX4_strikes 81 = .ok (.istore 5, 2) := by decide +kernel
theorem dX4_strikes_83 : decode cX4_strikes 83 = .ok (.iload_n 2, 1) := by decide +kernel
theorem dX4_strikes_84 : decode cX4_strikes 84 = .ok (.bipush (-9), 2) := by decide +kernel
theorem dX4_strikes_86 : decode cX4_strikes 86 = .ok (.if_icmp .eq 9, 3) := by decide +kernel
theorem dX4_strikes_89 : decode cX4_strikes 89 = .ok (.iload 5, 2) := by decide +kernel
theorem dX4_strikes_91 : decode cX4_strikes 91 = .ok (.iload_n 3, 1) := by decide +kernel
theorem dX4_strikes_92 : decode cX4_strikes 92 = .ok (.if_icmp .ge 9, 3) := by decide +kernel
theorem dX4_strikes_95 : decode cX4_strikes 95 = .ok (.iload 4, 2) := by decide +kernel
theorem dX4_strikes_97 : decode cX4_strikes 97 = .ok (.istore_n 2, 1) := by decide +kernel
theorem dX4_strikes_98 : decode cX4_strikes 98 = .ok (.iload 5, 2) := by decide +kernel
theorem dX4_strikes_100 : decode cX4_strikes 100 = .ok (.istore_n 3, 1) := by decide +kernel
theorem dX4_strikes_101 : decode cX4_strikes 101 = .ok (.iinc 4 1, 3) := by decide +kernel
theorem dX4_strikes_104 : decode cX4_strikes 104 = .ok (.goto (-67), 3) := by decide +kernel
theorem dX4_strikes_107 : decode cX4_strikes 107 = .ok (.iload_n 1, 1) := by decide +kernel
theorem dX4_strikes_108 : decode cX4_strikes 108 = .ok (.iconst 1, 1) := by decide +kernel
theorem dX4_strikes_109 : decode cX4_strikes 109 = .ok (.if_icmp .ne 5, 3) := by decide +kernel
theorem dX4_strikes_112 : decode cX4_strikes 112 = .ok (.iload_n 2, 1) := by decide +kernel
theorem dX4_strikes_113 : decode cX4_strikes 113 = .ok (.ireturn, 1) := by decide +kernel
theorem dX4_strikes_114 : decode cX4_strikes 114 = .ok (.iload_n 2, 1) := by decide +kernel
theorem dX4_strikes_115 : decode cX4_strikes 115 = .ok (.bipush (-9), 2) := by decide +kernel
theorem dX4_strikes_117 : decode cX4_strikes 117 = .ok (.if_icmp .ne 17, 3) := by decide +kernel
theorem dX4_strikes_120 : decode cX4_strikes 120 = .ok (.aload_n 0, 1) := by decide +kernel
theorem dX4_strikes_121 : decode cX4_strikes 121 = .ok (.aload_n 0, 1) := by decide +kernel
theorem dX4_strikes_122 : decode cX4_strikes 122 = .ok (.getfield 27, 3) := by decide +kernel
theorem dX4_strikes_125 : decode cX4_strikes 125 = .ok (.getfield 91, 3) := by decide +kernel
theorem dX4_strikes_128 : decode cX4_strikes 128 = .ok (.invokevirtual 157, 3) := by decide +kernel
theorem dX4_strikes_131 : decode cX4_strikes 131 = .ok (.goto 4, 3) := by decide +kernel
theorem dX4_strikes_134 : decode cX4_strikes 134 = .ok (.iload_n 3, 1) := by decide +kernel
theorem dX4_strikes_135 : decode cX4_strikes 135 = .ok (.ireturn, 1) := by decide +kernel
theorem dX4_worth_0 : decode cX4_worth 0 = .ok (.aload_n 0, 1) := by decide +kernel
theorem dX4_worth_1 : decode cX4_worth 1 = .ok (.getfield 27, 3) := by decide +kernel
theorem dX4_worth_4 : decode cX4_worth 4 = .ok (.iload_n 1, 1) := by decide +kernel
theorem dX4_worth_5 : decode cX4_worth 5 = .ok (.invokevirtual 75, 3) := by decide +kernel
theorem dX4_worth_8 : decode cX4_worth 8 = .ok (.ifCond .ne 5, 3) := by decide +kernel
theorem dX4_worth_11 : decode cX4_worth 11 = .ok (.iconst (-1), 1) := by decide +kernel
theorem dX4_worth_12 : decode cX4_worth 12 = .ok (.ireturn, 1) := by decide +kernel
theorem dX4_worth_13 : decode cX4_worth 13 = .ok (.aload_n 0, 1) := by decide +kernel
theorem dX4_worth_14 : decode cX4_worth 14 = .ok (.invokevirtual 148, 3) := by decide +kernel
theorem dX4_worth_17 : decode cX4_worth 17 = .ok (.aload_n 0, 1) := by decide +kernel
theorem dX4_worth_18 : decode cX4_worth 18 = .ok (.aload_n 0, 1) := by decide +kernel
theorem dX4_worth_19 : decode cX4_worth 19 = .ok (.getfield 27, 3) := by decide +kernel
theorem dX4_worth_22 : decode cX4_worth 22 = .ok (.getfield 91, 3) := by decide +kernel
theorem dX4_worth_25 : decode cX4_worth 25 = .ok (.invokevirtual 157, 3) := by decide +kernel
theorem dX4_worth_28 : decode cX4_worth 28 = .ok (.istore_n 2, 1) := by decide +kernel
theorem dX4_worth_29 : decode cX4_worth 29 = .ok (.aload_n 0, 1) := by decide +kernel
theorem dX4_worth_30 : decode cX4_worth 30 = .ok (.aload_n 0, 1) := by decide +kernel
theorem dX4_worth_31 : decode cX4_worth 31 = .ok (.getfield 27, 3) := by decide +kernel
theorem dX4_worth_34 : decode cX4_worth 34 = .ok (.getfield 91, 3) := by decide +kernel
theorem dX4_worth_37 : decode cX4_worth 37 = .ok (.iload_n 1, 1) := by decide +kernel
theorem dX4_worth_38 : decode cX4_worth 38 = .ok (.iconst 1, 1) := by decide +kernel
theorem dX4_worth_39 : decode cX4_worth 39 = .ok (.invokestatic 113, 3) := by decide +kernel
theorem dX4_worth_42 : decode cX4_worth 42 = .ok (.invokevirtual 157, 3) := by decide +kernel
theorem dX4_worth_45 : decode cX4_worth 45 = .ok (.istore_n 3, 1) := by decide +kernel
theorem dX4_worth_46 : decode cX4_worth 46 = .ok (.iload_n 2, 1) := by decide +kernel
theorem dX4_worth_47 : decode cX4_worth 47 = .ok (.iload_n 3, 1) := by decide +kernel
theorem dX4_worth_48 : decode cX4_worth 48 = .ok (.isub, 1) := by decide +kernel
theorem dX4_worth_49 : decode cX4_worth 49 = .ok (.bipush 100, 2) := by decide +kernel
theorem dX4_worth_51 : decode cX4_worth 51 = .ok (.iadd, 1) := by decide +kernel
theorem dX4_worth_52 : decode cX4_worth 52 = .ok (.ireturn, 1) := by decide +kernel
theorem dX4_reading_0 : decode cX4_reading 0 = .ok (.aload_n 0, 1) := by decide +kernel
theorem dX4_reading_1 : decode cX4_reading 1 = .ok (.getfield 27, 3) := by decide +kernel
theorem dX4_reading_4 : decode cX4_reading 4 = .ok (.iload_n 1, 1) := by decide +kernel
theorem dX4_reading_5 : decode cX4_reading 5 = .ok (.invokevirtual 94, 3) := by decide +kernel
theorem dX4_reading_8 : decode cX4_reading 8 = .ok (.ifCond .ne 5, 3) := by decide +kernel
theorem dX4_reading_11 : decode cX4_reading 11 = .ok (.iconst (-1), 1) := by decide +kernel
theorem dX4_reading_12 : decode cX4_reading 12 = .ok (.ireturn, 1) := by decide +kernel
theorem dX4_reading_13 : decode cX4_reading 13 = .ok (.iload_n 2, 1) := by decide +kernel
theorem dX4_reading_14 : decode cX4_reading 14 = .ok (.ifCond .lt 8, 3) := by decide +kernel
theorem dX4_reading_17 : decode cX4_reading 17 = .ok (.iload_n 2, 1) := by decide +kernel
theorem dX4_reading_18 : decode cX4_reading 18 = .ok (.iconst 2, 1) := by decide +kernel
theorem dX4_reading_19 : decode cX4_reading 19 = .ok (.if_icmp .le 6, 3) := by decide +kernel
theorem dX4_reading_22 : decode cX4_reading 22 = .ok (.bipush (-2), 2) := by decide +kernel
theorem dX4_reading_24 : decode cX4_reading 24 = .ok (.ireturn, 1) := by decide +kernel
theorem dX4_reading_25 : decode cX4_reading 25 = .ok (.aload_n 0, 1) := by decide +kernel
theorem dX4_reading_26 : decode cX4_reading 26 = .ok (.getfield 27, 3) := by decide +kernel
theorem dX4_reading_29 : decode cX4_reading 29 = .ok (.getfield 160, 3) := by decide +kernel
theorem dX4_reading_32 : decode cX4_reading 32 = .ok (.bipush 8, 2) := by decide +kernel
theorem dX4_reading_34 : decode cX4_reading 34 = .ok (.if_icmp .lt 6, 3) := by decide +kernel
theorem dX4_reading_37 : decode cX4_reading 37 = .ok (.bipush (-4), 2) := by decide +kernel
theorem dX4_reading_39 : decode cX4_reading 39 = .ok (.ireturn, 1) := by decide +kernel
theorem dX4_reading_40 : decode cX4_reading 40 = .ok (.aload_n 0, 1) := by decide +kernel
theorem dX4_reading_41 : decode cX4_reading 41 = .ok (.getfield 27, 3) := by decide +kernel
theorem dX4_reading_44 : decode cX4_reading 44 = .ok (.getfield 160, 3) := by decide +kernel
theorem dX4_reading_47 : decode cX4_reading 47 = .ok (.istore_n 3, 1) := by decide +kernel
theorem dX4_reading_48 : decode cX4_reading 48 = .ok (.aload_n 0, 1) := by decide +kernel
theorem dX4_reading_49 : decode cX4_reading 49 = .ok (.getfield 27, 3) := by decide +kernel
theorem dX4_reading_52 : decode cX4_reading 52 = .ok (.getfield 163, 3) := by decide +kernel
theorem dX4_reading_55 : decode cX4_reading 55 = .ok (.iload_n 3, 1) := by decide +kernel
theorem dX4_reading_56 : decode cX4_reading 56 = .ok (.iload_n 1, 1) := by decide +kernel
theorem dX4_reading_57 : decode cX4_reading 57 = .ok (.iastore, 1) := by decide +kernel
theorem dX4_reading_58 : decode cX4_reading 58 = .ok (.aload_n 0, 1) := by decide +kernel
theorem dX4_reading_59 : decode cX4_reading 59 = .ok (.getfield 27, 3) := by decide +kernel
theorem dX4_reading_62 : decode cX4_reading 62 = .ok (.getfield 166, 3) := by decide +kernel
theorem dX4_reading_65 : decode cX4_reading 65 = .ok (.iload_n 3, 1) := by decide +kernel
theorem dX4_reading_66 : decode cX4_reading 66 = .ok (.iload_n 2, 1) := by decide +kernel
theorem dX4_reading_67 : decode cX4_reading 67 = .ok (.iastore, 1) := by decide +kernel
theorem dX4_reading_68 : decode cX4_reading 68 = .ok (.aload_n 0, 1) := by decide +kernel
theorem dX4_reading_69 : decode cX4_reading 69 = .ok (.getfield 27, 3) := by decide +kernel
theorem dX4_reading_72 : decode cX4_reading 72 = .ok (.iload_n 3, 1) := by decide +kernel
theorem dX4_reading_73 : decode cX4_reading 73 = .ok (.iconst 1, 1) := by decide +kernel
theorem dX4_reading_74 : decode cX4_reading 74 = .ok (.iadd, 1) := by decide +kernel
theorem dX4_reading_75 : decode cX4_reading 75 = .ok (.putfield 160, 3) := by decide +kernel
theorem dX4_reading_78 : decode cX4_reading 78 = .ok (.iload_n 3, 1) := by decide +kernel
theorem dX4_reading_79 : decode cX4_reading 79 = .ok (.ireturn, 1) := by decide +kernel
theorem dX4_back_0 : decode cX4_back 0 = .ok (.iload_n 1, 1) := by decide +kernel
theorem dX4_back_1 : decode cX4_back 1 = .ok (.ifCond .lt 14, 3) := by decide +kernel
theorem dX4_back_4 : decode cX4_back 4 = .ok (.iload_n 1, 1) := by decide +kernel
theorem dX4_back_5 : decode cX4_back 5 = .ok (.aload_n 0, 1) := by decide +kernel
theorem dX4_back_6 : decode cX4_back 6 = .ok (.getfield 27, 3) := by decide +kernel
theorem dX4_back_9 : decode cX4_back 9 = .ok (.getfield 160, 3) := by decide +kernel
theorem dX4_back_12 : decode cX4_back 12 = .ok (.if_icmp .le 6, 3) := by decide +kernel
theorem dX4_back_15 : decode cX4_back 15 = .ok (.bipush (-2), 2) := by decide +kernel
theorem dX4_back_17 : decode cX4_back 17 = .ok (.ireturn, 1) := by decide +kernel
theorem dX4_back_18 : decode cX4_back 18 = .ok (.aload_n 0, 1) := by decide +kernel
theorem dX4_back_19 : decode cX4_back 19 = .ok (.getfield 27, 3) := by decide +kernel
theorem dX4_back_22 : decode cX4_back 22 = .ok (.dup, 1) := by decide +kernel
theorem dX4_back_23 : decode cX4_back 23 = .ok (.getfield 160, 3) := by decide +kernel
theorem dX4_back_26 : decode cX4_back 26 = .ok (.iload_n 1, 1) := by decide +kernel
theorem dX4_back_27 : decode cX4_back 27 = .ok (.isub, 1) := by decide +kernel
theorem dX4_back_28 : decode cX4_back 28 = .ok (.putfield 160, 3) := by decide +kernel
theorem dX4_back_31 : decode cX4_back 31 = .ok (.aload_n 0, 1) := by decide +kernel
theorem dX4_back_32 : decode cX4_back 32 = .ok (.getfield 27, 3) := by decide +kernel
theorem dX4_back_35 : decode cX4_back 35 = .ok (.getfield 160, 3) := by decide +kernel
theorem dX4_back_38 : decode cX4_back 38 = .ok (.ireturn, 1) := by decide +kernel
theorem dX4_codes_0 : decode cX4_codes 0 = .ok (.iload_n 1, 1) := by decide +kernel
theorem dX4_codes_1 : decode cX4_codes 1 = .ok (.ifCond .lt 8, 3) := by decide +kernel
theorem dX4_codes_4 : decode cX4_codes 4 = .ok (.iload_n 1, 1) := by decide +kernel
theorem dX4_codes_5 : decode cX4_codes 5 = .ok (.iconst 2, 1) := by decide +kernel
theorem dX4_codes_6 : decode cX4_codes 6 = .ok (.if_icmp .le 6, 3) := by decide +kernel
theorem dX4_codes_9 : decode cX4_codes 9 = .ok (.bipush (-2), 2) := by decide +kernel
theorem dX4_codes_11 : decode cX4_codes 11 = .ok (.ireturn, 1) := by decide +kernel
theorem dX4_codes_12 : decode cX4_codes 12 = .ok (.aload_n 0, 1) := by decide +kernel
theorem dX4_codes_13 : decode cX4_codes 13 = .ok (.getfield 27, 3) := by decide +kernel
theorem dX4_codes_16 : decode cX4_codes 16 = .ok (.invokevirtual 106, 3) := by decide +kernel
theorem dX4_codes_19 : decode cX4_codes 19 = .ok (.ifCond .ne 6, 3) := by decide +kernel
theorem dX4_codes_22 : decode cX4_codes 22 = .ok (.bipush (-3), 2) := by decide +kernel
theorem dX4_codes_24 : decode cX4_codes 24 = .ok (.ireturn, 1) := by decide +kernel
theorem dX4_codes_25 : decode cX4_codes 25 = .ok (.aload_n 0, 1) := by decide +kernel
theorem dX4_codes_26 : decode cX4_codes 26 = .ok (.invokevirtual 148, 3) := by decide +kernel
theorem dX4_codes_29 : decode cX4_codes 29 = .ok (.iconst 0, 1) := by decide +kernel
theorem dX4_codes_30 : decode cX4_codes 30 = .ok (.istore_n 2, 1) := by decide +kernel
theorem dX4_codes_31 : decode cX4_codes 31 = .ok (.bipush (-9), 2) := by decide +kernel
theorem dX4_codes_33 : decode cX4_codes 33 = .ok (.istore_n 3, 1) := by decide +kernel
theorem dX4_codes_34 : decode cX4_codes 34 = .ok (.bipush (-9), 2) := by decide +kernel
theorem dX4_codes_36 : decode cX4_codes 36 = .ok (.istore 4, 2) := by decide +kernel
theorem dX4_codes_38 : decode cX4_codes 38 = .ok (.iconst 0, 1) := by decide +kernel
theorem dX4_codes_39 : decode cX4_codes 39 = .ok (.istore 5, 2) := by decide +kernel
theorem dX4_codes_41 : decode cX4_codes 41 = .ok (.iload 5, 2) := by decide +kernel
theorem dX4_codes_43 : decode cX4_codes 43 = .ok (.bipush 64, 2) := by decide +kernel
theorem dX4_codes_45 : decode cX4_codes 45 = .ok (.if_icmp .ge 67, 3) := by decide +kernel
theorem dX4_codes_48 : decode cX4_codes 48 = .ok (.aload_n 0, 1) := by decide +kernel
theorem dX4_codes_49 : decode cX4_codes 49 = .ok (.getfield 36, 3) := by decide +kernel
theorem dX4_codes_52 : decode cX4_codes 52 = .ok (.iload 5, 2) := by decide +kernel
theorem dX4_codes_54 : decode cX4_codes 54 = .ok (.putfield 169, 3) := by decide +kernel
theorem dX4_codes_57 : decode cX4_codes 57 = .ok (.aload_n 0, 1) := by decide +kernel
theorem dX4_codes_58 : decode cX4_codes 58 = .ok (.invokevirtual 170, 3) := by decide +kernel
theorem dX4_codes_61 : decode cX4_codes 61 = .ok (.ifCond .eq 45, 3) := by decide +kernel
theorem dX4_codes_64 : decode cX4_codes 64 = .ok (.iinc 2 1, 3) := by decide +kernel
theorem dX4_codes_67 : decode cX4_codes 67 = .ok (.iload_n 3, 1) := by decide +kernel
theorem dX4_codes_68 : decode cX4_codes 68 = .ok (.bipush (-9), 2) := by decide +kernel
theorem dX4_codes_70 : decode cX4_codes 70 = .ok (.if_icmp .ne 8, 3) := by decide +kernel
theorem dX4_codes_73 : decode cX4_codes 73 = .ok (.iload 5, 2) := by decide +kernel
theorem dX4_codes_75 : decode cX4_codes 75 = .ok (.goto 4, 3) := by decide +kernel
theorem dX4_codes_78 : decode cX4_codes 78 = .ok (.iload_n 3, 1) := by decide +kernel
theorem dX4_codes_79 : decode cX4_codes 79 = .ok (.istore_n 3, 1) := by decide +kernel
theorem dX4_codes_80 : decode cX4_codes 80 = .ok (.iload 4, 2) := by decide +kernel
theorem dX4_codes_82 : decode cX4_codes 82 = .ok (.bipush (-9), 2) := by decide +kernel
theorem dX4_codes_84 : decode cX4_codes 84 = .ok (.if_icmp .eq 13, 3) := by decide +kernel
theorem dX4_codes_87 : decode cX4_codes 87 = .ok (.iload 5, 2) := by decide +kernel
theorem dX4_codes_89 : decode cX4_codes 89 = .ok (.iload 4, 2) := by decide +kernel
theorem dX4_codes_91 : decode cX4_codes 91 = .ok (.invokestatic 173, 3) := by decide +kernel
theorem dX4_codes_94 : decode cX4_codes 94 = .ok (.ifCond .eq 8, 3) := by decide +kernel
theorem dX4_codes_97 : decode cX4_codes 97 = .ok (.iload 5, 2) := by decide +kernel
theorem dX4_codes_99 : decode cX4_codes 99 = .ok (.goto 5, 3) := by decide +kernel
theorem dX4_codes_102 : decode cX4_codes 102 = .ok (.iload 4, 2) := by decide +kernel
theorem dX4_codes_104 : decode cX4_codes 104 = .ok (.istore 4, 2) := by decide +kernel
theorem dX4_codes_106 : decode cX4_codes 106 = .ok (.iinc 5 1, 3) := by decide +kernel
theorem dX4_codes_109 : decode cX4_codes 109 = .ok (.goto (-68), 3) := by decide +kernel
theorem dX4_codes_112 : decode cX4_codes 112 = .ok (.iload_n 1, 1) := by decide +kernel
theorem dX4_codes_113 : decode cX4_codes 113 = .ok (.ifCond .ne 5, 3) := by decide +kernel
theorem dX4_codes_116 : decode cX4_codes 116 = .ok (.iload_n 2, 1) := by decide +kernel
theorem dX4_codes_117 : decode cX4_codes 117 = .ok (.ireturn, 1) := by decide +kernel
theorem dX4_codes_118 : decode cX4_codes 118 = .ok (.iload_n 1, 1) := by decide +kernel
theorem dX4_codes_119 : decode cX4_codes 119 = .ok (.iconst 1, 1) := by decide +kernel
theorem dX4_codes_120 : decode cX4_codes 120 = .ok (.if_icmp .ne 7, 3) := by decide +kernel
theorem dX4_codes_123 : decode cX4_codes 123 = .ok (.iload_n 3, 1) := by decide +kernel
theorem dX4_codes_124 : decode cX4_codes 124 = .ok (.goto 5, 3) := by decide +kernel
theorem dX4_codes_127 : decode cX4_codes 127 = .ok (.iload 4, 2) := by decide +kernel
theorem dX4_codes_129 : decode cX4_codes 129 = .ok (.ireturn, 1) := by decide +kernel
theorem dX4_kinds_0 : decode cX4_kinds 0 = .ok (.aload_n 0, 1) := by decide +kernel
theorem dX4_kinds_1 : decode cX4_kinds 1 = .ok (.getfield 27, 3) := by decide +kernel
theorem dX4_kinds_4 : decode cX4_kinds 4 = .ok (.iload_n 1, 1) := by decide +kernel
theorem dX4_kinds_5 : decode cX4_kinds 5 = .ok (.invokevirtual 75, 3) := by decide +kernel
theorem dX4_kinds_8 : decode cX4_kinds 8 = .ok (.ifCond .ne 5, 3) := by decide +kernel
theorem dX4_kinds_11 : decode cX4_kinds 11 = .ok (.iconst (-1), 1) := by decide +kernel
theorem dX4_kinds_12 : decode cX4_kinds 12 = .ok (.ireturn, 1) := by decide +kernel
theorem dX4_kinds_13 : decode cX4_kinds 13 = .ok (.aload_n 0, 1) := by decide +kernel
theorem dX4_kinds_14 : decode cX4_kinds 14 = .ok (.invokevirtual 148, 3) := by decide +kernel
theorem dX4_kinds_17 : decode cX4_kinds 17 = .ok (.iconst 0, 1) := by decide +kernel
theorem dX4_kinds_18 : decode cX4_kinds 18 = .ok (.istore_n 2, 1) := by decide +kernel
theorem dX4_kinds_19 : decode cX4_kinds 19 = .ok (.iconst 0, 1) := by decide +kernel
theorem dX4_kinds_20 : decode cX4_kinds 20 = .ok (.istore_n 3, 1) := by decide +kernel
theorem dX4_kinds_21 : decode cX4_kinds 21 = .ok (.iload_n 3, 1) := by decide +kernel
theorem dX4_kinds_22 : decode cX4_kinds 22 = .ok (.iconst 3, 1) := by decide +kernel
theorem dX4_kinds_23 : decode cX4_kinds 23 = .ok (.if_icmp .ge 29, 3) := by decide +kernel
theorem dX4_kinds_26 : decode cX4_kinds 26 = .ok (.aload_n 0, 1) := by decide +kernel
theorem dX4_kinds_27 : decode cX4_kinds 27 = .ok (.getfield 36, 3) := by decide +kernel
theorem dX4_kinds_30 : decode cX4_kinds 30 = .ok (.getfield 177, 3) := by decide +kernel
theorem dX4_kinds_33 : decode cX4_kinds 33 = .ok (.iload_n 1, 1) := by decide +kernel
theorem dX4_kinds_34 : decode cX4_kinds 34 = .ok (.iload_n 3, 1) := by decide +kernel
theorem dX4_kinds_35 : decode cX4_kinds 35 = .ok (.iastore, 1) := by decide +kernel
theorem dX4_kinds_36 : decode cX4_kinds 36 = .ok (.iload_n 2, 1) := by decide +kernel
theorem dX4_kinds_37 : decode cX4_kinds 37 = .ok (.iload_n 3, 1) := by decide +kernel
theorem dX4_kinds_38 : decode cX4_kinds 38 = .ok (.aload_n 0, 1) := by decide +kernel
theorem dX4_kinds_39 : decode cX4_kinds 39 = .ok (.invokevirtual 170, 3) := by decide +kernel
theorem dX4_kinds_42 : decode cX4_kinds 42 = .ok (.invokestatic 113, 3) := by decide +kernel
theorem dX4_kinds_45 : decode cX4_kinds 45 = .ok (.istore_n 2, 1) := by decide +kernel
theorem dX4_kinds_46 : decode cX4_kinds 46 = .ok (.iinc 3 1, 3) := by decide +kernel
theorem dX4_kinds_49 : decode cX4_kinds 49 = .ok (.goto (-28), 3) := by decide +kernel
theorem dX4_kinds_52 : decode cX4_kinds 52 = .ok (.iload_n 2, 1) := by decide +kernel
theorem dX4_kinds_53 : decode cX4_kinds 53 = .ok (.ireturn, 1) := by decide +kernel
theorem dX4_treated_0 : decode cX4_treated 0 = .ok (.aload_n 0, 1) := by decide +kernel
theorem dX4_treated_1 : decode cX4_treated 1 = .ok (.getfield 27, 3) := by decide +kernel
theorem dX4_treated_4 : decode cX4_treated 4 = .ok (.invokevirtual 106, 3) := by decide +kernel
theorem dX4_treated_7 : decode cX4_treated 7 = .ok (.ifCond .ne 6, 3) := by decide +kernel
theorem dX4_treated_10 : decode cX4_treated 10 = .ok (.bipush (-3), 2) := by decide +kernel
theorem dX4_treated_12 : decode cX4_treated 12 = .ok (.ireturn, 1) := by decide +kernel
theorem dX4_treated_13 : decode cX4_treated 13 = .ok (.aload_n 0, 1) := by decide +kernel
theorem dX4_treated_14 : decode cX4_treated 14 = .ok (.invokevirtual 148, 3) := by decide +kernel
theorem dX4_treated_17 : decode cX4_treated 17 = .ok (.iconst 0, 1) := by decide +kernel
theorem dX4_treated_18 : decode cX4_treated 18 = .ok (.istore_n 1, 1) := by decide +kernel
theorem dX4_treated_19 : decode cX4_treated 19 = .ok (.iconst 0, 1) := by decide +kernel
theorem dX4_treated_20 : decode cX4_treated 20 = .ok (.istore_n 2, 1) := by decide +kernel
theorem dX4_treated_21 : decode cX4_treated 21 = .ok (.iload_n 2, 1) := by decide +kernel
theorem dX4_treated_22 : decode cX4_treated 22 = .ok (.aload_n 0, 1) := by decide +kernel
theorem dX4_treated_23 : decode cX4_treated 23 = .ok (.getfield 27, 3) := by decide +kernel
theorem dX4_treated_26 : decode cX4_treated 26 = .ok (.getfield 151, 3) := by decide +kernel
theorem dX4_treated_29 : decode cX4_treated 29 = .ok (.if_icmp .ge 38, 3) := by decide +kernel
theorem dX4_treated_32 : decode cX4_treated 32 = .ok (.aload_n 0, 1) := by decide +kernel
theorem dX4_treated_33 : decode cX4_treated 33 = .ok (.getfield 36, 3) := by decide +kernel
theorem dX4_treated_36 : decode cX4_treated 36 = .ok (.aload_n 0, 1) := by decide +kernel
theorem dX4_treated_37 : decode cX4_treated 37 = .ok (.getfield 27, 3) := by decide +kernel
theorem dX4_treated_40 : decode cX4_treated 40 = .ok (.getfield 84, 3) := by decide +kernel
theorem dX4_treated_43 : decode cX4_treated 43 = .ok (.iload_n 2, 1) := by decide +kernel
theorem dX4_treated_44 : decode cX4_treated 44 = .ok (.iconst 1, 1) := by decide +kernel
theorem dX4_treated_45 : decode cX4_treated 45 = .ok (.invokestatic 113, 3) := by decide +kernel
theorem dX4_treated_48 : decode cX4_treated 48 = .ok (.putfield 178, 3) := by decide +kernel
theorem dX4_treated_51 : decode cX4_treated 51 = .ok (.iload_n 1, 1) := by decide +kernel
theorem dX4_treated_52 : decode cX4_treated 52 = .ok (.iload_n 2, 1) := by decide +kernel
theorem dX4_treated_53 : decode cX4_treated 53 = .ok (.aload_n 0, 1) := by decide +kernel
theorem dX4_treated_54 : decode cX4_treated 54 = .ok (.invokevirtual 170, 3) := by decide +kernel
theorem dX4_treated_57 : decode cX4_treated 57 = .ok (.invokestatic 113, 3) := by decide +kernel
theorem dX4_treated_60 : decode cX4_treated 60 = .ok (.istore_n 1, 1) := by decide +kernel
theorem dX4_treated_61 : decode cX4_treated 61 = .ok (.iinc 2 1, 3) := by decide +kernel
theorem dX4_treated_64 : decode cX4_treated 64 = .ok (.goto (-43), 3) := by decide +kernel
theorem dX4_treated_67 : decode cX4_treated 67 = .ok (.iload_n 1, 1) := by decide +kernel
theorem dX4_treated_68 : decode cX4_treated 68 = .ok (.ireturn, 1) := by decide +kernel
theorem dX4_odds_0 : decode cX4_odds 0 = .ok (.aload_n 0, 1) := by decide +kernel
theorem dX4_odds_1 : decode cX4_odds 1 = .ok (.getfield 27, 3) := by decide +kernel
theorem dX4_odds_4 : decode cX4_odds 4 = .ok (.iload_n 1, 1) := by decide +kernel
theorem dX4_odds_5 : decode cX4_odds 5 = .ok (.invokevirtual 94, 3) := by decide +kernel
theorem dX4_odds_8 : decode cX4_odds 8 = .ok (.ifCond .eq 12, 3) := by decide +kernel
theorem dX4_odds_11 : decode cX4_odds 11 = .ok (.iload_n 2, 1) := by decide +kernel
theorem dX4_odds_12 : decode cX4_odds 12 = .ok (.ifCond .lt 8, 3) := by decide +kernel
theorem dX4_odds_15 : decode cX4_odds 15 = .ok (.iload_n 2, 1) := by decide +kernel
theorem dX4_odds_16 : decode cX4_odds 16 = .ok (.iconst 1, 1) := by decide +kernel
theorem dX4_odds_17 : decode cX4_odds 17 = .ok (.if_icmp .le 7, 3) := by decide +kernel
theorem dX4_odds_20 : decode cX4_odds 20 = .ok (.ldc2_w 179, 3) := by decide +kernel
theorem dX4_odds_23 : decode cX4_odds 23 = .ok (.lreturn, 1) := by decide +kernel
theorem dX4_odds_24 : decode cX4_odds 24 = .ok (.aload_n 0, 1) := by decide +kernel
theorem dX4_odds_25 : decode cX4_odds 25 = .ok (.invokevirtual 148, 3) := by decide +kernel
theorem dX4_odds_28 : decode cX4_odds 28 = .ok (.iconst 1, 1) := by decide +kernel
theorem dX4_odds_29 : decode cX4_odds 29 = .ok (.aload_n 0, 1) := by decide +kernel
theorem dX4_odds_30 : decode cX4_odds 30 = .ok (.getfield 27, 3) := by decide +kernel
theorem dX4_odds_33 : decode cX4_odds 33 = .ok (.getfield 151, 3) := by decide +kernel
theorem dX4_odds_36 : decode cX4_odds 36 = .ok (.ishl, 1) := by decide +kernel
theorem dX4_odds_37 : decode cX4_odds 37 = .ok (.istore_n 3, 1) := by decide +kernel
theorem dX4_odds_38 : decode cX4_odds 38 = .ok (.iconst 0, 1) := by decide +kernel
theorem dX4_odds_39 : decode cX4_odds 39 = .ok (.istore 4, 2) := by decide +kernel
theorem dX4_odds_41 : decode cX4_odds 41 = .ok (.iconst 0, 1) := by decide +kernel
theorem dX4_odds_42 : decode cX4_odds 42 = .ok (.istore 5, 2) := by decide +kernel
theorem dX4_odds_44 : decode cX4_odds 44 = .ok (.iload 5, 2) := by decide +kernel
theorem dX4_odds_46 : decode cX4_odds 46 = .ok (.iload_n 3, 1) := by decide +kernel
theorem dX4_odds_47 : decode cX4_odds 47 = .ok (.if_icmp .ge 48, 3) := by decide +kernel
theorem dX4_odds_50 : decode cX4_odds 50 = .ok (.aload_n 0, 1) := by decide +kernel
theorem dX4_odds_51 : decode cX4_odds 51 = .ok (.getfield 36, 3) := by decide +kernel
theorem dX4_odds_54 : decode cX4_odds 54 = .ok (.iload 5, 2) := by decide +kernel
theorem dX4_odds_56 : decode cX4_odds 56 = .ok (.putfield 181, 3) := by decide +kernel
theorem dX4_odds_59 : decode cX4_odds 59 = .ok (.aload_n 0, 1) := by decide +kernel
theorem dX4_odds_60 : decode cX4_odds 60 = .ok (.getfield 36, 3) := by decide +kernel
theorem dX4_odds_63 : decode cX4_odds 63 = .ok (.invokevirtual 124, 3) := by decide +kernel
theorem dX4_odds_66 : decode cX4_odds 66 = .ok (.iload 4, 2) := by decide +kernel
theorem dX4_odds_68 : decode cX4_odds 68 = .ok (.aload_n 0, 1) := by decide +kernel
theorem dX4_odds_69 : decode cX4_odds 69 = .ok (.getfield 36, 3) := by decide +kernel
theorem dX4_odds_72 : decode cX4_odds 72 = .ok (.getfield 127, 3) := by decide +kernel
theorem dX4_odds_75 : decode cX4_odds 75 = .ok (.iload_n 1, 1) := by decide +kernel
theorem dX4_odds_76 : decode cX4_odds 76 = .ok (.iaload, 1) := by decide +kernel
theorem dX4_odds_77 : decode cX4_odds 77 = .ok (.iconst 1, 1) := by decide +kernel
theorem dX4_odds_78 : decode cX4_odds 78 = .ok (.if_icmp .ne 7, 3) := by decide +kernel
theorem dX4_odds_81 : decode cX4_odds 81 = .ok (.iconst 1, 1) := by decide +kernel
theorem dX4_odds_82 : decode cX4_odds 82 = .ok (.goto 4, 3) := by decide +kernel
theorem dX4_odds_85 : decode cX4_odds 85 = .ok (.iconst 0, 1) := by decide +kernel
theorem dX4_odds_86 : decode cX4_odds 86 = .ok (.iadd, 1) := by decide +kernel
theorem dX4_odds_87 : decode cX4_odds 87 = .ok (.istore 4, 2) := by decide +kernel
theorem dX4_odds_89 : decode cX4_odds 89 = .ok (.iinc 5 1, 3) := by decide +kernel
theorem dX4_odds_92 : decode cX4_odds 92 = .ok (.goto (-48), 3) := by decide +kernel
theorem dX4_odds_95 : decode cX4_odds 95 = .ok (.iload_n 3, 1) := by decide +kernel
theorem dX4_odds_96 : decode cX4_odds 96 = .ok (.iconst 1, 1) := by decide +kernel
theorem dX4_odds_97 : decode cX4_odds 97 = .ok (.if_icmp .le 23, 3) := by decide +kernel
theorem dX4_odds_100 : decode cX4_odds 100 = .ok (.iload 4, 2) := by decide +kernel
theorem dX4_odds_102 : decode cX4_odds 102 = .ok (.iconst 2, 1) := by decide +kernel
theorem dX4_odds_103 : decode cX4_odds 103 = .ok (.irem, 1) := by decide +kernel
theorem dX4_odds_104 : decode cX4_odds 104 = .ok (.ifCond .ne 16, 3) := by decide +kernel
theorem dX4_odds_107 : decode cX4_odds 107 = .ok (.iload 4, 2) := by decide +kernel
theorem dX4_odds_109 : decode cX4_odds 109 = .ok (.iconst 2, 1) := by decide +kernel
theorem dX4_odds_110 : decode cX4_odds 110 = .ok (.idiv, 1) := by decide +kernel
theorem dX4_odds_111 : decode cX4_odds 111 = .ok (.istore 4, 2) := by decide +kernel
theorem dX4_odds_113 : decode cX4_odds 113 = .ok (.iload_n 3, 1) := by decide +kernel
theorem dX4_odds_114 : decode cX4_odds 114 = .ok (.iconst 2, 1) := by decide +kernel
theorem dX4_odds_115 : decode cX4_odds 115 = .ok (.idiv, 1) := by decide +kernel
theorem dX4_odds_116 : decode cX4_odds 116 = .ok (.istore_n 3, 1) := by decide +kernel
theorem dX4_odds_117 : decode cX4_odds 117 = .ok (.goto (-22), 3) := by decide +kernel
theorem dX4_odds_120 : decode cX4_odds 120 = .ok (.iload_n 2, 1) := by decide +kernel
theorem dX4_odds_121 : decode cX4_odds 121 = .ok (.ifCond .ne 9, 3) := by decide +kernel
theorem dX4_odds_124 : decode cX4_odds 124 = .ok (.iload 4, 2) := by decide +kernel
theorem dX4_odds_126 : decode cX4_odds 126 = .ok (.i2l, 1) := by decide +kernel
theorem dX4_odds_127 : decode cX4_odds 127 = .ok (.goto 5, 3) := by decide +kernel
theorem dX4_odds_130 : decode cX4_odds 130 = .ok (.iload_n 3, 1) := by decide +kernel
theorem dX4_odds_131 : decode cX4_odds 131 = .ok (.i2l, 1) := by decide +kernel
theorem dX4_odds_132 : decode cX4_odds 132 = .ok (.lreturn, 1) := by decide +kernel
theorem dX4_sheet_0 : decode cX4_sheet 0 = .ok (.aload_n 0, 1) := by decide +kernel
theorem dX4_sheet_1 : decode cX4_sheet 1 = .ok (.iconst 0, 1) := by decide +kernel
theorem dX4_sheet_2 : decode cX4_sheet 2 = .ok (.putfield 45, 3) := by decide +kernel
theorem dX4_sheet_5 : decode cX4_sheet 5 = .ok (.iload_n 1, 1) := by decide +kernel
theorem dX4_sheet_6 : decode cX4_sheet 6 = .ok (.invokestatic 49, 3) := by decide +kernel
theorem dX4_sheet_9 : decode cX4_sheet 9 = .ok (.ifCond .ne 5, 3) := by decide +kernel
theorem dX4_sheet_12 : decode cX4_sheet 12 = .ok (.iconst (-1), 1) := by decide +kernel
theorem dX4_sheet_13 : decode cX4_sheet 13 = .ok (.ireturn, 1) := by decide +kernel
theorem dX4_sheet_14 : decode cX4_sheet 14 = .ok (.iload_n 2, 1) := by decide +kernel
theorem dX4_sheet_15 : decode cX4_sheet 15 = .ok (.invokestatic 53, 3) := by decide +kernel
theorem dX4_sheet_18 : decode cX4_sheet 18 = .ok (.ifCond .eq 9, 3) := by decide +kernel
theorem dX4_sheet_21 : decode cX4_sheet 21 = .ok (.iload_n 3, 1) := by decide +kernel
theorem dX4_sheet_22 : decode cX4_sheet 22 = .ok (.bipush 60, 2) := by decide +kernel
theorem dX4_sheet_24 : decode cX4_sheet 24 = .ok (.if_icmp .le 6, 3) := by decide +kernel
theorem dX4_sheet_27 : decode cX4_sheet 27 = .ok (.bipush (-2), 2) := by decide +kernel
theorem dX4_sheet_29 : decode cX4_sheet 29 = .ok (.ireturn, 1) := by decide +kernel
theorem dX4_sheet_30 : decode cX4_sheet 30 = .ok (.iload_n 3, 1) := by decide +kernel
theorem dX4_sheet_31 : decode cX4_sheet 31 = .ok (.ifCond .ge 9, 3) := by decide +kernel
theorem dX4_sheet_34 : decode cX4_sheet 34 = .ok (.aload_n 0, 1) := by decide +kernel
theorem dX4_sheet_35 : decode cX4_sheet 35 = .ok (.iconst 4, 1) := by decide +kernel
theorem dX4_sheet_36 : decode cX4_sheet 36 = .ok (.invokevirtual 60, 3) := by decide +kernel
theorem dX4_sheet_39 : decode cX4_sheet 39 = .ok (.ireturn, 1) := by decide +kernel
theorem dX4_sheet_40 : decode cX4_sheet 40 = .ok (.aload_n 0, 1) := by decide +kernel
theorem dX4_sheet_41 : decode cX4_sheet 41 = .ok (.getfield 13, 3) := by decide +kernel
theorem dX4_sheet_44 : decode cX4_sheet 44 = .ok (.iload_n 1, 1) := by decide +kernel
theorem dX4_sheet_45 : decode cX4_sheet 45 = .ok (.aaload, 1) := by decide +kernel
theorem dX4_sheet_46 : decode cX4_sheet 46 = .ok (.iload_n 2, 1) := by decide +kernel
theorem dX4_sheet_47 : decode cX4_sheet 47 = .ok (.iload_n 3, 1) := by decide +kernel
theorem dX4_sheet_48 : decode cX4_sheet 48 = .ok (.invokevirtual 182, 3) := by decide +kernel
theorem dX4_sheet_51 : decode cX4_sheet 51 = .ok (.iconst 1, 1) := by decide +kernel
theorem dX4_sheet_52 : decode cX4_sheet 52 = .ok (.ireturn, 1) := by decide +kernel
theorem dX4_lose_0 : decode cX4_lose 0 = .ok (.iload_n 1, 1) := by decide +kernel
theorem dX4_lose_1 : decode cX4_lose 1 = .ok (.invokestatic 49, 3) := by decide +kernel
theorem dX4_lose_4 : decode cX4_lose 4 = .ok (.ifCond .ne 5, 3) := by decide +kernel
theorem dX4_lose_7 : decode cX4_lose 7 = .ok (.iconst (-1), 1) := by decide +kernel
theorem dX4_lose_8 : decode cX4_lose 8 = .ok (.ireturn, 1) := by decide +kernel
theorem dX4_lose_9 : decode cX4_lose 9 = .ok (.aload_n 0, 1) := by decide +kernel
theorem dX4_lose_10 : decode cX4_lose 10 = .ok (.getfield 13, 3) := by decide +kernel
theorem dX4_lose_13 : decode cX4_lose 13 = .ok (.iload_n 1, 1) := by decide +kernel
theorem dX4_lose_14 : decode cX4_lose 14 = .ok (.aaload, 1) := by decide +kernel
theorem dX4_lose_15 : decode cX4_lose 15 = .ok (.getfield 186, 3) := by decide +kernel
theorem dX4_lose_18 : decode cX4_lose 18 = .ok (.istore_n 2, 1) := by decide +kernel
theorem dX4_lose_19 : decode cX4_lose 19 = .ok (.aload_n 0, 1) := by decide +kernel
theorem dX4_lose_20 : decode cX4_lose 20 = .ok (.getfield 13, 3) := by decide +kernel
theorem dX4_lose_23 : decode cX4_lose 23 = .ok (.iload_n 1, 1) := by decide +kernel
theorem dX4_lose_24 : decode cX4_lose 24 = .ok (.aaload, 1) := by decide +kernel
theorem dX4_lose_25 : decode cX4_lose 25 = .ok (.iconst 0, 1) := by decide +kernel
theorem dX4_lose_26 : decode cX4_lose 26 = .ok (.putfield 186, 3) := by decide +kernel
theorem dX4_lose_29 : decode cX4_lose 29 = .ok (.iload_n 2, 1) := by decide +kernel
theorem dX4_lose_30 : decode cX4_lose 30 = .ok (.ifCond .eq 7, 3) := by decide +kernel
theorem dX4_lose_33 : decode cX4_lose 33 = .ok (.iconst 1, 1) := by decide +kernel
theorem dX4_lose_34 : decode cX4_lose 34 = .ok (.goto 4, 3) := by decide +kernel
theorem dX4_lose_37 : decode cX4_lose 37 = .ok (.iconst 0, 1) := by decide +kernel
theorem dX4_lose_38 : decode cX4_lose 38 = .ok (.ireturn, 1) := by decide +kernel
theorem dX4_put_0 : decode cX4_put 0 = .ok (.aload_n 0, 1) := by decide +kernel
theorem dX4_put_1 : decode cX4_put 1 = .ok (.iconst 0, 1) := by decide +kernel
theorem dX4_put_2 : decode cX4_put 2 = .ok (.putfield 45, 3) := by decide +kernel
theorem dX4_put_5 : decode cX4_put 5 = .ok (.iload_n 1, 1) := by decide +kernel
theorem dX4_put_6 : decode cX4_put 6 = .ok (.invokestatic 49, 3) := by decide +kernel
theorem dX4_put_9 : decode cX4_put 9 = .ok (.ifCond .ne 5, 3) := by decide +kernel
theorem dX4_put_12 : decode cX4_put 12 = .ok (.iconst (-1), 1) := by decide +kernel
theorem dX4_put_13 : decode cX4_put 13 = .ok (.ireturn, 1) := by decide +kernel
theorem dX4_put_14 : decode cX4_put 14 = .ok (.aload_n 0, 1) := by decide +kernel
theorem dX4_put_15 : decode cX4_put 15 = .ok (.getfield 13, 3) := by decide +kernel
theorem dX4_put_18 : decode cX4_put 18 = .ok (.iload_n 1, 1) := by decide +kernel
theorem dX4_put_19 : decode cX4_put 19 = .ok (.aaload, 1) := by decide +kernel
theorem dX4_put_20 : decode cX4_put 20 = .ok (.astore 4, 2) := by decide +kernel
theorem dX4_put_22 : decode cX4_put 22 = .ok (.aload 4, 2) := by decide +kernel
theorem dX4_put_24 : decode cX4_put 24 = .ok (.getfield 186, 3) := by decide +kernel
theorem dX4_put_27 : decode cX4_put 27 = .ok (.ifCond .ne 9, 3) := by decide +kernel
theorem dX4_put_30 : decode cX4_put 30 = .ok (.aload_n 0, 1) := by decide +kernel
theorem dX4_put_31 : decode cX4_put 31 = .ok (.iconst 1, 1) := by decide +kernel
theorem dX4_put_32 : decode cX4_put 32 = .ok (.invokevirtual 60, 3) := by decide +kernel
theorem dX4_put_35 : decode cX4_put 35 = .ok (.ireturn, 1) := by decide +kernel
theorem dX4_put_36 : decode cX4_put 36 = .ok (.aload 4, 2) := by decide +kernel
theorem dX4_put_38 : decode cX4_put 38 = .ok (.iload_n 2, 1) := by decide +kernel
theorem dX4_put_39 : decode cX4_put 39 = .ok (.invokevirtual 190, 3) := by decide +kernel
theorem dX4_put_42 : decode cX4_put 42 = .ok (.ifCond .ne 9, 3) := by decide +kernel
theorem dX4_put_45 : decode cX4_put 45 = .ok (.aload_n 0, 1) := by decide +kernel
theorem dX4_put_46 : decode cX4_put 46 = .ok (.iconst 3, 1) := by decide +kernel
theorem dX4_put_47 : decode cX4_put 47 = .ok (.invokevirtual 60, 3) := by decide +kernel
theorem dX4_put_50 : decode cX4_put 50 = .ok (.ireturn, 1) := by decide +kernel
theorem dX4_put_51 : decode cX4_put 51 = .ok (.aload 4, 2) := by decide +kernel
end
section
theorem dX4_put_53 : decode cX4_put 53 = .ok (.getfield 193, 3) := by decide +kernel
theorem dX4_put_56 : decode cX4_put 56 = .ok (.iload_n 2, 1) := by decide +kernel
theorem dX4_put_57 : decode cX4_put 57 = .ok (.aload 4, 2) := by decide +kernel
theorem dX4_put_59 : decode cX4_put 59 = .ok (.iload_n 3, 1) := by decide +kernel
theorem dX4_put_60 : decode cX4_put 60 = .ok (.invokevirtual 196, 3) := by decide +kernel
theorem dX4_put_63 : decode cX4_put 63 = .ok (.iastore, 1) := by decide +kernel
theorem dX4_put_64 : decode cX4_put 64 = .ok (.iconst 1, 1) := by decide +kernel
theorem dX4_put_65 : decode cX4_put 65 = .ok (.ireturn, 1) := by decide +kernel
theorem dX4_cell_0 : decode cX4_cell 0 = .ok (.aload_n 0, 1) := by decide +kernel
theorem dX4_cell_1 : decode cX4_cell 1 = .ok (.iconst 0, 1) := by decide +kernel
theorem dX4_cell_2 : decode cX4_cell 2 = .ok (.putfield 45, 3) := by decide +kernel
theorem dX4_cell_5 : decode cX4_cell 5 = .ok (.iload_n 1, 1) := by decide +kernel
theorem dX4_cell_6 : decode cX4_cell 6 = .ok (.invokestatic 49, 3) := by decide +kernel
theorem dX4_cell_9 : decode cX4_cell 9 = .ok (.ifCond .eq 10, 3) := by decide +kernel
theorem dX4_cell_12 : decode cX4_cell 12 = .ok (.iload_n 3, 1) := by decide +kernel
theorem dX4_cell_13 : decode cX4_cell 13 = .ok (.invokestatic 53, 3) := by decide +kernel
theorem dX4_cell_16 : decode cX4_cell 16 = .ok (.ifCond .ne 7, 3) := by decide +kernel
theorem dX4_cell_19 : decode cX4_cell 19 = .ok (.ldc2_w 179, 3) := by decide +kernel
theorem dX4_cell_22 : decode cX4_cell 22 = .ok (.lreturn, 1) := by decide +kernel
theorem dX4_cell_23 : decode cX4_cell 23 = .ok (.aload_n 0, 1) := by decide +kernel
theorem dX4_cell_24 : decode cX4_cell 24 = .ok (.getfield 13, 3) := by decide +kernel
theorem dX4_cell_27 : decode cX4_cell 27 = .ok (.iload_n 1, 1) := by decide +kernel
theorem dX4_cell_28 : decode cX4_cell 28 = .ok (.aaload, 1) := by decide +kernel
theorem dX4_cell_29 : decode cX4_cell 29 = .ok (.astore 4, 2) := by decide +kernel
theorem dX4_cell_31 : decode cX4_cell 31 = .ok (.aload 4, 2) := by decide +kernel
theorem dX4_cell_33 : decode cX4_cell 33 = .ok (.iload_n 3, 1) := by decide +kernel
theorem dX4_cell_34 : decode cX4_cell 34 = .ok (.invokevirtual 199, 3) := by decide +kernel
theorem dX4_cell_37 : decode cX4_cell 37 = .ok (.istore 5, 2) := by decide +kernel
theorem dX4_cell_39 : decode cX4_cell 39 = .ok (.iload 5, 2) := by decide +kernel
theorem dX4_cell_41 : decode cX4_cell 41 = .ok (.ifCond .ne 15, 3) := by decide +kernel
theorem dX4_cell_44 : decode cX4_cell 44 = .ok (.aload 4, 2) := by decide +kernel
theorem dX4_cell_46 : decode cX4_cell 46 = .ok (.iload_n 2, 1) := by decide +kernel
theorem dX4_cell_47 : decode cX4_cell 47 = .ok (.invokevirtual 190, 3) := by decide +kernel
theorem dX4_cell_50 : decode cX4_cell 50 = .ok (.ifCond .ne 6, 3) := by decide +kernel
theorem dX4_cell_53 : decode cX4_cell 53 = .ok (.iconst 3, 1) := by decide +kernel
theorem dX4_cell_54 : decode cX4_cell 54 = .ok (.istore 5, 2) := by decide +kernel
theorem dX4_cell_56 : decode cX4_cell 56 = .ok (.aload_n 0, 1) := by decide +kernel
theorem dX4_cell_57 : decode cX4_cell 57 = .ok (.iload 5, 2) := by decide +kernel
theorem dX4_cell_59 : decode cX4_cell 59 = .ok (.putfield 45, 3) := by decide +kernel
theorem dX4_cell_62 : decode cX4_cell 62 = .ok (.iload 5, 2) := by decide +kernel
theorem dX4_cell_64 : decode cX4_cell 64 = .ok (.ifCond .ne 14, 3) := by decide +kernel
theorem dX4_cell_67 : decode cX4_cell 67 = .ok (.aload 4, 2) := by decide +kernel
theorem dX4_cell_69 : decode cX4_cell 69 = .ok (.getfield 193, 3) := by decide +kernel
theorem dX4_cell_72 : decode cX4_cell 72 = .ok (.iload_n 2, 1) := by decide +kernel
theorem dX4_cell_73 : decode cX4_cell 73 = .ok (.iaload, 1) := by decide +kernel
theorem dX4_cell_74 : decode cX4_cell 74 = .ok (.i2l, 1) := by decide +kernel
theorem dX4_cell_75 : decode cX4_cell 75 = .ok (.goto 6, 3) := by decide +kernel
theorem dX4_cell_78 : decode cX4_cell 78 = .ok (.ldc2_w 179, 3) := by decide +kernel
theorem dX4_cell_81 : decode cX4_cell 81 = .ok (.lreturn, 1) := by decide +kernel
theorem dX4_copy_0 : decode cX4_copy 0 = .ok (.aload_n 0, 1) := by decide +kernel
theorem dX4_copy_1 : decode cX4_copy 1 = .ok (.iconst 0, 1) := by decide +kernel
theorem dX4_copy_2 : decode cX4_copy 2 = .ok (.putfield 45, 3) := by decide +kernel
theorem dX4_copy_5 : decode cX4_copy 5 = .ok (.iload_n 1, 1) := by decide +kernel
theorem dX4_copy_6 : decode cX4_copy 6 = .ok (.invokestatic 49, 3) := by decide +kernel
theorem dX4_copy_9 : decode cX4_copy 9 = .ok (.ifCond .eq 10, 3) := by decide +kernel
theorem dX4_copy_12 : decode cX4_copy 12 = .ok (.iload_n 3, 1) := by decide +kernel
theorem dX4_copy_13 : decode cX4_copy 13 = .ok (.invokestatic 49, 3) := by decide +kernel
theorem dX4_copy_16 : decode cX4_copy 16 = .ok (.ifCond .ne 5, 3) := by decide +kernel
theorem dX4_copy_19 : decode cX4_copy 19 = .ok (.iconst (-1), 1) := by decide +kernel
theorem dX4_copy_20 : decode cX4_copy 20 = .ok (.ireturn, 1) := by decide +kernel
theorem dX4_copy_21 : decode cX4_copy 21 = .ok (.aload_n 0, 1) := by decide +kernel
theorem dX4_copy_22 : decode cX4_copy 22 = .ok (.getfield 13, 3) := by decide +kernel
theorem dX4_copy_25 : decode cX4_copy 25 = .ok (.iload_n 1, 1) := by decide +kernel
theorem dX4_copy_26 : decode cX4_copy 26 = .ok (.aaload, 1) := by decide +kernel
theorem dX4_copy_27 : decode cX4_copy 27 = .ok (.astore 6, 2) := by decide +kernel
theorem dX4_copy_29 : decode cX4_copy 29 = .ok (.aload_n 0, 1) := by decide +kernel
theorem dX4_copy_30 : decode cX4_copy 30 = .ok (.getfield 13, 3) := by decide +kernel
theorem dX4_copy_33 : decode cX4_copy 33 = .ok (.iload_n 3, 1) := by decide +kernel
theorem dX4_copy_34 : decode cX4_copy 34 = .ok (.aaload, 1) := by decide +kernel
theorem dX4_copy_35 : decode cX4_copy 35 = .ok (.astore 7, 2) := by decide +kernel
theorem dX4_copy_37 : decode cX4_copy 37 = .ok (.aload 6, 2) := by decide +kernel
theorem dX4_copy_39 : decode cX4_copy 39 = .ok (.getfield 186, 3) := by decide +kernel
theorem dX4_copy_42 : decode cX4_copy 42 = .ok (.ifCond .eq 11, 3) := by decide +kernel
theorem dX4_copy_45 : decode cX4_copy 45 = .ok (.aload 7, 2) := by decide +kernel
theorem dX4_copy_47 : decode cX4_copy 47 = .ok (.getfield 186, 3) := by decide +kernel
theorem dX4_copy_50 : decode cX4_copy 50 = .ok (.ifCond .ne 9, 3) := by decide +kernel
theorem dX4_copy_53 : decode cX4_copy 53 = .ok (.aload_n 0, 1) := by decide +kernel
theorem dX4_copy_54 : decode cX4_copy 54 = .ok (.iconst 1, 1) := by decide +kernel
theorem dX4_copy_55 : decode cX4_copy 55 = .ok (.invokevirtual 60, 3) := by decide +kernel
theorem dX4_copy_58 : decode cX4_copy 58 = .ok (.ireturn, 1) := by decide +kernel
theorem dX4_copy_59 : decode cX4_copy 59 = .ok (.aload 6, 2) := by decide +kernel
theorem dX4_copy_61 : decode cX4_copy 61 = .ok (.getfield 202, 3) := by decide +kernel
theorem dX4_copy_64 : decode cX4_copy 64 = .ok (.aload 7, 2) := by decide +kernel
theorem dX4_copy_66 : decode cX4_copy 66 = .ok (.getfield 202, 3) := by decide +kernel
theorem dX4_copy_69 : decode cX4_copy 69 = .ok (.if_icmp .eq 9, 3) := by decide +kernel
theorem dX4_copy_72 : decode cX4_copy 72 = .ok (.aload_n 0, 1) := by decide +kernel
theorem dX4_copy_73 : decode cX4_copy 73 = .ok (.iconst 2, 1) := by decide +kernel
theorem dX4_copy_74 : decode cX4_copy 74 = .ok (.invokevirtual 60, 3) := by decide +kernel
theorem dX4_copy_77 : decode cX4_copy 77 = .ok (.ireturn, 1) := by decide +kernel
theorem dX4_copy_78 : decode cX4_copy 78 = .ok (.aload 6, 2) := by decide +kernel
theorem dX4_copy_80 : decode cX4_copy 80 = .ok (.iload_n 2, 1) := by decide +kernel
theorem dX4_copy_81 : decode cX4_copy 81 = .ok (.iload 5, 2) := by decide +kernel
theorem dX4_copy_83 : decode cX4_copy 83 = .ok (.invokevirtual 205, 3) := by decide +kernel
theorem dX4_copy_86 : decode cX4_copy 86 = .ok (.ifCond .eq 15, 3) := by decide +kernel
theorem dX4_copy_89 : decode cX4_copy 89 = .ok (.aload 7, 2) := by decide +kernel
theorem dX4_copy_91 : decode cX4_copy 91 = .ok (.iload 4, 2) := by decide +kernel
theorem dX4_copy_93 : decode cX4_copy 93 = .ok (.iload 5, 2) := by decide +kernel
theorem dX4_copy_95 : decode cX4_copy 95 = .ok (.invokevirtual 205, 3) := by decide +kernel
theorem dX4_copy_98 : decode cX4_copy 98 = .ok (.ifCond .ne 9, 3) := by decide +kernel
theorem dX4_copy_101 : decode cX4_copy 101 = .ok (.aload_n 0, 1) := by decide +kernel
theorem dX4_copy_102 : decode cX4_copy 102 = .ok (.iconst 3, 1) := by decide +kernel
theorem dX4_copy_103 : decode cX4_copy 103 = .ok (.invokevirtual 60, 3) := by decide +kernel
theorem dX4_copy_106 : decode cX4_copy 106 = .ok (.ireturn, 1) := by decide +kernel
theorem dX4_copy_107 : decode cX4_copy 107 = .ok (.aload 6, 2) := by decide +kernel
theorem dX4_copy_109 : decode cX4_copy 109 = .ok (.getfield 193, 3) := by decide +kernel
theorem dX4_copy_112 : decode cX4_copy 112 = .ok (.iload_n 2, 1) := by decide +kernel
theorem dX4_copy_113 : decode cX4_copy 113 = .ok (.aload 7, 2) := by decide +kernel
theorem dX4_copy_115 : decode cX4_copy 115 = .ok (.getfield 193, 3) := by decide +kernel
theorem dX4_copy_118 : decode cX4_copy 118 = .ok (.iload 4, 2) := by decide +kernel
theorem dX4_copy_120 : decode cX4_copy 120 = .ok (.iload 5, 2) := by decide +kernel
theorem dX4_copy_122 : decode cX4_copy 122 = .ok (.invokestatic 208, 3) := by decide +kernel
theorem dX4_copy_125 : decode cX4_copy 125 = .ok (.iload 5, 2) := by decide +kernel
theorem dX4_copy_127 : decode cX4_copy 127 = .ok (.ireturn, 1) := by decide +kernel
theorem dX4_tell_0 : decode cX4_tell 0 = .ok (.aload_n 0, 1) := by decide +kernel
theorem dX4_tell_1 : decode cX4_tell 1 = .ok (.getfield 27, 3) := by decide +kernel
theorem dX4_tell_4 : decode cX4_tell 4 = .ok (.iload_n 1, 1) := by decide +kernel
theorem dX4_tell_5 : decode cX4_tell 5 = .ok (.invokevirtual 75, 3) := by decide +kernel
theorem dX4_tell_8 : decode cX4_tell 8 = .ok (.ifCond .ne 5, 3) := by decide +kernel
theorem dX4_tell_11 : decode cX4_tell 11 = .ok (.iconst (-1), 1) := by decide +kernel
theorem dX4_tell_12 : decode cX4_tell 12 = .ok (.ireturn, 1) := by decide +kernel
theorem dX4_tell_13 : decode cX4_tell 13 = .ok (.aload_n 0, 1) := by decide +kernel
theorem dX4_tell_14 : decode cX4_tell 14 = .ok (.getfield 27, 3) := by decide +kernel
theorem dX4_tell_17 : decode cX4_tell 17 = .ok (.getfield 78, 3) := by decide +kernel
theorem dX4_tell_20 : decode cX4_tell 20 = .ok (.iload_n 1, 1) := by decide +kernel
theorem dX4_tell_21 : decode cX4_tell 21 = .ok (.iaload, 1) := by decide +kernel
theorem dX4_tell_22 : decode cX4_tell 22 = .ok (.lookupswitch 38 #[(1, 32), (2, 26)], 26) := by decide +kernel
theorem dX4_tell_48 : decode cX4_tell 48 = .ok (.aload_n 0, 1) := by decide +kernel
theorem dX4_tell_49 : decode cX4_tell 49 = .ok (.iload_n 1, 1) := by decide +kernel
theorem dX4_tell_50 : decode cX4_tell 50 = .ok (.invokevirtual 214, 3) := by decide +kernel
theorem dX4_tell_53 : decode cX4_tell 53 = .ok (.ireturn, 1) := by decide +kernel
theorem dX4_tell_54 : decode cX4_tell 54 = .ok (.aload_n 0, 1) := by decide +kernel
theorem dX4_tell_55 : decode cX4_tell 55 = .ok (.iload_n 1, 1) := by decide +kernel
theorem dX4_tell_56 : decode cX4_tell 56 = .ok (.invokevirtual 217, 3) := by decide +kernel
theorem dX4_tell_59 : decode cX4_tell 59 = .ok (.ireturn, 1) := by decide +kernel
theorem dX4_tell_60 : decode cX4_tell 60 = .ok (.aload_n 0, 1) := by decide +kernel
theorem dX4_tell_61 : decode cX4_tell 61 = .ok (.iload_n 1, 1) := by decide +kernel
theorem dX4_tell_62 : decode cX4_tell 62 = .ok (.invokevirtual 220, 3) := by decide +kernel
theorem dX4_tell_65 : decode cX4_tell 65 = .ok (.ireturn, 1) := by decide +kernel
theorem dX4_hush_0 : decode cX4_hush 0 = .ok (.aload_n 0, 1) := by decide +kernel
theorem dX4_hush_1 : decode cX4_hush 1 = .ok (.getfield 27, 3) := by decide +kernel
theorem dX4_hush_4 : decode cX4_hush 4 = .ok (.iload_n 1, 1) := by decide +kernel
theorem dX4_hush_5 : decode cX4_hush 5 = .ok (.invokevirtual 75, 3) := by decide +kernel
theorem dX4_hush_8 : decode cX4_hush 8 = .ok (.ifCond .ne 5, 3) := by decide +kernel
theorem dX4_hush_11 : decode cX4_hush 11 = .ok (.iconst (-1), 1) := by decide +kernel
theorem dX4_hush_12 : decode cX4_hush 12 = .ok (.ireturn, 1) := by decide +kernel
theorem dX4_hush_13 : decode cX4_hush 13 = .ok (.aload_n 0, 1) := by decide +kernel
theorem dX4_hush_14 : decode cX4_hush 14 = .ok (.getfield 27, 3) := by decide +kernel
theorem dX4_hush_17 : decode cX4_hush 17 = .ok (.getfield 78, 3) := by decide +kernel
theorem dX4_hush_20 : decode cX4_hush 20 = .ok (.iload_n 1, 1) := by decide +kernel
theorem dX4_hush_21 : decode cX4_hush 21 = .ok (.iaload, 1) := by decide +kernel
theorem dX4_hush_22 : decode cX4_hush 22 = .ok (.iconst 2, 1) := by decide +kernel
theorem dX4_hush_23 : decode cX4_hush 23 = .ok (.if_icmp .ne 11, 3) := by decide +kernel
theorem dX4_hush_26 : decode cX4_hush 26 = .ok (.aload_n 0, 1) := by decide +kernel
theorem dX4_hush_27 : decode cX4_hush 27 = .ok (.iconst 5, 1) := by decide +kernel
theorem dX4_hush_28 : decode cX4_hush 28 = .ok (.invokevirtual 223, 3) := by decide +kernel
theorem dX4_hush_31 : decode cX4_hush 31 = .ok (.bipush 70, 2) := by decide +kernel
theorem dX4_hush_33 : decode cX4_hush 33 = .ok (.ireturn, 1) := by decide +kernel
theorem dX4_hush_34 : decode cX4_hush 34 = .ok (.aload_n 0, 1) := by decide +kernel
theorem dX4_hush_35 : decode cX4_hush 35 = .ok (.iconst 4, 1) := by decide +kernel
theorem dX4_hush_36 : decode cX4_hush 36 = .ok (.invokevirtual 223, 3) := by decide +kernel
theorem dX4_hush_39 : decode cX4_hush 39 = .ok (.iload_n 1, 1) := by decide +kernel
theorem dX4_hush_40 : decode cX4_hush 40 = .ok (.ireturn, 1) := by decide +kernel
theorem dX4_as_0 : decode cX4_as 0 = .ok (.aload_n 0, 1) := by decide +kernel
theorem dX4_as_1 : decode cX4_as 1 = .ok (.iconst 0, 1) := by decide +kernel
theorem dX4_as_2 : decode cX4_as 2 = .ok (.putfield 45, 3) := by decide +kernel
theorem dX4_as_5 : decode cX4_as 5 = .ok (.aload_n 0, 1) := by decide +kernel
theorem dX4_as_6 : decode cX4_as 6 = .ok (.getfield 27, 3) := by decide +kernel
theorem dX4_as_9 : decode cX4_as 9 = .ok (.iload_n 1, 1) := by decide +kernel
theorem dX4_as_10 : decode cX4_as 10 = .ok (.invokevirtual 75, 3) := by decide +kernel
theorem dX4_as_13 : decode cX4_as 13 = .ok (.ifCond .ne 5, 3) := by decide +kernel
theorem dX4_as_16 : decode cX4_as 16 = .ok (.iconst (-1), 1) := by decide +kernel
theorem dX4_as_17 : decode cX4_as 17 = .ok (.ireturn, 1) := by decide +kernel
theorem dX4_as_18 : decode cX4_as 18 = .ok (.iload_n 2, 1) := by decide +kernel
theorem dX4_as_19 : decode cX4_as 19 = .ok (.ifCond .lt 8, 3) := by decide +kernel
theorem dX4_as_22 : decode cX4_as 22 = .ok (.iload_n 2, 1) := by decide +kernel
theorem dX4_as_23 : decode cX4_as 23 = .ok (.iconst 3, 1) := by decide +kernel
theorem dX4_as_24 : decode cX4_as 24 = .ok (.if_icmp .lt 6, 3) := by decide +kernel
theorem dX4_as_27 : decode cX4_as 27 = .ok (.bipush (-2), 2) := by decide +kernel
theorem dX4_as_29 : decode cX4_as 29 = .ok (.ireturn, 1) := by decide +kernel
theorem dX4_as_30 : decode cX4_as 30 = .ok (.aload_n 0, 1) := by decide +kernel
theorem dX4_as_31 : decode cX4_as 31 = .ok (.getfield 27, 3) := by decide +kernel
theorem dX4_as_34 : decode cX4_as 34 = .ok (.getfield 78, 3) := by decide +kernel
theorem dX4_as_37 : decode cX4_as 37 = .ok (.iload_n 1, 1) := by decide +kernel
theorem dX4_as_38 : decode cX4_as 38 = .ok (.iaload, 1) := by decide +kernel
theorem dX4_as_39 : decode cX4_as 39 = .ok (.iload_n 2, 1) := by decide +kernel
theorem dX4_as_40 : decode cX4_as 40 = .ok (.if_icmp .ge 11, 3) := by decide +kernel
theorem dX4_as_43 : decode cX4_as 43 = .ok (.aload_n 0, 1) := by decide +kernel
theorem dX4_as_44 : decode cX4_as 44 = .ok (.iconst 2, 1) := by decide +kernel
theorem dX4_as_45 : decode cX4_as 45 = .ok (.invokevirtual 60, 3) := by decide +kernel
theorem dX4_as_48 : decode cX4_as 48 = .ok (.goto 4, 3) := by decide +kernel
theorem dX4_as_51 : decode cX4_as 51 = .ok (.iconst 1, 1) := by decide +kernel
theorem dX4_as_52 : decode cX4_as 52 = .ok (.ireturn, 1) := by decide +kernel
theorem dX4_trace_0 : decode cX4_trace 0 = .ok (.aload_n 0, 1) := by decide +kernel
theorem dX4_trace_1 : decode cX4_trace 1 = .ok (.getfield 227, 3) := by decide +kernel
theorem dX4_trace_4 : decode cX4_trace 4 = .ok (.ireturn, 1) := by decide +kernel
theorem dX4_fault_0 : decode cX4_fault 0 = .ok (.aload_n 0, 1) := by decide +kernel
theorem dX4_fault_1 : decode cX4_fault 1 = .ok (.getfield 45, 3) := by decide +kernel
theorem dX4_fault_4 : decode cX4_fault 4 = .ok (.ireturn, 1) := by decide +kernel
theorem dX4_many_0 : decode cX4_many 0 = .ok (.iload_n 1, 1) := by decide +kernel
theorem dX4_many_1 : decode cX4_many 1 = .ok (.tableswitch 75 0 4 #[35, 43, 51, 59, 67], 35) := by decide +kernel
theorem dX4_many_36 : decode cX4_many 36 = .ok (.aload_n 0, 1) := by decide +kernel
theorem dX4_many_37 : decode cX4_many 37 = .ok (.getfield 27, 3) := by decide +kernel
theorem dX4_many_40 : decode cX4_many 40 = .ok (.getfield 72, 3) := by decide +kernel
theorem dX4_many_43 : decode cX4_many 43 = .ok (.ireturn, 1) := by decide +kernel
theorem dX4_many_44 : decode cX4_many 44 = .ok (.aload_n 0, 1) := by decide +kernel
theorem dX4_many_45 : decode cX4_many 45 = .ok (.getfield 27, 3) := by decide +kernel
theorem dX4_many_48 : decode cX4_many 48 = .ok (.getfield 151, 3) := by decide +kernel
theorem dX4_many_51 : decode cX4_many 51 = .ok (.ireturn, 1) := by decide +kernel
theorem dX4_many_52 : decode cX4_many 52 = .ok (.aload_n 0, 1) := by decide +kernel
theorem dX4_many_53 : decode cX4_many 53 = .ok (.getfield 27, 3) := by decide +kernel
theorem dX4_many_56 : decode cX4_many 56 = .ok (.getfield 117, 3) := by decide +kernel
theorem dX4_many_59 : decode cX4_many 59 = .ok (.ireturn, 1) := by decide +kernel
theorem dX4_many_60 : decode cX4_many 60 = .ok (.aload_n 0, 1) := by decide +kernel
theorem dX4_many_61 : decode cX4_many 61 = .ok (.getfield 27, 3) := by decide +kernel
theorem dX4_many_64 : decode cX4_many 64 = .ok (.getfield 110, 3) := by decide +kernel
theorem dX4_many_67 : decode cX4_many 67 = .ok (.ireturn, 1) := by decide +kernel
theorem dX4_many_68 : decode cX4_many 68 = .ok (.aload_n 0, 1) := by decide +kernel
theorem dX4_many_69 : decode cX4_many 69 = .ok (.getfield 27, 3) := by decide +kernel
theorem dX4_many_72 : decode cX4_many 72 = .ok (.getfield 160, 3) := by decide +kernel
theorem dX4_many_75 : decode cX4_many 75 = .ok (.ireturn, 1) := by decide +kernel
theorem dX4_many_76 : decode cX4_many 76 = .ok (.bipush (-2), 2) := by decide +kernel
theorem dX4_many_78 : decode cX4_many 78 = .ok (.ireturn, 1) := by decide +kernel
theorem dX4_isSheet_0 : decode cX4_isSheet 0 = .ok (.iload_n 0, 1) := by decide +kernel
theorem dX4_isSheet_1 : decode cX4_isSheet 1 = .ok (.ifCond .lt 12, 3) := by decide +kernel
theorem dX4_isSheet_4 : decode cX4_isSheet 4 = .ok (.iload_n 0, 1) := by decide +kernel
theorem dX4_isSheet_5 : decode cX4_isSheet 5 = .ok (.iconst 4, 1) := by decide +kernel
theorem dX4_isSheet_6 : decode cX4_isSheet 6 = .ok (.if_icmp .ge 7, 3) := by decide +kernel
theorem dX4_isSheet_9 : decode cX4_isSheet 9 = .ok (.iconst 1, 1) := by decide +kernel
theorem dX4_isSheet_10 : decode cX4_isSheet 10 = .ok (.goto 4, 3) := by decide +kernel
theorem dX4_isSheet_13 : decode cX4_isSheet 13 = .ok (.iconst 0, 1) := by decide +kernel
theorem dX4_isSheet_14 : decode cX4_isSheet 14 = .ok (.ireturn, 1) := by decide +kernel
theorem dX4_isLane_0 : decode cX4_isLane 0 = .ok (.iload_n 0, 1) := by decide +kernel
theorem dX4_isLane_1 : decode cX4_isLane 1 = .ok (.ifCond .lt 12, 3) := by decide +kernel
theorem dX4_isLane_4 : decode cX4_isLane 4 = .ok (.iload_n 0, 1) := by decide +kernel
theorem dX4_isLane_5 : decode cX4_isLane 5 = .ok (.iconst 2, 1) := by decide +kernel
theorem dX4_isLane_6 : decode cX4_isLane 6 = .ok (.if_icmp .gt 7, 3) := by decide +kernel
theorem dX4_isLane_9 : decode cX4_isLane 9 = .ok (.iconst 1, 1) := by decide +kernel
theorem dX4_isLane_10 : decode cX4_isLane 10 = .ok (.goto 4, 3) := by decide +kernel
theorem dX4_isLane_13 : decode cX4_isLane 13 = .ok (.iconst 0, 1) := by decide +kernel
theorem dX4_isLane_14 : decode cX4_isLane 14 = .ok (.ireturn, 1) := by decide +kernel
theorem dX4_bitOf_0 : decode cX4_bitOf 0 = .ok (.iload_n 0, 1) := by decide +kernel
theorem dX4_bitOf_1 : decode cX4_bitOf 1 = .ok (.iload_n 1, 1) := by decide +kernel
theorem dX4_bitOf_2 : decode cX4_bitOf 2 = .ok (.ishr, 1) := by decide +kernel
theorem dX4_bitOf_3 : decode cX4_bitOf 3 = .ok (.iconst 1, 1) := by decide +kernel
theorem dX4_bitOf_4 : decode cX4_bitOf 4 = .ok (.iand, 1) := by decide +kernel
theorem dX4_bitOf_5 : decode cX4_bitOf 5 = .ok (.ireturn, 1) := by decide +kernel
theorem dX4_withBit_0 : decode cX4_withBit 0 = .ok (.iload_n 2, 1) := by decide +kernel
theorem dX4_withBit_1 : decode cX4_withBit 1 = .ok (.ifCond .eq 11, 3) := by decide +kernel
theorem dX4_withBit_4 : decode cX4_withBit 4 = .ok (.iload_n 0, 1) := by decide +kernel
theorem dX4_withBit_5 : decode cX4_withBit 5 = .ok (.iconst 1, 1) := by decide +kernel
theorem dX4_withBit_6 : decode cX4_withBit 6 = .ok (.iload_n 1, 1) := by decide +kernel
theorem dX4_withBit_7 : decode cX4_withBit 7 = .ok (.ishl, 1) := by decide +kernel
theorem dX4_withBit_8 : decode cX4_withBit 8 = .ok (.ior, 1) := by decide +kernel
theorem dX4_withBit_9 : decode cX4_withBit 9 = .ok (.goto 10, 3) := by decide +kernel
theorem dX4_withBit_12 : decode cX4_withBit 12 = .ok (.iload_n 0, 1) := by decide +kernel
theorem dX4_withBit_13 : decode cX4_withBit 13 = .ok (.iconst 1, 1) := by decide +kernel
theorem dX4_withBit_14 : decode cX4_withBit 14 = .ok (.iload_n 1, 1) := by decide +kernel
theorem dX4_withBit_15 : decode cX4_withBit 15 = .ok (.ishl, 1) := by decide +kernel
theorem dX4_withBit_16 : decode cX4_withBit 16 = .ok (.iconst (-1), 1) := by decide +kernel
theorem dX4_withBit_17 : decode cX4_withBit 17 = .ok (.ixor, 1) := by decide +kernel
theorem dX4_withBit_18 : decode cX4_withBit 18 = .ok (.iand, 1) := by decide +kernel
theorem dX4_withBit_19 : decode cX4_withBit 19 = .ok (.ireturn, 1) := by decide +kernel
theorem dX4_hasFewer_0 : decode cX4_hasFewer 0 = .ok (.iload_n 0, 1) := by decide +kernel
theorem dX4_hasFewer_1 : decode cX4_hasFewer 1 = .ok (.invokestatic 230, 3) := by decide +kernel
theorem dX4_hasFewer_4 : decode cX4_hasFewer 4 = .ok (.iload_n 1, 1) := by decide +kernel
theorem dX4_hasFewer_5 : decode cX4_hasFewer 5 = .ok (.invokestatic 230, 3) := by decide +kernel
theorem dX4_hasFewer_8 : decode cX4_hasFewer 8 = .ok (.if_icmp .ge 7, 3) := by decide +kernel
theorem dX4_hasFewer_11 : decode cX4_hasFewer 11 = .ok (.iconst 1, 1) := by decide +kernel
theorem dX4_hasFewer_12 : decode cX4_hasFewer 12 = .ok (.goto 4, 3) := by decide +kernel
theorem dX4_hasFewer_15 : decode cX4_hasFewer 15 = .ok (.iconst 0, 1) := by decide +kernel
theorem dX4_hasFewer_16 : decode cX4_hasFewer 16 = .ok (.ireturn, 1) := by decide +kernel
theorem dX4_faulty_0 : decode cX4_faulty 0 = .ok (.aload_n 0, 1) := by decide +kernel
theorem dX4_faulty_1 : decode cX4_faulty 1 = .ok (.iload_n 1, 1) := by decide +kernel
theorem dX4_faulty_2 : decode cX4_faulty 2 = .ok (.putfield 45, 3) := by decide +kernel
theorem dX4_faulty_5 : decode cX4_faulty 5 = .ok (.bipush (-10), 2) := by decide +kernel
theorem dX4_faulty_7 : decode cX4_faulty 7 = .ok (.iload_n 1, 1) := by decide +kernel
theorem dX4_faulty_8 : decode cX4_faulty 8 = .ok (.isub, 1) := by decide +kernel
theorem dX4_faulty_9 : decode cX4_faulty 9 = .ok (.ireturn, 1) := by decide +kernel
theorem dX4_takeOrder_0 : decode cX4_takeOrder 0 = .ok (.aload_n 1, 1) := by decide +kernel
theorem dX4_takeOrder_1 : decode cX4_takeOrder 1 = .ok (.iload_n 2, 1) := by decide +kernel
theorem dX4_takeOrder_2 : decode cX4_takeOrder 2 = .ok (.iload_n 3, 1) := by decide +kernel
theorem dX4_takeOrder_3 : decode cX4_takeOrder 3 = .ok (.iload 4, 2) := by decide +kernel
theorem dX4_takeOrder_5 : decode cX4_takeOrder 5 = .ok (.invokevirtual 56, 3) := by decide +kernel
theorem dX4_takeOrder_8 : decode cX4_takeOrder 8 = .ok (.istore 5, 2) := by decide +kernel
theorem dX4_takeOrder_10 : decode cX4_takeOrder 10 = .ok (.iload 5, 2) := by decide +kernel
theorem dX4_takeOrder_12 : decode cX4_takeOrder 12 = .ok (.ifCond .eq 10, 3) := by decide +kernel
theorem dX4_takeOrder_15 : decode cX4_takeOrder 15 = .ok (.aload_n 0, 1) := by decide +kernel
theorem dX4_takeOrder_16 : decode cX4_takeOrder 16 = .ok (.iload 5, 2) := by decide +kernel
theorem dX4_takeOrder_18 : decode cX4_takeOrder 18 = .ok (.invokevirtual 60, 3) := by decide +kernel
theorem dX4_takeOrder_21 : decode cX4_takeOrder 21 = .ok (.ireturn, 1) := by decide +kernel
theorem dX4_takeOrder_22 : decode cX4_takeOrder 22 = .ok (.aload_n 0, 1) := by decide +kernel
theorem dX4_takeOrder_23 : decode cX4_takeOrder 23 = .ok (.getfield 27, 3) := by decide +kernel
theorem dX4_takeOrder_26 : decode cX4_takeOrder 26 = .ok (.invokevirtual 106, 3) := by decide +kernel
theorem dX4_takeOrder_29 : decode cX4_takeOrder 29 = .ok (.ifCond .ne 6, 3) := by decide +kernel
theorem dX4_takeOrder_32 : decode cX4_takeOrder 32 = .ok (.bipush (-3), 2) := by decide +kernel
theorem dX4_takeOrder_34 : decode cX4_takeOrder 34 = .ok (.ireturn, 1) := by decide +kernel
theorem dX4_takeOrder_35 : decode cX4_takeOrder 35 = .ok (.aload_n 0, 1) := by decide +kernel
theorem dX4_takeOrder_36 : decode cX4_takeOrder 36 = .ok (.getfield 36, 3) := by decide +kernel
theorem dX4_takeOrder_39 : decode cX4_takeOrder 39 = .ok (.invokevirtual 136, 3) := by decide +kernel
theorem dX4_takeOrder_42 : decode cX4_takeOrder 42 = .ok (.iconst 0, 1) := by decide +kernel
theorem dX4_takeOrder_43 : decode cX4_takeOrder 43 = .ok (.istore 6, 2) := by decide +kernel
theorem dX4_takeOrder_45 : decode cX4_takeOrder 45 = .ok (.iconst 0, 1) := by decide +kernel
theorem dX4_takeOrder_46 : decode cX4_takeOrder 46 = .ok (.istore 7, 2) := by decide +kernel
theorem dX4_takeOrder_48 : decode cX4_takeOrder 48 = .ok (.iload 7, 2) := by decide +kernel
theorem dX4_takeOrder_50 : decode cX4_takeOrder 50 = .ok (.iload 4, 2) := by decide +kernel
theorem dX4_takeOrder_52 : decode cX4_takeOrder 52 = .ok (.if_icmp .ge 64, 3) := by decide +kernel
theorem dX4_takeOrder_55 : decode cX4_takeOrder 55 = .ok (.aload_n 1, 1) := by decide +kernel
theorem dX4_takeOrder_56 : decode cX4_takeOrder 56 = .ok (.getfield 193, 3) := by decide +kernel
theorem dX4_takeOrder_59 : decode cX4_takeOrder 59 = .ok (.iload_n 3, 1) := by decide +kernel
theorem dX4_takeOrder_60 : decode cX4_takeOrder 60 = .ok (.iload 7, 2) := by decide +kernel
theorem dX4_takeOrder_62 : decode cX4_takeOrder 62 = .ok (.iadd, 1) := by decide +kernel
theorem dX4_takeOrder_63 : decode cX4_takeOrder 63 = .ok (.iaload, 1) := by decide +kernel
theorem dX4_takeOrder_64 : decode cX4_takeOrder 64 = .ok (.istore 8, 2) := by decide +kernel
theorem dX4_takeOrder_66 : decode cX4_takeOrder 66 = .ok (.aload_n 0, 1) := by decide +kernel
theorem dX4_takeOrder_67 : decode cX4_takeOrder 67 = .ok (.getfield 27, 3) := by decide +kernel
theorem dX4_takeOrder_70 : decode cX4_takeOrder 70 = .ok (.iload 8, 2) := by decide +kernel
theorem dX4_takeOrder_72 : decode cX4_takeOrder 72 = .ok (.invokevirtual 94, 3) := by decide +kernel
theorem dX4_takeOrder_75 : decode cX4_takeOrder 75 = .ok (.ifCond .eq 14, 3) := by decide +kernel
theorem dX4_takeOrder_78 : decode cX4_takeOrder 78 = .ok (.iload 6, 2) := by decide +kernel
theorem dX4_takeOrder_80 : decode cX4_takeOrder 80 = .ok (.iload 8, 2) := by decide +kernel
theorem dX4_takeOrder_82 : decode cX4_takeOrder 82 = .ok (.invokestatic 87, 3) := by decide +kernel
theorem dX4_takeOrder_85 : decode cX4_takeOrder 85 = .ok (.iconst 1, 1) := by decide +kernel
theorem dX4_takeOrder_86 : decode cX4_takeOrder 86 = .ok (.if_icmp .ne 5, 3) := by decide +kernel
theorem dX4_takeOrder_89 : decode cX4_takeOrder 89 = .ok (.iconst (-1), 1) := by decide +kernel
theorem dX4_takeOrder_90 : decode cX4_takeOrder 90 = .ok (.ireturn, 1) := by decide +kernel
theorem dX4_takeOrder_91 : decode cX4_takeOrder 91 = .ok (.iload 6, 2) := by decide +kernel
theorem dX4_takeOrder_93 : decode cX4_takeOrder 93 = .ok (.iload 8, 2) := by decide +kernel
theorem dX4_takeOrder_95 : decode cX4_takeOrder 95 = .ok (.iconst 1, 1) := by decide +kernel
theorem dX4_takeOrder_96 : decode cX4_takeOrder 96 = .ok (.invokestatic 113, 3) := by decide +kernel
theorem dX4_takeOrder_99 : decode cX4_takeOrder 99 = .ok (.istore 6, 2) := by decide +kernel
theorem dX4_takeOrder_101 : decode cX4_takeOrder 101 = .ok (.aload_n 0, 1) := by decide +kernel
theorem dX4_takeOrder_102 : decode cX4_takeOrder 102 = .ok (.getfield 36, 3) := by decide +kernel
theorem dX4_takeOrder_105 : decode cX4_takeOrder 105 = .ok (.iload 8, 2) := by decide +kernel
theorem dX4_takeOrder_107 : decode cX4_takeOrder 107 = .ok (.invokevirtual 235, 3) := by decide +kernel
theorem dX4_takeOrder_110 : decode cX4_takeOrder 110 = .ok (.iinc 7 1, 3) := by decide +kernel
theorem dX4_takeOrder_113 : decode cX4_takeOrder 113 = .ok (.goto (-65), 3) := by decide +kernel
theorem dX4_takeOrder_116 : decode cX4_takeOrder 116 = .ok (.iconst 0, 1) := by decide +kernel
theorem dX4_takeOrder_117 : decode cX4_takeOrder 117 = .ok (.ireturn, 1) := by decide +kernel
theorem dX4_prepareByNumbers_0 : decode cX4_prepareByNumbers 0 = .ok (.aload_n 0, 1) := by decide +kernel
theorem dX4_prepareByNumbers_1 : decode cX4_prepareByNumbers 1 = .ok (.getfield 36, 3) := by decide +kernel
theorem dX4_prepareByNumbers_4 : decode cX4_prepareByNumbers 4 = .ok (.invokevirtual 136, 3) := by decide +kernel
theorem dX4_prepareByNumbers_7 : decode cX4_prepareByNumbers 7 = .ok (.iconst 0, 1) := by decide +kernel
theorem dX4_prepareByNumbers_8 : decode cX4_prepareByNumbers 8 = .ok (.istore_n 1, 1) := by decide +kernel
theorem dX4_prepareByNumbers_9 : decode cX4_prepareByNumbers 9 = .ok (.iload_n 1, 1) := by decide +kernel
theorem dX4_prepareByNumbers_10 : decode cX4_prepareByNumbers 10 = .ok (.aload_n 0, 1) := by decide +kernel
theorem dX4_prepareByNumbers_11 : decode cX4_prepareByNumbers 11 = .ok (.getfield 27, 3) := by decide +kernel
theorem dX4_prepareByNumbers_14 : decode cX4_prepareByNumbers 14 = .ok (.getfield 72, 3) := by decide +kernel
theorem dX4_prepareByNumbers_17 : decode cX4_prepareByNumbers 17 = .ok (.if_icmp .ge 17, 3) := by decide +kernel
theorem dX4_prepareByNumbers_20 : decode cX4_prepareByNumbers 20 = .ok (.aload_n 0, 1) := by decide +kernel
theorem dX4_prepareByNumbers_21 : decode cX4_prepareByNumbers 21 = .ok (.getfield 36, 3) := by decide +kernel
theorem dX4_prepareByNumbers_24 : decode cX4_prepareByNumbers 24 = .ok (.iload_n 1, 1) := by decide +kernel
theorem dX4_prepareByNumbers_25 : decode cX4_prepareByNumbers 25 = .ok (.invokevirtual 235, 3) := by decide +kernel
theorem dX4_prepareByNumbers_28 : decode cX4_prepareByNumbers 28 = .ok (.iinc 1 1, 3) := by decide +kernel
theorem dX4_prepareByNumbers_31 : decode cX4_prepareByNumbers 31 = .ok (.goto (-22), 3) := by decide +kernel
theorem dX4_prepareByNumbers_34 : decode cX4_prepareByNumbers 34 = .ok (.return_, 1) := by decide +kernel
theorem dX4_byOrderOfHighest_0 : decode cX4_byOrderOfHighest 0 = .ok (.iload_n 1, 1) := by decide +kernel
theorem dX4_byOrderOfHighest_1 : decode cX4_byOrderOfHighest 1 = .ok (.iconst (-1), 1) := by decide +kernel
theorem dX4_byOrderOfHighest_2 : decode cX4_byOrderOfHighest 2 = .ok (.if_icmp .ge 5, 3) := by decide +kernel
theorem dX4_byOrderOfHighest_5 : decode cX4_byOrderOfHighest 5 = .ok (.iconst (-1), 1) := by decide +kernel
theorem dX4_byOrderOfHighest_6 : decode cX4_byOrderOfHighest 6 = .ok (.ireturn, 1) := by decide +kernel
theorem dX4_byOrderOfHighest_7 : decode cX4_byOrderOfHighest 7 = .ok (.aload_n 0, 1) := by decide +kernel
theorem dX4_byOrderOfHighest_8 : decode cX4_byOrderOfHighest 8 = .ok (.getfield 27, 3) := by decide +kernel
theorem dX4_byOrderOfHighest_11 : decode cX4_byOrderOfHighest 11 = .ok (.invokevirtual 106, 3) := by decide +kernel
theorem dX4_byOrderOfHighest_14 : decode cX4_byOrderOfHighest 14 = .ok (.ifCond .ne 6, 3) := by decide +kernel
theorem dX4_byOrderOfHighest_17 : decode cX4_byOrderOfHighest 17 = .ok (.bipush (-3), 2) := by decide +kernel
theorem dX4_byOrderOfHighest_19 : decode cX4_byOrderOfHighest 19 = .ok (.ireturn, 1) := by decide +kernel
theorem dX4_byOrderOfHighest_20 : decode cX4_byOrderOfHighest 20 = .ok (.iload_n 1, 1) := by decide +kernel
theorem dX4_byOrderOfHighest_21 : decode cX4_byOrderOfHighest 21 = .ok (.aload_n 0, 1) := by decide +kernel
theorem dX4_byOrderOfHighest_22 : decode cX4_byOrderOfHighest 22 = .ok (.getfield 27, 3) := by decide +kernel
theorem dX4_byOrderOfHighest_25 : decode cX4_byOrderOfHighest 25 = .ok (.getfield 72, 3) := by decide +kernel
theorem dX4_byOrderOfHighest_28 : decode cX4_byOrderOfHighest 28 = .ok (.if_icmp .lt 6, 3) := by decide +kernel
theorem dX4_byOrderOfHighest_31 : decode cX4_byOrderOfHighest 31 = .ok (.bipush (-9), 2) := by decide +kernel
theorem dX4_byOrderOfHighest_33 : decode cX4_byOrderOfHighest 33 = .ok (.ireturn, 1) := by decide +kernel
theorem dX4_byOrderOfHighest_34 : decode cX4_byOrderOfHighest 34 = .ok (.aload_n 0, 1) := by decide +kernel
theorem dX4_byOrderOfHighest_35 : decode cX4_byOrderOfHighest 35 = .ok (.iload_n 2, 1) := by decide +kernel
theorem dX4_byOrderOfHighest_36 : decode cX4_byOrderOfHighest 36 = .ok (.invokevirtual 238, 3) := by decide +kernel
theorem dX4_byOrderOfHighest_39 : decode cX4_byOrderOfHighest 39 = .ok (.istore_n 3, 1) := by decide +kernel
theorem dX4_byOrderOfHighest_40 : decode cX4_byOrderOfHighest 40 = .ok (.iload_n 1, 1) := by decide +kernel
theorem dX4_byOrderOfHighest_41 : decode cX4_byOrderOfHighest 41 = .ok (.ifCond .ge 9, 3) := by decide +kernel
theorem dX4_byOrderOfHighest_44 : decode cX4_byOrderOfHighest 44 = .ok (.iload_n 2, 1) := by decide +kernel
theorem dX4_byOrderOfHighest_45 : decode cX4_byOrderOfHighest 45 = .ok (.iload_n 3, 1) := by decide +kernel
theorem dX4_byOrderOfHighest_46 : decode cX4_byOrderOfHighest 46 = .ok (.imul, 1) := by decide +kernel
theorem dX4_byOrderOfHighest_47 : decode cX4_byOrderOfHighest 47 = .ok (.goto 9, 3) := by decide +kernel
theorem dX4_byOrderOfHighest_50 : decode cX4_byOrderOfHighest 50 = .ok (.aload_n 0, 1) := by decide +kernel
theorem dX4_byOrderOfHighest_51 : decode cX4_byOrderOfHighest 51 = .ok (.getfield 40, 3) := by decide +kernel
theorem dX4_byOrderOfHighest_54 : decode cX4_byOrderOfHighest 54 = .ok (.iload_n 1, 1) := by decide +kernel
theorem dX4_byOrderOfHighest_55 : decode cX4_byOrderOfHighest 55 = .ok (.iaload, 1) := by decide +kernel
theorem dX4_byOrderOfHighest_56 : decode cX4_byOrderOfHighest 56 = .ok (.ireturn, 1) := by decide +kernel
theorem dX4_findOrderOfHighest_0 : decode cX4_findOrderOfHighest 0 = .ok (.aload_n 0, 1) := by decide +kernel
theorem dX4_findOrderOfHighest_1 : decode cX4_findOrderOfHighest 1 = .ok (.invokevirtual 148, 3) := by decide +kernel
theorem dX4_findOrderOfHighest_4 : decode cX4_findOrderOfHighest 4 = .ok (.sipush (-1000), 3) := by decide +kernel
theorem dX4_findOrderOfHighest_7 : decode cX4_findOrderOfHighest 7 = .ok (.istore_n 2, 1) := by decide +kernel
theorem dX4_findOrderOfHighest_8 : decode cX4_findOrderOfHighest 8 = .ok (.iconst 1, 1) := by decide +kernel
theorem dX4_findOrderOfHighest_9 : decode cX4_findOrderOfHighest 9 = .ok (.istore_n 3, 1) := by decide +kernel
theorem dX4_findOrderOfHighest_10 : decode cX4_findOrderOfHighest 10 = .ok (.iconst 0, 1) := by decide +kernel
theorem dX4_findOrderOfHighest_11 : decode cX4_findOrderOfHighest 11 = .ok (.istore 4, 2) := by decide +kernel
theorem dX4_findOrderOfHighest_13 : decode cX4_findOrderOfHighest 13 = .ok (.iload_n 3, 1) := by decide +kernel
theorem dX4_findOrderOfHighest_14 : decode cX4_findOrderOfHighest 14 = .ok (.ifCond .eq 71, 3) := by decide +kernel
theorem dX4_findOrderOfHighest_17 : decode cX4_findOrderOfHighest 17 = .ok (.iload 4, 2) := by decide +kernel
theorem dX4_findOrderOfHighest_19 : decode cX4_findOrderOfHighest 19 = .ok (.bipush 120, 2) := by decide +kernel
theorem dX4_findOrderOfHighest_21 : decode cX4_findOrderOfHighest 21 = .ok (.if_icmp .ge 64, 3) := by decide +kernel
theorem dX4_findOrderOfHighest_24 : decode cX4_findOrderOfHighest 24 = .ok (.aload_n 0, 1) := by decide +kernel
theorem dX4_findOrderOfHighest_25 : decode cX4_findOrderOfHighest 25 = .ok (.getfield 36, 3) := by decide +kernel
theorem dX4_findOrderOfHighest_28 : decode cX4_findOrderOfHighest 28 = .ok (.invokevirtual 124, 3) := by decide +kernel
theorem dX4_findOrderOfHighest_31 : decode cX4_findOrderOfHighest 31 = .ok (.iload_n 1, 1) := by decide +kernel
theorem dX4_findOrderOfHighest_32 : decode cX4_findOrderOfHighest 32 = .ok (.aload_n 0, 1) := by decide +kernel
theorem dX4_findOrderOfHighest_33 : decode cX4_findOrderOfHighest 33 = .ok (.getfield 36, 3) := by decide +kernel
theorem dX4_findOrderOfHighest_36 : decode cX4_findOrderOfHighest 36 = .ok (.getfield 130, 3) := by decide +kernel
theorem dX4_findOrderOfHighest_39 : decode cX4_findOrderOfHighest 39 = .ok (.imul, 1) := by decide +kernel
theorem dX4_findOrderOfHighest_40 : decode cX4_findOrderOfHighest 40 = .ok (.iload_n 2, 1) := by decide +kernel
theorem dX4_findOrderOfHighest_41 : decode cX4_findOrderOfHighest 41 = .ok (.if_icmp .le 30, 3) := by decide +kernel
theorem dX4_findOrderOfHighest_44 : decode cX4_findOrderOfHighest 44 = .ok (.iload_n 1, 1) := by decide +kernel
theorem dX4_findOrderOfHighest_45 : decode cX4_findOrderOfHighest 45 = .ok (.aload_n 0, 1) := by decide +kernel
theorem dX4_findOrderOfHighest_46 : decode cX4_findOrderOfHighest 46 = .ok (.getfield 36, 3) := by decide +kernel
theorem dX4_findOrderOfHighest_49 : decode cX4_findOrderOfHighest 49 = .ok (.getfield 130, 3) := by decide +kernel
theorem dX4_findOrderOfHighest_52 : decode cX4_findOrderOfHighest 52 = .ok (.imul, 1) := by decide +kernel
theorem dX4_findOrderOfHighest_53 : decode cX4_findOrderOfHighest 53 = .ok (.istore_n 2, 1) := by decide +kernel
theorem dX4_findOrderOfHighest_54 : decode cX4_findOrderOfHighest 54 = .ok (.aload_n 0, 1) := by decide +kernel
theorem dX4_findOrderOfHighest_55 : decode cX4_findOrderOfHighest 55 = .ok (.getfield 36, 3) := by decide +kernel
theorem dX4_findOrderOfHighest_58 : decode cX4_findOrderOfHighest 58 = .ok (.getfield 241, 3) := by decide +kernel
theorem dX4_findOrderOfHighest_61 : decode cX4_findOrderOfHighest 61 = .ok (.iconst 0, 1) := by decide +kernel
theorem dX4_findOrderOfHighest_62 : decode cX4_findOrderOfHighest 62 = .ok (.aload_n 0, 1) := by decide +kernel
theorem dX4_findOrderOfHighest_63 : decode cX4_findOrderOfHighest 63 = .ok (.getfield 40, 3) := by decide +kernel
theorem dX4_findOrderOfHighest_66 : decode cX4_findOrderOfHighest 66 = .ok (.iconst 0, 1) := by decide +kernel
theorem dX4_findOrderOfHighest_67 : decode cX4_findOrderOfHighest 67 = .ok (.iconst 5, 1) := by decide +kernel
theorem dX4_findOrderOfHighest_68 : decode cX4_findOrderOfHighest 68 = .ok (.invokestatic 208, 3) := by decide +kernel
theorem dX4_findOrderOfHighest_71 : decode cX4_findOrderOfHighest 71 = .ok (.aload_n 0, 1) := by decide +kernel
theorem dX4_findOrderOfHighest_72 : decode cX4_findOrderOfHighest 72 = .ok (.getfield 36, 3) := by decide +kernel
theorem dX4_findOrderOfHighest_75 : decode cX4_findOrderOfHighest 75 = .ok (.invokevirtual 244, 3) := by decide +kernel
theorem dX4_findOrderOfHighest_78 : decode cX4_findOrderOfHighest 78 = .ok (.istore_n 3, 1) := by decide +kernel
theorem dX4_findOrderOfHighest_79 : decode cX4_findOrderOfHighest 79 = .ok (.iinc 4 1, 3) := by decide +kernel
theorem dX4_findOrderOfHighest_82 : decode cX4_findOrderOfHighest 82 = .ok (.goto (-69), 3) := by decide +kernel
theorem dX4_findOrderOfHighest_85 : decode cX4_findOrderOfHighest 85 = .ok (.iload_n 2, 1) := by decide +kernel
theorem dX4_findOrderOfHighest_86 : decode cX4_findOrderOfHighest 86 = .ok (.ireturn, 1) := by decide +kernel
theorem dX4_fewestSweets_0 : decode cX4_fewestSweets 0 = .ok (.bipush (-9), 2) := by decide +kernel
theorem dX4_fewestSweets_2 : decode cX4_fewestSweets 2 = .ok (.istore_n 2, 1) := by decide +kernel
theorem dX4_fewestSweets_3 : decode cX4_fewestSweets 3 = .ok (.iconst 0, 1) := by decide +kernel
theorem dX4_fewestSweets_4 : decode cX4_fewestSweets 4 = .ok (.istore_n 3, 1) := by decide +kernel
theorem dX4_fewestSweets_5 : decode cX4_fewestSweets 5 = .ok (.iload_n 3, 1) := by decide +kernel
theorem dX4_fewestSweets_6 : decode cX4_fewestSweets 6 = .ok (.iconst 1, 1) := by decide +kernel
theorem dX4_fewestSweets_7 : decode cX4_fewestSweets 7 = .ok (.aload_n 0, 1) := by decide +kernel
theorem dX4_fewestSweets_8 : decode cX4_fewestSweets 8 = .ok (.getfield 27, 3) := by decide +kernel
theorem dX4_fewestSweets_11 : decode cX4_fewestSweets 11 = .ok (.getfield 151, 3) := by decide +kernel
theorem dX4_fewestSweets_14 : decode cX4_fewestSweets 14 = .ok (.ishl, 1) := by decide +kernel
theorem dX4_fewestSweets_15 : decode cX4_fewestSweets 15 = .ok (.if_icmp .ge 89, 3) := by decide +kernel
theorem dX4_fewestSweets_18 : decode cX4_fewestSweets 18 = .ok (.iload_n 3, 1) := by decide +kernel
theorem dX4_fewestSweets_19 : decode cX4_fewestSweets 19 = .ok (.aload_n 0, 1) := by decide +kernel
theorem dX4_fewestSweets_20 : decode cX4_fewestSweets 20 = .ok (.getfield 27, 3) := by decide +kernel
theorem dX4_fewestSweets_23 : decode cX4_fewestSweets 23 = .ok (.getfield 84, 3) := by decide +kernel
theorem dX4_fewestSweets_26 : decode cX4_fewestSweets 26 = .ok (.iand, 1) := by decide +kernel
theorem dX4_fewestSweets_27 : decode cX4_fewestSweets 27 = .ok (.ifCond .ne 7, 3) := by decide +kernel
theorem dX4_fewestSweets_30 : decode cX4_fewestSweets 30 = .ok (.iconst 1, 1) := by decide +kernel
theorem dX4_fewestSweets_31 : decode cX4_fewestSweets 31 = .ok (.goto 4, 3) := by decide +kernel
theorem dX4_fewestSweets_34 : decode cX4_fewestSweets 34 = .ok (.iconst 0, 1) := by decide +kernel
theorem dX4_fewestSweets_35 : decode cX4_fewestSweets 35 = .ok (.istore 4, 2) := by decide +kernel
theorem dX4_fewestSweets_37 : decode cX4_fewestSweets 37 = .ok (.iload 4, 2) := by decide +kernel
theorem dX4_fewestSweets_39 : decode cX4_fewestSweets 39 = .ok (.ifCond .eq 59, 3) := by decide +kernel
theorem dX4_fewestSweets_42 : decode cX4_fewestSweets 42 = .ok (.iload_n 2, 1) := by decide +kernel
theorem dX4_fewestSweets_43 : decode cX4_fewestSweets 43 = .ok (.bipush (-9), 2) := by decide +kernel
theorem dX4_fewestSweets_45 : decode cX4_fewestSweets 45 = .ok (.if_icmp .eq 11, 3) := by decide +kernel
theorem dX4_fewestSweets_48 : decode cX4_fewestSweets 48 = .ok (.iload_n 3, 1) := by decide +kernel
theorem dX4_fewestSweets_49 : decode cX4_fewestSweets 49 = .ok (.iload_n 2, 1) := by decide +kernel
theorem dX4_fewestSweets_50 : decode cX4_fewestSweets 50 = .ok (.invokestatic 173, 3) := by decide +kernel
theorem dX4_fewestSweets_53 : decode cX4_fewestSweets 53 = .ok (.ifCond .eq 45, 3) := by decide +kernel
theorem dX4_fewestSweets_56 : decode cX4_fewestSweets 56 = .ok (.aload_n 0, 1) := by decide +kernel
theorem dX4_fewestSweets_57 : decode cX4_fewestSweets 57 = .ok (.getfield 36, 3) := by decide +kernel
theorem dX4_fewestSweets_60 : decode cX4_fewestSweets 60 = .ok (.aload_n 0, 1) := by decide +kernel
theorem dX4_fewestSweets_61 : decode cX4_fewestSweets 61 = .ok (.getfield 27, 3) := by decide +kernel
theorem dX4_fewestSweets_64 : decode cX4_fewestSweets 64 = .ok (.getfield 84, 3) := by decide +kernel
theorem dX4_fewestSweets_67 : decode cX4_fewestSweets 67 = .ok (.iload_n 3, 1) := by decide +kernel
theorem dX4_fewestSweets_68 : decode cX4_fewestSweets 68 = .ok (.ior, 1) := by decide +kernel
theorem dX4_fewestSweets_69 : decode cX4_fewestSweets 69 = .ok (.putfield 178, 3) := by decide +kernel
theorem dX4_fewestSweets_72 : decode cX4_fewestSweets 72 = .ok (.aload_n 0, 1) := by decide +kernel
theorem dX4_fewestSweets_73 : decode cX4_fewestSweets 73 = .ok (.getfield 36, 3) := by decide +kernel
theorem dX4_fewestSweets_76 : decode cX4_fewestSweets 76 = .ok (.invokevirtual 124, 3) := by decide +kernel
theorem dX4_fewestSweets_79 : decode cX4_fewestSweets 79 = .ok (.aload_n 0, 1) := by decide +kernel
theorem dX4_fewestSweets_80 : decode cX4_fewestSweets 80 = .ok (.getfield 36, 3) := by decide +kernel
theorem dX4_fewestSweets_83 : decode cX4_fewestSweets 83 = .ok (.getfield 127, 3) := by decide +kernel
theorem dX4_fewestSweets_86 : decode cX4_fewestSweets 86 = .ok (.iload_n 1, 1) := by decide +kernel
theorem dX4_fewestSweets_87 : decode cX4_fewestSweets 87 = .ok (.iaload, 1) := by decide +kernel
theorem dX4_fewestSweets_88 : decode cX4_fewestSweets 88 = .ok (.iconst 1, 1) := by decide +kernel
theorem dX4_fewestSweets_89 : decode cX4_fewestSweets 89 = .ok (.if_icmp .ne 7, 3) := by decide +kernel
theorem dX4_fewestSweets_92 : decode cX4_fewestSweets 92 = .ok (.iload_n 2, 1) := by decide +kernel
theorem dX4_fewestSweets_93 : decode cX4_fewestSweets 93 = .ok (.goto 4, 3) := by decide +kernel
theorem dX4_fewestSweets_96 : decode cX4_fewestSweets 96 = .ok (.iload_n 3, 1) := by decide +kernel
theorem dX4_fewestSweets_97 : decode cX4_fewestSweets 97 = .ok (.istore_n 2, 1) := by decide +kernel
theorem dX4_fewestSweets_98 : decode cX4_fewestSweets 98 = .ok (.iinc 3 1, 3) := by decide +kernel
theorem dX4_fewestSweets_101 : decode cX4_fewestSweets 101 = .ok (.goto (-96), 3) := by decide +kernel
theorem dX4_fewestSweets_104 : decode cX4_fewestSweets 104 = .ok (.iload_n 2, 1) := by decide +kernel
theorem dX4_fewestSweets_105 : decode cX4_fewestSweets 105 = .ok (.ireturn, 1) := by decide +kernel
theorem dX4_mostByCourtsStrike_0 : decode cX4_mostByCourtsStrike 0 = .ok (.bipush (-9), 2) := by decide +kernel
theorem dX4_mostByCourtsStrike_2 : decode cX4_mostByCourtsStrike 2 = .ok (.istore_n 2, 1) := by decide +kernel
theorem dX4_mostByCourtsStrike_3 : decode cX4_mostByCourtsStrike 3 = .ok (.iconst 0, 1) := by decide +kernel
theorem dX4_mostByCourtsStrike_4 : decode cX4_mostByCourtsStrike 4 = .ok (.istore_n 3, 1) := by decide +kernel
theorem dX4_mostByCourtsStrike_5 : decode cX4_mostByCourtsStrike 5 = .ok (.iload_n 3, 1) := by decide +kernel
theorem dX4_mostByCourtsStrike_6 : decode cX4_mostByCourtsStrike 6 = .ok (.aload_n 0, 1) := by decide +kernel
theorem dX4_mostByCourtsStrike_7 : decode cX4_mostByCourtsStrike 7 = .ok (.getfield 27, 3) := by decide +kernel
theorem dX4_mostByCourtsStrike_10 : decode cX4_mostByCourtsStrike 10 = .ok (.getfield 151, 3) := by decide +kernel
theorem dX4_mostByCourtsStrike_13 : decode cX4_mostByCourtsStrike 13 = .ok (.if_icmp .ge 32, 3) := by decide +kernel
theorem dX4_mostByCourtsStrike_16 : decode cX4_mostByCourtsStrike 16 = .ok (.iload_n 1, 1) := by decide +kernel
theorem dX4_mostByCourtsStrike_17 : decode cX4_mostByCourtsStrike 17 = .ok (.iload_n 3, 1) := by decide +kernel
theorem dX4_mostByCourtsStrike_18 : decode cX4_mostByCourtsStrike 18 = .ok (.invokestatic 87, 3) := by decide +kernel
theorem dX4_mostByCourtsStrike_21 : decode cX4_mostByCourtsStrike 21 = .ok (.ifCond .ne 18, 3) := by decide +kernel
theorem dX4_mostByCourtsStrike_24 : decode cX4_mostByCourtsStrike 24 = .ok (.iload_n 2, 1) := by decide +kernel
theorem dX4_mostByCourtsStrike_25 : decode cX4_mostByCourtsStrike 25 = .ok (.aload_n 0, 1) := by decide +kernel
theorem dX4_mostByCourtsStrike_26 : decode cX4_mostByCourtsStrike 26 = .ok (.iload_n 1, 1) := by decide +kernel
theorem dX4_mostByCourtsStrike_27 : decode cX4_mostByCourtsStrike 27 = .ok (.iload_n 3, 1) := by decide +kernel
theorem dX4_mostByCourtsStrike_28 : decode cX4_mostByCourtsStrike 28 = .ok (.iconst 1, 1) := by decide +kernel
theorem dX4_mostByCourtsStrike_29 : decode cX4_mostByCourtsStrike 29 = .ok (.invokestatic 113, 3) := by decide +kernel
theorem dX4_mostByCourtsStrike_32 : decode cX4_mostByCourtsStrike 32 = .ok (.invokevirtual 157, 3) := by decide +kernel
theorem dX4_mostByCourtsStrike_35 : decode cX4_mostByCourtsStrike 35 = .ok (.invokestatic 247, 3) := by decide +kernel
theorem dX4_mostByCourtsStrike_38 : decode cX4_mostByCourtsStrike 38 = .ok (.istore_n 2, 1) := by decide +kernel
theorem dX4_mostByCourtsStrike_39 : decode cX4_mostByCourtsStrike 39 = .ok (.iinc 3 1, 3) := by decide +kernel
theorem dX4_mostByCourtsStrike_42 : decode cX4_mostByCourtsStrike 42 = .ok (.goto (-37), 3) := by decide +kernel
theorem dX4_mostByCourtsStrike_45 : decode cX4_mostByCourtsStrike 45 = .ok (.iload_n 2, 1) := by decide +kernel
theorem dX4_mostByCourtsStrike_46 : decode cX4_mostByCourtsStrike 46 = .ok (.bipush (-9), 2) := by decide +kernel
theorem dX4_mostByCourtsStrike_48 : decode cX4_mostByCourtsStrike 48 = .ok (.if_icmp .ne 11, 3) := by decide +kernel
theorem dX4_mostByCourtsStrike_51 : decode cX4_mostByCourtsStrike 51 = .ok (.aload_n 0, 1) := by decide +kernel
theorem dX4_mostByCourtsStrike_52 : decode cX4_mostByCourtsStrike 52 = .ok (.iload_n 1, 1) := by decide +kernel
theorem dX4_mostByCourtsStrike_53 : decode cX4_mostByCourtsStrike 53 = .ok (.invokevirtual 157, 3) := by decide +kernel
theorem dX4_mostByCourtsStrike_56 : decode cX4_mostByCourtsStrike 56 = .ok (.goto 4, 3) := by decide +kernel
theorem dX4_mostByCourtsStrike_59 : decode cX4_mostByCourtsStrike 59 = .ok (.iload_n 2, 1) := by decide +kernel
theorem dX4_mostByCourtsStrike_60 : decode cX4_mostByCourtsStrike 60 = .ok (.ireturn, 1) := by decide +kernel
theorem dX4_sentencedIfStruck_0 : decode cX4_sentencedIfStruck 0 = .ok (.aload_n 0, 1) := by decide +kernel
theorem dX4_sentencedIfStruck_1 : decode cX4_sentencedIfStruck 1 = .ok (.getfield 36, 3) := by decide +kernel
theorem dX4_sentencedIfStruck_4 : decode cX4_sentencedIfStruck 4 = .ok (.iload_n 1, 1) := by decide +kernel
theorem dX4_sentencedIfStruck_5 : decode cX4_sentencedIfStruck 5 = .ok (.putfield 181, 3) := by decide +kernel
theorem dX4_sentencedIfStruck_8 : decode cX4_sentencedIfStruck 8 = .ok (.aload_n 0, 1) := by decide +kernel
theorem dX4_sentencedIfStruck_9 : decode cX4_sentencedIfStruck 9 = .ok (.getfield 36, 3) := by decide +kernel
theorem dX4_sentencedIfStruck_12 : decode cX4_sentencedIfStruck 12 = .ok (.invokevirtual 124, 3) := by decide +kernel
theorem dX4_sentencedIfStruck_15 : decode cX4_sentencedIfStruck 15 = .ok (.aload_n 0, 1) := by decide +kernel
theorem dX4_sentencedIfStruck_16 : decode cX4_sentencedIfStruck 16 = .ok (.getfield 36, 3) := by decide +kernel
theorem dX4_sentencedIfStruck_19 : decode cX4_sentencedIfStruck 19 = .ok (.getfield 130, 3) := by decide +kernel
theorem dX4_sentencedIfStruck_22 : decode cX4_sentencedIfStruck 22 = .ok (.ireturn, 1) := by decide +kernel
theorem dX4_isAsRead_0 : decode cX4_isAsRead 0 = .ok (.aload_n 0, 1) := by decide +kernel
theorem dX4_isAsRead_1 : decode cX4_isAsRead 1 = .ok (.getfield 36, 3) := by decide +kernel
theorem dX4_isAsRead_4 : decode cX4_isAsRead 4 = .ok (.invokevirtual 124, 3) := by decide +kernel
theorem dX4_isAsRead_7 : decode cX4_isAsRead 7 = .ok (.iconst 0, 1) := by decide +kernel
theorem dX4_isAsRead_8 : decode cX4_isAsRead 8 = .ok (.istore_n 1, 1) := by decide +kernel
theorem dX4_isAsRead_9 : decode cX4_isAsRead 9 = .ok (.iload_n 1, 1) := by decide +kernel
theorem dX4_isAsRead_10 : decode cX4_isAsRead 10 = .ok (.aload_n 0, 1) := by decide +kernel
theorem dX4_isAsRead_11 : decode cX4_isAsRead 11 = .ok (.getfield 27, 3) := by decide +kernel
theorem dX4_isAsRead_14 : decode cX4_isAsRead 14 = .ok (.getfield 160, 3) := by decide +kernel
theorem dX4_isAsRead_17 : decode cX4_isAsRead 17 = .ok (.if_icmp .ge 40, 3) := by decide +kernel
theorem dX4_isAsRead_20 : decode cX4_isAsRead 20 = .ok (.aload_n 0, 1) := by decide +kernel
theorem dX4_isAsRead_21 : decode cX4_isAsRead 21 = .ok (.getfield 36, 3) := by decide +kernel
theorem dX4_isAsRead_24 : decode cX4_isAsRead 24 = .ok (.getfield 127, 3) := by decide +kernel
theorem dX4_isAsRead_27 : decode cX4_isAsRead 27 = .ok (.aload_n 0, 1) := by decide +kernel
theorem dX4_isAsRead_28 : decode cX4_isAsRead 28 = .ok (.getfield 27, 3) := by decide +kernel
theorem dX4_isAsRead_31 : decode cX4_isAsRead 31 = .ok (.getfield 163, 3) := by decide +kernel
theorem dX4_isAsRead_34 : decode cX4_isAsRead 34 = .ok (.iload_n 1, 1) := by decide +kernel
theorem dX4_isAsRead_35 : decode cX4_isAsRead 35 = .ok (.iaload, 1) := by decide +kernel
theorem dX4_isAsRead_36 : decode cX4_isAsRead 36 = .ok (.iaload, 1) := by decide +kernel
theorem dX4_isAsRead_37 : decode cX4_isAsRead 37 = .ok (.aload_n 0, 1) := by decide +kernel
theorem dX4_isAsRead_38 : decode cX4_isAsRead 38 = .ok (.getfield 27, 3) := by decide +kernel
theorem dX4_isAsRead_41 : decode cX4_isAsRead 41 = .ok (.getfield 166, 3) := by decide +kernel
theorem dX4_isAsRead_44 : decode cX4_isAsRead 44 = .ok (.iload_n 1, 1) := by decide +kernel
theorem dX4_isAsRead_45 : decode cX4_isAsRead 45 = .ok (.iaload, 1) := by decide +kernel
theorem dX4_isAsRead_46 : decode cX4_isAsRead 46 = .ok (.if_icmp .eq 5, 3) := by decide +kernel
theorem dX4_isAsRead_49 : decode cX4_isAsRead 49 = .ok (.iconst 0, 1) := by decide +kernel
theorem dX4_isAsRead_50 : decode cX4_isAsRead 50 = .ok (.ireturn, 1) := by decide +kernel
theorem dX4_isAsRead_51 : decode cX4_isAsRead 51 = .ok (.iinc 1 1, 3) := by decide +kernel
theorem dX4_isAsRead_54 : decode cX4_isAsRead 54 = .ok (.goto (-45), 3) := by decide +kernel
theorem dX4_isAsRead_57 : decode cX4_isAsRead 57 = .ok (.iconst 1, 1) := by decide +kernel
theorem dX4_isAsRead_58 : decode cX4_isAsRead 58 = .ok (.ireturn, 1) := by decide +kernel
theorem dX4_leaveInTrace_0 : decode cX4_leaveInTrace 0 = .ok (.aload_n 0, 1) := by decide +kernel
theorem dX4_leaveInTrace_1 : decode cX4_leaveInTrace 1 = .ok (.bipush 31, 2) := by decide +kernel
theorem dX4_leaveInTrace_3 : decode cX4_leaveInTrace 3 = .ok (.aload_n 0, 1) := by decide +kernel
theorem dX4_leaveInTrace_4 : decode cX4_leaveInTrace 4 = .ok (.getfield 227, 3) := by decide +kernel
theorem dX4_leaveInTrace_7 : decode cX4_leaveInTrace 7 = .ok (.imul, 1) := by decide +kernel
theorem dX4_leaveInTrace_8 : decode cX4_leaveInTrace 8 = .ok (.iload_n 1, 1) := by decide +kernel
theorem dX4_leaveInTrace_9 : decode cX4_leaveInTrace 9 = .ok (.iadd, 1) := by decide +kernel
theorem dX4_leaveInTrace_10 : decode cX4_leaveInTrace 10 = .ok (.putfield 227, 3) := by decide +kernel
theorem dX4_leaveInTrace_13 : decode cX4_leaveInTrace 13 = .ok (.return_, 1) := by decide +kernel
theorem dX4_childTelling_0 : decode cX4_childTelling 0 = .ok (.aload_n 0, 1) := by decide +kernel
theorem dX4_childTelling_1 : decode cX4_childTelling 1 = .ok (.iconst 1, 1) := by decide +kernel
theorem dX4_childTelling_2 : decode cX4_childTelling 2 = .ok (.invokevirtual 223, 3) := by decide +kernel
theorem dX4_childTelling_5 : decode cX4_childTelling 5 = .ok (.aload_n 0, 1) := by decide +kernel
theorem dX4_childTelling_6 : decode cX4_childTelling 6 = .ok (.getfield 27, 3) := by decide +kernel
theorem dX4_childTelling_9 : decode cX4_childTelling 9 = .ok (.getfield 81, 3) := by decide +kernel
theorem dX4_childTelling_12 : decode cX4_childTelling 12 = .ok (.iload_n 1, 1) := by decide +kernel
theorem dX4_childTelling_13 : decode cX4_childTelling 13 = .ok (.iaload, 1) := by decide +kernel
theorem dX4_childTelling_14 : decode cX4_childTelling 14 = .ok (.ireturn, 1) := by decide +kernel
theorem dX4_hungryTelling_0 : decode cX4_hungryTelling 0 = .ok (.aload_n 0, 1) := by decide +kernel
theorem dX4_hungryTelling_1 : decode cX4_hungryTelling 1 = .ok (.iconst 2, 1) := by decide +kernel
theorem dX4_hungryTelling_2 : decode cX4_hungryTelling 2 = .ok (.invokevirtual 223, 3) := by decide +kernel
theorem dX4_hungryTelling_5 : decode cX4_hungryTelling 5 = .ok (.aload_n 0, 1) := by decide +kernel
theorem dX4_hungryTelling_6 : decode cX4_hungryTelling 6 = .ok (.iload_n 1, 1) := by decide +kernel
theorem dX4_hungryTelling_7 : decode cX4_hungryTelling 7 = .ok (.invokevirtual 220, 3) := by decide +kernel
theorem dX4_hungryTelling_10 : decode cX4_hungryTelling 10 = .ok (.bipush 100, 2) := by decide +kernel
theorem dX4_hungryTelling_12 : decode cX4_hungryTelling 12 = .ok (.iadd, 1) := by decide +kernel
theorem dX4_hungryTelling_13 : decode cX4_hungryTelling 13 = .ok (.ireturn, 1) := by decide +kernel
theorem dX4_sweetTelling_0 : decode cX4_sweetTelling 0 = .ok (.aload_n 0, 1) := by decide +kernel
theorem dX4_sweetTelling_1 : decode cX4_sweetTelling 1 = .ok (.iconst 3, 1) := by decide +kernel
theorem dX4_sweetTelling_2 : decode cX4_sweetTelling 2 = .ok (.invokevirtual 223, 3) := by decide +kernel
theorem dX4_sweetTelling_5 : decode cX4_sweetTelling 5 = .ok (.aload_n 0, 1) := by decide +kernel
theorem dX4_sweetTelling_6 : decode cX4_sweetTelling 6 = .ok (.iload_n 1, 1) := by decide +kernel
theorem dX4_sweetTelling_7 : decode cX4_sweetTelling 7 = .ok (.invokevirtual 217, 3) := by decide +kernel
theorem dX4_sweetTelling_10 : decode cX4_sweetTelling 10 = .ok (.aload_n 0, 1) := by decide +kernel
theorem dX4_sweetTelling_11 : decode cX4_sweetTelling 11 = .ok (.iload_n 1, 1) := by decide +kernel
theorem dX4_sweetTelling_12 : decode cX4_sweetTelling 12 = .ok (.invokevirtual 220, 3) := by decide +kernel
theorem dX4_sweetTelling_15 : decode cX4_sweetTelling 15 = .ok (.iadd, 1) := by decide +kernel
theorem dX4_sweetTelling_16 : decode cX4_sweetTelling 16 = .ok (.ireturn, 1) := by decide +kernel
theorem dX5_init_0 : decode cX5_init 0 = .ok (.aload_n 0, 1) := by decide +kernel
theorem dX5_init_1 : decode cX5_init 1 = .ok (.invokespecial 1, 3) := by decide +kernel
theorem dX5_init_4 : decode cX5_init 4 = .ok (.aload_n 0, 1) := by decide +kernel
theorem dX5_init_5 : decode cX5_init 5 = .ok (.iconst 4, 1) := by decide +kernel
theorem dX5_init_6 : decode cX5_init 6 = .ok (.newarray .int, 2) := by decide +kernel
theorem dX5_init_8 : decode cX5_init 8 = .ok (.dup, 1) := by decide +kernel
theorem dX5_init_9 : decode cX5_init 9 = .ok (.iconst 0, 1) := by decide +kernel
theorem dX5_init_10 : decode cX5_init 10 = .ok (.bipush (-9), 2) := by decide +kernel
theorem dX5_init_12 : decode cX5_init 12 = .ok (.iastore, 1) := by decide +kernel
theorem dX5_init_13 : decode cX5_init 13 = .ok (.dup, 1) := by decide +kernel
theorem dX5_init_14 : decode cX5_init 14 = .ok (.iconst 1, 1) := by decide +kernel
theorem dX5_init_15 : decode cX5_init 15 = .ok (.bipush (-9), 2) := by decide +kernel
theorem dX5_init_17 : decode cX5_init 17 = .ok (.iastore, 1) := by decide +kernel
theorem dX5_init_18 : decode cX5_init 18 = .ok (.dup, 1) := by decide +kernel
theorem dX5_init_19 : decode cX5_init 19 = .ok (.iconst 2, 1) := by decide +kernel
theorem dX5_init_20 : decode cX5_init 20 = .ok (.bipush (-9), 2) := by decide +kernel
theorem dX5_init_22 : decode cX5_init 22 = .ok (.iastore, 1) := by decide +kernel
theorem dX5_init_23 : decode cX5_init 23 = .ok (.dup, 1) := by decide +kernel
theorem dX5_init_24 : decode cX5_init 24 = .ok (.iconst 3, 1) := by decide +kernel
theorem dX5_init_25 : decode cX5_init 25 = .ok (.bipush (-9), 2) := by decide +kernel
theorem dX5_init_27 : decode cX5_init 27 = .ok (.iastore, 1) := by decide +kernel
theorem dX5_init_28 : decode cX5_init 28 = .ok (.putfield 9, 3) := by decide +kernel
theorem dX5_init_31 : decode cX5_init 31 = .ok (.aload_n 0, 1) := by decide +kernel
theorem dX5_init_32 : decode cX5_init 32 = .ok (.iconst 4, 1) := by decide +kernel
theorem dX5_init_33 : decode cX5_init 33 = .ok (.newarray .int, 2) := by decide +kernel
theorem dX5_init_35 : decode cX5_init 35 = .ok (.putfield 13, 3) := by decide +kernel
theorem dX5_init_38 : decode cX5_init 38 = .ok (.aload_n 0, 1) := by decide +kernel
theorem dX5_init_39 : decode cX5_init 39 = .ok (.sipush 240, 3) := by decide +kernel
theorem dX5_init_42 : decode cX5_init 42 = .ok (.newarray .int, 2) := by decide +kernel
theorem dX5_init_44 : decode cX5_init 44 = .ok (.putfield 16, 3) := by decide +kernel
theorem dX5_init_47 : decode cX5_init 47 = .ok (.aload_n 0, 1) := by decide +kernel
theorem dX5_init_48 : decode cX5_init 48 = .ok (.iconst 5, 1) := by decide +kernel
theorem dX5_init_49 : decode cX5_init 49 = .ok (.newarray .int, 2) := by decide +kernel
theorem dX5_init_51 : decode cX5_init 51 = .ok (.putfield 19, 3) := by decide +kernel
theorem dX5_init_54 : decode cX5_init 54 = .ok (.aload_n 0, 1) := by decide +kernel
theorem dX5_init_55 : decode cX5_init 55 = .ok (.iconst 5, 1) := by decide +kernel
theorem dX5_init_56 : decode cX5_init 56 = .ok (.newarray .int, 2) := by decide +kernel
theorem dX5_init_58 : decode cX5_init 58 = .ok (.putfield 22, 3) := by decide +kernel
theorem dX5_init_61 : decode cX5_init 61 = .ok (.aload_n 0, 1) := by decide +kernel
theorem dX5_init_62 : decode cX5_init 62 = .ok (.iconst 5, 1) := by decide +kernel
theorem dX5_init_63 : decode cX5_init 63 = .ok (.newarray .boolean, 2) := by decide +kernel
theorem dX5_init_65 : decode cX5_init 65 = .ok (.putfield 25, 3) := by decide +kernel
theorem dX5_init_68 : decode cX5_init 68 = .ok (.aload_n 0, 1) := by decide +kernel
theorem dX5_init_69 : decode cX5_init 69 = .ok (.iconst 5, 1) := by decide +kernel
theorem dX5_init_70 : decode cX5_init 70 = .ok (.newarray .boolean, 2) := by decide +kernel
theorem dX5_init_72 : decode cX5_init 72 = .ok (.putfield 29, 3) := by decide +kernel
theorem dX5_init_75 : decode cX5_init 75 = .ok (.aload_n 0, 1) := by decide +kernel
theorem dX5_init_76 : decode cX5_init 76 = .ok (.iconst 5, 1) := by decide +kernel
theorem dX5_init_77 : decode cX5_init 77 = .ok (.newarray .int, 2) := by decide +kernel
theorem dX5_init_79 : decode cX5_init 79 = .ok (.putfield 32, 3) := by decide +kernel
theorem dX5_init_82 : decode cX5_init 82 = .ok (.aload_n 0, 1) := by decide +kernel
theorem dX5_init_83 : decode cX5_init 83 = .ok (.iconst 5, 1) := by decide +kernel
theorem dX5_init_84 : decode cX5_init 84 = .ok (.newarray .int, 2) := by decide +kernel
theorem dX5_init_86 : decode cX5_init 86 = .ok (.putfield 35, 3) := by decide +kernel
theorem dX5_init_89 : decode cX5_init 89 = .ok (.aload_n 0, 1) := by decide +kernel
theorem dX5_init_90 : decode cX5_init 90 = .ok (.iconst 5, 1) := by decide +kernel
theorem dX5_init_91 : decode cX5_init 91 = .ok (.newarray .int, 2) := by decide +kernel
theorem dX5_init_93 : decode cX5_init 93 = .ok (.putfield 38, 3) := by decide +kernel
theorem dX5_init_96 : decode cX5_init 96 = .ok (.aload_n 0, 1) := by decide +kernel
theorem dX5_init_97 : decode cX5_init 97 = .ok (.bipush 10, 2) := by decide +kernel
theorem dX5_init_99 : decode cX5_init 99 = .ok (.newarray .int, 2) := by decide +kernel
theorem dX5_init_101 : decode cX5_init 101 = .ok (.putfield 41, 3) := by decide +kernel
theorem dX5_init_104 : decode cX5_init 104 = .ok (.aload_n 0, 1) := by decide +kernel
theorem dX5_init_105 : decode cX5_init 105 = .ok (.bipush 15, 2) := by decide +kernel
theorem dX5_init_107 : decode cX5_init 107 = .ok (.newarray .int, 2) := by decide +kernel
theorem dX5_init_109 : decode cX5_init 109 = .ok (.putfield 44, 3) := by decide +kernel
theorem dX5_init_112 : decode cX5_init 112 = .ok (.aload_n 0, 1) := by decide +kernel
theorem dX5_init_113 : decode cX5_init 113 = .ok (.iconst 5, 1) := by decide +kernel
theorem dX5_init_114 : decode cX5_init 114 = .ok (.newarray .int, 2) := by decide +kernel
theorem dX5_init_116 : decode cX5_init 116 = .ok (.putfield 47, 3) := by decide +kernel
theorem dX5_init_119 : decode cX5_init 119 = .ok (.aload_n 0, 1) := by decide +kernel
theorem dX5_init_120 : decode cX5_init 120 = .ok (.bipush 6, 2) := by decide +kernel
theorem dX5_init_122 : decode cX5_init 122 = .ok (.newarray .int, 2) := by decide +kernel
theorem dX5_init_124 : decode cX5_init 124 = .ok (.putfield 50, 3) := by decide +kernel
theorem dX5_init_127 : decode cX5_init 127 = .ok (.aload_n 0, 1) := by decide +kernel
theorem dX5_init_128 : decode cX5_init 128 = .ok (.iconst 5, 1) := by decide +kernel
theorem dX5_init_129 : decode cX5_init 129 = .ok (.newarray .boolean, 2) := by decide +kernel
theorem dX5_init_131 : decode cX5_init 131 = .ok (.putfield 53, 3) := by decide +kernel
theorem dX5_init_134 : decode cX5_init 134 = .ok (.aload_n 0, 1) := by decide +kernel
theorem dX5_init_135 : decode cX5_init 135 = .ok (.iconst 5, 1) := by decide +kernel
theorem dX5_init_136 : decode cX5_init 136 = .ok (.newarray .int, 2) := by decide +kernel
theorem dX5_init_138 : decode cX5_init 138 = .ok (.putfield 56, 3) := by decide +kernel
theorem dX5_init_141 : decode cX5_init 141 = .ok (.aload_n 0, 1) := by decide +kernel
theorem dX5_init_142 : decode cX5_init 142 = .ok (.iconst 5, 1) := by decide +kernel
theorem dX5_init_143 : decode cX5_init 143 = .ok (.newarray .int, 2) := by decide +kernel
theorem dX5_init_145 : decode cX5_init 145 = .ok (.putfield 59, 3) := by decide +kernel
theorem dX5_init_148 : decode cX5_init 148 = .ok (.aload_n 0, 1) := by decide +kernel
theorem dX5_init_149 : decode cX5_init 149 = .ok (.bipush 8, 2) := by decide +kernel
theorem dX5_init_151 : decode cX5_init 151 = .ok (.newarray .int, 2) := by decide +kernel
theorem dX5_init_153 : decode cX5_init 153 = .ok (.putfield 62, 3) := by decide +kernel
theorem dX5_init_156 : decode cX5_init 156 = .ok (.aload_n 0, 1) := by decide +kernel
theorem dX5_init_157 : decode cX5_init 157 = .ok (.bipush 8, 2) := by decide +kernel
theorem dX5_init_159 : decode cX5_init 159 = .ok (.newarray .int, 2) := by decide +kernel
theorem dX5_init_161 : decode cX5_init 161 = .ok (.putfield 65, 3) := by decide +kernel
theorem dX5_init_164 : decode cX5_init 164 = .ok (.return_, 1) := by decide +kernel
theorem dX5_fails_0 : decode cX5_fails 0 = .ok (.aload_n 0, 1) := by decide +kernel
theorem dX5_fails_1 : decode cX5_fails 1 = .ok (.iload_n 1, 1) := by decide +kernel
theorem dX5_fails_2 : decode cX5_fails 2 = .ok (.putfield 68, 3) := by decide +kernel
theorem dX5_fails_5 : decode cX5_fails 5 = .ok (.bipush (-10), 2) := by decide +kernel
theorem dX5_fails_7 : decode cX5_fails 7 = .ok (.iload_n 1, 1) := by decide +kernel
theorem dX5_fails_8 : decode cX5_fails 8 = .ok (.isub, 1) := by decide +kernel
theorem dX5_fails_9 : decode cX5_fails 9 = .ok (.ireturn, 1) := by decide +kernel
theorem dX5_lost_0 : decode cX5_lost 0 = .ok (.aload_n 0, 1) := by decide +kernel
theorem dX5_lost_1 : decode cX5_lost 1 = .ok (.iload_n 1, 1) := by decide +kernel
theorem dX5_lost_2 : decode cX5_lost 2 = .ok (.putfield 68, 3) := by decide +kernel
theorem dX5_lost_5 : decode cX5_lost 5 = .ok (.ldc2_w 72, 3) := by decide +kernel
theorem dX5_lost_8 : decode cX5_lost 8 = .ok (.lreturn, 1) := by decide +kernel
theorem dX5_within_0 : decode cX5_within 0 = .ok (.iload_n 0, 1) := by decide +kernel
theorem dX5_within_1 : decode cX5_within 1 = .ok (.iload_n 1, 1) := by decide +kernel
theorem dX5_within_2 : decode cX5_within 2 = .ok (.if_icmp .lt 12, 3) := by decide +kernel
theorem dX5_within_5 : decode cX5_within 5 = .ok (.iload_n 0, 1) := by decide +kernel
theorem dX5_within_6 : decode cX5_within 6 = .ok (.iload_n 2, 1) := by decide +kernel
theorem dX5_within_7 : decode cX5_within 7 = .ok (.if_icmp .gt 7, 3) := by decide +kernel
theorem dX5_within_10 : decode cX5_within 10 = .ok (.iconst 1, 1) := by decide +kernel
theorem dX5_within_11 : decode cX5_within 11 = .ok (.goto 4, 3) := by decide +kernel
theorem dX5_within_14 : decode cX5_within 14 = .ok (.iconst 0, 1) := by decide +kernel
theorem dX5_within_15 : decode cX5_within 15 = .ok (.ireturn, 1) := by decide +kernel
theorem dX5_isSheet_0 : decode cX5_isSheet 0 = .ok (.iload_n 0, 1) := by decide +kernel
theorem dX5_isSheet_1 : decode cX5_isSheet 1 = .ok (.iconst 0, 1) := by decide +kernel
theorem dX5_isSheet_2 : decode cX5_isSheet 2 = .ok (.iconst 3, 1) := by decide +kernel
theorem dX5_isSheet_3 : decode cX5_isSheet 3 = .ok (.invokestatic 74, 3) := by decide +kernel
theorem dX5_isSheet_6 : decode cX5_isSheet 6 = .ok (.ireturn, 1) := by decide +kernel
theorem dX5_isSort_0 : decode cX5_isSort 0 = .ok (.iload_n 0, 1) := by decide +kernel
theorem dX5_isSort_1 : decode cX5_isSort 1 = .ok (.iconst 0, 1) := by decide +kernel
theorem dX5_isSort_2 : decode cX5_isSort 2 = .ok (.iconst 2, 1) := by decide +kernel
theorem dX5_isSort_3 : decode cX5_isSort 3 = .ok (.invokestatic 74, 3) := by decide +kernel
theorem dX5_isSort_6 : decode cX5_isSort 6 = .ok (.ireturn, 1) := by decide +kernel
theorem dX5_against_0 : decode cX5_against 0 = .ok (.aload_n 0, 1) := by decide +kernel
theorem dX5_against_1 : decode cX5_against 1 = .ok (.getfield 9, 3) := by decide +kernel
theorem dX5_against_4 : decode cX5_against 4 = .ok (.iload_n 1, 1) := by decide +kernel
theorem dX5_against_5 : decode cX5_against 5 = .ok (.iaload, 1) := by decide +kernel
theorem dX5_against_6 : decode cX5_against 6 = .ok (.bipush (-9), 2) := by decide +kernel
theorem dX5_against_8 : decode cX5_against 8 = .ok (.if_icmp .eq 15, 3) := by decide +kernel
theorem dX5_against_11 : decode cX5_against 11 = .ok (.aload_n 0, 1) := by decide +kernel
theorem dX5_against_12 : decode cX5_against 12 = .ok (.getfield 9, 3) := by decide +kernel
theorem dX5_against_15 : decode cX5_against 15 = .ok (.iload_n 1, 1) := by decide +kernel
theorem dX5_against_16 : decode cX5_against 16 = .ok (.iaload, 1) := by decide +kernel
theorem dX5_against_17 : decode cX5_against 17 = .ok (.iload_n 2, 1) := by decide +kernel
theorem dX5_against_18 : decode cX5_against 18 = .ok (.if_icmp .eq 5, 3) := by decide +kernel
theorem dX5_against_21 : decode cX5_against 21 = .ok (.iconst 2, 1) := by decide +kernel
theorem dX5_against_22 : decode cX5_against 22 = .ok (.ireturn, 1) := by decide +kernel
theorem dX5_against_23 : decode cX5_against 23 = .ok (.aload_n 0, 1) := by decide +kernel
theorem dX5_against_24 : decode cX5_against 24 = .ok (.getfield 9, 3) := by decide +kernel
theorem dX5_against_27 : decode cX5_against 27 = .ok (.iload_n 1, 1) := by decide +kernel
theorem dX5_against_28 : decode cX5_against 28 = .ok (.iaload, 1) := by decide +kernel
theorem dX5_against_29 : decode cX5_against 29 = .ok (.bipush (-9), 2) := by decide +kernel
theorem dX5_against_31 : decode cX5_against 31 = .ok (.if_icmp .ne 5, 3) := by decide +kernel
theorem dX5_against_34 : decode cX5_against 34 = .ok (.iconst 1, 1) := by decide +kernel
theorem dX5_against_35 : decode cX5_against 35 = .ok (.ireturn, 1) := by decide +kernel
theorem dX5_against_36 : decode cX5_against 36 = .ok (.iload 4, 2) := by decide +kernel
theorem dX5_against_38 : decode cX5_against 38 = .ok (.ifCond .ge 5, 3) := by decide +kernel
theorem dX5_against_41 : decode cX5_against 41 = .ok (.iconst 4, 1) := by decide +kernel
theorem dX5_against_42 : decode cX5_against 42 = .ok (.ireturn, 1) := by decide +kernel
theorem dX5_against_43 : decode cX5_against 43 = .ok (.iload_n 3, 1) := by decide +kernel
theorem dX5_against_44 : decode cX5_against 44 = .ok (.ifCond .lt 26, 3) := by decide +kernel
theorem dX5_against_47 : decode cX5_against 47 = .ok (.iload_n 3, 1) := by decide +kernel
theorem dX5_against_48 : decode cX5_against 48 = .ok (.aload_n 0, 1) := by decide +kernel
theorem dX5_against_49 : decode cX5_against 49 = .ok (.getfield 13, 3) := by decide +kernel
theorem dX5_against_52 : decode cX5_against 52 = .ok (.iload_n 1, 1) := by decide +kernel
theorem dX5_against_53 : decode cX5_against 53 = .ok (.iaload, 1) := by decide +kernel
theorem dX5_against_54 : decode cX5_against 54 = .ok (.if_icmp .gt 16, 3) := by decide +kernel
theorem dX5_against_57 : decode cX5_against 57 = .ok (.iload 4, 2) := by decide +kernel
theorem dX5_against_59 : decode cX5_against 59 = .ok (.aload_n 0, 1) := by decide +kernel
theorem dX5_against_60 : decode cX5_against 60 = .ok (.getfield 13, 3) := by decide +kernel
theorem dX5_against_63 : decode cX5_against 63 = .ok (.iload_n 1, 1) := by decide +kernel
theorem dX5_against_64 : decode cX5_against 64 = .ok (.iaload, 1) := by decide +kernel
theorem dX5_against_65 : decode cX5_against 65 = .ok (.iload_n 3, 1) := by decide +kernel
theorem dX5_against_66 : decode cX5_against 66 = .ok (.isub, 1) := by decide +kernel
theorem dX5_against_67 : decode cX5_against 67 = .ok (.if_icmp .le 7, 3) := by decide +kernel
theorem dX5_against_70 : decode cX5_against 70 = .ok (.iconst 3, 1) := by decide +kernel
theorem dX5_against_71 : decode cX5_against 71 = .ok (.goto 4, 3) := by decide +kernel
theorem dX5_against_74 : decode cX5_against 74 = .ok (.iconst 0, 1) := by decide +kernel
theorem dX5_against_75 : decode cX5_against 75 = .ok (.ireturn, 1) := by decide +kernel
theorem dX5_isJuror_0 : decode cX5_isJuror 0 = .ok (.iload_n 1, 1) := by decide +kernel
theorem dX5_isJuror_1 : decode cX5_isJuror 1 = .ok (.ifCond .lt 15, 3) := by decide +kernel
theorem dX5_isJuror_4 : decode cX5_isJuror 4 = .ok (.iload_n 1, 1) := by decide +kernel
theorem dX5_isJuror_5 : decode cX5_isJuror 5 = .ok (.aload_n 0, 1) := by decide +kernel
theorem dX5_isJuror_6 : decode cX5_isJuror 6 = .ok (.getfield 78, 3) := by decide +kernel
theorem dX5_isJuror_9 : decode cX5_isJuror 9 = .ok (.if_icmp .ge 7, 3) := by decide +kernel
theorem dX5_isJuror_12 : decode cX5_isJuror 12 = .ok (.iconst 1, 1) := by decide +kernel
theorem dX5_isJuror_13 : decode cX5_isJuror 13 = .ok (.goto 4, 3) := by decide +kernel
theorem dX5_isJuror_16 : decode cX5_isJuror 16 = .ok (.iconst 0, 1) := by decide +kernel
theorem dX5_isJuror_17 : decode cX5_isJuror 17 = .ok (.ireturn, 1) := by decide +kernel
theorem dX5_isCase_0 : decode cX5_isCase 0 = .ok (.iload_n 1, 1) := by decide +kernel
theorem dX5_isCase_1 : decode cX5_isCase 1 = .ok (.ifCond .lt 15, 3) := by decide +kernel
theorem dX5_isCase_4 : decode cX5_isCase 4 = .ok (.iload_n 1, 1) := by decide +kernel
theorem dX5_isCase_5 : decode cX5_isCase 5 = .ok (.aload_n 0, 1) := by decide +kernel
theorem dX5_isCase_6 : decode cX5_isCase 6 = .ok (.getfield 81, 3) := by decide +kernel
theorem dX5_isCase_9 : decode cX5_isCase 9 = .ok (.if_icmp .ge 7, 3) := by decide +kernel
theorem dX5_isCase_12 : decode cX5_isCase 12 = .ok (.iconst 1, 1) := by decide +kernel
theorem dX5_isCase_13 : decode cX5_isCase 13 = .ok (.goto 4, 3) := by decide +kernel
theorem dX5_isCase_16 : decode cX5_isCase 16 = .ok (.iconst 0, 1) := by decide +kernel
theorem dX5_isCase_17 : decode cX5_isCase 17 = .ok (.ireturn, 1) := by decide +kernel
theorem dX5_digit_0 : decode cX5_digit 0 = .ok (.aload_n 0, 1) := by decide +kernel
theorem dX5_digit_1 : decode cX5_digit 1 = .ok (.getfield 84, 3) := by decide +kernel
theorem dX5_digit_4 : decode cX5_digit 4 = .ok (.iload_n 1, 1) := by decide +kernel
theorem dX5_digit_5 : decode cX5_digit 5 = .ok (.if_icmp .ge 26, 3) := by decide +kernel
theorem dX5_digit_8 : decode cX5_digit 8 = .ok (.aload_n 0, 1) := by decide +kernel
theorem dX5_digit_9 : decode cX5_digit 9 = .ok (.getfield 16, 3) := by decide +kernel
theorem dX5_digit_12 : decode cX5_digit 12 = .ok (.aload_n 0, 1) := by decide +kernel
theorem dX5_digit_13 : decode cX5_digit 13 = .ok (.getfield 84, 3) := by decide +kernel
theorem dX5_digit_16 : decode cX5_digit 16 = .ok (.iaload, 1) := by decide +kernel
theorem dX5_digit_17 : decode cX5_digit 17 = .ok (.bipush 48, 2) := by decide +kernel
theorem dX5_digit_19 : decode cX5_digit 19 = .ok (.iload_n 2, 1) := by decide +kernel
theorem dX5_digit_20 : decode cX5_digit 20 = .ok (.iadd, 1) := by decide +kernel
theorem dX5_digit_21 : decode cX5_digit 21 = .ok (.bipush 48, 2) := by decide +kernel
theorem dX5_digit_23 : decode cX5_digit 23 = .ok (.iload_n 3, 1) := by decide +kernel
theorem dX5_digit_24 : decode cX5_digit 24 = .ok (.iadd, 1) := by decide +kernel
theorem dX5_digit_25 : decode cX5_digit 25 = .ok (.invokestatic 74, 3) := by decide +kernel
theorem dX5_digit_28 : decode cX5_digit 28 = .ok (.ifCond .ne 6, 3) := by decide +kernel
theorem dX5_digit_31 : decode cX5_digit 31 = .ok (.bipush (-9), 2) := by decide +kernel
theorem dX5_digit_33 : decode cX5_digit 33 = .ok (.ireturn, 1) := by decide +kernel
theorem dX5_digit_34 : decode cX5_digit 34 = .ok (.aload_n 0, 1) := by decide +kernel
theorem dX5_digit_35 : decode cX5_digit 35 = .ok (.dup, 1) := by decide +kernel
theorem dX5_digit_36 : decode cX5_digit 36 = .ok (.getfield 84, 3) := by decide +kernel
theorem dX5_digit_39 : decode cX5_digit 39 = .ok (.iconst 1, 1) := by decide +kernel
theorem dX5_digit_40 : decode cX5_digit 40 = .ok (.iadd, 1) := by decide +kernel
theorem dX5_digit_41 : decode cX5_digit 41 = .ok (.putfield 84, 3) := by decide +kernel
theorem dX5_digit_44 : decode cX5_digit 44 = .ok (.aload_n 0, 1) := by decide +kernel
theorem dX5_digit_45 : decode cX5_digit 45 = .ok (.getfield 16, 3) := by decide +kernel
theorem dX5_digit_48 : decode cX5_digit 48 = .ok (.aload_n 0, 1) := by decide +kernel
theorem dX5_digit_49 : decode cX5_digit 49 = .ok (.getfield 84, 3) := by decide +kernel
theorem dX5_digit_52 : decode cX5_digit 52 = .ok (.iconst 1, 1) := by decide +kernel
theorem dX5_digit_53 : decode cX5_digit 53 = .ok (.isub, 1) := by decide +kernel
theorem dX5_digit_54 : decode cX5_digit 54 = .ok (.iaload, 1) := by decide +kernel
theorem dX5_digit_55 : decode cX5_digit 55 = .ok (.bipush 48, 2) := by decide +kernel
theorem dX5_digit_57 : decode cX5_digit 57 = .ok (.isub, 1) := by decide +kernel
theorem dX5_digit_58 : decode cX5_digit 58 = .ok (.ireturn, 1) := by decide +kernel
theorem dX5_isSign_0 : decode cX5_isSign 0 = .ok (.aload_n 0, 1) := by decide +kernel
theorem dX5_isSign_1 : decode cX5_isSign 1 = .ok (.getfield 84, 3) := by decide +kernel
theorem dX5_isSign_4 : decode cX5_isSign 4 = .ok (.iload_n 1, 1) := by decide +kernel
theorem dX5_isSign_5 : decode cX5_isSign 5 = .ok (.if_icmp .ge 16, 3) := by decide +kernel
theorem dX5_isSign_8 : decode cX5_isSign 8 = .ok (.aload_n 0, 1) := by decide +kernel
theorem dX5_isSign_9 : decode cX5_isSign 9 = .ok (.getfield 16, 3) := by decide +kernel
theorem dX5_isSign_12 : decode cX5_isSign 12 = .ok (.aload_n 0, 1) := by decide +kernel
theorem dX5_isSign_13 : decode cX5_isSign 13 = .ok (.getfield 84, 3) := by decide +kernel
theorem dX5_isSign_16 : decode cX5_isSign 16 = .ok (.iaload, 1) := by decide +kernel
theorem dX5_isSign_17 : decode cX5_isSign 17 = .ok (.iload_n 2, 1) := by decide +kernel
theorem dX5_isSign_18 : decode cX5_isSign 18 = .ok (.if_icmp .eq 5, 3) := by decide +kernel
theorem dX5_isSign_21 : decode cX5_isSign 21 = .ok (.iconst 0, 1) := by decide +kernel
theorem dX5_isSign_22 : decode cX5_isSign 22 = .ok (.ireturn, 1) := by decide +kernel
theorem dX5_isSign_23 : decode cX5_isSign 23 = .ok (.aload_n 0, 1) := by decide +kernel
theorem dX5_isSign_24 : decode cX5_isSign 24 = .ok (.dup, 1) := by decide +kernel
theorem dX5_isSign_25 : decode cX5_isSign 25 = .ok (.getfield 84, 3) := by decide +kernel
theorem dX5_isSign_28 : decode cX5_isSign 28 = .ok (.iconst 1, 1) := by decide +kernel
theorem dX5_isSign_29 : decode cX5_isSign 29 = .ok (.iadd, 1) := by decide +kernel
theorem dX5_isSign_30 : decode cX5_isSign 30 = .ok (.putfield 84, 3) := by decide +kernel
theorem dX5_isSign_33 : decode cX5_isSign 33 = .ok (.iconst 1, 1) := by decide +kernel
theorem dX5_isSign_34 : decode cX5_isSign 34 = .ok (.ireturn, 1) := by decide +kernel
theorem dX5_court_0 : decode cX5_court 0 = .ok (.aload_n 0, 1) := by decide +kernel
theorem dX5_court_1 : decode cX5_court 1 = .ok (.iconst 0, 1) := by decide +kernel
theorem dX5_court_2 : decode cX5_court 2 = .ok (.putfield 68, 3) := by decide +kernel
theorem dX5_court_5 : decode cX5_court 5 = .ok (.iload_n 1, 1) := by decide +kernel
theorem dX5_court_6 : decode cX5_court 6 = .ok (.invokestatic 87, 3) := by decide +kernel
theorem dX5_court_9 : decode cX5_court 9 = .ok (.ifCond .ne 5, 3) := by decide +kernel
theorem dX5_court_12 : decode cX5_court 12 = .ok (.iconst (-1), 1) := by decide +kernel
theorem dX5_court_13 : decode cX5_court 13 = .ok (.ireturn, 1) := by decide +kernel
theorem dX5_court_14 : decode cX5_court 14 = .ok (.iload_n 2, 1) := by decide +kernel
theorem dX5_court_15 : decode cX5_court 15 = .ok (.invokestatic 91, 3) := by decide +kernel
theorem dX5_court_18 : decode cX5_court 18 = .ok (.ifCond .ne 6, 3) := by decide +kernel
theorem dX5_court_21 : decode cX5_court 21 = .ok (.bipush (-2), 2) := by decide +kernel
theorem dX5_court_23 : decode cX5_court 23 = .ok (.ireturn, 1) := by decide +kernel
theorem dX5_court_24 : decode cX5_court 24 = .ok (.aload_n 0, 1) := by decide +kernel
theorem dX5_court_25 : decode cX5_court 25 = .ok (.iload_n 1, 1) := by decide +kernel
theorem dX5_court_26 : decode cX5_court 26 = .ok (.iload_n 2, 1) := by decide +kernel
theorem dX5_court_27 : decode cX5_court 27 = .ok (.iload_n 3, 1) := by decide +kernel
theorem dX5_court_28 : decode cX5_court 28 = .ok (.iload 4, 2) := by decide +kernel
theorem dX5_court_30 : decode cX5_court 30 = .ok (.invokevirtual 94, 3) := by decide +kernel
theorem dX5_court_33 : decode cX5_court 33 = .ok (.istore 5, 2) := by decide +kernel
theorem dX5_court_35 : decode cX5_court 35 = .ok (.iload 5, 2) := by decide +kernel
theorem dX5_court_37 : decode cX5_court 37 = .ok (.ifCond .eq 10, 3) := by decide +kernel
theorem dX5_court_40 : decode cX5_court 40 = .ok (.aload_n 0, 1) := by decide +kernel
theorem dX5_court_41 : decode cX5_court 41 = .ok (.iload 5, 2) := by decide +kernel
theorem dX5_court_43 : decode cX5_court 43 = .ok (.invokevirtual 98, 3) := by decide +kernel
theorem dX5_court_46 : decode cX5_court 46 = .ok (.ireturn, 1) := by decide +kernel
theorem dX5_court_47 : decode cX5_court 47 = .ok (.bipush 60, 2) := by decide +kernel
theorem dX5_court_49 : decode cX5_court 49 = .ok (.iload_n 1, 1) := by decide +kernel
theorem dX5_court_50 : decode cX5_court 50 = .ok (.imul, 1) := by decide +kernel
theorem dX5_court_51 : decode cX5_court 51 = .ok (.iload_n 3, 1) := by decide +kernel
theorem dX5_court_52 : decode cX5_court 52 = .ok (.iadd, 1) := by decide +kernel
theorem dX5_court_53 : decode cX5_court 53 = .ok (.istore 6, 2) := by decide +kernel
theorem dX5_court_55 : decode cX5_court 55 = .ok (.aload_n 0, 1) := by decide +kernel
theorem dX5_court_56 : decode cX5_court 56 = .ok (.iload 6, 2) := by decide +kernel
theorem dX5_court_58 : decode cX5_court 58 = .ok (.putfield 84, 3) := by decide +kernel
theorem dX5_court_61 : decode cX5_court 61 = .ok (.aload_n 0, 1) := by decide +kernel
theorem dX5_court_62 : decode cX5_court 62 = .ok (.iload 6, 2) := by decide +kernel
theorem dX5_court_64 : decode cX5_court 64 = .ok (.iload 4, 2) := by decide +kernel
theorem dX5_court_66 : decode cX5_court 66 = .ok (.iadd, 1) := by decide +kernel
theorem dX5_court_67 : decode cX5_court 67 = .ok (.invokevirtual 102, 3) := by decide +kernel
theorem dX5_court_70 : decode cX5_court 70 = .ok (.ifCond .ne 14, 3) := by decide +kernel
theorem dX5_court_73 : decode cX5_court 73 = .ok (.bipush (-100), 2) := by decide +kernel
theorem dX5_court_75 : decode cX5_court 75 = .ok (.aload_n 0, 1) := by decide +kernel
theorem dX5_court_76 : decode cX5_court 76 = .ok (.getfield 84, 3) := by decide +kernel
theorem dX5_court_79 : decode cX5_court 79 = .ok (.iload 6, 2) := by decide +kernel
theorem dX5_court_81 : decode cX5_court 81 = .ok (.isub, 1) := by decide +kernel
theorem dX5_court_82 : decode cX5_court 82 = .ok (.isub, 1) := by decide +kernel
theorem dX5_court_83 : decode cX5_court 83 = .ok (.ireturn, 1) := by decide +kernel
end
section
theorem dX5_court_84 : decode cX5_court 84 = .ok (.aload_n 0, 1) := by decide +kernel
theorem dX5_court_85 : decode cX5_court 85 = .ok (.aload_n 0, 1) := by decide +kernel
theorem dX5_court_86 : decode cX5_court 86 = .ok (.getfield 105, 3) := by decide +kernel
theorem dX5_court_89 : decode cX5_court 89 = .ok (.putfield 108, 3) := by decide +kernel
theorem dX5_court_92 : decode cX5_court 92 = .ok (.aload_n 0, 1) := by decide +kernel
theorem dX5_court_93 : decode cX5_court 93 = .ok (.aload_n 0, 1) := by decide +kernel
theorem dX5_court_94 : decode cX5_court 94 = .ok (.getfield 111, 3) := by decide +kernel
theorem dX5_court_97 : decode cX5_court 97 = .ok (.putfield 78, 3) := by decide +kernel
theorem dX5_court_100 : decode cX5_court 100 = .ok (.aload_n 0, 1) := by decide +kernel
theorem dX5_court_101 : decode cX5_court 101 = .ok (.aload_n 0, 1) := by decide +kernel
theorem dX5_court_102 : decode cX5_court 102 = .ok (.getfield 114, 3) := by decide +kernel
theorem dX5_court_105 : decode cX5_court 105 = .ok (.putfield 81, 3) := by decide +kernel
theorem dX5_court_108 : decode cX5_court 108 = .ok (.iconst 0, 1) := by decide +kernel
theorem dX5_court_109 : decode cX5_court 109 = .ok (.istore 7, 2) := by decide +kernel
theorem dX5_court_111 : decode cX5_court 111 = .ok (.iload 7, 2) := by decide +kernel
theorem dX5_court_113 : decode cX5_court 113 = .ok (.aload_n 0, 1) := by decide +kernel
theorem dX5_court_114 : decode cX5_court 114 = .ok (.getfield 78, 3) := by decide +kernel
theorem dX5_court_117 : decode cX5_court 117 = .ok (.if_icmp .ge 59, 3) := by decide +kernel
theorem dX5_court_120 : decode cX5_court 120 = .ok (.aload_n 0, 1) := by decide +kernel
theorem dX5_court_121 : decode cX5_court 121 = .ok (.getfield 19, 3) := by decide +kernel
theorem dX5_court_124 : decode cX5_court 124 = .ok (.iload 7, 2) := by decide +kernel
theorem dX5_court_126 : decode cX5_court 126 = .ok (.aload_n 0, 1) := by decide +kernel
theorem dX5_court_127 : decode cX5_court 127 = .ok (.getfield 41, 3) := by decide +kernel
theorem dX5_court_130 : decode cX5_court 130 = .ok (.iconst 2, 1) := by decide +kernel
theorem dX5_court_131 : decode cX5_court 131 = .ok (.iload 7, 2) := by decide +kernel
theorem dX5_court_133 : decode cX5_court 133 = .ok (.imul, 1) := by decide +kernel
theorem dX5_court_134 : decode cX5_court 134 = .ok (.iaload, 1) := by decide +kernel
theorem dX5_court_135 : decode cX5_court 135 = .ok (.iastore, 1) := by decide +kernel
theorem dX5_court_136 : decode cX5_court 136 = .ok (.aload_n 0, 1) := by decide +kernel
theorem dX5_court_137 : decode cX5_court 137 = .ok (.getfield 22, 3) := by decide +kernel
theorem dX5_court_140 : decode cX5_court 140 = .ok (.iload 7, 2) := by decide +kernel
theorem dX5_court_142 : decode cX5_court 142 = .ok (.aload_n 0, 1) := by decide +kernel
theorem dX5_court_143 : decode cX5_court 143 = .ok (.getfield 41, 3) := by decide +kernel
theorem dX5_court_146 : decode cX5_court 146 = .ok (.iconst 2, 1) := by decide +kernel
theorem dX5_court_147 : decode cX5_court 147 = .ok (.iload 7, 2) := by decide +kernel
theorem dX5_court_149 : decode cX5_court 149 = .ok (.imul, 1) := by decide +kernel
theorem dX5_court_150 : decode cX5_court 150 = .ok (.iconst 1, 1) := by decide +kernel
theorem dX5_court_151 : decode cX5_court 151 = .ok (.iadd, 1) := by decide +kernel
theorem dX5_court_152 : decode cX5_court 152 = .ok (.iaload, 1) := by decide +kernel
theorem dX5_court_153 : decode cX5_court 153 = .ok (.iastore, 1) := by decide +kernel
theorem dX5_court_154 : decode cX5_court 154 = .ok (.aload_n 0, 1) := by decide +kernel
theorem dX5_court_155 : decode cX5_court 155 = .ok (.getfield 25, 3) := by decide +kernel
theorem dX5_court_158 : decode cX5_court 158 = .ok (.iload 7, 2) := by decide +kernel
theorem dX5_court_160 : decode cX5_court 160 = .ok (.iconst 0, 1) := by decide +kernel
theorem dX5_court_161 : decode cX5_court 161 = .ok (.bastore, 1) := by decide +kernel
theorem dX5_court_162 : decode cX5_court 162 = .ok (.aload_n 0, 1) := by decide +kernel
theorem dX5_court_163 : decode cX5_court 163 = .ok (.getfield 29, 3) := by decide +kernel
theorem dX5_court_166 : decode cX5_court 166 = .ok (.iload 7, 2) := by decide +kernel
theorem dX5_court_168 : decode cX5_court 168 = .ok (.iconst 0, 1) := by decide +kernel
theorem dX5_court_169 : decode cX5_court 169 = .ok (.bastore, 1) := by decide +kernel
theorem dX5_court_170 : decode cX5_court 170 = .ok (.iinc 7 1, 3) := by decide +kernel
theorem dX5_court_173 : decode cX5_court 173 = .ok (.goto (-62), 3) := by decide +kernel
theorem dX5_court_176 : decode cX5_court 176 = .ok (.iconst 0, 1) := by decide +kernel
theorem dX5_court_177 : decode cX5_court 177 = .ok (.istore 7, 2) := by decide +kernel
theorem dX5_court_179 : decode cX5_court 179 = .ok (.iload 7, 2) := by decide +kernel
theorem dX5_court_181 : decode cX5_court 181 = .ok (.aload_n 0, 1) := by decide +kernel
theorem dX5_court_182 : decode cX5_court 182 = .ok (.getfield 81, 3) := by decide +kernel
theorem dX5_court_185 : decode cX5_court 185 = .ok (.if_icmp .ge 61, 3) := by decide +kernel
theorem dX5_court_188 : decode cX5_court 188 = .ok (.aload_n 0, 1) := by decide +kernel
theorem dX5_court_189 : decode cX5_court 189 = .ok (.getfield 32, 3) := by decide +kernel
theorem dX5_court_192 : decode cX5_court 192 = .ok (.iload 7, 2) := by decide +kernel
theorem dX5_court_194 : decode cX5_court 194 = .ok (.aload_n 0, 1) := by decide +kernel
theorem dX5_court_195 : decode cX5_court 195 = .ok (.getfield 44, 3) := by decide +kernel
theorem dX5_court_198 : decode cX5_court 198 = .ok (.iconst 3, 1) := by decide +kernel
theorem dX5_court_199 : decode cX5_court 199 = .ok (.iload 7, 2) := by decide +kernel
theorem dX5_court_201 : decode cX5_court 201 = .ok (.imul, 1) := by decide +kernel
theorem dX5_court_202 : decode cX5_court 202 = .ok (.iaload, 1) := by decide +kernel
theorem dX5_court_203 : decode cX5_court 203 = .ok (.iastore, 1) := by decide +kernel
theorem dX5_court_204 : decode cX5_court 204 = .ok (.aload_n 0, 1) := by decide +kernel
theorem dX5_court_205 : decode cX5_court 205 = .ok (.getfield 35, 3) := by decide +kernel
theorem dX5_court_208 : decode cX5_court 208 = .ok (.iload 7, 2) := by decide +kernel
theorem dX5_court_210 : decode cX5_court 210 = .ok (.aload_n 0, 1) := by decide +kernel
theorem dX5_court_211 : decode cX5_court 211 = .ok (.getfield 44, 3) := by decide +kernel
theorem dX5_court_214 : decode cX5_court 214 = .ok (.iconst 3, 1) := by decide +kernel
theorem dX5_court_215 : decode cX5_court 215 = .ok (.iload 7, 2) := by decide +kernel
theorem dX5_court_217 : decode cX5_court 217 = .ok (.imul, 1) := by decide +kernel
theorem dX5_court_218 : decode cX5_court 218 = .ok (.iconst 1, 1) := by decide +kernel
theorem dX5_court_219 : decode cX5_court 219 = .ok (.iadd, 1) := by decide +kernel
theorem dX5_court_220 : decode cX5_court 220 = .ok (.iaload, 1) := by decide +kernel
theorem dX5_court_221 : decode cX5_court 221 = .ok (.iastore, 1) := by decide +kernel
theorem dX5_court_222 : decode cX5_court 222 = .ok (.aload_n 0, 1) := by decide +kernel
theorem dX5_court_223 : decode cX5_court 223 = .ok (.getfield 38, 3) := by decide +kernel
theorem dX5_court_226 : decode cX5_court 226 = .ok (.iload 7, 2) := by decide +kernel
theorem dX5_court_228 : decode cX5_court 228 = .ok (.aload_n 0, 1) := by decide +kernel
theorem dX5_court_229 : decode cX5_court 229 = .ok (.getfield 44, 3) := by decide +kernel
theorem dX5_court_232 : decode cX5_court 232 = .ok (.iconst 3, 1) := by decide +kernel
theorem dX5_court_233 : decode cX5_court 233 = .ok (.iload 7, 2) := by decide +kernel
theorem dX5_court_235 : decode cX5_court 235 = .ok (.imul, 1) := by decide +kernel
theorem dX5_court_236 : decode cX5_court 236 = .ok (.iconst 2, 1) := by decide +kernel
theorem dX5_court_237 : decode cX5_court 237 = .ok (.iadd, 1) := by decide +kernel
theorem dX5_court_238 : decode cX5_court 238 = .ok (.iaload, 1) := by decide +kernel
theorem dX5_court_239 : decode cX5_court 239 = .ok (.iastore, 1) := by decide +kernel
theorem dX5_court_240 : decode cX5_court 240 = .ok (.iinc 7 1, 3) := by decide +kernel
theorem dX5_court_243 : decode cX5_court 243 = .ok (.goto (-64), 3) := by decide +kernel
theorem dX5_court_246 : decode cX5_court 246 = .ok (.aload_n 0, 1) := by decide +kernel
theorem dX5_court_247 : decode cX5_court 247 = .ok (.iconst 0, 1) := by decide +kernel
theorem dX5_court_248 : decode cX5_court 248 = .ok (.putfield 117, 3) := by decide +kernel
theorem dX5_court_251 : decode cX5_court 251 = .ok (.aload_n 0, 1) := by decide +kernel
theorem dX5_court_252 : decode cX5_court 252 = .ok (.iconst 0, 1) := by decide +kernel
theorem dX5_court_253 : decode cX5_court 253 = .ok (.putfield 120, 3) := by decide +kernel
theorem dX5_court_256 : decode cX5_court 256 = .ok (.aload_n 0, 1) := by decide +kernel
theorem dX5_court_257 : decode cX5_court 257 = .ok (.getfield 81, 3) := by decide +kernel
theorem dX5_court_260 : decode cX5_court 260 = .ok (.ireturn, 1) := by decide +kernel
theorem dX5_readCourt_0 : decode cX5_readCourt 0 = .ok (.aload_n 0, 1) := by decide +kernel
theorem dX5_readCourt_1 : decode cX5_readCourt 1 = .ok (.iconst 0, 1) := by decide +kernel
theorem dX5_readCourt_2 : decode cX5_readCourt 2 = .ok (.putfield 111, 3) := by decide +kernel
theorem dX5_readCourt_5 : decode cX5_readCourt 5 = .ok (.aload_n 0, 1) := by decide +kernel
theorem dX5_readCourt_6 : decode cX5_readCourt 6 = .ok (.iconst 0, 1) := by decide +kernel
theorem dX5_readCourt_7 : decode cX5_readCourt 7 = .ok (.putfield 114, 3) := by decide +kernel
theorem dX5_readCourt_10 : decode cX5_readCourt 10 = .ok (.aload_n 0, 1) := by decide +kernel
theorem dX5_readCourt_11 : decode cX5_readCourt 11 = .ok (.iload_n 1, 1) := by decide +kernel
theorem dX5_readCourt_12 : decode cX5_readCourt 12 = .ok (.bipush 107, 2) := by decide +kernel
theorem dX5_readCourt_14 : decode cX5_readCourt 14 = .ok (.invokevirtual 123, 3) := by decide +kernel
theorem dX5_readCourt_17 : decode cX5_readCourt 17 = .ok (.ifCond .eq 29, 3) := by decide +kernel
theorem dX5_readCourt_20 : decode cX5_readCourt 20 = .ok (.aload_n 0, 1) := by decide +kernel
theorem dX5_readCourt_21 : decode cX5_readCourt 21 = .ok (.iload_n 1, 1) := by decide +kernel
theorem dX5_readCourt_22 : decode cX5_readCourt 22 = .ok (.invokevirtual 127, 3) := by decide +kernel
theorem dX5_readCourt_25 : decode cX5_readCourt 25 = .ok (.ifCond .eq 21, 3) := by decide +kernel
theorem dX5_readCourt_28 : decode cX5_readCourt 28 = .ok (.aload_n 0, 1) := by decide +kernel
theorem dX5_readCourt_29 : decode cX5_readCourt 29 = .ok (.iload_n 1, 1) := by decide +kernel
theorem dX5_readCourt_30 : decode cX5_readCourt 30 = .ok (.bipush 44, 2) := by decide +kernel
theorem dX5_readCourt_32 : decode cX5_readCourt 32 = .ok (.invokevirtual 123, 3) := by decide +kernel
theorem dX5_readCourt_35 : decode cX5_readCourt 35 = .ok (.ifCond .eq 11, 3) := by decide +kernel
theorem dX5_readCourt_38 : decode cX5_readCourt 38 = .ok (.aload_n 0, 1) := by decide +kernel
theorem dX5_readCourt_39 : decode cX5_readCourt 39 = .ok (.iload_n 1, 1) := by decide +kernel
theorem dX5_readCourt_40 : decode cX5_readCourt 40 = .ok (.invokevirtual 130, 3) := by decide +kernel
theorem dX5_readCourt_43 : decode cX5_readCourt 43 = .ok (.ifCond .ne 5, 3) := by decide +kernel
theorem dX5_readCourt_46 : decode cX5_readCourt 46 = .ok (.iconst 0, 1) := by decide +kernel
theorem dX5_readCourt_47 : decode cX5_readCourt 47 = .ok (.ireturn, 1) := by decide +kernel
theorem dX5_readCourt_48 : decode cX5_readCourt 48 = .ok (.aload_n 0, 1) := by decide +kernel
theorem dX5_readCourt_49 : decode cX5_readCourt 49 = .ok (.getfield 111, 3) := by decide +kernel
theorem dX5_readCourt_52 : decode cX5_readCourt 52 = .ok (.iconst 5, 1) := by decide +kernel
theorem dX5_readCourt_53 : decode cX5_readCourt 53 = .ok (.if_icmp .ge 23, 3) := by decide +kernel
theorem dX5_readCourt_56 : decode cX5_readCourt 56 = .ok (.aload_n 0, 1) := by decide +kernel
theorem dX5_readCourt_57 : decode cX5_readCourt 57 = .ok (.iload_n 1, 1) := by decide +kernel
theorem dX5_readCourt_58 : decode cX5_readCourt 58 = .ok (.bipush 44, 2) := by decide +kernel
theorem dX5_readCourt_60 : decode cX5_readCourt 60 = .ok (.invokevirtual 123, 3) := by decide +kernel
theorem dX5_readCourt_63 : decode cX5_readCourt 63 = .ok (.ifCond .eq 13, 3) := by decide +kernel
theorem dX5_readCourt_66 : decode cX5_readCourt 66 = .ok (.aload_n 0, 1) := by decide +kernel
theorem dX5_readCourt_67 : decode cX5_readCourt 67 = .ok (.iload_n 1, 1) := by decide +kernel
theorem dX5_readCourt_68 : decode cX5_readCourt 68 = .ok (.invokevirtual 130, 3) := by decide +kernel
theorem dX5_readCourt_71 : decode cX5_readCourt 71 = .ok (.ifCond .ne (-23), 3) := by decide +kernel
theorem dX5_readCourt_74 : decode cX5_readCourt 74 = .ok (.iconst 0, 1) := by decide +kernel
theorem dX5_readCourt_75 : decode cX5_readCourt 75 = .ok (.ireturn, 1) := by decide +kernel
theorem dX5_readCourt_76 : decode cX5_readCourt 76 = .ok (.aload_n 0, 1) := by decide +kernel
theorem dX5_readCourt_77 : decode cX5_readCourt 77 = .ok (.iload_n 1, 1) := by decide +kernel
theorem dX5_readCourt_78 : decode cX5_readCourt 78 = .ok (.bipush 59, 2) := by decide +kernel
theorem dX5_readCourt_80 : decode cX5_readCourt 80 = .ok (.invokevirtual 123, 3) := by decide +kernel
theorem dX5_readCourt_83 : decode cX5_readCourt 83 = .ok (.ifCond .eq 11, 3) := by decide +kernel
theorem dX5_readCourt_86 : decode cX5_readCourt 86 = .ok (.aload_n 0, 1) := by decide +kernel
theorem dX5_readCourt_87 : decode cX5_readCourt 87 = .ok (.iload_n 1, 1) := by decide +kernel
theorem dX5_readCourt_88 : decode cX5_readCourt 88 = .ok (.invokevirtual 133, 3) := by decide +kernel
theorem dX5_readCourt_91 : decode cX5_readCourt 91 = .ok (.ifCond .ne 5, 3) := by decide +kernel
theorem dX5_readCourt_94 : decode cX5_readCourt 94 = .ok (.iconst 0, 1) := by decide +kernel
theorem dX5_readCourt_95 : decode cX5_readCourt 95 = .ok (.ireturn, 1) := by decide +kernel
theorem dX5_readCourt_96 : decode cX5_readCourt 96 = .ok (.aload_n 0, 1) := by decide +kernel
theorem dX5_readCourt_97 : decode cX5_readCourt 97 = .ok (.getfield 114, 3) := by decide +kernel
theorem dX5_readCourt_100 : decode cX5_readCourt 100 = .ok (.iconst 5, 1) := by decide +kernel
theorem dX5_readCourt_101 : decode cX5_readCourt 101 = .ok (.if_icmp .ge 23, 3) := by decide +kernel
theorem dX5_readCourt_104 : decode cX5_readCourt 104 = .ok (.aload_n 0, 1) := by decide +kernel
theorem dX5_readCourt_105 : decode cX5_readCourt 105 = .ok (.iload_n 1, 1) := by decide +kernel
theorem dX5_readCourt_106 : decode cX5_readCourt 106 = .ok (.bipush 59, 2) := by decide +kernel
theorem dX5_readCourt_108 : decode cX5_readCourt 108 = .ok (.invokevirtual 123, 3) := by decide +kernel
theorem dX5_readCourt_111 : decode cX5_readCourt 111 = .ok (.ifCond .eq 13, 3) := by decide +kernel
theorem dX5_readCourt_114 : decode cX5_readCourt 114 = .ok (.aload_n 0, 1) := by decide +kernel
theorem dX5_readCourt_115 : decode cX5_readCourt 115 = .ok (.iload_n 1, 1) := by decide +kernel
theorem dX5_readCourt_116 : decode cX5_readCourt 116 = .ok (.invokevirtual 133, 3) := by decide +kernel
theorem dX5_readCourt_119 : decode cX5_readCourt 119 = .ok (.ifCond .ne (-23), 3) := by decide +kernel
theorem dX5_readCourt_122 : decode cX5_readCourt 122 = .ok (.iconst 0, 1) := by decide +kernel
theorem dX5_readCourt_123 : decode cX5_readCourt 123 = .ok (.ireturn, 1) := by decide +kernel
theorem dX5_readCourt_124 : decode cX5_readCourt 124 = .ok (.aload_n 0, 1) := by decide +kernel
theorem dX5_readCourt_125 : decode cX5_readCourt 125 = .ok (.getfield 84, 3) := by decide +kernel
theorem dX5_readCourt_128 : decode cX5_readCourt 128 = .ok (.iload_n 1, 1) := by decide +kernel
theorem dX5_readCourt_129 : decode cX5_readCourt 129 = .ok (.if_icmp .ne 7, 3) := by decide +kernel
theorem dX5_readCourt_132 : decode cX5_readCourt 132 = .ok (.iconst 1, 1) := by decide +kernel
theorem dX5_readCourt_133 : decode cX5_readCourt 133 = .ok (.goto 4, 3) := by decide +kernel
theorem dX5_readCourt_136 : decode cX5_readCourt 136 = .ok (.iconst 0, 1) := by decide +kernel
theorem dX5_readCourt_137 : decode cX5_readCourt 137 = .ok (.ireturn, 1) := by decide +kernel
theorem dX5_readTheMinutes_0 : decode cX5_readTheMinutes 0 = .ok (.aload_n 0, 1) := by decide +kernel
theorem dX5_readTheMinutes_1 : decode cX5_readTheMinutes 1 = .ok (.iload_n 1, 1) := by decide +kernel
theorem dX5_readTheMinutes_2 : decode cX5_readTheMinutes 2 = .ok (.iconst 0, 1) := by decide +kernel
theorem dX5_readTheMinutes_3 : decode cX5_readTheMinutes 3 = .ok (.bipush 6, 2) := by decide +kernel
theorem dX5_readTheMinutes_5 : decode cX5_readTheMinutes 5 = .ok (.invokevirtual 136, 3) := by decide +kernel
theorem dX5_readTheMinutes_8 : decode cX5_readTheMinutes 8 = .ok (.istore_n 2, 1) := by decide +kernel
theorem dX5_readTheMinutes_9 : decode cX5_readTheMinutes 9 = .ok (.iload_n 2, 1) := by decide +kernel
theorem dX5_readTheMinutes_10 : decode cX5_readTheMinutes 10 = .ok (.bipush (-9), 2) := by decide +kernel
theorem dX5_readTheMinutes_12 : decode cX5_readTheMinutes 12 = .ok (.if_icmp .ne 5, 3) := by decide +kernel
theorem dX5_readTheMinutes_15 : decode cX5_readTheMinutes 15 = .ok (.iconst 0, 1) := by decide +kernel
theorem dX5_readTheMinutes_16 : decode cX5_readTheMinutes 16 = .ok (.ireturn, 1) := by decide +kernel
theorem dX5_readTheMinutes_17 : decode cX5_readTheMinutes 17 = .ok (.aload_n 0, 1) := by decide +kernel
theorem dX5_readTheMinutes_18 : decode cX5_readTheMinutes 18 = .ok (.iload_n 1, 1) := by decide +kernel
theorem dX5_readTheMinutes_19 : decode cX5_readTheMinutes 19 = .ok (.iload_n 2, 1) := by decide +kernel
theorem dX5_readTheMinutes_20 : decode cX5_readTheMinutes 20 = .ok (.ifCond .ne 7, 3) := by decide +kernel
theorem dX5_readTheMinutes_23 : decode cX5_readTheMinutes 23 = .ok (.iconst 5, 1) := by decide +kernel
theorem dX5_readTheMinutes_24 : decode cX5_readTheMinutes 24 = .ok (.goto 4, 3) := by decide +kernel
theorem dX5_readTheMinutes_27 : decode cX5_readTheMinutes 27 = .ok (.iconst 0, 1) := by decide +kernel
theorem dX5_readTheMinutes_28 : decode cX5_readTheMinutes 28 = .ok (.iload_n 2, 1) := by decide +kernel
theorem dX5_readTheMinutes_29 : decode cX5_readTheMinutes 29 = .ok (.bipush 6, 2) := by decide +kernel
theorem dX5_readTheMinutes_31 : decode cX5_readTheMinutes 31 = .ok (.if_icmp .ne 7, 3) := by decide +kernel
theorem dX5_readTheMinutes_34 : decode cX5_readTheMinutes 34 = .ok (.iconst 0, 1) := by decide +kernel
theorem dX5_readTheMinutes_35 : decode cX5_readTheMinutes 35 = .ok (.goto 5, 3) := by decide +kernel
theorem dX5_readTheMinutes_38 : decode cX5_readTheMinutes 38 = .ok (.bipush 9, 2) := by decide +kernel
theorem dX5_readTheMinutes_40 : decode cX5_readTheMinutes 40 = .ok (.invokevirtual 136, 3) := by decide +kernel
theorem dX5_readTheMinutes_43 : decode cX5_readTheMinutes 43 = .ok (.istore_n 3, 1) := by decide +kernel
theorem dX5_readTheMinutes_44 : decode cX5_readTheMinutes 44 = .ok (.aload_n 0, 1) := by decide +kernel
theorem dX5_readTheMinutes_45 : decode cX5_readTheMinutes 45 = .ok (.bipush 10, 2) := by decide +kernel
theorem dX5_readTheMinutes_47 : decode cX5_readTheMinutes 47 = .ok (.iload_n 2, 1) := by decide +kernel
theorem dX5_readTheMinutes_48 : decode cX5_readTheMinutes 48 = .ok (.imul, 1) := by decide +kernel
theorem dX5_readTheMinutes_49 : decode cX5_readTheMinutes 49 = .ok (.iload_n 3, 1) := by decide +kernel
theorem dX5_readTheMinutes_50 : decode cX5_readTheMinutes 50 = .ok (.iadd, 1) := by decide +kernel
theorem dX5_readTheMinutes_51 : decode cX5_readTheMinutes 51 = .ok (.putfield 105, 3) := by decide +kernel
theorem dX5_readTheMinutes_54 : decode cX5_readTheMinutes 54 = .ok (.iload_n 3, 1) := by decide +kernel
theorem dX5_readTheMinutes_55 : decode cX5_readTheMinutes 55 = .ok (.bipush (-9), 2) := by decide +kernel
theorem dX5_readTheMinutes_57 : decode cX5_readTheMinutes 57 = .ok (.if_icmp .eq 7, 3) := by decide +kernel
theorem dX5_readTheMinutes_60 : decode cX5_readTheMinutes 60 = .ok (.iconst 1, 1) := by decide +kernel
theorem dX5_readTheMinutes_61 : decode cX5_readTheMinutes 61 = .ok (.goto 4, 3) := by decide +kernel
theorem dX5_readTheMinutes_64 : decode cX5_readTheMinutes 64 = .ok (.iconst 0, 1) := by decide +kernel
theorem dX5_readTheMinutes_65 : decode cX5_readTheMinutes 65 = .ok (.ireturn, 1) := by decide +kernel
theorem dX5_readOneJuror_0 : decode cX5_readOneJuror 0 = .ok (.iconst 2, 1) := by decide +kernel
theorem dX5_readOneJuror_1 : decode cX5_readOneJuror 1 = .ok (.aload_n 0, 1) := by decide +kernel
theorem dX5_readOneJuror_2 : decode cX5_readOneJuror 2 = .ok (.getfield 111, 3) := by decide +kernel
theorem dX5_readOneJuror_5 : decode cX5_readOneJuror 5 = .ok (.imul, 1) := by decide +kernel
theorem dX5_readOneJuror_6 : decode cX5_readOneJuror 6 = .ok (.istore_n 2, 1) := by decide +kernel
theorem dX5_readOneJuror_7 : decode cX5_readOneJuror 7 = .ok (.aload_n 0, 1) := by decide +kernel
theorem dX5_readOneJuror_8 : decode cX5_readOneJuror 8 = .ok (.getfield 84, 3) := by decide +kernel
theorem dX5_readOneJuror_11 : decode cX5_readOneJuror 11 = .ok (.iload_n 1, 1) := by decide +kernel
theorem dX5_readOneJuror_12 : decode cX5_readOneJuror 12 = .ok (.if_icmp .ge 15, 3) := by decide +kernel
theorem dX5_readOneJuror_15 : decode cX5_readOneJuror 15 = .ok (.aload_n 0, 1) := by decide +kernel
theorem dX5_readOneJuror_16 : decode cX5_readOneJuror 16 = .ok (.getfield 16, 3) := by decide +kernel
theorem dX5_readOneJuror_19 : decode cX5_readOneJuror 19 = .ok (.aload_n 0, 1) := by decide +kernel
theorem dX5_readOneJuror_20 : decode cX5_readOneJuror 20 = .ok (.getfield 84, 3) := by decide +kernel
theorem dX5_readOneJuror_23 : decode cX5_readOneJuror 23 = .ok (.iaload, 1) := by decide +kernel
theorem dX5_readOneJuror_24 : decode cX5_readOneJuror 24 = .ok (.goto 4, 3) := by decide +kernel
theorem dX5_readOneJuror_27 : decode cX5_readOneJuror 27 = .ok (.iconst 0, 1) := by decide +kernel
theorem dX5_readOneJuror_28 : decode cX5_readOneJuror 28 = .ok (.istore_n 3, 1) := by decide +kernel
theorem dX5_readOneJuror_29 : decode cX5_readOneJuror 29 = .ok (.aload_n 0, 1) := by decide +kernel
theorem dX5_readOneJuror_30 : decode cX5_readOneJuror 30 = .ok (.getfield 41, 3) := by decide +kernel
theorem dX5_readOneJuror_33 : decode cX5_readOneJuror 33 = .ok (.iload_n 2, 1) := by decide +kernel
theorem dX5_readOneJuror_34 : decode cX5_readOneJuror 34 = .ok (.iload_n 3, 1) := by decide +kernel
theorem dX5_readOneJuror_35 : decode cX5_readOneJuror 35 = .ok (.bipush 99, 2) := by decide +kernel
theorem dX5_readOneJuror_37 : decode cX5_readOneJuror 37 = .ok (.if_icmp .ne 7, 3) := by decide +kernel
theorem dX5_readOneJuror_40 : decode cX5_readOneJuror 40 = .ok (.iconst 0, 1) := by decide +kernel
theorem dX5_readOneJuror_41 : decode cX5_readOneJuror 41 = .ok (.goto 25, 3) := by decide +kernel
theorem dX5_readOneJuror_44 : decode cX5_readOneJuror 44 = .ok (.iload_n 3, 1) := by decide +kernel
theorem dX5_readOneJuror_45 : decode cX5_readOneJuror 45 = .ok (.bipush 104, 2) := by decide +kernel
theorem dX5_readOneJuror_47 : decode cX5_readOneJuror 47 = .ok (.if_icmp .ne 7, 3) := by decide +kernel
theorem dX5_readOneJuror_50 : decode cX5_readOneJuror 50 = .ok (.iconst 1, 1) := by decide +kernel
theorem dX5_readOneJuror_51 : decode cX5_readOneJuror 51 = .ok (.goto 15, 3) := by decide +kernel
theorem dX5_readOneJuror_54 : decode cX5_readOneJuror 54 = .ok (.iload_n 3, 1) := by decide +kernel
theorem dX5_readOneJuror_55 : decode cX5_readOneJuror 55 = .ok (.bipush 115, 2) := by decide +kernel
theorem dX5_readOneJuror_57 : decode cX5_readOneJuror 57 = .ok (.if_icmp .ne 7, 3) := by decide +kernel
theorem dX5_readOneJuror_60 : decode cX5_readOneJuror 60 = .ok (.iconst 2, 1) := by decide +kernel
theorem dX5_readOneJuror_61 : decode cX5_readOneJuror 61 = .ok (.goto 5, 3) := by decide +kernel
theorem dX5_readOneJuror_64 : decode cX5_readOneJuror 64 = .ok (.bipush (-9), 2) := by decide +kernel
theorem dX5_readOneJuror_66 : decode cX5_readOneJuror 66 = .ok (.iastore, 1) := by decide +kernel
theorem dX5_readOneJuror_67 : decode cX5_readOneJuror 67 = .ok (.aload_n 0, 1) := by decide +kernel
theorem dX5_readOneJuror_68 : decode cX5_readOneJuror 68 = .ok (.getfield 41, 3) := by decide +kernel
theorem dX5_readOneJuror_71 : decode cX5_readOneJuror 71 = .ok (.iload_n 2, 1) := by decide +kernel
theorem dX5_readOneJuror_72 : decode cX5_readOneJuror 72 = .ok (.iaload, 1) := by decide +kernel
theorem dX5_readOneJuror_73 : decode cX5_readOneJuror 73 = .ok (.bipush (-9), 2) := by decide +kernel
theorem dX5_readOneJuror_75 : decode cX5_readOneJuror 75 = .ok (.if_icmp .ne 5, 3) := by decide +kernel
theorem dX5_readOneJuror_78 : decode cX5_readOneJuror 78 = .ok (.iconst 0, 1) := by decide +kernel
theorem dX5_readOneJuror_79 : decode cX5_readOneJuror 79 = .ok (.ireturn, 1) := by decide +kernel
theorem dX5_readOneJuror_80 : decode cX5_readOneJuror 80 = .ok (.aload_n 0, 1) := by decide +kernel
theorem dX5_readOneJuror_81 : decode cX5_readOneJuror 81 = .ok (.dup, 1) := by decide +kernel
theorem dX5_readOneJuror_82 : decode cX5_readOneJuror 82 = .ok (.getfield 84, 3) := by decide +kernel
theorem dX5_readOneJuror_85 : decode cX5_readOneJuror 85 = .ok (.iconst 1, 1) := by decide +kernel
theorem dX5_readOneJuror_86 : decode cX5_readOneJuror 86 = .ok (.iadd, 1) := by decide +kernel
theorem dX5_readOneJuror_87 : decode cX5_readOneJuror 87 = .ok (.putfield 84, 3) := by decide +kernel
theorem dX5_readOneJuror_90 : decode cX5_readOneJuror 90 = .ok (.aload_n 0, 1) := by decide +kernel
theorem dX5_readOneJuror_91 : decode cX5_readOneJuror 91 = .ok (.getfield 41, 3) := by decide +kernel
theorem dX5_readOneJuror_94 : decode cX5_readOneJuror 94 = .ok (.iload_n 2, 1) := by decide +kernel
theorem dX5_readOneJuror_95 : decode cX5_readOneJuror 95 = .ok (.iconst 1, 1) := by decide +kernel
theorem dX5_readOneJuror_96 : decode cX5_readOneJuror 96 = .ok (.iadd, 1) := by decide +kernel
theorem dX5_readOneJuror_97 : decode cX5_readOneJuror 97 = .ok (.aload_n 0, 1) := by decide +kernel
theorem dX5_readOneJuror_98 : decode cX5_readOneJuror 98 = .ok (.iload_n 1, 1) := by decide +kernel
theorem dX5_readOneJuror_99 : decode cX5_readOneJuror 99 = .ok (.iconst 1, 1) := by decide +kernel
theorem dX5_readOneJuror_100 : decode cX5_readOneJuror 100 = .ok (.bipush 9, 2) := by decide +kernel
theorem dX5_readOneJuror_102 : decode cX5_readOneJuror 102 = .ok (.invokevirtual 136, 3) := by decide +kernel
theorem dX5_readOneJuror_105 : decode cX5_readOneJuror 105 = .ok (.iastore, 1) := by decide +kernel
theorem dX5_readOneJuror_106 : decode cX5_readOneJuror 106 = .ok (.aload_n 0, 1) := by decide +kernel
theorem dX5_readOneJuror_107 : decode cX5_readOneJuror 107 = .ok (.dup, 1) := by decide +kernel
theorem dX5_readOneJuror_108 : decode cX5_readOneJuror 108 = .ok (.getfield 111, 3) := by decide +kernel
theorem dX5_readOneJuror_111 : decode cX5_readOneJuror 111 = .ok (.iconst 1, 1) := by decide +kernel
theorem dX5_readOneJuror_112 : decode cX5_readOneJuror 112 = .ok (.iadd, 1) := by decide +kernel
theorem dX5_readOneJuror_113 : decode cX5_readOneJuror 113 = .ok (.putfield 111, 3) := by decide +kernel
theorem dX5_readOneJuror_116 : decode cX5_readOneJuror 116 = .ok (.aload_n 0, 1) := by decide +kernel
theorem dX5_readOneJuror_117 : decode cX5_readOneJuror 117 = .ok (.getfield 41, 3) := by decide +kernel
theorem dX5_readOneJuror_120 : decode cX5_readOneJuror 120 = .ok (.iload_n 2, 1) := by decide +kernel
theorem dX5_readOneJuror_121 : decode cX5_readOneJuror 121 = .ok (.iconst 1, 1) := by decide +kernel
theorem dX5_readOneJuror_122 : decode cX5_readOneJuror 122 = .ok (.iadd, 1) := by decide +kernel
theorem dX5_readOneJuror_123 : decode cX5_readOneJuror 123 = .ok (.iaload, 1) := by decide +kernel
theorem dX5_readOneJuror_124 : decode cX5_readOneJuror 124 = .ok (.bipush (-9), 2) := by decide +kernel
theorem dX5_readOneJuror_126 : decode cX5_readOneJuror 126 = .ok (.if_icmp .eq 7, 3) := by decide +kernel
theorem dX5_readOneJuror_129 : decode cX5_readOneJuror 129 = .ok (.iconst 1, 1) := by decide +kernel
theorem dX5_readOneJuror_130 : decode cX5_readOneJuror 130 = .ok (.goto 4, 3) := by decide +kernel
theorem dX5_readOneJuror_133 : decode cX5_readOneJuror 133 = .ok (.iconst 0, 1) := by decide +kernel
theorem dX5_readOneJuror_134 : decode cX5_readOneJuror 134 = .ok (.ireturn, 1) := by decide +kernel
theorem dX5_readOneCase_0 : decode cX5_readOneCase 0 = .ok (.iconst 0, 1) := by decide +kernel
theorem dX5_readOneCase_1 : decode cX5_readOneCase 1 = .ok (.istore_n 2, 1) := by decide +kernel
theorem dX5_readOneCase_2 : decode cX5_readOneCase 2 = .ok (.iload_n 2, 1) := by decide +kernel
theorem dX5_readOneCase_3 : decode cX5_readOneCase 3 = .ok (.iconst 3, 1) := by decide +kernel
theorem dX5_readOneCase_4 : decode cX5_readOneCase 4 = .ok (.if_icmp .ge 56, 3) := by decide +kernel
theorem dX5_readOneCase_7 : decode cX5_readOneCase 7 = .ok (.aload_n 0, 1) := by decide +kernel
theorem dX5_readOneCase_8 : decode cX5_readOneCase 8 = .ok (.iload_n 1, 1) := by decide +kernel
theorem dX5_readOneCase_9 : decode cX5_readOneCase 9 = .ok (.iload_n 2, 1) := by decide +kernel
theorem dX5_readOneCase_10 : decode cX5_readOneCase 10 = .ok (.ifCond .ne 7, 3) := by decide +kernel
theorem dX5_readOneCase_13 : decode cX5_readOneCase 13 = .ok (.iconst 0, 1) := by decide +kernel
theorem dX5_readOneCase_14 : decode cX5_readOneCase 14 = .ok (.goto 4, 3) := by decide +kernel
theorem dX5_readOneCase_17 : decode cX5_readOneCase 17 = .ok (.iconst 1, 1) := by decide +kernel
theorem dX5_readOneCase_18 : decode cX5_readOneCase 18 = .ok (.iload_n 2, 1) := by decide +kernel
theorem dX5_readOneCase_19 : decode cX5_readOneCase 19 = .ok (.ifCond .ne 7, 3) := by decide +kernel
theorem dX5_readOneCase_22 : decode cX5_readOneCase 22 = .ok (.iconst 5, 1) := by decide +kernel
theorem dX5_readOneCase_23 : decode cX5_readOneCase 23 = .ok (.goto 5, 3) := by decide +kernel
theorem dX5_readOneCase_26 : decode cX5_readOneCase 26 = .ok (.bipush 9, 2) := by decide +kernel
theorem dX5_readOneCase_28 : decode cX5_readOneCase 28 = .ok (.invokevirtual 136, 3) := by decide +kernel
theorem dX5_readOneCase_31 : decode cX5_readOneCase 31 = .ok (.istore_n 3, 1) := by decide +kernel
theorem dX5_readOneCase_32 : decode cX5_readOneCase 32 = .ok (.iload_n 3, 1) := by decide +kernel
theorem dX5_readOneCase_33 : decode cX5_readOneCase 33 = .ok (.bipush (-9), 2) := by decide +kernel
theorem dX5_readOneCase_35 : decode cX5_readOneCase 35 = .ok (.if_icmp .ne 5, 3) := by decide +kernel
theorem dX5_readOneCase_38 : decode cX5_readOneCase 38 = .ok (.iconst 0, 1) := by decide +kernel
theorem dX5_readOneCase_39 : decode cX5_readOneCase 39 = .ok (.ireturn, 1) := by decide +kernel
theorem dX5_readOneCase_40 : decode cX5_readOneCase 40 = .ok (.aload_n 0, 1) := by decide +kernel
theorem dX5_readOneCase_41 : decode cX5_readOneCase 41 = .ok (.getfield 44, 3) := by decide +kernel
theorem dX5_readOneCase_44 : decode cX5_readOneCase 44 = .ok (.iconst 3, 1) := by decide +kernel
theorem dX5_readOneCase_45 : decode cX5_readOneCase 45 = .ok (.aload_n 0, 1) := by decide +kernel
theorem dX5_readOneCase_46 : decode cX5_readOneCase 46 = .ok (.getfield 114, 3) := by decide +kernel
theorem dX5_readOneCase_49 : decode cX5_readOneCase 49 = .ok (.imul, 1) := by decide +kernel
theorem dX5_readOneCase_50 : decode cX5_readOneCase 50 = .ok (.iload_n 2, 1) := by decide +kernel
theorem dX5_readOneCase_51 : decode cX5_readOneCase 51 = .ok (.iadd, 1) := by decide +kernel
theorem dX5_readOneCase_52 : decode cX5_readOneCase 52 = .ok (.iload_n 3, 1) := by decide +kernel
theorem dX5_readOneCase_53 : decode cX5_readOneCase 53 = .ok (.iastore, 1) := by decide +kernel
theorem dX5_readOneCase_54 : decode cX5_readOneCase 54 = .ok (.iinc 2 1, 3) := by decide +kernel
theorem dX5_readOneCase_57 : decode cX5_readOneCase 57 = .ok (.goto (-55), 3) := by decide +kernel
theorem dX5_readOneCase_60 : decode cX5_readOneCase 60 = .ok (.aload_n 0, 1) := by decide +kernel
theorem dX5_readOneCase_61 : decode cX5_readOneCase 61 = .ok (.dup, 1) := by decide +kernel
theorem dX5_readOneCase_62 : decode cX5_readOneCase 62 = .ok (.getfield 114, 3) := by decide +kernel
theorem dX5_readOneCase_65 : decode cX5_readOneCase 65 = .ok (.iconst 1, 1) := by decide +kernel
theorem dX5_readOneCase_66 : decode cX5_readOneCase 66 = .ok (.iadd, 1) := by decide +kernel
theorem dX5_readOneCase_67 : decode cX5_readOneCase 67 = .ok (.putfield 114, 3) := by decide +kernel
theorem dX5_readOneCase_70 : decode cX5_readOneCase 70 = .ok (.iconst 1, 1) := by decide +kernel
theorem dX5_readOneCase_71 : decode cX5_readOneCase 71 = .ok (.ireturn, 1) := by decide +kernel
theorem dX5_ofJuror_0 : decode cX5_ofJuror 0 = .ok (.aload_n 0, 1) := by decide +kernel
theorem dX5_ofJuror_1 : decode cX5_ofJuror 1 = .ok (.iload_n 1, 1) := by decide +kernel
theorem dX5_ofJuror_2 : decode cX5_ofJuror 2 = .ok (.invokevirtual 140, 3) := by decide +kernel
theorem dX5_ofJuror_5 : decode cX5_ofJuror 5 = .ok (.ifCond .ne 5, 3) := by decide +kernel
theorem dX5_ofJuror_8 : decode cX5_ofJuror 8 = .ok (.iconst (-1), 1) := by decide +kernel
theorem dX5_ofJuror_9 : decode cX5_ofJuror 9 = .ok (.ireturn, 1) := by decide +kernel
theorem dX5_ofJuror_10 : decode cX5_ofJuror 10 = .ok (.iload_n 2, 1) := by decide +kernel
theorem dX5_ofJuror_11 : decode cX5_ofJuror 11 = .ok (.tableswitch 73 0 3 #[29, 36, 43, 58], 29) := by decide +kernel
theorem dX5_ofJuror_40 : decode cX5_ofJuror 40 = .ok (.aload_n 0, 1) := by decide +kernel
theorem dX5_ofJuror_41 : decode cX5_ofJuror 41 = .ok (.getfield 19, 3) := by decide +kernel
theorem dX5_ofJuror_44 : decode cX5_ofJuror 44 = .ok (.iload_n 1, 1) := by decide +kernel
theorem dX5_ofJuror_45 : decode cX5_ofJuror 45 = .ok (.iaload, 1) := by decide +kernel
theorem dX5_ofJuror_46 : decode cX5_ofJuror 46 = .ok (.ireturn, 1) := by decide +kernel
theorem dX5_ofJuror_47 : decode cX5_ofJuror 47 = .ok (.aload_n 0, 1) := by decide +kernel
theorem dX5_ofJuror_48 : decode cX5_ofJuror 48 = .ok (.getfield 22, 3) := by decide +kernel
theorem dX5_ofJuror_51 : decode cX5_ofJuror 51 = .ok (.iload_n 1, 1) := by decide +kernel
theorem dX5_ofJuror_52 : decode cX5_ofJuror 52 = .ok (.iaload, 1) := by decide +kernel
theorem dX5_ofJuror_53 : decode cX5_ofJuror 53 = .ok (.ireturn, 1) := by decide +kernel
theorem dX5_ofJuror_54 : decode cX5_ofJuror 54 = .ok (.aload_n 0, 1) := by decide +kernel
theorem dX5_ofJuror_55 : decode cX5_ofJuror 55 = .ok (.getfield 25, 3) := by decide +kernel
theorem dX5_ofJuror_58 : decode cX5_ofJuror 58 = .ok (.iload_n 1, 1) := by decide +kernel
theorem dX5_ofJuror_59 : decode cX5_ofJuror 59 = .ok (.baload, 1) := by decide +kernel
theorem dX5_ofJuror_60 : decode cX5_ofJuror 60 = .ok (.ifCond .eq 7, 3) := by decide +kernel
theorem dX5_ofJuror_63 : decode cX5_ofJuror 63 = .ok (.iconst 1, 1) := by decide +kernel
theorem dX5_ofJuror_64 : decode cX5_ofJuror 64 = .ok (.goto 4, 3) := by decide +kernel
theorem dX5_ofJuror_67 : decode cX5_ofJuror 67 = .ok (.iconst 0, 1) := by decide +kernel
theorem dX5_ofJuror_68 : decode cX5_ofJuror 68 = .ok (.ireturn, 1) := by decide +kernel
theorem dX5_ofJuror_69 : decode cX5_ofJuror 69 = .ok (.aload_n 0, 1) := by decide +kernel
theorem dX5_ofJuror_70 : decode cX5_ofJuror 70 = .ok (.getfield 29, 3) := by decide +kernel
theorem dX5_ofJuror_73 : decode cX5_ofJuror 73 = .ok (.iload_n 1, 1) := by decide +kernel
theorem dX5_ofJuror_74 : decode cX5_ofJuror 74 = .ok (.baload, 1) := by decide +kernel
theorem dX5_ofJuror_75 : decode cX5_ofJuror 75 = .ok (.ifCond .eq 7, 3) := by decide +kernel
theorem dX5_ofJuror_78 : decode cX5_ofJuror 78 = .ok (.iconst 1, 1) := by decide +kernel
theorem dX5_ofJuror_79 : decode cX5_ofJuror 79 = .ok (.goto 4, 3) := by decide +kernel
theorem dX5_ofJuror_82 : decode cX5_ofJuror 82 = .ok (.iconst 0, 1) := by decide +kernel
theorem dX5_ofJuror_83 : decode cX5_ofJuror 83 = .ok (.ireturn, 1) := by decide +kernel
theorem dX5_ofJuror_84 : decode cX5_ofJuror 84 = .ok (.bipush (-2), 2) := by decide +kernel
theorem dX5_ofJuror_86 : decode cX5_ofJuror 86 = .ok (.ireturn, 1) := by decide +kernel
theorem dX5_ofCase_0 : decode cX5_ofCase 0 = .ok (.aload_n 0, 1) := by decide +kernel
theorem dX5_ofCase_1 : decode cX5_ofCase 1 = .ok (.iload_n 1, 1) := by decide +kernel
theorem dX5_ofCase_2 : decode cX5_ofCase 2 = .ok (.invokevirtual 143, 3) := by decide +kernel
theorem dX5_ofCase_5 : decode cX5_ofCase 5 = .ok (.ifCond .ne 5, 3) := by decide +kernel
theorem dX5_ofCase_8 : decode cX5_ofCase 8 = .ok (.iconst (-1), 1) := by decide +kernel
theorem dX5_ofCase_9 : decode cX5_ofCase 9 = .ok (.ireturn, 1) := by decide +kernel
theorem dX5_ofCase_10 : decode cX5_ofCase 10 = .ok (.iload_n 2, 1) := by decide +kernel
theorem dX5_ofCase_11 : decode cX5_ofCase 11 = .ok (.ifCond .ne 12, 3) := by decide +kernel
theorem dX5_ofCase_14 : decode cX5_ofCase 14 = .ok (.aload_n 0, 1) := by decide +kernel
theorem dX5_ofCase_15 : decode cX5_ofCase 15 = .ok (.getfield 32, 3) := by decide +kernel
theorem dX5_ofCase_18 : decode cX5_ofCase 18 = .ok (.iload_n 1, 1) := by decide +kernel
theorem dX5_ofCase_19 : decode cX5_ofCase 19 = .ok (.iaload, 1) := by decide +kernel
theorem dX5_ofCase_20 : decode cX5_ofCase 20 = .ok (.goto 33, 3) := by decide +kernel
theorem dX5_ofCase_23 : decode cX5_ofCase 23 = .ok (.iload_n 2, 1) := by decide +kernel
theorem dX5_ofCase_24 : decode cX5_ofCase 24 = .ok (.iconst 1, 1) := by decide +kernel
theorem dX5_ofCase_25 : decode cX5_ofCase 25 = .ok (.if_icmp .ne 12, 3) := by decide +kernel
theorem dX5_ofCase_28 : decode cX5_ofCase 28 = .ok (.aload_n 0, 1) := by decide +kernel
theorem dX5_ofCase_29 : decode cX5_ofCase 29 = .ok (.getfield 35, 3) := by decide +kernel
theorem dX5_ofCase_32 : decode cX5_ofCase 32 = .ok (.iload_n 1, 1) := by decide +kernel
theorem dX5_ofCase_33 : decode cX5_ofCase 33 = .ok (.iaload, 1) := by decide +kernel
theorem dX5_ofCase_34 : decode cX5_ofCase 34 = .ok (.goto 19, 3) := by decide +kernel
theorem dX5_ofCase_37 : decode cX5_ofCase 37 = .ok (.iload_n 2, 1) := by decide +kernel
theorem dX5_ofCase_38 : decode cX5_ofCase 38 = .ok (.iconst 2, 1) := by decide +kernel
theorem dX5_ofCase_39 : decode cX5_ofCase 39 = .ok (.if_icmp .ne 12, 3) := by decide +kernel
theorem dX5_ofCase_42 : decode cX5_ofCase 42 = .ok (.aload_n 0, 1) := by decide +kernel
theorem dX5_ofCase_43 : decode cX5_ofCase 43 = .ok (.getfield 38, 3) := by decide +kernel
theorem dX5_ofCase_46 : decode cX5_ofCase 46 = .ok (.iload_n 1, 1) := by decide +kernel
theorem dX5_ofCase_47 : decode cX5_ofCase 47 = .ok (.iaload, 1) := by decide +kernel
theorem dX5_ofCase_48 : decode cX5_ofCase 48 = .ok (.goto 5, 3) := by decide +kernel
theorem dX5_ofCase_51 : decode cX5_ofCase 51 = .ok (.bipush (-2), 2) := by decide +kernel
theorem dX5_ofCase_53 : decode cX5_ofCase 53 = .ok (.ireturn, 1) := by decide +kernel
theorem dX5_chalk_0 : decode cX5_chalk 0 = .ok (.iload_n 1, 1) := by decide +kernel
theorem dX5_chalk_1 : decode cX5_chalk 1 = .ok (.iconst 0, 1) := by decide +kernel
theorem dX5_chalk_2 : decode cX5_chalk 2 = .ok (.bipush 63, 2) := by decide +kernel
theorem dX5_chalk_4 : decode cX5_chalk 4 = .ok (.invokestatic 74, 3) := by decide +kernel
theorem dX5_chalk_7 : decode cX5_chalk 7 = .ok (.ifCond .ne 6, 3) := by decide +kernel
theorem dX5_chalk_10 : decode cX5_chalk 10 = .ok (.bipush (-2), 2) := by decide +kernel
theorem dX5_chalk_12 : decode cX5_chalk 12 = .ok (.ireturn, 1) := by decide +kernel
theorem dX5_chalk_13 : decode cX5_chalk 13 = .ok (.aload_n 0, 1) := by decide +kernel
theorem dX5_chalk_14 : decode cX5_chalk 14 = .ok (.getfield 81, 3) := by decide +kernel
theorem dX5_chalk_17 : decode cX5_chalk 17 = .ok (.ifCond .ne 6, 3) := by decide +kernel
theorem dX5_chalk_20 : decode cX5_chalk 20 = .ok (.bipush (-3), 2) := by decide +kernel
theorem dX5_chalk_22 : decode cX5_chalk 22 = .ok (.ireturn, 1) := by decide +kernel
theorem dX5_chalk_23 : decode cX5_chalk 23 = .ok (.aload_n 0, 1) := by decide +kernel
theorem dX5_chalk_24 : decode cX5_chalk 24 = .ok (.getfield 117, 3) := by decide +kernel
theorem dX5_chalk_27 : decode cX5_chalk 27 = .ok (.istore_n 2, 1) := by decide +kernel
theorem dX5_chalk_28 : decode cX5_chalk 28 = .ok (.aload_n 0, 1) := by decide +kernel
theorem dX5_chalk_29 : decode cX5_chalk 29 = .ok (.iload_n 1, 1) := by decide +kernel
theorem dX5_chalk_30 : decode cX5_chalk 30 = .ok (.putfield 117, 3) := by decide +kernel
theorem dX5_chalk_33 : decode cX5_chalk 33 = .ok (.iload_n 2, 1) := by decide +kernel
theorem dX5_chalk_34 : decode cX5_chalk 34 = .ok (.ireturn, 1) := by decide +kernel
theorem dX5_treat_0 : decode cX5_treat 0 = .ok (.aload_n 0, 1) := by decide +kernel
theorem dX5_treat_1 : decode cX5_treat 1 = .ok (.iload_n 1, 1) := by decide +kernel
theorem dX5_treat_2 : decode cX5_treat 2 = .ok (.invokevirtual 140, 3) := by decide +kernel
theorem dX5_treat_5 : decode cX5_treat 5 = .ok (.ifCond .ne 5, 3) := by decide +kernel
theorem dX5_treat_8 : decode cX5_treat 8 = .ok (.iconst (-1), 1) := by decide +kernel
theorem dX5_treat_9 : decode cX5_treat 9 = .ok (.ireturn, 1) := by decide +kernel
theorem dX5_treat_10 : decode cX5_treat 10 = .ok (.aload_n 0, 1) := by decide +kernel
theorem dX5_treat_11 : decode cX5_treat 11 = .ok (.getfield 25, 3) := by decide +kernel
theorem dX5_treat_14 : decode cX5_treat 14 = .ok (.iload_n 1, 1) := by decide +kernel
theorem dX5_treat_15 : decode cX5_treat 15 = .ok (.baload, 1) := by decide +kernel
theorem dX5_treat_16 : decode cX5_treat 16 = .ok (.istore_n 3, 1) := by decide +kernel
theorem dX5_treat_17 : decode cX5_treat 17 = .ok (.aload_n 0, 1) := by decide +kernel
theorem dX5_treat_18 : decode cX5_treat 18 = .ok (.getfield 25, 3) := by decide +kernel
theorem dX5_treat_21 : decode cX5_treat 21 = .ok (.iload_n 1, 1) := by decide +kernel
theorem dX5_treat_22 : decode cX5_treat 22 = .ok (.iload_n 2, 1) := by decide +kernel
theorem dX5_treat_23 : decode cX5_treat 23 = .ok (.bastore, 1) := by decide +kernel
theorem dX5_treat_24 : decode cX5_treat 24 = .ok (.iload_n 3, 1) := by decide +kernel
theorem dX5_treat_25 : decode cX5_treat 25 = .ok (.iload_n 2, 1) := by decide +kernel
theorem dX5_treat_26 : decode cX5_treat 26 = .ok (.if_icmp .ne 7, 3) := by decide +kernel
theorem dX5_treat_29 : decode cX5_treat 29 = .ok (.iconst 0, 1) := by decide +kernel
theorem dX5_treat_30 : decode cX5_treat 30 = .ok (.goto 4, 3) := by decide +kernel
theorem dX5_treat_33 : decode cX5_treat 33 = .ok (.iconst 1, 1) := by decide +kernel
theorem dX5_treat_34 : decode cX5_treat 34 = .ok (.ireturn, 1) := by decide +kernel
theorem dX5_strike_0 : decode cX5_strike 0 = .ok (.aload_n 0, 1) := by decide +kernel
theorem dX5_strike_1 : decode cX5_strike 1 = .ok (.iload_n 1, 1) := by decide +kernel
theorem dX5_strike_2 : decode cX5_strike 2 = .ok (.invokevirtual 140, 3) := by decide +kernel
theorem dX5_strike_5 : decode cX5_strike 5 = .ok (.ifCond .ne 5, 3) := by decide +kernel
theorem dX5_strike_8 : decode cX5_strike 8 = .ok (.iconst (-1), 1) := by decide +kernel
theorem dX5_strike_9 : decode cX5_strike 9 = .ok (.ireturn, 1) := by decide +kernel
theorem dX5_strike_10 : decode cX5_strike 10 = .ok (.aload_n 0, 1) := by decide +kernel
theorem dX5_strike_11 : decode cX5_strike 11 = .ok (.getfield 29, 3) := by decide +kernel
theorem dX5_strike_14 : decode cX5_strike 14 = .ok (.iload_n 1, 1) := by decide +kernel
theorem dX5_strike_15 : decode cX5_strike 15 = .ok (.baload, 1) := by decide +kernel
theorem dX5_strike_16 : decode cX5_strike 16 = .ok (.istore_n 3, 1) := by decide +kernel
theorem dX5_strike_17 : decode cX5_strike 17 = .ok (.aload_n 0, 1) := by decide +kernel
theorem dX5_strike_18 : decode cX5_strike 18 = .ok (.getfield 29, 3) := by decide +kernel
theorem dX5_strike_21 : decode cX5_strike 21 = .ok (.iload_n 1, 1) := by decide +kernel
theorem dX5_strike_22 : decode cX5_strike 22 = .ok (.iload_n 2, 1) := by decide +kernel
theorem dX5_strike_23 : decode cX5_strike 23 = .ok (.bastore, 1) := by decide +kernel
theorem dX5_strike_24 : decode cX5_strike 24 = .ok (.iload_n 3, 1) := by decide +kernel
theorem dX5_strike_25 : decode cX5_strike 25 = .ok (.iload_n 2, 1) := by decide +kernel
theorem dX5_strike_26 : decode cX5_strike 26 = .ok (.if_icmp .ne 7, 3) := by decide +kernel
theorem dX5_strike_29 : decode cX5_strike 29 = .ok (.iconst 0, 1) := by decide +kernel
theorem dX5_strike_30 : decode cX5_strike 30 = .ok (.goto 4, 3) := by decide +kernel
theorem dX5_strike_33 : decode cX5_strike 33 = .ok (.iconst 1, 1) := by decide +kernel
theorem dX5_strike_34 : decode cX5_strike 34 = .ok (.ireturn, 1) := by decide +kernel
theorem dX5_minutes_0 : decode cX5_minutes 0 = .ok (.iload_n 1, 1) := by decide +kernel
theorem dX5_minutes_1 : decode cX5_minutes 1 = .ok (.iconst 5, 1) := by decide +kernel
theorem dX5_minutes_2 : decode cX5_minutes 2 = .ok (.bipush 60, 2) := by decide +kernel
theorem dX5_minutes_4 : decode cX5_minutes 4 = .ok (.invokestatic 74, 3) := by decide +kernel
theorem dX5_minutes_7 : decode cX5_minutes 7 = .ok (.ifCond .ne 6, 3) := by decide +kernel
theorem dX5_minutes_10 : decode cX5_minutes 10 = .ok (.bipush (-2), 2) := by decide +kernel
theorem dX5_minutes_12 : decode cX5_minutes 12 = .ok (.ireturn, 1) := by decide +kernel
theorem dX5_minutes_13 : decode cX5_minutes 13 = .ok (.aload_n 0, 1) := by decide +kernel
theorem dX5_minutes_14 : decode cX5_minutes 14 = .ok (.getfield 81, 3) := by decide +kernel
theorem dX5_minutes_17 : decode cX5_minutes 17 = .ok (.ifCond .ne 6, 3) := by decide +kernel
theorem dX5_minutes_20 : decode cX5_minutes 20 = .ok (.bipush (-3), 2) := by decide +kernel
theorem dX5_minutes_22 : decode cX5_minutes 22 = .ok (.ireturn, 1) := by decide +kernel
theorem dX5_minutes_23 : decode cX5_minutes 23 = .ok (.aload_n 0, 1) := by decide +kernel
theorem dX5_minutes_24 : decode cX5_minutes 24 = .ok (.getfield 108, 3) := by decide +kernel
theorem dX5_minutes_27 : decode cX5_minutes 27 = .ok (.istore_n 2, 1) := by decide +kernel
theorem dX5_minutes_28 : decode cX5_minutes 28 = .ok (.aload_n 0, 1) := by decide +kernel
theorem dX5_minutes_29 : decode cX5_minutes 29 = .ok (.iload_n 1, 1) := by decide +kernel
theorem dX5_minutes_30 : decode cX5_minutes 30 = .ok (.putfield 108, 3) := by decide +kernel
theorem dX5_minutes_33 : decode cX5_minutes 33 = .ok (.iload_n 2, 1) := by decide +kernel
theorem dX5_minutes_34 : decode cX5_minutes 34 = .ok (.ireturn, 1) := by decide +kernel
theorem dX5_begin_0 : decode cX5_begin 0 = .ok (.aload_n 0, 1) := by decide +kernel
theorem dX5_begin_1 : decode cX5_begin 1 = .ok (.iconst 0, 1) := by decide +kernel
theorem dX5_begin_2 : decode cX5_begin 2 = .ok (.putfield 146, 3) := by decide +kernel
theorem dX5_begin_5 : decode cX5_begin 5 = .ok (.aload_n 0, 1) := by decide +kernel
theorem dX5_begin_6 : decode cX5_begin 6 = .ok (.iconst 0, 1) := by decide +kernel
theorem dX5_begin_7 : decode cX5_begin 7 = .ok (.putfield 149, 3) := by decide +kernel
theorem dX5_begin_10 : decode cX5_begin 10 = .ok (.iconst 0, 1) := by decide +kernel
theorem dX5_begin_11 : decode cX5_begin 11 = .ok (.istore_n 1, 1) := by decide +kernel
theorem dX5_begin_12 : decode cX5_begin 12 = .ok (.iload_n 1, 1) := by decide +kernel
theorem dX5_begin_13 : decode cX5_begin 13 = .ok (.aload_n 0, 1) := by decide +kernel
theorem dX5_begin_14 : decode cX5_begin 14 = .ok (.getfield 81, 3) := by decide +kernel
theorem dX5_begin_17 : decode cX5_begin 17 = .ok (.if_icmp .ge 17, 3) := by decide +kernel
theorem dX5_begin_20 : decode cX5_begin 20 = .ok (.aload_n 0, 1) := by decide +kernel
theorem dX5_begin_21 : decode cX5_begin 21 = .ok (.getfield 47, 3) := by decide +kernel
theorem dX5_begin_24 : decode cX5_begin 24 = .ok (.iload_n 1, 1) := by decide +kernel
theorem dX5_begin_25 : decode cX5_begin 25 = .ok (.bipush (-9), 2) := by decide +kernel
theorem dX5_begin_27 : decode cX5_begin 27 = .ok (.iastore, 1) := by decide +kernel
theorem dX5_begin_28 : decode cX5_begin 28 = .ok (.iinc 1 1, 3) := by decide +kernel
theorem dX5_begin_31 : decode cX5_begin 31 = .ok (.goto (-19), 3) := by decide +kernel
theorem dX5_begin_34 : decode cX5_begin 34 = .ok (.iconst 0, 1) := by decide +kernel
theorem dX5_begin_35 : decode cX5_begin 35 = .ok (.istore_n 1, 1) := by decide +kernel
theorem dX5_begin_36 : decode cX5_begin 36 = .ok (.iload_n 1, 1) := by decide +kernel
theorem dX5_begin_37 : decode cX5_begin 37 = .ok (.bipush 6, 2) := by decide +kernel
theorem dX5_begin_39 : decode cX5_begin 39 = .ok (.if_icmp .ge 17, 3) := by decide +kernel
theorem dX5_begin_42 : decode cX5_begin 42 = .ok (.aload_n 0, 1) := by decide +kernel
theorem dX5_begin_43 : decode cX5_begin 43 = .ok (.getfield 50, 3) := by decide +kernel
theorem dX5_begin_46 : decode cX5_begin 46 = .ok (.iload_n 1, 1) := by decide +kernel
theorem dX5_begin_47 : decode cX5_begin 47 = .ok (.bipush (-9), 2) := by decide +kernel
theorem dX5_begin_49 : decode cX5_begin 49 = .ok (.iastore, 1) := by decide +kernel
theorem dX5_begin_50 : decode cX5_begin 50 = .ok (.iinc 1 1, 3) := by decide +kernel
theorem dX5_begin_53 : decode cX5_begin 53 = .ok (.goto (-17), 3) := by decide +kernel
theorem dX5_begin_56 : decode cX5_begin 56 = .ok (.iconst 0, 1) := by decide +kernel
theorem dX5_begin_57 : decode cX5_begin 57 = .ok (.istore_n 1, 1) := by decide +kernel
theorem dX5_begin_58 : decode cX5_begin 58 = .ok (.iload_n 1, 1) := by decide +kernel
theorem dX5_begin_59 : decode cX5_begin 59 = .ok (.aload_n 0, 1) := by decide +kernel
theorem dX5_begin_60 : decode cX5_begin 60 = .ok (.getfield 78, 3) := by decide +kernel
theorem dX5_begin_63 : decode cX5_begin 63 = .ok (.if_icmp .ge 16, 3) := by decide +kernel
theorem dX5_begin_66 : decode cX5_begin 66 = .ok (.aload_n 0, 1) := by decide +kernel
theorem dX5_begin_67 : decode cX5_begin 67 = .ok (.getfield 53, 3) := by decide +kernel
theorem dX5_begin_70 : decode cX5_begin 70 = .ok (.iload_n 1, 1) := by decide +kernel
theorem dX5_begin_71 : decode cX5_begin 71 = .ok (.iconst 0, 1) := by decide +kernel
theorem dX5_begin_72 : decode cX5_begin 72 = .ok (.bastore, 1) := by decide +kernel
theorem dX5_begin_73 : decode cX5_begin 73 = .ok (.iinc 1 1, 3) := by decide +kernel
theorem dX5_begin_76 : decode cX5_begin 76 = .ok (.goto (-18), 3) := by decide +kernel
theorem dX5_begin_79 : decode cX5_begin 79 = .ok (.return_, 1) := by decide +kernel
theorem dX5_isCrime_0 : decode cX5_isCrime 0 = .ok (.aload_n 0, 1) := by decide +kernel
theorem dX5_isCrime_1 : decode cX5_isCrime 1 = .ok (.getfield 117, 3) := by decide +kernel
theorem dX5_isCrime_4 : decode cX5_isCrime 4 = .ok (.aload_n 0, 1) := by decide +kernel
theorem dX5_isCrime_5 : decode cX5_isCrime 5 = .ok (.getfield 32, 3) := by decide +kernel
theorem dX5_isCrime_8 : decode cX5_isCrime 8 = .ok (.iload_n 1, 1) := by decide +kernel
theorem dX5_isCrime_9 : decode cX5_isCrime 9 = .ok (.iaload, 1) := by decide +kernel
theorem dX5_isCrime_10 : decode cX5_isCrime 10 = .ok (.ishr, 1) := by decide +kernel
theorem dX5_isCrime_11 : decode cX5_isCrime 11 = .ok (.iconst 1, 1) := by decide +kernel
theorem dX5_isCrime_12 : decode cX5_isCrime 12 = .ok (.iand, 1) := by decide +kernel
theorem dX5_isCrime_13 : decode cX5_isCrime 13 = .ok (.iconst 1, 1) := by decide +kernel
theorem dX5_isCrime_14 : decode cX5_isCrime 14 = .ok (.if_icmp .ne 7, 3) := by decide +kernel
theorem dX5_isCrime_17 : decode cX5_isCrime 17 = .ok (.iconst 1, 1) := by decide +kernel
theorem dX5_isCrime_18 : decode cX5_isCrime 18 = .ok (.goto 4, 3) := by decide +kernel
theorem dX5_isCrime_21 : decode cX5_isCrime 21 = .ok (.iconst 0, 1) := by decide +kernel
theorem dX5_isCrime_22 : decode cX5_isCrime 22 = .ok (.ireturn, 1) := by decide +kernel
theorem dX5_isAgainst_0 : decode cX5_isAgainst 0 = .ok (.aload_n 0, 1) := by decide +kernel
theorem dX5_isAgainst_1 : decode cX5_isAgainst 1 = .ok (.getfield 19, 3) := by decide +kernel
theorem dX5_isAgainst_4 : decode cX5_isAgainst 4 = .ok (.iload_n 1, 1) := by decide +kernel
theorem dX5_isAgainst_5 : decode cX5_isAgainst 5 = .ok (.iaload, 1) := by decide +kernel
theorem dX5_isAgainst_6 : decode cX5_isAgainst 6 = .ok (.iconst 2, 1) := by decide +kernel
theorem dX5_isAgainst_7 : decode cX5_isAgainst 7 = .ok (.if_icmp .ne 31, 3) := by decide +kernel
theorem dX5_isAgainst_10 : decode cX5_isAgainst 10 = .ok (.aload_n 0, 1) := by decide +kernel
theorem dX5_isAgainst_11 : decode cX5_isAgainst 11 = .ok (.getfield 25, 3) := by decide +kernel
theorem dX5_isAgainst_14 : decode cX5_isAgainst 14 = .ok (.iload_n 1, 1) := by decide +kernel
theorem dX5_isAgainst_15 : decode cX5_isAgainst 15 = .ok (.baload, 1) := by decide +kernel
theorem dX5_isAgainst_16 : decode cX5_isAgainst 16 = .ok (.ifCond .eq 22, 3) := by decide +kernel
theorem dX5_isAgainst_19 : decode cX5_isAgainst 19 = .ok (.aload_n 0, 1) := by decide +kernel
theorem dX5_isAgainst_20 : decode cX5_isAgainst 20 = .ok (.getfield 53, 3) := by decide +kernel
theorem dX5_isAgainst_23 : decode cX5_isAgainst 23 = .ok (.iload_n 1, 1) := by decide +kernel
theorem dX5_isAgainst_24 : decode cX5_isAgainst 24 = .ok (.baload, 1) := by decide +kernel
theorem dX5_isAgainst_25 : decode cX5_isAgainst 25 = .ok (.ifCond .ne 13, 3) := by decide +kernel
theorem dX5_isAgainst_28 : decode cX5_isAgainst 28 = .ok (.aload_n 0, 1) := by decide +kernel
theorem dX5_isAgainst_29 : decode cX5_isAgainst 29 = .ok (.getfield 53, 3) := by decide +kernel
theorem dX5_isAgainst_32 : decode cX5_isAgainst 32 = .ok (.iload_n 1, 1) := by decide +kernel
theorem dX5_isAgainst_33 : decode cX5_isAgainst 33 = .ok (.iload 4, 2) := by decide +kernel
theorem dX5_isAgainst_35 : decode cX5_isAgainst 35 = .ok (.bastore, 1) := by decide +kernel
theorem dX5_isAgainst_36 : decode cX5_isAgainst 36 = .ok (.iconst 0, 1) := by decide +kernel
theorem dX5_isAgainst_37 : decode cX5_isAgainst 37 = .ok (.ireturn, 1) := by decide +kernel
theorem dX5_isAgainst_38 : decode cX5_isAgainst 38 = .ok (.aload_n 0, 1) := by decide +kernel
theorem dX5_isAgainst_39 : decode cX5_isAgainst 39 = .ok (.iload_n 2, 1) := by decide +kernel
theorem dX5_isAgainst_40 : decode cX5_isAgainst 40 = .ok (.invokevirtual 153, 3) := by decide +kernel
theorem dX5_isAgainst_43 : decode cX5_isAgainst 43 = .ok (.ifCond .ne 25, 3) := by decide +kernel
theorem dX5_isAgainst_46 : decode cX5_isAgainst 46 = .ok (.aload_n 0, 1) := by decide +kernel
theorem dX5_isAgainst_47 : decode cX5_isAgainst 47 = .ok (.getfield 19, 3) := by decide +kernel
theorem dX5_isAgainst_50 : decode cX5_isAgainst 50 = .ok (.iload_n 1, 1) := by decide +kernel
theorem dX5_isAgainst_51 : decode cX5_isAgainst 51 = .ok (.iaload, 1) := by decide +kernel
theorem dX5_isAgainst_52 : decode cX5_isAgainst 52 = .ok (.iconst 1, 1) := by decide +kernel
theorem dX5_isAgainst_53 : decode cX5_isAgainst 53 = .ok (.if_icmp .ne 19, 3) := by decide +kernel
theorem dX5_isAgainst_56 : decode cX5_isAgainst 56 = .ok (.iload_n 3, 1) := by decide +kernel
theorem dX5_isAgainst_57 : decode cX5_isAgainst 57 = .ok (.iconst 5, 1) := by decide +kernel
theorem dX5_isAgainst_58 : decode cX5_isAgainst 58 = .ok (.aload_n 0, 1) := by decide +kernel
theorem dX5_isAgainst_59 : decode cX5_isAgainst 59 = .ok (.getfield 22, 3) := by decide +kernel
theorem dX5_isAgainst_62 : decode cX5_isAgainst 62 = .ok (.iload_n 1, 1) := by decide +kernel
theorem dX5_isAgainst_63 : decode cX5_isAgainst 63 = .ok (.iaload, 1) := by decide +kernel
theorem dX5_isAgainst_64 : decode cX5_isAgainst 64 = .ok (.imul, 1) := by decide +kernel
theorem dX5_isAgainst_65 : decode cX5_isAgainst 65 = .ok (.if_icmp .lt 7, 3) := by decide +kernel
theorem dX5_isAgainst_68 : decode cX5_isAgainst 68 = .ok (.iconst 1, 1) := by decide +kernel
theorem dX5_isAgainst_69 : decode cX5_isAgainst 69 = .ok (.goto 4, 3) := by decide +kernel
theorem dX5_isAgainst_72 : decode cX5_isAgainst 72 = .ok (.iconst 0, 1) := by decide +kernel
theorem dX5_isAgainst_73 : decode cX5_isAgainst 73 = .ok (.ireturn, 1) := by decide +kernel
theorem dX5_verdictOf_0 : decode cX5_verdictOf 0 = .ok (.iconst 0, 1) := by decide +kernel
theorem dX5_verdictOf_1 : decode cX5_verdictOf 1 = .ok (.istore_n 2, 1) := by decide +kernel
theorem dX5_verdictOf_2 : decode cX5_verdictOf 2 = .ok (.iconst 0, 1) := by decide +kernel
theorem dX5_verdictOf_3 : decode cX5_verdictOf 3 = .ok (.istore_n 3, 1) := by decide +kernel
theorem dX5_verdictOf_4 : decode cX5_verdictOf 4 = .ok (.iconst 0, 1) := by decide +kernel
theorem dX5_verdictOf_5 : decode cX5_verdictOf 5 = .ok (.istore 4, 2) := by decide +kernel
theorem dX5_verdictOf_7 : decode cX5_verdictOf 7 = .ok (.iload 4, 2) := by decide +kernel
theorem dX5_verdictOf_9 : decode cX5_verdictOf 9 = .ok (.aload_n 0, 1) := by decide +kernel
theorem dX5_verdictOf_10 : decode cX5_verdictOf 10 = .ok (.getfield 78, 3) := by decide +kernel
theorem dX5_verdictOf_13 : decode cX5_verdictOf 13 = .ok (.if_icmp .ge 45, 3) := by decide +kernel
theorem dX5_verdictOf_16 : decode cX5_verdictOf 16 = .ok (.aload_n 0, 1) := by decide +kernel
theorem dX5_verdictOf_17 : decode cX5_verdictOf 17 = .ok (.getfield 29, 3) := by decide +kernel
theorem dX5_verdictOf_20 : decode cX5_verdictOf 20 = .ok (.iload 4, 2) := by decide +kernel
theorem dX5_verdictOf_22 : decode cX5_verdictOf 22 = .ok (.baload, 1) := by decide +kernel
theorem dX5_verdictOf_23 : decode cX5_verdictOf 23 = .ok (.ifCond .ne 29, 3) := by decide +kernel
theorem dX5_verdictOf_26 : decode cX5_verdictOf 26 = .ok (.iinc 2 1, 3) := by decide +kernel
theorem dX5_verdictOf_29 : decode cX5_verdictOf 29 = .ok (.iload_n 3, 1) := by decide +kernel
theorem dX5_verdictOf_30 : decode cX5_verdictOf 30 = .ok (.aload_n 0, 1) := by decide +kernel
theorem dX5_verdictOf_31 : decode cX5_verdictOf 31 = .ok (.iload 4, 2) := by decide +kernel
theorem dX5_verdictOf_33 : decode cX5_verdictOf 33 = .ok (.iload_n 1, 1) := by decide +kernel
theorem dX5_verdictOf_34 : decode cX5_verdictOf 34 = .ok (.aload_n 0, 1) := by decide +kernel
theorem dX5_verdictOf_35 : decode cX5_verdictOf 35 = .ok (.getfield 146, 3) := by decide +kernel
theorem dX5_verdictOf_38 : decode cX5_verdictOf 38 = .ok (.iconst 1, 1) := by decide +kernel
theorem dX5_verdictOf_39 : decode cX5_verdictOf 39 = .ok (.invokevirtual 156, 3) := by decide +kernel
theorem dX5_verdictOf_42 : decode cX5_verdictOf 42 = .ok (.ifCond .eq 7, 3) := by decide +kernel
theorem dX5_verdictOf_45 : decode cX5_verdictOf 45 = .ok (.iconst 1, 1) := by decide +kernel
theorem dX5_verdictOf_46 : decode cX5_verdictOf 46 = .ok (.goto 4, 3) := by decide +kernel
theorem dX5_verdictOf_49 : decode cX5_verdictOf 49 = .ok (.iconst 0, 1) := by decide +kernel
theorem dX5_verdictOf_50 : decode cX5_verdictOf 50 = .ok (.iadd, 1) := by decide +kernel
theorem dX5_verdictOf_51 : decode cX5_verdictOf 51 = .ok (.istore_n 3, 1) := by decide +kernel
theorem dX5_verdictOf_52 : decode cX5_verdictOf 52 = .ok (.iinc 4 1, 3) := by decide +kernel
theorem dX5_verdictOf_55 : decode cX5_verdictOf 55 = .ok (.goto (-48), 3) := by decide +kernel
theorem dX5_verdictOf_58 : decode cX5_verdictOf 58 = .ok (.iconst 2, 1) := by decide +kernel
theorem dX5_verdictOf_59 : decode cX5_verdictOf 59 = .ok (.iload_n 3, 1) := by decide +kernel
theorem dX5_verdictOf_60 : decode cX5_verdictOf 60 = .ok (.imul, 1) := by decide +kernel
theorem dX5_verdictOf_61 : decode cX5_verdictOf 61 = .ok (.iload_n 2, 1) := by decide +kernel
theorem dX5_verdictOf_62 : decode cX5_verdictOf 62 = .ok (.if_icmp .le 7, 3) := by decide +kernel
theorem dX5_verdictOf_65 : decode cX5_verdictOf 65 = .ok (.iconst 1, 1) := by decide +kernel
theorem dX5_verdictOf_66 : decode cX5_verdictOf 66 = .ok (.goto 4, 3) := by decide +kernel
theorem dX5_verdictOf_69 : decode cX5_verdictOf 69 = .ok (.iconst 0, 1) := by decide +kernel
theorem dX5_verdictOf_70 : decode cX5_verdictOf 70 = .ok (.ireturn, 1) := by decide +kernel
theorem dX5_tryCase_0 : decode cX5_tryCase 0 = .ok (.aload_n 0, 1) := by decide +kernel
theorem dX5_tryCase_1 : decode cX5_tryCase 1 = .ok (.getfield 32, 3) := by decide +kernel
theorem dX5_tryCase_4 : decode cX5_tryCase 4 = .ok (.iload_n 1, 1) := by decide +kernel
theorem dX5_tryCase_5 : decode cX5_tryCase 5 = .ok (.iaload, 1) := by decide +kernel
theorem dX5_tryCase_6 : decode cX5_tryCase 6 = .ok (.istore_n 2, 1) := by decide +kernel
theorem dX5_tryCase_7 : decode cX5_tryCase 7 = .ok (.aload_n 0, 1) := by decide +kernel
theorem dX5_tryCase_8 : decode cX5_tryCase 8 = .ok (.getfield 50, 3) := by decide +kernel
theorem dX5_tryCase_11 : decode cX5_tryCase 11 = .ok (.iload_n 2, 1) := by decide +kernel
theorem dX5_tryCase_12 : decode cX5_tryCase 12 = .ok (.iaload, 1) := by decide +kernel
theorem dX5_tryCase_13 : decode cX5_tryCase 13 = .ok (.bipush (-9), 2) := by decide +kernel
theorem dX5_tryCase_15 : decode cX5_tryCase 15 = .ok (.if_icmp .ne 12, 3) := by decide +kernel
theorem dX5_tryCase_18 : decode cX5_tryCase 18 = .ok (.aload_n 0, 1) := by decide +kernel
theorem dX5_tryCase_19 : decode cX5_tryCase 19 = .ok (.getfield 35, 3) := by decide +kernel
theorem dX5_tryCase_22 : decode cX5_tryCase 22 = .ok (.iload_n 1, 1) := by decide +kernel
theorem dX5_tryCase_23 : decode cX5_tryCase 23 = .ok (.iaload, 1) := by decide +kernel
theorem dX5_tryCase_24 : decode cX5_tryCase 24 = .ok (.goto 4, 3) := by decide +kernel
theorem dX5_tryCase_27 : decode cX5_tryCase 27 = .ok (.iconst 1, 1) := by decide +kernel
theorem dX5_tryCase_28 : decode cX5_tryCase 28 = .ok (.istore_n 3, 1) := by decide +kernel
theorem dX5_tryCase_29 : decode cX5_tryCase 29 = .ok (.aload_n 0, 1) := by decide +kernel
theorem dX5_tryCase_30 : decode cX5_tryCase 30 = .ok (.aload_n 0, 1) := by decide +kernel
theorem dX5_tryCase_31 : decode cX5_tryCase 31 = .ok (.getfield 149, 3) := by decide +kernel
theorem dX5_tryCase_34 : decode cX5_tryCase 34 = .ok (.ifCond .ne 16, 3) := by decide +kernel
theorem dX5_tryCase_37 : decode cX5_tryCase 37 = .ok (.aload_n 0, 1) := by decide +kernel
theorem dX5_tryCase_38 : decode cX5_tryCase 38 = .ok (.getfield 146, 3) := by decide +kernel
theorem dX5_tryCase_41 : decode cX5_tryCase 41 = .ok (.iload_n 3, 1) := by decide +kernel
theorem dX5_tryCase_42 : decode cX5_tryCase 42 = .ok (.iadd, 1) := by decide +kernel
theorem dX5_tryCase_43 : decode cX5_tryCase 43 = .ok (.aload_n 0, 1) := by decide +kernel
theorem dX5_tryCase_44 : decode cX5_tryCase 44 = .ok (.getfield 108, 3) := by decide +kernel
theorem dX5_tryCase_47 : decode cX5_tryCase 47 = .ok (.if_icmp .le 7, 3) := by decide +kernel
theorem dX5_tryCase_50 : decode cX5_tryCase 50 = .ok (.iconst 1, 1) := by decide +kernel
theorem dX5_tryCase_51 : decode cX5_tryCase 51 = .ok (.goto 4, 3) := by decide +kernel
theorem dX5_tryCase_54 : decode cX5_tryCase 54 = .ok (.iconst 0, 1) := by decide +kernel
theorem dX5_tryCase_55 : decode cX5_tryCase 55 = .ok (.putfield 149, 3) := by decide +kernel
theorem dX5_tryCase_58 : decode cX5_tryCase 58 = .ok (.aload_n 0, 1) := by decide +kernel
theorem dX5_tryCase_59 : decode cX5_tryCase 59 = .ok (.getfield 149, 3) := by decide +kernel
theorem dX5_tryCase_62 : decode cX5_tryCase 62 = .ok (.ifCond .eq 11, 3) := by decide +kernel
theorem dX5_tryCase_65 : decode cX5_tryCase 65 = .ok (.aload_n 0, 1) := by decide +kernel
theorem dX5_tryCase_66 : decode cX5_tryCase 66 = .ok (.getfield 47, 3) := by decide +kernel
theorem dX5_tryCase_69 : decode cX5_tryCase 69 = .ok (.iload_n 1, 1) := by decide +kernel
theorem dX5_tryCase_70 : decode cX5_tryCase 70 = .ok (.iconst 2, 1) := by decide +kernel
theorem dX5_tryCase_71 : decode cX5_tryCase 71 = .ok (.iastore, 1) := by decide +kernel
theorem dX5_tryCase_72 : decode cX5_tryCase 72 = .ok (.return_, 1) := by decide +kernel
theorem dX5_tryCase_73 : decode cX5_tryCase 73 = .ok (.aload_n 0, 1) := by decide +kernel
theorem dX5_tryCase_74 : decode cX5_tryCase 74 = .ok (.dup, 1) := by decide +kernel
theorem dX5_tryCase_75 : decode cX5_tryCase 75 = .ok (.getfield 146, 3) := by decide +kernel
theorem dX5_tryCase_78 : decode cX5_tryCase 78 = .ok (.iload_n 3, 1) := by decide +kernel
theorem dX5_tryCase_79 : decode cX5_tryCase 79 = .ok (.iadd, 1) := by decide +kernel
theorem dX5_tryCase_80 : decode cX5_tryCase 80 = .ok (.putfield 146, 3) := by decide +kernel
theorem dX5_tryCase_83 : decode cX5_tryCase 83 = .ok (.aload_n 0, 1) := by decide +kernel
theorem dX5_tryCase_84 : decode cX5_tryCase 84 = .ok (.getfield 50, 3) := by decide +kernel
theorem dX5_tryCase_87 : decode cX5_tryCase 87 = .ok (.iload_n 2, 1) := by decide +kernel
theorem dX5_tryCase_88 : decode cX5_tryCase 88 = .ok (.aload_n 0, 1) := by decide +kernel
theorem dX5_tryCase_89 : decode cX5_tryCase 89 = .ok (.getfield 50, 3) := by decide +kernel
theorem dX5_tryCase_92 : decode cX5_tryCase 92 = .ok (.iload_n 2, 1) := by decide +kernel
theorem dX5_tryCase_93 : decode cX5_tryCase 93 = .ok (.iaload, 1) := by decide +kernel
theorem dX5_tryCase_94 : decode cX5_tryCase 94 = .ok (.bipush (-9), 2) := by decide +kernel
theorem dX5_tryCase_96 : decode cX5_tryCase 96 = .ok (.if_icmp .ne 11, 3) := by decide +kernel
theorem dX5_tryCase_99 : decode cX5_tryCase 99 = .ok (.aload_n 0, 1) := by decide +kernel
theorem dX5_tryCase_100 : decode cX5_tryCase 100 = .ok (.iload_n 1, 1) := by decide +kernel
theorem dX5_tryCase_101 : decode cX5_tryCase 101 = .ok (.invokevirtual 160, 3) := by decide +kernel
theorem dX5_tryCase_104 : decode cX5_tryCase 104 = .ok (.goto 9, 3) := by decide +kernel
theorem dX5_tryCase_107 : decode cX5_tryCase 107 = .ok (.aload_n 0, 1) := by decide +kernel
theorem dX5_tryCase_108 : decode cX5_tryCase 108 = .ok (.getfield 50, 3) := by decide +kernel
theorem dX5_tryCase_111 : decode cX5_tryCase 111 = .ok (.iload_n 2, 1) := by decide +kernel
theorem dX5_tryCase_112 : decode cX5_tryCase 112 = .ok (.iaload, 1) := by decide +kernel
theorem dX5_tryCase_113 : decode cX5_tryCase 113 = .ok (.iastore, 1) := by decide +kernel
theorem dX5_tryCase_114 : decode cX5_tryCase 114 = .ok (.aload_n 0, 1) := by decide +kernel
theorem dX5_tryCase_115 : decode cX5_tryCase 115 = .ok (.getfield 47, 3) := by decide +kernel
theorem dX5_tryCase_118 : decode cX5_tryCase 118 = .ok (.iload_n 1, 1) := by decide +kernel
theorem dX5_tryCase_119 : decode cX5_tryCase 119 = .ok (.aload_n 0, 1) := by decide +kernel
theorem dX5_tryCase_120 : decode cX5_tryCase 120 = .ok (.getfield 50, 3) := by decide +kernel
theorem dX5_tryCase_123 : decode cX5_tryCase 123 = .ok (.iload_n 2, 1) := by decide +kernel
theorem dX5_tryCase_124 : decode cX5_tryCase 124 = .ok (.iaload, 1) := by decide +kernel
theorem dX5_tryCase_125 : decode cX5_tryCase 125 = .ok (.iastore, 1) := by decide +kernel
theorem dX5_tryCase_126 : decode cX5_tryCase 126 = .ok (.return_, 1) := by decide +kernel
theorem dX5_sentenced_0 : decode cX5_sentenced 0 = .ok (.iconst 0, 1) := by decide +kernel
theorem dX5_sentenced_1 : decode cX5_sentenced 1 = .ok (.istore_n 1, 1) := by decide +kernel
theorem dX5_sentenced_2 : decode cX5_sentenced 2 = .ok (.iconst 0, 1) := by decide +kernel
theorem dX5_sentenced_3 : decode cX5_sentenced 3 = .ok (.istore_n 2, 1) := by decide +kernel
theorem dX5_sentenced_4 : decode cX5_sentenced 4 = .ok (.iload_n 2, 1) := by decide +kernel
theorem dX5_sentenced_5 : decode cX5_sentenced 5 = .ok (.aload_n 0, 1) := by decide +kernel
theorem dX5_sentenced_6 : decode cX5_sentenced 6 = .ok (.getfield 81, 3) := by decide +kernel
theorem dX5_sentenced_9 : decode cX5_sentenced 9 = .ok (.if_icmp .ge 32, 3) := by decide +kernel
theorem dX5_sentenced_12 : decode cX5_sentenced 12 = .ok (.iload_n 1, 1) := by decide +kernel
theorem dX5_sentenced_13 : decode cX5_sentenced 13 = .ok (.aload_n 0, 1) := by decide +kernel
theorem dX5_sentenced_14 : decode cX5_sentenced 14 = .ok (.getfield 47, 3) := by decide +kernel
theorem dX5_sentenced_17 : decode cX5_sentenced 17 = .ok (.iload_n 2, 1) := by decide +kernel
theorem dX5_sentenced_18 : decode cX5_sentenced 18 = .ok (.iaload, 1) := by decide +kernel
theorem dX5_sentenced_19 : decode cX5_sentenced 19 = .ok (.iconst 1, 1) := by decide +kernel
theorem dX5_sentenced_20 : decode cX5_sentenced 20 = .ok (.if_icmp .ne 12, 3) := by decide +kernel
theorem dX5_sentenced_23 : decode cX5_sentenced 23 = .ok (.aload_n 0, 1) := by decide +kernel
theorem dX5_sentenced_24 : decode cX5_sentenced 24 = .ok (.getfield 38, 3) := by decide +kernel
theorem dX5_sentenced_27 : decode cX5_sentenced 27 = .ok (.iload_n 2, 1) := by decide +kernel
theorem dX5_sentenced_28 : decode cX5_sentenced 28 = .ok (.iaload, 1) := by decide +kernel
theorem dX5_sentenced_29 : decode cX5_sentenced 29 = .ok (.goto 4, 3) := by decide +kernel
theorem dX5_sentenced_32 : decode cX5_sentenced 32 = .ok (.iconst 0, 1) := by decide +kernel
theorem dX5_sentenced_33 : decode cX5_sentenced 33 = .ok (.iadd, 1) := by decide +kernel
theorem dX5_sentenced_34 : decode cX5_sentenced 34 = .ok (.istore_n 1, 1) := by decide +kernel
theorem dX5_sentenced_35 : decode cX5_sentenced 35 = .ok (.iinc 2 1, 3) := by decide +kernel
theorem dX5_sentenced_38 : decode cX5_sentenced 38 = .ok (.goto (-34), 3) := by decide +kernel
theorem dX5_sentenced_41 : decode cX5_sentenced 41 = .ok (.iload_n 1, 1) := by decide +kernel
theorem dX5_sentenced_42 : decode cX5_sentenced 42 = .ok (.ireturn, 1) := by decide +kernel
theorem dX5_goRow_0 : decode cX5_goRow 0 = .ok (.aload_n 0, 1) := by decide +kernel
theorem dX5_goRow_1 : decode cX5_goRow 1 = .ok (.invokevirtual 163, 3) := by decide +kernel
theorem dX5_goRow_4 : decode cX5_goRow 4 = .ok (.iconst 0, 1) := by decide +kernel
theorem dX5_goRow_5 : decode cX5_goRow 5 = .ok (.istore_n 1, 1) := by decide +kernel
theorem dX5_goRow_6 : decode cX5_goRow 6 = .ok (.iload_n 1, 1) := by decide +kernel
theorem dX5_goRow_7 : decode cX5_goRow 7 = .ok (.aload_n 0, 1) := by decide +kernel
theorem dX5_goRow_8 : decode cX5_goRow 8 = .ok (.getfield 166, 3) := by decide +kernel
theorem dX5_goRow_11 : decode cX5_goRow 11 = .ok (.if_icmp .ge 19, 3) := by decide +kernel
theorem dX5_goRow_14 : decode cX5_goRow 14 = .ok (.aload_n 0, 1) := by decide +kernel
theorem dX5_goRow_15 : decode cX5_goRow 15 = .ok (.aload_n 0, 1) := by decide +kernel
theorem dX5_goRow_16 : decode cX5_goRow 16 = .ok (.getfield 56, 3) := by decide +kernel
theorem dX5_goRow_19 : decode cX5_goRow 19 = .ok (.iload_n 1, 1) := by decide +kernel
theorem dX5_goRow_20 : decode cX5_goRow 20 = .ok (.iaload, 1) := by decide +kernel
theorem dX5_goRow_21 : decode cX5_goRow 21 = .ok (.invokevirtual 169, 3) := by decide +kernel
theorem dX5_goRow_24 : decode cX5_goRow 24 = .ok (.iinc 1 1, 3) := by decide +kernel
theorem dX5_goRow_27 : decode cX5_goRow 27 = .ok (.goto (-21), 3) := by decide +kernel
theorem dX5_goRow_30 : decode cX5_goRow 30 = .ok (.return_, 1) := by decide +kernel
theorem dX5_layNumbers_0 : decode cX5_layNumbers 0 = .ok (.aload_n 0, 1) := by decide +kernel
theorem dX5_layNumbers_1 : decode cX5_layNumbers 1 = .ok (.aload_n 0, 1) := by decide +kernel
theorem dX5_layNumbers_2 : decode cX5_layNumbers 2 = .ok (.getfield 81, 3) := by decide +kernel
theorem dX5_layNumbers_5 : decode cX5_layNumbers 5 = .ok (.putfield 166, 3) := by decide +kernel
theorem dX5_layNumbers_8 : decode cX5_layNumbers 8 = .ok (.iconst 0, 1) := by decide +kernel
theorem dX5_layNumbers_9 : decode cX5_layNumbers 9 = .ok (.istore_n 1, 1) := by decide +kernel
theorem dX5_layNumbers_10 : decode cX5_layNumbers 10 = .ok (.iload_n 1, 1) := by decide +kernel
theorem dX5_layNumbers_11 : decode cX5_layNumbers 11 = .ok (.aload_n 0, 1) := by decide +kernel
theorem dX5_layNumbers_12 : decode cX5_layNumbers 12 = .ok (.getfield 81, 3) := by decide +kernel
theorem dX5_layNumbers_15 : decode cX5_layNumbers 15 = .ok (.if_icmp .ge 16, 3) := by decide +kernel
theorem dX5_layNumbers_18 : decode cX5_layNumbers 18 = .ok (.aload_n 0, 1) := by decide +kernel
theorem dX5_layNumbers_19 : decode cX5_layNumbers 19 = .ok (.getfield 56, 3) := by decide +kernel
theorem dX5_layNumbers_22 : decode cX5_layNumbers 22 = .ok (.iload_n 1, 1) := by decide +kernel
theorem dX5_layNumbers_23 : decode cX5_layNumbers 23 = .ok (.iload_n 1, 1) := by decide +kernel
theorem dX5_layNumbers_24 : decode cX5_layNumbers 24 = .ok (.iastore, 1) := by decide +kernel
theorem dX5_layNumbers_25 : decode cX5_layNumbers 25 = .ok (.iinc 1 1, 3) := by decide +kernel
theorem dX5_layNumbers_28 : decode cX5_layNumbers 28 = .ok (.goto (-18), 3) := by decide +kernel
theorem dX5_layNumbers_31 : decode cX5_layNumbers 31 = .ok (.return_, 1) := by decide +kernel
theorem dX5_byNumbers_0 : decode cX5_byNumbers 0 = .ok (.aload_n 0, 1) := by decide +kernel
theorem dX5_byNumbers_1 : decode cX5_byNumbers 1 = .ok (.invokevirtual 173, 3) := by decide +kernel
theorem dX5_byNumbers_4 : decode cX5_byNumbers 4 = .ok (.aload_n 0, 1) := by decide +kernel
theorem dX5_byNumbers_5 : decode cX5_byNumbers 5 = .ok (.invokevirtual 176, 3) := by decide +kernel
theorem dX5_byNumbers_8 : decode cX5_byNumbers 8 = .ok (.aload_n 0, 1) := by decide +kernel
theorem dX5_byNumbers_9 : decode cX5_byNumbers 9 = .ok (.invokevirtual 179, 3) := by decide +kernel
theorem dX5_byNumbers_12 : decode cX5_byNumbers 12 = .ok (.ireturn, 1) := by decide +kernel
theorem dX5_layRow_0 : decode cX5_layRow 0 = .ok (.aload_n 0, 1) := by decide +kernel
theorem dX5_layRow_1 : decode cX5_layRow 1 = .ok (.iload_n 1, 1) := by decide +kernel
theorem dX5_layRow_2 : decode cX5_layRow 2 = .ok (.iload_n 2, 1) := by decide +kernel
theorem dX5_layRow_3 : decode cX5_layRow 3 = .ok (.iload_n 3, 1) := by decide +kernel
theorem dX5_layRow_4 : decode cX5_layRow 4 = .ok (.iload 4, 2) := by decide +kernel
theorem dX5_layRow_6 : decode cX5_layRow 6 = .ok (.invokevirtual 94, 3) := by decide +kernel
theorem dX5_layRow_9 : decode cX5_layRow 9 = .ok (.istore 5, 2) := by decide +kernel
theorem dX5_layRow_11 : decode cX5_layRow 11 = .ok (.iload 5, 2) := by decide +kernel
theorem dX5_layRow_13 : decode cX5_layRow 13 = .ok (.ifCond .eq 10, 3) := by decide +kernel
theorem dX5_layRow_16 : decode cX5_layRow 16 = .ok (.aload_n 0, 1) := by decide +kernel
theorem dX5_layRow_17 : decode cX5_layRow 17 = .ok (.iload 5, 2) := by decide +kernel
theorem dX5_layRow_19 : decode cX5_layRow 19 = .ok (.invokevirtual 98, 3) := by decide +kernel
theorem dX5_layRow_22 : decode cX5_layRow 22 = .ok (.ireturn, 1) := by decide +kernel
theorem dX5_layRow_23 : decode cX5_layRow 23 = .ok (.aload_n 0, 1) := by decide +kernel
theorem dX5_layRow_24 : decode cX5_layRow 24 = .ok (.getfield 81, 3) := by decide +kernel
theorem dX5_layRow_27 : decode cX5_layRow 27 = .ok (.ifCond .ne 6, 3) := by decide +kernel
theorem dX5_layRow_30 : decode cX5_layRow 30 = .ok (.bipush (-3), 2) := by decide +kernel
theorem dX5_layRow_32 : decode cX5_layRow 32 = .ok (.ireturn, 1) := by decide +kernel
theorem dX5_layRow_33 : decode cX5_layRow 33 = .ok (.bipush 60, 2) := by decide +kernel
theorem dX5_layRow_35 : decode cX5_layRow 35 = .ok (.iload_n 1, 1) := by decide +kernel
theorem dX5_layRow_36 : decode cX5_layRow 36 = .ok (.imul, 1) := by decide +kernel
theorem dX5_layRow_37 : decode cX5_layRow 37 = .ok (.iload_n 3, 1) := by decide +kernel
theorem dX5_layRow_38 : decode cX5_layRow 38 = .ok (.iadd, 1) := by decide +kernel
theorem dX5_layRow_39 : decode cX5_layRow 39 = .ok (.istore 6, 2) := by decide +kernel
theorem dX5_layRow_41 : decode cX5_layRow 41 = .ok (.iconst 0, 1) := by decide +kernel
theorem dX5_layRow_42 : decode cX5_layRow 42 = .ok (.istore 7, 2) := by decide +kernel
theorem dX5_layRow_44 : decode cX5_layRow 44 = .ok (.iconst 0, 1) := by decide +kernel
theorem dX5_layRow_45 : decode cX5_layRow 45 = .ok (.istore 8, 2) := by decide +kernel
theorem dX5_layRow_47 : decode cX5_layRow 47 = .ok (.iload 8, 2) := by decide +kernel
theorem dX5_layRow_49 : decode cX5_layRow 49 = .ok (.iload 4, 2) := by decide +kernel
theorem dX5_layRow_51 : decode cX5_layRow 51 = .ok (.if_icmp .ge 61, 3) := by decide +kernel
theorem dX5_layRow_54 : decode cX5_layRow 54 = .ok (.aload_n 0, 1) := by decide +kernel
theorem dX5_layRow_55 : decode cX5_layRow 55 = .ok (.getfield 16, 3) := by decide +kernel
theorem dX5_layRow_58 : decode cX5_layRow 58 = .ok (.iload 6, 2) := by decide +kernel
theorem dX5_layRow_60 : decode cX5_layRow 60 = .ok (.iload 8, 2) := by decide +kernel
theorem dX5_layRow_62 : decode cX5_layRow 62 = .ok (.iadd, 1) := by decide +kernel
theorem dX5_layRow_63 : decode cX5_layRow 63 = .ok (.iaload, 1) := by decide +kernel
theorem dX5_layRow_64 : decode cX5_layRow 64 = .ok (.istore 9, 2) := by decide +kernel
theorem dX5_layRow_66 : decode cX5_layRow 66 = .ok (.aload_n 0, 1) := by decide +kernel
theorem dX5_layRow_67 : decode cX5_layRow 67 = .ok (.iload 9, 2) := by decide +kernel
theorem dX5_layRow_69 : decode cX5_layRow 69 = .ok (.invokevirtual 143, 3) := by decide +kernel
theorem dX5_layRow_72 : decode cX5_layRow 72 = .ok (.ifCond .eq 14, 3) := by decide +kernel
theorem dX5_layRow_75 : decode cX5_layRow 75 = .ok (.iload 7, 2) := by decide +kernel
theorem dX5_layRow_77 : decode cX5_layRow 77 = .ok (.iload 9, 2) := by decide +kernel
theorem dX5_layRow_79 : decode cX5_layRow 79 = .ok (.ishr, 1) := by decide +kernel
theorem dX5_layRow_80 : decode cX5_layRow 80 = .ok (.iconst 1, 1) := by decide +kernel
theorem dX5_layRow_81 : decode cX5_layRow 81 = .ok (.iand, 1) := by decide +kernel
theorem dX5_layRow_82 : decode cX5_layRow 82 = .ok (.iconst 1, 1) := by decide +kernel
theorem dX5_layRow_83 : decode cX5_layRow 83 = .ok (.if_icmp .ne 5, 3) := by decide +kernel
theorem dX5_layRow_86 : decode cX5_layRow 86 = .ok (.iconst (-1), 1) := by decide +kernel
theorem dX5_layRow_87 : decode cX5_layRow 87 = .ok (.ireturn, 1) := by decide +kernel
theorem dX5_layRow_88 : decode cX5_layRow 88 = .ok (.iload 7, 2) := by decide +kernel
theorem dX5_layRow_90 : decode cX5_layRow 90 = .ok (.iconst 1, 1) := by decide +kernel
theorem dX5_layRow_91 : decode cX5_layRow 91 = .ok (.iload 9, 2) := by decide +kernel
theorem dX5_layRow_93 : decode cX5_layRow 93 = .ok (.ishl, 1) := by decide +kernel
theorem dX5_layRow_94 : decode cX5_layRow 94 = .ok (.ior, 1) := by decide +kernel
theorem dX5_layRow_95 : decode cX5_layRow 95 = .ok (.istore 7, 2) := by decide +kernel
theorem dX5_layRow_97 : decode cX5_layRow 97 = .ok (.aload_n 0, 1) := by decide +kernel
theorem dX5_layRow_98 : decode cX5_layRow 98 = .ok (.getfield 56, 3) := by decide +kernel
theorem dX5_layRow_101 : decode cX5_layRow 101 = .ok (.iload 8, 2) := by decide +kernel
theorem dX5_layRow_103 : decode cX5_layRow 103 = .ok (.iload 9, 2) := by decide +kernel
theorem dX5_layRow_105 : decode cX5_layRow 105 = .ok (.iastore, 1) := by decide +kernel
theorem dX5_layRow_106 : decode cX5_layRow 106 = .ok (.iinc 8 1, 3) := by decide +kernel
theorem dX5_layRow_109 : decode cX5_layRow 109 = .ok (.goto (-62), 3) := by decide +kernel
theorem dX5_layRow_112 : decode cX5_layRow 112 = .ok (.aload_n 0, 1) := by decide +kernel
theorem dX5_layRow_113 : decode cX5_layRow 113 = .ok (.iload 4, 2) := by decide +kernel
theorem dX5_layRow_115 : decode cX5_layRow 115 = .ok (.putfield 166, 3) := by decide +kernel
theorem dX5_layRow_118 : decode cX5_layRow 118 = .ok (.iconst 0, 1) := by decide +kernel
theorem dX5_layRow_119 : decode cX5_layRow 119 = .ok (.ireturn, 1) := by decide +kernel
theorem dX5_sitting_0 : decode cX5_sitting 0 = .ok (.aload_n 0, 1) := by decide +kernel
theorem dX5_sitting_1 : decode cX5_sitting 1 = .ok (.iconst 0, 1) := by decide +kernel
theorem dX5_sitting_2 : decode cX5_sitting 2 = .ok (.putfield 68, 3) := by decide +kernel
theorem dX5_sitting_5 : decode cX5_sitting 5 = .ok (.iload_n 1, 1) := by decide +kernel
theorem dX5_sitting_6 : decode cX5_sitting 6 = .ok (.invokestatic 87, 3) := by decide +kernel
theorem dX5_sitting_9 : decode cX5_sitting 9 = .ok (.ifCond .ne 5, 3) := by decide +kernel
theorem dX5_sitting_12 : decode cX5_sitting 12 = .ok (.iconst (-1), 1) := by decide +kernel
theorem dX5_sitting_13 : decode cX5_sitting 13 = .ok (.ireturn, 1) := by decide +kernel
theorem dX5_sitting_14 : decode cX5_sitting 14 = .ok (.iload_n 2, 1) := by decide +kernel
theorem dX5_sitting_15 : decode cX5_sitting 15 = .ok (.invokestatic 91, 3) := by decide +kernel
theorem dX5_sitting_18 : decode cX5_sitting 18 = .ok (.ifCond .eq 25, 3) := by decide +kernel
theorem dX5_sitting_21 : decode cX5_sitting 21 = .ok (.iload 5, 2) := by decide +kernel
theorem dX5_sitting_23 : decode cX5_sitting 23 = .ok (.iconst 0, 1) := by decide +kernel
theorem dX5_sitting_24 : decode cX5_sitting 24 = .ok (.iconst 1, 1) := by decide +kernel
theorem dX5_sitting_25 : decode cX5_sitting 25 = .ok (.invokestatic 74, 3) := by decide +kernel
theorem dX5_sitting_28 : decode cX5_sitting 28 = .ok (.ifCond .ne 18, 3) := by decide +kernel
theorem dX5_sitting_31 : decode cX5_sitting 31 = .ok (.iload 5, 2) := by decide +kernel
theorem dX5_sitting_33 : decode cX5_sitting 33 = .ok (.bipush 10, 2) := by decide +kernel
theorem dX5_sitting_35 : decode cX5_sitting 35 = .ok (.bipush 14, 2) := by decide +kernel
theorem dX5_sitting_37 : decode cX5_sitting 37 = .ok (.invokestatic 74, 3) := by decide +kernel
theorem dX5_sitting_40 : decode cX5_sitting 40 = .ok (.ifCond .ne 6, 3) := by decide +kernel
theorem dX5_sitting_43 : decode cX5_sitting 43 = .ok (.bipush (-2), 2) := by decide +kernel
theorem dX5_sitting_45 : decode cX5_sitting 45 = .ok (.ireturn, 1) := by decide +kernel
theorem dX5_sitting_46 : decode cX5_sitting 46 = .ok (.aload_n 0, 1) := by decide +kernel
theorem dX5_sitting_47 : decode cX5_sitting 47 = .ok (.iload_n 1, 1) := by decide +kernel
theorem dX5_sitting_48 : decode cX5_sitting 48 = .ok (.iload_n 2, 1) := by decide +kernel
theorem dX5_sitting_49 : decode cX5_sitting 49 = .ok (.iload_n 3, 1) := by decide +kernel
theorem dX5_sitting_50 : decode cX5_sitting 50 = .ok (.iload 4, 2) := by decide +kernel
theorem dX5_sitting_52 : decode cX5_sitting 52 = .ok (.invokevirtual 183, 3) := by decide +kernel
theorem dX5_sitting_55 : decode cX5_sitting 55 = .ok (.istore 6, 2) := by decide +kernel
theorem dX5_sitting_57 : decode cX5_sitting 57 = .ok (.iload 6, 2) := by decide +kernel
theorem dX5_sitting_59 : decode cX5_sitting 59 = .ok (.ifCond .eq 6, 3) := by decide +kernel
theorem dX5_sitting_62 : decode cX5_sitting 62 = .ok (.iload 6, 2) := by decide +kernel
theorem dX5_sitting_64 : decode cX5_sitting 64 = .ok (.ireturn, 1) := by decide +kernel
theorem dX5_sitting_65 : decode cX5_sitting 65 = .ok (.aload_n 0, 1) := by decide +kernel
theorem dX5_sitting_66 : decode cX5_sitting 66 = .ok (.invokevirtual 176, 3) := by decide +kernel
theorem dX5_sitting_69 : decode cX5_sitting 69 = .ok (.iload 5, 2) := by decide +kernel
theorem dX5_sitting_71 : decode cX5_sitting 71 = .ok (.iconst 2, 1) := by decide +kernel
theorem dX5_sitting_72 : decode cX5_sitting 72 = .ok (.if_icmp .ge 20, 3) := by decide +kernel
theorem dX5_sitting_75 : decode cX5_sitting 75 = .ok (.iload 5, 2) := by decide +kernel
theorem dX5_sitting_77 : decode cX5_sitting 77 = .ok (.ifCond .ne 10, 3) := by decide +kernel
theorem dX5_sitting_80 : decode cX5_sitting 80 = .ok (.aload_n 0, 1) := by decide +kernel
theorem dX5_sitting_81 : decode cX5_sitting 81 = .ok (.invokevirtual 179, 3) := by decide +kernel
theorem dX5_sitting_84 : decode cX5_sitting 84 = .ok (.goto 7, 3) := by decide +kernel
end
section
theorem dX5_sitting_87 : decode cX5_sitting 87 = .ok (.aload_n 0, 1) := by decide +kernel
theorem dX5_sitting_88 : decode cX5_sitting 88 = .ok (.getfield 146, 3) := by decide +kernel
theorem dX5_sitting_91 : decode cX5_sitting 91 = .ok (.ireturn, 1) := by decide +kernel
theorem dX5_sitting_92 : decode cX5_sitting 92 = .ok (.aload_n 0, 1) := by decide +kernel
theorem dX5_sitting_93 : decode cX5_sitting 93 = .ok (.iload 5, 2) := by decide +kernel
theorem dX5_sitting_95 : decode cX5_sitting 95 = .ok (.bipush 10, 2) := by decide +kernel
theorem dX5_sitting_97 : decode cX5_sitting 97 = .ok (.isub, 1) := by decide +kernel
theorem dX5_sitting_98 : decode cX5_sitting 98 = .ok (.invokevirtual 143, 3) := by decide +kernel
theorem dX5_sitting_101 : decode cX5_sitting 101 = .ok (.ifCond .eq 16, 3) := by decide +kernel
theorem dX5_sitting_104 : decode cX5_sitting 104 = .ok (.aload_n 0, 1) := by decide +kernel
theorem dX5_sitting_105 : decode cX5_sitting 105 = .ok (.getfield 47, 3) := by decide +kernel
theorem dX5_sitting_108 : decode cX5_sitting 108 = .ok (.iload 5, 2) := by decide +kernel
theorem dX5_sitting_110 : decode cX5_sitting 110 = .ok (.bipush 10, 2) := by decide +kernel
theorem dX5_sitting_112 : decode cX5_sitting 112 = .ok (.isub, 1) := by decide +kernel
theorem dX5_sitting_113 : decode cX5_sitting 113 = .ok (.iaload, 1) := by decide +kernel
theorem dX5_sitting_114 : decode cX5_sitting 114 = .ok (.goto 5, 3) := by decide +kernel
theorem dX5_sitting_117 : decode cX5_sitting 117 = .ok (.bipush (-9), 2) := by decide +kernel
theorem dX5_sitting_119 : decode cX5_sitting 119 = .ok (.ireturn, 1) := by decide +kernel
theorem dX5_votes_0 : decode cX5_votes 0 = .ok (.aload_n 0, 1) := by decide +kernel
theorem dX5_votes_1 : decode cX5_votes 1 = .ok (.iload_n 1, 1) := by decide +kernel
theorem dX5_votes_2 : decode cX5_votes 2 = .ok (.invokevirtual 143, 3) := by decide +kernel
theorem dX5_votes_5 : decode cX5_votes 5 = .ok (.ifCond .ne 5, 3) := by decide +kernel
theorem dX5_votes_8 : decode cX5_votes 8 = .ok (.iconst (-1), 1) := by decide +kernel
theorem dX5_votes_9 : decode cX5_votes 9 = .ok (.ireturn, 1) := by decide +kernel
theorem dX5_votes_10 : decode cX5_votes 10 = .ok (.iload_n 2, 1) := by decide +kernel
theorem dX5_votes_11 : decode cX5_votes 11 = .ok (.iconst 0, 1) := by decide +kernel
theorem dX5_votes_12 : decode cX5_votes 12 = .ok (.bipush 60, 2) := by decide +kernel
theorem dX5_votes_14 : decode cX5_votes 14 = .ok (.invokestatic 74, 3) := by decide +kernel
theorem dX5_votes_17 : decode cX5_votes 17 = .ok (.ifCond .ne 6, 3) := by decide +kernel
theorem dX5_votes_20 : decode cX5_votes 20 = .ok (.bipush (-2), 2) := by decide +kernel
theorem dX5_votes_22 : decode cX5_votes 22 = .ok (.ireturn, 1) := by decide +kernel
theorem dX5_votes_23 : decode cX5_votes 23 = .ok (.aload_n 0, 1) := by decide +kernel
theorem dX5_votes_24 : decode cX5_votes 24 = .ok (.invokevirtual 163, 3) := by decide +kernel
theorem dX5_votes_27 : decode cX5_votes 27 = .ok (.iconst 0, 1) := by decide +kernel
theorem dX5_votes_28 : decode cX5_votes 28 = .ok (.istore_n 3, 1) := by decide +kernel
theorem dX5_votes_29 : decode cX5_votes 29 = .ok (.iconst 0, 1) := by decide +kernel
theorem dX5_votes_30 : decode cX5_votes 30 = .ok (.istore 4, 2) := by decide +kernel
theorem dX5_votes_32 : decode cX5_votes 32 = .ok (.iload 4, 2) := by decide +kernel
theorem dX5_votes_34 : decode cX5_votes 34 = .ok (.aload_n 0, 1) := by decide +kernel
theorem dX5_votes_35 : decode cX5_votes 35 = .ok (.getfield 78, 3) := by decide +kernel
theorem dX5_votes_38 : decode cX5_votes 38 = .ok (.if_icmp .ge 42, 3) := by decide +kernel
theorem dX5_votes_41 : decode cX5_votes 41 = .ok (.iload_n 3, 1) := by decide +kernel
theorem dX5_votes_42 : decode cX5_votes 42 = .ok (.aload_n 0, 1) := by decide +kernel
theorem dX5_votes_43 : decode cX5_votes 43 = .ok (.getfield 29, 3) := by decide +kernel
theorem dX5_votes_46 : decode cX5_votes 46 = .ok (.iload 4, 2) := by decide +kernel
theorem dX5_votes_48 : decode cX5_votes 48 = .ok (.baload, 1) := by decide +kernel
theorem dX5_votes_49 : decode cX5_votes 49 = .ok (.ifCond .ne 22, 3) := by decide +kernel
theorem dX5_votes_52 : decode cX5_votes 52 = .ok (.aload_n 0, 1) := by decide +kernel
theorem dX5_votes_53 : decode cX5_votes 53 = .ok (.iload 4, 2) := by decide +kernel
theorem dX5_votes_55 : decode cX5_votes 55 = .ok (.iload_n 1, 1) := by decide +kernel
theorem dX5_votes_56 : decode cX5_votes 56 = .ok (.iload_n 2, 1) := by decide +kernel
theorem dX5_votes_57 : decode cX5_votes 57 = .ok (.iconst 0, 1) := by decide +kernel
theorem dX5_votes_58 : decode cX5_votes 58 = .ok (.invokevirtual 156, 3) := by decide +kernel
theorem dX5_votes_61 : decode cX5_votes 61 = .ok (.ifCond .eq 10, 3) := by decide +kernel
theorem dX5_votes_64 : decode cX5_votes 64 = .ok (.iconst 1, 1) := by decide +kernel
theorem dX5_votes_65 : decode cX5_votes 65 = .ok (.iload 4, 2) := by decide +kernel
theorem dX5_votes_67 : decode cX5_votes 67 = .ok (.ishl, 1) := by decide +kernel
theorem dX5_votes_68 : decode cX5_votes 68 = .ok (.goto 4, 3) := by decide +kernel
theorem dX5_votes_71 : decode cX5_votes 71 = .ok (.iconst 0, 1) := by decide +kernel
theorem dX5_votes_72 : decode cX5_votes 72 = .ok (.ior, 1) := by decide +kernel
theorem dX5_votes_73 : decode cX5_votes 73 = .ok (.istore_n 3, 1) := by decide +kernel
theorem dX5_votes_74 : decode cX5_votes 74 = .ok (.iinc 4 1, 3) := by decide +kernel
theorem dX5_votes_77 : decode cX5_votes 77 = .ok (.goto (-45), 3) := by decide +kernel
theorem dX5_votes_80 : decode cX5_votes 80 = .ok (.iload_n 3, 1) := by decide +kernel
theorem dX5_votes_81 : decode cX5_votes 81 = .ok (.ireturn, 1) := by decide +kernel
theorem dX5_swap_0 : decode cX5_swap 0 = .ok (.aload_n 0, 1) := by decide +kernel
theorem dX5_swap_1 : decode cX5_swap 1 = .ok (.getfield 56, 3) := by decide +kernel
theorem dX5_swap_4 : decode cX5_swap 4 = .ok (.iload_n 1, 1) := by decide +kernel
theorem dX5_swap_5 : decode cX5_swap 5 = .ok (.iaload, 1) := by decide +kernel
theorem dX5_swap_6 : decode cX5_swap 6 = .ok (.istore_n 3, 1) := by decide +kernel
theorem dX5_swap_7 : decode cX5_swap 7 = .ok (.aload_n 0, 1) := by decide +kernel
theorem dX5_swap_8 : decode cX5_swap 8 = .ok (.getfield 56, 3) := by decide +kernel
theorem dX5_swap_11 : decode cX5_swap 11 = .ok (.iload_n 1, 1) := by decide +kernel
theorem dX5_swap_12 : decode cX5_swap 12 = .ok (.aload_n 0, 1) := by decide +kernel
theorem dX5_swap_13 : decode cX5_swap 13 = .ok (.getfield 56, 3) := by decide +kernel
theorem dX5_swap_16 : decode cX5_swap 16 = .ok (.iload_n 2, 1) := by decide +kernel
theorem dX5_swap_17 : decode cX5_swap 17 = .ok (.iaload, 1) := by decide +kernel
theorem dX5_swap_18 : decode cX5_swap 18 = .ok (.iastore, 1) := by decide +kernel
theorem dX5_swap_19 : decode cX5_swap 19 = .ok (.aload_n 0, 1) := by decide +kernel
theorem dX5_swap_20 : decode cX5_swap 20 = .ok (.getfield 56, 3) := by decide +kernel
theorem dX5_swap_23 : decode cX5_swap 23 = .ok (.iload_n 2, 1) := by decide +kernel
theorem dX5_swap_24 : decode cX5_swap 24 = .ok (.iload_n 3, 1) := by decide +kernel
theorem dX5_swap_25 : decode cX5_swap 25 = .ok (.iastore, 1) := by decide +kernel
theorem dX5_swap_26 : decode cX5_swap 26 = .ok (.return_, 1) := by decide +kernel
theorem dX5_nextRow_0 : decode cX5_nextRow 0 = .ok (.aload_n 0, 1) := by decide +kernel
theorem dX5_nextRow_1 : decode cX5_nextRow 1 = .ok (.getfield 81, 3) := by decide +kernel
theorem dX5_nextRow_4 : decode cX5_nextRow 4 = .ok (.iconst 2, 1) := by decide +kernel
theorem dX5_nextRow_5 : decode cX5_nextRow 5 = .ok (.isub, 1) := by decide +kernel
theorem dX5_nextRow_6 : decode cX5_nextRow 6 = .ok (.istore_n 1, 1) := by decide +kernel
theorem dX5_nextRow_7 : decode cX5_nextRow 7 = .ok (.iload_n 1, 1) := by decide +kernel
theorem dX5_nextRow_8 : decode cX5_nextRow 8 = .ok (.ifCond .lt 26, 3) := by decide +kernel
theorem dX5_nextRow_11 : decode cX5_nextRow 11 = .ok (.aload_n 0, 1) := by decide +kernel
theorem dX5_nextRow_12 : decode cX5_nextRow 12 = .ok (.getfield 56, 3) := by decide +kernel
theorem dX5_nextRow_15 : decode cX5_nextRow 15 = .ok (.iload_n 1, 1) := by decide +kernel
theorem dX5_nextRow_16 : decode cX5_nextRow 16 = .ok (.iaload, 1) := by decide +kernel
theorem dX5_nextRow_17 : decode cX5_nextRow 17 = .ok (.aload_n 0, 1) := by decide +kernel
theorem dX5_nextRow_18 : decode cX5_nextRow 18 = .ok (.getfield 56, 3) := by decide +kernel
theorem dX5_nextRow_21 : decode cX5_nextRow 21 = .ok (.iload_n 1, 1) := by decide +kernel
theorem dX5_nextRow_22 : decode cX5_nextRow 22 = .ok (.iconst 1, 1) := by decide +kernel
theorem dX5_nextRow_23 : decode cX5_nextRow 23 = .ok (.iadd, 1) := by decide +kernel
theorem dX5_nextRow_24 : decode cX5_nextRow 24 = .ok (.iaload, 1) := by decide +kernel
theorem dX5_nextRow_25 : decode cX5_nextRow 25 = .ok (.if_icmp .le 9, 3) := by decide +kernel
theorem dX5_nextRow_28 : decode cX5_nextRow 28 = .ok (.iinc 1 (-1), 3) := by decide +kernel
theorem dX5_nextRow_31 : decode cX5_nextRow 31 = .ok (.goto (-24), 3) := by decide +kernel
theorem dX5_nextRow_34 : decode cX5_nextRow 34 = .ok (.iload_n 1, 1) := by decide +kernel
theorem dX5_nextRow_35 : decode cX5_nextRow 35 = .ok (.ifCond .ge 5, 3) := by decide +kernel
theorem dX5_nextRow_38 : decode cX5_nextRow 38 = .ok (.iconst 0, 1) := by decide +kernel
theorem dX5_nextRow_39 : decode cX5_nextRow 39 = .ok (.ireturn, 1) := by decide +kernel
theorem dX5_nextRow_40 : decode cX5_nextRow 40 = .ok (.aload_n 0, 1) := by decide +kernel
theorem dX5_nextRow_41 : decode cX5_nextRow 41 = .ok (.getfield 81, 3) := by decide +kernel
theorem dX5_nextRow_44 : decode cX5_nextRow 44 = .ok (.iconst 1, 1) := by decide +kernel
theorem dX5_nextRow_45 : decode cX5_nextRow 45 = .ok (.isub, 1) := by decide +kernel
theorem dX5_nextRow_46 : decode cX5_nextRow 46 = .ok (.istore_n 2, 1) := by decide +kernel
theorem dX5_nextRow_47 : decode cX5_nextRow 47 = .ok (.aload_n 0, 1) := by decide +kernel
theorem dX5_nextRow_48 : decode cX5_nextRow 48 = .ok (.getfield 56, 3) := by decide +kernel
theorem dX5_nextRow_51 : decode cX5_nextRow 51 = .ok (.iload_n 2, 1) := by decide +kernel
theorem dX5_nextRow_52 : decode cX5_nextRow 52 = .ok (.iaload, 1) := by decide +kernel
theorem dX5_nextRow_53 : decode cX5_nextRow 53 = .ok (.aload_n 0, 1) := by decide +kernel
theorem dX5_nextRow_54 : decode cX5_nextRow 54 = .ok (.getfield 56, 3) := by decide +kernel
theorem dX5_nextRow_57 : decode cX5_nextRow 57 = .ok (.iload_n 1, 1) := by decide +kernel
theorem dX5_nextRow_58 : decode cX5_nextRow 58 = .ok (.iaload, 1) := by decide +kernel
theorem dX5_nextRow_59 : decode cX5_nextRow 59 = .ok (.if_icmp .ge 9, 3) := by decide +kernel
theorem dX5_nextRow_62 : decode cX5_nextRow 62 = .ok (.iinc 2 (-1), 3) := by decide +kernel
theorem dX5_nextRow_65 : decode cX5_nextRow 65 = .ok (.goto (-18), 3) := by decide +kernel
theorem dX5_nextRow_68 : decode cX5_nextRow 68 = .ok (.aload_n 0, 1) := by decide +kernel
theorem dX5_nextRow_69 : decode cX5_nextRow 69 = .ok (.iload_n 1, 1) := by decide +kernel
theorem dX5_nextRow_70 : decode cX5_nextRow 70 = .ok (.iload_n 2, 1) := by decide +kernel
theorem dX5_nextRow_71 : decode cX5_nextRow 71 = .ok (.invokevirtual 186, 3) := by decide +kernel
theorem dX5_nextRow_74 : decode cX5_nextRow 74 = .ok (.iload_n 1, 1) := by decide +kernel
theorem dX5_nextRow_75 : decode cX5_nextRow 75 = .ok (.iconst 1, 1) := by decide +kernel
theorem dX5_nextRow_76 : decode cX5_nextRow 76 = .ok (.iadd, 1) := by decide +kernel
theorem dX5_nextRow_77 : decode cX5_nextRow 77 = .ok (.istore_n 3, 1) := by decide +kernel
theorem dX5_nextRow_78 : decode cX5_nextRow 78 = .ok (.aload_n 0, 1) := by decide +kernel
theorem dX5_nextRow_79 : decode cX5_nextRow 79 = .ok (.getfield 81, 3) := by decide +kernel
theorem dX5_nextRow_82 : decode cX5_nextRow 82 = .ok (.iconst 1, 1) := by decide +kernel
theorem dX5_nextRow_83 : decode cX5_nextRow 83 = .ok (.isub, 1) := by decide +kernel
theorem dX5_nextRow_84 : decode cX5_nextRow 84 = .ok (.istore 4, 2) := by decide +kernel
theorem dX5_nextRow_86 : decode cX5_nextRow 86 = .ok (.iload_n 3, 1) := by decide +kernel
theorem dX5_nextRow_87 : decode cX5_nextRow 87 = .ok (.iload 4, 2) := by decide +kernel
theorem dX5_nextRow_89 : decode cX5_nextRow 89 = .ok (.if_icmp .ge 19, 3) := by decide +kernel
theorem dX5_nextRow_92 : decode cX5_nextRow 92 = .ok (.aload_n 0, 1) := by decide +kernel
theorem dX5_nextRow_93 : decode cX5_nextRow 93 = .ok (.iload_n 3, 1) := by decide +kernel
theorem dX5_nextRow_94 : decode cX5_nextRow 94 = .ok (.iload 4, 2) := by decide +kernel
theorem dX5_nextRow_96 : decode cX5_nextRow 96 = .ok (.invokevirtual 186, 3) := by decide +kernel
theorem dX5_nextRow_99 : decode cX5_nextRow 99 = .ok (.iinc 3 1, 3) := by decide +kernel
theorem dX5_nextRow_102 : decode cX5_nextRow 102 = .ok (.iinc 4 (-1), 3) := by decide +kernel
theorem dX5_nextRow_105 : decode cX5_nextRow 105 = .ok (.goto (-19), 3) := by decide +kernel
theorem dX5_nextRow_108 : decode cX5_nextRow 108 = .ok (.iconst 1, 1) := by decide +kernel
theorem dX5_nextRow_109 : decode cX5_nextRow 109 = .ok (.ireturn, 1) := by decide +kernel
theorem dX5_findOrder_0 : decode cX5_findOrder 0 = .ok (.bipush (-9), 2) := by decide +kernel
theorem dX5_findOrder_2 : decode cX5_findOrder 2 = .ok (.istore_n 2, 1) := by decide +kernel
theorem dX5_findOrder_3 : decode cX5_findOrder 3 = .ok (.iconst 1, 1) := by decide +kernel
theorem dX5_findOrder_4 : decode cX5_findOrder 4 = .ok (.istore_n 3, 1) := by decide +kernel
theorem dX5_findOrder_5 : decode cX5_findOrder 5 = .ok (.aload_n 0, 1) := by decide +kernel
theorem dX5_findOrder_6 : decode cX5_findOrder 6 = .ok (.invokevirtual 173, 3) := by decide +kernel
theorem dX5_findOrder_9 : decode cX5_findOrder 9 = .ok (.iload_n 3, 1) := by decide +kernel
theorem dX5_findOrder_10 : decode cX5_findOrder 10 = .ok (.ifCond .eq 98, 3) := by decide +kernel
theorem dX5_findOrder_13 : decode cX5_findOrder 13 = .ok (.aload_n 0, 1) := by decide +kernel
theorem dX5_findOrder_14 : decode cX5_findOrder 14 = .ok (.invokevirtual 176, 3) := by decide +kernel
theorem dX5_findOrder_17 : decode cX5_findOrder 17 = .ok (.aload_n 0, 1) := by decide +kernel
theorem dX5_findOrder_18 : decode cX5_findOrder 18 = .ok (.invokevirtual 179, 3) := by decide +kernel
theorem dX5_findOrder_21 : decode cX5_findOrder 21 = .ok (.istore 4, 2) := by decide +kernel
theorem dX5_findOrder_23 : decode cX5_findOrder 23 = .ok (.iload_n 1, 1) := by decide +kernel
theorem dX5_findOrder_24 : decode cX5_findOrder 24 = .ok (.ifCond .eq 17, 3) := by decide +kernel
theorem dX5_findOrder_27 : decode cX5_findOrder 27 = .ok (.iload 4, 2) := by decide +kernel
theorem dX5_findOrder_29 : decode cX5_findOrder 29 = .ok (.iload_n 2, 1) := by decide +kernel
theorem dX5_findOrder_30 : decode cX5_findOrder 30 = .ok (.if_icmp .le 7, 3) := by decide +kernel
theorem dX5_findOrder_33 : decode cX5_findOrder 33 = .ok (.iconst 1, 1) := by decide +kernel
theorem dX5_findOrder_34 : decode cX5_findOrder 34 = .ok (.goto 18, 3) := by decide +kernel
theorem dX5_findOrder_37 : decode cX5_findOrder 37 = .ok (.iconst 0, 1) := by decide +kernel
theorem dX5_findOrder_38 : decode cX5_findOrder 38 = .ok (.goto 14, 3) := by decide +kernel
theorem dX5_findOrder_41 : decode cX5_findOrder 41 = .ok (.iload 4, 2) := by decide +kernel
theorem dX5_findOrder_43 : decode cX5_findOrder 43 = .ok (.iload_n 2, 1) := by decide +kernel
theorem dX5_findOrder_44 : decode cX5_findOrder 44 = .ok (.if_icmp .ge 7, 3) := by decide +kernel
theorem dX5_findOrder_47 : decode cX5_findOrder 47 = .ok (.iconst 1, 1) := by decide +kernel
theorem dX5_findOrder_48 : decode cX5_findOrder 48 = .ok (.goto 4, 3) := by decide +kernel
theorem dX5_findOrder_51 : decode cX5_findOrder 51 = .ok (.iconst 0, 1) := by decide +kernel
theorem dX5_findOrder_52 : decode cX5_findOrder 52 = .ok (.istore 5, 2) := by decide +kernel
theorem dX5_findOrder_54 : decode cX5_findOrder 54 = .ok (.iload_n 2, 1) := by decide +kernel
theorem dX5_findOrder_55 : decode cX5_findOrder 55 = .ok (.bipush (-9), 2) := by decide +kernel
theorem dX5_findOrder_57 : decode cX5_findOrder 57 = .ok (.if_icmp .eq 8, 3) := by decide +kernel
theorem dX5_findOrder_60 : decode cX5_findOrder 60 = .ok (.iload 5, 2) := by decide +kernel
theorem dX5_findOrder_62 : decode cX5_findOrder 62 = .ok (.ifCond .eq 38, 3) := by decide +kernel
theorem dX5_findOrder_65 : decode cX5_findOrder 65 = .ok (.iload 4, 2) := by decide +kernel
theorem dX5_findOrder_67 : decode cX5_findOrder 67 = .ok (.istore_n 2, 1) := by decide +kernel
theorem dX5_findOrder_68 : decode cX5_findOrder 68 = .ok (.iconst 0, 1) := by decide +kernel
theorem dX5_findOrder_69 : decode cX5_findOrder 69 = .ok (.istore 6, 2) := by decide +kernel
theorem dX5_findOrder_71 : decode cX5_findOrder 71 = .ok (.iload 6, 2) := by decide +kernel
theorem dX5_findOrder_73 : decode cX5_findOrder 73 = .ok (.aload_n 0, 1) := by decide +kernel
theorem dX5_findOrder_74 : decode cX5_findOrder 74 = .ok (.getfield 81, 3) := by decide +kernel
theorem dX5_findOrder_77 : decode cX5_findOrder 77 = .ok (.if_icmp .ge 23, 3) := by decide +kernel
theorem dX5_findOrder_80 : decode cX5_findOrder 80 = .ok (.aload_n 0, 1) := by decide +kernel
theorem dX5_findOrder_81 : decode cX5_findOrder 81 = .ok (.getfield 59, 3) := by decide +kernel
theorem dX5_findOrder_84 : decode cX5_findOrder 84 = .ok (.iload 6, 2) := by decide +kernel
theorem dX5_findOrder_86 : decode cX5_findOrder 86 = .ok (.aload_n 0, 1) := by decide +kernel
theorem dX5_findOrder_87 : decode cX5_findOrder 87 = .ok (.getfield 56, 3) := by decide +kernel
theorem dX5_findOrder_90 : decode cX5_findOrder 90 = .ok (.iload 6, 2) := by decide +kernel
theorem dX5_findOrder_92 : decode cX5_findOrder 92 = .ok (.iaload, 1) := by decide +kernel
theorem dX5_findOrder_93 : decode cX5_findOrder 93 = .ok (.iastore, 1) := by decide +kernel
theorem dX5_findOrder_94 : decode cX5_findOrder 94 = .ok (.iinc 6 1, 3) := by decide +kernel
theorem dX5_findOrder_97 : decode cX5_findOrder 97 = .ok (.goto (-26), 3) := by decide +kernel
theorem dX5_findOrder_100 : decode cX5_findOrder 100 = .ok (.aload_n 0, 1) := by decide +kernel
theorem dX5_findOrder_101 : decode cX5_findOrder 101 = .ok (.invokevirtual 190, 3) := by decide +kernel
theorem dX5_findOrder_104 : decode cX5_findOrder 104 = .ok (.istore_n 3, 1) := by decide +kernel
theorem dX5_findOrder_105 : decode cX5_findOrder 105 = .ok (.goto (-96), 3) := by decide +kernel
theorem dX5_findOrder_108 : decode cX5_findOrder 108 = .ok (.iload_n 2, 1) := by decide +kernel
theorem dX5_findOrder_109 : decode cX5_findOrder 109 = .ok (.ireturn, 1) := by decide +kernel
theorem dX5_order_0 : decode cX5_order 0 = .ok (.iload_n 1, 1) := by decide +kernel
theorem dX5_order_1 : decode cX5_order 1 = .ok (.iconst (-1), 1) := by decide +kernel
theorem dX5_order_2 : decode cX5_order 2 = .ok (.if_icmp .ge 5, 3) := by decide +kernel
theorem dX5_order_5 : decode cX5_order 5 = .ok (.iconst (-1), 1) := by decide +kernel
theorem dX5_order_6 : decode cX5_order 6 = .ok (.ireturn, 1) := by decide +kernel
theorem dX5_order_7 : decode cX5_order 7 = .ok (.aload_n 0, 1) := by decide +kernel
theorem dX5_order_8 : decode cX5_order 8 = .ok (.getfield 81, 3) := by decide +kernel
theorem dX5_order_11 : decode cX5_order 11 = .ok (.ifCond .ne 6, 3) := by decide +kernel
theorem dX5_order_14 : decode cX5_order 14 = .ok (.bipush (-3), 2) := by decide +kernel
theorem dX5_order_16 : decode cX5_order 16 = .ok (.ireturn, 1) := by decide +kernel
theorem dX5_order_17 : decode cX5_order 17 = .ok (.aload_n 0, 1) := by decide +kernel
theorem dX5_order_18 : decode cX5_order 18 = .ok (.iload_n 2, 1) := by decide +kernel
theorem dX5_order_19 : decode cX5_order 19 = .ok (.invokevirtual 194, 3) := by decide +kernel
theorem dX5_order_22 : decode cX5_order 22 = .ok (.istore_n 3, 1) := by decide +kernel
theorem dX5_order_23 : decode cX5_order 23 = .ok (.iload_n 1, 1) := by decide +kernel
theorem dX5_order_24 : decode cX5_order 24 = .ok (.iconst (-1), 1) := by decide +kernel
theorem dX5_order_25 : decode cX5_order 25 = .ok (.if_icmp .ne 7, 3) := by decide +kernel
theorem dX5_order_28 : decode cX5_order 28 = .ok (.iload_n 3, 1) := by decide +kernel
theorem dX5_order_29 : decode cX5_order 29 = .ok (.goto 22, 3) := by decide +kernel
theorem dX5_order_32 : decode cX5_order 32 = .ok (.iload_n 1, 1) := by decide +kernel
theorem dX5_order_33 : decode cX5_order 33 = .ok (.aload_n 0, 1) := by decide +kernel
theorem dX5_order_34 : decode cX5_order 34 = .ok (.getfield 81, 3) := by decide +kernel
theorem dX5_order_37 : decode cX5_order 37 = .ok (.if_icmp .ge 12, 3) := by decide +kernel
theorem dX5_order_40 : decode cX5_order 40 = .ok (.aload_n 0, 1) := by decide +kernel
theorem dX5_order_41 : decode cX5_order 41 = .ok (.getfield 59, 3) := by decide +kernel
theorem dX5_order_44 : decode cX5_order 44 = .ok (.iload_n 1, 1) := by decide +kernel
theorem dX5_order_45 : decode cX5_order 45 = .ok (.iaload, 1) := by decide +kernel
theorem dX5_order_46 : decode cX5_order 46 = .ok (.goto 5, 3) := by decide +kernel
theorem dX5_order_49 : decode cX5_order 49 = .ok (.bipush (-9), 2) := by decide +kernel
theorem dX5_order_51 : decode cX5_order 51 = .ok (.ireturn, 1) := by decide +kernel
theorem dX5_most_0 : decode cX5_most 0 = .ok (.aload_n 0, 1) := by decide +kernel
theorem dX5_most_1 : decode cX5_most 1 = .ok (.iload_n 1, 1) := by decide +kernel
theorem dX5_most_2 : decode cX5_most 2 = .ok (.iconst 1, 1) := by decide +kernel
theorem dX5_most_3 : decode cX5_most 3 = .ok (.invokevirtual 198, 3) := by decide +kernel
theorem dX5_most_6 : decode cX5_most 6 = .ok (.ireturn, 1) := by decide +kernel
theorem dX5_delay_0 : decode cX5_delay 0 = .ok (.aload_n 0, 1) := by decide +kernel
theorem dX5_delay_1 : decode cX5_delay 1 = .ok (.iload_n 1, 1) := by decide +kernel
theorem dX5_delay_2 : decode cX5_delay 2 = .ok (.iconst 0, 1) := by decide +kernel
theorem dX5_delay_3 : decode cX5_delay 3 = .ok (.invokevirtual 198, 3) := by decide +kernel
theorem dX5_delay_6 : decode cX5_delay 6 = .ok (.ireturn, 1) := by decide +kernel
theorem dX5_size_0 : decode cX5_size 0 = .ok (.iconst 0, 1) := by decide +kernel
theorem dX5_size_1 : decode cX5_size 1 = .ok (.istore_n 1, 1) := by decide +kernel
theorem dX5_size_2 : decode cX5_size 2 = .ok (.iload_n 0, 1) := by decide +kernel
theorem dX5_size_3 : decode cX5_size 3 = .ok (.istore_n 2, 1) := by decide +kernel
theorem dX5_size_4 : decode cX5_size 4 = .ok (.iload_n 2, 1) := by decide +kernel
theorem dX5_size_5 : decode cX5_size 5 = .ok (.ifCond .le 16, 3) := by decide +kernel
theorem dX5_size_8 : decode cX5_size 8 = .ok (.iload_n 1, 1) := by decide +kernel
theorem dX5_size_9 : decode cX5_size 9 = .ok (.iload_n 2, 1) := by decide +kernel
theorem dX5_size_10 : decode cX5_size 10 = .ok (.iconst 1, 1) := by decide +kernel
theorem dX5_size_11 : decode cX5_size 11 = .ok (.iand, 1) := by decide +kernel
theorem dX5_size_12 : decode cX5_size 12 = .ok (.iadd, 1) := by decide +kernel
theorem dX5_size_13 : decode cX5_size 13 = .ok (.istore_n 1, 1) := by decide +kernel
theorem dX5_size_14 : decode cX5_size 14 = .ok (.iload_n 2, 1) := by decide +kernel
theorem dX5_size_15 : decode cX5_size 15 = .ok (.iconst 1, 1) := by decide +kernel
theorem dX5_size_16 : decode cX5_size 16 = .ok (.ishr, 1) := by decide +kernel
theorem dX5_size_17 : decode cX5_size 17 = .ok (.istore_n 2, 1) := by decide +kernel
theorem dX5_size_18 : decode cX5_size 18 = .ok (.goto (-14), 3) := by decide +kernel
theorem dX5_size_21 : decode cX5_size 21 = .ok (.iload_n 1, 1) := by decide +kernel
theorem dX5_size_22 : decode cX5_size 22 = .ok (.ireturn, 1) := by decide +kernel
theorem dX5_sweets_0 : decode cX5_sweets 0 = .ok (.iconst 0, 1) := by decide +kernel
theorem dX5_sweets_1 : decode cX5_sweets 1 = .ok (.istore_n 1, 1) := by decide +kernel
theorem dX5_sweets_2 : decode cX5_sweets 2 = .ok (.iconst 0, 1) := by decide +kernel
theorem dX5_sweets_3 : decode cX5_sweets 3 = .ok (.istore_n 2, 1) := by decide +kernel
theorem dX5_sweets_4 : decode cX5_sweets 4 = .ok (.iload_n 2, 1) := by decide +kernel
theorem dX5_sweets_5 : decode cX5_sweets 5 = .ok (.aload_n 0, 1) := by decide +kernel
theorem dX5_sweets_6 : decode cX5_sweets 6 = .ok (.getfield 78, 3) := by decide +kernel
theorem dX5_sweets_9 : decode cX5_sweets 9 = .ok (.if_icmp .ge 28, 3) := by decide +kernel
theorem dX5_sweets_12 : decode cX5_sweets 12 = .ok (.iload_n 1, 1) := by decide +kernel
theorem dX5_sweets_13 : decode cX5_sweets 13 = .ok (.aload_n 0, 1) := by decide +kernel
theorem dX5_sweets_14 : decode cX5_sweets 14 = .ok (.getfield 25, 3) := by decide +kernel
theorem dX5_sweets_17 : decode cX5_sweets 17 = .ok (.iload_n 2, 1) := by decide +kernel
theorem dX5_sweets_18 : decode cX5_sweets 18 = .ok (.baload, 1) := by decide +kernel
theorem dX5_sweets_19 : decode cX5_sweets 19 = .ok (.ifCond .eq 9, 3) := by decide +kernel
theorem dX5_sweets_22 : decode cX5_sweets 22 = .ok (.iconst 1, 1) := by decide +kernel
theorem dX5_sweets_23 : decode cX5_sweets 23 = .ok (.iload_n 2, 1) := by decide +kernel
theorem dX5_sweets_24 : decode cX5_sweets 24 = .ok (.ishl, 1) := by decide +kernel
theorem dX5_sweets_25 : decode cX5_sweets 25 = .ok (.goto 4, 3) := by decide +kernel
theorem dX5_sweets_28 : decode cX5_sweets 28 = .ok (.iconst 0, 1) := by decide +kernel
theorem dX5_sweets_29 : decode cX5_sweets 29 = .ok (.ior, 1) := by decide +kernel
theorem dX5_sweets_30 : decode cX5_sweets 30 = .ok (.istore_n 1, 1) := by decide +kernel
theorem dX5_sweets_31 : decode cX5_sweets 31 = .ok (.iinc 2 1, 3) := by decide +kernel
theorem dX5_sweets_34 : decode cX5_sweets 34 = .ok (.goto (-30), 3) := by decide +kernel
theorem dX5_sweets_37 : decode cX5_sweets 37 = .ok (.iload_n 1, 1) := by decide +kernel
theorem dX5_sweets_38 : decode cX5_sweets 38 = .ok (.ireturn, 1) := by decide +kernel
theorem dX5_laySweets_0 : decode cX5_laySweets 0 = .ok (.iconst 0, 1) := by decide +kernel
theorem dX5_laySweets_1 : decode cX5_laySweets 1 = .ok (.istore_n 2, 1) := by decide +kernel
theorem dX5_laySweets_2 : decode cX5_laySweets 2 = .ok (.iload_n 2, 1) := by decide +kernel
theorem dX5_laySweets_3 : decode cX5_laySweets 3 = .ok (.aload_n 0, 1) := by decide +kernel
theorem dX5_laySweets_4 : decode cX5_laySweets 4 = .ok (.getfield 78, 3) := by decide +kernel
theorem dX5_laySweets_7 : decode cX5_laySweets 7 = .ok (.if_icmp .ge 29, 3) := by decide +kernel
theorem dX5_laySweets_10 : decode cX5_laySweets 10 = .ok (.aload_n 0, 1) := by decide +kernel
theorem dX5_laySweets_11 : decode cX5_laySweets 11 = .ok (.getfield 25, 3) := by decide +kernel
theorem dX5_laySweets_14 : decode cX5_laySweets 14 = .ok (.iload_n 2, 1) := by decide +kernel
theorem dX5_laySweets_15 : decode cX5_laySweets 15 = .ok (.iload_n 1, 1) := by decide +kernel
theorem dX5_laySweets_16 : decode cX5_laySweets 16 = .ok (.iload_n 2, 1) := by decide +kernel
theorem dX5_laySweets_17 : decode cX5_laySweets 17 = .ok (.ishr, 1) := by decide +kernel
theorem dX5_laySweets_18 : decode cX5_laySweets 18 = .ok (.iconst 1, 1) := by decide +kernel
theorem dX5_laySweets_19 : decode cX5_laySweets 19 = .ok (.iand, 1) := by decide +kernel
theorem dX5_laySweets_20 : decode cX5_laySweets 20 = .ok (.iconst 1, 1) := by decide +kernel
theorem dX5_laySweets_21 : decode cX5_laySweets 21 = .ok (.if_icmp .ne 7, 3) := by decide +kernel
theorem dX5_laySweets_24 : decode cX5_laySweets 24 = .ok (.iconst 1, 1) := by decide +kernel
theorem dX5_laySweets_25 : decode cX5_laySweets 25 = .ok (.goto 4, 3) := by decide +kernel
theorem dX5_laySweets_28 : decode cX5_laySweets 28 = .ok (.iconst 0, 1) := by decide +kernel
theorem dX5_laySweets_29 : decode cX5_laySweets 29 = .ok (.bastore, 1) := by decide +kernel
theorem dX5_laySweets_30 : decode cX5_laySweets 30 = .ok (.iinc 2 1, 3) := by decide +kernel
theorem dX5_laySweets_33 : decode cX5_laySweets 33 = .ok (.goto (-31), 3) := by decide +kernel
theorem dX5_laySweets_36 : decode cX5_laySweets 36 = .ok (.return_, 1) := by decide +kernel
theorem dX5_bribe_0 : decode cX5_bribe 0 = .ok (.aload_n 0, 1) := by decide +kernel
theorem dX5_bribe_1 : decode cX5_bribe 1 = .ok (.iconst 0, 1) := by decide +kernel
theorem dX5_bribe_2 : decode cX5_bribe 2 = .ok (.putfield 68, 3) := by decide +kernel
theorem dX5_bribe_5 : decode cX5_bribe 5 = .ok (.aload_n 0, 1) := by decide +kernel
theorem dX5_bribe_6 : decode cX5_bribe 6 = .ok (.iload_n 1, 1) := by decide +kernel
theorem dX5_bribe_7 : decode cX5_bribe 7 = .ok (.invokevirtual 143, 3) := by decide +kernel
theorem dX5_bribe_10 : decode cX5_bribe 10 = .ok (.ifCond .eq 10, 3) := by decide +kernel
theorem dX5_bribe_13 : decode cX5_bribe 13 = .ok (.iload_n 2, 1) := by decide +kernel
theorem dX5_bribe_14 : decode cX5_bribe 14 = .ok (.invokestatic 87, 3) := by decide +kernel
theorem dX5_bribe_17 : decode cX5_bribe 17 = .ok (.ifCond .ne 5, 3) := by decide +kernel
theorem dX5_bribe_20 : decode cX5_bribe 20 = .ok (.iconst (-1), 1) := by decide +kernel
theorem dX5_bribe_21 : decode cX5_bribe 21 = .ok (.ireturn, 1) := by decide +kernel
theorem dX5_bribe_22 : decode cX5_bribe 22 = .ok (.iload_n 3, 1) := by decide +kernel
theorem dX5_bribe_23 : decode cX5_bribe 23 = .ok (.invokestatic 91, 3) := by decide +kernel
theorem dX5_bribe_26 : decode cX5_bribe 26 = .ok (.ifCond .ne 6, 3) := by decide +kernel
theorem dX5_bribe_29 : decode cX5_bribe 29 = .ok (.bipush (-2), 2) := by decide +kernel
theorem dX5_bribe_31 : decode cX5_bribe 31 = .ok (.ireturn, 1) := by decide +kernel
theorem dX5_bribe_32 : decode cX5_bribe 32 = .ok (.aload_n 0, 1) := by decide +kernel
theorem dX5_bribe_33 : decode cX5_bribe 33 = .ok (.iload_n 2, 1) := by decide +kernel
theorem dX5_bribe_34 : decode cX5_bribe 34 = .ok (.iload_n 3, 1) := by decide +kernel
theorem dX5_bribe_35 : decode cX5_bribe 35 = .ok (.iload 4, 2) := by decide +kernel
theorem dX5_bribe_37 : decode cX5_bribe 37 = .ok (.iload 5, 2) := by decide +kernel
theorem dX5_bribe_39 : decode cX5_bribe 39 = .ok (.invokevirtual 183, 3) := by decide +kernel
theorem dX5_bribe_42 : decode cX5_bribe 42 = .ok (.istore 6, 2) := by decide +kernel
theorem dX5_bribe_44 : decode cX5_bribe 44 = .ok (.iload 6, 2) := by decide +kernel
theorem dX5_bribe_46 : decode cX5_bribe 46 = .ok (.ifCond .eq 6, 3) := by decide +kernel
theorem dX5_bribe_49 : decode cX5_bribe 49 = .ok (.iload 6, 2) := by decide +kernel
theorem dX5_bribe_51 : decode cX5_bribe 51 = .ok (.ireturn, 1) := by decide +kernel
theorem dX5_bribe_52 : decode cX5_bribe 52 = .ok (.aload_n 0, 1) := by decide +kernel
theorem dX5_bribe_53 : decode cX5_bribe 53 = .ok (.invokevirtual 202, 3) := by decide +kernel
theorem dX5_bribe_56 : decode cX5_bribe 56 = .ok (.istore 7, 2) := by decide +kernel
theorem dX5_bribe_58 : decode cX5_bribe 58 = .ok (.bipush (-9), 2) := by decide +kernel
theorem dX5_bribe_60 : decode cX5_bribe 60 = .ok (.istore 8, 2) := by decide +kernel
theorem dX5_bribe_62 : decode cX5_bribe 62 = .ok (.iconst 0, 1) := by decide +kernel
theorem dX5_bribe_63 : decode cX5_bribe 63 = .ok (.istore 9, 2) := by decide +kernel
theorem dX5_bribe_65 : decode cX5_bribe 65 = .ok (.iload 9, 2) := by decide +kernel
theorem dX5_bribe_67 : decode cX5_bribe 67 = .ok (.iconst 1, 1) := by decide +kernel
theorem dX5_bribe_68 : decode cX5_bribe 68 = .ok (.aload_n 0, 1) := by decide +kernel
theorem dX5_bribe_69 : decode cX5_bribe 69 = .ok (.getfield 78, 3) := by decide +kernel
theorem dX5_bribe_72 : decode cX5_bribe 72 = .ok (.ishl, 1) := by decide +kernel
theorem dX5_bribe_73 : decode cX5_bribe 73 = .ok (.if_icmp .ge 69, 3) := by decide +kernel
theorem dX5_bribe_76 : decode cX5_bribe 76 = .ok (.iload 9, 2) := by decide +kernel
theorem dX5_bribe_78 : decode cX5_bribe 78 = .ok (.iload 7, 2) := by decide +kernel
theorem dX5_bribe_80 : decode cX5_bribe 80 = .ok (.iand, 1) := by decide +kernel
theorem dX5_bribe_81 : decode cX5_bribe 81 = .ok (.ifCond .ne 55, 3) := by decide +kernel
theorem dX5_bribe_84 : decode cX5_bribe 84 = .ok (.iload 8, 2) := by decide +kernel
theorem dX5_bribe_86 : decode cX5_bribe 86 = .ok (.bipush (-9), 2) := by decide +kernel
theorem dX5_bribe_88 : decode cX5_bribe 88 = .ok (.if_icmp .eq 16, 3) := by decide +kernel
theorem dX5_bribe_91 : decode cX5_bribe 91 = .ok (.iload 9, 2) := by decide +kernel
theorem dX5_bribe_93 : decode cX5_bribe 93 = .ok (.invokestatic 205, 3) := by decide +kernel
theorem dX5_bribe_96 : decode cX5_bribe 96 = .ok (.iload 8, 2) := by decide +kernel
theorem dX5_bribe_98 : decode cX5_bribe 98 = .ok (.invokestatic 205, 3) := by decide +kernel
theorem dX5_bribe_101 : decode cX5_bribe 101 = .ok (.if_icmp .ge 35, 3) := by decide +kernel
theorem dX5_bribe_104 : decode cX5_bribe 104 = .ok (.aload_n 0, 1) := by decide +kernel
theorem dX5_bribe_105 : decode cX5_bribe 105 = .ok (.iload 7, 2) := by decide +kernel
theorem dX5_bribe_107 : decode cX5_bribe 107 = .ok (.iload 9, 2) := by decide +kernel
theorem dX5_bribe_109 : decode cX5_bribe 109 = .ok (.ior, 1) := by decide +kernel
theorem dX5_bribe_110 : decode cX5_bribe 110 = .ok (.invokevirtual 208, 3) := by decide +kernel
theorem dX5_bribe_113 : decode cX5_bribe 113 = .ok (.aload_n 0, 1) := by decide +kernel
theorem dX5_bribe_114 : decode cX5_bribe 114 = .ok (.invokevirtual 176, 3) := by decide +kernel
theorem dX5_bribe_117 : decode cX5_bribe 117 = .ok (.aload_n 0, 1) := by decide +kernel
theorem dX5_bribe_118 : decode cX5_bribe 118 = .ok (.getfield 47, 3) := by decide +kernel
theorem dX5_bribe_121 : decode cX5_bribe 121 = .ok (.iload_n 1, 1) := by decide +kernel
theorem dX5_bribe_122 : decode cX5_bribe 122 = .ok (.iaload, 1) := by decide +kernel
theorem dX5_bribe_123 : decode cX5_bribe 123 = .ok (.iconst 1, 1) := by decide +kernel
theorem dX5_bribe_124 : decode cX5_bribe 124 = .ok (.if_icmp .ne 8, 3) := by decide +kernel
theorem dX5_bribe_127 : decode cX5_bribe 127 = .ok (.iload 8, 2) := by decide +kernel
theorem dX5_bribe_129 : decode cX5_bribe 129 = .ok (.goto 5, 3) := by decide +kernel
theorem dX5_bribe_132 : decode cX5_bribe 132 = .ok (.iload 9, 2) := by decide +kernel
theorem dX5_bribe_134 : decode cX5_bribe 134 = .ok (.istore 8, 2) := by decide +kernel
theorem dX5_bribe_136 : decode cX5_bribe 136 = .ok (.iinc 9 1, 3) := by decide +kernel
theorem dX5_bribe_139 : decode cX5_bribe 139 = .ok (.goto (-74), 3) := by decide +kernel
theorem dX5_bribe_142 : decode cX5_bribe 142 = .ok (.aload_n 0, 1) := by decide +kernel
theorem dX5_bribe_143 : decode cX5_bribe 143 = .ok (.iload 7, 2) := by decide +kernel
theorem dX5_bribe_145 : decode cX5_bribe 145 = .ok (.invokevirtual 208, 3) := by decide +kernel
theorem dX5_bribe_148 : decode cX5_bribe 148 = .ok (.iload 8, 2) := by decide +kernel
theorem dX5_bribe_150 : decode cX5_bribe 150 = .ok (.ireturn, 1) := by decide +kernel
theorem dX5_mostByCourt_0 : decode cX5_mostByCourt 0 = .ok (.bipush (-9), 2) := by decide +kernel
theorem dX5_mostByCourt_2 : decode cX5_mostByCourt 2 = .ok (.istore_n 1, 1) := by decide +kernel
theorem dX5_mostByCourt_3 : decode cX5_mostByCourt 3 = .ok (.iconst 0, 1) := by decide +kernel
theorem dX5_mostByCourt_4 : decode cX5_mostByCourt 4 = .ok (.istore_n 2, 1) := by decide +kernel
theorem dX5_mostByCourt_5 : decode cX5_mostByCourt 5 = .ok (.iload_n 2, 1) := by decide +kernel
theorem dX5_mostByCourt_6 : decode cX5_mostByCourt 6 = .ok (.aload_n 0, 1) := by decide +kernel
theorem dX5_mostByCourt_7 : decode cX5_mostByCourt 7 = .ok (.getfield 78, 3) := by decide +kernel
theorem dX5_mostByCourt_10 : decode cX5_mostByCourt 10 = .ok (.if_icmp .ge 48, 3) := by decide +kernel
theorem dX5_mostByCourt_13 : decode cX5_mostByCourt 13 = .ok (.aload_n 0, 1) := by decide +kernel
theorem dX5_mostByCourt_14 : decode cX5_mostByCourt 14 = .ok (.getfield 29, 3) := by decide +kernel
theorem dX5_mostByCourt_17 : decode cX5_mostByCourt 17 = .ok (.iload_n 2, 1) := by decide +kernel
theorem dX5_mostByCourt_18 : decode cX5_mostByCourt 18 = .ok (.baload, 1) := by decide +kernel
theorem dX5_mostByCourt_19 : decode cX5_mostByCourt 19 = .ok (.ifCond .ne 33, 3) := by decide +kernel
theorem dX5_mostByCourt_22 : decode cX5_mostByCourt 22 = .ok (.aload_n 0, 1) := by decide +kernel
theorem dX5_mostByCourt_23 : decode cX5_mostByCourt 23 = .ok (.getfield 29, 3) := by decide +kernel
theorem dX5_mostByCourt_26 : decode cX5_mostByCourt 26 = .ok (.iload_n 2, 1) := by decide +kernel
theorem dX5_mostByCourt_27 : decode cX5_mostByCourt 27 = .ok (.iconst 1, 1) := by decide +kernel
theorem dX5_mostByCourt_28 : decode cX5_mostByCourt 28 = .ok (.bastore, 1) := by decide +kernel
theorem dX5_mostByCourt_29 : decode cX5_mostByCourt 29 = .ok (.aload_n 0, 1) := by decide +kernel
theorem dX5_mostByCourt_30 : decode cX5_mostByCourt 30 = .ok (.invokevirtual 211, 3) := by decide +kernel
theorem dX5_mostByCourt_33 : decode cX5_mostByCourt 33 = .ok (.istore_n 3, 1) := by decide +kernel
theorem dX5_mostByCourt_34 : decode cX5_mostByCourt 34 = .ok (.iload_n 3, 1) := by decide +kernel
theorem dX5_mostByCourt_35 : decode cX5_mostByCourt 35 = .ok (.iload_n 1, 1) := by decide +kernel
theorem dX5_mostByCourt_36 : decode cX5_mostByCourt 36 = .ok (.if_icmp .le 7, 3) := by decide +kernel
theorem dX5_mostByCourt_39 : decode cX5_mostByCourt 39 = .ok (.iload_n 3, 1) := by decide +kernel
theorem dX5_mostByCourt_40 : decode cX5_mostByCourt 40 = .ok (.goto 4, 3) := by decide +kernel
theorem dX5_mostByCourt_43 : decode cX5_mostByCourt 43 = .ok (.iload_n 1, 1) := by decide +kernel
theorem dX5_mostByCourt_44 : decode cX5_mostByCourt 44 = .ok (.istore_n 1, 1) := by decide +kernel
theorem dX5_mostByCourt_45 : decode cX5_mostByCourt 45 = .ok (.aload_n 0, 1) := by decide +kernel
theorem dX5_mostByCourt_46 : decode cX5_mostByCourt 46 = .ok (.getfield 29, 3) := by decide +kernel
theorem dX5_mostByCourt_49 : decode cX5_mostByCourt 49 = .ok (.iload_n 2, 1) := by decide +kernel
theorem dX5_mostByCourt_50 : decode cX5_mostByCourt 50 = .ok (.iconst 0, 1) := by decide +kernel
theorem dX5_mostByCourt_51 : decode cX5_mostByCourt 51 = .ok (.bastore, 1) := by decide +kernel
theorem dX5_mostByCourt_52 : decode cX5_mostByCourt 52 = .ok (.iinc 2 1, 3) := by decide +kernel
theorem dX5_mostByCourt_55 : decode cX5_mostByCourt 55 = .ok (.goto (-50), 3) := by decide +kernel
theorem dX5_mostByCourt_58 : decode cX5_mostByCourt 58 = .ok (.iload_n 1, 1) := by decide +kernel
theorem dX5_mostByCourt_59 : decode cX5_mostByCourt 59 = .ok (.bipush (-9), 2) := by decide +kernel
theorem dX5_mostByCourt_61 : decode cX5_mostByCourt 61 = .ok (.if_icmp .ne 10, 3) := by decide +kernel
theorem dX5_mostByCourt_64 : decode cX5_mostByCourt 64 = .ok (.aload_n 0, 1) := by decide +kernel
theorem dX5_mostByCourt_65 : decode cX5_mostByCourt 65 = .ok (.invokevirtual 211, 3) := by decide +kernel
theorem dX5_mostByCourt_68 : decode cX5_mostByCourt 68 = .ok (.goto 4, 3) := by decide +kernel
theorem dX5_mostByCourt_71 : decode cX5_mostByCourt 71 = .ok (.iload_n 1, 1) := by decide +kernel
theorem dX5_mostByCourt_72 : decode cX5_mostByCourt 72 = .ok (.ireturn, 1) := by decide +kernel
theorem dX5_strikes_0 : decode cX5_strikes 0 = .ok (.iload_n 1, 1) := by decide +kernel
theorem dX5_strikes_1 : decode cX5_strikes 1 = .ok (.iconst 0, 1) := by decide +kernel
theorem dX5_strikes_2 : decode cX5_strikes 2 = .ok (.iconst 1, 1) := by decide +kernel
theorem dX5_strikes_3 : decode cX5_strikes 3 = .ok (.invokestatic 74, 3) := by decide +kernel
theorem dX5_strikes_6 : decode cX5_strikes 6 = .ok (.ifCond .ne 6, 3) := by decide +kernel
theorem dX5_strikes_9 : decode cX5_strikes 9 = .ok (.bipush (-2), 2) := by decide +kernel
theorem dX5_strikes_11 : decode cX5_strikes 11 = .ok (.ireturn, 1) := by decide +kernel
theorem dX5_strikes_12 : decode cX5_strikes 12 = .ok (.aload_n 0, 1) := by decide +kernel
theorem dX5_strikes_13 : decode cX5_strikes 13 = .ok (.getfield 81, 3) := by decide +kernel
theorem dX5_strikes_16 : decode cX5_strikes 16 = .ok (.ifCond .ne 6, 3) := by decide +kernel
theorem dX5_strikes_19 : decode cX5_strikes 19 = .ok (.bipush (-3), 2) := by decide +kernel
theorem dX5_strikes_21 : decode cX5_strikes 21 = .ok (.ireturn, 1) := by decide +kernel
theorem dX5_strikes_22 : decode cX5_strikes 22 = .ok (.aload_n 0, 1) := by decide +kernel
theorem dX5_strikes_23 : decode cX5_strikes 23 = .ok (.invokevirtual 211, 3) := by decide +kernel
theorem dX5_strikes_26 : decode cX5_strikes 26 = .ok (.istore_n 2, 1) := by decide +kernel
theorem dX5_strikes_27 : decode cX5_strikes 27 = .ok (.bipush (-9), 2) := by decide +kernel
theorem dX5_strikes_29 : decode cX5_strikes 29 = .ok (.istore_n 3, 1) := by decide +kernel
theorem dX5_strikes_30 : decode cX5_strikes 30 = .ok (.iconst 0, 1) := by decide +kernel
theorem dX5_strikes_31 : decode cX5_strikes 31 = .ok (.istore 4, 2) := by decide +kernel
theorem dX5_strikes_33 : decode cX5_strikes 33 = .ok (.iload 4, 2) := by decide +kernel
theorem dX5_strikes_35 : decode cX5_strikes 35 = .ok (.aload_n 0, 1) := by decide +kernel
theorem dX5_strikes_36 : decode cX5_strikes 36 = .ok (.getfield 78, 3) := by decide +kernel
theorem dX5_strikes_39 : decode cX5_strikes 39 = .ok (.if_icmp .ge 59, 3) := by decide +kernel
theorem dX5_strikes_42 : decode cX5_strikes 42 = .ok (.aload_n 0, 1) := by decide +kernel
theorem dX5_strikes_43 : decode cX5_strikes 43 = .ok (.getfield 29, 3) := by decide +kernel
theorem dX5_strikes_46 : decode cX5_strikes 46 = .ok (.iload 4, 2) := by decide +kernel
theorem dX5_strikes_48 : decode cX5_strikes 48 = .ok (.baload, 1) := by decide +kernel
theorem dX5_strikes_49 : decode cX5_strikes 49 = .ok (.ifCond .ne 43, 3) := by decide +kernel
theorem dX5_strikes_52 : decode cX5_strikes 52 = .ok (.aload_n 0, 1) := by decide +kernel
theorem dX5_strikes_53 : decode cX5_strikes 53 = .ok (.getfield 29, 3) := by decide +kernel
theorem dX5_strikes_56 : decode cX5_strikes 56 = .ok (.iload 4, 2) := by decide +kernel
theorem dX5_strikes_58 : decode cX5_strikes 58 = .ok (.iconst 1, 1) := by decide +kernel
theorem dX5_strikes_59 : decode cX5_strikes 59 = .ok (.bastore, 1) := by decide +kernel
theorem dX5_strikes_60 : decode cX5_strikes 60 = .ok (.aload_n 0, 1) := by decide +kernel
theorem dX5_strikes_61 : decode cX5_strikes 61 = .ok (.invokevirtual 214, 3) := by decide +kernel
theorem dX5_strikes_64 : decode cX5_strikes 64 = .ok (.istore 5, 2) := by decide +kernel
theorem dX5_strikes_66 : decode cX5_strikes 66 = .ok (.aload_n 0, 1) := by decide +kernel
theorem dX5_strikes_67 : decode cX5_strikes 67 = .ok (.getfield 29, 3) := by decide +kernel
theorem dX5_strikes_70 : decode cX5_strikes 70 = .ok (.iload 4, 2) := by decide +kernel
theorem dX5_strikes_72 : decode cX5_strikes 72 = .ok (.iconst 0, 1) := by decide +kernel
theorem dX5_strikes_73 : decode cX5_strikes 73 = .ok (.bastore, 1) := by decide +kernel
theorem dX5_strikes_74 : decode cX5_strikes 74 = .ok (.iload_n 3, 1) := by decide +kernel
theorem dX5_strikes_75 : decode cX5_strikes 75 = .ok (.bipush (-9), 2) := by decide +kernel
theorem dX5_strikes_77 : decode cX5_strikes 77 = .ok (.if_icmp .eq 9, 3) := by decide +kernel
theorem dX5_strikes_80 : decode cX5_strikes 80 = .ok (.iload 5, 2) := by decide +kernel
theorem dX5_strikes_82 : decode cX5_strikes 82 = .ok (.iload_n 2, 1) := by decide +kernel
theorem dX5_strikes_83 : decode cX5_strikes 83 = .ok (.if_icmp .ge 9, 3) := by decide +kernel
theorem dX5_strikes_86 : decode cX5_strikes 86 = .ok (.iload 4, 2) := by decide +kernel
theorem dX5_strikes_88 : decode cX5_strikes 88 = .ok (.istore_n 3, 1) := by decide +kernel
theorem dX5_strikes_89 : decode cX5_strikes 89 = .ok (.iload 5, 2) := by decide +kernel
theorem dX5_strikes_91 : decode cX5_strikes 91 = .ok (.istore_n 2, 1) := by decide +kernel
theorem dX5_strikes_92 : decode cX5_strikes 92 = .ok (.iinc 4 1, 3) := by decide +kernel
theorem dX5_strikes_95 : decode cX5_strikes 95 = .ok (.goto (-62), 3) := by decide +kernel
theorem dX5_strikes_98 : decode cX5_strikes 98 = .ok (.iload_n 1, 1) := by decide +kernel
theorem dX5_strikes_99 : decode cX5_strikes 99 = .ok (.ifCond .ne 7, 3) := by decide +kernel
theorem dX5_strikes_102 : decode cX5_strikes 102 = .ok (.iload_n 2, 1) := by decide +kernel
theorem dX5_strikes_103 : decode cX5_strikes 103 = .ok (.goto 4, 3) := by decide +kernel
theorem dX5_strikes_106 : decode cX5_strikes 106 = .ok (.iload_n 3, 1) := by decide +kernel
theorem dX5_strikes_107 : decode cX5_strikes 107 = .ok (.ireturn, 1) := by decide +kernel
theorem dX5_worth_0 : decode cX5_worth 0 = .ok (.aload_n 0, 1) := by decide +kernel
theorem dX5_worth_1 : decode cX5_worth 1 = .ok (.iload_n 1, 1) := by decide +kernel
theorem dX5_worth_2 : decode cX5_worth 2 = .ok (.invokevirtual 140, 3) := by decide +kernel
theorem dX5_worth_5 : decode cX5_worth 5 = .ok (.ifCond .ne 5, 3) := by decide +kernel
theorem dX5_worth_8 : decode cX5_worth 8 = .ok (.iconst (-1), 1) := by decide +kernel
theorem dX5_worth_9 : decode cX5_worth 9 = .ok (.ireturn, 1) := by decide +kernel
theorem dX5_worth_10 : decode cX5_worth 10 = .ok (.aload_n 0, 1) := by decide +kernel
theorem dX5_worth_11 : decode cX5_worth 11 = .ok (.invokevirtual 211, 3) := by decide +kernel
theorem dX5_worth_14 : decode cX5_worth 14 = .ok (.istore_n 2, 1) := by decide +kernel
theorem dX5_worth_15 : decode cX5_worth 15 = .ok (.aload_n 0, 1) := by decide +kernel
theorem dX5_worth_16 : decode cX5_worth 16 = .ok (.getfield 29, 3) := by decide +kernel
theorem dX5_worth_19 : decode cX5_worth 19 = .ok (.iload_n 1, 1) := by decide +kernel
theorem dX5_worth_20 : decode cX5_worth 20 = .ok (.baload, 1) := by decide +kernel
theorem dX5_worth_21 : decode cX5_worth 21 = .ok (.istore_n 3, 1) := by decide +kernel
theorem dX5_worth_22 : decode cX5_worth 22 = .ok (.aload_n 0, 1) := by decide +kernel
theorem dX5_worth_23 : decode cX5_worth 23 = .ok (.getfield 29, 3) := by decide +kernel
theorem dX5_worth_26 : decode cX5_worth 26 = .ok (.iload_n 1, 1) := by decide +kernel
theorem dX5_worth_27 : decode cX5_worth 27 = .ok (.iconst 1, 1) := by decide +kernel
theorem dX5_worth_28 : decode cX5_worth 28 = .ok (.bastore, 1) := by decide +kernel
theorem dX5_worth_29 : decode cX5_worth 29 = .ok (.aload_n 0, 1) := by decide +kernel
theorem dX5_worth_30 : decode cX5_worth 30 = .ok (.invokevirtual 211, 3) := by decide +kernel
theorem dX5_worth_33 : decode cX5_worth 33 = .ok (.istore 4, 2) := by decide +kernel
theorem dX5_worth_35 : decode cX5_worth 35 = .ok (.aload_n 0, 1) := by decide +kernel
theorem dX5_worth_36 : decode cX5_worth 36 = .ok (.getfield 29, 3) := by decide +kernel
theorem dX5_worth_39 : decode cX5_worth 39 = .ok (.iload_n 1, 1) := by decide +kernel
theorem dX5_worth_40 : decode cX5_worth 40 = .ok (.iload_n 3, 1) := by decide +kernel
theorem dX5_worth_41 : decode cX5_worth 41 = .ok (.bastore, 1) := by decide +kernel
theorem dX5_worth_42 : decode cX5_worth 42 = .ok (.iload_n 2, 1) := by decide +kernel
theorem dX5_worth_43 : decode cX5_worth 43 = .ok (.iload 4, 2) := by decide +kernel
theorem dX5_worth_45 : decode cX5_worth 45 = .ok (.isub, 1) := by decide +kernel
theorem dX5_worth_46 : decode cX5_worth 46 = .ok (.bipush 100, 2) := by decide +kernel
theorem dX5_worth_48 : decode cX5_worth 48 = .ok (.iadd, 1) := by decide +kernel
theorem dX5_worth_49 : decode cX5_worth 49 = .ok (.ireturn, 1) := by decide +kernel
theorem dX5_reading_0 : decode cX5_reading 0 = .ok (.aload_n 0, 1) := by decide +kernel
theorem dX5_reading_1 : decode cX5_reading 1 = .ok (.iload_n 1, 1) := by decide +kernel
theorem dX5_reading_2 : decode cX5_reading 2 = .ok (.invokevirtual 143, 3) := by decide +kernel
theorem dX5_reading_5 : decode cX5_reading 5 = .ok (.ifCond .ne 5, 3) := by decide +kernel
theorem dX5_reading_8 : decode cX5_reading 8 = .ok (.iconst (-1), 1) := by decide +kernel
theorem dX5_reading_9 : decode cX5_reading 9 = .ok (.ireturn, 1) := by decide +kernel
theorem dX5_reading_10 : decode cX5_reading 10 = .ok (.iload_n 2, 1) := by decide +kernel
theorem dX5_reading_11 : decode cX5_reading 11 = .ok (.iconst 0, 1) := by decide +kernel
theorem dX5_reading_12 : decode cX5_reading 12 = .ok (.iconst 2, 1) := by decide +kernel
theorem dX5_reading_13 : decode cX5_reading 13 = .ok (.invokestatic 74, 3) := by decide +kernel
theorem dX5_reading_16 : decode cX5_reading 16 = .ok (.ifCond .ne 6, 3) := by decide +kernel
theorem dX5_reading_19 : decode cX5_reading 19 = .ok (.bipush (-2), 2) := by decide +kernel
theorem dX5_reading_21 : decode cX5_reading 21 = .ok (.ireturn, 1) := by decide +kernel
theorem dX5_reading_22 : decode cX5_reading 22 = .ok (.aload_n 0, 1) := by decide +kernel
theorem dX5_reading_23 : decode cX5_reading 23 = .ok (.getfield 120, 3) := by decide +kernel
theorem dX5_reading_26 : decode cX5_reading 26 = .ok (.bipush 8, 2) := by decide +kernel
theorem dX5_reading_28 : decode cX5_reading 28 = .ok (.if_icmp .ne 6, 3) := by decide +kernel
theorem dX5_reading_31 : decode cX5_reading 31 = .ok (.bipush (-4), 2) := by decide +kernel
theorem dX5_reading_33 : decode cX5_reading 33 = .ok (.ireturn, 1) := by decide +kernel
theorem dX5_reading_34 : decode cX5_reading 34 = .ok (.aload_n 0, 1) := by decide +kernel
theorem dX5_reading_35 : decode cX5_reading 35 = .ok (.getfield 62, 3) := by decide +kernel
theorem dX5_reading_38 : decode cX5_reading 38 = .ok (.aload_n 0, 1) := by decide +kernel
theorem dX5_reading_39 : decode cX5_reading 39 = .ok (.getfield 120, 3) := by decide +kernel
theorem dX5_reading_42 : decode cX5_reading 42 = .ok (.iload_n 1, 1) := by decide +kernel
theorem dX5_reading_43 : decode cX5_reading 43 = .ok (.iastore, 1) := by decide +kernel
theorem dX5_reading_44 : decode cX5_reading 44 = .ok (.aload_n 0, 1) := by decide +kernel
theorem dX5_reading_45 : decode cX5_reading 45 = .ok (.getfield 65, 3) := by decide +kernel
theorem dX5_reading_48 : decode cX5_reading 48 = .ok (.aload_n 0, 1) := by decide +kernel
theorem dX5_reading_49 : decode cX5_reading 49 = .ok (.getfield 120, 3) := by decide +kernel
theorem dX5_reading_52 : decode cX5_reading 52 = .ok (.iload_n 2, 1) := by decide +kernel
theorem dX5_reading_53 : decode cX5_reading 53 = .ok (.iastore, 1) := by decide +kernel
theorem dX5_reading_54 : decode cX5_reading 54 = .ok (.aload_n 0, 1) := by decide +kernel
theorem dX5_reading_55 : decode cX5_reading 55 = .ok (.dup, 1) := by decide +kernel
theorem dX5_reading_56 : decode cX5_reading 56 = .ok (.getfield 120, 3) := by decide +kernel
theorem dX5_reading_59 : decode cX5_reading 59 = .ok (.iconst 1, 1) := by decide +kernel
theorem dX5_reading_60 : decode cX5_reading 60 = .ok (.iadd, 1) := by decide +kernel
theorem dX5_reading_61 : decode cX5_reading 61 = .ok (.putfield 120, 3) := by decide +kernel
theorem dX5_reading_64 : decode cX5_reading 64 = .ok (.aload_n 0, 1) := by decide +kernel
theorem dX5_reading_65 : decode cX5_reading 65 = .ok (.getfield 120, 3) := by decide +kernel
theorem dX5_reading_68 : decode cX5_reading 68 = .ok (.iconst 1, 1) := by decide +kernel
theorem dX5_reading_69 : decode cX5_reading 69 = .ok (.isub, 1) := by decide +kernel
theorem dX5_reading_70 : decode cX5_reading 70 = .ok (.ireturn, 1) := by decide +kernel
theorem dX5_back_0 : decode cX5_back 0 = .ok (.iload_n 1, 1) := by decide +kernel
theorem dX5_back_1 : decode cX5_back 1 = .ok (.iconst 0, 1) := by decide +kernel
theorem dX5_back_2 : decode cX5_back 2 = .ok (.aload_n 0, 1) := by decide +kernel
theorem dX5_back_3 : decode cX5_back 3 = .ok (.getfield 120, 3) := by decide +kernel
theorem dX5_back_6 : decode cX5_back 6 = .ok (.invokestatic 74, 3) := by decide +kernel
theorem dX5_back_9 : decode cX5_back 9 = .ok (.ifCond .ne 6, 3) := by decide +kernel
theorem dX5_back_12 : decode cX5_back 12 = .ok (.bipush (-2), 2) := by decide +kernel
theorem dX5_back_14 : decode cX5_back 14 = .ok (.ireturn, 1) := by decide +kernel
theorem dX5_back_15 : decode cX5_back 15 = .ok (.aload_n 0, 1) := by decide +kernel
theorem dX5_back_16 : decode cX5_back 16 = .ok (.dup, 1) := by decide +kernel
theorem dX5_back_17 : decode cX5_back 17 = .ok (.getfield 120, 3) := by decide +kernel
theorem dX5_back_20 : decode cX5_back 20 = .ok (.iload_n 1, 1) := by decide +kernel
theorem dX5_back_21 : decode cX5_back 21 = .ok (.isub, 1) := by decide +kernel
theorem dX5_back_22 : decode cX5_back 22 = .ok (.putfield 120, 3) := by decide +kernel
theorem dX5_back_25 : decode cX5_back 25 = .ok (.aload_n 0, 1) := by decide +kernel
theorem dX5_back_26 : decode cX5_back 26 = .ok (.getfield 120, 3) := by decide +kernel
theorem dX5_back_29 : decode cX5_back 29 = .ok (.ireturn, 1) := by decide +kernel
theorem dX5_areSo_0 : decode cX5_areSo 0 = .ok (.aload_n 0, 1) := by decide +kernel
theorem dX5_areSo_1 : decode cX5_areSo 1 = .ok (.invokevirtual 211, 3) := by decide +kernel
theorem dX5_areSo_4 : decode cX5_areSo 4 = .ok (.pop, 1) := by decide +kernel
theorem dX5_areSo_5 : decode cX5_areSo 5 = .ok (.iconst 0, 1) := by decide +kernel
theorem dX5_areSo_6 : decode cX5_areSo 6 = .ok (.istore_n 1, 1) := by decide +kernel
theorem dX5_areSo_7 : decode cX5_areSo 7 = .ok (.iload_n 1, 1) := by decide +kernel
theorem dX5_areSo_8 : decode cX5_areSo 8 = .ok (.aload_n 0, 1) := by decide +kernel
theorem dX5_areSo_9 : decode cX5_areSo 9 = .ok (.getfield 120, 3) := by decide +kernel
theorem dX5_areSo_12 : decode cX5_areSo 12 = .ok (.if_icmp .ge 31, 3) := by decide +kernel
theorem dX5_areSo_15 : decode cX5_areSo 15 = .ok (.aload_n 0, 1) := by decide +kernel
theorem dX5_areSo_16 : decode cX5_areSo 16 = .ok (.getfield 47, 3) := by decide +kernel
theorem dX5_areSo_19 : decode cX5_areSo 19 = .ok (.aload_n 0, 1) := by decide +kernel
theorem dX5_areSo_20 : decode cX5_areSo 20 = .ok (.getfield 62, 3) := by decide +kernel
theorem dX5_areSo_23 : decode cX5_areSo 23 = .ok (.iload_n 1, 1) := by decide +kernel
theorem dX5_areSo_24 : decode cX5_areSo 24 = .ok (.iaload, 1) := by decide +kernel
theorem dX5_areSo_25 : decode cX5_areSo 25 = .ok (.iaload, 1) := by decide +kernel
theorem dX5_areSo_26 : decode cX5_areSo 26 = .ok (.aload_n 0, 1) := by decide +kernel
theorem dX5_areSo_27 : decode cX5_areSo 27 = .ok (.getfield 65, 3) := by decide +kernel
theorem dX5_areSo_30 : decode cX5_areSo 30 = .ok (.iload_n 1, 1) := by decide +kernel
theorem dX5_areSo_31 : decode cX5_areSo 31 = .ok (.iaload, 1) := by decide +kernel
theorem dX5_areSo_32 : decode cX5_areSo 32 = .ok (.if_icmp .eq 5, 3) := by decide +kernel
theorem dX5_areSo_35 : decode cX5_areSo 35 = .ok (.iconst 0, 1) := by decide +kernel
theorem dX5_areSo_36 : decode cX5_areSo 36 = .ok (.ireturn, 1) := by decide +kernel
theorem dX5_areSo_37 : decode cX5_areSo 37 = .ok (.iinc 1 1, 3) := by decide +kernel
theorem dX5_areSo_40 : decode cX5_areSo 40 = .ok (.goto (-33), 3) := by decide +kernel
theorem dX5_areSo_43 : decode cX5_areSo 43 = .ok (.iconst 1, 1) := by decide +kernel
theorem dX5_areSo_44 : decode cX5_areSo 44 = .ok (.ireturn, 1) := by decide +kernel
theorem dX5_codes_0 : decode cX5_codes 0 = .ok (.iload_n 1, 1) := by decide +kernel
theorem dX5_codes_1 : decode cX5_codes 1 = .ok (.iconst 0, 1) := by decide +kernel
theorem dX5_codes_2 : decode cX5_codes 2 = .ok (.iconst 2, 1) := by decide +kernel
theorem dX5_codes_3 : decode cX5_codes 3 = .ok (.invokestatic 74, 3) := by decide +kernel
theorem dX5_codes_6 : decode cX5_codes 6 = .ok (.ifCond .ne 6, 3) := by decide +kernel
theorem dX5_codes_9 : decode cX5_codes 9 = .ok (.bipush (-2), 2) := by decide +kernel
theorem dX5_codes_11 : decode cX5_codes 11 = .ok (.ireturn, 1) := by decide +kernel
theorem dX5_codes_12 : decode cX5_codes 12 = .ok (.aload_n 0, 1) := by decide +kernel
theorem dX5_codes_13 : decode cX5_codes 13 = .ok (.getfield 81, 3) := by decide +kernel
theorem dX5_codes_16 : decode cX5_codes 16 = .ok (.ifCond .ne 6, 3) := by decide +kernel
theorem dX5_codes_19 : decode cX5_codes 19 = .ok (.bipush (-3), 2) := by decide +kernel
theorem dX5_codes_21 : decode cX5_codes 21 = .ok (.ireturn, 1) := by decide +kernel
theorem dX5_codes_22 : decode cX5_codes 22 = .ok (.aload_n 0, 1) := by decide +kernel
theorem dX5_codes_23 : decode cX5_codes 23 = .ok (.getfield 117, 3) := by decide +kernel
theorem dX5_codes_26 : decode cX5_codes 26 = .ok (.istore_n 2, 1) := by decide +kernel
theorem dX5_codes_27 : decode cX5_codes 27 = .ok (.iconst 0, 1) := by decide +kernel
theorem dX5_codes_28 : decode cX5_codes 28 = .ok (.istore_n 3, 1) := by decide +kernel
theorem dX5_codes_29 : decode cX5_codes 29 = .ok (.bipush (-9), 2) := by decide +kernel
theorem dX5_codes_31 : decode cX5_codes 31 = .ok (.istore 4, 2) := by decide +kernel
theorem dX5_codes_33 : decode cX5_codes 33 = .ok (.bipush (-9), 2) := by decide +kernel
theorem dX5_codes_35 : decode cX5_codes 35 = .ok (.istore 5, 2) := by decide +kernel
theorem dX5_codes_37 : decode cX5_codes 37 = .ok (.iconst 0, 1) := by decide +kernel
theorem dX5_codes_38 : decode cX5_codes 38 = .ok (.istore 6, 2) := by decide +kernel
theorem dX5_codes_40 : decode cX5_codes 40 = .ok (.iload 6, 2) := by decide +kernel
theorem dX5_codes_42 : decode cX5_codes 42 = .ok (.bipush 64, 2) := by decide +kernel
theorem dX5_codes_44 : decode cX5_codes 44 = .ok (.if_icmp .ge 67, 3) := by decide +kernel
theorem dX5_codes_47 : decode cX5_codes 47 = .ok (.aload_n 0, 1) := by decide +kernel
theorem dX5_codes_48 : decode cX5_codes 48 = .ok (.iload 6, 2) := by decide +kernel
theorem dX5_codes_50 : decode cX5_codes 50 = .ok (.putfield 117, 3) := by decide +kernel
theorem dX5_codes_53 : decode cX5_codes 53 = .ok (.aload_n 0, 1) := by decide +kernel
theorem dX5_codes_54 : decode cX5_codes 54 = .ok (.invokevirtual 217, 3) := by decide +kernel
theorem dX5_codes_57 : decode cX5_codes 57 = .ok (.ifCond .eq 48, 3) := by decide +kernel
theorem dX5_codes_60 : decode cX5_codes 60 = .ok (.iload_n 3, 1) := by decide +kernel
theorem dX5_codes_61 : decode cX5_codes 61 = .ok (.ifCond .ne 8, 3) := by decide +kernel
theorem dX5_codes_64 : decode cX5_codes 64 = .ok (.iload 6, 2) := by decide +kernel
theorem dX5_codes_66 : decode cX5_codes 66 = .ok (.goto 5, 3) := by decide +kernel
theorem dX5_codes_69 : decode cX5_codes 69 = .ok (.iload 4, 2) := by decide +kernel
theorem dX5_codes_71 : decode cX5_codes 71 = .ok (.istore 4, 2) := by decide +kernel
theorem dX5_codes_73 : decode cX5_codes 73 = .ok (.iload 5, 2) := by decide +kernel
theorem dX5_codes_75 : decode cX5_codes 75 = .ok (.bipush (-9), 2) := by decide +kernel
theorem dX5_codes_77 : decode cX5_codes 77 = .ok (.if_icmp .eq 16, 3) := by decide +kernel
theorem dX5_codes_80 : decode cX5_codes 80 = .ok (.iload 6, 2) := by decide +kernel
theorem dX5_codes_82 : decode cX5_codes 82 = .ok (.invokestatic 205, 3) := by decide +kernel
theorem dX5_codes_85 : decode cX5_codes 85 = .ok (.iload 5, 2) := by decide +kernel
theorem dX5_codes_87 : decode cX5_codes 87 = .ok (.invokestatic 205, 3) := by decide +kernel
theorem dX5_codes_90 : decode cX5_codes 90 = .ok (.if_icmp .ge 8, 3) := by decide +kernel
theorem dX5_codes_93 : decode cX5_codes 93 = .ok (.iload 6, 2) := by decide +kernel
theorem dX5_codes_95 : decode cX5_codes 95 = .ok (.goto 5, 3) := by decide +kernel
theorem dX5_codes_98 : decode cX5_codes 98 = .ok (.iload 5, 2) := by decide +kernel
theorem dX5_codes_100 : decode cX5_codes 100 = .ok (.istore 5, 2) := by decide +kernel
theorem dX5_codes_102 : decode cX5_codes 102 = .ok (.iinc 3 1, 3) := by decide +kernel
theorem dX5_codes_105 : decode cX5_codes 105 = .ok (.iinc 6 1, 3) := by decide +kernel
theorem dX5_codes_108 : decode cX5_codes 108 = .ok (.goto (-68), 3) := by decide +kernel
theorem dX5_codes_111 : decode cX5_codes 111 = .ok (.aload_n 0, 1) := by decide +kernel
theorem dX5_codes_112 : decode cX5_codes 112 = .ok (.iload_n 2, 1) := by decide +kernel
theorem dX5_codes_113 : decode cX5_codes 113 = .ok (.putfield 117, 3) := by decide +kernel
theorem dX5_codes_116 : decode cX5_codes 116 = .ok (.iload_n 1, 1) := by decide +kernel
theorem dX5_codes_117 : decode cX5_codes 117 = .ok (.ifCond .ne 7, 3) := by decide +kernel
theorem dX5_codes_120 : decode cX5_codes 120 = .ok (.iload_n 3, 1) := by decide +kernel
theorem dX5_codes_121 : decode cX5_codes 121 = .ok (.goto 15, 3) := by decide +kernel
theorem dX5_codes_124 : decode cX5_codes 124 = .ok (.iload_n 1, 1) := by decide +kernel
theorem dX5_codes_125 : decode cX5_codes 125 = .ok (.iconst 1, 1) := by decide +kernel
theorem dX5_codes_126 : decode cX5_codes 126 = .ok (.if_icmp .ne 8, 3) := by decide +kernel
theorem dX5_codes_129 : decode cX5_codes 129 = .ok (.iload 4, 2) := by decide +kernel
theorem dX5_codes_131 : decode cX5_codes 131 = .ok (.goto 5, 3) := by decide +kernel
theorem dX5_codes_134 : decode cX5_codes 134 = .ok (.iload 5, 2) := by decide +kernel
theorem dX5_codes_136 : decode cX5_codes 136 = .ok (.ireturn, 1) := by decide +kernel
theorem dX5_kinds_0 : decode cX5_kinds 0 = .ok (.aload_n 0, 1) := by decide +kernel
theorem dX5_kinds_1 : decode cX5_kinds 1 = .ok (.iload_n 1, 1) := by decide +kernel
theorem dX5_kinds_2 : decode cX5_kinds 2 = .ok (.invokevirtual 140, 3) := by decide +kernel
theorem dX5_kinds_5 : decode cX5_kinds 5 = .ok (.ifCond .ne 5, 3) := by decide +kernel
theorem dX5_kinds_8 : decode cX5_kinds 8 = .ok (.iconst (-1), 1) := by decide +kernel
theorem dX5_kinds_9 : decode cX5_kinds 9 = .ok (.ireturn, 1) := by decide +kernel
theorem dX5_kinds_10 : decode cX5_kinds 10 = .ok (.aload_n 0, 1) := by decide +kernel
theorem dX5_kinds_11 : decode cX5_kinds 11 = .ok (.getfield 19, 3) := by decide +kernel
theorem dX5_kinds_14 : decode cX5_kinds 14 = .ok (.iload_n 1, 1) := by decide +kernel
theorem dX5_kinds_15 : decode cX5_kinds 15 = .ok (.iaload, 1) := by decide +kernel
theorem dX5_kinds_16 : decode cX5_kinds 16 = .ok (.istore_n 2, 1) := by decide +kernel
theorem dX5_kinds_17 : decode cX5_kinds 17 = .ok (.iconst 0, 1) := by decide +kernel
theorem dX5_kinds_18 : decode cX5_kinds 18 = .ok (.istore_n 3, 1) := by decide +kernel
theorem dX5_kinds_19 : decode cX5_kinds 19 = .ok (.iconst 0, 1) := by decide +kernel
theorem dX5_kinds_20 : decode cX5_kinds 20 = .ok (.istore 4, 2) := by decide +kernel
theorem dX5_kinds_22 : decode cX5_kinds 22 = .ok (.iload 4, 2) := by decide +kernel
theorem dX5_kinds_24 : decode cX5_kinds 24 = .ok (.iconst 3, 1) := by decide +kernel
theorem dX5_kinds_25 : decode cX5_kinds 25 = .ok (.if_icmp .ge 35, 3) := by decide +kernel
theorem dX5_kinds_28 : decode cX5_kinds 28 = .ok (.aload_n 0, 1) := by decide +kernel
theorem dX5_kinds_29 : decode cX5_kinds 29 = .ok (.getfield 19, 3) := by decide +kernel
theorem dX5_kinds_32 : decode cX5_kinds 32 = .ok (.iload_n 1, 1) := by decide +kernel
theorem dX5_kinds_33 : decode cX5_kinds 33 = .ok (.iload 4, 2) := by decide +kernel
theorem dX5_kinds_35 : decode cX5_kinds 35 = .ok (.iastore, 1) := by decide +kernel
theorem dX5_kinds_36 : decode cX5_kinds 36 = .ok (.iload_n 3, 1) := by decide +kernel
theorem dX5_kinds_37 : decode cX5_kinds 37 = .ok (.aload_n 0, 1) := by decide +kernel
theorem dX5_kinds_38 : decode cX5_kinds 38 = .ok (.invokevirtual 217, 3) := by decide +kernel
theorem dX5_kinds_41 : decode cX5_kinds 41 = .ok (.ifCond .eq 10, 3) := by decide +kernel
theorem dX5_kinds_44 : decode cX5_kinds 44 = .ok (.iconst 1, 1) := by decide +kernel
theorem dX5_kinds_45 : decode cX5_kinds 45 = .ok (.iload 4, 2) := by decide +kernel
theorem dX5_kinds_47 : decode cX5_kinds 47 = .ok (.ishl, 1) := by decide +kernel
theorem dX5_kinds_48 : decode cX5_kinds 48 = .ok (.goto 4, 3) := by decide +kernel
theorem dX5_kinds_51 : decode cX5_kinds 51 = .ok (.iconst 0, 1) := by decide +kernel
theorem dX5_kinds_52 : decode cX5_kinds 52 = .ok (.ior, 1) := by decide +kernel
theorem dX5_kinds_53 : decode cX5_kinds 53 = .ok (.istore_n 3, 1) := by decide +kernel
theorem dX5_kinds_54 : decode cX5_kinds 54 = .ok (.iinc 4 1, 3) := by decide +kernel
theorem dX5_kinds_57 : decode cX5_kinds 57 = .ok (.goto (-35), 3) := by decide +kernel
theorem dX5_kinds_60 : decode cX5_kinds 60 = .ok (.aload_n 0, 1) := by decide +kernel
theorem dX5_kinds_61 : decode cX5_kinds 61 = .ok (.getfield 19, 3) := by decide +kernel
theorem dX5_kinds_64 : decode cX5_kinds 64 = .ok (.iload_n 1, 1) := by decide +kernel
theorem dX5_kinds_65 : decode cX5_kinds 65 = .ok (.iload_n 2, 1) := by decide +kernel
theorem dX5_kinds_66 : decode cX5_kinds 66 = .ok (.iastore, 1) := by decide +kernel
theorem dX5_kinds_67 : decode cX5_kinds 67 = .ok (.iload_n 3, 1) := by decide +kernel
theorem dX5_kinds_68 : decode cX5_kinds 68 = .ok (.ireturn, 1) := by decide +kernel
theorem dX5_treated_0 : decode cX5_treated 0 = .ok (.aload_n 0, 1) := by decide +kernel
theorem dX5_treated_1 : decode cX5_treated 1 = .ok (.getfield 81, 3) := by decide +kernel
theorem dX5_treated_4 : decode cX5_treated 4 = .ok (.ifCond .ne 6, 3) := by decide +kernel
theorem dX5_treated_7 : decode cX5_treated 7 = .ok (.bipush (-3), 2) := by decide +kernel
theorem dX5_treated_9 : decode cX5_treated 9 = .ok (.ireturn, 1) := by decide +kernel
theorem dX5_treated_10 : decode cX5_treated 10 = .ok (.iconst 0, 1) := by decide +kernel
theorem dX5_treated_11 : decode cX5_treated 11 = .ok (.istore_n 1, 1) := by decide +kernel
theorem dX5_treated_12 : decode cX5_treated 12 = .ok (.iconst 0, 1) := by decide +kernel
theorem dX5_treated_13 : decode cX5_treated 13 = .ok (.istore_n 2, 1) := by decide +kernel
theorem dX5_treated_14 : decode cX5_treated 14 = .ok (.iload_n 2, 1) := by decide +kernel
theorem dX5_treated_15 : decode cX5_treated 15 = .ok (.aload_n 0, 1) := by decide +kernel
theorem dX5_treated_16 : decode cX5_treated 16 = .ok (.getfield 78, 3) := by decide +kernel
theorem dX5_treated_19 : decode cX5_treated 19 = .ok (.if_icmp .ge 47, 3) := by decide +kernel
theorem dX5_treated_22 : decode cX5_treated 22 = .ok (.aload_n 0, 1) := by decide +kernel
theorem dX5_treated_23 : decode cX5_treated 23 = .ok (.getfield 25, 3) := by decide +kernel
theorem dX5_treated_26 : decode cX5_treated 26 = .ok (.iload_n 2, 1) := by decide +kernel
theorem dX5_treated_27 : decode cX5_treated 27 = .ok (.baload, 1) := by decide +kernel
theorem dX5_treated_28 : decode cX5_treated 28 = .ok (.istore_n 3, 1) := by decide +kernel
theorem dX5_treated_29 : decode cX5_treated 29 = .ok (.aload_n 0, 1) := by decide +kernel
theorem dX5_treated_30 : decode cX5_treated 30 = .ok (.getfield 25, 3) := by decide +kernel
theorem dX5_treated_33 : decode cX5_treated 33 = .ok (.iload_n 2, 1) := by decide +kernel
theorem dX5_treated_34 : decode cX5_treated 34 = .ok (.iconst 1, 1) := by decide +kernel
theorem dX5_treated_35 : decode cX5_treated 35 = .ok (.bastore, 1) := by decide +kernel
theorem dX5_treated_36 : decode cX5_treated 36 = .ok (.iload_n 1, 1) := by decide +kernel
theorem dX5_treated_37 : decode cX5_treated 37 = .ok (.aload_n 0, 1) := by decide +kernel
theorem dX5_treated_38 : decode cX5_treated 38 = .ok (.invokevirtual 217, 3) := by decide +kernel
theorem dX5_treated_41 : decode cX5_treated 41 = .ok (.ifCond .eq 9, 3) := by decide +kernel
theorem dX5_treated_44 : decode cX5_treated 44 = .ok (.iconst 1, 1) := by decide +kernel
theorem dX5_treated_45 : decode cX5_treated 45 = .ok (.iload_n 2, 1) := by decide +kernel
theorem dX5_treated_46 : decode cX5_treated 46 = .ok (.ishl, 1) := by decide +kernel
theorem dX5_treated_47 : decode cX5_treated 47 = .ok (.goto 4, 3) := by decide +kernel
theorem dX5_treated_50 : decode cX5_treated 50 = .ok (.iconst 0, 1) := by decide +kernel
theorem dX5_treated_51 : decode cX5_treated 51 = .ok (.ior, 1) := by decide +kernel
theorem dX5_treated_52 : decode cX5_treated 52 = .ok (.istore_n 1, 1) := by decide +kernel
theorem dX5_treated_53 : decode cX5_treated 53 = .ok (.aload_n 0, 1) := by decide +kernel
theorem dX5_treated_54 : decode cX5_treated 54 = .ok (.getfield 25, 3) := by decide +kernel
theorem dX5_treated_57 : decode cX5_treated 57 = .ok (.iload_n 2, 1) := by decide +kernel
theorem dX5_treated_58 : decode cX5_treated 58 = .ok (.iload_n 3, 1) := by decide +kernel
theorem dX5_treated_59 : decode cX5_treated 59 = .ok (.bastore, 1) := by decide +kernel
theorem dX5_treated_60 : decode cX5_treated 60 = .ok (.iinc 2 1, 3) := by decide +kernel
theorem dX5_treated_63 : decode cX5_treated 63 = .ok (.goto (-49), 3) := by decide +kernel
theorem dX5_treated_66 : decode cX5_treated 66 = .ok (.iload_n 1, 1) := by decide +kernel
theorem dX5_treated_67 : decode cX5_treated 67 = .ok (.ireturn, 1) := by decide +kernel
theorem dX5_inLeastTerms_0 : decode cX5_inLeastTerms 0 = .ok (.lload_n 0, 1) := by decide +kernel
theorem dX5_inLeastTerms_1 : decode cX5_inLeastTerms 1 = .ok (.lstore 5, 2) := by decide +kernel
theorem dX5_inLeastTerms_3 : decode cX5_inLeastTerms 3 = .ok (.lload_n 2, 1) := by decide +kernel
theorem dX5_inLeastTerms_4 : decode cX5_inLeastTerms 4 = .ok (.lstore 7, 2) := by decide +kernel
theorem dX5_inLeastTerms_6 : decode cX5_inLeastTerms 6 = .ok (.lload 7, 2) := by decide +kernel
theorem dX5_inLeastTerms_8 : decode cX5_inLeastTerms 8 = .ok (.lconst 0, 1) := by decide +kernel
theorem dX5_inLeastTerms_9 : decode cX5_inLeastTerms 9 = .ok (.lcmp, 1) := by decide +kernel
theorem dX5_inLeastTerms_10 : decode cX5_inLeastTerms 10 = .ok (.ifCond .eq 21, 3) := by decide +kernel
theorem dX5_inLeastTerms_13 : decode cX5_inLeastTerms 13 = .ok (.lload 5, 2) := by decide +kernel
theorem dX5_inLeastTerms_15 : decode cX5_inLeastTerms 15 = .ok (.lload 7, 2) := by decide +kernel
theorem dX5_inLeastTerms_17 : decode cX5_inLeastTerms 17 = .ok (.lrem, 1) := by decide +kernel
theorem dX5_inLeastTerms_18 : decode cX5_inLeastTerms 18 = .ok (.lstore 9, 2) := by decide +kernel
theorem dX5_inLeastTerms_20 : decode cX5_inLeastTerms 20 = .ok (.lload 7, 2) := by decide +kernel
theorem dX5_inLeastTerms_22 : decode cX5_inLeastTerms 22 = .ok (.lstore 5, 2) := by decide +kernel
theorem dX5_inLeastTerms_24 : decode cX5_inLeastTerms 24 = .ok (.lload 9, 2) := by decide +kernel
theorem dX5_inLeastTerms_26 : decode cX5_inLeastTerms 26 = .ok (.lstore 7, 2) := by decide +kernel
theorem dX5_inLeastTerms_28 : decode cX5_inLeastTerms 28 = .ok (.goto (-22), 3) := by decide +kernel
theorem dX5_inLeastTerms_31 : decode cX5_inLeastTerms 31 = .ok (.iload 4, 2) := by decide +kernel
theorem dX5_inLeastTerms_33 : decode cX5_inLeastTerms 33 = .ok (.ifCond .ne 10, 3) := by decide +kernel
theorem dX5_inLeastTerms_36 : decode cX5_inLeastTerms 36 = .ok (.lload_n 0, 1) := by decide +kernel
theorem dX5_inLeastTerms_37 : decode cX5_inLeastTerms 37 = .ok (.lload 5, 2) := by decide +kernel
theorem dX5_inLeastTerms_39 : decode cX5_inLeastTerms 39 = .ok (.ldiv, 1) := by decide +kernel
theorem dX5_inLeastTerms_40 : decode cX5_inLeastTerms 40 = .ok (.goto 7, 3) := by decide +kernel
theorem dX5_inLeastTerms_43 : decode cX5_inLeastTerms 43 = .ok (.lload_n 2, 1) := by decide +kernel
theorem dX5_inLeastTerms_44 : decode cX5_inLeastTerms 44 = .ok (.lload 5, 2) := by decide +kernel
theorem dX5_inLeastTerms_46 : decode cX5_inLeastTerms 46 = .ok (.ldiv, 1) := by decide +kernel
theorem dX5_inLeastTerms_47 : decode cX5_inLeastTerms 47 = .ok (.lreturn, 1) := by decide +kernel
theorem dX5_struck_0 : decode cX5_struck 0 = .ok (.iconst 0, 1) := by decide +kernel
theorem dX5_struck_1 : decode cX5_struck 1 = .ok (.istore_n 1, 1) := by decide +kernel
theorem dX5_struck_2 : decode cX5_struck 2 = .ok (.iconst 0, 1) := by decide +kernel
theorem dX5_struck_3 : decode cX5_struck 3 = .ok (.istore_n 2, 1) := by decide +kernel
theorem dX5_struck_4 : decode cX5_struck 4 = .ok (.iload_n 2, 1) := by decide +kernel
theorem dX5_struck_5 : decode cX5_struck 5 = .ok (.aload_n 0, 1) := by decide +kernel
theorem dX5_struck_6 : decode cX5_struck 6 = .ok (.getfield 78, 3) := by decide +kernel
theorem dX5_struck_9 : decode cX5_struck 9 = .ok (.if_icmp .ge 28, 3) := by decide +kernel
theorem dX5_struck_12 : decode cX5_struck 12 = .ok (.iload_n 1, 1) := by decide +kernel
theorem dX5_struck_13 : decode cX5_struck 13 = .ok (.aload_n 0, 1) := by decide +kernel
theorem dX5_struck_14 : decode cX5_struck 14 = .ok (.getfield 29, 3) := by decide +kernel
theorem dX5_struck_17 : decode cX5_struck 17 = .ok (.iload_n 2, 1) := by decide +kernel
theorem dX5_struck_18 : decode cX5_struck 18 = .ok (.baload, 1) := by decide +kernel
theorem dX5_struck_19 : decode cX5_struck 19 = .ok (.ifCond .eq 9, 3) := by decide +kernel
theorem dX5_struck_22 : decode cX5_struck 22 = .ok (.iconst 1, 1) := by decide +kernel
theorem dX5_struck_23 : decode cX5_struck 23 = .ok (.iload_n 2, 1) := by decide +kernel
theorem dX5_struck_24 : decode cX5_struck 24 = .ok (.ishl, 1) := by decide +kernel
theorem dX5_struck_25 : decode cX5_struck 25 = .ok (.goto 4, 3) := by decide +kernel
theorem dX5_struck_28 : decode cX5_struck 28 = .ok (.iconst 0, 1) := by decide +kernel
theorem dX5_struck_29 : decode cX5_struck 29 = .ok (.ior, 1) := by decide +kernel
theorem dX5_struck_30 : decode cX5_struck 30 = .ok (.istore_n 1, 1) := by decide +kernel
theorem dX5_struck_31 : decode cX5_struck 31 = .ok (.iinc 2 1, 3) := by decide +kernel
theorem dX5_struck_34 : decode cX5_struck 34 = .ok (.goto (-30), 3) := by decide +kernel
theorem dX5_struck_37 : decode cX5_struck 37 = .ok (.iload_n 1, 1) := by decide +kernel
theorem dX5_struck_38 : decode cX5_struck 38 = .ok (.ireturn, 1) := by decide +kernel
theorem dX5_layStruck_0 : decode cX5_layStruck 0 = .ok (.iconst 0, 1) := by decide +kernel
theorem dX5_layStruck_1 : decode cX5_layStruck 1 = .ok (.istore_n 2, 1) := by decide +kernel
theorem dX5_layStruck_2 : decode cX5_layStruck 2 = .ok (.iload_n 2, 1) := by decide +kernel
theorem dX5_layStruck_3 : decode cX5_layStruck 3 = .ok (.aload_n 0, 1) := by decide +kernel
theorem dX5_layStruck_4 : decode cX5_layStruck 4 = .ok (.getfield 78, 3) := by decide +kernel
theorem dX5_layStruck_7 : decode cX5_layStruck 7 = .ok (.if_icmp .ge 29, 3) := by decide +kernel
theorem dX5_layStruck_10 : decode cX5_layStruck 10 = .ok (.aload_n 0, 1) := by decide +kernel
theorem dX5_layStruck_11 : decode cX5_layStruck 11 = .ok (.getfield 29, 3) := by decide +kernel
theorem dX5_layStruck_14 : decode cX5_layStruck 14 = .ok (.iload_n 2, 1) := by decide +kernel
theorem dX5_layStruck_15 : decode cX5_layStruck 15 = .ok (.iload_n 1, 1) := by decide +kernel
theorem dX5_layStruck_16 : decode cX5_layStruck 16 = .ok (.iload_n 2, 1) := by decide +kernel
theorem dX5_layStruck_17 : decode cX5_layStruck 17 = .ok (.ishr, 1) := by decide +kernel
theorem dX5_layStruck_18 : decode cX5_layStruck 18 = .ok (.iconst 1, 1) := by decide +kernel
theorem dX5_layStruck_19 : decode cX5_layStruck 19 = .ok (.iand, 1) := by decide +kernel
theorem dX5_layStruck_20 : decode cX5_layStruck 20 = .ok (.iconst 1, 1) := by decide +kernel
theorem dX5_layStruck_21 : decode cX5_layStruck 21 = .ok (.if_icmp .ne 7, 3) := by decide +kernel
theorem dX5_layStruck_24 : decode cX5_layStruck 24 = .ok (.iconst 1, 1) := by decide +kernel
theorem dX5_layStruck_25 : decode cX5_layStruck 25 = .ok (.goto 4, 3) := by decide +kernel
theorem dX5_layStruck_28 : decode cX5_layStruck 28 = .ok (.iconst 0, 1) := by decide +kernel
theorem dX5_layStruck_29 : decode cX5_layStruck 29 = .ok (.bastore, 1) := by decide +kernel
theorem dX5_layStruck_30 : decode cX5_layStruck 30 = .ok (.iinc 2 1, 3) := by decide +kernel
theorem dX5_layStruck_33 : decode cX5_layStruck 33 = .ok (.goto (-31), 3) := by decide +kernel
theorem dX5_layStruck_36 : decode cX5_layStruck 36 = .ok (.return_, 1) := by decide +kernel
theorem dX5_odds_0 : decode cX5_odds 0 = .ok (.aload_n 0, 1) := by decide +kernel
theorem dX5_odds_1 : decode cX5_odds 1 = .ok (.iload_n 1, 1) := by decide +kernel
theorem dX5_odds_2 : decode cX5_odds 2 = .ok (.invokevirtual 143, 3) := by decide +kernel
theorem dX5_odds_5 : decode cX5_odds 5 = .ok (.ifCond .eq 12, 3) := by decide +kernel
theorem dX5_odds_8 : decode cX5_odds 8 = .ok (.iload_n 2, 1) := by decide +kernel
theorem dX5_odds_9 : decode cX5_odds 9 = .ok (.iconst 0, 1) := by decide +kernel
theorem dX5_odds_10 : decode cX5_odds 10 = .ok (.iconst 1, 1) := by decide +kernel
theorem dX5_odds_11 : decode cX5_odds 11 = .ok (.invokestatic 74, 3) := by decide +kernel
theorem dX5_odds_14 : decode cX5_odds 14 = .ok (.ifCond .ne 7, 3) := by decide +kernel
theorem dX5_odds_17 : decode cX5_odds 17 = .ok (.ldc2_w 72, 3) := by decide +kernel
theorem dX5_odds_20 : decode cX5_odds 20 = .ok (.lreturn, 1) := by decide +kernel
theorem dX5_odds_21 : decode cX5_odds 21 = .ok (.aload_n 0, 1) := by decide +kernel
theorem dX5_odds_22 : decode cX5_odds 22 = .ok (.invokevirtual 220, 3) := by decide +kernel
theorem dX5_odds_25 : decode cX5_odds 25 = .ok (.istore_n 3, 1) := by decide +kernel
theorem dX5_odds_26 : decode cX5_odds 26 = .ok (.iconst 0, 1) := by decide +kernel
theorem dX5_odds_27 : decode cX5_odds 27 = .ok (.istore 4, 2) := by decide +kernel
theorem dX5_odds_29 : decode cX5_odds 29 = .ok (.iconst 0, 1) := by decide +kernel
theorem dX5_odds_30 : decode cX5_odds 30 = .ok (.istore 5, 2) := by decide +kernel
theorem dX5_odds_32 : decode cX5_odds 32 = .ok (.iload 5, 2) := by decide +kernel
theorem dX5_odds_34 : decode cX5_odds 34 = .ok (.iconst 1, 1) := by decide +kernel
theorem dX5_odds_35 : decode cX5_odds 35 = .ok (.aload_n 0, 1) := by decide +kernel
theorem dX5_odds_36 : decode cX5_odds 36 = .ok (.getfield 78, 3) := by decide +kernel
theorem dX5_odds_39 : decode cX5_odds 39 = .ok (.ishl, 1) := by decide +kernel
theorem dX5_odds_40 : decode cX5_odds 40 = .ok (.if_icmp .ge 40, 3) := by decide +kernel
theorem dX5_odds_43 : decode cX5_odds 43 = .ok (.aload_n 0, 1) := by decide +kernel
theorem dX5_odds_44 : decode cX5_odds 44 = .ok (.iload 5, 2) := by decide +kernel
theorem dX5_odds_46 : decode cX5_odds 46 = .ok (.invokevirtual 223, 3) := by decide +kernel
theorem dX5_odds_49 : decode cX5_odds 49 = .ok (.aload_n 0, 1) := by decide +kernel
theorem dX5_odds_50 : decode cX5_odds 50 = .ok (.invokevirtual 211, 3) := by decide +kernel
theorem dX5_odds_53 : decode cX5_odds 53 = .ok (.pop, 1) := by decide +kernel
theorem dX5_odds_54 : decode cX5_odds 54 = .ok (.iload 4, 2) := by decide +kernel
theorem dX5_odds_56 : decode cX5_odds 56 = .ok (.aload_n 0, 1) := by decide +kernel
theorem dX5_odds_57 : decode cX5_odds 57 = .ok (.getfield 47, 3) := by decide +kernel
theorem dX5_odds_60 : decode cX5_odds 60 = .ok (.iload_n 1, 1) := by decide +kernel
theorem dX5_odds_61 : decode cX5_odds 61 = .ok (.iaload, 1) := by decide +kernel
theorem dX5_odds_62 : decode cX5_odds 62 = .ok (.iconst 1, 1) := by decide +kernel
theorem dX5_odds_63 : decode cX5_odds 63 = .ok (.if_icmp .ne 7, 3) := by decide +kernel
theorem dX5_odds_66 : decode cX5_odds 66 = .ok (.iconst 1, 1) := by decide +kernel
theorem dX5_odds_67 : decode cX5_odds 67 = .ok (.goto 4, 3) := by decide +kernel
theorem dX5_odds_70 : decode cX5_odds 70 = .ok (.iconst 0, 1) := by decide +kernel
theorem dX5_odds_71 : decode cX5_odds 71 = .ok (.iadd, 1) := by decide +kernel
theorem dX5_odds_72 : decode cX5_odds 72 = .ok (.istore 4, 2) := by decide +kernel
theorem dX5_odds_74 : decode cX5_odds 74 = .ok (.iinc 5 1, 3) := by decide +kernel
theorem dX5_odds_77 : decode cX5_odds 77 = .ok (.goto (-45), 3) := by decide +kernel
theorem dX5_odds_80 : decode cX5_odds 80 = .ok (.aload_n 0, 1) := by decide +kernel
theorem dX5_odds_81 : decode cX5_odds 81 = .ok (.iload_n 3, 1) := by decide +kernel
theorem dX5_odds_82 : decode cX5_odds 82 = .ok (.invokevirtual 223, 3) := by decide +kernel
theorem dX5_odds_85 : decode cX5_odds 85 = .ok (.iload 4, 2) := by decide +kernel
theorem dX5_odds_87 : decode cX5_odds 87 = .ok (.i2l, 1) := by decide +kernel
theorem dX5_odds_88 : decode cX5_odds 88 = .ok (.lconst 1, 1) := by decide +kernel
theorem dX5_odds_89 : decode cX5_odds 89 = .ok (.aload_n 0, 1) := by decide +kernel
theorem dX5_odds_90 : decode cX5_odds 90 = .ok (.getfield 78, 3) := by decide +kernel
theorem dX5_odds_93 : decode cX5_odds 93 = .ok (.lshl, 1) := by decide +kernel
theorem dX5_odds_94 : decode cX5_odds 94 = .ok (.iload_n 2, 1) := by decide +kernel
theorem dX5_odds_95 : decode cX5_odds 95 = .ok (.invokestatic 226, 3) := by decide +kernel
theorem dX5_odds_98 : decode cX5_odds 98 = .ok (.lreturn, 1) := by decide +kernel
theorem dX5_sheet_0 : decode cX5_sheet 0 = .ok (.aload_n 0, 1) := by decide +kernel
theorem dX5_sheet_1 : decode cX5_sheet 1 = .ok (.iconst 0, 1) := by decide +kernel
theorem dX5_sheet_2 : decode cX5_sheet 2 = .ok (.putfield 68, 3) := by decide +kernel
theorem dX5_sheet_5 : decode cX5_sheet 5 = .ok (.iload_n 1, 1) := by decide +kernel
end
section
theorem dX5_sheet_6 : decode cX5_sheet 6 = .ok (.invokestatic 87, 3) := by decide +kernel
theorem dX5_sheet_9 : decode cX5_sheet 9 = .ok (.ifCond .ne 5, 3) := by decide +kernel
theorem dX5_sheet_12 : decode cX5_sheet 12 = .ok (.iconst (-1), 1) := by decide +kernel
theorem dX5_sheet_13 : decode cX5_sheet 13 = .ok (.ireturn, 1) := by decide +kernel
theorem dX5_sheet_14 : decode cX5_sheet 14 = .ok (.iload_n 2, 1) := by decide +kernel
theorem dX5_sheet_15 : decode cX5_sheet 15 = .ok (.invokestatic 91, 3) := by decide +kernel
theorem dX5_sheet_18 : decode cX5_sheet 18 = .ok (.ifCond .eq 9, 3) := by decide +kernel
theorem dX5_sheet_21 : decode cX5_sheet 21 = .ok (.iload_n 3, 1) := by decide +kernel
theorem dX5_sheet_22 : decode cX5_sheet 22 = .ok (.bipush 60, 2) := by decide +kernel
theorem dX5_sheet_24 : decode cX5_sheet 24 = .ok (.if_icmp .le 6, 3) := by decide +kernel
theorem dX5_sheet_27 : decode cX5_sheet 27 = .ok (.bipush (-2), 2) := by decide +kernel
theorem dX5_sheet_29 : decode cX5_sheet 29 = .ok (.ireturn, 1) := by decide +kernel
theorem dX5_sheet_30 : decode cX5_sheet 30 = .ok (.iload_n 3, 1) := by decide +kernel
theorem dX5_sheet_31 : decode cX5_sheet 31 = .ok (.ifCond .ge 9, 3) := by decide +kernel
theorem dX5_sheet_34 : decode cX5_sheet 34 = .ok (.aload_n 0, 1) := by decide +kernel
theorem dX5_sheet_35 : decode cX5_sheet 35 = .ok (.iconst 4, 1) := by decide +kernel
theorem dX5_sheet_36 : decode cX5_sheet 36 = .ok (.invokevirtual 98, 3) := by decide +kernel
theorem dX5_sheet_39 : decode cX5_sheet 39 = .ok (.ireturn, 1) := by decide +kernel
theorem dX5_sheet_40 : decode cX5_sheet 40 = .ok (.aload_n 0, 1) := by decide +kernel
theorem dX5_sheet_41 : decode cX5_sheet 41 = .ok (.getfield 9, 3) := by decide +kernel
theorem dX5_sheet_44 : decode cX5_sheet 44 = .ok (.iload_n 1, 1) := by decide +kernel
theorem dX5_sheet_45 : decode cX5_sheet 45 = .ok (.iload_n 2, 1) := by decide +kernel
theorem dX5_sheet_46 : decode cX5_sheet 46 = .ok (.iastore, 1) := by decide +kernel
theorem dX5_sheet_47 : decode cX5_sheet 47 = .ok (.aload_n 0, 1) := by decide +kernel
theorem dX5_sheet_48 : decode cX5_sheet 48 = .ok (.getfield 13, 3) := by decide +kernel
theorem dX5_sheet_51 : decode cX5_sheet 51 = .ok (.iload_n 1, 1) := by decide +kernel
theorem dX5_sheet_52 : decode cX5_sheet 52 = .ok (.iload_n 3, 1) := by decide +kernel
theorem dX5_sheet_53 : decode cX5_sheet 53 = .ok (.iastore, 1) := by decide +kernel
theorem dX5_sheet_54 : decode cX5_sheet 54 = .ok (.iconst 0, 1) := by decide +kernel
theorem dX5_sheet_55 : decode cX5_sheet 55 = .ok (.istore 4, 2) := by decide +kernel
theorem dX5_sheet_57 : decode cX5_sheet 57 = .ok (.iload 4, 2) := by decide +kernel
theorem dX5_sheet_59 : decode cX5_sheet 59 = .ok (.bipush 60, 2) := by decide +kernel
theorem dX5_sheet_61 : decode cX5_sheet 61 = .ok (.if_icmp .ge 22, 3) := by decide +kernel
theorem dX5_sheet_64 : decode cX5_sheet 64 = .ok (.aload_n 0, 1) := by decide +kernel
theorem dX5_sheet_65 : decode cX5_sheet 65 = .ok (.getfield 16, 3) := by decide +kernel
theorem dX5_sheet_68 : decode cX5_sheet 68 = .ok (.bipush 60, 2) := by decide +kernel
theorem dX5_sheet_70 : decode cX5_sheet 70 = .ok (.iload_n 1, 1) := by decide +kernel
theorem dX5_sheet_71 : decode cX5_sheet 71 = .ok (.imul, 1) := by decide +kernel
theorem dX5_sheet_72 : decode cX5_sheet 72 = .ok (.iload 4, 2) := by decide +kernel
theorem dX5_sheet_74 : decode cX5_sheet 74 = .ok (.iadd, 1) := by decide +kernel
theorem dX5_sheet_75 : decode cX5_sheet 75 = .ok (.iconst 0, 1) := by decide +kernel
theorem dX5_sheet_76 : decode cX5_sheet 76 = .ok (.iastore, 1) := by decide +kernel
theorem dX5_sheet_77 : decode cX5_sheet 77 = .ok (.iinc 4 1, 3) := by decide +kernel
theorem dX5_sheet_80 : decode cX5_sheet 80 = .ok (.goto (-23), 3) := by decide +kernel
theorem dX5_sheet_83 : decode cX5_sheet 83 = .ok (.iconst 1, 1) := by decide +kernel
theorem dX5_sheet_84 : decode cX5_sheet 84 = .ok (.ireturn, 1) := by decide +kernel
theorem dX5_lose_0 : decode cX5_lose 0 = .ok (.iload_n 1, 1) := by decide +kernel
theorem dX5_lose_1 : decode cX5_lose 1 = .ok (.invokestatic 87, 3) := by decide +kernel
theorem dX5_lose_4 : decode cX5_lose 4 = .ok (.ifCond .ne 5, 3) := by decide +kernel
theorem dX5_lose_7 : decode cX5_lose 7 = .ok (.iconst (-1), 1) := by decide +kernel
theorem dX5_lose_8 : decode cX5_lose 8 = .ok (.ireturn, 1) := by decide +kernel
theorem dX5_lose_9 : decode cX5_lose 9 = .ok (.aload_n 0, 1) := by decide +kernel
theorem dX5_lose_10 : decode cX5_lose 10 = .ok (.getfield 9, 3) := by decide +kernel
theorem dX5_lose_13 : decode cX5_lose 13 = .ok (.iload_n 1, 1) := by decide +kernel
theorem dX5_lose_14 : decode cX5_lose 14 = .ok (.iaload, 1) := by decide +kernel
theorem dX5_lose_15 : decode cX5_lose 15 = .ok (.bipush (-9), 2) := by decide +kernel
theorem dX5_lose_17 : decode cX5_lose 17 = .ok (.if_icmp .ne 7, 3) := by decide +kernel
theorem dX5_lose_20 : decode cX5_lose 20 = .ok (.iconst 0, 1) := by decide +kernel
theorem dX5_lose_21 : decode cX5_lose 21 = .ok (.goto 4, 3) := by decide +kernel
theorem dX5_lose_24 : decode cX5_lose 24 = .ok (.iconst 1, 1) := by decide +kernel
theorem dX5_lose_25 : decode cX5_lose 25 = .ok (.istore_n 2, 1) := by decide +kernel
theorem dX5_lose_26 : decode cX5_lose 26 = .ok (.aload_n 0, 1) := by decide +kernel
theorem dX5_lose_27 : decode cX5_lose 27 = .ok (.getfield 9, 3) := by decide +kernel
theorem dX5_lose_30 : decode cX5_lose 30 = .ok (.iload_n 1, 1) := by decide +kernel
theorem dX5_lose_31 : decode cX5_lose 31 = .ok (.bipush (-9), 2) := by decide +kernel
theorem dX5_lose_33 : decode cX5_lose 33 = .ok (.iastore, 1) := by decide +kernel
theorem dX5_lose_34 : decode cX5_lose 34 = .ok (.iload_n 2, 1) := by decide +kernel
theorem dX5_lose_35 : decode cX5_lose 35 = .ok (.ireturn, 1) := by decide +kernel
theorem dX5_put_0 : decode cX5_put 0 = .ok (.aload_n 0, 1) := by decide +kernel
theorem dX5_put_1 : decode cX5_put 1 = .ok (.iconst 0, 1) := by decide +kernel
theorem dX5_put_2 : decode cX5_put 2 = .ok (.putfield 68, 3) := by decide +kernel
theorem dX5_put_5 : decode cX5_put 5 = .ok (.iload_n 1, 1) := by decide +kernel
theorem dX5_put_6 : decode cX5_put 6 = .ok (.invokestatic 87, 3) := by decide +kernel
theorem dX5_put_9 : decode cX5_put 9 = .ok (.ifCond .ne 5, 3) := by decide +kernel
theorem dX5_put_12 : decode cX5_put 12 = .ok (.iconst (-1), 1) := by decide +kernel
theorem dX5_put_13 : decode cX5_put 13 = .ok (.ireturn, 1) := by decide +kernel
theorem dX5_put_14 : decode cX5_put 14 = .ok (.aload_n 0, 1) := by decide +kernel
theorem dX5_put_15 : decode cX5_put 15 = .ok (.getfield 9, 3) := by decide +kernel
theorem dX5_put_18 : decode cX5_put 18 = .ok (.iload_n 1, 1) := by decide +kernel
theorem dX5_put_19 : decode cX5_put 19 = .ok (.iaload, 1) := by decide +kernel
theorem dX5_put_20 : decode cX5_put 20 = .ok (.bipush (-9), 2) := by decide +kernel
theorem dX5_put_22 : decode cX5_put 22 = .ok (.if_icmp .ne 9, 3) := by decide +kernel
theorem dX5_put_25 : decode cX5_put 25 = .ok (.aload_n 0, 1) := by decide +kernel
theorem dX5_put_26 : decode cX5_put 26 = .ok (.iconst 1, 1) := by decide +kernel
theorem dX5_put_27 : decode cX5_put 27 = .ok (.invokevirtual 98, 3) := by decide +kernel
theorem dX5_put_30 : decode cX5_put 30 = .ok (.ireturn, 1) := by decide +kernel
theorem dX5_put_31 : decode cX5_put 31 = .ok (.iload_n 2, 1) := by decide +kernel
theorem dX5_put_32 : decode cX5_put 32 = .ok (.iconst 0, 1) := by decide +kernel
theorem dX5_put_33 : decode cX5_put 33 = .ok (.aload_n 0, 1) := by decide +kernel
theorem dX5_put_34 : decode cX5_put 34 = .ok (.getfield 13, 3) := by decide +kernel
theorem dX5_put_37 : decode cX5_put 37 = .ok (.iload_n 1, 1) := by decide +kernel
theorem dX5_put_38 : decode cX5_put 38 = .ok (.iaload, 1) := by decide +kernel
theorem dX5_put_39 : decode cX5_put 39 = .ok (.iconst 1, 1) := by decide +kernel
theorem dX5_put_40 : decode cX5_put 40 = .ok (.isub, 1) := by decide +kernel
theorem dX5_put_41 : decode cX5_put 41 = .ok (.invokestatic 74, 3) := by decide +kernel
theorem dX5_put_44 : decode cX5_put 44 = .ok (.ifCond .ne 9, 3) := by decide +kernel
theorem dX5_put_47 : decode cX5_put 47 = .ok (.aload_n 0, 1) := by decide +kernel
theorem dX5_put_48 : decode cX5_put 48 = .ok (.iconst 3, 1) := by decide +kernel
theorem dX5_put_49 : decode cX5_put 49 = .ok (.invokevirtual 98, 3) := by decide +kernel
theorem dX5_put_52 : decode cX5_put 52 = .ok (.ireturn, 1) := by decide +kernel
theorem dX5_put_53 : decode cX5_put 53 = .ok (.aload_n 0, 1) := by decide +kernel
theorem dX5_put_54 : decode cX5_put 54 = .ok (.getfield 16, 3) := by decide +kernel
theorem dX5_put_57 : decode cX5_put 57 = .ok (.bipush 60, 2) := by decide +kernel
theorem dX5_put_59 : decode cX5_put 59 = .ok (.iload_n 1, 1) := by decide +kernel
theorem dX5_put_60 : decode cX5_put 60 = .ok (.imul, 1) := by decide +kernel
theorem dX5_put_61 : decode cX5_put 61 = .ok (.iload_n 2, 1) := by decide +kernel
theorem dX5_put_62 : decode cX5_put 62 = .ok (.iadd, 1) := by decide +kernel
theorem dX5_put_63 : decode cX5_put 63 = .ok (.aload_n 0, 1) := by decide +kernel
theorem dX5_put_64 : decode cX5_put 64 = .ok (.getfield 9, 3) := by decide +kernel
theorem dX5_put_67 : decode cX5_put 67 = .ok (.iload_n 1, 1) := by decide +kernel
theorem dX5_put_68 : decode cX5_put 68 = .ok (.iaload, 1) := by decide +kernel
theorem dX5_put_69 : decode cX5_put 69 = .ok (.ifCond .ne 8, 3) := by decide +kernel
theorem dX5_put_72 : decode cX5_put 72 = .ok (.iload_n 3, 1) := by decide +kernel
theorem dX5_put_73 : decode cX5_put 73 = .ok (.i2b, 1) := by decide +kernel
theorem dX5_put_74 : decode cX5_put 74 = .ok (.goto 19, 3) := by decide +kernel
theorem dX5_put_77 : decode cX5_put 77 = .ok (.aload_n 0, 1) := by decide +kernel
theorem dX5_put_78 : decode cX5_put 78 = .ok (.getfield 9, 3) := by decide +kernel
theorem dX5_put_81 : decode cX5_put 81 = .ok (.iload_n 1, 1) := by decide +kernel
theorem dX5_put_82 : decode cX5_put 82 = .ok (.iaload, 1) := by decide +kernel
theorem dX5_put_83 : decode cX5_put 83 = .ok (.iconst 1, 1) := by decide +kernel
theorem dX5_put_84 : decode cX5_put 84 = .ok (.if_icmp .ne 8, 3) := by decide +kernel
theorem dX5_put_87 : decode cX5_put 87 = .ok (.iload_n 3, 1) := by decide +kernel
theorem dX5_put_88 : decode cX5_put 88 = .ok (.i2s, 1) := by decide +kernel
theorem dX5_put_89 : decode cX5_put 89 = .ok (.goto 4, 3) := by decide +kernel
theorem dX5_put_92 : decode cX5_put 92 = .ok (.iload_n 3, 1) := by decide +kernel
theorem dX5_put_93 : decode cX5_put 93 = .ok (.iastore, 1) := by decide +kernel
theorem dX5_put_94 : decode cX5_put 94 = .ok (.iconst 1, 1) := by decide +kernel
theorem dX5_put_95 : decode cX5_put 95 = .ok (.ireturn, 1) := by decide +kernel
theorem dX5_cell_0 : decode cX5_cell 0 = .ok (.aload_n 0, 1) := by decide +kernel
theorem dX5_cell_1 : decode cX5_cell 1 = .ok (.iconst 0, 1) := by decide +kernel
theorem dX5_cell_2 : decode cX5_cell 2 = .ok (.putfield 68, 3) := by decide +kernel
theorem dX5_cell_5 : decode cX5_cell 5 = .ok (.iload_n 1, 1) := by decide +kernel
theorem dX5_cell_6 : decode cX5_cell 6 = .ok (.invokestatic 87, 3) := by decide +kernel
theorem dX5_cell_9 : decode cX5_cell 9 = .ok (.ifCond .eq 10, 3) := by decide +kernel
theorem dX5_cell_12 : decode cX5_cell 12 = .ok (.iload_n 3, 1) := by decide +kernel
theorem dX5_cell_13 : decode cX5_cell 13 = .ok (.invokestatic 91, 3) := by decide +kernel
theorem dX5_cell_16 : decode cX5_cell 16 = .ok (.ifCond .ne 7, 3) := by decide +kernel
theorem dX5_cell_19 : decode cX5_cell 19 = .ok (.ldc2_w 72, 3) := by decide +kernel
theorem dX5_cell_22 : decode cX5_cell 22 = .ok (.lreturn, 1) := by decide +kernel
theorem dX5_cell_23 : decode cX5_cell 23 = .ok (.aload_n 0, 1) := by decide +kernel
theorem dX5_cell_24 : decode cX5_cell 24 = .ok (.getfield 9, 3) := by decide +kernel
theorem dX5_cell_27 : decode cX5_cell 27 = .ok (.iload_n 1, 1) := by decide +kernel
theorem dX5_cell_28 : decode cX5_cell 28 = .ok (.iaload, 1) := by decide +kernel
theorem dX5_cell_29 : decode cX5_cell 29 = .ok (.bipush (-9), 2) := by decide +kernel
theorem dX5_cell_31 : decode cX5_cell 31 = .ok (.if_icmp .eq 19, 3) := by decide +kernel
theorem dX5_cell_34 : decode cX5_cell 34 = .ok (.aload_n 0, 1) := by decide +kernel
theorem dX5_cell_35 : decode cX5_cell 35 = .ok (.getfield 9, 3) := by decide +kernel
theorem dX5_cell_38 : decode cX5_cell 38 = .ok (.iload_n 1, 1) := by decide +kernel
theorem dX5_cell_39 : decode cX5_cell 39 = .ok (.iaload, 1) := by decide +kernel
theorem dX5_cell_40 : decode cX5_cell 40 = .ok (.iload_n 3, 1) := by decide +kernel
theorem dX5_cell_41 : decode cX5_cell 41 = .ok (.if_icmp .eq 9, 3) := by decide +kernel
theorem dX5_cell_44 : decode cX5_cell 44 = .ok (.aload_n 0, 1) := by decide +kernel
theorem dX5_cell_45 : decode cX5_cell 45 = .ok (.iconst 2, 1) := by decide +kernel
theorem dX5_cell_46 : decode cX5_cell 46 = .ok (.invokevirtual 230, 3) := by decide +kernel
theorem dX5_cell_49 : decode cX5_cell 49 = .ok (.lreturn, 1) := by decide +kernel
theorem dX5_cell_50 : decode cX5_cell 50 = .ok (.aload_n 0, 1) := by decide +kernel
theorem dX5_cell_51 : decode cX5_cell 51 = .ok (.getfield 9, 3) := by decide +kernel
theorem dX5_cell_54 : decode cX5_cell 54 = .ok (.iload_n 1, 1) := by decide +kernel
theorem dX5_cell_55 : decode cX5_cell 55 = .ok (.iaload, 1) := by decide +kernel
theorem dX5_cell_56 : decode cX5_cell 56 = .ok (.bipush (-9), 2) := by decide +kernel
theorem dX5_cell_58 : decode cX5_cell 58 = .ok (.if_icmp .ne 9, 3) := by decide +kernel
theorem dX5_cell_61 : decode cX5_cell 61 = .ok (.aload_n 0, 1) := by decide +kernel
theorem dX5_cell_62 : decode cX5_cell 62 = .ok (.iconst 1, 1) := by decide +kernel
theorem dX5_cell_63 : decode cX5_cell 63 = .ok (.invokevirtual 230, 3) := by decide +kernel
theorem dX5_cell_66 : decode cX5_cell 66 = .ok (.lreturn, 1) := by decide +kernel
theorem dX5_cell_67 : decode cX5_cell 67 = .ok (.iload_n 2, 1) := by decide +kernel
theorem dX5_cell_68 : decode cX5_cell 68 = .ok (.iconst 0, 1) := by decide +kernel
theorem dX5_cell_69 : decode cX5_cell 69 = .ok (.aload_n 0, 1) := by decide +kernel
theorem dX5_cell_70 : decode cX5_cell 70 = .ok (.getfield 13, 3) := by decide +kernel
theorem dX5_cell_73 : decode cX5_cell 73 = .ok (.iload_n 1, 1) := by decide +kernel
theorem dX5_cell_74 : decode cX5_cell 74 = .ok (.iaload, 1) := by decide +kernel
theorem dX5_cell_75 : decode cX5_cell 75 = .ok (.iconst 1, 1) := by decide +kernel
theorem dX5_cell_76 : decode cX5_cell 76 = .ok (.isub, 1) := by decide +kernel
theorem dX5_cell_77 : decode cX5_cell 77 = .ok (.invokestatic 74, 3) := by decide +kernel
theorem dX5_cell_80 : decode cX5_cell 80 = .ok (.ifCond .ne 9, 3) := by decide +kernel
theorem dX5_cell_83 : decode cX5_cell 83 = .ok (.aload_n 0, 1) := by decide +kernel
theorem dX5_cell_84 : decode cX5_cell 84 = .ok (.iconst 3, 1) := by decide +kernel
theorem dX5_cell_85 : decode cX5_cell 85 = .ok (.invokevirtual 230, 3) := by decide +kernel
theorem dX5_cell_88 : decode cX5_cell 88 = .ok (.lreturn, 1) := by decide +kernel
theorem dX5_cell_89 : decode cX5_cell 89 = .ok (.aload_n 0, 1) := by decide +kernel
theorem dX5_cell_90 : decode cX5_cell 90 = .ok (.getfield 16, 3) := by decide +kernel
theorem dX5_cell_93 : decode cX5_cell 93 = .ok (.bipush 60, 2) := by decide +kernel
theorem dX5_cell_95 : decode cX5_cell 95 = .ok (.iload_n 1, 1) := by decide +kernel
theorem dX5_cell_96 : decode cX5_cell 96 = .ok (.imul, 1) := by decide +kernel
theorem dX5_cell_97 : decode cX5_cell 97 = .ok (.iload_n 2, 1) := by decide +kernel
theorem dX5_cell_98 : decode cX5_cell 98 = .ok (.iadd, 1) := by decide +kernel
theorem dX5_cell_99 : decode cX5_cell 99 = .ok (.iaload, 1) := by decide +kernel
theorem dX5_cell_100 : decode cX5_cell 100 = .ok (.i2l, 1) := by decide +kernel
theorem dX5_cell_101 : decode cX5_cell 101 = .ok (.lreturn, 1) := by decide +kernel
theorem dX5_copy_0 : decode cX5_copy 0 = .ok (.aload_n 0, 1) := by decide +kernel
theorem dX5_copy_1 : decode cX5_copy 1 = .ok (.iconst 0, 1) := by decide +kernel
theorem dX5_copy_2 : decode cX5_copy 2 = .ok (.putfield 68, 3) := by decide +kernel
theorem dX5_copy_5 : decode cX5_copy 5 = .ok (.iload_n 1, 1) := by decide +kernel
theorem dX5_copy_6 : decode cX5_copy 6 = .ok (.invokestatic 87, 3) := by decide +kernel
theorem dX5_copy_9 : decode cX5_copy 9 = .ok (.ifCond .eq 10, 3) := by decide +kernel
theorem dX5_copy_12 : decode cX5_copy 12 = .ok (.iload_n 3, 1) := by decide +kernel
theorem dX5_copy_13 : decode cX5_copy 13 = .ok (.invokestatic 87, 3) := by decide +kernel
theorem dX5_copy_16 : decode cX5_copy 16 = .ok (.ifCond .ne 5, 3) := by decide +kernel
theorem dX5_copy_19 : decode cX5_copy 19 = .ok (.iconst (-1), 1) := by decide +kernel
theorem dX5_copy_20 : decode cX5_copy 20 = .ok (.ireturn, 1) := by decide +kernel
theorem dX5_copy_21 : decode cX5_copy 21 = .ok (.aload_n 0, 1) := by decide +kernel
theorem dX5_copy_22 : decode cX5_copy 22 = .ok (.getfield 9, 3) := by decide +kernel
theorem dX5_copy_25 : decode cX5_copy 25 = .ok (.iload_n 1, 1) := by decide +kernel
theorem dX5_copy_26 : decode cX5_copy 26 = .ok (.iaload, 1) := by decide +kernel
theorem dX5_copy_27 : decode cX5_copy 27 = .ok (.bipush (-9), 2) := by decide +kernel
theorem dX5_copy_29 : decode cX5_copy 29 = .ok (.if_icmp .eq 14, 3) := by decide +kernel
theorem dX5_copy_32 : decode cX5_copy 32 = .ok (.aload_n 0, 1) := by decide +kernel
theorem dX5_copy_33 : decode cX5_copy 33 = .ok (.getfield 9, 3) := by decide +kernel
theorem dX5_copy_36 : decode cX5_copy 36 = .ok (.iload_n 3, 1) := by decide +kernel
theorem dX5_copy_37 : decode cX5_copy 37 = .ok (.iaload, 1) := by decide +kernel
theorem dX5_copy_38 : decode cX5_copy 38 = .ok (.bipush (-9), 2) := by decide +kernel
theorem dX5_copy_40 : decode cX5_copy 40 = .ok (.if_icmp .ne 9, 3) := by decide +kernel
theorem dX5_copy_43 : decode cX5_copy 43 = .ok (.aload_n 0, 1) := by decide +kernel
theorem dX5_copy_44 : decode cX5_copy 44 = .ok (.iconst 1, 1) := by decide +kernel
theorem dX5_copy_45 : decode cX5_copy 45 = .ok (.invokevirtual 98, 3) := by decide +kernel
theorem dX5_copy_48 : decode cX5_copy 48 = .ok (.ireturn, 1) := by decide +kernel
theorem dX5_copy_49 : decode cX5_copy 49 = .ok (.aload_n 0, 1) := by decide +kernel
theorem dX5_copy_50 : decode cX5_copy 50 = .ok (.getfield 9, 3) := by decide +kernel
theorem dX5_copy_53 : decode cX5_copy 53 = .ok (.iload_n 1, 1) := by decide +kernel
theorem dX5_copy_54 : decode cX5_copy 54 = .ok (.iaload, 1) := by decide +kernel
theorem dX5_copy_55 : decode cX5_copy 55 = .ok (.aload_n 0, 1) := by decide +kernel
theorem dX5_copy_56 : decode cX5_copy 56 = .ok (.getfield 9, 3) := by decide +kernel
theorem dX5_copy_59 : decode cX5_copy 59 = .ok (.iload_n 3, 1) := by decide +kernel
theorem dX5_copy_60 : decode cX5_copy 60 = .ok (.iaload, 1) := by decide +kernel
theorem dX5_copy_61 : decode cX5_copy 61 = .ok (.if_icmp .eq 9, 3) := by decide +kernel
theorem dX5_copy_64 : decode cX5_copy 64 = .ok (.aload_n 0, 1) := by decide +kernel
theorem dX5_copy_65 : decode cX5_copy 65 = .ok (.iconst 2, 1) := by decide +kernel
theorem dX5_copy_66 : decode cX5_copy 66 = .ok (.invokevirtual 98, 3) := by decide +kernel
theorem dX5_copy_69 : decode cX5_copy 69 = .ok (.ireturn, 1) := by decide +kernel
theorem dX5_copy_70 : decode cX5_copy 70 = .ok (.iload_n 2, 1) := by decide +kernel
theorem dX5_copy_71 : decode cX5_copy 71 = .ok (.ifCond .lt 38, 3) := by decide +kernel
theorem dX5_copy_74 : decode cX5_copy 74 = .ok (.iload 4, 2) := by decide +kernel
theorem dX5_copy_76 : decode cX5_copy 76 = .ok (.ifCond .lt 33, 3) := by decide +kernel
theorem dX5_copy_79 : decode cX5_copy 79 = .ok (.iload 5, 2) := by decide +kernel
theorem dX5_copy_81 : decode cX5_copy 81 = .ok (.ifCond .lt 28, 3) := by decide +kernel
theorem dX5_copy_84 : decode cX5_copy 84 = .ok (.iload_n 2, 1) := by decide +kernel
theorem dX5_copy_85 : decode cX5_copy 85 = .ok (.aload_n 0, 1) := by decide +kernel
theorem dX5_copy_86 : decode cX5_copy 86 = .ok (.getfield 13, 3) := by decide +kernel
theorem dX5_copy_89 : decode cX5_copy 89 = .ok (.iload_n 1, 1) := by decide +kernel
theorem dX5_copy_90 : decode cX5_copy 90 = .ok (.iaload, 1) := by decide +kernel
theorem dX5_copy_91 : decode cX5_copy 91 = .ok (.if_icmp .gt 18, 3) := by decide +kernel
theorem dX5_copy_94 : decode cX5_copy 94 = .ok (.iload 4, 2) := by decide +kernel
theorem dX5_copy_96 : decode cX5_copy 96 = .ok (.aload_n 0, 1) := by decide +kernel
theorem dX5_copy_97 : decode cX5_copy 97 = .ok (.getfield 13, 3) := by decide +kernel
theorem dX5_copy_100 : decode cX5_copy 100 = .ok (.iload_n 3, 1) := by decide +kernel
theorem dX5_copy_101 : decode cX5_copy 101 = .ok (.iaload, 1) := by decide +kernel
theorem dX5_copy_102 : decode cX5_copy 102 = .ok (.if_icmp .gt 7, 3) := by decide +kernel
theorem dX5_copy_105 : decode cX5_copy 105 = .ok (.iconst 1, 1) := by decide +kernel
theorem dX5_copy_106 : decode cX5_copy 106 = .ok (.goto 4, 3) := by decide +kernel
theorem dX5_copy_109 : decode cX5_copy 109 = .ok (.iconst 0, 1) := by decide +kernel
theorem dX5_copy_110 : decode cX5_copy 110 = .ok (.istore 6, 2) := by decide +kernel
theorem dX5_copy_112 : decode cX5_copy 112 = .ok (.iload 6, 2) := by decide +kernel
theorem dX5_copy_114 : decode cX5_copy 114 = .ok (.ifCond .eq 30, 3) := by decide +kernel
theorem dX5_copy_117 : decode cX5_copy 117 = .ok (.iload 5, 2) := by decide +kernel
theorem dX5_copy_119 : decode cX5_copy 119 = .ok (.aload_n 0, 1) := by decide +kernel
theorem dX5_copy_120 : decode cX5_copy 120 = .ok (.getfield 13, 3) := by decide +kernel
theorem dX5_copy_123 : decode cX5_copy 123 = .ok (.iload_n 1, 1) := by decide +kernel
theorem dX5_copy_124 : decode cX5_copy 124 = .ok (.iaload, 1) := by decide +kernel
theorem dX5_copy_125 : decode cX5_copy 125 = .ok (.iload_n 2, 1) := by decide +kernel
theorem dX5_copy_126 : decode cX5_copy 126 = .ok (.isub, 1) := by decide +kernel
theorem dX5_copy_127 : decode cX5_copy 127 = .ok (.if_icmp .gt 17, 3) := by decide +kernel
theorem dX5_copy_130 : decode cX5_copy 130 = .ok (.iload 5, 2) := by decide +kernel
theorem dX5_copy_132 : decode cX5_copy 132 = .ok (.aload_n 0, 1) := by decide +kernel
theorem dX5_copy_133 : decode cX5_copy 133 = .ok (.getfield 13, 3) := by decide +kernel
theorem dX5_copy_136 : decode cX5_copy 136 = .ok (.iload_n 3, 1) := by decide +kernel
theorem dX5_copy_137 : decode cX5_copy 137 = .ok (.iaload, 1) := by decide +kernel
theorem dX5_copy_138 : decode cX5_copy 138 = .ok (.iload 4, 2) := by decide +kernel
theorem dX5_copy_140 : decode cX5_copy 140 = .ok (.isub, 1) := by decide +kernel
theorem dX5_copy_141 : decode cX5_copy 141 = .ok (.if_icmp .le 9, 3) := by decide +kernel
theorem dX5_copy_144 : decode cX5_copy 144 = .ok (.aload_n 0, 1) := by decide +kernel
theorem dX5_copy_145 : decode cX5_copy 145 = .ok (.iconst 3, 1) := by decide +kernel
theorem dX5_copy_146 : decode cX5_copy 146 = .ok (.invokevirtual 98, 3) := by decide +kernel
theorem dX5_copy_149 : decode cX5_copy 149 = .ok (.ireturn, 1) := by decide +kernel
theorem dX5_copy_150 : decode cX5_copy 150 = .ok (.iload_n 2, 1) := by decide +kernel
theorem dX5_copy_151 : decode cX5_copy 151 = .ok (.iload 4, 2) := by decide +kernel
theorem dX5_copy_153 : decode cX5_copy 153 = .ok (.if_icmp .ge 7, 3) := by decide +kernel
theorem dX5_copy_156 : decode cX5_copy 156 = .ok (.iconst 1, 1) := by decide +kernel
theorem dX5_copy_157 : decode cX5_copy 157 = .ok (.goto 4, 3) := by decide +kernel
theorem dX5_copy_160 : decode cX5_copy 160 = .ok (.iconst 0, 1) := by decide +kernel
theorem dX5_copy_161 : decode cX5_copy 161 = .ok (.istore 7, 2) := by decide +kernel
theorem dX5_copy_163 : decode cX5_copy 163 = .ok (.iconst 0, 1) := by decide +kernel
theorem dX5_copy_164 : decode cX5_copy 164 = .ok (.istore 8, 2) := by decide +kernel
theorem dX5_copy_166 : decode cX5_copy 166 = .ok (.iload 8, 2) := by decide +kernel
theorem dX5_copy_168 : decode cX5_copy 168 = .ok (.iload 5, 2) := by decide +kernel
theorem dX5_copy_170 : decode cX5_copy 170 = .ok (.if_icmp .ge 57, 3) := by decide +kernel
theorem dX5_copy_173 : decode cX5_copy 173 = .ok (.iload 7, 2) := by decide +kernel
theorem dX5_copy_175 : decode cX5_copy 175 = .ok (.ifCond .eq 13, 3) := by decide +kernel
theorem dX5_copy_178 : decode cX5_copy 178 = .ok (.iload 5, 2) := by decide +kernel
theorem dX5_copy_180 : decode cX5_copy 180 = .ok (.iconst 1, 1) := by decide +kernel
theorem dX5_copy_181 : decode cX5_copy 181 = .ok (.isub, 1) := by decide +kernel
theorem dX5_copy_182 : decode cX5_copy 182 = .ok (.iload 8, 2) := by decide +kernel
theorem dX5_copy_184 : decode cX5_copy 184 = .ok (.isub, 1) := by decide +kernel
theorem dX5_copy_185 : decode cX5_copy 185 = .ok (.goto 5, 3) := by decide +kernel
theorem dX5_copy_188 : decode cX5_copy 188 = .ok (.iload 8, 2) := by decide +kernel
theorem dX5_copy_190 : decode cX5_copy 190 = .ok (.istore 9, 2) := by decide +kernel
theorem dX5_copy_192 : decode cX5_copy 192 = .ok (.aload_n 0, 1) := by decide +kernel
theorem dX5_copy_193 : decode cX5_copy 193 = .ok (.getfield 16, 3) := by decide +kernel
theorem dX5_copy_196 : decode cX5_copy 196 = .ok (.bipush 60, 2) := by decide +kernel
theorem dX5_copy_198 : decode cX5_copy 198 = .ok (.iload_n 3, 1) := by decide +kernel
theorem dX5_copy_199 : decode cX5_copy 199 = .ok (.imul, 1) := by decide +kernel
theorem dX5_copy_200 : decode cX5_copy 200 = .ok (.iload 4, 2) := by decide +kernel
theorem dX5_copy_202 : decode cX5_copy 202 = .ok (.iadd, 1) := by decide +kernel
theorem dX5_copy_203 : decode cX5_copy 203 = .ok (.iload 9, 2) := by decide +kernel
theorem dX5_copy_205 : decode cX5_copy 205 = .ok (.iadd, 1) := by decide +kernel
theorem dX5_copy_206 : decode cX5_copy 206 = .ok (.aload_n 0, 1) := by decide +kernel
theorem dX5_copy_207 : decode cX5_copy 207 = .ok (.getfield 16, 3) := by decide +kernel
theorem dX5_copy_210 : decode cX5_copy 210 = .ok (.bipush 60, 2) := by decide +kernel
theorem dX5_copy_212 : decode cX5_copy 212 = .ok (.iload_n 1, 1) := by decide +kernel
theorem dX5_copy_213 : decode cX5_copy 213 = .ok (.imul, 1) := by decide +kernel
theorem dX5_copy_214 : decode cX5_copy 214 = .ok (.iload_n 2, 1) := by decide +kernel
theorem dX5_copy_215 : decode cX5_copy 215 = .ok (.iadd, 1) := by decide +kernel
theorem dX5_copy_216 : decode cX5_copy 216 = .ok (.iload 9, 2) := by decide +kernel
theorem dX5_copy_218 : decode cX5_copy 218 = .ok (.iadd, 1) := by decide +kernel
theorem dX5_copy_219 : decode cX5_copy 219 = .ok (.iaload, 1) := by decide +kernel
theorem dX5_copy_220 : decode cX5_copy 220 = .ok (.iastore, 1) := by decide +kernel
theorem dX5_copy_221 : decode cX5_copy 221 = .ok (.iinc 8 1, 3) := by decide +kernel
theorem dX5_copy_224 : decode cX5_copy 224 = .ok (.goto (-58), 3) := by decide +kernel
theorem dX5_copy_227 : decode cX5_copy 227 = .ok (.iload 5, 2) := by decide +kernel
theorem dX5_copy_229 : decode cX5_copy 229 = .ok (.ireturn, 1) := by decide +kernel
theorem dX5_begins_0 : decode cX5_begins 0 = .ok (.aload_n 0, 1) := by decide +kernel
theorem dX5_begins_1 : decode cX5_begins 1 = .ok (.bipush 31, 2) := by decide +kernel
theorem dX5_begins_3 : decode cX5_begins 3 = .ok (.aload_n 0, 1) := by decide +kernel
theorem dX5_begins_4 : decode cX5_begins 4 = .ok (.getfield 234, 3) := by decide +kernel
theorem dX5_begins_7 : decode cX5_begins 7 = .ok (.imul, 1) := by decide +kernel
theorem dX5_begins_8 : decode cX5_begins 8 = .ok (.iload_n 1, 1) := by decide +kernel
theorem dX5_begins_9 : decode cX5_begins 9 = .ok (.iadd, 1) := by decide +kernel
theorem dX5_begins_10 : decode cX5_begins 10 = .ok (.putfield 234, 3) := by decide +kernel
theorem dX5_begins_13 : decode cX5_begins 13 = .ok (.return_, 1) := by decide +kernel
theorem dX5_tell_0 : decode cX5_tell 0 = .ok (.aload_n 0, 1) := by decide +kernel
theorem dX5_tell_1 : decode cX5_tell 1 = .ok (.iload_n 1, 1) := by decide +kernel
theorem dX5_tell_2 : decode cX5_tell 2 = .ok (.invokevirtual 140, 3) := by decide +kernel
theorem dX5_tell_5 : decode cX5_tell 5 = .ok (.ifCond .ne 5, 3) := by decide +kernel
theorem dX5_tell_8 : decode cX5_tell 8 = .ok (.iconst (-1), 1) := by decide +kernel
theorem dX5_tell_9 : decode cX5_tell 9 = .ok (.ireturn, 1) := by decide +kernel
theorem dX5_tell_10 : decode cX5_tell 10 = .ok (.aload_n 0, 1) := by decide +kernel
theorem dX5_tell_11 : decode cX5_tell 11 = .ok (.getfield 22, 3) := by decide +kernel
theorem dX5_tell_14 : decode cX5_tell 14 = .ok (.iload_n 1, 1) := by decide +kernel
theorem dX5_tell_15 : decode cX5_tell 15 = .ok (.iaload, 1) := by decide +kernel
theorem dX5_tell_16 : decode cX5_tell 16 = .ok (.istore_n 2, 1) := by decide +kernel
theorem dX5_tell_17 : decode cX5_tell 17 = .ok (.aload_n 0, 1) := by decide +kernel
theorem dX5_tell_18 : decode cX5_tell 18 = .ok (.getfield 19, 3) := by decide +kernel
theorem dX5_tell_21 : decode cX5_tell 21 = .ok (.iload_n 1, 1) := by decide +kernel
theorem dX5_tell_22 : decode cX5_tell 22 = .ok (.iaload, 1) := by decide +kernel
theorem dX5_tell_23 : decode cX5_tell 23 = .ok (.lookupswitch 67 #[(1, 25), (2, 40)], 25) := by decide +kernel
theorem dX5_tell_48 : decode cX5_tell 48 = .ok (.aload_n 0, 1) := by decide +kernel
theorem dX5_tell_49 : decode cX5_tell 49 = .ok (.iconst 2, 1) := by decide +kernel
theorem dX5_tell_50 : decode cX5_tell 50 = .ok (.invokevirtual 237, 3) := by decide +kernel
theorem dX5_tell_53 : decode cX5_tell 53 = .ok (.aload_n 0, 1) := by decide +kernel
theorem dX5_tell_54 : decode cX5_tell 54 = .ok (.iconst 1, 1) := by decide +kernel
theorem dX5_tell_55 : decode cX5_tell 55 = .ok (.invokevirtual 237, 3) := by decide +kernel
theorem dX5_tell_58 : decode cX5_tell 58 = .ok (.iload_n 2, 1) := by decide +kernel
theorem dX5_tell_59 : decode cX5_tell 59 = .ok (.bipush 100, 2) := by decide +kernel
theorem dX5_tell_61 : decode cX5_tell 61 = .ok (.iadd, 1) := by decide +kernel
theorem dX5_tell_62 : decode cX5_tell 62 = .ok (.ireturn, 1) := by decide +kernel
theorem dX5_tell_63 : decode cX5_tell 63 = .ok (.aload_n 0, 1) := by decide +kernel
theorem dX5_tell_64 : decode cX5_tell 64 = .ok (.iconst 3, 1) := by decide +kernel
theorem dX5_tell_65 : decode cX5_tell 65 = .ok (.invokevirtual 237, 3) := by decide +kernel
theorem dX5_tell_68 : decode cX5_tell 68 = .ok (.aload_n 0, 1) := by decide +kernel
theorem dX5_tell_69 : decode cX5_tell 69 = .ok (.iconst 2, 1) := by decide +kernel
theorem dX5_tell_70 : decode cX5_tell 70 = .ok (.invokevirtual 237, 3) := by decide +kernel
theorem dX5_tell_73 : decode cX5_tell 73 = .ok (.aload_n 0, 1) := by decide +kernel
theorem dX5_tell_74 : decode cX5_tell 74 = .ok (.iconst 1, 1) := by decide +kernel
theorem dX5_tell_75 : decode cX5_tell 75 = .ok (.invokevirtual 237, 3) := by decide +kernel
theorem dX5_tell_78 : decode cX5_tell 78 = .ok (.aload_n 0, 1) := by decide +kernel
theorem dX5_tell_79 : decode cX5_tell 79 = .ok (.iconst 1, 1) := by decide +kernel
theorem dX5_tell_80 : decode cX5_tell 80 = .ok (.invokevirtual 237, 3) := by decide +kernel
theorem dX5_tell_83 : decode cX5_tell 83 = .ok (.iconst 2, 1) := by decide +kernel
theorem dX5_tell_84 : decode cX5_tell 84 = .ok (.iload_n 2, 1) := by decide +kernel
theorem dX5_tell_85 : decode cX5_tell 85 = .ok (.imul, 1) := by decide +kernel
theorem dX5_tell_86 : decode cX5_tell 86 = .ok (.bipush 100, 2) := by decide +kernel
theorem dX5_tell_88 : decode cX5_tell 88 = .ok (.iadd, 1) := by decide +kernel
theorem dX5_tell_89 : decode cX5_tell 89 = .ok (.ireturn, 1) := by decide +kernel
theorem dX5_tell_90 : decode cX5_tell 90 = .ok (.aload_n 0, 1) := by decide +kernel
theorem dX5_tell_91 : decode cX5_tell 91 = .ok (.iconst 1, 1) := by decide +kernel
theorem dX5_tell_92 : decode cX5_tell 92 = .ok (.invokevirtual 237, 3) := by decide +kernel
theorem dX5_tell_95 : decode cX5_tell 95 = .ok (.iload_n 2, 1) := by decide +kernel
theorem dX5_tell_96 : decode cX5_tell 96 = .ok (.ireturn, 1) := by decide +kernel
theorem dX5_hush_0 : decode cX5_hush 0 = .ok (.aload_n 0, 1) := by decide +kernel
theorem dX5_hush_1 : decode cX5_hush 1 = .ok (.iload_n 1, 1) := by decide +kernel
theorem dX5_hush_2 : decode cX5_hush 2 = .ok (.invokevirtual 140, 3) := by decide +kernel
theorem dX5_hush_5 : decode cX5_hush 5 = .ok (.ifCond .ne 5, 3) := by decide +kernel
theorem dX5_hush_8 : decode cX5_hush 8 = .ok (.iconst (-1), 1) := by decide +kernel
theorem dX5_hush_9 : decode cX5_hush 9 = .ok (.ireturn, 1) := by decide +kernel
theorem dX5_hush_10 : decode cX5_hush 10 = .ok (.aload_n 0, 1) := by decide +kernel
theorem dX5_hush_11 : decode cX5_hush 11 = .ok (.aload_n 0, 1) := by decide +kernel
theorem dX5_hush_12 : decode cX5_hush 12 = .ok (.getfield 19, 3) := by decide +kernel
theorem dX5_hush_15 : decode cX5_hush 15 = .ok (.iload_n 1, 1) := by decide +kernel
theorem dX5_hush_16 : decode cX5_hush 16 = .ok (.iaload, 1) := by decide +kernel
theorem dX5_hush_17 : decode cX5_hush 17 = .ok (.iconst 2, 1) := by decide +kernel
theorem dX5_hush_18 : decode cX5_hush 18 = .ok (.if_icmp .ne 7, 3) := by decide +kernel
theorem dX5_hush_21 : decode cX5_hush 21 = .ok (.iconst 5, 1) := by decide +kernel
theorem dX5_hush_22 : decode cX5_hush 22 = .ok (.goto 4, 3) := by decide +kernel
theorem dX5_hush_25 : decode cX5_hush 25 = .ok (.iconst 4, 1) := by decide +kernel
theorem dX5_hush_26 : decode cX5_hush 26 = .ok (.invokevirtual 237, 3) := by decide +kernel
theorem dX5_hush_29 : decode cX5_hush 29 = .ok (.aload_n 0, 1) := by decide +kernel
theorem dX5_hush_30 : decode cX5_hush 30 = .ok (.getfield 19, 3) := by decide +kernel
theorem dX5_hush_33 : decode cX5_hush 33 = .ok (.iload_n 1, 1) := by decide +kernel
theorem dX5_hush_34 : decode cX5_hush 34 = .ok (.iaload, 1) := by decide +kernel
theorem dX5_hush_35 : decode cX5_hush 35 = .ok (.iconst 2, 1) := by decide +kernel
theorem dX5_hush_36 : decode cX5_hush 36 = .ok (.if_icmp .ne 8, 3) := by decide +kernel
theorem dX5_hush_39 : decode cX5_hush 39 = .ok (.bipush 70, 2) := by decide +kernel
theorem dX5_hush_41 : decode cX5_hush 41 = .ok (.goto 4, 3) := by decide +kernel
theorem dX5_hush_44 : decode cX5_hush 44 = .ok (.iload_n 1, 1) := by decide +kernel
theorem dX5_hush_45 : decode cX5_hush 45 = .ok (.ireturn, 1) := by decide +kernel
theorem dX5_as_0 : decode cX5_as 0 = .ok (.aload_n 0, 1) := by decide +kernel
theorem dX5_as_1 : decode cX5_as 1 = .ok (.iconst 0, 1) := by decide +kernel
theorem dX5_as_2 : decode cX5_as 2 = .ok (.putfield 68, 3) := by decide +kernel
theorem dX5_as_5 : decode cX5_as 5 = .ok (.aload_n 0, 1) := by decide +kernel
theorem dX5_as_6 : decode cX5_as 6 = .ok (.iload_n 1, 1) := by decide +kernel
theorem dX5_as_7 : decode cX5_as 7 = .ok (.invokevirtual 140, 3) := by decide +kernel
theorem dX5_as_10 : decode cX5_as 10 = .ok (.ifCond .ne 5, 3) := by decide +kernel
theorem dX5_as_13 : decode cX5_as 13 = .ok (.iconst (-1), 1) := by decide +kernel
theorem dX5_as_14 : decode cX5_as 14 = .ok (.ireturn, 1) := by decide +kernel
theorem dX5_as_15 : decode cX5_as 15 = .ok (.iload_n 2, 1) := by decide +kernel
theorem dX5_as_16 : decode cX5_as 16 = .ok (.iconst 0, 1) := by decide +kernel
theorem dX5_as_17 : decode cX5_as 17 = .ok (.iconst 2, 1) := by decide +kernel
theorem dX5_as_18 : decode cX5_as 18 = .ok (.invokestatic 74, 3) := by decide +kernel
theorem dX5_as_21 : decode cX5_as 21 = .ok (.ifCond .ne 6, 3) := by decide +kernel
theorem dX5_as_24 : decode cX5_as 24 = .ok (.bipush (-2), 2) := by decide +kernel
theorem dX5_as_26 : decode cX5_as 26 = .ok (.ireturn, 1) := by decide +kernel
theorem dX5_as_27 : decode cX5_as 27 = .ok (.aload_n 0, 1) := by decide +kernel
theorem dX5_as_28 : decode cX5_as 28 = .ok (.getfield 19, 3) := by decide +kernel
theorem dX5_as_31 : decode cX5_as 31 = .ok (.iload_n 1, 1) := by decide +kernel
theorem dX5_as_32 : decode cX5_as 32 = .ok (.iaload, 1) := by decide +kernel
theorem dX5_as_33 : decode cX5_as 33 = .ok (.iload_n 2, 1) := by decide +kernel
theorem dX5_as_34 : decode cX5_as 34 = .ok (.if_icmp .lt 7, 3) := by decide +kernel
theorem dX5_as_37 : decode cX5_as 37 = .ok (.iconst 1, 1) := by decide +kernel
theorem dX5_as_38 : decode cX5_as 38 = .ok (.goto 8, 3) := by decide +kernel
theorem dX5_as_41 : decode cX5_as 41 = .ok (.aload_n 0, 1) := by decide +kernel
theorem dX5_as_42 : decode cX5_as 42 = .ok (.iconst 2, 1) := by decide +kernel
theorem dX5_as_43 : decode cX5_as 43 = .ok (.invokevirtual 98, 3) := by decide +kernel
theorem dX5_as_46 : decode cX5_as 46 = .ok (.ireturn, 1) := by decide +kernel
theorem dX5_trace_0 : decode cX5_trace 0 = .ok (.aload_n 0, 1) := by decide +kernel
theorem dX5_trace_1 : decode cX5_trace 1 = .ok (.getfield 234, 3) := by decide +kernel
theorem dX5_trace_4 : decode cX5_trace 4 = .ok (.ireturn, 1) := by decide +kernel
theorem dX5_fault_0 : decode cX5_fault 0 = .ok (.aload_n 0, 1) := by decide +kernel
theorem dX5_fault_1 : decode cX5_fault 1 = .ok (.getfield 68, 3) := by decide +kernel
theorem dX5_fault_4 : decode cX5_fault 4 = .ok (.ireturn, 1) := by decide +kernel
theorem dX5_many_0 : decode cX5_many 0 = .ok (.iload_n 1, 1) := by decide +kernel
theorem dX5_many_1 : decode cX5_many 1 = .ok (.tableswitch 60 0 4 #[35, 40, 45, 50, 55], 35) := by decide +kernel
theorem dX5_many_36 : decode cX5_many 36 = .ok (.aload_n 0, 1) := by decide +kernel
theorem dX5_many_37 : decode cX5_many 37 = .ok (.getfield 81, 3) := by decide +kernel
theorem dX5_many_40 : decode cX5_many 40 = .ok (.ireturn, 1) := by decide +kernel
theorem dX5_many_41 : decode cX5_many 41 = .ok (.aload_n 0, 1) := by decide +kernel
theorem dX5_many_42 : decode cX5_many 42 = .ok (.getfield 78, 3) := by decide +kernel
theorem dX5_many_45 : decode cX5_many 45 = .ok (.ireturn, 1) := by decide +kernel
theorem dX5_many_46 : decode cX5_many 46 = .ok (.aload_n 0, 1) := by decide +kernel
theorem dX5_many_47 : decode cX5_many 47 = .ok (.getfield 108, 3) := by decide +kernel
theorem dX5_many_50 : decode cX5_many 50 = .ok (.ireturn, 1) := by decide +kernel
theorem dX5_many_51 : decode cX5_many 51 = .ok (.aload_n 0, 1) := by decide +kernel
theorem dX5_many_52 : decode cX5_many 52 = .ok (.getfield 117, 3) := by decide +kernel
theorem dX5_many_55 : decode cX5_many 55 = .ok (.ireturn, 1) := by decide +kernel
theorem dX5_many_56 : decode cX5_many 56 = .ok (.aload_n 0, 1) := by decide +kernel
theorem dX5_many_57 : decode cX5_many 57 = .ok (.getfield 120, 3) := by decide +kernel
theorem dX5_many_60 : decode cX5_many 60 = .ok (.ireturn, 1) := by decide +kernel
theorem dX5_many_61 : decode cX5_many 61 = .ok (.bipush (-2), 2) := by decide +kernel
theorem dX5_many_63 : decode cX5_many 63 = .ok (.ireturn, 1) := by decide +kernel
theorem dJ6_bitCount_0f7a4_0 : decode cJ6_bitCount_0f7a4 0 = .ok (.iload_n 0, 1) := by decide +kernel
theorem dJ6_bitCount_0f7a4_1 : decode cJ6_bitCount_0f7a4 1 = .ok (.iload_n 0, 1) := by decide +kernel
theorem dJ6_bitCount_0f7a4_2 : decode cJ6_bitCount_0f7a4 2 = .ok (.iconst 1, 1) := by decide +kernel
theorem dJ6_bitCount_0f7a4_3 : decode cJ6_bitCount_0f7a4 3 = .ok (.iushr, 1) := by decide +kernel
theorem dJ6_bitCount_0f7a4_4 : decode cJ6_bitCount_0f7a4 4 = .ok (.ldc_w 265, 3) := by decide +kernel
theorem dJ6_bitCount_0f7a4_7 : decode cJ6_bitCount_0f7a4 7 = .ok (.iand, 1) := by decide +kernel
theorem dJ6_bitCount_0f7a4_8 : decode cJ6_bitCount_0f7a4 8 = .ok (.isub, 1) := by decide +kernel
theorem dJ6_bitCount_0f7a4_9 : decode cJ6_bitCount_0f7a4 9 = .ok (.istore_n 0, 1) := by decide +kernel
theorem dJ6_bitCount_0f7a4_10 : decode cJ6_bitCount_0f7a4 10 = .ok (.iload_n 0, 1) := by decide +kernel
theorem dJ6_bitCount_0f7a4_11 : decode cJ6_bitCount_0f7a4 11 = .ok (.ldc_w 266, 3) := by decide +kernel
theorem dJ6_bitCount_0f7a4_14 : decode cJ6_bitCount_0f7a4 14 = .ok (.iand, 1) := by decide +kernel
theorem dJ6_bitCount_0f7a4_15 : decode cJ6_bitCount_0f7a4 15 = .ok (.iload_n 0, 1) := by decide +kernel
theorem dJ6_bitCount_0f7a4_16 : decode cJ6_bitCount_0f7a4 16 = .ok (.iconst 2, 1) := by decide +kernel
theorem dJ6_bitCount_0f7a4_17 : decode cJ6_bitCount_0f7a4 17 = .ok (.iushr, 1) := by decide +kernel
theorem dJ6_bitCount_0f7a4_18 : decode cJ6_bitCount_0f7a4 18 = .ok (.ldc_w 266, 3) := by decide +kernel
theorem dJ6_bitCount_0f7a4_21 : decode cJ6_bitCount_0f7a4 21 = .ok (.iand, 1) := by decide +kernel
theorem dJ6_bitCount_0f7a4_22 : decode cJ6_bitCount_0f7a4 22 = .ok (.iadd, 1) := by decide +kernel
theorem dJ6_bitCount_0f7a4_23 : decode cJ6_bitCount_0f7a4 23 = .ok (.istore_n 0, 1) := by decide +kernel
theorem dJ6_bitCount_0f7a4_24 : decode cJ6_bitCount_0f7a4 24 = .ok (.iload_n 0, 1) := by decide +kernel
theorem dJ6_bitCount_0f7a4_25 : decode cJ6_bitCount_0f7a4 25 = .ok (.iload_n 0, 1) := by decide +kernel
theorem dJ6_bitCount_0f7a4_26 : decode cJ6_bitCount_0f7a4 26 = .ok (.iconst 4, 1) := by decide +kernel
theorem dJ6_bitCount_0f7a4_27 : decode cJ6_bitCount_0f7a4 27 = .ok (.iushr, 1) := by decide +kernel
theorem dJ6_bitCount_0f7a4_28 : decode cJ6_bitCount_0f7a4 28 = .ok (.iadd, 1) := by decide +kernel
theorem dJ6_bitCount_0f7a4_29 : decode cJ6_bitCount_0f7a4 29 = .ok (.ldc_w 267, 3) := by decide +kernel
theorem dJ6_bitCount_0f7a4_32 : decode cJ6_bitCount_0f7a4 32 = .ok (.iand, 1) := by decide +kernel
theorem dJ6_bitCount_0f7a4_33 : decode cJ6_bitCount_0f7a4 33 = .ok (.istore_n 0, 1) := by decide +kernel
theorem dJ6_bitCount_0f7a4_34 : decode cJ6_bitCount_0f7a4 34 = .ok (.iload_n 0, 1) := by decide +kernel
theorem dJ6_bitCount_0f7a4_35 : decode cJ6_bitCount_0f7a4 35 = .ok (.iload_n 0, 1) := by decide +kernel
theorem dJ6_bitCount_0f7a4_36 : decode cJ6_bitCount_0f7a4 36 = .ok (.bipush 8, 2) := by decide +kernel
theorem dJ6_bitCount_0f7a4_38 : decode cJ6_bitCount_0f7a4 38 = .ok (.iushr, 1) := by decide +kernel
theorem dJ6_bitCount_0f7a4_39 : decode cJ6_bitCount_0f7a4 39 = .ok (.iadd, 1) := by decide +kernel
theorem dJ6_bitCount_0f7a4_40 : decode cJ6_bitCount_0f7a4 40 = .ok (.istore_n 0, 1) := by decide +kernel
theorem dJ6_bitCount_0f7a4_41 : decode cJ6_bitCount_0f7a4 41 = .ok (.iload_n 0, 1) := by decide +kernel
theorem dJ6_bitCount_0f7a4_42 : decode cJ6_bitCount_0f7a4 42 = .ok (.iload_n 0, 1) := by decide +kernel
theorem dJ6_bitCount_0f7a4_43 : decode cJ6_bitCount_0f7a4 43 = .ok (.bipush 16, 2) := by decide +kernel
theorem dJ6_bitCount_0f7a4_45 : decode cJ6_bitCount_0f7a4 45 = .ok (.iushr, 1) := by decide +kernel
theorem dJ6_bitCount_0f7a4_46 : decode cJ6_bitCount_0f7a4 46 = .ok (.iadd, 1) := by decide +kernel
theorem dJ6_bitCount_0f7a4_47 : decode cJ6_bitCount_0f7a4 47 = .ok (.istore_n 0, 1) := by decide +kernel
theorem dJ6_bitCount_0f7a4_48 : decode cJ6_bitCount_0f7a4 48 = .ok (.iload_n 0, 1) := by decide +kernel
theorem dJ6_bitCount_0f7a4_49 : decode cJ6_bitCount_0f7a4 49 = .ok (.bipush 63, 2) := by decide +kernel
theorem dJ6_bitCount_0f7a4_51 : decode cJ6_bitCount_0f7a4 51 = .ok (.iand, 1) := by decide +kernel
theorem dJ6_bitCount_0f7a4_52 : decode cJ6_bitCount_0f7a4 52 = .ok (.ireturn, 1) := by decide +kernel
theorem dJ9_max_7cf53_0 : decode cJ9_max_7cf53 0 = .ok (.iload_n 0, 1) := by decide +kernel
theorem dJ9_max_7cf53_1 : decode cJ9_max_7cf53 1 = .ok (.iload_n 1, 1) := by decide +kernel
theorem dJ9_max_7cf53_2 : decode cJ9_max_7cf53 2 = .ok (.if_icmp .lt 7, 3) := by decide +kernel
theorem dJ9_max_7cf53_5 : decode cJ9_max_7cf53 5 = .ok (.iload_n 0, 1) := by decide +kernel
theorem dJ9_max_7cf53_6 : decode cJ9_max_7cf53 6 = .ok (.goto 4, 3) := by decide +kernel
theorem dJ9_max_7cf53_9 : decode cJ9_max_7cf53 9 = .ok (.iload_n 1, 1) := by decide +kernel
theorem dJ9_max_7cf53_10 : decode cJ9_max_7cf53 10 = .ok (.ireturn, 1) := by decide +kernel
theorem dJ7_fill_53178_0 : decode cJ7_fill_53178 0 = .ok (.iconst 0, 1) := by decide +kernel
theorem dJ7_fill_53178_1 : decode cJ7_fill_53178 1 = .ok (.istore_n 2, 1) := by decide +kernel
theorem dJ7_fill_53178_2 : decode cJ7_fill_53178 2 = .ok (.aload_n 0, 1) := by decide +kernel
theorem dJ7_fill_53178_3 : decode cJ7_fill_53178 3 = .ok (.arraylength, 1) := by decide +kernel
theorem dJ7_fill_53178_4 : decode cJ7_fill_53178 4 = .ok (.istore_n 3, 1) := by decide +kernel
theorem dJ7_fill_53178_5 : decode cJ7_fill_53178 5 = .ok (.iload_n 2, 1) := by decide +kernel
theorem dJ7_fill_53178_6 : decode cJ7_fill_53178 6 = .ok (.iload_n 3, 1) := by decide +kernel
theorem dJ7_fill_53178_7 : decode cJ7_fill_53178 7 = .ok (.if_icmp .ge 13, 3) := by decide +kernel
theorem dJ7_fill_53178_10 : decode cJ7_fill_53178 10 = .ok (.aload_n 0, 1) := by decide +kernel
theorem dJ7_fill_53178_11 : decode cJ7_fill_53178 11 = .ok (.iload_n 2, 1) := by decide +kernel
theorem dJ7_fill_53178_12 : decode cJ7_fill_53178 12 = .ok (.iload_n 1, 1) := by decide +kernel
theorem dJ7_fill_53178_13 : decode cJ7_fill_53178 13 = .ok (.iastore, 1) := by decide +kernel
theorem dJ7_fill_53178_14 : decode cJ7_fill_53178 14 = .ok (.iinc 2 1, 3) := by decide +kernel
theorem dJ7_fill_53178_17 : decode cJ7_fill_53178 17 = .ok (.goto (-12), 3) := by decide +kernel
theorem dJ7_fill_53178_20 : decode cJ7_fill_53178 20 = .ok (.return_, 1) := by decide +kernel
theorem dL_law_0 : decode cL_law 0 = .ok (.new 7, 3) := by decide +kernel
theorem dL_law_3 : decode cL_law 3 = .ok (.dup, 1) := by decide +kernel
theorem dL_law_4 : decode cL_law 4 = .ok (.invokespecial 9, 3) := by decide +kernel
theorem dL_law_7 : decode cL_law 7 = .ok (.astore_n 1, 1) := by decide +kernel
theorem dL_law_8 : decode cL_law 8 = .ok (.new 10, 3) := by decide +kernel
theorem dL_law_11 : decode cL_law 11 = .ok (.dup, 1) := by decide +kernel
theorem dL_law_12 : decode cL_law 12 = .ok (.invokespecial 12, 3) := by decide +kernel
theorem dL_law_15 : decode cL_law 15 = .ok (.astore_n 2, 1) := by decide +kernel
theorem dL_law_16 : decode cL_law 16 = .ok (.iconst 0, 1) := by decide +kernel
theorem dL_law_17 : decode cL_law 17 = .ok (.istore_n 3, 1) := by decide +kernel
theorem dL_law_18 : decode cL_law 18 = .ok (.iload_n 3, 1) := by decide +kernel
theorem dL_law_19 : decode cL_law 19 = .ok (.aload_n 0, 1) := by decide +kernel
theorem dL_law_20 : decode cL_law 20 = .ok (.arraylength, 1) := by decide +kernel
theorem dL_law_21 : decode cL_law 21 = .ok (.bipush 6, 2) := by decide +kernel
theorem dL_law_23 : decode cL_law 23 = .ok (.isub, 1) := by decide +kernel
theorem dL_law_24 : decode cL_law 24 = .ok (.if_icmp .gt 1161, 3) := by decide +kernel
theorem dL_law_27 : decode cL_law 27 = .ok (.aload_n 0, 1) := by decide +kernel
theorem dL_law_28 : decode cL_law 28 = .ok (.iload_n 3, 1) := by decide +kernel
theorem dL_law_29 : decode cL_law 29 = .ok (.iaload, 1) := by decide +kernel
theorem dL_law_30 : decode cL_law 30 = .ok (.bipush 31, 2) := by decide +kernel
theorem dL_law_32 : decode cL_law 32 = .ok (.iand, 1) := by decide +kernel
theorem dL_law_33 : decode cL_law 33 = .ok (.tableswitch 1146 0 30 #[139, 192, 225, 258, 281, 330, 379, 402, 465, 498, 521, 544, 607, 630, 653, 686, 709, 732, 755, 768, 802, 845, 868, 911, 955, 1018, 1041, 1064, 1097, 1110, 1123], 139) := by decide +kernel
theorem dL_law_172 : decode cL_law 172 = .ok (.aload_n 1, 1) := by decide +kernel
theorem dL_law_173 : decode cL_law 173 = .ok (.aload_n 0, 1) := by decide +kernel
theorem dL_law_174 : decode cL_law 174 = .ok (.iload_n 3, 1) := by decide +kernel
theorem dL_law_175 : decode cL_law 175 = .ok (.iconst 1, 1) := by decide +kernel
theorem dL_law_176 : decode cL_law 176 = .ok (.iadd, 1) := by decide +kernel
theorem dL_law_177 : decode cL_law 177 = .ok (.iaload, 1) := by decide +kernel
theorem dL_law_178 : decode cL_law 178 = .ok (.aload_n 0, 1) := by decide +kernel
theorem dL_law_179 : decode cL_law 179 = .ok (.iload_n 3, 1) := by decide +kernel
theorem dL_law_180 : decode cL_law 180 = .ok (.iconst 2, 1) := by decide +kernel
theorem dL_law_181 : decode cL_law 181 = .ok (.iadd, 1) := by decide +kernel
theorem dL_law_182 : decode cL_law 182 = .ok (.iaload, 1) := by decide +kernel
theorem dL_law_183 : decode cL_law 183 = .ok (.aload_n 0, 1) := by decide +kernel
theorem dL_law_184 : decode cL_law 184 = .ok (.iload_n 3, 1) := by decide +kernel
theorem dL_law_185 : decode cL_law 185 = .ok (.iconst 3, 1) := by decide +kernel
theorem dL_law_186 : decode cL_law 186 = .ok (.iadd, 1) := by decide +kernel
theorem dL_law_187 : decode cL_law 187 = .ok (.iaload, 1) := by decide +kernel
theorem dL_law_188 : decode cL_law 188 = .ok (.aload_n 0, 1) := by decide +kernel
theorem dL_law_189 : decode cL_law 189 = .ok (.iload_n 3, 1) := by decide +kernel
theorem dL_law_190 : decode cL_law 190 = .ok (.iconst 4, 1) := by decide +kernel
theorem dL_law_191 : decode cL_law 191 = .ok (.iadd, 1) := by decide +kernel
theorem dL_law_192 : decode cL_law 192 = .ok (.iaload, 1) := by decide +kernel
theorem dL_law_193 : decode cL_law 193 = .ok (.invokevirtual 13, 3) := by decide +kernel
theorem dL_law_196 : decode cL_law 196 = .ok (.aload_n 2, 1) := by decide +kernel
theorem dL_law_197 : decode cL_law 197 = .ok (.aload_n 0, 1) := by decide +kernel
theorem dL_law_198 : decode cL_law 198 = .ok (.iload_n 3, 1) := by decide +kernel
theorem dL_law_199 : decode cL_law 199 = .ok (.iconst 1, 1) := by decide +kernel
theorem dL_law_200 : decode cL_law 200 = .ok (.iadd, 1) := by decide +kernel
theorem dL_law_201 : decode cL_law 201 = .ok (.iaload, 1) := by decide +kernel
theorem dL_law_202 : decode cL_law 202 = .ok (.aload_n 0, 1) := by decide +kernel
theorem dL_law_203 : decode cL_law 203 = .ok (.iload_n 3, 1) := by decide +kernel
theorem dL_law_204 : decode cL_law 204 = .ok (.iconst 2, 1) := by decide +kernel
theorem dL_law_205 : decode cL_law 205 = .ok (.iadd, 1) := by decide +kernel
theorem dL_law_206 : decode cL_law 206 = .ok (.iaload, 1) := by decide +kernel
theorem dL_law_207 : decode cL_law 207 = .ok (.aload_n 0, 1) := by decide +kernel
theorem dL_law_208 : decode cL_law 208 = .ok (.iload_n 3, 1) := by decide +kernel
theorem dL_law_209 : decode cL_law 209 = .ok (.iconst 3, 1) := by decide +kernel
theorem dL_law_210 : decode cL_law 210 = .ok (.iadd, 1) := by decide +kernel
theorem dL_law_211 : decode cL_law 211 = .ok (.iaload, 1) := by decide +kernel
theorem dL_law_212 : decode cL_law 212 = .ok (.aload_n 0, 1) := by decide +kernel
theorem dL_law_213 : decode cL_law 213 = .ok (.iload_n 3, 1) := by decide +kernel
theorem dL_law_214 : decode cL_law 214 = .ok (.iconst 4, 1) := by decide +kernel
theorem dL_law_215 : decode cL_law 215 = .ok (.iadd, 1) := by decide +kernel
theorem dL_law_216 : decode cL_law 216 = .ok (.iaload, 1) := by decide +kernel
theorem dL_law_217 : decode cL_law 217 = .ok (.invokevirtual 17, 3) := by decide +kernel
theorem dL_law_220 : decode cL_law 220 = .ok (.if_icmp .eq 959, 3) := by decide +kernel
theorem dL_law_223 : decode cL_law 223 = .ok (.iconst 0, 1) := by decide +kernel
theorem dL_law_224 : decode cL_law 224 = .ok (.ireturn, 1) := by decide +kernel
theorem dL_law_225 : decode cL_law 225 = .ok (.aload_n 1, 1) := by decide +kernel
theorem dL_law_226 : decode cL_law 226 = .ok (.aload_n 0, 1) := by decide +kernel
theorem dL_law_227 : decode cL_law 227 = .ok (.iload_n 3, 1) := by decide +kernel
theorem dL_law_228 : decode cL_law 228 = .ok (.iconst 1, 1) := by decide +kernel
theorem dL_law_229 : decode cL_law 229 = .ok (.iadd, 1) := by decide +kernel
theorem dL_law_230 : decode cL_law 230 = .ok (.iaload, 1) := by decide +kernel
theorem dL_law_231 : decode cL_law 231 = .ok (.aload_n 0, 1) := by decide +kernel
theorem dL_law_232 : decode cL_law 232 = .ok (.iload_n 3, 1) := by decide +kernel
theorem dL_law_233 : decode cL_law 233 = .ok (.iconst 2, 1) := by decide +kernel
theorem dL_law_234 : decode cL_law 234 = .ok (.iadd, 1) := by decide +kernel
theorem dL_law_235 : decode cL_law 235 = .ok (.iaload, 1) := by decide +kernel
theorem dL_law_236 : decode cL_law 236 = .ok (.invokevirtual 18, 3) := by decide +kernel
theorem dL_law_239 : decode cL_law 239 = .ok (.aload_n 2, 1) := by decide +kernel
theorem dL_law_240 : decode cL_law 240 = .ok (.aload_n 0, 1) := by decide +kernel
theorem dL_law_241 : decode cL_law 241 = .ok (.iload_n 3, 1) := by decide +kernel
theorem dL_law_242 : decode cL_law 242 = .ok (.iconst 1, 1) := by decide +kernel
theorem dL_law_243 : decode cL_law 243 = .ok (.iadd, 1) := by decide +kernel
theorem dL_law_244 : decode cL_law 244 = .ok (.iaload, 1) := by decide +kernel
theorem dL_law_245 : decode cL_law 245 = .ok (.aload_n 0, 1) := by decide +kernel
theorem dL_law_246 : decode cL_law 246 = .ok (.iload_n 3, 1) := by decide +kernel
theorem dL_law_247 : decode cL_law 247 = .ok (.iconst 2, 1) := by decide +kernel
theorem dL_law_248 : decode cL_law 248 = .ok (.iadd, 1) := by decide +kernel
theorem dL_law_249 : decode cL_law 249 = .ok (.iaload, 1) := by decide +kernel
theorem dL_law_250 : decode cL_law 250 = .ok (.invokevirtual 22, 3) := by decide +kernel
theorem dL_law_253 : decode cL_law 253 = .ok (.if_icmp .eq 926, 3) := by decide +kernel
theorem dL_law_256 : decode cL_law 256 = .ok (.iconst 0, 1) := by decide +kernel
theorem dL_law_257 : decode cL_law 257 = .ok (.ireturn, 1) := by decide +kernel
theorem dL_law_258 : decode cL_law 258 = .ok (.aload_n 1, 1) := by decide +kernel
theorem dL_law_259 : decode cL_law 259 = .ok (.aload_n 0, 1) := by decide +kernel
theorem dL_law_260 : decode cL_law 260 = .ok (.iload_n 3, 1) := by decide +kernel
theorem dL_law_261 : decode cL_law 261 = .ok (.iconst 1, 1) := by decide +kernel
theorem dL_law_262 : decode cL_law 262 = .ok (.iadd, 1) := by decide +kernel
theorem dL_law_263 : decode cL_law 263 = .ok (.iaload, 1) := by decide +kernel
theorem dL_law_264 : decode cL_law 264 = .ok (.aload_n 0, 1) := by decide +kernel
theorem dL_law_265 : decode cL_law 265 = .ok (.iload_n 3, 1) := by decide +kernel
theorem dL_law_266 : decode cL_law 266 = .ok (.iconst 2, 1) := by decide +kernel
theorem dL_law_267 : decode cL_law 267 = .ok (.iadd, 1) := by decide +kernel
theorem dL_law_268 : decode cL_law 268 = .ok (.iaload, 1) := by decide +kernel
theorem dL_law_269 : decode cL_law 269 = .ok (.invokevirtual 23, 3) := by decide +kernel
theorem dL_law_272 : decode cL_law 272 = .ok (.aload_n 2, 1) := by decide +kernel
theorem dL_law_273 : decode cL_law 273 = .ok (.aload_n 0, 1) := by decide +kernel
theorem dL_law_274 : decode cL_law 274 = .ok (.iload_n 3, 1) := by decide +kernel
theorem dL_law_275 : decode cL_law 275 = .ok (.iconst 1, 1) := by decide +kernel
theorem dL_law_276 : decode cL_law 276 = .ok (.iadd, 1) := by decide +kernel
theorem dL_law_277 : decode cL_law 277 = .ok (.iaload, 1) := by decide +kernel
theorem dL_law_278 : decode cL_law 278 = .ok (.aload_n 0, 1) := by decide +kernel
theorem dL_law_279 : decode cL_law 279 = .ok (.iload_n 3, 1) := by decide +kernel
theorem dL_law_280 : decode cL_law 280 = .ok (.iconst 2, 1) := by decide +kernel
theorem dL_law_281 : decode cL_law 281 = .ok (.iadd, 1) := by decide +kernel
theorem dL_law_282 : decode cL_law 282 = .ok (.iaload, 1) := by decide +kernel
theorem dL_law_283 : decode cL_law 283 = .ok (.invokevirtual 26, 3) := by decide +kernel
theorem dL_law_286 : decode cL_law 286 = .ok (.if_icmp .eq 893, 3) := by decide +kernel
theorem dL_law_289 : decode cL_law 289 = .ok (.iconst 0, 1) := by decide +kernel
theorem dL_law_290 : decode cL_law 290 = .ok (.ireturn, 1) := by decide +kernel
theorem dL_law_291 : decode cL_law 291 = .ok (.aload_n 1, 1) := by decide +kernel
theorem dL_law_292 : decode cL_law 292 = .ok (.aload_n 0, 1) := by decide +kernel
theorem dL_law_293 : decode cL_law 293 = .ok (.iload_n 3, 1) := by decide +kernel
theorem dL_law_294 : decode cL_law 294 = .ok (.iconst 1, 1) := by decide +kernel
theorem dL_law_295 : decode cL_law 295 = .ok (.iadd, 1) := by decide +kernel
theorem dL_law_296 : decode cL_law 296 = .ok (.iaload, 1) := by decide +kernel
theorem dL_law_297 : decode cL_law 297 = .ok (.invokevirtual 27, 3) := by decide +kernel
theorem dL_law_300 : decode cL_law 300 = .ok (.aload_n 2, 1) := by decide +kernel
theorem dL_law_301 : decode cL_law 301 = .ok (.aload_n 0, 1) := by decide +kernel
theorem dL_law_302 : decode cL_law 302 = .ok (.iload_n 3, 1) := by decide +kernel
theorem dL_law_303 : decode cL_law 303 = .ok (.iconst 1, 1) := by decide +kernel
theorem dL_law_304 : decode cL_law 304 = .ok (.iadd, 1) := by decide +kernel
theorem dL_law_305 : decode cL_law 305 = .ok (.iaload, 1) := by decide +kernel
theorem dL_law_306 : decode cL_law 306 = .ok (.invokevirtual 31, 3) := by decide +kernel
theorem dL_law_309 : decode cL_law 309 = .ok (.if_icmp .eq 870, 3) := by decide +kernel
theorem dL_law_312 : decode cL_law 312 = .ok (.iconst 0, 1) := by decide +kernel
theorem dL_law_313 : decode cL_law 313 = .ok (.ireturn, 1) := by decide +kernel
theorem dL_law_314 : decode cL_law 314 = .ok (.aload_n 1, 1) := by decide +kernel
theorem dL_law_315 : decode cL_law 315 = .ok (.aload_n 0, 1) := by decide +kernel
theorem dL_law_316 : decode cL_law 316 = .ok (.iload_n 3, 1) := by decide +kernel
theorem dL_law_317 : decode cL_law 317 = .ok (.iconst 1, 1) := by decide +kernel
theorem dL_law_318 : decode cL_law 318 = .ok (.iadd, 1) := by decide +kernel
theorem dL_law_319 : decode cL_law 319 = .ok (.iaload, 1) := by decide +kernel
theorem dL_law_320 : decode cL_law 320 = .ok (.aload_n 0, 1) := by decide +kernel
theorem dL_law_321 : decode cL_law 321 = .ok (.iload_n 3, 1) := by decide +kernel
theorem dL_law_322 : decode cL_law 322 = .ok (.iconst 2, 1) := by decide +kernel
theorem dL_law_323 : decode cL_law 323 = .ok (.iadd, 1) := by decide +kernel
theorem dL_law_324 : decode cL_law 324 = .ok (.iaload, 1) := by decide +kernel
theorem dL_law_325 : decode cL_law 325 = .ok (.ifCond .eq 7, 3) := by decide +kernel
theorem dL_law_328 : decode cL_law 328 = .ok (.iconst 1, 1) := by decide +kernel
theorem dL_law_329 : decode cL_law 329 = .ok (.goto 4, 3) := by decide +kernel
theorem dL_law_332 : decode cL_law 332 = .ok (.iconst 0, 1) := by decide +kernel
theorem dL_law_333 : decode cL_law 333 = .ok (.invokevirtual 32, 3) := by decide +kernel
theorem dL_law_336 : decode cL_law 336 = .ok (.aload_n 2, 1) := by decide +kernel
theorem dL_law_337 : decode cL_law 337 = .ok (.aload_n 0, 1) := by decide +kernel
theorem dL_law_338 : decode cL_law 338 = .ok (.iload_n 3, 1) := by decide +kernel
theorem dL_law_339 : decode cL_law 339 = .ok (.iconst 1, 1) := by decide +kernel
theorem dL_law_340 : decode cL_law 340 = .ok (.iadd, 1) := by decide +kernel
theorem dL_law_341 : decode cL_law 341 = .ok (.iaload, 1) := by decide +kernel
theorem dL_law_342 : decode cL_law 342 = .ok (.aload_n 0, 1) := by decide +kernel
theorem dL_law_343 : decode cL_law 343 = .ok (.iload_n 3, 1) := by decide +kernel
theorem dL_law_344 : decode cL_law 344 = .ok (.iconst 2, 1) := by decide +kernel
theorem dL_law_345 : decode cL_law 345 = .ok (.iadd, 1) := by decide +kernel
theorem dL_law_346 : decode cL_law 346 = .ok (.iaload, 1) := by decide +kernel
theorem dL_law_347 : decode cL_law 347 = .ok (.ifCond .eq 7, 3) := by decide +kernel
theorem dL_law_350 : decode cL_law 350 = .ok (.iconst 1, 1) := by decide +kernel
theorem dL_law_351 : decode cL_law 351 = .ok (.goto 4, 3) := by decide +kernel
theorem dL_law_354 : decode cL_law 354 = .ok (.iconst 0, 1) := by decide +kernel
theorem dL_law_355 : decode cL_law 355 = .ok (.invokevirtual 36, 3) := by decide +kernel
theorem dL_law_358 : decode cL_law 358 = .ok (.if_icmp .eq 821, 3) := by decide +kernel
theorem dL_law_361 : decode cL_law 361 = .ok (.iconst 0, 1) := by decide +kernel
theorem dL_law_362 : decode cL_law 362 = .ok (.ireturn, 1) := by decide +kernel
theorem dL_law_363 : decode cL_law 363 = .ok (.aload_n 1, 1) := by decide +kernel
theorem dL_law_364 : decode cL_law 364 = .ok (.aload_n 0, 1) := by decide +kernel
theorem dL_law_365 : decode cL_law 365 = .ok (.iload_n 3, 1) := by decide +kernel
theorem dL_law_366 : decode cL_law 366 = .ok (.iconst 1, 1) := by decide +kernel
theorem dL_law_367 : decode cL_law 367 = .ok (.iadd, 1) := by decide +kernel
theorem dL_law_368 : decode cL_law 368 = .ok (.iaload, 1) := by decide +kernel
theorem dL_law_369 : decode cL_law 369 = .ok (.aload_n 0, 1) := by decide +kernel
theorem dL_law_370 : decode cL_law 370 = .ok (.iload_n 3, 1) := by decide +kernel
theorem dL_law_371 : decode cL_law 371 = .ok (.iconst 2, 1) := by decide +kernel
theorem dL_law_372 : decode cL_law 372 = .ok (.iadd, 1) := by decide +kernel
theorem dL_law_373 : decode cL_law 373 = .ok (.iaload, 1) := by decide +kernel
theorem dL_law_374 : decode cL_law 374 = .ok (.ifCond .eq 7, 3) := by decide +kernel
theorem dL_law_377 : decode cL_law 377 = .ok (.iconst 1, 1) := by decide +kernel
theorem dL_law_378 : decode cL_law 378 = .ok (.goto 4, 3) := by decide +kernel
theorem dL_law_381 : decode cL_law 381 = .ok (.iconst 0, 1) := by decide +kernel
theorem dL_law_382 : decode cL_law 382 = .ok (.invokevirtual 37, 3) := by decide +kernel
theorem dL_law_385 : decode cL_law 385 = .ok (.aload_n 2, 1) := by decide +kernel
theorem dL_law_386 : decode cL_law 386 = .ok (.aload_n 0, 1) := by decide +kernel
theorem dL_law_387 : decode cL_law 387 = .ok (.iload_n 3, 1) := by decide +kernel
theorem dL_law_388 : decode cL_law 388 = .ok (.iconst 1, 1) := by decide +kernel
theorem dL_law_389 : decode cL_law 389 = .ok (.iadd, 1) := by decide +kernel
theorem dL_law_390 : decode cL_law 390 = .ok (.iaload, 1) := by decide +kernel
theorem dL_law_391 : decode cL_law 391 = .ok (.aload_n 0, 1) := by decide +kernel
theorem dL_law_392 : decode cL_law 392 = .ok (.iload_n 3, 1) := by decide +kernel
theorem dL_law_393 : decode cL_law 393 = .ok (.iconst 2, 1) := by decide +kernel
theorem dL_law_394 : decode cL_law 394 = .ok (.iadd, 1) := by decide +kernel
theorem dL_law_395 : decode cL_law 395 = .ok (.iaload, 1) := by decide +kernel
theorem dL_law_396 : decode cL_law 396 = .ok (.ifCond .eq 7, 3) := by decide +kernel
theorem dL_law_399 : decode cL_law 399 = .ok (.iconst 1, 1) := by decide +kernel
theorem dL_law_400 : decode cL_law 400 = .ok (.goto 4, 3) := by decide +kernel
theorem dL_law_403 : decode cL_law 403 = .ok (.iconst 0, 1) := by decide +kernel
theorem dL_law_404 : decode cL_law 404 = .ok (.invokevirtual 40, 3) := by decide +kernel
theorem dL_law_407 : decode cL_law 407 = .ok (.if_icmp .eq 772, 3) := by decide +kernel
theorem dL_law_410 : decode cL_law 410 = .ok (.iconst 0, 1) := by decide +kernel
theorem dL_law_411 : decode cL_law 411 = .ok (.ireturn, 1) := by decide +kernel
theorem dL_law_412 : decode cL_law 412 = .ok (.aload_n 1, 1) := by decide +kernel
theorem dL_law_413 : decode cL_law 413 = .ok (.aload_n 0, 1) := by decide +kernel
theorem dL_law_414 : decode cL_law 414 = .ok (.iload_n 3, 1) := by decide +kernel
theorem dL_law_415 : decode cL_law 415 = .ok (.iconst 1, 1) := by decide +kernel
theorem dL_law_416 : decode cL_law 416 = .ok (.iadd, 1) := by decide +kernel
theorem dL_law_417 : decode cL_law 417 = .ok (.iaload, 1) := by decide +kernel
theorem dL_law_418 : decode cL_law 418 = .ok (.invokevirtual 41, 3) := by decide +kernel
theorem dL_law_421 : decode cL_law 421 = .ok (.aload_n 2, 1) := by decide +kernel
theorem dL_law_422 : decode cL_law 422 = .ok (.aload_n 0, 1) := by decide +kernel
theorem dL_law_423 : decode cL_law 423 = .ok (.iload_n 3, 1) := by decide +kernel
theorem dL_law_424 : decode cL_law 424 = .ok (.iconst 1, 1) := by decide +kernel
theorem dL_law_425 : decode cL_law 425 = .ok (.iadd, 1) := by decide +kernel
theorem dL_law_426 : decode cL_law 426 = .ok (.iaload, 1) := by decide +kernel
theorem dL_law_427 : decode cL_law 427 = .ok (.invokevirtual 44, 3) := by decide +kernel
theorem dL_law_430 : decode cL_law 430 = .ok (.if_icmp .eq 749, 3) := by decide +kernel
theorem dL_law_433 : decode cL_law 433 = .ok (.iconst 0, 1) := by decide +kernel
theorem dL_law_434 : decode cL_law 434 = .ok (.ireturn, 1) := by decide +kernel
theorem dL_law_435 : decode cL_law 435 = .ok (.aload_n 1, 1) := by decide +kernel
theorem dL_law_436 : decode cL_law 436 = .ok (.aload_n 0, 1) := by decide +kernel
theorem dL_law_437 : decode cL_law 437 = .ok (.iload_n 3, 1) := by decide +kernel
theorem dL_law_438 : decode cL_law 438 = .ok (.iconst 1, 1) := by decide +kernel
theorem dL_law_439 : decode cL_law 439 = .ok (.iadd, 1) := by decide +kernel
theorem dL_law_440 : decode cL_law 440 = .ok (.iaload, 1) := by decide +kernel
theorem dL_law_441 : decode cL_law 441 = .ok (.aload_n 0, 1) := by decide +kernel
theorem dL_law_442 : decode cL_law 442 = .ok (.iload_n 3, 1) := by decide +kernel
theorem dL_law_443 : decode cL_law 443 = .ok (.iconst 2, 1) := by decide +kernel
theorem dL_law_444 : decode cL_law 444 = .ok (.iadd, 1) := by decide +kernel
theorem dL_law_445 : decode cL_law 445 = .ok (.iaload, 1) := by decide +kernel
theorem dL_law_446 : decode cL_law 446 = .ok (.aload_n 0, 1) := by decide +kernel
theorem dL_law_447 : decode cL_law 447 = .ok (.iload_n 3, 1) := by decide +kernel
theorem dL_law_448 : decode cL_law 448 = .ok (.iconst 3, 1) := by decide +kernel
theorem dL_law_449 : decode cL_law 449 = .ok (.iadd, 1) := by decide +kernel
theorem dL_law_450 : decode cL_law 450 = .ok (.iaload, 1) := by decide +kernel
theorem dL_law_451 : decode cL_law 451 = .ok (.aload_n 0, 1) := by decide +kernel
theorem dL_law_452 : decode cL_law 452 = .ok (.iload_n 3, 1) := by decide +kernel
theorem dL_law_453 : decode cL_law 453 = .ok (.iconst 4, 1) := by decide +kernel
theorem dL_law_454 : decode cL_law 454 = .ok (.iadd, 1) := by decide +kernel
theorem dL_law_455 : decode cL_law 455 = .ok (.iaload, 1) := by decide +kernel
theorem dL_law_456 : decode cL_law 456 = .ok (.aload_n 0, 1) := by decide +kernel
theorem dL_law_457 : decode cL_law 457 = .ok (.iload_n 3, 1) := by decide +kernel
theorem dL_law_458 : decode cL_law 458 = .ok (.iconst 5, 1) := by decide +kernel
theorem dL_law_459 : decode cL_law 459 = .ok (.iadd, 1) := by decide +kernel
theorem dL_law_460 : decode cL_law 460 = .ok (.iaload, 1) := by decide +kernel
theorem dL_law_461 : decode cL_law 461 = .ok (.invokevirtual 45, 3) := by decide +kernel
theorem dL_law_464 : decode cL_law 464 = .ok (.aload_n 2, 1) := by decide +kernel
theorem dL_law_465 : decode cL_law 465 = .ok (.aload_n 0, 1) := by decide +kernel
theorem dL_law_466 : decode cL_law 466 = .ok (.iload_n 3, 1) := by decide +kernel
theorem dL_law_467 : decode cL_law 467 = .ok (.iconst 1, 1) := by decide +kernel
theorem dL_law_468 : decode cL_law 468 = .ok (.iadd, 1) := by decide +kernel
theorem dL_law_469 : decode cL_law 469 = .ok (.iaload, 1) := by decide +kernel
theorem dL_law_470 : decode cL_law 470 = .ok (.aload_n 0, 1) := by decide +kernel
theorem dL_law_471 : decode cL_law 471 = .ok (.iload_n 3, 1) := by decide +kernel
theorem dL_law_472 : decode cL_law 472 = .ok (.iconst 2, 1) := by decide +kernel
theorem dL_law_473 : decode cL_law 473 = .ok (.iadd, 1) := by decide +kernel
theorem dL_law_474 : decode cL_law 474 = .ok (.iaload, 1) := by decide +kernel
theorem dL_law_475 : decode cL_law 475 = .ok (.aload_n 0, 1) := by decide +kernel
theorem dL_law_476 : decode cL_law 476 = .ok (.iload_n 3, 1) := by decide +kernel
theorem dL_law_477 : decode cL_law 477 = .ok (.iconst 3, 1) := by decide +kernel
theorem dL_law_478 : decode cL_law 478 = .ok (.iadd, 1) := by decide +kernel
theorem dL_law_479 : decode cL_law 479 = .ok (.iaload, 1) := by decide +kernel
theorem dL_law_480 : decode cL_law 480 = .ok (.aload_n 0, 1) := by decide +kernel
theorem dL_law_481 : decode cL_law 481 = .ok (.iload_n 3, 1) := by decide +kernel
theorem dL_law_482 : decode cL_law 482 = .ok (.iconst 4, 1) := by decide +kernel
theorem dL_law_483 : decode cL_law 483 = .ok (.iadd, 1) := by decide +kernel
theorem dL_law_484 : decode cL_law 484 = .ok (.iaload, 1) := by decide +kernel
theorem dL_law_485 : decode cL_law 485 = .ok (.aload_n 0, 1) := by decide +kernel
theorem dL_law_486 : decode cL_law 486 = .ok (.iload_n 3, 1) := by decide +kernel
theorem dL_law_487 : decode cL_law 487 = .ok (.iconst 5, 1) := by decide +kernel
theorem dL_law_488 : decode cL_law 488 = .ok (.iadd, 1) := by decide +kernel
theorem dL_law_489 : decode cL_law 489 = .ok (.iaload, 1) := by decide +kernel
theorem dL_law_490 : decode cL_law 490 = .ok (.invokevirtual 49, 3) := by decide +kernel
theorem dL_law_493 : decode cL_law 493 = .ok (.if_icmp .eq 686, 3) := by decide +kernel
theorem dL_law_496 : decode cL_law 496 = .ok (.iconst 0, 1) := by decide +kernel
theorem dL_law_497 : decode cL_law 497 = .ok (.ireturn, 1) := by decide +kernel
theorem dL_law_498 : decode cL_law 498 = .ok (.aload_n 1, 1) := by decide +kernel
theorem dL_law_499 : decode cL_law 499 = .ok (.aload_n 0, 1) := by decide +kernel
theorem dL_law_500 : decode cL_law 500 = .ok (.iload_n 3, 1) := by decide +kernel
theorem dL_law_501 : decode cL_law 501 = .ok (.iconst 1, 1) := by decide +kernel
theorem dL_law_502 : decode cL_law 502 = .ok (.iadd, 1) := by decide +kernel
theorem dL_law_503 : decode cL_law 503 = .ok (.iaload, 1) := by decide +kernel
theorem dL_law_504 : decode cL_law 504 = .ok (.aload_n 0, 1) := by decide +kernel
theorem dL_law_505 : decode cL_law 505 = .ok (.iload_n 3, 1) := by decide +kernel
theorem dL_law_506 : decode cL_law 506 = .ok (.iconst 2, 1) := by decide +kernel
theorem dL_law_507 : decode cL_law 507 = .ok (.iadd, 1) := by decide +kernel
theorem dL_law_508 : decode cL_law 508 = .ok (.iaload, 1) := by decide +kernel
theorem dL_law_509 : decode cL_law 509 = .ok (.invokevirtual 50, 3) := by decide +kernel
theorem dL_law_512 : decode cL_law 512 = .ok (.aload_n 2, 1) := by decide +kernel
theorem dL_law_513 : decode cL_law 513 = .ok (.aload_n 0, 1) := by decide +kernel
theorem dL_law_514 : decode cL_law 514 = .ok (.iload_n 3, 1) := by decide +kernel
theorem dL_law_515 : decode cL_law 515 = .ok (.iconst 1, 1) := by decide +kernel
theorem dL_law_516 : decode cL_law 516 = .ok (.iadd, 1) := by decide +kernel
theorem dL_law_517 : decode cL_law 517 = .ok (.iaload, 1) := by decide +kernel
theorem dL_law_518 : decode cL_law 518 = .ok (.aload_n 0, 1) := by decide +kernel
theorem dL_law_519 : decode cL_law 519 = .ok (.iload_n 3, 1) := by decide +kernel
theorem dL_law_520 : decode cL_law 520 = .ok (.iconst 2, 1) := by decide +kernel
theorem dL_law_521 : decode cL_law 521 = .ok (.iadd, 1) := by decide +kernel
theorem dL_law_522 : decode cL_law 522 = .ok (.iaload, 1) := by decide +kernel
theorem dL_law_523 : decode cL_law 523 = .ok (.invokevirtual 53, 3) := by decide +kernel
theorem dL_law_526 : decode cL_law 526 = .ok (.if_icmp .eq 653, 3) := by decide +kernel
theorem dL_law_529 : decode cL_law 529 = .ok (.iconst 0, 1) := by decide +kernel
theorem dL_law_530 : decode cL_law 530 = .ok (.ireturn, 1) := by decide +kernel
theorem dL_law_531 : decode cL_law 531 = .ok (.aload_n 1, 1) := by decide +kernel
theorem dL_law_532 : decode cL_law 532 = .ok (.aload_n 0, 1) := by decide +kernel
theorem dL_law_533 : decode cL_law 533 = .ok (.iload_n 3, 1) := by decide +kernel
theorem dL_law_534 : decode cL_law 534 = .ok (.iconst 1, 1) := by decide +kernel
theorem dL_law_535 : decode cL_law 535 = .ok (.iadd, 1) := by decide +kernel
theorem dL_law_536 : decode cL_law 536 = .ok (.iaload, 1) := by decide +kernel
theorem dL_law_537 : decode cL_law 537 = .ok (.invokevirtual 54, 3) := by decide +kernel
theorem dL_law_540 : decode cL_law 540 = .ok (.aload_n 2, 1) := by decide +kernel
theorem dL_law_541 : decode cL_law 541 = .ok (.aload_n 0, 1) := by decide +kernel
theorem dL_law_542 : decode cL_law 542 = .ok (.iload_n 3, 1) := by decide +kernel
theorem dL_law_543 : decode cL_law 543 = .ok (.iconst 1, 1) := by decide +kernel
theorem dL_law_544 : decode cL_law 544 = .ok (.iadd, 1) := by decide +kernel
theorem dL_law_545 : decode cL_law 545 = .ok (.iaload, 1) := by decide +kernel
theorem dL_law_546 : decode cL_law 546 = .ok (.invokevirtual 57, 3) := by decide +kernel
theorem dL_law_549 : decode cL_law 549 = .ok (.if_icmp .eq 630, 3) := by decide +kernel
theorem dL_law_552 : decode cL_law 552 = .ok (.iconst 0, 1) := by decide +kernel
theorem dL_law_553 : decode cL_law 553 = .ok (.ireturn, 1) := by decide +kernel
theorem dL_law_554 : decode cL_law 554 = .ok (.aload_n 1, 1) := by decide +kernel
theorem dL_law_555 : decode cL_law 555 = .ok (.aload_n 0, 1) := by decide +kernel
theorem dL_law_556 : decode cL_law 556 = .ok (.iload_n 3, 1) := by decide +kernel
theorem dL_law_557 : decode cL_law 557 = .ok (.iconst 1, 1) := by decide +kernel
theorem dL_law_558 : decode cL_law 558 = .ok (.iadd, 1) := by decide +kernel
theorem dL_law_559 : decode cL_law 559 = .ok (.iaload, 1) := by decide +kernel
theorem dL_law_560 : decode cL_law 560 = .ok (.invokevirtual 58, 3) := by decide +kernel
theorem dL_law_563 : decode cL_law 563 = .ok (.aload_n 2, 1) := by decide +kernel
theorem dL_law_564 : decode cL_law 564 = .ok (.aload_n 0, 1) := by decide +kernel
theorem dL_law_565 : decode cL_law 565 = .ok (.iload_n 3, 1) := by decide +kernel
theorem dL_law_566 : decode cL_law 566 = .ok (.iconst 1, 1) := by decide +kernel
theorem dL_law_567 : decode cL_law 567 = .ok (.iadd, 1) := by decide +kernel
theorem dL_law_568 : decode cL_law 568 = .ok (.iaload, 1) := by decide +kernel
theorem dL_law_569 : decode cL_law 569 = .ok (.invokevirtual 61, 3) := by decide +kernel
theorem dL_law_572 : decode cL_law 572 = .ok (.if_icmp .eq 607, 3) := by decide +kernel
theorem dL_law_575 : decode cL_law 575 = .ok (.iconst 0, 1) := by decide +kernel
theorem dL_law_576 : decode cL_law 576 = .ok (.ireturn, 1) := by decide +kernel
theorem dL_law_577 : decode cL_law 577 = .ok (.aload_n 1, 1) := by decide +kernel
theorem dL_law_578 : decode cL_law 578 = .ok (.aload_n 0, 1) := by decide +kernel
theorem dL_law_579 : decode cL_law 579 = .ok (.iload_n 3, 1) := by decide +kernel
theorem dL_law_580 : decode cL_law 580 = .ok (.iconst 1, 1) := by decide +kernel
theorem dL_law_581 : decode cL_law 581 = .ok (.iadd, 1) := by decide +kernel
theorem dL_law_582 : decode cL_law 582 = .ok (.iaload, 1) := by decide +kernel
theorem dL_law_583 : decode cL_law 583 = .ok (.aload_n 0, 1) := by decide +kernel
theorem dL_law_584 : decode cL_law 584 = .ok (.iload_n 3, 1) := by decide +kernel
theorem dL_law_585 : decode cL_law 585 = .ok (.iconst 2, 1) := by decide +kernel
theorem dL_law_586 : decode cL_law 586 = .ok (.iadd, 1) := by decide +kernel
theorem dL_law_587 : decode cL_law 587 = .ok (.iaload, 1) := by decide +kernel
theorem dL_law_588 : decode cL_law 588 = .ok (.aload_n 0, 1) := by decide +kernel
theorem dL_law_589 : decode cL_law 589 = .ok (.iload_n 3, 1) := by decide +kernel
theorem dL_law_590 : decode cL_law 590 = .ok (.iconst 3, 1) := by decide +kernel
theorem dL_law_591 : decode cL_law 591 = .ok (.iadd, 1) := by decide +kernel
theorem dL_law_592 : decode cL_law 592 = .ok (.iaload, 1) := by decide +kernel
theorem dL_law_593 : decode cL_law 593 = .ok (.aload_n 0, 1) := by decide +kernel
theorem dL_law_594 : decode cL_law 594 = .ok (.iload_n 3, 1) := by decide +kernel
theorem dL_law_595 : decode cL_law 595 = .ok (.iconst 4, 1) := by decide +kernel
theorem dL_law_596 : decode cL_law 596 = .ok (.iadd, 1) := by decide +kernel
theorem dL_law_597 : decode cL_law 597 = .ok (.iaload, 1) := by decide +kernel
theorem dL_law_598 : decode cL_law 598 = .ok (.aload_n 0, 1) := by decide +kernel
theorem dL_law_599 : decode cL_law 599 = .ok (.iload_n 3, 1) := by decide +kernel
theorem dL_law_600 : decode cL_law 600 = .ok (.iconst 5, 1) := by decide +kernel
theorem dL_law_601 : decode cL_law 601 = .ok (.iadd, 1) := by decide +kernel
theorem dL_law_602 : decode cL_law 602 = .ok (.iaload, 1) := by decide +kernel
theorem dL_law_603 : decode cL_law 603 = .ok (.invokevirtual 62, 3) := by decide +kernel
theorem dL_law_606 : decode cL_law 606 = .ok (.aload_n 2, 1) := by decide +kernel
theorem dL_law_607 : decode cL_law 607 = .ok (.aload_n 0, 1) := by decide +kernel
theorem dL_law_608 : decode cL_law 608 = .ok (.iload_n 3, 1) := by decide +kernel
theorem dL_law_609 : decode cL_law 609 = .ok (.iconst 1, 1) := by decide +kernel
theorem dL_law_610 : decode cL_law 610 = .ok (.iadd, 1) := by decide +kernel
theorem dL_law_611 : decode cL_law 611 = .ok (.iaload, 1) := by decide +kernel
theorem dL_law_612 : decode cL_law 612 = .ok (.aload_n 0, 1) := by decide +kernel
end
section
theorem dL_law_613 : decode cL_law 613 = .ok (.iload_n 3, 1) := by decide +kernel
theorem dL_law_614 : decode cL_law 614 = .ok (.iconst 2, 1) := by decide +kernel
theorem dL_law_615 : decode cL_law 615 = .ok (.iadd, 1) := by decide +kernel
theorem dL_law_616 : decode cL_law 616 = .ok (.iaload, 1) := by decide +kernel
theorem dL_law_617 : decode cL_law 617 = .ok (.aload_n 0, 1) := by decide +kernel
theorem dL_law_618 : decode cL_law 618 = .ok (.iload_n 3, 1) := by decide +kernel
theorem dL_law_619 : decode cL_law 619 = .ok (.iconst 3, 1) := by decide +kernel
theorem dL_law_620 : decode cL_law 620 = .ok (.iadd, 1) := by decide +kernel
theorem dL_law_621 : decode cL_law 621 = .ok (.iaload, 1) := by decide +kernel
theorem dL_law_622 : decode cL_law 622 = .ok (.aload_n 0, 1) := by decide +kernel
theorem dL_law_623 : decode cL_law 623 = .ok (.iload_n 3, 1) := by decide +kernel
theorem dL_law_624 : decode cL_law 624 = .ok (.iconst 4, 1) := by decide +kernel
theorem dL_law_625 : decode cL_law 625 = .ok (.iadd, 1) := by decide +kernel
theorem dL_law_626 : decode cL_law 626 = .ok (.iaload, 1) := by decide +kernel
theorem dL_law_627 : decode cL_law 627 = .ok (.aload_n 0, 1) := by decide +kernel
theorem dL_law_628 : decode cL_law 628 = .ok (.iload_n 3, 1) := by decide +kernel
theorem dL_law_629 : decode cL_law 629 = .ok (.iconst 5, 1) := by decide +kernel
theorem dL_law_630 : decode cL_law 630 = .ok (.iadd, 1) := by decide +kernel
theorem dL_law_631 : decode cL_law 631 = .ok (.iaload, 1) := by decide +kernel
theorem dL_law_632 : decode cL_law 632 = .ok (.invokevirtual 65, 3) := by decide +kernel
theorem dL_law_635 : decode cL_law 635 = .ok (.if_icmp .eq 544, 3) := by decide +kernel
theorem dL_law_638 : decode cL_law 638 = .ok (.iconst 0, 1) := by decide +kernel
theorem dL_law_639 : decode cL_law 639 = .ok (.ireturn, 1) := by decide +kernel
theorem dL_law_640 : decode cL_law 640 = .ok (.aload_n 1, 1) := by decide +kernel
theorem dL_law_641 : decode cL_law 641 = .ok (.aload_n 0, 1) := by decide +kernel
theorem dL_law_642 : decode cL_law 642 = .ok (.iload_n 3, 1) := by decide +kernel
theorem dL_law_643 : decode cL_law 643 = .ok (.iconst 1, 1) := by decide +kernel
theorem dL_law_644 : decode cL_law 644 = .ok (.iadd, 1) := by decide +kernel
theorem dL_law_645 : decode cL_law 645 = .ok (.iaload, 1) := by decide +kernel
theorem dL_law_646 : decode cL_law 646 = .ok (.invokevirtual 66, 3) := by decide +kernel
theorem dL_law_649 : decode cL_law 649 = .ok (.aload_n 2, 1) := by decide +kernel
theorem dL_law_650 : decode cL_law 650 = .ok (.aload_n 0, 1) := by decide +kernel
theorem dL_law_651 : decode cL_law 651 = .ok (.iload_n 3, 1) := by decide +kernel
theorem dL_law_652 : decode cL_law 652 = .ok (.iconst 1, 1) := by decide +kernel
theorem dL_law_653 : decode cL_law 653 = .ok (.iadd, 1) := by decide +kernel
theorem dL_law_654 : decode cL_law 654 = .ok (.iaload, 1) := by decide +kernel
theorem dL_law_655 : decode cL_law 655 = .ok (.invokevirtual 69, 3) := by decide +kernel
theorem dL_law_658 : decode cL_law 658 = .ok (.if_icmp .eq 521, 3) := by decide +kernel
theorem dL_law_661 : decode cL_law 661 = .ok (.iconst 0, 1) := by decide +kernel
theorem dL_law_662 : decode cL_law 662 = .ok (.ireturn, 1) := by decide +kernel
theorem dL_law_663 : decode cL_law 663 = .ok (.aload_n 1, 1) := by decide +kernel
theorem dL_law_664 : decode cL_law 664 = .ok (.aload_n 0, 1) := by decide +kernel
theorem dL_law_665 : decode cL_law 665 = .ok (.iload_n 3, 1) := by decide +kernel
theorem dL_law_666 : decode cL_law 666 = .ok (.iconst 1, 1) := by decide +kernel
theorem dL_law_667 : decode cL_law 667 = .ok (.iadd, 1) := by decide +kernel
theorem dL_law_668 : decode cL_law 668 = .ok (.iaload, 1) := by decide +kernel
theorem dL_law_669 : decode cL_law 669 = .ok (.invokevirtual 70, 3) := by decide +kernel
theorem dL_law_672 : decode cL_law 672 = .ok (.aload_n 2, 1) := by decide +kernel
theorem dL_law_673 : decode cL_law 673 = .ok (.aload_n 0, 1) := by decide +kernel
theorem dL_law_674 : decode cL_law 674 = .ok (.iload_n 3, 1) := by decide +kernel
theorem dL_law_675 : decode cL_law 675 = .ok (.iconst 1, 1) := by decide +kernel
theorem dL_law_676 : decode cL_law 676 = .ok (.iadd, 1) := by decide +kernel
theorem dL_law_677 : decode cL_law 677 = .ok (.iaload, 1) := by decide +kernel
theorem dL_law_678 : decode cL_law 678 = .ok (.invokevirtual 73, 3) := by decide +kernel
theorem dL_law_681 : decode cL_law 681 = .ok (.if_icmp .eq 498, 3) := by decide +kernel
theorem dL_law_684 : decode cL_law 684 = .ok (.iconst 0, 1) := by decide +kernel
theorem dL_law_685 : decode cL_law 685 = .ok (.ireturn, 1) := by decide +kernel
theorem dL_law_686 : decode cL_law 686 = .ok (.aload_n 1, 1) := by decide +kernel
theorem dL_law_687 : decode cL_law 687 = .ok (.aload_n 0, 1) := by decide +kernel
theorem dL_law_688 : decode cL_law 688 = .ok (.iload_n 3, 1) := by decide +kernel
theorem dL_law_689 : decode cL_law 689 = .ok (.iconst 1, 1) := by decide +kernel
theorem dL_law_690 : decode cL_law 690 = .ok (.iadd, 1) := by decide +kernel
theorem dL_law_691 : decode cL_law 691 = .ok (.iaload, 1) := by decide +kernel
theorem dL_law_692 : decode cL_law 692 = .ok (.aload_n 0, 1) := by decide +kernel
theorem dL_law_693 : decode cL_law 693 = .ok (.iload_n 3, 1) := by decide +kernel
theorem dL_law_694 : decode cL_law 694 = .ok (.iconst 2, 1) := by decide +kernel
theorem dL_law_695 : decode cL_law 695 = .ok (.iadd, 1) := by decide +kernel
theorem dL_law_696 : decode cL_law 696 = .ok (.iaload, 1) := by decide +kernel
theorem dL_law_697 : decode cL_law 697 = .ok (.invokevirtual 74, 3) := by decide +kernel
theorem dL_law_700 : decode cL_law 700 = .ok (.aload_n 2, 1) := by decide +kernel
theorem dL_law_701 : decode cL_law 701 = .ok (.aload_n 0, 1) := by decide +kernel
theorem dL_law_702 : decode cL_law 702 = .ok (.iload_n 3, 1) := by decide +kernel
theorem dL_law_703 : decode cL_law 703 = .ok (.iconst 1, 1) := by decide +kernel
theorem dL_law_704 : decode cL_law 704 = .ok (.iadd, 1) := by decide +kernel
theorem dL_law_705 : decode cL_law 705 = .ok (.iaload, 1) := by decide +kernel
theorem dL_law_706 : decode cL_law 706 = .ok (.aload_n 0, 1) := by decide +kernel
theorem dL_law_707 : decode cL_law 707 = .ok (.iload_n 3, 1) := by decide +kernel
theorem dL_law_708 : decode cL_law 708 = .ok (.iconst 2, 1) := by decide +kernel
theorem dL_law_709 : decode cL_law 709 = .ok (.iadd, 1) := by decide +kernel
theorem dL_law_710 : decode cL_law 710 = .ok (.iaload, 1) := by decide +kernel
theorem dL_law_711 : decode cL_law 711 = .ok (.invokevirtual 77, 3) := by decide +kernel
theorem dL_law_714 : decode cL_law 714 = .ok (.if_icmp .eq 465, 3) := by decide +kernel
theorem dL_law_717 : decode cL_law 717 = .ok (.iconst 0, 1) := by decide +kernel
theorem dL_law_718 : decode cL_law 718 = .ok (.ireturn, 1) := by decide +kernel
theorem dL_law_719 : decode cL_law 719 = .ok (.aload_n 1, 1) := by decide +kernel
theorem dL_law_720 : decode cL_law 720 = .ok (.aload_n 0, 1) := by decide +kernel
theorem dL_law_721 : decode cL_law 721 = .ok (.iload_n 3, 1) := by decide +kernel
theorem dL_law_722 : decode cL_law 722 = .ok (.iconst 1, 1) := by decide +kernel
theorem dL_law_723 : decode cL_law 723 = .ok (.iadd, 1) := by decide +kernel
theorem dL_law_724 : decode cL_law 724 = .ok (.iaload, 1) := by decide +kernel
theorem dL_law_725 : decode cL_law 725 = .ok (.invokevirtual 78, 3) := by decide +kernel
theorem dL_law_728 : decode cL_law 728 = .ok (.aload_n 2, 1) := by decide +kernel
theorem dL_law_729 : decode cL_law 729 = .ok (.aload_n 0, 1) := by decide +kernel
theorem dL_law_730 : decode cL_law 730 = .ok (.iload_n 3, 1) := by decide +kernel
theorem dL_law_731 : decode cL_law 731 = .ok (.iconst 1, 1) := by decide +kernel
theorem dL_law_732 : decode cL_law 732 = .ok (.iadd, 1) := by decide +kernel
theorem dL_law_733 : decode cL_law 733 = .ok (.iaload, 1) := by decide +kernel
theorem dL_law_734 : decode cL_law 734 = .ok (.invokevirtual 81, 3) := by decide +kernel
theorem dL_law_737 : decode cL_law 737 = .ok (.if_icmp .eq 442, 3) := by decide +kernel
theorem dL_law_740 : decode cL_law 740 = .ok (.iconst 0, 1) := by decide +kernel
theorem dL_law_741 : decode cL_law 741 = .ok (.ireturn, 1) := by decide +kernel
theorem dL_law_742 : decode cL_law 742 = .ok (.aload_n 1, 1) := by decide +kernel
theorem dL_law_743 : decode cL_law 743 = .ok (.aload_n 0, 1) := by decide +kernel
theorem dL_law_744 : decode cL_law 744 = .ok (.iload_n 3, 1) := by decide +kernel
theorem dL_law_745 : decode cL_law 745 = .ok (.iconst 1, 1) := by decide +kernel
theorem dL_law_746 : decode cL_law 746 = .ok (.iadd, 1) := by decide +kernel
theorem dL_law_747 : decode cL_law 747 = .ok (.iaload, 1) := by decide +kernel
theorem dL_law_748 : decode cL_law 748 = .ok (.invokevirtual 82, 3) := by decide +kernel
theorem dL_law_751 : decode cL_law 751 = .ok (.aload_n 2, 1) := by decide +kernel
theorem dL_law_752 : decode cL_law 752 = .ok (.aload_n 0, 1) := by decide +kernel
theorem dL_law_753 : decode cL_law 753 = .ok (.iload_n 3, 1) := by decide +kernel
theorem dL_law_754 : decode cL_law 754 = .ok (.iconst 1, 1) := by decide +kernel
theorem dL_law_755 : decode cL_law 755 = .ok (.iadd, 1) := by decide +kernel
theorem dL_law_756 : decode cL_law 756 = .ok (.iaload, 1) := by decide +kernel
theorem dL_law_757 : decode cL_law 757 = .ok (.invokevirtual 85, 3) := by decide +kernel
theorem dL_law_760 : decode cL_law 760 = .ok (.if_icmp .eq 419, 3) := by decide +kernel
theorem dL_law_763 : decode cL_law 763 = .ok (.iconst 0, 1) := by decide +kernel
theorem dL_law_764 : decode cL_law 764 = .ok (.ireturn, 1) := by decide +kernel
theorem dL_law_765 : decode cL_law 765 = .ok (.aload_n 1, 1) := by decide +kernel
theorem dL_law_766 : decode cL_law 766 = .ok (.aload_n 0, 1) := by decide +kernel
theorem dL_law_767 : decode cL_law 767 = .ok (.iload_n 3, 1) := by decide +kernel
theorem dL_law_768 : decode cL_law 768 = .ok (.iconst 1, 1) := by decide +kernel
theorem dL_law_769 : decode cL_law 769 = .ok (.iadd, 1) := by decide +kernel
theorem dL_law_770 : decode cL_law 770 = .ok (.iaload, 1) := by decide +kernel
theorem dL_law_771 : decode cL_law 771 = .ok (.invokevirtual 86, 3) := by decide +kernel
theorem dL_law_774 : decode cL_law 774 = .ok (.aload_n 2, 1) := by decide +kernel
theorem dL_law_775 : decode cL_law 775 = .ok (.aload_n 0, 1) := by decide +kernel
theorem dL_law_776 : decode cL_law 776 = .ok (.iload_n 3, 1) := by decide +kernel
theorem dL_law_777 : decode cL_law 777 = .ok (.iconst 1, 1) := by decide +kernel
theorem dL_law_778 : decode cL_law 778 = .ok (.iadd, 1) := by decide +kernel
theorem dL_law_779 : decode cL_law 779 = .ok (.iaload, 1) := by decide +kernel
theorem dL_law_780 : decode cL_law 780 = .ok (.invokevirtual 89, 3) := by decide +kernel
theorem dL_law_783 : decode cL_law 783 = .ok (.if_icmp .eq 396, 3) := by decide +kernel
theorem dL_law_786 : decode cL_law 786 = .ok (.iconst 0, 1) := by decide +kernel
theorem dL_law_787 : decode cL_law 787 = .ok (.ireturn, 1) := by decide +kernel
theorem dL_law_788 : decode cL_law 788 = .ok (.aload_n 1, 1) := by decide +kernel
theorem dL_law_789 : decode cL_law 789 = .ok (.invokevirtual 90, 3) := by decide +kernel
theorem dL_law_792 : decode cL_law 792 = .ok (.aload_n 2, 1) := by decide +kernel
theorem dL_law_793 : decode cL_law 793 = .ok (.invokevirtual 94, 3) := by decide +kernel
theorem dL_law_796 : decode cL_law 796 = .ok (.if_icmp .eq 383, 3) := by decide +kernel
theorem dL_law_799 : decode cL_law 799 = .ok (.iconst 0, 1) := by decide +kernel
theorem dL_law_800 : decode cL_law 800 = .ok (.ireturn, 1) := by decide +kernel
theorem dL_law_801 : decode cL_law 801 = .ok (.aload_n 1, 1) := by decide +kernel
theorem dL_law_802 : decode cL_law 802 = .ok (.aload_n 0, 1) := by decide +kernel
theorem dL_law_803 : decode cL_law 803 = .ok (.iload_n 3, 1) := by decide +kernel
theorem dL_law_804 : decode cL_law 804 = .ok (.iconst 1, 1) := by decide +kernel
theorem dL_law_805 : decode cL_law 805 = .ok (.iadd, 1) := by decide +kernel
theorem dL_law_806 : decode cL_law 806 = .ok (.iaload, 1) := by decide +kernel
theorem dL_law_807 : decode cL_law 807 = .ok (.aload_n 0, 1) := by decide +kernel
theorem dL_law_808 : decode cL_law 808 = .ok (.iload_n 3, 1) := by decide +kernel
theorem dL_law_809 : decode cL_law 809 = .ok (.iconst 2, 1) := by decide +kernel
theorem dL_law_810 : decode cL_law 810 = .ok (.iadd, 1) := by decide +kernel
theorem dL_law_811 : decode cL_law 811 = .ok (.iaload, 1) := by decide +kernel
theorem dL_law_812 : decode cL_law 812 = .ok (.invokevirtual 95, 3) := by decide +kernel
theorem dL_law_815 : decode cL_law 815 = .ok (.aload_n 2, 1) := by decide +kernel
theorem dL_law_816 : decode cL_law 816 = .ok (.aload_n 0, 1) := by decide +kernel
theorem dL_law_817 : decode cL_law 817 = .ok (.iload_n 3, 1) := by decide +kernel
theorem dL_law_818 : decode cL_law 818 = .ok (.iconst 1, 1) := by decide +kernel
theorem dL_law_819 : decode cL_law 819 = .ok (.iadd, 1) := by decide +kernel
theorem dL_law_820 : decode cL_law 820 = .ok (.iaload, 1) := by decide +kernel
theorem dL_law_821 : decode cL_law 821 = .ok (.aload_n 0, 1) := by decide +kernel
theorem dL_law_822 : decode cL_law 822 = .ok (.iload_n 3, 1) := by decide +kernel
theorem dL_law_823 : decode cL_law 823 = .ok (.iconst 2, 1) := by decide +kernel
theorem dL_law_824 : decode cL_law 824 = .ok (.iadd, 1) := by decide +kernel
theorem dL_law_825 : decode cL_law 825 = .ok (.iaload, 1) := by decide +kernel
theorem dL_law_826 : decode cL_law 826 = .ok (.invokevirtual 99, 3) := by decide +kernel
theorem dL_law_829 : decode cL_law 829 = .ok (.lcmp, 1) := by decide +kernel
theorem dL_law_830 : decode cL_law 830 = .ok (.ifCond .eq 349, 3) := by decide +kernel
theorem dL_law_833 : decode cL_law 833 = .ok (.iconst 0, 1) := by decide +kernel
theorem dL_law_834 : decode cL_law 834 = .ok (.ireturn, 1) := by decide +kernel
theorem dL_law_835 : decode cL_law 835 = .ok (.aload_n 1, 1) := by decide +kernel
theorem dL_law_836 : decode cL_law 836 = .ok (.aload_n 0, 1) := by decide +kernel
theorem dL_law_837 : decode cL_law 837 = .ok (.iload_n 3, 1) := by decide +kernel
theorem dL_law_838 : decode cL_law 838 = .ok (.iconst 1, 1) := by decide +kernel
theorem dL_law_839 : decode cL_law 839 = .ok (.iadd, 1) := by decide +kernel
theorem dL_law_840 : decode cL_law 840 = .ok (.iaload, 1) := by decide +kernel
theorem dL_law_841 : decode cL_law 841 = .ok (.aload_n 0, 1) := by decide +kernel
theorem dL_law_842 : decode cL_law 842 = .ok (.iload_n 3, 1) := by decide +kernel
theorem dL_law_843 : decode cL_law 843 = .ok (.iconst 2, 1) := by decide +kernel
theorem dL_law_844 : decode cL_law 844 = .ok (.iadd, 1) := by decide +kernel
theorem dL_law_845 : decode cL_law 845 = .ok (.iaload, 1) := by decide +kernel
theorem dL_law_846 : decode cL_law 846 = .ok (.aload_n 0, 1) := by decide +kernel
theorem dL_law_847 : decode cL_law 847 = .ok (.iload_n 3, 1) := by decide +kernel
theorem dL_law_848 : decode cL_law 848 = .ok (.iconst 3, 1) := by decide +kernel
theorem dL_law_849 : decode cL_law 849 = .ok (.iadd, 1) := by decide +kernel
theorem dL_law_850 : decode cL_law 850 = .ok (.iaload, 1) := by decide +kernel
theorem dL_law_851 : decode cL_law 851 = .ok (.invokevirtual 100, 3) := by decide +kernel
theorem dL_law_854 : decode cL_law 854 = .ok (.aload_n 2, 1) := by decide +kernel
theorem dL_law_855 : decode cL_law 855 = .ok (.aload_n 0, 1) := by decide +kernel
theorem dL_law_856 : decode cL_law 856 = .ok (.iload_n 3, 1) := by decide +kernel
theorem dL_law_857 : decode cL_law 857 = .ok (.iconst 1, 1) := by decide +kernel
theorem dL_law_858 : decode cL_law 858 = .ok (.iadd, 1) := by decide +kernel
theorem dL_law_859 : decode cL_law 859 = .ok (.iaload, 1) := by decide +kernel
theorem dL_law_860 : decode cL_law 860 = .ok (.aload_n 0, 1) := by decide +kernel
theorem dL_law_861 : decode cL_law 861 = .ok (.iload_n 3, 1) := by decide +kernel
theorem dL_law_862 : decode cL_law 862 = .ok (.iconst 2, 1) := by decide +kernel
theorem dL_law_863 : decode cL_law 863 = .ok (.iadd, 1) := by decide +kernel
theorem dL_law_864 : decode cL_law 864 = .ok (.iaload, 1) := by decide +kernel
theorem dL_law_865 : decode cL_law 865 = .ok (.aload_n 0, 1) := by decide +kernel
theorem dL_law_866 : decode cL_law 866 = .ok (.iload_n 3, 1) := by decide +kernel
theorem dL_law_867 : decode cL_law 867 = .ok (.iconst 3, 1) := by decide +kernel
theorem dL_law_868 : decode cL_law 868 = .ok (.iadd, 1) := by decide +kernel
theorem dL_law_869 : decode cL_law 869 = .ok (.iaload, 1) := by decide +kernel
theorem dL_law_870 : decode cL_law 870 = .ok (.invokevirtual 104, 3) := by decide +kernel
theorem dL_law_873 : decode cL_law 873 = .ok (.if_icmp .eq 306, 3) := by decide +kernel
theorem dL_law_876 : decode cL_law 876 = .ok (.iconst 0, 1) := by decide +kernel
theorem dL_law_877 : decode cL_law 877 = .ok (.ireturn, 1) := by decide +kernel
theorem dL_law_878 : decode cL_law 878 = .ok (.aload_n 1, 1) := by decide +kernel
theorem dL_law_879 : decode cL_law 879 = .ok (.aload_n 0, 1) := by decide +kernel
theorem dL_law_880 : decode cL_law 880 = .ok (.iload_n 3, 1) := by decide +kernel
theorem dL_law_881 : decode cL_law 881 = .ok (.iconst 1, 1) := by decide +kernel
theorem dL_law_882 : decode cL_law 882 = .ok (.iadd, 1) := by decide +kernel
theorem dL_law_883 : decode cL_law 883 = .ok (.iaload, 1) := by decide +kernel
theorem dL_law_884 : decode cL_law 884 = .ok (.invokevirtual 105, 3) := by decide +kernel
theorem dL_law_887 : decode cL_law 887 = .ok (.aload_n 2, 1) := by decide +kernel
theorem dL_law_888 : decode cL_law 888 = .ok (.aload_n 0, 1) := by decide +kernel
theorem dL_law_889 : decode cL_law 889 = .ok (.iload_n 3, 1) := by decide +kernel
theorem dL_law_890 : decode cL_law 890 = .ok (.iconst 1, 1) := by decide +kernel
theorem dL_law_891 : decode cL_law 891 = .ok (.iadd, 1) := by decide +kernel
theorem dL_law_892 : decode cL_law 892 = .ok (.iaload, 1) := by decide +kernel
theorem dL_law_893 : decode cL_law 893 = .ok (.invokevirtual 108, 3) := by decide +kernel
theorem dL_law_896 : decode cL_law 896 = .ok (.if_icmp .eq 283, 3) := by decide +kernel
theorem dL_law_899 : decode cL_law 899 = .ok (.iconst 0, 1) := by decide +kernel
theorem dL_law_900 : decode cL_law 900 = .ok (.ireturn, 1) := by decide +kernel
theorem dL_law_901 : decode cL_law 901 = .ok (.aload_n 1, 1) := by decide +kernel
theorem dL_law_902 : decode cL_law 902 = .ok (.aload_n 0, 1) := by decide +kernel
theorem dL_law_903 : decode cL_law 903 = .ok (.iload_n 3, 1) := by decide +kernel
theorem dL_law_904 : decode cL_law 904 = .ok (.iconst 1, 1) := by decide +kernel
theorem dL_law_905 : decode cL_law 905 = .ok (.iadd, 1) := by decide +kernel
theorem dL_law_906 : decode cL_law 906 = .ok (.iaload, 1) := by decide +kernel
theorem dL_law_907 : decode cL_law 907 = .ok (.aload_n 0, 1) := by decide +kernel
theorem dL_law_908 : decode cL_law 908 = .ok (.iload_n 3, 1) := by decide +kernel
theorem dL_law_909 : decode cL_law 909 = .ok (.iconst 2, 1) := by decide +kernel
theorem dL_law_910 : decode cL_law 910 = .ok (.iadd, 1) := by decide +kernel
theorem dL_law_911 : decode cL_law 911 = .ok (.iaload, 1) := by decide +kernel
theorem dL_law_912 : decode cL_law 912 = .ok (.aload_n 0, 1) := by decide +kernel
theorem dL_law_913 : decode cL_law 913 = .ok (.iload_n 3, 1) := by decide +kernel
theorem dL_law_914 : decode cL_law 914 = .ok (.iconst 3, 1) := by decide +kernel
theorem dL_law_915 : decode cL_law 915 = .ok (.iadd, 1) := by decide +kernel
theorem dL_law_916 : decode cL_law 916 = .ok (.iaload, 1) := by decide +kernel
theorem dL_law_917 : decode cL_law 917 = .ok (.invokevirtual 109, 3) := by decide +kernel
theorem dL_law_920 : decode cL_law 920 = .ok (.aload_n 2, 1) := by decide +kernel
theorem dL_law_921 : decode cL_law 921 = .ok (.aload_n 0, 1) := by decide +kernel
theorem dL_law_922 : decode cL_law 922 = .ok (.iload_n 3, 1) := by decide +kernel
theorem dL_law_923 : decode cL_law 923 = .ok (.iconst 1, 1) := by decide +kernel
theorem dL_law_924 : decode cL_law 924 = .ok (.iadd, 1) := by decide +kernel
theorem dL_law_925 : decode cL_law 925 = .ok (.iaload, 1) := by decide +kernel
theorem dL_law_926 : decode cL_law 926 = .ok (.aload_n 0, 1) := by decide +kernel
theorem dL_law_927 : decode cL_law 927 = .ok (.iload_n 3, 1) := by decide +kernel
theorem dL_law_928 : decode cL_law 928 = .ok (.iconst 2, 1) := by decide +kernel
theorem dL_law_929 : decode cL_law 929 = .ok (.iadd, 1) := by decide +kernel
theorem dL_law_930 : decode cL_law 930 = .ok (.iaload, 1) := by decide +kernel
theorem dL_law_931 : decode cL_law 931 = .ok (.aload_n 0, 1) := by decide +kernel
theorem dL_law_932 : decode cL_law 932 = .ok (.iload_n 3, 1) := by decide +kernel
theorem dL_law_933 : decode cL_law 933 = .ok (.iconst 3, 1) := by decide +kernel
theorem dL_law_934 : decode cL_law 934 = .ok (.iadd, 1) := by decide +kernel
theorem dL_law_935 : decode cL_law 935 = .ok (.iaload, 1) := by decide +kernel
theorem dL_law_936 : decode cL_law 936 = .ok (.invokevirtual 112, 3) := by decide +kernel
theorem dL_law_939 : decode cL_law 939 = .ok (.if_icmp .eq 240, 3) := by decide +kernel
theorem dL_law_942 : decode cL_law 942 = .ok (.iconst 0, 1) := by decide +kernel
theorem dL_law_943 : decode cL_law 943 = .ok (.ireturn, 1) := by decide +kernel
theorem dL_law_944 : decode cL_law 944 = .ok (.aload_n 1, 1) := by decide +kernel
theorem dL_law_945 : decode cL_law 945 = .ok (.aload_n 0, 1) := by decide +kernel
theorem dL_law_946 : decode cL_law 946 = .ok (.iload_n 3, 1) := by decide +kernel
theorem dL_law_947 : decode cL_law 947 = .ok (.iconst 1, 1) := by decide +kernel
theorem dL_law_948 : decode cL_law 948 = .ok (.iadd, 1) := by decide +kernel
theorem dL_law_949 : decode cL_law 949 = .ok (.iaload, 1) := by decide +kernel
theorem dL_law_950 : decode cL_law 950 = .ok (.aload_n 0, 1) := by decide +kernel
theorem dL_law_951 : decode cL_law 951 = .ok (.iload_n 3, 1) := by decide +kernel
theorem dL_law_952 : decode cL_law 952 = .ok (.iconst 2, 1) := by decide +kernel
theorem dL_law_953 : decode cL_law 953 = .ok (.iadd, 1) := by decide +kernel
theorem dL_law_954 : decode cL_law 954 = .ok (.iaload, 1) := by decide +kernel
theorem dL_law_955 : decode cL_law 955 = .ok (.aload_n 0, 1) := by decide +kernel
theorem dL_law_956 : decode cL_law 956 = .ok (.iload_n 3, 1) := by decide +kernel
theorem dL_law_957 : decode cL_law 957 = .ok (.iconst 3, 1) := by decide +kernel
theorem dL_law_958 : decode cL_law 958 = .ok (.iadd, 1) := by decide +kernel
theorem dL_law_959 : decode cL_law 959 = .ok (.iaload, 1) := by decide +kernel
theorem dL_law_960 : decode cL_law 960 = .ok (.invokevirtual 113, 3) := by decide +kernel
theorem dL_law_963 : decode cL_law 963 = .ok (.aload_n 2, 1) := by decide +kernel
theorem dL_law_964 : decode cL_law 964 = .ok (.aload_n 0, 1) := by decide +kernel
theorem dL_law_965 : decode cL_law 965 = .ok (.iload_n 3, 1) := by decide +kernel
theorem dL_law_966 : decode cL_law 966 = .ok (.iconst 1, 1) := by decide +kernel
theorem dL_law_967 : decode cL_law 967 = .ok (.iadd, 1) := by decide +kernel
theorem dL_law_968 : decode cL_law 968 = .ok (.iaload, 1) := by decide +kernel
theorem dL_law_969 : decode cL_law 969 = .ok (.aload_n 0, 1) := by decide +kernel
theorem dL_law_970 : decode cL_law 970 = .ok (.iload_n 3, 1) := by decide +kernel
theorem dL_law_971 : decode cL_law 971 = .ok (.iconst 2, 1) := by decide +kernel
theorem dL_law_972 : decode cL_law 972 = .ok (.iadd, 1) := by decide +kernel
theorem dL_law_973 : decode cL_law 973 = .ok (.iaload, 1) := by decide +kernel
theorem dL_law_974 : decode cL_law 974 = .ok (.aload_n 0, 1) := by decide +kernel
theorem dL_law_975 : decode cL_law 975 = .ok (.iload_n 3, 1) := by decide +kernel
theorem dL_law_976 : decode cL_law 976 = .ok (.iconst 3, 1) := by decide +kernel
theorem dL_law_977 : decode cL_law 977 = .ok (.iadd, 1) := by decide +kernel
theorem dL_law_978 : decode cL_law 978 = .ok (.iaload, 1) := by decide +kernel
theorem dL_law_979 : decode cL_law 979 = .ok (.invokevirtual 117, 3) := by decide +kernel
theorem dL_law_982 : decode cL_law 982 = .ok (.lcmp, 1) := by decide +kernel
theorem dL_law_983 : decode cL_law 983 = .ok (.ifCond .eq 196, 3) := by decide +kernel
theorem dL_law_986 : decode cL_law 986 = .ok (.iconst 0, 1) := by decide +kernel
theorem dL_law_987 : decode cL_law 987 = .ok (.ireturn, 1) := by decide +kernel
theorem dL_law_988 : decode cL_law 988 = .ok (.aload_n 1, 1) := by decide +kernel
theorem dL_law_989 : decode cL_law 989 = .ok (.aload_n 0, 1) := by decide +kernel
theorem dL_law_990 : decode cL_law 990 = .ok (.iload_n 3, 1) := by decide +kernel
theorem dL_law_991 : decode cL_law 991 = .ok (.iconst 1, 1) := by decide +kernel
theorem dL_law_992 : decode cL_law 992 = .ok (.iadd, 1) := by decide +kernel
theorem dL_law_993 : decode cL_law 993 = .ok (.iaload, 1) := by decide +kernel
theorem dL_law_994 : decode cL_law 994 = .ok (.aload_n 0, 1) := by decide +kernel
theorem dL_law_995 : decode cL_law 995 = .ok (.iload_n 3, 1) := by decide +kernel
theorem dL_law_996 : decode cL_law 996 = .ok (.iconst 2, 1) := by decide +kernel
theorem dL_law_997 : decode cL_law 997 = .ok (.iadd, 1) := by decide +kernel
theorem dL_law_998 : decode cL_law 998 = .ok (.iaload, 1) := by decide +kernel
theorem dL_law_999 : decode cL_law 999 = .ok (.aload_n 0, 1) := by decide +kernel
theorem dL_law_1000 : decode cL_law 1000 = .ok (.iload_n 3, 1) := by decide +kernel
theorem dL_law_1001 : decode cL_law 1001 = .ok (.iconst 3, 1) := by decide +kernel
theorem dL_law_1002 : decode cL_law 1002 = .ok (.iadd, 1) := by decide +kernel
theorem dL_law_1003 : decode cL_law 1003 = .ok (.iaload, 1) := by decide +kernel
theorem dL_law_1004 : decode cL_law 1004 = .ok (.aload_n 0, 1) := by decide +kernel
theorem dL_law_1005 : decode cL_law 1005 = .ok (.iload_n 3, 1) := by decide +kernel
theorem dL_law_1006 : decode cL_law 1006 = .ok (.iconst 4, 1) := by decide +kernel
theorem dL_law_1007 : decode cL_law 1007 = .ok (.iadd, 1) := by decide +kernel
theorem dL_law_1008 : decode cL_law 1008 = .ok (.iaload, 1) := by decide +kernel
theorem dL_law_1009 : decode cL_law 1009 = .ok (.aload_n 0, 1) := by decide +kernel
theorem dL_law_1010 : decode cL_law 1010 = .ok (.iload_n 3, 1) := by decide +kernel
theorem dL_law_1011 : decode cL_law 1011 = .ok (.iconst 5, 1) := by decide +kernel
theorem dL_law_1012 : decode cL_law 1012 = .ok (.iadd, 1) := by decide +kernel
theorem dL_law_1013 : decode cL_law 1013 = .ok (.iaload, 1) := by decide +kernel
theorem dL_law_1014 : decode cL_law 1014 = .ok (.invokevirtual 118, 3) := by decide +kernel
theorem dL_law_1017 : decode cL_law 1017 = .ok (.aload_n 2, 1) := by decide +kernel
theorem dL_law_1018 : decode cL_law 1018 = .ok (.aload_n 0, 1) := by decide +kernel
theorem dL_law_1019 : decode cL_law 1019 = .ok (.iload_n 3, 1) := by decide +kernel
theorem dL_law_1020 : decode cL_law 1020 = .ok (.iconst 1, 1) := by decide +kernel
theorem dL_law_1021 : decode cL_law 1021 = .ok (.iadd, 1) := by decide +kernel
theorem dL_law_1022 : decode cL_law 1022 = .ok (.iaload, 1) := by decide +kernel
theorem dL_law_1023 : decode cL_law 1023 = .ok (.aload_n 0, 1) := by decide +kernel
theorem dL_law_1024 : decode cL_law 1024 = .ok (.iload_n 3, 1) := by decide +kernel
theorem dL_law_1025 : decode cL_law 1025 = .ok (.iconst 2, 1) := by decide +kernel
theorem dL_law_1026 : decode cL_law 1026 = .ok (.iadd, 1) := by decide +kernel
theorem dL_law_1027 : decode cL_law 1027 = .ok (.iaload, 1) := by decide +kernel
theorem dL_law_1028 : decode cL_law 1028 = .ok (.aload_n 0, 1) := by decide +kernel
theorem dL_law_1029 : decode cL_law 1029 = .ok (.iload_n 3, 1) := by decide +kernel
theorem dL_law_1030 : decode cL_law 1030 = .ok (.iconst 3, 1) := by decide +kernel
theorem dL_law_1031 : decode cL_law 1031 = .ok (.iadd, 1) := by decide +kernel
theorem dL_law_1032 : decode cL_law 1032 = .ok (.iaload, 1) := by decide +kernel
theorem dL_law_1033 : decode cL_law 1033 = .ok (.aload_n 0, 1) := by decide +kernel
theorem dL_law_1034 : decode cL_law 1034 = .ok (.iload_n 3, 1) := by decide +kernel
theorem dL_law_1035 : decode cL_law 1035 = .ok (.iconst 4, 1) := by decide +kernel
theorem dL_law_1036 : decode cL_law 1036 = .ok (.iadd, 1) := by decide +kernel
theorem dL_law_1037 : decode cL_law 1037 = .ok (.iaload, 1) := by decide +kernel
theorem dL_law_1038 : decode cL_law 1038 = .ok (.aload_n 0, 1) := by decide +kernel
theorem dL_law_1039 : decode cL_law 1039 = .ok (.iload_n 3, 1) := by decide +kernel
theorem dL_law_1040 : decode cL_law 1040 = .ok (.iconst 5, 1) := by decide +kernel
theorem dL_law_1041 : decode cL_law 1041 = .ok (.iadd, 1) := by decide +kernel
theorem dL_law_1042 : decode cL_law 1042 = .ok (.iaload, 1) := by decide +kernel
theorem dL_law_1043 : decode cL_law 1043 = .ok (.invokevirtual 121, 3) := by decide +kernel
theorem dL_law_1046 : decode cL_law 1046 = .ok (.if_icmp .eq 133, 3) := by decide +kernel
theorem dL_law_1049 : decode cL_law 1049 = .ok (.iconst 0, 1) := by decide +kernel
theorem dL_law_1050 : decode cL_law 1050 = .ok (.ireturn, 1) := by decide +kernel
theorem dL_law_1051 : decode cL_law 1051 = .ok (.aload_n 1, 1) := by decide +kernel
theorem dL_law_1052 : decode cL_law 1052 = .ok (.aload_n 0, 1) := by decide +kernel
theorem dL_law_1053 : decode cL_law 1053 = .ok (.iload_n 3, 1) := by decide +kernel
theorem dL_law_1054 : decode cL_law 1054 = .ok (.iconst 1, 1) := by decide +kernel
theorem dL_law_1055 : decode cL_law 1055 = .ok (.iadd, 1) := by decide +kernel
theorem dL_law_1056 : decode cL_law 1056 = .ok (.iaload, 1) := by decide +kernel
theorem dL_law_1057 : decode cL_law 1057 = .ok (.invokevirtual 122, 3) := by decide +kernel
theorem dL_law_1060 : decode cL_law 1060 = .ok (.aload_n 2, 1) := by decide +kernel
theorem dL_law_1061 : decode cL_law 1061 = .ok (.aload_n 0, 1) := by decide +kernel
theorem dL_law_1062 : decode cL_law 1062 = .ok (.iload_n 3, 1) := by decide +kernel
theorem dL_law_1063 : decode cL_law 1063 = .ok (.iconst 1, 1) := by decide +kernel
theorem dL_law_1064 : decode cL_law 1064 = .ok (.iadd, 1) := by decide +kernel
theorem dL_law_1065 : decode cL_law 1065 = .ok (.iaload, 1) := by decide +kernel
theorem dL_law_1066 : decode cL_law 1066 = .ok (.invokevirtual 125, 3) := by decide +kernel
theorem dL_law_1069 : decode cL_law 1069 = .ok (.if_icmp .eq 110, 3) := by decide +kernel
theorem dL_law_1072 : decode cL_law 1072 = .ok (.iconst 0, 1) := by decide +kernel
theorem dL_law_1073 : decode cL_law 1073 = .ok (.ireturn, 1) := by decide +kernel
theorem dL_law_1074 : decode cL_law 1074 = .ok (.aload_n 1, 1) := by decide +kernel
theorem dL_law_1075 : decode cL_law 1075 = .ok (.aload_n 0, 1) := by decide +kernel
theorem dL_law_1076 : decode cL_law 1076 = .ok (.iload_n 3, 1) := by decide +kernel
theorem dL_law_1077 : decode cL_law 1077 = .ok (.iconst 1, 1) := by decide +kernel
theorem dL_law_1078 : decode cL_law 1078 = .ok (.iadd, 1) := by decide +kernel
theorem dL_law_1079 : decode cL_law 1079 = .ok (.iaload, 1) := by decide +kernel
theorem dL_law_1080 : decode cL_law 1080 = .ok (.invokevirtual 126, 3) := by decide +kernel
theorem dL_law_1083 : decode cL_law 1083 = .ok (.aload_n 2, 1) := by decide +kernel
theorem dL_law_1084 : decode cL_law 1084 = .ok (.aload_n 0, 1) := by decide +kernel
theorem dL_law_1085 : decode cL_law 1085 = .ok (.iload_n 3, 1) := by decide +kernel
theorem dL_law_1086 : decode cL_law 1086 = .ok (.iconst 1, 1) := by decide +kernel
theorem dL_law_1087 : decode cL_law 1087 = .ok (.iadd, 1) := by decide +kernel
theorem dL_law_1088 : decode cL_law 1088 = .ok (.iaload, 1) := by decide +kernel
theorem dL_law_1089 : decode cL_law 1089 = .ok (.invokevirtual 129, 3) := by decide +kernel
theorem dL_law_1092 : decode cL_law 1092 = .ok (.if_icmp .eq 87, 3) := by decide +kernel
theorem dL_law_1095 : decode cL_law 1095 = .ok (.iconst 0, 1) := by decide +kernel
theorem dL_law_1096 : decode cL_law 1096 = .ok (.ireturn, 1) := by decide +kernel
theorem dL_law_1097 : decode cL_law 1097 = .ok (.aload_n 1, 1) := by decide +kernel
theorem dL_law_1098 : decode cL_law 1098 = .ok (.aload_n 0, 1) := by decide +kernel
theorem dL_law_1099 : decode cL_law 1099 = .ok (.iload_n 3, 1) := by decide +kernel
theorem dL_law_1100 : decode cL_law 1100 = .ok (.iconst 1, 1) := by decide +kernel
theorem dL_law_1101 : decode cL_law 1101 = .ok (.iadd, 1) := by decide +kernel
theorem dL_law_1102 : decode cL_law 1102 = .ok (.iaload, 1) := by decide +kernel
theorem dL_law_1103 : decode cL_law 1103 = .ok (.aload_n 0, 1) := by decide +kernel
theorem dL_law_1104 : decode cL_law 1104 = .ok (.iload_n 3, 1) := by decide +kernel
theorem dL_law_1105 : decode cL_law 1105 = .ok (.iconst 2, 1) := by decide +kernel
theorem dL_law_1106 : decode cL_law 1106 = .ok (.iadd, 1) := by decide +kernel
theorem dL_law_1107 : decode cL_law 1107 = .ok (.iaload, 1) := by decide +kernel
theorem dL_law_1108 : decode cL_law 1108 = .ok (.invokevirtual 130, 3) := by decide +kernel
theorem dL_law_1111 : decode cL_law 1111 = .ok (.aload_n 2, 1) := by decide +kernel
theorem dL_law_1112 : decode cL_law 1112 = .ok (.aload_n 0, 1) := by decide +kernel
theorem dL_law_1113 : decode cL_law 1113 = .ok (.iload_n 3, 1) := by decide +kernel
theorem dL_law_1114 : decode cL_law 1114 = .ok (.iconst 1, 1) := by decide +kernel
theorem dL_law_1115 : decode cL_law 1115 = .ok (.iadd, 1) := by decide +kernel
theorem dL_law_1116 : decode cL_law 1116 = .ok (.iaload, 1) := by decide +kernel
theorem dL_law_1117 : decode cL_law 1117 = .ok (.aload_n 0, 1) := by decide +kernel
theorem dL_law_1118 : decode cL_law 1118 = .ok (.iload_n 3, 1) := by decide +kernel
theorem dL_law_1119 : decode cL_law 1119 = .ok (.iconst 2, 1) := by decide +kernel
theorem dL_law_1120 : decode cL_law 1120 = .ok (.iadd, 1) := by decide +kernel
theorem dL_law_1121 : decode cL_law 1121 = .ok (.iaload, 1) := by decide +kernel
theorem dL_law_1122 : decode cL_law 1122 = .ok (.invokevirtual 133, 3) := by decide +kernel
theorem dL_law_1125 : decode cL_law 1125 = .ok (.if_icmp .eq 54, 3) := by decide +kernel
theorem dL_law_1128 : decode cL_law 1128 = .ok (.iconst 0, 1) := by decide +kernel
theorem dL_law_1129 : decode cL_law 1129 = .ok (.ireturn, 1) := by decide +kernel
theorem dL_law_1130 : decode cL_law 1130 = .ok (.aload_n 1, 1) := by decide +kernel
theorem dL_law_1131 : decode cL_law 1131 = .ok (.invokevirtual 134, 3) := by decide +kernel
theorem dL_law_1134 : decode cL_law 1134 = .ok (.aload_n 2, 1) := by decide +kernel
theorem dL_law_1135 : decode cL_law 1135 = .ok (.invokevirtual 137, 3) := by decide +kernel
theorem dL_law_1138 : decode cL_law 1138 = .ok (.if_icmp .eq 41, 3) := by decide +kernel
theorem dL_law_1141 : decode cL_law 1141 = .ok (.iconst 0, 1) := by decide +kernel
theorem dL_law_1142 : decode cL_law 1142 = .ok (.ireturn, 1) := by decide +kernel
theorem dL_law_1143 : decode cL_law 1143 = .ok (.aload_n 1, 1) := by decide +kernel
theorem dL_law_1144 : decode cL_law 1144 = .ok (.invokevirtual 138, 3) := by decide +kernel
theorem dL_law_1147 : decode cL_law 1147 = .ok (.aload_n 2, 1) := by decide +kernel
theorem dL_law_1148 : decode cL_law 1148 = .ok (.invokevirtual 141, 3) := by decide +kernel
theorem dL_law_1151 : decode cL_law 1151 = .ok (.if_icmp .eq 28, 3) := by decide +kernel
theorem dL_law_1154 : decode cL_law 1154 = .ok (.iconst 0, 1) := by decide +kernel
theorem dL_law_1155 : decode cL_law 1155 = .ok (.ireturn, 1) := by decide +kernel
theorem dL_law_1156 : decode cL_law 1156 = .ok (.aload_n 1, 1) := by decide +kernel
theorem dL_law_1157 : decode cL_law 1157 = .ok (.aload_n 0, 1) := by decide +kernel
theorem dL_law_1158 : decode cL_law 1158 = .ok (.iload_n 3, 1) := by decide +kernel
theorem dL_law_1159 : decode cL_law 1159 = .ok (.iconst 1, 1) := by decide +kernel
theorem dL_law_1160 : decode cL_law 1160 = .ok (.iadd, 1) := by decide +kernel
theorem dL_law_1161 : decode cL_law 1161 = .ok (.iaload, 1) := by decide +kernel
theorem dL_law_1162 : decode cL_law 1162 = .ok (.invokevirtual 142, 3) := by decide +kernel
theorem dL_law_1165 : decode cL_law 1165 = .ok (.aload_n 2, 1) := by decide +kernel
theorem dL_law_1166 : decode cL_law 1166 = .ok (.aload_n 0, 1) := by decide +kernel
theorem dL_law_1167 : decode cL_law 1167 = .ok (.iload_n 3, 1) := by decide +kernel
theorem dL_law_1168 : decode cL_law 1168 = .ok (.iconst 1, 1) := by decide +kernel
theorem dL_law_1169 : decode cL_law 1169 = .ok (.iadd, 1) := by decide +kernel
theorem dL_law_1170 : decode cL_law 1170 = .ok (.iaload, 1) := by decide +kernel
theorem dL_law_1171 : decode cL_law 1171 = .ok (.invokevirtual 145, 3) := by decide +kernel
theorem dL_law_1174 : decode cL_law 1174 = .ok (.if_icmp .eq 5, 3) := by decide +kernel
theorem dL_law_1177 : decode cL_law 1177 = .ok (.iconst 0, 1) := by decide +kernel
theorem dL_law_1178 : decode cL_law 1178 = .ok (.ireturn, 1) := by decide +kernel
theorem dL_law_1179 : decode cL_law 1179 = .ok (.iinc 3 6, 3) := by decide +kernel
theorem dL_law_1182 : decode cL_law 1182 = .ok (.goto (-1164), 3) := by decide +kernel
theorem dL_law_1185 : decode cL_law 1185 = .ok (.iconst 1, 1) := by decide +kernel
theorem dL_law_1186 : decode cL_law 1186 = .ok (.ireturn, 1) := by decide +kernel
end
section
/-! the tables' words, at every state of the run -/
def isNest : Cond → Bool
  | .fieldLinkNest .. => true
  | .methodLinkNest .. => true
  | _ => false
def tbOk (w : Cond) : Bool := goodWord w || isNest w
def tbl : List Cond := lw_tbl.filter tbOk
theorem tb_kinds : ∀ w ∈ tbl, (goodWord w || isNest w) = true := fun _ h => (List.mem_filter.mp h).2
theorem tb_in {w : Cond} (i : Nat) (h : lw_tbl[i]? = some w) (hk : tbOk w = true) : w ∈ tbl := List.mem_filter.mpr ⟨List.mem_of_getElem? h, hk⟩
def TB (U : State) : Prop := ∀ w ∈ tbl, ∀ a : Array Value, w.before a U = true
theorem TB.warm {s U : State} (hW : s.WarmedH U.vm) (h : TB s) : TB U := by
  intro w hw a
  have hk := tb_kinds w hw
  rw [Bool.or_eq_true] at hk
  rcases hk with hk | hk
  · exact word_at hW (good_of_word hk) (h w hw #[])
  · cases w with
    | fieldLinkNest x i b n d hh => exact va_Nw.use rfl (va_Nw.warmF hW (h _ hw #[]))
    | methodLinkNest x i b hh => exact va_Nw.use rfl (va_Nw.warmM hW (h _ hw #[]))
    | _ => simp [isNest] at hk
theorem TB.calling {U : State} (g : JFrame) (mk : MethodId) (a : Array Value) (h : TB U) : TB (U.calling g mk a) := TB.warm (s := U) (State.WarmedH.refl U) h
theorem TB.of {b : Nat} {s : State} (hts0 : ∀ w ∈ lw_tbl, w.before #[Value.ref b] s = true) : TB s := by
  intro w hw a
  have hts : ∀ w ∈ tbl, w.before #[Value.ref b] s = true := fun w h => hts0 w (List.mem_filter.mp h).1
  have hk := tb_kinds w hw
  rw [Bool.or_eq_true] at hk
  rcases hk with hk | hk
  · exact word_at (State.WarmedH.refl s) (good_of_word hk) (hts w hw)
  · cases w with
    | fieldLinkNest x i b n d hh => exact va_Nw.use rfl (va_Nw.of rfl (hts _ hw))
    | methodLinkNest x i b hh => exact va_Nw.use rfl (va_Nw.of rfl (hts _ hw))
    | _ => simp [isNest] at hk
abbrev tys3 (cI cB cS : ClassId) : List (ClassId × FieldType) := [(cI, .int), (cB, .boolean), (cS, .object RX1)]
/-- what is known of the tables at a state: their words; classes and array classes -/
def Wd (D : va_G) (cI cB cS : ClassId) (U : State) : Prop := TB U ∧ va_K D vwCl (tys3 cI cB cS) U
theorem Wd.warm {D : va_G} {cI cB cS : ClassId} {s U : State} (hW : s.WarmedH U.vm) (h : Wd D cI cB cS s) : Wd D cI cB cS U := ⟨h.1.warm hW, va_K.moved hW.alike h.2⟩
theorem Wd.calling {D : va_G} {cI cB cS : ClassId} {U : State} (g : JFrame) (mk : MethodId) (a : Array Value) (h : Wd D cI cB cS U) : Wd D cI cB cS (U.calling g mk a) := Wd.warm (s := U) (State.WarmedH.refl U) h
/-! the judgement: from the symbolic world, locals, place and stack the run comes to Q -/
def V (p : Program) (l : Launch) (e : Env) (R : Room) (s : State) (m : MethodId) (args : Array Value) (below : List Frame) (meth : Method) (c : Code) (D : va_G) (I : va_W → Heap → List Loc → Prop) (Q : State → Prop) (mc ms nL : Nat) (ws : va_W) (lv : List (Nat × Value)) (pc : Nat) (st : List Value) : Prop :=
  ∀ (H : Heap) (locs : List Loc) (ls : Array Slot), va_P D vwCl ws H → I ws H locs → lv_has ls nL lv → W p l e R s m args below meth c H locs mc ms Q (F0 m pc ls st)
/-- a mutating method's frame: addresses apart and in A, outside A nothing has changed -/
def IM (A : Nat → Prop) (s : State) : va_W → Heap → List Loc → Prop := fun ws H locs => va_D A ws ∧ va_S A s.heap H locs ∧ ∀ q, s.heap.size ≤ q → A q
/-- a reading method's frame -/
def IR (s : State) : va_W → Heap → List Loc → Prop := fun _ H locs => H = s.heap ∧ locs = []
def Cx (p : Program) (s : State) (m : MethodId) (meth : Method) (c : Code) (D : va_G) (cI cB cS : ClassId) (cc : ByteArray) (nL : Nat) (own : String) (ret : Option FieldType) : Prop :=
  p.tables.exec = Jvm.exec ∧ c.code = cc ∧ c.maxLocals = nL ∧ s.vm.findClass own = some m.cls ∧ meth.sig.returnType = ret ∧ meth.locks = false ∧ TB s ∧ va_K D vwCl (tys3 cI cB cS) s
section CoreRows
variable {p : Program} {l : Launch} {e : Env} {R : Room} {s : State} {m : MethodId} {args : Array Value} {below : List Frame} {meth : Method} {c : Code} {D : va_G} {I : va_W → Heap → List Loc → Prop} {Q : State → Prop} {mc ms nL : Nat} {ws : va_W} {lv : List (Nat × Value)} {pc : Nat} {st : List Value} {cI cB cS : ClassId} {cc : ByteArray} {own : String} {ret : Option FieldType}
theorem v_aload_n (C : Cx p s m meth c D cI cB cS cc nL own ret) {k : Fin 4} {x : Nat} (d : decode cc pc = .ok (.aload_n k, 1)) (q : Nat) (h : lv[q]? = some ((k : Nat), .ref x)) (kk : V p l e R s m args below meth c D I Q mc ms nL ws lv (pc + 1) (.ref x :: st)) : V p l e R s m args below meth c D I Q mc ms nL ws lv pc st :=
  fun H locs ls hP hI hl => lv_aload_n C.1 C.2.1 d rfl (lv_at hl q h) (kk H locs ls hP hI hl)
theorem v_aload (C : Cx p s m meth c D cI cB cS cc nL own ret) {i x : Nat} (d : decode cc pc = .ok (.aload i, 2)) (q : Nat) (h : lv[q]? = some (i, .ref x)) (kk : V p l e R s m args below meth c D I Q mc ms nL ws lv (pc + 2) (.ref x :: st)) : V p l e R s m args below meth c D I Q mc ms nL ws lv pc st :=
  fun H locs ls hP hI hl => lv_aload C.1 C.2.1 d (lv_at hl q h) (kk H locs ls hP hI hl)
theorem v_iload_n (C : Cx p s m meth c D cI cB cS cc nL own ret) {k : Fin 4} {x : Int32} (d : decode cc pc = .ok (.iload_n k, 1)) (q : Nat) (h : lv[q]? = some ((k : Nat), .int x)) (kk : V p l e R s m args below meth c D I Q mc ms nL ws lv (pc + 1) (.int x :: st)) : V p l e R s m args below meth c D I Q mc ms nL ws lv pc st :=
  fun H locs ls hP hI hl => lv_iload_n C.1 C.2.1 d rfl (lv_at hl q h) (kk H locs ls hP hI hl)
theorem v_iload (C : Cx p s m meth c D cI cB cS cc nL own ret) {i : Nat} {x : Int32} (d : decode cc pc = .ok (.iload i, 2)) (q : Nat) (h : lv[q]? = some (i, .int x)) (kk : V p l e R s m args below meth c D I Q mc ms nL ws lv (pc + 2) (.int x :: st)) : V p l e R s m args below meth c D I Q mc ms nL ws lv pc st :=
  fun H locs ls hP hI hl => lv_iload C.1 C.2.1 d (lv_at hl q h) (kk H locs ls hP hI hl)
theorem v_lload_n (C : Cx p s m meth c D cI cB cS cc nL own ret) {k : Fin 4} {x : Int64} (d : decode cc pc = .ok (.lload_n k, 1)) (q : Nat) (h : lv[q]? = some ((k : Nat), .long x)) (kk : V p l e R s m args below meth c D I Q mc ms nL ws lv (pc + 1) (.long x :: st)) : V p l e R s m args below meth c D I Q mc ms nL ws lv pc st :=
  fun H locs ls hP hI hl => lv_lload_n C.1 C.2.1 d rfl (lv_at hl q h) (kk H locs ls hP hI hl)
theorem v_lload (C : Cx p s m meth c D cI cB cS cc nL own ret) {i : Nat} {x : Int64} (d : decode cc pc = .ok (.lload i, 2)) (q : Nat) (h : lv[q]? = some (i, .long x)) (kk : V p l e R s m args below meth c D I Q mc ms nL ws lv (pc + 2) (.long x :: st)) : V p l e R s m args below meth c D I Q mc ms nL ws lv pc st :=
  fun H locs ls hP hI hl => lv_lload C.1 C.2.1 d (lv_at hl q h) (kk H locs ls hP hI hl)
theorem v_iconst (C : Cx p s m meth c D cI cB cS cc nL own ret) {n : Int} (v : Int32) (d : decode cc pc = .ok (.iconst n, 1)) (h : Int32.ofInt n = v) (kk : V p l e R s m args below meth c D I Q mc ms nL ws lv (pc + 1) (.int v :: st)) : V p l e R s m args below meth c D I Q mc ms nL ws lv pc st :=
  fun H locs ls hP hI hl => lv_iconst C.1 C.2.1 d h (kk H locs ls hP hI hl)
theorem v_bipush (C : Cx p s m meth c D cI cB cS cc nL own ret) {n : Int} (v : Int32) (d : decode cc pc = .ok (.bipush n, 2)) (h : (Int8.ofInt n).toInt32 = v) (kk : V p l e R s m args below meth c D I Q mc ms nL ws lv (pc + 2) (.int v :: st)) : V p l e R s m args below meth c D I Q mc ms nL ws lv pc st :=
  fun H locs ls hP hI hl => lv_bipush C.1 C.2.1 d h (kk H locs ls hP hI hl)
theorem v_sipush (C : Cx p s m meth c D cI cB cS cc nL own ret) {n : Int} (v : Int32) (d : decode cc pc = .ok (.sipush n, 3)) (h : (Int16.ofInt n).toInt32 = v) (kk : V p l e R s m args below meth c D I Q mc ms nL ws lv (pc + 3) (.int v :: st)) : V p l e R s m args below meth c D I Q mc ms nL ws lv pc st :=
  fun H locs ls hP hI hl => lv_sipush C.1 C.2.1 d h (kk H locs ls hP hI hl)
theorem v_lconst (C : Cx p s m meth c D cI cB cS cc nL own ret) {n : Fin 2} (v : Int64) (d : decode cc pc = .ok (.lconst n, 1)) (h : Int64.ofNat (n : Nat) = v) (kk : V p l e R s m args below meth c D I Q mc ms nL ws lv (pc + 1) (.long v :: st)) : V p l e R s m args below meth c D I Q mc ms nL ws lv pc st :=
  fun H locs ls hP hI hl => lv_lconst C.1 C.2.1 d h (kk H locs ls hP hI hl)
theorem v_ldc2 (C : Cx p s m meth c D cI cB cS cc nL own ret) {ix : Nat} {v : Int64} (hw : Cond.constantLong own ix v ∈ tbl) (d : decode cc pc = .ok (.ldc2_w ix, 3)) (kk : V p l e R s m args below meth c D I Q mc ms nL ws lv (pc + 3) (.long v :: st)) : V p l e R s m args below meth c D I Q mc ms nL ws lv pc st :=
  fun H locs ls hP hI hl => lv_ldc2 C.1 C.2.1 C.2.2.2.1 (C.2.2.2.2.2.2.1 _ hw _) d (kk H locs ls hP hI hl)
theorem v_ldcw (C : Cx p s m meth c D cI cB cS cc nL own ret) {ix : Nat} {v : Int32} (hw : Cond.constant own ix v ∈ tbl) (d : decode cc pc = .ok (.ldc_w ix, 3)) (kk : V p l e R s m args below meth c D I Q mc ms nL ws lv (pc + 3) (.int v :: st)) : V p l e R s m args below meth c D I Q mc ms nL ws lv pc st :=
  fun H locs ls hP hI hl => lv_ldcw C.1 C.2.1 C.2.2.2.1 (C.2.2.2.2.2.2.1 _ hw _) d (kk H locs ls hP hI hl)
theorem v_istore_n (C : Cx p s m meth c D cI cB cS cc nL own ret) {k : Fin 4} {x : Int32} (lv' : List (Nat × Value)) (d : decode cc pc = .ok (.istore_n k, 1)) (hn : (k : Nat) < nL) (hl' : ((k : Nat), Value.int x) :: lv.filter (fun q => !(q.1 == (k : Nat)) && !(q.1 + 1 == (k : Nat) && q.2.category == 2)) = lv') (kk : V p l e R s m args below meth c D I Q mc ms nL ws lv' (pc + 1) st) : V p l e R s m args below meth c D I Q mc ms nL ws lv pc (.int x :: st) :=
  fun H locs _ hP hI hl => lv_istore_n C.1 C.2.1 d rfl hl hn hl' (fun ls' h' => kk H locs ls' hP hI h')
theorem v_istore (C : Cx p s m meth c D cI cB cS cc nL own ret) {k : Nat} {x : Int32} (lv' : List (Nat × Value)) (d : decode cc pc = .ok (.istore k, 2)) (hn : k < nL) (hl' : (k, Value.int x) :: lv.filter (fun q => !(q.1 == k) && !(q.1 + 1 == k && q.2.category == 2)) = lv') (kk : V p l e R s m args below meth c D I Q mc ms nL ws lv' (pc + 2) st) : V p l e R s m args below meth c D I Q mc ms nL ws lv pc (.int x :: st) :=
  fun H locs _ hP hI hl => lv_istore C.1 C.2.1 d hl hn hl' (fun ls' h' => kk H locs ls' hP hI h')
theorem v_astore_n (C : Cx p s m meth c D cI cB cS cc nL own ret) {k : Fin 4} {x : Nat} (lv' : List (Nat × Value)) (d : decode cc pc = .ok (.astore_n k, 1)) (hn : (k : Nat) < nL) (hl' : ((k : Nat), Value.ref x) :: lv.filter (fun q => !(q.1 == (k : Nat)) && !(q.1 + 1 == (k : Nat) && q.2.category == 2)) = lv') (kk : V p l e R s m args below meth c D I Q mc ms nL ws lv' (pc + 1) st) : V p l e R s m args below meth c D I Q mc ms nL ws lv pc (.ref x :: st) :=
  fun H locs _ hP hI hl => lv_astore_n C.1 C.2.1 d rfl hl hn hl' (fun ls' h' => kk H locs ls' hP hI h')
theorem v_astore (C : Cx p s m meth c D cI cB cS cc nL own ret) {k : Nat} {x : Nat} (lv' : List (Nat × Value)) (d : decode cc pc = .ok (.astore k, 2)) (hn : k < nL) (hl' : (k, Value.ref x) :: lv.filter (fun q => !(q.1 == k) && !(q.1 + 1 == k && q.2.category == 2)) = lv') (kk : V p l e R s m args below meth c D I Q mc ms nL ws lv' (pc + 2) st) : V p l e R s m args below meth c D I Q mc ms nL ws lv pc (.ref x :: st) :=
  fun H locs _ hP hI hl => lv_astore C.1 C.2.1 d hl hn hl' (fun ls' h' => kk H locs ls' hP hI h')
theorem v_lstore (C : Cx p s m meth c D cI cB cS cc nL own ret) {k : Nat} {x : Int64} (lv' : List (Nat × Value)) (d : decode cc pc = .ok (.lstore k, 2)) (hn : k + 1 < nL) (hl' : (k, Value.long x) :: lv.filter (fun q => !(q.1 == k) && (!(q.1 == k + 1) && !(q.1 + 1 == k && q.2.category == 2))) = lv') (kk : V p l e R s m args below meth c D I Q mc ms nL ws lv' (pc + 2) st) : V p l e R s m args below meth c D I Q mc ms nL ws lv pc (.long x :: st) :=
  fun H locs _ hP hI hl => lv_lstore C.1 C.2.1 d hl hn hl' (fun ls' h' => kk H locs ls' hP hI h')
theorem v_iinc (C : Cx p s m meth c D cI cB cS cc nL own ret) {i : Nat} {n : Int} {x : Int32} (v : Int32) (lv' : List (Nat × Value)) (q : Nat) (d : decode cc pc = .ok (.iinc i n, 3)) (h : lv[q]? = some (i, .int x)) (hv : x + Int32.ofInt n = v) (hn : i < nL) (hl' : (i, Value.int v) :: lv.filter (fun q => !(q.1 == i) && !(q.1 + 1 == i && q.2.category == 2)) = lv') (kk : V p l e R s m args below meth c D I Q mc ms nL ws lv' (pc + 3) st) : V p l e R s m args below meth c D I Q mc ms nL ws lv pc st :=
  fun H locs _ hP hI hl => lv_iinc C.1 C.2.1 d hl h hv hn hl' (fun ls' h' => kk H locs ls' hP hI h')
theorem v_iadd (C : Cx p s m meth c D cI cB cS cc nL own ret) {x y : Int32} (d : decode cc pc = .ok (.iadd, 1)) (kk : V p l e R s m args below meth c D I Q mc ms nL ws lv (pc + 1) (.int (x + y) :: st)) : V p l e R s m args below meth c D I Q mc ms nL ws lv pc (.int y :: .int x :: st) :=
  fun H locs ls hP hI hl => lv_iadd C.1 C.2.1 d (kk H locs ls hP hI hl)
theorem v_isub (C : Cx p s m meth c D cI cB cS cc nL own ret) {x y : Int32} (d : decode cc pc = .ok (.isub, 1)) (kk : V p l e R s m args below meth c D I Q mc ms nL ws lv (pc + 1) (.int (x - y) :: st)) : V p l e R s m args below meth c D I Q mc ms nL ws lv pc (.int y :: .int x :: st) :=
  fun H locs ls hP hI hl => lv_isub C.1 C.2.1 d (kk H locs ls hP hI hl)
theorem v_imul (C : Cx p s m meth c D cI cB cS cc nL own ret) {x y : Int32} (d : decode cc pc = .ok (.imul, 1)) (kk : V p l e R s m args below meth c D I Q mc ms nL ws lv (pc + 1) (.int (x * y) :: st)) : V p l e R s m args below meth c D I Q mc ms nL ws lv pc (.int y :: .int x :: st) :=
  fun H locs ls hP hI hl => lv_imul C.1 C.2.1 d (kk H locs ls hP hI hl)
theorem v_iand (C : Cx p s m meth c D cI cB cS cc nL own ret) {x y : Int32} (d : decode cc pc = .ok (.iand, 1)) (kk : V p l e R s m args below meth c D I Q mc ms nL ws lv (pc + 1) (.int (x &&& y) :: st)) : V p l e R s m args below meth c D I Q mc ms nL ws lv pc (.int y :: .int x :: st) :=
  fun H locs ls hP hI hl => lv_iand C.1 C.2.1 d (kk H locs ls hP hI hl)
theorem v_ior (C : Cx p s m meth c D cI cB cS cc nL own ret) {x y : Int32} (d : decode cc pc = .ok (.ior, 1)) (kk : V p l e R s m args below meth c D I Q mc ms nL ws lv (pc + 1) (.int (x ||| y) :: st)) : V p l e R s m args below meth c D I Q mc ms nL ws lv pc (.int y :: .int x :: st) :=
  fun H locs ls hP hI hl => lv_ior C.1 C.2.1 d (kk H locs ls hP hI hl)
theorem v_ixor (C : Cx p s m meth c D cI cB cS cc nL own ret) {x y : Int32} (d : decode cc pc = .ok (.ixor, 1)) (kk : V p l e R s m args below meth c D I Q mc ms nL ws lv (pc + 1) (.int (x ^^^ y) :: st)) : V p l e R s m args below meth c D I Q mc ms nL ws lv pc (.int y :: .int x :: st) :=
  fun H locs ls hP hI hl => lv_ixor C.1 C.2.1 d (kk H locs ls hP hI hl)
theorem v_ishl (C : Cx p s m meth c D cI cB cS cc nL own ret) {x y : Int32} (d : decode cc pc = .ok (.ishl, 1)) (kk : V p l e R s m args below meth c D I Q mc ms nL ws lv (pc + 1) (.int (x <<< (y &&& 31)) :: st)) : V p l e R s m args below meth c D I Q mc ms nL ws lv pc (.int y :: .int x :: st) :=
  fun H locs ls hP hI hl => lv_ishl C.1 C.2.1 d (kk H locs ls hP hI hl)
theorem v_ishr (C : Cx p s m meth c D cI cB cS cc nL own ret) {x y : Int32} (d : decode cc pc = .ok (.ishr, 1)) (kk : V p l e R s m args below meth c D I Q mc ms nL ws lv (pc + 1) (.int (x >>> (y &&& 31)) :: st)) : V p l e R s m args below meth c D I Q mc ms nL ws lv pc (.int y :: .int x :: st) :=
  fun H locs ls hP hI hl => lv_ishr C.1 C.2.1 d (kk H locs ls hP hI hl)
theorem v_iushr (C : Cx p s m meth c D cI cB cS cc nL own ret) {x y : Int32} (d : decode cc pc = .ok (.iushr, 1)) (kk : V p l e R s m args below meth c D I Q mc ms nL ws lv (pc + 1) (.int (x.toUInt32 >>> (y.toUInt32 &&& Int32.toUInt32 31)).toInt32 :: st)) : V p l e R s m args below meth c D I Q mc ms nL ws lv pc (.int y :: .int x :: st) :=
  fun H locs ls hP hI hl => lv_iushr C.1 C.2.1 d rfl (kk H locs ls hP hI hl)
theorem v_idiv (C : Cx p s m meth c D cI cB cS cc nL own ret) {x y : Int32} (d : decode cc pc = .ok (.idiv, 1)) (hn : ¬ y = 0) (kk : V p l e R s m args below meth c D I Q mc ms nL ws lv (pc + 1) (.int (x / y) :: st)) : V p l e R s m args below meth c D I Q mc ms nL ws lv pc (.int y :: .int x :: st) :=
  fun H locs ls hP hI hl => lv_idiv C.1 C.2.1 d hn (kk H locs ls hP hI hl)
theorem v_irem (C : Cx p s m meth c D cI cB cS cc nL own ret) {x y : Int32} (d : decode cc pc = .ok (.irem, 1)) (hn : ¬ y = 0) (kk : V p l e R s m args below meth c D I Q mc ms nL ws lv (pc + 1) (.int (x - x / y * y) :: st)) : V p l e R s m args below meth c D I Q mc ms nL ws lv pc (.int y :: .int x :: st) :=
  fun H locs ls hP hI hl => lv_irem C.1 C.2.1 d hn (kk H locs ls hP hI hl)
theorem v_ldiv (C : Cx p s m meth c D cI cB cS cc nL own ret) {x y : Int64} (d : decode cc pc = .ok (.ldiv, 1)) (hn : ¬ y = 0) (kk : V p l e R s m args below meth c D I Q mc ms nL ws lv (pc + 1) (.long (x / y) :: st)) : V p l e R s m args below meth c D I Q mc ms nL ws lv pc (.long y :: .long x :: st) :=
  fun H locs ls hP hI hl => lv_ldiv C.1 C.2.1 d hn (kk H locs ls hP hI hl)
theorem v_lrem (C : Cx p s m meth c D cI cB cS cc nL own ret) {x y : Int64} (d : decode cc pc = .ok (.lrem, 1)) (hn : ¬ y = 0) (kk : V p l e R s m args below meth c D I Q mc ms nL ws lv (pc + 1) (.long (x - x / y * y) :: st)) : V p l e R s m args below meth c D I Q mc ms nL ws lv pc (.long y :: .long x :: st) :=
  fun H locs ls hP hI hl => lv_lrem C.1 C.2.1 d hn (kk H locs ls hP hI hl)
theorem v_lshl (C : Cx p s m meth c D cI cB cS cc nL own ret) {x : Int64} {y : Int32} (d : decode cc pc = .ok (.lshl, 1)) (kk : V p l e R s m args below meth c D I Q mc ms nL ws lv (pc + 1) (.long (x <<< (y.toInt64 &&& 63)) :: st)) : V p l e R s m args below meth c D I Q mc ms nL ws lv pc (.int y :: .long x :: st) :=
  fun H locs ls hP hI hl => lv_lshl C.1 C.2.1 d rfl (kk H locs ls hP hI hl)
theorem v_lcmp (C : Cx p s m meth c D cI cB cS cc nL own ret) {x y : Int64} (d : decode cc pc = .ok (.lcmp, 1)) (kk : V p l e R s m args below meth c D I Q mc ms nL ws lv (pc + 1) (.int (lg_cmp x y) :: st)) : V p l e R s m args below meth c D I Q mc ms nL ws lv pc (.long y :: .long x :: st) :=
  fun H locs ls hP hI hl => W.lcmp C.1 C.2.1 d (kk H locs ls hP hI hl)
theorem v_i2l (C : Cx p s m meth c D cI cB cS cc nL own ret) {x : Int32} (d : decode cc pc = .ok (.i2l, 1)) (kk : V p l e R s m args below meth c D I Q mc ms nL ws lv (pc + 1) (.long x.toInt64 :: st)) : V p l e R s m args below meth c D I Q mc ms nL ws lv pc (.int x :: st) :=
  fun H locs ls hP hI hl => lv_i2l C.1 C.2.1 d rfl (kk H locs ls hP hI hl)
theorem v_i2b (C : Cx p s m meth c D cI cB cS cc nL own ret) {x : Int32} (d : decode cc pc = .ok (.i2b, 1)) (kk : V p l e R s m args below meth c D I Q mc ms nL ws lv (pc + 1) (.int x.toInt8.toInt32 :: st)) : V p l e R s m args below meth c D I Q mc ms nL ws lv pc (.int x :: st) :=
  fun H locs ls hP hI hl => lv_i2b C.1 C.2.1 d rfl (kk H locs ls hP hI hl)
theorem v_i2s (C : Cx p s m meth c D cI cB cS cc nL own ret) {x : Int32} (d : decode cc pc = .ok (.i2s, 1)) (kk : V p l e R s m args below meth c D I Q mc ms nL ws lv (pc + 1) (.int x.toInt16.toInt32 :: st)) : V p l e R s m args below meth c D I Q mc ms nL ws lv pc (.int x :: st) :=
  fun H locs ls hP hI hl => lv_i2s C.1 C.2.1 d rfl (kk H locs ls hP hI hl)
theorem v_dup (C : Cx p s m meth c D cI cB cS cc nL own ret) {x : Value} (d : decode cc pc = .ok (.dup, 1)) (hc : x.category = 1) (kk : V p l e R s m args below meth c D I Q mc ms nL ws lv (pc + 1) (x :: x :: st)) : V p l e R s m args below meth c D I Q mc ms nL ws lv pc (x :: st) :=
  fun H locs ls hP hI hl => lv_dup C.1 C.2.1 d hc (kk H locs ls hP hI hl)
theorem v_pop (C : Cx p s m meth c D cI cB cS cc nL own ret) {x : Value} (d : decode cc pc = .ok (.pop, 1)) (hc : x.category = 1) (kk : V p l e R s m args below meth c D I Q mc ms nL ws lv (pc + 1) st) : V p l e R s m args below meth c D I Q mc ms nL ws lv pc (x :: st) :=
  fun H locs ls hP hI hl => lv_pop C.1 C.2.1 d hc (kk H locs ls hP hI hl)
theorem v_goto (C : Cx p s m meth c D cI cB cS cc nL own ret) {off : Int} (tgt : Nat) (d : decode cc pc = .ok (.goto off, 3)) (ht : (pc : Int) + off = (tgt : Int)) (kk : V p l e R s m args below meth c D I Q mc ms nL ws lv tgt st) : V p l e R s m args below meth c D I Q mc ms nL ws lv pc st :=
  fun H locs ls hP hI hl => lv_goto C.1 C.2.1 d ht (kk H locs ls hP hI hl)
theorem v_icmp_eq (C : Cx p s m meth c D cI cB cS cc nL own ret) {x y : Int32} {off : Int} (tgt : Nat) (d : decode cc pc = .ok (.if_icmp .eq off, 3)) (ht : (pc : Int) + off = (tgt : Int)) (kt : x = y → V p l e R s m args below meth c D I Q mc ms nL ws lv tgt st) (kf : ¬ x = y → V p l e R s m args below meth c D I Q mc ms nL ws lv (pc + 3) st) : V p l e R s m args below meth c D I Q mc ms nL ws lv pc (.int y :: .int x :: st) :=
  fun H locs ls hP hI hl => lv_icmp_eq C.1 C.2.1 d ht (fun h => kt h H locs ls hP hI hl) (fun h => kf h H locs ls hP hI hl)
theorem v_icmp_ne (C : Cx p s m meth c D cI cB cS cc nL own ret) {x y : Int32} {off : Int} (tgt : Nat) (d : decode cc pc = .ok (.if_icmp .ne off, 3)) (ht : (pc : Int) + off = (tgt : Int)) (kt : ¬ x = y → V p l e R s m args below meth c D I Q mc ms nL ws lv tgt st) (kf : x = y → V p l e R s m args below meth c D I Q mc ms nL ws lv (pc + 3) st) : V p l e R s m args below meth c D I Q mc ms nL ws lv pc (.int y :: .int x :: st) :=
  fun H locs ls hP hI hl => lv_icmp_ne C.1 C.2.1 d ht (fun h => kt h H locs ls hP hI hl) (fun h => kf h H locs ls hP hI hl)
theorem v_icmp_lt (C : Cx p s m meth c D cI cB cS cc nL own ret) {x y : Int32} {off : Int} (tgt : Nat) (d : decode cc pc = .ok (.if_icmp .lt off, 3)) (ht : (pc : Int) + off = (tgt : Int)) (kt : x < y → V p l e R s m args below meth c D I Q mc ms nL ws lv tgt st) (kf : ¬ x < y → V p l e R s m args below meth c D I Q mc ms nL ws lv (pc + 3) st) : V p l e R s m args below meth c D I Q mc ms nL ws lv pc (.int y :: .int x :: st) :=
  fun H locs ls hP hI hl => lv_icmp_lt C.1 C.2.1 d ht (fun h => kt h H locs ls hP hI hl) (fun h => kf h H locs ls hP hI hl)
theorem v_icmp_ge (C : Cx p s m meth c D cI cB cS cc nL own ret) {x y : Int32} {off : Int} (tgt : Nat) (d : decode cc pc = .ok (.if_icmp .ge off, 3)) (ht : (pc : Int) + off = (tgt : Int)) (kt : y ≤ x → V p l e R s m args below meth c D I Q mc ms nL ws lv tgt st) (kf : ¬ y ≤ x → V p l e R s m args below meth c D I Q mc ms nL ws lv (pc + 3) st) : V p l e R s m args below meth c D I Q mc ms nL ws lv pc (.int y :: .int x :: st) :=
  fun H locs ls hP hI hl => lv_icmp_ge C.1 C.2.1 d ht (fun h => kt h H locs ls hP hI hl) (fun h => kf h H locs ls hP hI hl)
theorem v_icmp_gt (C : Cx p s m meth c D cI cB cS cc nL own ret) {x y : Int32} {off : Int} (tgt : Nat) (d : decode cc pc = .ok (.if_icmp .gt off, 3)) (ht : (pc : Int) + off = (tgt : Int)) (kt : y < x → V p l e R s m args below meth c D I Q mc ms nL ws lv tgt st) (kf : ¬ y < x → V p l e R s m args below meth c D I Q mc ms nL ws lv (pc + 3) st) : V p l e R s m args below meth c D I Q mc ms nL ws lv pc (.int y :: .int x :: st) :=
  fun H locs ls hP hI hl => lv_icmp_gt C.1 C.2.1 d ht (fun h => kt h H locs ls hP hI hl) (fun h => kf h H locs ls hP hI hl)
theorem v_icmp_le (C : Cx p s m meth c D cI cB cS cc nL own ret) {x y : Int32} {off : Int} (tgt : Nat) (d : decode cc pc = .ok (.if_icmp .le off, 3)) (ht : (pc : Int) + off = (tgt : Int)) (kt : x ≤ y → V p l e R s m args below meth c D I Q mc ms nL ws lv tgt st) (kf : ¬ x ≤ y → V p l e R s m args below meth c D I Q mc ms nL ws lv (pc + 3) st) : V p l e R s m args below meth c D I Q mc ms nL ws lv pc (.int y :: .int x :: st) :=
  fun H locs ls hP hI hl => lv_icmp_le C.1 C.2.1 d ht (fun h => kt h H locs ls hP hI hl) (fun h => kf h H locs ls hP hI hl)
theorem v_if_eq (C : Cx p s m meth c D cI cB cS cc nL own ret) {x : Int32} {off : Int} (tgt : Nat) (d : decode cc pc = .ok (.ifCond .eq off, 3)) (ht : (pc : Int) + off = (tgt : Int)) (kt : x = 0 → V p l e R s m args below meth c D I Q mc ms nL ws lv tgt st) (kf : ¬ x = 0 → V p l e R s m args below meth c D I Q mc ms nL ws lv (pc + 3) st) : V p l e R s m args below meth c D I Q mc ms nL ws lv pc (.int x :: st) :=
  fun H locs ls hP hI hl => lv_if_eq C.1 C.2.1 d ht (fun h => kt h H locs ls hP hI hl) (fun h => kf h H locs ls hP hI hl)
theorem v_if_ne (C : Cx p s m meth c D cI cB cS cc nL own ret) {x : Int32} {off : Int} (tgt : Nat) (d : decode cc pc = .ok (.ifCond .ne off, 3)) (ht : (pc : Int) + off = (tgt : Int)) (kt : ¬ x = 0 → V p l e R s m args below meth c D I Q mc ms nL ws lv tgt st) (kf : x = 0 → V p l e R s m args below meth c D I Q mc ms nL ws lv (pc + 3) st) : V p l e R s m args below meth c D I Q mc ms nL ws lv pc (.int x :: st) :=
  fun H locs ls hP hI hl => lv_if_ne C.1 C.2.1 d ht (fun h => kt h H locs ls hP hI hl) (fun h => kf h H locs ls hP hI hl)
theorem v_if_lt (C : Cx p s m meth c D cI cB cS cc nL own ret) {x : Int32} {off : Int} (tgt : Nat) (d : decode cc pc = .ok (.ifCond .lt off, 3)) (ht : (pc : Int) + off = (tgt : Int)) (kt : x < 0 → V p l e R s m args below meth c D I Q mc ms nL ws lv tgt st) (kf : ¬ x < 0 → V p l e R s m args below meth c D I Q mc ms nL ws lv (pc + 3) st) : V p l e R s m args below meth c D I Q mc ms nL ws lv pc (.int x :: st) :=
  fun H locs ls hP hI hl => lv_if_lt C.1 C.2.1 d ht (fun h => kt h H locs ls hP hI hl) (fun h => kf h H locs ls hP hI hl)
theorem v_if_ge (C : Cx p s m meth c D cI cB cS cc nL own ret) {x : Int32} {off : Int} (tgt : Nat) (d : decode cc pc = .ok (.ifCond .ge off, 3)) (ht : (pc : Int) + off = (tgt : Int)) (kt : 0 ≤ x → V p l e R s m args below meth c D I Q mc ms nL ws lv tgt st) (kf : ¬ 0 ≤ x → V p l e R s m args below meth c D I Q mc ms nL ws lv (pc + 3) st) : V p l e R s m args below meth c D I Q mc ms nL ws lv pc (.int x :: st) :=
  fun H locs ls hP hI hl => lv_if_ge C.1 C.2.1 d ht (fun h => kt h H locs ls hP hI hl) (fun h => kf h H locs ls hP hI hl)
theorem v_if_gt (C : Cx p s m meth c D cI cB cS cc nL own ret) {x : Int32} {off : Int} (tgt : Nat) (d : decode cc pc = .ok (.ifCond .gt off, 3)) (ht : (pc : Int) + off = (tgt : Int)) (kt : 0 < x → V p l e R s m args below meth c D I Q mc ms nL ws lv tgt st) (kf : ¬ 0 < x → V p l e R s m args below meth c D I Q mc ms nL ws lv (pc + 3) st) : V p l e R s m args below meth c D I Q mc ms nL ws lv pc (.int x :: st) :=
  fun H locs ls hP hI hl => lv_if_gt C.1 C.2.1 d ht (fun h => kt h H locs ls hP hI hl) (fun h => kf h H locs ls hP hI hl)
theorem v_if_le (C : Cx p s m meth c D cI cB cS cc nL own ret) {x : Int32} {off : Int} (tgt : Nat) (d : decode cc pc = .ok (.ifCond .le off, 3)) (ht : (pc : Int) + off = (tgt : Int)) (kt : x ≤ 0 → V p l e R s m args below meth c D I Q mc ms nL ws lv tgt st) (kf : ¬ x ≤ 0 → V p l e R s m args below meth c D I Q mc ms nL ws lv (pc + 3) st) : V p l e R s m args below meth c D I Q mc ms nL ws lv pc (.int x :: st) :=
  fun H locs ls hP hI hl => lv_if_le C.1 C.2.1 d ht (fun h => kt h H locs ls hP hI hl) (fun h => kf h H locs ls hP hI hl)
theorem v_lookup (C : Cx p s m meth c D cI cB cS cc nL own ret) {dflt : Int} {ps : Array (Int × Int)} {len : Nat} {x : Int32} {off : Int} (tgt : Nat) (d : decode cc pc = .ok (.lookupswitch dflt ps, len)) (hp : (ps.toList.zip (ps.toList.drop 1)).all (fun (a, next) => a.1 < next.1) = true) (ho : Op.lookupswitch.offset ps.toList dflt x.toInt = off) (ht : (pc : Int) + off = (tgt : Int)) (kk : V p l e R s m args below meth c D I Q mc ms nL ws lv tgt st) : V p l e R s m args below meth c D I Q mc ms nL ws lv pc (.int x :: st) :=
  fun H locs ls hP hI hl => lv_lookup C.1 C.2.1 d hp ho ht (kk H locs ls hP hI hl)
theorem v_tableOut (C : Cx p s m meth c D cI cB cS cc nL own ret) {dflt lo hi : Int} {offs : Array Int} {len : Nat} {x : Int32} (tgt : Nat) (d : decode cc pc = .ok (.tableswitch dflt lo hi offs, len)) (h : x.toInt < lo ∨ hi < x.toInt) (ht : (pc : Int) + dflt = (tgt : Int)) (kk : V p l e R s m args below meth c D I Q mc ms nL ws lv tgt st) : V p l e R s m args below meth c D I Q mc ms nL ws lv pc (.int x :: st) :=
  fun H locs ls hP hI hl => lv_tableOut C.1 C.2.1 d h ht (kk H locs ls hP hI hl)
theorem v_tableIn (C : Cx p s m meth c D cI cB cS cc nL own ret) {dflt lo hi : Int} {offs : Array Int} {len : Nat} {x : Int32} {off : Int} (tgt : Nat) (d : decode cc pc = .ok (.tableswitch dflt lo hi offs, len)) (h1 : ¬ x.toInt < lo) (h2 : ¬ hi < x.toInt) (ho : offs[(x.toInt - lo).toNat]? = some off) (ht : (pc : Int) + off = (tgt : Int)) (kk : V p l e R s m args below meth c D I Q mc ms nL ws lv tgt st) : V p l e R s m args below meth c D I Q mc ms nL ws lv pc (.int x :: st) :=
  fun H locs ls hP hI hl => lv_tableIn C.1 C.2.1 d h1 h2 ho ht (kk H locs ls hP hI hl)
/-- a value on the stack gets another name -/
theorem v_eqi {x : Int32} (y : Int32) (h : x = y) (kk : V p l e R s m args below meth c D I Q mc ms nL ws lv pc (.int y :: st)) : V p l e R s m args below meth c D I Q mc ms nL ws lv pc (.int x :: st) := h ▸ kk
/-- fewer locals, in any order -/
theorem v_loc {lv' : List (Nat × Value)} (is : List Nat) (h : lv_pick lv is = lv') (kk : V p l e R s m args below meth c D I Q mc ms nL ws lv' pc st) : V p l e R s m args below meth c D I Q mc ms nL ws lv pc st :=
  fun H locs ls hP hI hl => kk H locs ls hP hI (lv_sub hl is h)
/-- the world's cells in another order -/
theorem v_perm {A : Nat → Prop} {ws' : va_W} (is : List Nat) (hn : va_nd is = true) (h : is.map (fun i => ws[i]?) = ws'.map some) (kk : V p l e R s m args below meth c D (IM A s) Q mc ms nL ws' lv pc st) : V p l e R s m args below meth c D (IM A s) Q mc ms nL ws lv pc st :=
  fun H locs ls hP hI hl => kk H locs ls (hP.sub is (by
    have e : is.filterMap (fun i => ws[i]?) = (is.map (fun i => ws[i]?)).filterMap id := by rw [List.filterMap_map]; rfl
    rw [e, h, List.filterMap_map]
    simp)) ⟨hI.1.sub is hn h, hI.2⟩ hl
/-! fields -/
/-- pool entry ix of class own names field k of the class ci of vwCl -/
def FL (own : String) (ix ci k : Nat) : Prop := ∃ (C : String) (T : u_T) (N : Nat), vwCl[ci]? = some (C, T, N) ∧ k < N ∧ (∀ w ∈ u_ws C T N, w ∈ tbl) ∧ ((Cond.fieldLink own ix (T k).1 (T k).2.1 (T k).2.2.1 ∈ tbl) ∨ ∃ host, Cond.fieldLinkNest own ix (T k).1 (T k).2.1 (T k).2.2.1 host ∈ tbl)
theorem v_get (C : Cx p s m meth c D cI cB cS cc nL own ret) {ix ci k a : Nat} (L : FL own ix ci k) (d : decode cc pc = .ok (.getfield ix, 3)) (q0 : Nat) {fs : List Value} (he : ws[q0]? = some (a, .inr (ci, fs))) {v : Value} (hv : fs[k]? = some v) (kk : V p l e R s m args below meth c D I Q mc ms nL ws lv (pc + 3) (v :: st)) : V p l e R s m args below meth c D I Q mc ms nL ws lv pc (.ref a :: st) := by
  intro H locs ls hP hI hl
  obtain ⟨Cn, T, N, h1, h2, h3, h4⟩ := L
  obtain ⟨hx, hb, -, hown, -, -, hts, hK⟩ := C
  have hts' : ∀ w ∈ tbl, w.before args s = true := fun w h => hts w h args
  rcases h4 with h4 | ⟨host, h4⟩
  · exact va_get hx hb hts' h3 hown hK hP q0 he h1 k h2 (hts' _ h4) (fun _ h => h) hv d (kk H locs ls hP hI hl)
  · exact va_getN hx hb hts' h3 hown hK hP q0 he h1 k h2 (hts' _ h4) (fun _ h => h) hv d (kk H locs ls hP hI hl)
/-- .. and it isn't final, and of type ty -/
def FP (own : String) (ix ci k : Nat) (ty : FieldType) : Prop := ∃ (C : String) (T : u_T) (N : Nat) (ty0 : Nat → FieldType), vwCl[ci]? = some (C, T, N) ∧ k < N ∧ (∀ w ∈ u_ws C T N, w ∈ tbl) ∧ ((Cond.fieldLink own ix (T k).1 (T k).2.1 (T k).2.2.1 ∈ tbl) ∨ ∃ host, Cond.fieldLinkNest own ix (T k).1 (T k).2.1 (T k).2.2.1 host ∈ tbl) ∧
  (∀ k, k < N → parseFieldDescriptor (T k).2.2.1 = some (ty0 k)) ∧ (∀ a, a < N → ∀ b, b < N → a ≠ b → (T a).2.1 ≠ (T b).2.1) ∧ (T k).2.2.2 = false ∧ parseFieldDescriptor (T k).2.2.1 = some ty
theorem v_put (C : Cx p s m meth c D cI cB cS cc nL own ret) {A : Nat → Prop} {ix ci k a : Nat} {ty : FieldType} (L : FP own ix ci k ty) (ws' : va_W) (d : decode cc pc = .ok (.putfield ix, 3)) (q0 : Nat) {fs : List Value} (he : ws[q0]? = some (a, .inr (ci, fs))) {v : Value} (hn : narrow ty v = v) (hf : fits ty v = true) (hk : k < fs.length) (hw : ws.set q0 (a, .inr (ci, fs.set k v)) = ws') (kk : V p l e R s m args below meth c D (IM A s) Q mc ms nL ws' lv (pc + 3) st) : V p l e R s m args below meth c D (IM A s) Q mc ms nL ws lv pc (v :: .ref a :: st) := by
  intro H locs ls hP hI hl
  subst hw
  obtain ⟨Cn, T, N, ty0, h1, h2, h3, h4, h5, h6, h7, h8⟩ := L
  obtain ⟨hx, hb, -, hown, -, -, hts, hK⟩ := C
  have hts' : ∀ w ∈ tbl, w.before args s = true := fun w h => hts w h args
  obtain ⟨hD, hS, hA⟩ := hI
  rcases h4 with h4 | ⟨host, h4⟩
  · exact va_put hx hb hts' h3 ty0 h5 h6 hown hK hP hD hS q0 he h1 k h2 (hts' _ h4) (fun _ h => h) h7 h8 hn hf hk d (fun H1 locs1 hP hD hS => kk H1 locs1 ls hP ⟨hD, hS, hA⟩ hl)
  · exact va_putN hx hb hts' h3 ty0 h5 h6 hown hK hP hD hS q0 he h1 k h2 (hts' _ h4) (fun _ h => h) h7 h8 hn hf hk d (fun H1 locs1 hP hD hS => kk H1 locs1 ls hP ⟨hD, hS, hA⟩ hl)
/-! arrays -/
theorem v_iald (C : Cx p s m meth c D cI cB cS cc nL own ret) {a n : Nat} {f : Nat → Int32} {i : Int32} (d : decode cc pc = .ok (.iaload, 1)) (q0 : Nat) (ha : ws[q0]? = some (a, .inl (cI, n, .inl f))) (hin : vp_in i n) (kk : V p l e R s m args below meth c D I Q mc ms nL ws lv (pc + 1) (.int (f i.toNatClampNeg) :: st)) : V p l e R s m args below meth c D I Q mc ms nL ws lv pc (.int i :: .ref a :: st) :=
  fun H locs ls hP hI hl => va_iald C.1 C.2.1 C.2.2.2.2.2.2.2 hP q0 0 ha rfl hin d (kk H locs ls hP hI hl)
theorem v_ialdN (C : Cx p s m meth c D cI cB cS cc nL own ret) {a n : Nat} {f : Nat → Int32} {i : Int32} (d : decode cc pc = .ok (.iaload, 1)) (q0 : Nat) (ha : ws[q0]? = some (a, .inl (cI, n, .inl f))) (j : Nat) (hi : i = nI j) (hj : j < n) (hn : n < 2 ^ 31) (kk : V p l e R s m args below meth c D I Q mc ms nL ws lv (pc + 1) (.int (f j) :: st)) : V p l e R s m args below meth c D I Q mc ms nL ws lv pc (.int i :: .ref a :: st) :=
  fun H locs ls hP hI hl => va_iald C.1 C.2.1 C.2.2.2.2.2.2.2 hP q0 0 ha rfl (by rw [hi]; exact vp_in_nI hj hn) d (by rw [hi, nI_clamp (Nat.lt_trans hj hn)]; exact kk H locs ls hP hI hl)
theorem v_zaldN (C : Cx p s m meth c D cI cB cS cc nL own ret) {a n : Nat} {f : Nat → Int32} {i : Int32} (d : decode cc pc = .ok (.baload, 1)) (q0 : Nat) (ha : ws[q0]? = some (a, .inl (cB, n, .inl f))) (j : Nat) (hi : i = nI j) (hj : j < n) (hn : n < 2 ^ 31) (kk : V p l e R s m args below meth c D I Q mc ms nL ws lv (pc + 1) (.int (f j) :: st)) : V p l e R s m args below meth c D I Q mc ms nL ws lv pc (.int i :: .ref a :: st) :=
  fun H locs ls hP hI hl => va_zald C.1 C.2.1 C.2.2.2.2.2.2.2 hP q0 1 ha rfl (by rw [hi]; exact vp_in_nI hj hn) d (by rw [hi, nI_clamp (Nat.lt_trans hj hn)]; exact kk H locs ls hP hI hl)
theorem v_aaldN (C : Cx p s m meth c D cI cB cS cc nL own ret) {a n : Nat} {f : Nat → Option Nat} {i : Int32} (d : decode cc pc = .ok (.aaload, 1)) (q0 : Nat) (ha : ws[q0]? = some (a, .inl (cS, n, .inr (.inr (.inr (.inr f)))))) (j : Nat) (hi : i = nI j) (hj : j < n) (hn : n < 2 ^ 31) (x : Nat) (hx : f j = some x) (kk : V p l e R s m args below meth c D I Q mc ms nL ws lv (pc + 1) (.ref x :: st)) : V p l e R s m args below meth c D I Q mc ms nL ws lv pc (.int i :: .ref a :: st) :=
  fun H locs ls hP hI hl => va_aldq C.1 C.2.1 C.2.2.2.2.2.2.2 hP q0 2 ha rfl (by rw [hi]; exact vp_in_nI hj hn) d (by rw [hi, nI_clamp (Nat.lt_trans hj hn), hx]; exact kk H locs ls hP hI hl)
theorem v_iastN (C : Cx p s m meth c D cI cB cS cc nL own ret) {A : Nat → Prop} {a n : Nat} {f : Nat → Int32} {i x : Int32} (ws' : va_W) (d : decode cc pc = .ok (.iastore, 1)) (q0 : Nat) (ha : ws[q0]? = some (a, .inl (cI, n, .inl f))) (j : Nat) (hi : i = nI j) (hj : j < n) (hn : n < 2 ^ 31) (hw : ws.set q0 (a, .inl (cI, n, .inl (upd f j x))) = ws') (kk : V p l e R s m args below meth c D (IM A s) Q mc ms nL ws' lv (pc + 1) st) : V p l e R s m args below meth c D (IM A s) Q mc ms nL ws lv pc (.int x :: .int i :: .ref a :: st) := by
  intro H locs ls hP hI hl
  subst hw
  have e : i.toNatClampNeg = j := by rw [hi, nI_clamp (Nat.lt_trans hj hn)]
  refine va_iast C.1 C.2.1 C.2.2.2.2.2.2.2 hP hI.1 hI.2.1 q0 0 ha rfl (by rw [hi]; exact vp_in_nI hj hn) d (fun H1 locs1 hP1 hD1 hS1 => ?_)
  rw [e] at hP1 hD1
  exact kk H1 locs1 ls hP1 ⟨hD1, hS1, hI.2.2⟩ hl
theorem v_zastN (C : Cx p s m meth c D cI cB cS cc nL own ret) {A : Nat → Prop} {a n : Nat} {f : Nat → Int32} {i x : Int32} (ws' : va_W) (d : decode cc pc = .ok (.bastore, 1)) (q0 : Nat) (ha : ws[q0]? = some (a, .inl (cB, n, .inl f))) (j : Nat) (hi : i = nI j) (hj : j < n) (hn : n < 2 ^ 31) (hx : vp_nar .boolean x = x) (hw : ws.set q0 (a, .inl (cB, n, .inl (upd f j x))) = ws') (kk : V p l e R s m args below meth c D (IM A s) Q mc ms nL ws' lv (pc + 1) st) : V p l e R s m args below meth c D (IM A s) Q mc ms nL ws lv pc (.int x :: .int i :: .ref a :: st) := by
  intro H locs ls hP hI hl
  subst hw
  have e : i.toNatClampNeg = j := by rw [hi, nI_clamp (Nat.lt_trans hj hn)]
  refine va_zast C.1 C.2.1 C.2.2.2.2.2.2.2 hP hI.1 hI.2.1 q0 1 ha rfl (by rw [hi]; exact vp_in_nI hj hn) d (fun H1 locs1 hP1 hD1 hS1 => ?_)
  rw [e, hx] at hP1 hD1
  exact kk H1 locs1 ls hP1 ⟨hD1, hS1, hI.2.2⟩ hl
theorem v_alen (C : Cx p s m meth c D cI cB cS cc nL own ret) {a n : Nat} {x : (Nat → Int32) ⊕ (Nat → Int64) ⊕ (Nat → UInt32) ⊕ (Nat → UInt64) ⊕ (Nat → Option Nat)} (d : decode cc pc = .ok (.arraylength, 1)) (q0 : Nat) (ha : ws[q0]? = some (a, .inl (cI, n, x))) (kk : V p l e R s m args below meth c D I Q mc ms nL ws lv (pc + 1) (.int (nI n) :: st)) : V p l e R s m args below meth c D I Q mc ms nL ws lv pc (.ref a :: st) :=
  fun H locs ls hP hI hl => va_alen C.1 C.2.1 C.2.2.2.2.2.2.2 hP q0 0 ha rfl rfl d (kk H locs ls hP hI hl)
end CoreRows
end
section
/-! contracts. A method's words are its code alone: the tables' words stand in its start -/
abbrev rmOf (fr lo : Nat) : Room := { frames := fr, cells := 0, slots := 0, locals := lo }
abbrev StM (D : va_G) (cI cB cS : ClassId) (wi : va_W) (sz : Nat) : State → Prop := fun U => U.heap.size = sz ∧ va_P D vwCl wi U.heap ∧ Wd D cI cB cS U ∧ va_D (fun _ => True) wi
abbrev EnM (D : va_G) (cI cB cS : ClassId) (wi : va_W) (sz : Nat) : va_W → State → Prop := fun u t => va_P D vwCl u t.heap ∧ Wd D cI cB cS t ∧ va_D (va_A wi sz) u
abbrev StR (D : va_G) (cI cB cS : ClassId) (wi : va_W) : State → Prop := fun U => va_P D vwCl wi U.heap ∧ Wd D cI cB cS U
/-- mutating, an int comes back -/
def Mi (l : Launch) (y : MethodName) (cc : ByteArray) (n : Nat) (ret : Option FieldType) (fr lo : Nat) (D : va_G) (cI cB cS : ClassId) (av : List Value) (wi : va_W) (Po : Int32 → va_W → Prop) : Prop :=
  ∀ sz, Met l y [.code y cc n ret] (rmOf fr lo) (va_Pc av (StM D cI cB cS wi sz)) (va_Qi Po (EnM D cI cB cS wi sz) (va_A wi sz)) 0 0 (va_A wi sz)
/-- mutating, nothing comes back -/
def Mv (l : Launch) (y : MethodName) (cc : ByteArray) (n : Nat) (fr lo : Nat) (D : va_G) (cI cB cS : ClassId) (av : List Value) (wi : va_W) (Po : va_W → Prop) : Prop :=
  ∀ sz, Met l y [.code y cc n none] (rmOf fr lo) (va_Pc av (StM D cI cB cS wi sz)) (va_Qv Po (EnM D cI cB cS wi sz) (va_A wi sz)) 0 0 (va_A wi sz)
/-- mutating, a long comes back -/
def Ml (l : Launch) (y : MethodName) (cc : ByteArray) (n : Nat) (fr lo : Nat) (D : va_G) (cI cB cS : ClassId) (av : List Value) (wi : va_W) (Po : Int64 → va_W → Prop) : Prop :=
  ∀ sz, Met l y [.code y cc n (some .long)] (rmOf fr lo) (va_Pc av (StM D cI cB cS wi sz)) (va_Ql Po (EnM D cI cB cS wi sz) (va_A wi sz)) 0 0 (va_A wi sz)
/-- reading, an int comes back -/
def Ri (l : Launch) (y : MethodName) (cc : ByteArray) (n : Nat) (ret : Option FieldType) (fr lo : Nat) (D : va_G) (cI cB cS : ClassId) (av : List Value) (wi : va_W) (Po : Int32 → Prop) : Prop :=
  Met l y [.code y cc n ret] (rmOf fr lo) (va_Pc av (StR D cI cB cS wi)) (vp_Si Po) 0 0 (fun _ => False)
/-- reading, a long comes back -/
def Rl (l : Launch) (y : MethodName) (cc : ByteArray) (n : Nat) (fr lo : Nat) (D : va_G) (cI cB cS : ClassId) (av : List Value) (wi : va_W) (Po : Int64 → Prop) : Prop :=
  Met l y [.code y cc n (some .long)] (rmOf fr lo) (va_Pc av (StR D cI cB cS wi)) (vp_Sl Po) 0 0 (fun _ => False)
abbrev QMi (below : List Frame) (a : Array Value) (s : State) (D : va_G) (cI cB cS : ClassId) (wi : va_W) (sz : Nat) (Po : Int32 → va_W → Prop) : State → Prop := MQ below (va_Qi Po (EnM D cI cB cS wi sz) (va_A wi sz)) a s 0 0 (va_A wi sz)
abbrev QMv (below : List Frame) (a : Array Value) (s : State) (D : va_G) (cI cB cS : ClassId) (wi : va_W) (sz : Nat) (Po : va_W → Prop) : State → Prop := MQ below (va_Qv Po (EnM D cI cB cS wi sz) (va_A wi sz)) a s 0 0 (va_A wi sz)
abbrev QMl (below : List Frame) (a : Array Value) (s : State) (D : va_G) (cI cB cS : ClassId) (wi : va_W) (sz : Nat) (Po : Int64 → va_W → Prop) : State → Prop := MQ below (va_Ql Po (EnM D cI cB cS wi sz) (va_A wi sz)) a s 0 0 (va_A wi sz)
abbrev QRi (below : List Frame) (a : Array Value) (s : State) (Po : Int32 → Prop) : State → Prop := MQ below (vp_Si Po) a s 0 0 (fun _ => False)
abbrev QRl (below : List Frame) (a : Array Value) (s : State) (Po : Int64 → Prop) : State → Prop := MQ below (vp_Sl Po) a s 0 0 (fun _ => False)
section Entries
variable {l : Launch} {y : MethodName} {cc : ByteArray} {n : Nat} {ret : Option FieldType} {fr lo : Nat} {D : va_G} {cI cB cS : ClassId} {av : List Value} {wi : va_W}
theorem Mi.of {Po : Int32 → va_W → Prop} (hy : plainName y.cls = true) (hn : (lg_sl av).length ≤ n)
    (body : ∀ (p : Program) (e : Env) (s : State) (m : MethodId) (below : List Frame) (meth : Method) (c : Code) (sz : Nat) (A : Nat → Prop), A = va_A wi sz → Cx p s m meth c D cI cB cS cc n y.cls ret → (y.name = meth.name) →
      V p l e (rmOf fr lo) s m av.toArray below meth c D (IM A s) (QMi below av.toArray s D cI cB cS wi sz Po) 0 0 n wi (lv_args 0 av) 0 []) : Mi l y cc n ret fr lo D cI cB cS av wi Po := by
  intro sz
  refine Met.ofW (cc := cc) (maxL := n) (ret := ret) hy rfl ?_
  intro p e s m args below meth c s₁ B hml hv
  obtain ⟨rfl, hsz, hP, hW, hD0⟩ := hv
  subst hsz
  have hl := lv_entry av (n := n) hn
  rw [lg_entry_eq]
  exact body p e s m below meth c s.heap.size _ rfl ⟨B.exec, B.bytes, hml, findClass_of_methodNamed B.named, B.returns, B.notSynchronized, hW.1, hW.2⟩ (name_of_methodNamed B.named B.method).1.symm s.heap [] _ hP ⟨hD0.self, va_S.rf, fun q h => Or.inr h⟩ hl
theorem Mv.of {Po : va_W → Prop} (hy : plainName y.cls = true) (hn : (lg_sl av).length ≤ n)
    (body : ∀ (p : Program) (e : Env) (s : State) (m : MethodId) (below : List Frame) (meth : Method) (c : Code) (sz : Nat) (A : Nat → Prop), A = va_A wi sz → Cx p s m meth c D cI cB cS cc n y.cls none → (y.name = meth.name) →
      V p l e (rmOf fr lo) s m av.toArray below meth c D (IM A s) (QMv below av.toArray s D cI cB cS wi sz Po) 0 0 n wi (lv_args 0 av) 0 []) : Mv l y cc n fr lo D cI cB cS av wi Po := by
  intro sz
  refine Met.ofW (cc := cc) (maxL := n) (ret := none) hy rfl ?_
  intro p e s m args below meth c s₁ B hml hv
  obtain ⟨rfl, hsz, hP, hW, hD0⟩ := hv
  subst hsz
  have hl := lv_entry av (n := n) hn
  rw [lg_entry_eq]
  exact body p e s m below meth c s.heap.size _ rfl ⟨B.exec, B.bytes, hml, findClass_of_methodNamed B.named, B.returns, B.notSynchronized, hW.1, hW.2⟩ (name_of_methodNamed B.named B.method).1.symm s.heap [] _ hP ⟨hD0.self, va_S.rf, fun q h => Or.inr h⟩ hl
theorem Ml.of {Po : Int64 → va_W → Prop} (hy : plainName y.cls = true) (hn : (lg_sl av).length ≤ n)
    (body : ∀ (p : Program) (e : Env) (s : State) (m : MethodId) (below : List Frame) (meth : Method) (c : Code) (sz : Nat) (A : Nat → Prop), A = va_A wi sz → Cx p s m meth c D cI cB cS cc n y.cls (some .long) → (y.name = meth.name) →
      V p l e (rmOf fr lo) s m av.toArray below meth c D (IM A s) (QMl below av.toArray s D cI cB cS wi sz Po) 0 0 n wi (lv_args 0 av) 0 []) : Ml l y cc n fr lo D cI cB cS av wi Po := by
  intro sz
  refine Met.ofW (cc := cc) (maxL := n) (ret := some .long) hy rfl ?_
  intro p e s m args below meth c s₁ B hml hv
  obtain ⟨rfl, hsz, hP, hW, hD0⟩ := hv
  subst hsz
  have hl := lv_entry av (n := n) hn
  rw [lg_entry_eq]
  exact body p e s m below meth c s.heap.size _ rfl ⟨B.exec, B.bytes, hml, findClass_of_methodNamed B.named, B.returns, B.notSynchronized, hW.1, hW.2⟩ (name_of_methodNamed B.named B.method).1.symm s.heap [] _ hP ⟨hD0.self, va_S.rf, fun q h => Or.inr h⟩ hl
theorem Ri.of {Po : Int32 → Prop} (hy : plainName y.cls = true) (hn : (lg_sl av).length ≤ n)
    (body : ∀ (p : Program) (e : Env) (s : State) (m : MethodId) (below : List Frame) (meth : Method) (c : Code), Cx p s m meth c D cI cB cS cc n y.cls ret →
      V p l e (rmOf fr lo) s m av.toArray below meth c D (IR s) (QRi below av.toArray s Po) 0 0 n wi (lv_args 0 av) 0 []) : Ri l y cc n ret fr lo D cI cB cS av wi Po := by
  refine Met.ofW (cc := cc) (maxL := n) (ret := ret) hy rfl ?_
  intro p e s m args below meth c s₁ B hml hv
  obtain ⟨rfl, hP, hW⟩ := hv
  have hl := lv_entry av (n := n) hn
  rw [lg_entry_eq]
  exact body p e s m below meth c ⟨B.exec, B.bytes, hml, findClass_of_methodNamed B.named, B.returns, B.notSynchronized, hW.1, hW.2⟩ s.heap [] _ hP ⟨rfl, rfl⟩ hl
theorem Rl.of {Po : Int64 → Prop} (hy : plainName y.cls = true) (hn : (lg_sl av).length ≤ n)
    (body : ∀ (p : Program) (e : Env) (s : State) (m : MethodId) (below : List Frame) (meth : Method) (c : Code), Cx p s m meth c D cI cB cS cc n y.cls (some .long) →
      V p l e (rmOf fr lo) s m av.toArray below meth c D (IR s) (QRl below av.toArray s Po) 0 0 n wi (lv_args 0 av) 0 []) : Rl l y cc n fr lo D cI cB cS av wi Po := by
  refine Met.ofW (cc := cc) (maxL := n) (ret := some .long) hy rfl ?_
  intro p e s m args below meth c s₁ B hml hv
  obtain ⟨rfl, hP, hW⟩ := hv
  have hl := lv_entry av (n := n) hn
  rw [lg_entry_eq]
  exact body p e s m below meth c ⟨B.exec, B.bytes, hml, findClass_of_methodNamed B.named, B.returns, B.notSynchronized, hW.1, hW.2⟩ s.heap [] _ hP ⟨rfl, rfl⟩ hl
end Entries
section Ends
variable {p : Program} {l : Launch} {e : Env} {R : Room} {s : State} {m : MethodId} {args : Array Value} {below : List Frame} {meth : Method} {c : Code} {D : va_G} {nL : Nat} {ws wi : va_W} {lv : List (Nat × Value)} {pc : Nat} {cI cB cS : ClassId} {cc : ByteArray} {own : String} {ret : Option FieldType} {sz : Nat} {A : Nat → Prop}
theorem v_reti {Po : Int32 → va_W → Prop} {ty : FieldType} {v : Int32} (C : Cx p s m meth c D cI cB cS cc nL own (some ty)) (hA : A = va_A wi sz) (d : decode cc pc = .ok (.ireturn, 1)) (hn : narrow ty (.int v) = .int v) (h : Po v ws) : V p l e R s m args below meth c D (IM A s) (QMi below args s D cI cB cS wi sz Po) 0 0 nL ws lv pc [.int v] := by
  intro H locs ls hP hI hl
  subst hA
  exact W.zret C.1 C.2.1 C.2.2.2.2.1 hn (fun t ht hW => ⟨⟨v, ws, rfl, h, by rw [ht]; exact hP, Wd.warm hW ⟨C.2.2.2.2.2.2.1, C.2.2.2.2.2.2.2⟩, hI.1⟩, hI.2.1.F ht⟩) hI.2.1.2.2 d C.2.2.2.2.2.1
theorem v_retv {Po : va_W → Prop} (C : Cx p s m meth c D cI cB cS cc nL own none) (hA : A = va_A wi sz) (d : decode cc pc = .ok (.return_, 1)) (h : Po ws) : V p l e R s m args below meth c D (IM A s) (QMv below args s D cI cB cS wi sz Po) 0 0 nL ws lv pc [] := by
  intro H locs ls hP hI hl
  subst hA
  exact W.vret C.1 C.2.1 C.2.2.2.2.1 (fun t ht hW => ⟨⟨ws, rfl, h, by rw [ht]; exact hP, Wd.warm hW ⟨C.2.2.2.2.2.2.1, C.2.2.2.2.2.2.2⟩, hI.1⟩, hI.2.1.F ht⟩) hI.2.1.2.2 d C.2.2.2.2.2.1
theorem v_retl {Po : Int64 → va_W → Prop} {v : Int64} (C : Cx p s m meth c D cI cB cS cc nL own (some .long)) (hA : A = va_A wi sz) (d : decode cc pc = .ok (.lreturn, 1)) (h : Po v ws) : V p l e R s m args below meth c D (IM A s) (QMl below args s D cI cB cS wi sz Po) 0 0 nL ws lv pc [.long v] := by
  intro H locs ls hP hI hl
  subst hA
  exact W.lret C.1 C.2.1 C.2.2.2.2.1 (fun t ht hW => ⟨⟨v, ws, rfl, h, by rw [ht]; exact hP, Wd.warm hW ⟨C.2.2.2.2.2.2.1, C.2.2.2.2.2.2.2⟩, hI.1⟩, hI.2.1.F ht⟩) hI.2.1.2.2 d C.2.2.2.2.2.1
theorem v_retRi {Po : Int32 → Prop} {ty : FieldType} {v : Int32} (C : Cx p s m meth c D cI cB cS cc nL own (some ty)) (d : decode cc pc = .ok (.ireturn, 1)) (hn : narrow ty (.int v) = .int v) (h : Po v) : V p l e R s m args below meth c D (IR s) (QRi below args s Po) 0 0 nL ws lv pc [.int v] := by
  intro H locs ls hP hI hl
  obtain ⟨rfl, rfl⟩ := hI
  exact W.zret C.1 C.2.1 C.2.2.2.2.1 hn (fun t ht hW => ⟨v, rfl, h, ht⟩) (fun q hq => by cases hq) d C.2.2.2.2.2.1
theorem v_retRl {Po : Int64 → Prop} {v : Int64} (C : Cx p s m meth c D cI cB cS cc nL own (some .long)) (d : decode cc pc = .ok (.lreturn, 1)) (h : Po v) : V p l e R s m args below meth c D (IR s) (QRl below args s Po) 0 0 nL ws lv pc [.long v] := by
  intro H locs ls hP hI hl
  obtain ⟨rfl, rfl⟩ := hI
  exact W.lret C.1 C.2.1 C.2.2.2.2.1 (fun t ht hW => ⟨v, rfl, h, ht⟩) (fun q hq => by cases hq) d C.2.2.2.2.2.1
end Ends
/-! calls -/
/-- pool entry ix of class own names the method y (of np ints or refs, whose code and answer are so), on an object of the class Cn -/
def LkV (own : String) (ix : Nat) (Cn : String) (y : MethodName) (cc : ByteArray) (n : Nat) (ret : Option FieldType) (np : Nat) : Prop :=
  (Cond.methodLink own ix y ∈ tbl ∨ ∃ host, Cond.methodLinkNest own ix y host ∈ tbl) ∧ Cond.instanceMethod y ∈ tbl ∧ Cond.selects Cn y y ∈ tbl ∧ Cond.initialized y.cls ∈ tbl ∧ Cond.code y cc n ret ∈ tbl ∧ y.cls ≠ "java/lang/invoke/MethodHandle" ∧ y.cls ≠ "java/lang/invoke/VarHandle" ∧ (parseMethodDescriptor y.desc).map (fun d => d.parameters.length) = some np
/-- .. a static one -/
def LkS (own : String) (ix : Nat) (y : MethodName) (cc : ByteArray) (n : Nat) (ret : Option FieldType) (np : Nat) : Prop :=
  (Cond.methodLink own ix y ∈ tbl ∨ ∃ host, Cond.methodLinkNest own ix y host ∈ tbl) ∧ Cond.static y ∈ tbl ∧ Cond.initialized y.cls ∈ tbl ∧ Cond.code y cc n ret ∈ tbl ∧ y.cls ≠ "java/lang/invoke/MethodHandle" ∧ y.cls ≠ "java/lang/invoke/VarHandle" ∧ (parseMethodDescriptor y.desc).map (fun d => d.parameters.length) = some np
section CallRows
variable {p : Program} {l : Launch} {e : Env} {R : Room} {s : State} {m : MethodId} {args : Array Value} {below : List Frame} {meth : Method} {c : Code} {D : va_G} {I : va_W → Heap → List Loc → Prop} {Q : State → Prop} {mc ms nL : Nat} {ws wc wr : va_W} {lv : List (Nat × Value)} {pc : Nat} {st rest As : List Value} {cI cB cS : ClassId} {cc : ByteArray} {own : String} {ret : Option FieldType}
variable {y : MethodName} {ix : Nat} {Cn : String} {cy : ByteArray} {ny np fr lo : Nat} {ry : Option FieldType} {b : Nat} {A : Nat → Prop} {H : Heap} {locs : List Loc} {ls : Array Slot} {Pc : Array Value → State → Prop} {Qc : Array Value → State → Outcome → State → Prop} {free : Addr → Prop}
theorem code_good (hts : TB s) (h : Cond.code y cy ny ry ∈ tbl) : ∀ w ∈ [Cond.code y cy ny ry], ∀ (a' : Array Value) (U : State), s.WarmedH U.vm → w.before a' U = true := by
  intro w hw a' U hW
  rw [List.mem_singleton.mp hw]
  exact (hts.warm hW) _ h a'
theorem runV' (C : Cx p s m meth c D cI cB cS cc nL own ret) (L : LkV own ix Cn y cy ny ry np) (hM : Met l y [.code y cy ny ry] (rmOf fr lo) Pc Qc 0 0 free) (hR : fr + 1 ≤ R.frames ∧ 8 + (ny + 11) + lo ≤ R.locals) (hp : PreV s H Cn b Pc As) (hn : As.length = np) (hl : lv_has ls nL lv) (hst : st = As.reverse ++ .ref b :: rest) (hc : (rest.map fun v => v.category).sum ≤ 8) (d : decode cc pc = .ok (.invokevirtual ix, 3)) (hf : mc ≤ R.cells ∧ ms ≤ R.slots) :
    va_Run p l e R s m args below meth c H locs mc ms 0 0 (F0 m pc ls st) rest (Qc (Value.ref b :: As).toArray) free := by
  obtain ⟨h1, h2, h3, h4, h5, h6, h7, h8⟩ := L
  obtain ⟨hx, hb, hml, hown, -, -, hts, hK⟩ := C
  have hlen : ∀ sig, parseMethodDescriptor y.desc = some sig → np = sig.parameters.length := by
    intro sig h
    rw [h] at h8
    exact (Option.some.inj h8).symm
  have hS : CallFix p m c cc nL s args tbl own := ⟨hx, hb, hml, hown, fun w h => hts w h args⟩
  rcases h1 with h1 | ⟨host, h1⟩
  · exact va_runV hS hM ⟨⟨rfl, rfl, hR.1, hR.2, code_good hts h5, List.mem_singleton.mpr rfl, hts _ h5 args, hts _ h4 args, ⟨h6, h7⟩, hlen, hts _ h1 args⟩, hts _ h2 args, hts _ h3 args⟩ hp rfl hn hl.1 hst (by simpa [JFrame.monitorRoom] using hc) d hf
  · exact va_runVN hS hM ⟨⟨⟨rfl, rfl, hR.1, hR.2, code_good hts h5, List.mem_singleton.mpr rfl⟩, hts _ h5 args, hts _ h4 args, ⟨h6, h7⟩, hlen, hts _ h1 args⟩, hts _ h2 args, hts _ h3 args⟩ hp rfl hn hl.1 hst (by simpa [JFrame.monitorRoom] using hc) d hf
theorem runS' (C : Cx p s m meth c D cI cB cS cc nL own ret) (L : LkS own ix y cy ny ry np) (hM : Met l y [.code y cy ny ry] (rmOf fr lo) Pc Qc 0 0 free) (hR : fr + 1 ≤ R.frames ∧ 8 + (ny + 11) + lo ≤ R.locals) (hp : PreS s H Pc As) (hn : As.length = np) (hl : lv_has ls nL lv) (hst : st = As.reverse ++ rest) (hc : (rest.map fun v => v.category).sum ≤ 8) (d : decode cc pc = .ok (.invokestatic ix, 3)) (hf : mc ≤ R.cells ∧ ms ≤ R.slots) :
    va_Run p l e R s m args below meth c H locs mc ms 0 0 (F0 m pc ls st) rest (Qc As.toArray) free := by
  obtain ⟨h1, h2, h4, h5, h6, h7, h8⟩ := L
  obtain ⟨hx, hb, hml, hown, -, -, hts, hK⟩ := C
  have hlen : ∀ sig, parseMethodDescriptor y.desc = some sig → np = sig.parameters.length := by
    intro sig h
    rw [h] at h8
    exact (Option.some.inj h8).symm
  have hS : CallFix p m c cc nL s args tbl own := ⟨hx, hb, hml, hown, fun w h => hts w h args⟩
  rcases h1 with h1 | ⟨host, h1⟩
  · exact va_runS hS hM ⟨⟨rfl, rfl, hR.1, hR.2, code_good hts h5, List.mem_singleton.mpr rfl, hts _ h5 args, hts _ h4 args, ⟨h6, h7⟩, hlen, hts _ h1 args⟩, hts _ h2 args⟩ hp rfl hn hl.1 hst (by simpa [JFrame.monitorRoom] using hc) d hf
  · exact va_runSN hS hM ⟨⟨⟨rfl, rfl, hR.1, hR.2, code_good hts h5, List.mem_singleton.mpr rfl⟩, hts _ h5 args, hts _ h4 args, ⟨h6, h7⟩, hlen, hts _ h1 args⟩, hts _ h2 args, trivial⟩ hp rfl hn hl.1 hst (by simpa [JFrame.monitorRoom] using hc) d hf
theorem blindR {av : List Value} {wi : va_W} : FrameBlind (va_Pc av (StR D cI cB cS wi)) := fun a U g mk q => ⟨q.1, q.2.1, q.2.2.calling g mk a⟩
theorem blindM {av : List Value} {wi : va_W} {sz : Nat} : FrameBlind (va_Pc av (StM D cI cB cS wi sz)) := fun a U g mk q => ⟨q.1, q.2.1, q.2.2.1, q.2.2.2.1.calling g mk a, q.2.2.2.2⟩
/-- a reading method on an object: the answer has Po -/
theorem v_callRi {Po : Int32 → Prop} (C : Cx p s m meth c D cI cB cS cc nL own ret) (L : LkV own ix Cn y cy ny ry np) (hM : Ri l y cy ny ry fr lo D cI cB cS (.ref b :: As) wc Po) (hR : fr + 1 ≤ R.frames ∧ 8 + (ny + 11) + lo ≤ R.locals) (d : decode cc pc = .ok (.invokevirtual ix, 3)) (is : List Nat) (hs : is.filterMap (fun i => ws[i]?) = wc) (q0 : Nat) {ci N : Nat} {T : u_T} {fs : List Value} (he : ws[q0]? = some (b, .inr (ci, fs))) (hcl : vwCl[ci]? = some (Cn, T, N)) (hn : As.length = np) (hst : st = As.reverse ++ .ref b :: rest) (hc : (rest.map fun v => v.category).sum ≤ 8) (hf : mc ≤ R.cells ∧ ms ≤ R.slots)
    (kk : ∀ r : Int32, Po r → V p l e R s m args below meth c D I Q mc ms nL ws lv (pc + 3) (.int r :: rest)) : V p l e R s m args below meth c D I Q mc ms nL ws lv pc st := by
  intro H locs ls hP hI hl
  have hPc := hP.sub is hs
  exact vp_callSi (runV' C L hM hR ⟨blindR, va_recv C.2.2.2.2.2.2.2 hP hcl he, fun U hU hW => ⟨rfl, by rw [hU]; exact hPc, Wd.warm hW ⟨C.2.2.2.2.2.2.1, C.2.2.2.2.2.2.2⟩⟩⟩ hn hl hst hc d hf).run (fun r hr => kk r hr H locs ls hP hI hl)
theorem v_callRl {Po : Int64 → Prop} (C : Cx p s m meth c D cI cB cS cc nL own ret) (L : LkV own ix Cn y cy ny (some .long) np) (hM : Rl l y cy ny fr lo D cI cB cS (.ref b :: As) wc Po) (hR : fr + 1 ≤ R.frames ∧ 8 + (ny + 11) + lo ≤ R.locals) (d : decode cc pc = .ok (.invokevirtual ix, 3)) (is : List Nat) (hs : is.filterMap (fun i => ws[i]?) = wc) (q0 : Nat) {ci N : Nat} {T : u_T} {fs : List Value} (he : ws[q0]? = some (b, .inr (ci, fs))) (hcl : vwCl[ci]? = some (Cn, T, N)) (hn : As.length = np) (hst : st = As.reverse ++ .ref b :: rest) (hc : (rest.map fun v => v.category).sum ≤ 8) (hf : mc ≤ R.cells ∧ ms ≤ R.slots)
    (kk : ∀ r : Int64, Po r → V p l e R s m args below meth c D I Q mc ms nL ws lv (pc + 3) (.long r :: rest)) : V p l e R s m args below meth c D I Q mc ms nL ws lv pc st := by
  intro H locs ls hP hI hl
  have hPc := hP.sub is hs
  exact vp_callSl (runV' C L hM hR ⟨blindR, va_recv C.2.2.2.2.2.2.2 hP hcl he, fun U hU hW => ⟨rfl, by rw [hU]; exact hPc, Wd.warm hW ⟨C.2.2.2.2.2.2.1, C.2.2.2.2.2.2.2⟩⟩⟩ hn hl hst hc d hf).run (fun r hr => kk r hr H locs ls hP hI hl)
/-- a reading static method -/
theorem v_callSi {Po : Int32 → Prop} (C : Cx p s m meth c D cI cB cS cc nL own ret) (L : LkS own ix y cy ny ry np) (hM : Ri l y cy ny ry fr lo D cI cB cS As wc Po) (hR : fr + 1 ≤ R.frames ∧ 8 + (ny + 11) + lo ≤ R.locals) (d : decode cc pc = .ok (.invokestatic ix, 3)) (is : List Nat) (hs : is.filterMap (fun i => ws[i]?) = wc) (hn : As.length = np) (hst : st = As.reverse ++ rest) (hc : (rest.map fun v => v.category).sum ≤ 8) (hf : mc ≤ R.cells ∧ ms ≤ R.slots)
    (kk : ∀ r : Int32, Po r → V p l e R s m args below meth c D I Q mc ms nL ws lv (pc + 3) (.int r :: rest)) : V p l e R s m args below meth c D I Q mc ms nL ws lv pc st := by
  intro H locs ls hP hI hl
  have hPc := hP.sub is hs
  exact vp_callSi (runS' C L hM hR ⟨blindR, fun U hU hW => ⟨rfl, by rw [hU]; exact hPc, Wd.warm hW ⟨C.2.2.2.2.2.2.1, C.2.2.2.2.2.2.2⟩⟩⟩ hn hl hst hc d hf).run (fun r hr => kk r hr H locs ls hP hI hl)
theorem v_callSl {Po : Int64 → Prop} (C : Cx p s m meth c D cI cB cS cc nL own ret) (L : LkS own ix y cy ny (some .long) np) (hM : Rl l y cy ny fr lo D cI cB cS As wc Po) (hR : fr + 1 ≤ R.frames ∧ 8 + (ny + 11) + lo ≤ R.locals) (d : decode cc pc = .ok (.invokestatic ix, 3)) (is : List Nat) (hs : is.filterMap (fun i => ws[i]?) = wc) (hn : As.length = np) (hst : st = As.reverse ++ rest) (hc : (rest.map fun v => v.category).sum ≤ 8) (hf : mc ≤ R.cells ∧ ms ≤ R.slots)
    (kk : ∀ r : Int64, Po r → V p l e R s m args below meth c D I Q mc ms nL ws lv (pc + 3) (.long r :: rest)) : V p l e R s m args below meth c D I Q mc ms nL ws lv pc st := by
  intro H locs ls hP hI hl
  have hPc := hP.sub is hs
  exact vp_callSl (runS' C L hM hR ⟨blindR, fun U hU hW => ⟨rfl, by rw [hU]; exact hPc, Wd.warm hW ⟨C.2.2.2.2.2.2.1, C.2.2.2.2.2.2.2⟩⟩⟩ hn hl hst hc d hf).run (fun r hr => kk r hr H locs ls hP hI hl)
/-- a mutating method on an object: its cells (isC) come back behind the others (isR) -/
theorem v_callMi {Po : Int32 → va_W → Prop} (C : Cx p s m meth c D cI cB cS cc nL own ret) (L : LkV own ix Cn y cy ny ry np) (hM : Mi l y cy ny ry fr lo D cI cB cS (.ref b :: As) wc Po) (hR : fr + 1 ≤ R.frames ∧ 8 + (ny + 11) + lo ≤ R.locals) (d : decode cc pc = .ok (.invokevirtual ix, 3)) (isC isR : List Nat) (hnC : va_nd isC = true) (hs : isC.map (fun i => ws[i]?) = wc.map some) (hr : isR.map (fun i => ws[i]?) = wr.map some) (hnR : va_nd isR = true) (hdis : ∀ i ∈ isR, i ∉ isC) (q0 : Nat) {ci N : Nat} {T : u_T} {fs : List Value} (he : ws[q0]? = some (b, .inr (ci, fs))) (hcl : vwCl[ci]? = some (Cn, T, N)) (hn : As.length = np) (hst : st = As.reverse ++ .ref b :: rest) (hc : (rest.map fun v => v.category).sum ≤ 8) (hf : mc ≤ R.cells ∧ ms ≤ R.slots)
    (kk : ∀ (r : Int32) (w : va_W), Po r w → V p l e R s m args below meth c D (IM A s) Q mc ms nL (wr ++ w) lv (pc + 3) (.int r :: rest)) : V p l e R s m args below meth c D (IM A s) Q mc ms nL ws lv pc st := by
  intro H locs ls hP hI hl
  obtain ⟨hD, hS, hA⟩ := hI
  have hs' : isC.filterMap (fun i => ws[i]?) = wc := by
    have e : isC.filterMap (fun i => ws[i]?) = (isC.map (fun i => ws[i]?)).filterMap id := by rw [List.filterMap_map]; rfl
    rw [e, hs, List.filterMap_map]; simp
  have hPc := hP.sub isC hs'
  have hDc := hD.sub isC hnC hs
  have hFc := va_free (wc := wc) hD hS hA isC hs
  refine va_calli (runV' C L (hM H.size) hR ⟨blindM, va_recv C.2.2.2.2.2.2.2 hP hcl he, fun U hU hW => ⟨rfl, by rw [hU], by rw [hU]; exact hPc, Wd.warm hW ⟨C.2.2.2.2.2.2.1, C.2.2.2.2.2.2.2⟩, hDc.weaken (fun _ _ _ _ => trivial)⟩⟩ hn hl hst hc d hf) hS (fun q _ h => hFc q h) hFc (fun r u t H1 locs1 ht hvm hw hB hz1 hk1 hS1 => ?_)
  obtain ⟨hP1, hK1, hD1⟩ := hB
  rw [ht] at hP1
  obtain ⟨hP2, hD2⟩ := va_join hP hD isC isR hs hr hnR hdis hk1 hFc hP1 hD1
  exact kk r u hw H1 locs1 ls hP2 ⟨hD2, hS1, hA⟩ hl
theorem v_callMv {Po : va_W → Prop} (C : Cx p s m meth c D cI cB cS cc nL own ret) (L : LkV own ix Cn y cy ny none np) (hM : Mv l y cy ny fr lo D cI cB cS (.ref b :: As) wc Po) (hR : fr + 1 ≤ R.frames ∧ 8 + (ny + 11) + lo ≤ R.locals) (d : decode cc pc = .ok (.invokevirtual ix, 3)) (isC isR : List Nat) (hnC : va_nd isC = true) (hs : isC.map (fun i => ws[i]?) = wc.map some) (hr : isR.map (fun i => ws[i]?) = wr.map some) (hnR : va_nd isR = true) (hdis : ∀ i ∈ isR, i ∉ isC) (q0 : Nat) {ci N : Nat} {T : u_T} {fs : List Value} (he : ws[q0]? = some (b, .inr (ci, fs))) (hcl : vwCl[ci]? = some (Cn, T, N)) (hn : As.length = np) (hst : st = As.reverse ++ .ref b :: rest) (hc : (rest.map fun v => v.category).sum ≤ 8) (hf : mc ≤ R.cells ∧ ms ≤ R.slots)
    (kk : ∀ (w : va_W), Po w → V p l e R s m args below meth c D (IM A s) Q mc ms nL (wr ++ w) lv (pc + 3) rest) : V p l e R s m args below meth c D (IM A s) Q mc ms nL ws lv pc st := by
  intro H locs ls hP hI hl
  obtain ⟨hD, hS, hA⟩ := hI
  have hs' : isC.filterMap (fun i => ws[i]?) = wc := by
    have e : isC.filterMap (fun i => ws[i]?) = (isC.map (fun i => ws[i]?)).filterMap id := by rw [List.filterMap_map]; rfl
    rw [e, hs, List.filterMap_map]; simp
  have hPc := hP.sub isC hs'
  have hDc := hD.sub isC hnC hs
  have hFc := va_free (wc := wc) hD hS hA isC hs
  refine va_callv (runV' C L (hM H.size) hR ⟨blindM, va_recv C.2.2.2.2.2.2.2 hP hcl he, fun U hU hW => ⟨rfl, by rw [hU], by rw [hU]; exact hPc, Wd.warm hW ⟨C.2.2.2.2.2.2.1, C.2.2.2.2.2.2.2⟩, hDc.weaken (fun _ _ _ _ => trivial)⟩⟩ hn hl hst hc d hf) hS (fun q _ h => hFc q h) hFc (fun u t H1 locs1 ht hvm hw hB hz1 hk1 hS1 => ?_)
  obtain ⟨hP1, hK1, hD1⟩ := hB
  rw [ht] at hP1
  obtain ⟨hP2, hD2⟩ := va_join hP hD isC isR hs hr hnR hdis hk1 hFc hP1 hD1
  exact kk u hw H1 locs1 ls hP2 ⟨hD2, hS1, hA⟩ hl
theorem v_callMl {Po : Int64 → va_W → Prop} (C : Cx p s m meth c D cI cB cS cc nL own ret) (L : LkV own ix Cn y cy ny (some .long) np) (hM : Ml l y cy ny fr lo D cI cB cS (.ref b :: As) wc Po) (hR : fr + 1 ≤ R.frames ∧ 8 + (ny + 11) + lo ≤ R.locals) (d : decode cc pc = .ok (.invokevirtual ix, 3)) (isC isR : List Nat) (hnC : va_nd isC = true) (hs : isC.map (fun i => ws[i]?) = wc.map some) (hr : isR.map (fun i => ws[i]?) = wr.map some) (hnR : va_nd isR = true) (hdis : ∀ i ∈ isR, i ∉ isC) (q0 : Nat) {ci N : Nat} {T : u_T} {fs : List Value} (he : ws[q0]? = some (b, .inr (ci, fs))) (hcl : vwCl[ci]? = some (Cn, T, N)) (hn : As.length = np) (hst : st = As.reverse ++ .ref b :: rest) (hc : (rest.map fun v => v.category).sum ≤ 8) (hf : mc ≤ R.cells ∧ ms ≤ R.slots)
    (kk : ∀ (r : Int64) (w : va_W), Po r w → V p l e R s m args below meth c D (IM A s) Q mc ms nL (wr ++ w) lv (pc + 3) (.long r :: rest)) : V p l e R s m args below meth c D (IM A s) Q mc ms nL ws lv pc st := by
  intro H locs ls hP hI hl
  obtain ⟨hD, hS, hA⟩ := hI
  have hs' : isC.filterMap (fun i => ws[i]?) = wc := by
    have e : isC.filterMap (fun i => ws[i]?) = (isC.map (fun i => ws[i]?)).filterMap id := by rw [List.filterMap_map]; rfl
    rw [e, hs, List.filterMap_map]; simp
  have hPc := hP.sub isC hs'
  have hDc := hD.sub isC hnC hs
  have hFc := va_free (wc := wc) hD hS hA isC hs
  refine va_calll (runV' C L (hM H.size) hR ⟨blindM, va_recv C.2.2.2.2.2.2.2 hP hcl he, fun U hU hW => ⟨rfl, by rw [hU], by rw [hU]; exact hPc, Wd.warm hW ⟨C.2.2.2.2.2.2.1, C.2.2.2.2.2.2.2⟩, hDc.weaken (fun _ _ _ _ => trivial)⟩⟩ hn hl hst hc d hf) hS (fun q _ h => hFc q h) hFc (fun r u t H1 locs1 ht hvm hw hB hz1 hk1 hS1 => ?_)
  obtain ⟨hP1, hK1, hD1⟩ := hB
  rw [ht] at hP1
  obtain ⟨hP2, hD2⟩ := va_join hP hD isC isR hs hr hnR hdis hk1 hFc hP1 hD1
  exact kk r u hw H1 locs1 ls hP2 ⟨hD2, hS1, hA⟩ hl
/-- Arrays.fill: a static method that changes one row -/
theorem v_callSv {Po : va_W → Prop} (C : Cx p s m meth c D cI cB cS cc nL own ret) (L : LkS own ix y cy ny none np) (hM : Mv l y cy ny fr lo D cI cB cS As wc Po) (hR : fr + 1 ≤ R.frames ∧ 8 + (ny + 11) + lo ≤ R.locals) (d : decode cc pc = .ok (.invokestatic ix, 3)) (isC isR : List Nat) (hnC : va_nd isC = true) (hs : isC.map (fun i => ws[i]?) = wc.map some) (hr : isR.map (fun i => ws[i]?) = wr.map some) (hnR : va_nd isR = true) (hdis : ∀ i ∈ isR, i ∉ isC) (hn : As.length = np) (hst : st = As.reverse ++ rest) (hc : (rest.map fun v => v.category).sum ≤ 8) (hf : mc ≤ R.cells ∧ ms ≤ R.slots)
    (kk : ∀ (w : va_W), Po w → V p l e R s m args below meth c D (IM A s) Q mc ms nL (wr ++ w) lv (pc + 3) rest) : V p l e R s m args below meth c D (IM A s) Q mc ms nL ws lv pc st := by
  intro H locs ls hP hI hl
  obtain ⟨hD, hS, hA⟩ := hI
  have hs' : isC.filterMap (fun i => ws[i]?) = wc := by
    have e : isC.filterMap (fun i => ws[i]?) = (isC.map (fun i => ws[i]?)).filterMap id := by rw [List.filterMap_map]; rfl
    rw [e, hs, List.filterMap_map]; simp
  have hPc := hP.sub isC hs'
  have hDc := hD.sub isC hnC hs
  have hFc := va_free (wc := wc) hD hS hA isC hs
  refine va_callv (runS' C L (hM H.size) hR ⟨blindM, fun U hU hW => ⟨rfl, by rw [hU], by rw [hU]; exact hPc, Wd.warm hW ⟨C.2.2.2.2.2.2.1, C.2.2.2.2.2.2.2⟩, hDc.weaken (fun _ _ _ _ => trivial)⟩⟩ hn hl hst hc d hf) hS (fun q _ h => hFc q h) hFc (fun u t H1 locs1 ht hvm hw hB hz1 hk1 hS1 => ?_)
  obtain ⟨hP1, hK1, hD1⟩ := hB
  rw [ht] at hP1
  obtain ⟨hP2, hD2⟩ := va_join hP hD isC isR hs hr hnR hdis hk1 hFc hP1 hD1
  exact kk u hw H1 locs1 ls hP2 ⟨hD2, hS1, hA⟩ hl
/-- Math.max -/
theorem v_max (C : Cx p s m meth c D cI cB cS cc nL own ret) (L : Cond.methodLink own ix yJ9_max_7cf53 ∈ tbl ∧ Cond.static yJ9_max_7cf53 ∈ tbl ∧ Cond.initialized "java/lang/Math" ∈ tbl ∧ Cond.code yJ9_max_7cf53 cJ9_max_7cf53 2 (some .int) ∈ tbl) (d : decode cc pc = .ok (.invokestatic ix, 3)) (hfr : 1 ≤ R.frames) (hlo : (rest.map fun v => v.category).sum + 13 ≤ R.locals) (hmc : mc ≤ R.cells) (hms : ms ≤ R.slots) {x y : Int32}
    (kk : V p l e R s m args below meth c D I Q mc ms nL ws lv (pc + 3) (.int (if x < y then y else x) :: rest)) : V p l e R s m args below meth c D I Q mc ms nL ws lv pc (.int y :: .int x :: rest) := by
  intro H locs ls hP hI hl
  obtain ⟨h1, h2, h4, h5⟩ := L
  obtain ⟨hex, hb, hml, hown, -, -, hts, hK⟩ := C
  exact va_mmax hex hb (hml.trans hl.1.symm) hown (hts _ h1 _) (hts _ h2 _) (hts _ h4 _) (hts _ h5 _) hfr hlo hmc hms d (kk H locs ls hP hI hl)
/-- System.arraycopy between rows of ints -/
theorem v_copy (C : Cx p s m meth c D cI cB cS cc nL own ret) (hw1 : Cond.methodLink own ix arraycopyName ∈ tbl) (hw2 : Cond.native arraycopyName ∈ tbl) (hw3 : Cond.static arraycopyName ∈ tbl) (hw4 : Cond.initialized "java/lang/System" ∈ tbl) (ws' : va_W) (d : decode cc pc = .ok (.invokestatic ix, 3)) (q0 q1 : Nat) {a0 a1 n0 n1 : Nat} {f g : Nat → Int32} (ha0 : ws[q0]? = some (a0, .inl (cI, n0, .inl f))) (ha1 : ws[q1]? = some (a1, .inl (cI, n1, .inl g))) {x y z : Int32} (sp dp n : Nat) (hx : x = nI sp) (hy : y = nI dp) (hz : z = nI n) (h0 : sp + n ≤ n0) (h1 : dp + n ≤ n1) (hb0 : n0 < 2 ^ 31) (hb1 : n1 < 2 ^ 31) (hfr : 1 ≤ R.frames) (hlo : (rest.map fun v => v.category).sum + (nativeFrameWords "java/lang/System" "arraycopy" 5 + 11) ≤ R.locals) (hw : ws.set q1 (a1, .inl (cI, n1, .inl (va_cpy f g sp dp n))) = ws')
    (kk : V p l e R s m args below meth c D (IM A s) Q mc ms nL ws' lv (pc + 3) rest) : V p l e R s m args below meth c D (IM A s) Q mc ms nL ws lv pc (.int z :: .int y :: .ref a1 :: .int x :: .ref a0 :: rest) := by
  intro H locs ls hP hI hl
  subst hw
  obtain ⟨hD, hS, hA⟩ := hI
  obtain ⟨hex, hb, hml, hown, -, -, hts, hK⟩ := C
  have ex : x.toNatClampNeg = sp := by rw [hx, nI_clamp (by omega)]
  have ey : y.toNatClampNeg = dp := by rw [hy, nI_clamp (by omega)]
  have ez : z.toNatClampNeg = n := by rw [hz, nI_clamp (by omega)]
  refine va_copyi hex hb (hml.trans hl.1.symm) hown (hts _ hw1 _) (hts _ hw2 _) (hts _ hw3 _) (hts _ hw4 _) hK hP hD hS q0 q1 0 0 ha0 ha1 rfl rfl rfl (by rw [hx]; exact nI_pos (by omega)) (by rw [hy]; exact nI_pos (by omega)) (by rw [hz]; exact nI_pos (by omega)) (by rw [ex, ez]; exact h0) (by rw [ey, ez]; exact h1) (fun _ _ => rfl) hfr hlo d (fun H1 locs1 hP1 hD1 hS1 => ?_)
  rw [ex, ey, ez] at hP1 hD1
  exact kk H1 locs1 ls hP1 ⟨hD1, hS1, hA⟩ hl
end CallRows
end
section
theorem tbin_X0 : ∀ w ∈ u_ws RX0 TX0 14, w ∈ tbl := by decide +kernel
theorem tbin_X1 : ∀ w ∈ u_ws RX1 TX1 4, w ∈ tbl := by decide +kernel
theorem tbin_X2 : ∀ w ∈ u_ws RX2 TX2 12, w ∈ tbl := by decide +kernel
theorem tbin_X3 : ∀ w ∈ u_ws RX3 TX3 3, w ∈ tbl := by decide +kernel
theorem tbin_X4 : ∀ w ∈ u_ws RX4 TX4 7, w ∈ tbl := by decide +kernel
theorem tbin_X5 : ∀ w ∈ u_ws RX5 TX5 33, w ∈ tbl := by decide +kernel
theorem f_X3_9 : FL RX3 9 3 0 := ⟨RX3, TX3, 3, rfl, by decide, tbin_X3, Or.inl (tb_in 84 (by decide +kernel) rfl)⟩
theorem f_X3_26 : FL RX3 26 3 1 := ⟨RX3, TX3, 3, rfl, by decide, tbin_X3, Or.inl (tb_in 85 (by decide +kernel) rfl)⟩
theorem p_X3_26 : FP RX3 26 3 1 .int := ⟨RX3, TX3, 3, tyX3, rfl, by decide, tbin_X3, Or.inl (tb_in 85 (by decide +kernel) rfl), tyX3_ok, nmX3, rfl, by decide +kernel⟩
theorem f_X3_30 : FL RX3 30 3 2 := ⟨RX3, TX3, 3, rfl, by decide, tbin_X3, Or.inl (tb_in 86 (by decide +kernel) rfl)⟩
theorem p_X3_30 : FP RX3 30 3 2 .int := ⟨RX3, TX3, 3, tyX3, rfl, by decide, tbin_X3, Or.inl (tb_in 86 (by decide +kernel) rfl), tyX3_ok, nmX3, rfl, by decide +kernel⟩
theorem f_X0_9 : FL RX0 9 0 0 := ⟨RX0, TX0, 14, rfl, by decide, tbin_X0, Or.inl (tb_in 101 (by decide +kernel) rfl)⟩
theorem f_X2_28 : FL RX2 28 0 0 := ⟨RX0, TX0, 14, rfl, by decide, tbin_X0, Or.inr ⟨"ChildCourt", tb_in 102 (by decide +kernel) rfl⟩⟩
theorem f_X4_78 : FL RX4 78 0 0 := ⟨RX0, TX0, 14, rfl, by decide, tbin_X0, Or.inr ⟨"ChildCourt", tb_in 103 (by decide +kernel) rfl⟩⟩
theorem f_X0_15 : FL RX0 15 0 1 := ⟨RX0, TX0, 14, rfl, by decide, tbin_X0, Or.inl (tb_in 104 (by decide +kernel) rfl)⟩
theorem f_X4_81 : FL RX4 81 0 1 := ⟨RX0, TX0, 14, rfl, by decide, tbin_X0, Or.inr ⟨"ChildCourt", tb_in 105 (by decide +kernel) rfl⟩⟩
theorem f_X2_112 : FL RX2 112 0 1 := ⟨RX0, TX0, 14, rfl, by decide, tbin_X0, Or.inr ⟨"ChildCourt", tb_in 106 (by decide +kernel) rfl⟩⟩
theorem f_X0_18 : FL RX0 18 0 2 := ⟨RX0, TX0, 14, rfl, by decide, tbin_X0, Or.inl (tb_in 107 (by decide +kernel) rfl)⟩
theorem f_X4_97 : FL RX4 97 0 2 := ⟨RX0, TX0, 14, rfl, by decide, tbin_X0, Or.inr ⟨"ChildCourt", tb_in 108 (by decide +kernel) rfl⟩⟩
theorem f_X2_72 : FL RX2 72 0 2 := ⟨RX0, TX0, 14, rfl, by decide, tbin_X0, Or.inr ⟨"ChildCourt", tb_in 109 (by decide +kernel) rfl⟩⟩
theorem f_X0_21 : FL RX0 21 0 3 := ⟨RX0, TX0, 14, rfl, by decide, tbin_X0, Or.inl (tb_in 110 (by decide +kernel) rfl)⟩
theorem f_X4_100 : FL RX4 100 0 3 := ⟨RX0, TX0, 14, rfl, by decide, tbin_X0, Or.inr ⟨"ChildCourt", tb_in 111 (by decide +kernel) rfl⟩⟩
theorem f_X2_75 : FL RX2 75 0 3 := ⟨RX0, TX0, 14, rfl, by decide, tbin_X0, Or.inr ⟨"ChildCourt", tb_in 112 (by decide +kernel) rfl⟩⟩
theorem f_X0_24 : FL RX0 24 0 4 := ⟨RX0, TX0, 14, rfl, by decide, tbin_X0, Or.inl (tb_in 113 (by decide +kernel) rfl)⟩
theorem f_X4_103 : FL RX4 103 0 4 := ⟨RX0, TX0, 14, rfl, by decide, tbin_X0, Or.inr ⟨"ChildCourt", tb_in 114 (by decide +kernel) rfl⟩⟩
theorem f_X2_99 : FL RX2 99 0 4 := ⟨RX0, TX0, 14, rfl, by decide, tbin_X0, Or.inr ⟨"ChildCourt", tb_in 115 (by decide +kernel) rfl⟩⟩
theorem f_X0_27 : FL RX0 27 0 5 := ⟨RX0, TX0, 14, rfl, by decide, tbin_X0, Or.inl (tb_in 116 (by decide +kernel) rfl)⟩
theorem f_X4_163 : FL RX4 163 0 5 := ⟨RX0, TX0, 14, rfl, by decide, tbin_X0, Or.inr ⟨"ChildCourt", tb_in 117 (by decide +kernel) rfl⟩⟩
theorem f_X0_30 : FL RX0 30 0 6 := ⟨RX0, TX0, 14, rfl, by decide, tbin_X0, Or.inl (tb_in 118 (by decide +kernel) rfl)⟩
theorem f_X4_166 : FL RX4 166 0 6 := ⟨RX0, TX0, 14, rfl, by decide, tbin_X0, Or.inr ⟨"ChildCourt", tb_in 119 (by decide +kernel) rfl⟩⟩
theorem f_X0_46 : FL RX0 46 0 7 := ⟨RX0, TX0, 14, rfl, by decide, tbin_X0, Or.inl (tb_in 120 (by decide +kernel) rfl)⟩
theorem p_X0_46 : FP RX0 46 0 7 .int := ⟨RX0, TX0, 14, tyX0, rfl, by decide, tbin_X0, Or.inl (tb_in 120 (by decide +kernel) rfl), tyX0_ok, nmX0, rfl, by decide +kernel⟩
theorem f_X2_78 : FL RX2 78 0 7 := ⟨RX0, TX0, 14, rfl, by decide, tbin_X0, Or.inr ⟨"ChildCourt", tb_in 121 (by decide +kernel) rfl⟩⟩
theorem p_X2_78 : FP RX2 78 0 7 .int := ⟨RX0, TX0, 14, tyX0, rfl, by decide, tbin_X0, Or.inr ⟨"ChildCourt", tb_in 121 (by decide +kernel) rfl⟩, tyX0_ok, nmX0, rfl, by decide +kernel⟩
theorem f_X4_117 : FL RX4 117 0 7 := ⟨RX0, TX0, 14, rfl, by decide, tbin_X0, Or.inr ⟨"ChildCourt", tb_in 122 (by decide +kernel) rfl⟩⟩
theorem p_X4_117 : FP RX4 117 0 7 .int := ⟨RX0, TX0, 14, tyX0, rfl, by decide, tbin_X0, Or.inr ⟨"ChildCourt", tb_in 122 (by decide +kernel) rfl⟩, tyX0_ok, nmX0, rfl, by decide +kernel⟩
theorem f_X0_37 : FL RX0 37 0 8 := ⟨RX0, TX0, 14, rfl, by decide, tbin_X0, Or.inl (tb_in 123 (by decide +kernel) rfl)⟩
theorem p_X0_37 : FP RX0 37 0 8 .int := ⟨RX0, TX0, 14, tyX0, rfl, by decide, tbin_X0, Or.inl (tb_in 123 (by decide +kernel) rfl), tyX0_ok, nmX0, rfl, by decide +kernel⟩
theorem f_X2_102 : FL RX2 102 0 8 := ⟨RX0, TX0, 14, rfl, by decide, tbin_X0, Or.inr ⟨"ChildCourt", tb_in 124 (by decide +kernel) rfl⟩⟩
theorem p_X2_102 : FP RX2 102 0 8 .int := ⟨RX0, TX0, 14, tyX0, rfl, by decide, tbin_X0, Or.inr ⟨"ChildCourt", tb_in 124 (by decide +kernel) rfl⟩, tyX0_ok, nmX0, rfl, by decide +kernel⟩
theorem f_X4_151 : FL RX4 151 0 8 := ⟨RX0, TX0, 14, rfl, by decide, tbin_X0, Or.inr ⟨"ChildCourt", tb_in 125 (by decide +kernel) rfl⟩⟩
theorem p_X4_151 : FP RX4 151 0 8 .int := ⟨RX0, TX0, 14, tyX0, rfl, by decide, tbin_X0, Or.inr ⟨"ChildCourt", tb_in 125 (by decide +kernel) rfl⟩, tyX0_ok, nmX0, rfl, by decide +kernel⟩
theorem f_X0_33 : FL RX0 33 0 9 := ⟨RX0, TX0, 14, rfl, by decide, tbin_X0, Or.inl (tb_in 126 (by decide +kernel) rfl)⟩
theorem p_X0_33 : FP RX0 33 0 9 .int := ⟨RX0, TX0, 14, tyX0, rfl, by decide, tbin_X0, Or.inl (tb_in 126 (by decide +kernel) rfl), tyX0_ok, nmX0, rfl, by decide +kernel⟩
theorem f_X4_72 : FL RX4 72 0 9 := ⟨RX0, TX0, 14, rfl, by decide, tbin_X0, Or.inr ⟨"ChildCourt", tb_in 127 (by decide +kernel) rfl⟩⟩
theorem p_X4_72 : FP RX4 72 0 9 .int := ⟨RX0, TX0, 14, tyX0, rfl, by decide, tbin_X0, Or.inr ⟨"ChildCourt", tb_in 127 (by decide +kernel) rfl⟩, tyX0_ok, nmX0, rfl, by decide +kernel⟩
theorem f_X2_37 : FL RX2 37 0 10 := ⟨RX0, TX0, 14, rfl, by decide, tbin_X0, Or.inr ⟨"ChildCourt", tb_in 128 (by decide +kernel) rfl⟩⟩
theorem p_X2_37 : FP RX2 37 0 10 .int := ⟨RX0, TX0, 14, tyX0, rfl, by decide, tbin_X0, Or.inr ⟨"ChildCourt", tb_in 128 (by decide +kernel) rfl⟩, tyX0_ok, nmX0, rfl, by decide +kernel⟩
theorem f_X4_110 : FL RX4 110 0 10 := ⟨RX0, TX0, 14, rfl, by decide, tbin_X0, Or.inr ⟨"ChildCourt", tb_in 129 (by decide +kernel) rfl⟩⟩
theorem p_X4_110 : FP RX4 110 0 10 .int := ⟨RX0, TX0, 14, tyX0, rfl, by decide, tbin_X0, Or.inr ⟨"ChildCourt", tb_in 129 (by decide +kernel) rfl⟩, tyX0_ok, nmX0, rfl, by decide +kernel⟩
theorem f_X0_66 : FL RX0 66 0 10 := ⟨RX0, TX0, 14, rfl, by decide, tbin_X0, Or.inl (tb_in 130 (by decide +kernel) rfl)⟩
theorem p_X0_66 : FP RX0 66 0 10 .int := ⟨RX0, TX0, 14, tyX0, rfl, by decide, tbin_X0, Or.inl (tb_in 130 (by decide +kernel) rfl), tyX0_ok, nmX0, rfl, by decide +kernel⟩
theorem f_X2_42 : FL RX2 42 0 11 := ⟨RX0, TX0, 14, rfl, by decide, tbin_X0, Or.inr ⟨"ChildCourt", tb_in 131 (by decide +kernel) rfl⟩⟩
theorem p_X2_42 : FP RX2 42 0 11 .int := ⟨RX0, TX0, 14, tyX0, rfl, by decide, tbin_X0, Or.inr ⟨"ChildCourt", tb_in 131 (by decide +kernel) rfl⟩, tyX0_ok, nmX0, rfl, by decide +kernel⟩
theorem f_X4_84 : FL RX4 84 0 11 := ⟨RX0, TX0, 14, rfl, by decide, tbin_X0, Or.inr ⟨"ChildCourt", tb_in 132 (by decide +kernel) rfl⟩⟩
theorem p_X4_84 : FP RX4 84 0 11 .int := ⟨RX0, TX0, 14, tyX0, rfl, by decide, tbin_X0, Or.inr ⟨"ChildCourt", tb_in 132 (by decide +kernel) rfl⟩, tyX0_ok, nmX0, rfl, by decide +kernel⟩
theorem f_X0_69 : FL RX0 69 0 11 := ⟨RX0, TX0, 14, rfl, by decide, tbin_X0, Or.inl (tb_in 133 (by decide +kernel) rfl)⟩
theorem p_X0_69 : FP RX0 69 0 11 .int := ⟨RX0, TX0, 14, tyX0, rfl, by decide, tbin_X0, Or.inl (tb_in 133 (by decide +kernel) rfl), tyX0_ok, nmX0, rfl, by decide +kernel⟩
theorem f_X2_46 : FL RX2 46 0 12 := ⟨RX0, TX0, 14, rfl, by decide, tbin_X0, Or.inr ⟨"ChildCourt", tb_in 134 (by decide +kernel) rfl⟩⟩
theorem p_X2_46 : FP RX2 46 0 12 .int := ⟨RX0, TX0, 14, tyX0, rfl, by decide, tbin_X0, Or.inr ⟨"ChildCourt", tb_in 134 (by decide +kernel) rfl⟩, tyX0_ok, nmX0, rfl, by decide +kernel⟩
theorem f_X4_91 : FL RX4 91 0 12 := ⟨RX0, TX0, 14, rfl, by decide, tbin_X0, Or.inr ⟨"ChildCourt", tb_in 135 (by decide +kernel) rfl⟩⟩
theorem p_X4_91 : FP RX4 91 0 12 .int := ⟨RX0, TX0, 14, tyX0, rfl, by decide, tbin_X0, Or.inr ⟨"ChildCourt", tb_in 135 (by decide +kernel) rfl⟩, tyX0_ok, nmX0, rfl, by decide +kernel⟩
theorem f_X0_72 : FL RX0 72 0 12 := ⟨RX0, TX0, 14, rfl, by decide, tbin_X0, Or.inl (tb_in 136 (by decide +kernel) rfl)⟩
theorem p_X0_72 : FP RX0 72 0 12 .int := ⟨RX0, TX0, 14, tyX0, rfl, by decide, tbin_X0, Or.inl (tb_in 136 (by decide +kernel) rfl), tyX0_ok, nmX0, rfl, by decide +kernel⟩
theorem f_X0_75 : FL RX0 75 0 13 := ⟨RX0, TX0, 14, rfl, by decide, tbin_X0, Or.inl (tb_in 137 (by decide +kernel) rfl)⟩
theorem p_X0_75 : FP RX0 75 0 13 .int := ⟨RX0, TX0, 14, tyX0, rfl, by decide, tbin_X0, Or.inl (tb_in 137 (by decide +kernel) rfl), tyX0_ok, nmX0, rfl, by decide +kernel⟩
theorem f_X4_160 : FL RX4 160 0 13 := ⟨RX0, TX0, 14, rfl, by decide, tbin_X0, Or.inr ⟨"ChildCourt", tb_in 138 (by decide +kernel) rfl⟩⟩
theorem p_X4_160 : FP RX4 160 0 13 .int := ⟨RX0, TX0, 14, tyX0, rfl, by decide, tbin_X0, Or.inr ⟨"ChildCourt", tb_in 138 (by decide +kernel) rfl⟩, tyX0_ok, nmX0, rfl, by decide +kernel⟩
theorem f_X2_24 : FL RX2 24 2 0 := ⟨RX2, TX2, 12, rfl, by decide, tbin_X2, Or.inl (tb_in 174 (by decide +kernel) rfl)⟩
theorem f_X2_9 : FL RX2 9 2 1 := ⟨RX2, TX2, 12, rfl, by decide, tbin_X2, Or.inl (tb_in 175 (by decide +kernel) rfl)⟩
theorem f_X4_177 : FL RX4 177 2 1 := ⟨RX2, TX2, 12, rfl, by decide, tbin_X2, Or.inr ⟨"ChildCourt", tb_in 176 (by decide +kernel) rfl⟩⟩
theorem f_X2_15 : FL RX2 15 2 2 := ⟨RX2, TX2, 12, rfl, by decide, tbin_X2, Or.inl (tb_in 177 (by decide +kernel) rfl)⟩
theorem f_X4_241 : FL RX4 241 2 2 := ⟨RX2, TX2, 12, rfl, by decide, tbin_X2, Or.inr ⟨"ChildCourt", tb_in 178 (by decide +kernel) rfl⟩⟩
theorem f_X2_18 : FL RX2 18 2 3 := ⟨RX2, TX2, 12, rfl, by decide, tbin_X2, Or.inl (tb_in 179 (by decide +kernel) rfl)⟩
theorem f_X4_127 : FL RX4 127 2 3 := ⟨RX2, TX2, 12, rfl, by decide, tbin_X2, Or.inr ⟨"ChildCourt", tb_in 180 (by decide +kernel) rfl⟩⟩
theorem f_X2_21 : FL RX2 21 2 4 := ⟨RX2, TX2, 12, rfl, by decide, tbin_X2, Or.inl (tb_in 181 (by decide +kernel) rfl)⟩
theorem f_X2_53 : FL RX2 53 2 5 := ⟨RX2, TX2, 12, rfl, by decide, tbin_X2, Or.inl (tb_in 182 (by decide +kernel) rfl)⟩
theorem p_X2_53 : FP RX2 53 2 5 .int := ⟨RX2, TX2, 12, tyX2, rfl, by decide, tbin_X2, Or.inl (tb_in 182 (by decide +kernel) rfl), tyX2_ok, nmX2, rfl, by decide +kernel⟩
theorem f_X2_41 : FL RX2 41 2 6 := ⟨RX2, TX2, 12, rfl, by decide, tbin_X2, Or.inl (tb_in 183 (by decide +kernel) rfl)⟩
theorem p_X2_41 : FP RX2 41 2 6 .int := ⟨RX2, TX2, 12, tyX2, rfl, by decide, tbin_X2, Or.inl (tb_in 183 (by decide +kernel) rfl), tyX2_ok, nmX2, rfl, by decide +kernel⟩
theorem f_X4_169 : FL RX4 169 2 6 := ⟨RX2, TX2, 12, rfl, by decide, tbin_X2, Or.inr ⟨"ChildCourt", tb_in 184 (by decide +kernel) rfl⟩⟩
theorem p_X4_169 : FP RX4 169 2 6 .int := ⟨RX2, TX2, 12, tyX2, rfl, by decide, tbin_X2, Or.inr ⟨"ChildCourt", tb_in 184 (by decide +kernel) rfl⟩, tyX2_ok, nmX2, rfl, by decide +kernel⟩
theorem f_X2_45 : FL RX2 45 2 7 := ⟨RX2, TX2, 12, rfl, by decide, tbin_X2, Or.inl (tb_in 185 (by decide +kernel) rfl)⟩
theorem p_X2_45 : FP RX2 45 2 7 .int := ⟨RX2, TX2, 12, tyX2, rfl, by decide, tbin_X2, Or.inl (tb_in 185 (by decide +kernel) rfl), tyX2_ok, nmX2, rfl, by decide +kernel⟩
theorem f_X4_178 : FL RX4 178 2 7 := ⟨RX2, TX2, 12, rfl, by decide, tbin_X2, Or.inr ⟨"ChildCourt", tb_in 186 (by decide +kernel) rfl⟩⟩
theorem p_X4_178 : FP RX4 178 2 7 .int := ⟨RX2, TX2, 12, tyX2, rfl, by decide, tbin_X2, Or.inr ⟨"ChildCourt", tb_in 186 (by decide +kernel) rfl⟩, tyX2_ok, nmX2, rfl, by decide +kernel⟩
theorem f_X2_49 : FL RX2 49 2 8 := ⟨RX2, TX2, 12, rfl, by decide, tbin_X2, Or.inl (tb_in 187 (by decide +kernel) rfl)⟩
theorem p_X2_49 : FP RX2 49 2 8 .int := ⟨RX2, TX2, 12, tyX2, rfl, by decide, tbin_X2, Or.inl (tb_in 187 (by decide +kernel) rfl), tyX2_ok, nmX2, rfl, by decide +kernel⟩
theorem f_X4_181 : FL RX4 181 2 8 := ⟨RX2, TX2, 12, rfl, by decide, tbin_X2, Or.inr ⟨"ChildCourt", tb_in 188 (by decide +kernel) rfl⟩⟩
theorem p_X4_181 : FP RX4 181 2 8 .int := ⟨RX2, TX2, 12, tyX2, rfl, by decide, tbin_X2, Or.inr ⟨"ChildCourt", tb_in 188 (by decide +kernel) rfl⟩, tyX2_ok, nmX2, rfl, by decide +kernel⟩
theorem f_X2_50 : FL RX2 50 2 9 := ⟨RX2, TX2, 12, rfl, by decide, tbin_X2, Or.inl (tb_in 189 (by decide +kernel) rfl)⟩
theorem p_X2_50 : FP RX2 50 2 9 .int := ⟨RX2, TX2, 12, tyX2, rfl, by decide, tbin_X2, Or.inl (tb_in 189 (by decide +kernel) rfl), tyX2_ok, nmX2, rfl, by decide +kernel⟩
theorem f_X2_66 : FL RX2 66 2 10 := ⟨RX2, TX2, 12, rfl, by decide, tbin_X2, Or.inl (tb_in 190 (by decide +kernel) rfl)⟩
theorem p_X2_66 : FP RX2 66 2 10 .int := ⟨RX2, TX2, 12, tyX2, rfl, by decide, tbin_X2, Or.inl (tb_in 190 (by decide +kernel) rfl), tyX2_ok, nmX2, rfl, by decide +kernel⟩
theorem f_X4_133 : FL RX4 133 2 10 := ⟨RX2, TX2, 12, rfl, by decide, tbin_X2, Or.inr ⟨"ChildCourt", tb_in 191 (by decide +kernel) rfl⟩⟩
theorem p_X4_133 : FP RX4 133 2 10 .int := ⟨RX2, TX2, 12, tyX2, rfl, by decide, tbin_X2, Or.inr ⟨"ChildCourt", tb_in 191 (by decide +kernel) rfl⟩, tyX2_ok, nmX2, rfl, by decide +kernel⟩
theorem f_X2_69 : FL RX2 69 2 11 := ⟨RX2, TX2, 12, rfl, by decide, tbin_X2, Or.inl (tb_in 192 (by decide +kernel) rfl)⟩
theorem p_X2_69 : FP RX2 69 2 11 .int := ⟨RX2, TX2, 12, tyX2, rfl, by decide, tbin_X2, Or.inl (tb_in 192 (by decide +kernel) rfl), tyX2_ok, nmX2, rfl, by decide +kernel⟩
theorem f_X4_130 : FL RX4 130 2 11 := ⟨RX2, TX2, 12, rfl, by decide, tbin_X2, Or.inr ⟨"ChildCourt", tb_in 193 (by decide +kernel) rfl⟩⟩
theorem p_X4_130 : FP RX4 130 2 11 .int := ⟨RX2, TX2, 12, tyX2, rfl, by decide, tbin_X2, Or.inr ⟨"ChildCourt", tb_in 193 (by decide +kernel) rfl⟩, tyX2_ok, nmX2, rfl, by decide +kernel⟩
theorem f_X1_9 : FL RX1 9 1 0 := ⟨RX1, TX1, 4, rfl, by decide, tbin_X1, Or.inl (tb_in 224 (by decide +kernel) rfl)⟩
theorem f_X3_15 : FL RX3 15 1 0 := ⟨RX1, TX1, 4, rfl, by decide, tbin_X1, Or.inr ⟨"ChildCourt", tb_in 225 (by decide +kernel) rfl⟩⟩
theorem f_X4_193 : FL RX4 193 1 0 := ⟨RX1, TX1, 4, rfl, by decide, tbin_X1, Or.inr ⟨"ChildCourt", tb_in 226 (by decide +kernel) rfl⟩⟩
theorem f_X1_21 : FL RX1 21 1 1 := ⟨RX1, TX1, 4, rfl, by decide, tbin_X1, Or.inl (tb_in 227 (by decide +kernel) rfl)⟩
theorem p_X1_21 : FP RX1 21 1 1 .boolean := ⟨RX1, TX1, 4, tyX1, rfl, by decide, tbin_X1, Or.inl (tb_in 227 (by decide +kernel) rfl), tyX1_ok, nmX1, rfl, by decide +kernel⟩
theorem f_X4_186 : FL RX4 186 1 1 := ⟨RX1, TX1, 4, rfl, by decide, tbin_X1, Or.inr ⟨"ChildCourt", tb_in 228 (by decide +kernel) rfl⟩⟩
theorem p_X4_186 : FP RX4 186 1 1 .boolean := ⟨RX1, TX1, 4, tyX1, rfl, by decide, tbin_X1, Or.inr ⟨"ChildCourt", tb_in 228 (by decide +kernel) rfl⟩, tyX1_ok, nmX1, rfl, by decide +kernel⟩
theorem f_X1_25 : FL RX1 25 1 2 := ⟨RX1, TX1, 4, rfl, by decide, tbin_X1, Or.inl (tb_in 229 (by decide +kernel) rfl)⟩
theorem p_X1_25 : FP RX1 25 1 2 .int := ⟨RX1, TX1, 4, tyX1, rfl, by decide, tbin_X1, Or.inl (tb_in 229 (by decide +kernel) rfl), tyX1_ok, nmX1, rfl, by decide +kernel⟩
theorem f_X4_202 : FL RX4 202 1 2 := ⟨RX1, TX1, 4, rfl, by decide, tbin_X1, Or.inr ⟨"ChildCourt", tb_in 230 (by decide +kernel) rfl⟩⟩
theorem p_X4_202 : FP RX4 202 1 2 .int := ⟨RX1, TX1, 4, tyX1, rfl, by decide, tbin_X1, Or.inr ⟨"ChildCourt", tb_in 230 (by decide +kernel) rfl⟩, tyX1_ok, nmX1, rfl, by decide +kernel⟩
theorem f_X1_29 : FL RX1 29 1 3 := ⟨RX1, TX1, 4, rfl, by decide, tbin_X1, Or.inl (tb_in 231 (by decide +kernel) rfl)⟩
theorem p_X1_29 : FP RX1 29 1 3 .int := ⟨RX1, TX1, 4, tyX1, rfl, by decide, tbin_X1, Or.inl (tb_in 231 (by decide +kernel) rfl), tyX1_ok, nmX1, rfl, by decide +kernel⟩
theorem f_X4_13 : FL RX4 13 4 0 := ⟨RX4, TX4, 7, rfl, by decide, tbin_X4, Or.inl (tb_in 241 (by decide +kernel) rfl)⟩
theorem f_X4_20 : FL RX4 20 4 1 := ⟨RX4, TX4, 7, rfl, by decide, tbin_X4, Or.inl (tb_in 242 (by decide +kernel) rfl)⟩
theorem f_X4_27 : FL RX4 27 4 2 := ⟨RX4, TX4, 7, rfl, by decide, tbin_X4, Or.inl (tb_in 243 (by decide +kernel) rfl)⟩
theorem f_X4_36 : FL RX4 36 4 3 := ⟨RX4, TX4, 7, rfl, by decide, tbin_X4, Or.inl (tb_in 244 (by decide +kernel) rfl)⟩
theorem f_X4_40 : FL RX4 40 4 4 := ⟨RX4, TX4, 7, rfl, by decide, tbin_X4, Or.inl (tb_in 245 (by decide +kernel) rfl)⟩
theorem f_X4_227 : FL RX4 227 4 5 := ⟨RX4, TX4, 7, rfl, by decide, tbin_X4, Or.inl (tb_in 246 (by decide +kernel) rfl)⟩
theorem p_X4_227 : FP RX4 227 4 5 .int := ⟨RX4, TX4, 7, tyX4, rfl, by decide, tbin_X4, Or.inl (tb_in 246 (by decide +kernel) rfl), tyX4_ok, nmX4, rfl, by decide +kernel⟩
theorem f_X4_45 : FL RX4 45 4 6 := ⟨RX4, TX4, 7, rfl, by decide, tbin_X4, Or.inl (tb_in 247 (by decide +kernel) rfl)⟩
theorem p_X4_45 : FP RX4 45 4 6 .int := ⟨RX4, TX4, 7, tyX4, rfl, by decide, tbin_X4, Or.inl (tb_in 247 (by decide +kernel) rfl), tyX4_ok, nmX4, rfl, by decide +kernel⟩
theorem f_X5_68 : FL RX5 68 5 0 := ⟨RX5, TX5, 33, rfl, by decide, tbin_X5, Or.inl (tb_in 621 (by decide +kernel) rfl)⟩
theorem p_X5_68 : FP RX5 68 5 0 .int := ⟨RX5, TX5, 33, tyX5, rfl, by decide, tbin_X5, Or.inl (tb_in 621 (by decide +kernel) rfl), tyX5_ok, nmX5, rfl, by decide +kernel⟩
theorem f_X5_234 : FL RX5 234 5 1 := ⟨RX5, TX5, 33, rfl, by decide, tbin_X5, Or.inl (tb_in 622 (by decide +kernel) rfl)⟩
theorem p_X5_234 : FP RX5 234 5 1 .int := ⟨RX5, TX5, 33, tyX5, rfl, by decide, tbin_X5, Or.inl (tb_in 622 (by decide +kernel) rfl), tyX5_ok, nmX5, rfl, by decide +kernel⟩
theorem f_X5_9 : FL RX5 9 5 2 := ⟨RX5, TX5, 33, rfl, by decide, tbin_X5, Or.inl (tb_in 623 (by decide +kernel) rfl)⟩
theorem f_X5_13 : FL RX5 13 5 3 := ⟨RX5, TX5, 33, rfl, by decide, tbin_X5, Or.inl (tb_in 624 (by decide +kernel) rfl)⟩
theorem f_X5_16 : FL RX5 16 5 4 := ⟨RX5, TX5, 33, rfl, by decide, tbin_X5, Or.inl (tb_in 625 (by decide +kernel) rfl)⟩
theorem f_X5_108 : FL RX5 108 5 5 := ⟨RX5, TX5, 33, rfl, by decide, tbin_X5, Or.inl (tb_in 626 (by decide +kernel) rfl)⟩
theorem p_X5_108 : FP RX5 108 5 5 .int := ⟨RX5, TX5, 33, tyX5, rfl, by decide, tbin_X5, Or.inl (tb_in 626 (by decide +kernel) rfl), tyX5_ok, nmX5, rfl, by decide +kernel⟩
theorem f_X5_78 : FL RX5 78 5 6 := ⟨RX5, TX5, 33, rfl, by decide, tbin_X5, Or.inl (tb_in 627 (by decide +kernel) rfl)⟩
theorem p_X5_78 : FP RX5 78 5 6 .int := ⟨RX5, TX5, 33, tyX5, rfl, by decide, tbin_X5, Or.inl (tb_in 627 (by decide +kernel) rfl), tyX5_ok, nmX5, rfl, by decide +kernel⟩
theorem f_X5_81 : FL RX5 81 5 7 := ⟨RX5, TX5, 33, rfl, by decide, tbin_X5, Or.inl (tb_in 628 (by decide +kernel) rfl)⟩
theorem p_X5_81 : FP RX5 81 5 7 .int := ⟨RX5, TX5, 33, tyX5, rfl, by decide, tbin_X5, Or.inl (tb_in 628 (by decide +kernel) rfl), tyX5_ok, nmX5, rfl, by decide +kernel⟩
theorem f_X5_117 : FL RX5 117 5 8 := ⟨RX5, TX5, 33, rfl, by decide, tbin_X5, Or.inl (tb_in 629 (by decide +kernel) rfl)⟩
theorem p_X5_117 : FP RX5 117 5 8 .int := ⟨RX5, TX5, 33, tyX5, rfl, by decide, tbin_X5, Or.inl (tb_in 629 (by decide +kernel) rfl), tyX5_ok, nmX5, rfl, by decide +kernel⟩
theorem f_X5_19 : FL RX5 19 5 9 := ⟨RX5, TX5, 33, rfl, by decide, tbin_X5, Or.inl (tb_in 630 (by decide +kernel) rfl)⟩
theorem f_X5_22 : FL RX5 22 5 10 := ⟨RX5, TX5, 33, rfl, by decide, tbin_X5, Or.inl (tb_in 631 (by decide +kernel) rfl)⟩
theorem f_X5_25 : FL RX5 25 5 11 := ⟨RX5, TX5, 33, rfl, by decide, tbin_X5, Or.inl (tb_in 632 (by decide +kernel) rfl)⟩
theorem f_X5_29 : FL RX5 29 5 12 := ⟨RX5, TX5, 33, rfl, by decide, tbin_X5, Or.inl (tb_in 633 (by decide +kernel) rfl)⟩
theorem f_X5_32 : FL RX5 32 5 13 := ⟨RX5, TX5, 33, rfl, by decide, tbin_X5, Or.inl (tb_in 634 (by decide +kernel) rfl)⟩
theorem f_X5_35 : FL RX5 35 5 14 := ⟨RX5, TX5, 33, rfl, by decide, tbin_X5, Or.inl (tb_in 635 (by decide +kernel) rfl)⟩
theorem f_X5_38 : FL RX5 38 5 15 := ⟨RX5, TX5, 33, rfl, by decide, tbin_X5, Or.inl (tb_in 636 (by decide +kernel) rfl)⟩
theorem f_X5_84 : FL RX5 84 5 16 := ⟨RX5, TX5, 33, rfl, by decide, tbin_X5, Or.inl (tb_in 637 (by decide +kernel) rfl)⟩
theorem p_X5_84 : FP RX5 84 5 16 .int := ⟨RX5, TX5, 33, tyX5, rfl, by decide, tbin_X5, Or.inl (tb_in 637 (by decide +kernel) rfl), tyX5_ok, nmX5, rfl, by decide +kernel⟩
theorem f_X5_105 : FL RX5 105 5 17 := ⟨RX5, TX5, 33, rfl, by decide, tbin_X5, Or.inl (tb_in 638 (by decide +kernel) rfl)⟩
theorem p_X5_105 : FP RX5 105 5 17 .int := ⟨RX5, TX5, 33, tyX5, rfl, by decide, tbin_X5, Or.inl (tb_in 638 (by decide +kernel) rfl), tyX5_ok, nmX5, rfl, by decide +kernel⟩
theorem f_X5_111 : FL RX5 111 5 18 := ⟨RX5, TX5, 33, rfl, by decide, tbin_X5, Or.inl (tb_in 639 (by decide +kernel) rfl)⟩
theorem p_X5_111 : FP RX5 111 5 18 .int := ⟨RX5, TX5, 33, tyX5, rfl, by decide, tbin_X5, Or.inl (tb_in 639 (by decide +kernel) rfl), tyX5_ok, nmX5, rfl, by decide +kernel⟩
theorem f_X5_114 : FL RX5 114 5 19 := ⟨RX5, TX5, 33, rfl, by decide, tbin_X5, Or.inl (tb_in 640 (by decide +kernel) rfl)⟩
theorem p_X5_114 : FP RX5 114 5 19 .int := ⟨RX5, TX5, 33, tyX5, rfl, by decide, tbin_X5, Or.inl (tb_in 640 (by decide +kernel) rfl), tyX5_ok, nmX5, rfl, by decide +kernel⟩
theorem f_X5_41 : FL RX5 41 5 20 := ⟨RX5, TX5, 33, rfl, by decide, tbin_X5, Or.inl (tb_in 641 (by decide +kernel) rfl)⟩
theorem f_X5_44 : FL RX5 44 5 21 := ⟨RX5, TX5, 33, rfl, by decide, tbin_X5, Or.inl (tb_in 642 (by decide +kernel) rfl)⟩
theorem f_X5_146 : FL RX5 146 5 22 := ⟨RX5, TX5, 33, rfl, by decide, tbin_X5, Or.inl (tb_in 643 (by decide +kernel) rfl)⟩
theorem p_X5_146 : FP RX5 146 5 22 .int := ⟨RX5, TX5, 33, tyX5, rfl, by decide, tbin_X5, Or.inl (tb_in 643 (by decide +kernel) rfl), tyX5_ok, nmX5, rfl, by decide +kernel⟩
theorem f_X5_149 : FL RX5 149 5 23 := ⟨RX5, TX5, 33, rfl, by decide, tbin_X5, Or.inl (tb_in 644 (by decide +kernel) rfl)⟩
theorem p_X5_149 : FP RX5 149 5 23 .boolean := ⟨RX5, TX5, 33, tyX5, rfl, by decide, tbin_X5, Or.inl (tb_in 644 (by decide +kernel) rfl), tyX5_ok, nmX5, rfl, by decide +kernel⟩
theorem f_X5_47 : FL RX5 47 5 24 := ⟨RX5, TX5, 33, rfl, by decide, tbin_X5, Or.inl (tb_in 645 (by decide +kernel) rfl)⟩
theorem f_X5_50 : FL RX5 50 5 25 := ⟨RX5, TX5, 33, rfl, by decide, tbin_X5, Or.inl (tb_in 646 (by decide +kernel) rfl)⟩
theorem f_X5_53 : FL RX5 53 5 26 := ⟨RX5, TX5, 33, rfl, by decide, tbin_X5, Or.inl (tb_in 647 (by decide +kernel) rfl)⟩
theorem f_X5_166 : FL RX5 166 5 27 := ⟨RX5, TX5, 33, rfl, by decide, tbin_X5, Or.inl (tb_in 648 (by decide +kernel) rfl)⟩
theorem p_X5_166 : FP RX5 166 5 27 .int := ⟨RX5, TX5, 33, tyX5, rfl, by decide, tbin_X5, Or.inl (tb_in 648 (by decide +kernel) rfl), tyX5_ok, nmX5, rfl, by decide +kernel⟩
theorem f_X5_56 : FL RX5 56 5 28 := ⟨RX5, TX5, 33, rfl, by decide, tbin_X5, Or.inl (tb_in 649 (by decide +kernel) rfl)⟩
theorem f_X5_59 : FL RX5 59 5 29 := ⟨RX5, TX5, 33, rfl, by decide, tbin_X5, Or.inl (tb_in 650 (by decide +kernel) rfl)⟩
theorem f_X5_120 : FL RX5 120 5 30 := ⟨RX5, TX5, 33, rfl, by decide, tbin_X5, Or.inl (tb_in 651 (by decide +kernel) rfl)⟩
theorem p_X5_120 : FP RX5 120 5 30 .int := ⟨RX5, TX5, 33, tyX5, rfl, by decide, tbin_X5, Or.inl (tb_in 651 (by decide +kernel) rfl), tyX5_ok, nmX5, rfl, by decide +kernel⟩
theorem f_X5_62 : FL RX5 62 5 31 := ⟨RX5, TX5, 33, rfl, by decide, tbin_X5, Or.inl (tb_in 652 (by decide +kernel) rfl)⟩
theorem f_X5_65 : FL RX5 65 5 32 := ⟨RX5, TX5, 33, rfl, by decide, tbin_X5, Or.inl (tb_in 653 (by decide +kernel) rfl)⟩
set_option maxRecDepth 100000 in
theorem l_L_13 : LkV RL 13 RX4 yX4_court cX4_court 8 (some .int) 4 := ⟨Or.inl (tb_in 263 (by decide +kernel) rfl), tb_in 264 (by decide +kernel) rfl, tb_in 265 (by decide +kernel) rfl, tb_in 58 (by decide +kernel) rfl, tb_in 266 rfl rfl, by decide +kernel, by decide +kernel, by decide +kernel⟩
set_option maxRecDepth 100000 in
theorem l_X4_49 : LkS RX4 49 yX4_isSheet cX4_isSheet 1 (some .boolean) 1 := ⟨Or.inl (tb_in 267 (by decide +kernel) rfl), tb_in 268 (by decide +kernel) rfl, tb_in 58 (by decide +kernel) rfl, tb_in 269 rfl rfl, by decide +kernel, by decide +kernel, by decide +kernel⟩
set_option maxRecDepth 100000 in
theorem l_X4_53 : LkS RX4 53 yX4_isLane cX4_isLane 1 (some .boolean) 1 := ⟨Or.inl (tb_in 270 (by decide +kernel) rfl), tb_in 271 (by decide +kernel) rfl, tb_in 58 (by decide +kernel) rfl, tb_in 272 rfl rfl, by decide +kernel, by decide +kernel, by decide +kernel⟩
set_option maxRecDepth 100000 in
theorem l_X4_56 : LkV RX4 56 RX1 yX1_faultOfCells cX1_faultOfCells 5 (some .int) 3 := ⟨Or.inl (tb_in 273 (by decide +kernel) rfl), tb_in 274 (by decide +kernel) rfl, tb_in 275 (by decide +kernel) rfl, tb_in 62 (by decide +kernel) rfl, tb_in 276 rfl rfl, by decide +kernel, by decide +kernel, by decide +kernel⟩
set_option maxRecDepth 100000 in
theorem l_X1_32 : LkV RX1 32 RX1 yX1_faultOfLane cX1_faultOfLane 2 (some .int) 1 := ⟨Or.inl (tb_in 277 (by decide +kernel) rfl), tb_in 278 (by decide +kernel) rfl, tb_in 279 (by decide +kernel) rfl, tb_in 62 (by decide +kernel) rfl, tb_in 280 rfl rfl, by decide +kernel, by decide +kernel, by decide +kernel⟩
set_option maxRecDepth 100000 in
theorem l_X1_36 : LkV RX1 36 RX1 yX1_hasCells cX1_hasCells 3 (some .boolean) 2 := ⟨Or.inl (tb_in 281 (by decide +kernel) rfl), tb_in 282 (by decide +kernel) rfl, tb_in 283 (by decide +kernel) rfl, tb_in 62 (by decide +kernel) rfl, tb_in 284 rfl rfl, by decide +kernel, by decide +kernel, by decide +kernel⟩
set_option maxRecDepth 100000 in
theorem l_X4_60 : LkV RX4 60 RX4 yX4_faulty cX4_faulty 2 (some .int) 1 := ⟨Or.inl (tb_in 285 (by decide +kernel) rfl), tb_in 287 (by decide +kernel) rfl, tb_in 0 (by decide +kernel) rfl, tb_in 58 (by decide +kernel) rfl, tb_in 288 rfl rfl, by decide +kernel, by decide +kernel, by decide +kernel⟩
set_option maxRecDepth 100000 in
theorem l_X4_64 : LkV RX4 64 RX3 yX3_firstFault cX3_firstFault 5 (some .int) 3 := ⟨Or.inl (tb_in 289 (by decide +kernel) rfl), tb_in 290 (by decide +kernel) rfl, tb_in 291 (by decide +kernel) rfl, tb_in 59 (by decide +kernel) rfl, tb_in 292 rfl rfl, by decide +kernel, by decide +kernel, by decide +kernel⟩
set_option maxRecDepth 100000 in
theorem l_X3_33 : LkV RX3 33 RX3 yX3_goesOn cX3_goesOn 2 (some .boolean) 1 := ⟨Or.inl (tb_in 296 (by decide +kernel) rfl), tb_in 298 (by decide +kernel) rfl, tb_in 1 (by decide +kernel) rfl, tb_in 59 (by decide +kernel) rfl, tb_in 299 rfl rfl, by decide +kernel, by decide +kernel, by decide +kernel⟩
set_option maxRecDepth 100000 in
theorem l_X3_41 : LkV RX3 41 RX3 yX3_goesOnInMinutes cX3_goesOnInMinutes 2 (some .boolean) 1 := ⟨Or.inl (tb_in 300 (by decide +kernel) rfl), tb_in 302 (by decide +kernel) rfl, tb_in 2 (by decide +kernel) rfl, tb_in 59 (by decide +kernel) rfl, tb_in 303 rfl rfl, by decide +kernel, by decide +kernel, by decide +kernel⟩
set_option maxRecDepth 100000 in
theorem l_X3_50 : LkV RX3 50 RX3 yX3_isDigit cX3_isDigit 4 (some .boolean) 3 := ⟨Or.inl (tb_in 304 (by decide +kernel) rfl), tb_in 306 (by decide +kernel) rfl, tb_in 3 (by decide +kernel) rfl, tb_in 59 (by decide +kernel) rfl, tb_in 307 rfl rfl, by decide +kernel, by decide +kernel, by decide +kernel⟩
set_option maxRecDepth 100000 in
theorem l_X3_54 : LkV RX3 54 RX3 yX3_toldMinutes cX3_toldMinutes 1 (some .int) 0 := ⟨Or.inl (tb_in 308 (by decide +kernel) rfl), tb_in 309 (by decide +kernel) rfl, tb_in 310 (by decide +kernel) rfl, tb_in 59 (by decide +kernel) rfl, tb_in 311 rfl rfl, by decide +kernel, by decide +kernel, by decide +kernel⟩
set_option maxRecDepth 100000 in
theorem l_X3_62 : LkV RX3 62 RX3 yX3_digit cX3_digit 2 (some .int) 1 := ⟨Or.inl (tb_in 312 (by decide +kernel) rfl), tb_in 314 (by decide +kernel) rfl, tb_in 4 (by decide +kernel) rfl, tb_in 59 (by decide +kernel) rfl, tb_in 315 rfl rfl, by decide +kernel, by decide +kernel, by decide +kernel⟩
set_option maxRecDepth 100000 in
theorem l_X3_44 : LkV RX3 44 RX3 yX3_goesOnInJurors cX3_goesOnInJurors 3 (some .boolean) 1 := ⟨Or.inl (tb_in 316 (by decide +kernel) rfl), tb_in 318 (by decide +kernel) rfl, tb_in 5 (by decide +kernel) rfl, tb_in 59 (by decide +kernel) rfl, tb_in 319 rfl rfl, by decide +kernel, by decide +kernel, by decide +kernel⟩
set_option maxRecDepth 100000 in
theorem l_X3_58 : LkV RX3 58 RX3 yX3_kindAt cX3_kindAt 2 (some .int) 1 := ⟨Or.inl (tb_in 320 (by decide +kernel) rfl), tb_in 322 (by decide +kernel) rfl, tb_in 6 (by decide +kernel) rfl, tb_in 59 (by decide +kernel) rfl, tb_in 323 rfl rfl, by decide +kernel, by decide +kernel, by decide +kernel⟩
set_option maxRecDepth 100000 in
theorem l_X3_47 : LkV RX3 47 RX3 yX3_goesOnInCases cX3_goesOnInCases 3 (some .boolean) 1 := ⟨Or.inl (tb_in 324 (by decide +kernel) rfl), tb_in 326 (by decide +kernel) rfl, tb_in 7 (by decide +kernel) rfl, tb_in 59 (by decide +kernel) rfl, tb_in 327 rfl rfl, by decide +kernel, by decide +kernel, by decide +kernel⟩
set_option maxRecDepth 100000 in
theorem l_X3_37 : LkV RX3 37 RX3 yX3_isWhole cX3_isWhole 1 (some .boolean) 0 := ⟨Or.inl (tb_in 328 (by decide +kernel) rfl), tb_in 330 (by decide +kernel) rfl, tb_in 8 (by decide +kernel) rfl, tb_in 59 (by decide +kernel) rfl, tb_in 331 rfl rfl, by decide +kernel, by decide +kernel, by decide +kernel⟩
set_option maxRecDepth 100000 in
theorem l_X4_68 : LkV RX4 68 RX0 yX0_makeAnew cX0_makeAnew 3 none 1 := ⟨Or.inl (tb_in 332 (by decide +kernel) rfl), tb_in 333 (by decide +kernel) rfl, tb_in 334 (by decide +kernel) rfl, tb_in 60 (by decide +kernel) rfl, tb_in 335 rfl rfl, by decide +kernel, by decide +kernel, by decide +kernel⟩
set_option maxRecDepth 100000 in
theorem l_X0_40 : LkV RX0 40 RX3 yX3_toldMinutes cX3_toldMinutes 1 (some .int) 0 := ⟨Or.inl (tb_in 336 (by decide +kernel) rfl), tb_in 309 (by decide +kernel) rfl, tb_in 310 (by decide +kernel) rfl, tb_in 59 (by decide +kernel) rfl, tb_in 311 rfl rfl, by decide +kernel, by decide +kernel, by decide +kernel⟩
set_option maxRecDepth 100000 in
theorem l_X0_49 : LkV RX0 49 RX3 yX3_toldJurors cX3_toldJurors 1 (some .int) 0 := ⟨Or.inl (tb_in 337 (by decide +kernel) rfl), tb_in 338 (by decide +kernel) rfl, tb_in 339 (by decide +kernel) rfl, tb_in 59 (by decide +kernel) rfl, tb_in 340 rfl rfl, by decide +kernel, by decide +kernel, by decide +kernel⟩
set_option maxRecDepth 100000 in
theorem l_X0_52 : LkV RX0 52 RX3 yX3_toldKind cX3_toldKind 2 (some .int) 1 := ⟨Or.inl (tb_in 341 (by decide +kernel) rfl), tb_in 342 (by decide +kernel) rfl, tb_in 343 (by decide +kernel) rfl, tb_in 59 (by decide +kernel) rfl, tb_in 344 rfl rfl, by decide +kernel, by decide +kernel, by decide +kernel⟩
set_option maxRecDepth 100000 in
theorem l_X0_56 : LkV RX0 56 RX3 yX3_toldAge cX3_toldAge 2 (some .int) 1 := ⟨Or.inl (tb_in 345 (by decide +kernel) rfl), tb_in 346 (by decide +kernel) rfl, tb_in 347 (by decide +kernel) rfl, tb_in 59 (by decide +kernel) rfl, tb_in 348 rfl rfl, by decide +kernel, by decide +kernel, by decide +kernel⟩
set_option maxRecDepth 100000 in
theorem l_X0_59 : LkV RX0 59 RX3 yX3_toldCases cX3_toldCases 1 (some .int) 0 := ⟨Or.inl (tb_in 349 (by decide +kernel) rfl), tb_in 350 (by decide +kernel) rfl, tb_in 351 (by decide +kernel) rfl, tb_in 59 (by decide +kernel) rfl, tb_in 352 rfl rfl, by decide +kernel, by decide +kernel, by decide +kernel⟩
set_option maxRecDepth 100000 in
theorem l_X0_62 : LkV RX0 62 RX3 yX3_toldOfCase cX3_toldOfCase 3 (some .int) 2 := ⟨Or.inl (tb_in 353 (by decide +kernel) rfl), tb_in 354 (by decide +kernel) rfl, tb_in 355 (by decide +kernel) rfl, tb_in 59 (by decide +kernel) rfl, tb_in 356 rfl rfl, by decide +kernel, by decide +kernel, by decide +kernel⟩
set_option maxRecDepth 100000 in
theorem l_L_18 : LkV RL 18 RX4 yX4_ofJuror cX4_ofJuror 3 (some .int) 2 := ⟨Or.inl (tb_in 357 (by decide +kernel) rfl), tb_in 358 (by decide +kernel) rfl, tb_in 359 (by decide +kernel) rfl, tb_in 58 (by decide +kernel) rfl, tb_in 360 rfl rfl, by decide +kernel, by decide +kernel, by decide +kernel⟩
set_option maxRecDepth 100000 in
theorem l_X4_75 : LkV RX4 75 RX0 yX0_isJuror cX0_isJuror 2 (some .boolean) 1 := ⟨Or.inl (tb_in 361 (by decide +kernel) rfl), tb_in 362 (by decide +kernel) rfl, tb_in 363 (by decide +kernel) rfl, tb_in 60 (by decide +kernel) rfl, tb_in 364 rfl rfl, by decide +kernel, by decide +kernel, by decide +kernel⟩
set_option maxRecDepth 100000 in
theorem l_X4_87 : LkS RX4 87 yX4_bitOf cX4_bitOf 2 (some .int) 2 := ⟨Or.inl (tb_in 365 (by decide +kernel) rfl), tb_in 366 (by decide +kernel) rfl, tb_in 58 (by decide +kernel) rfl, tb_in 367 rfl rfl, by decide +kernel, by decide +kernel, by decide +kernel⟩
set_option maxRecDepth 100000 in
theorem l_L_23 : LkV RL 23 RX4 yX4_ofCase cX4_ofCase 3 (some .int) 2 := ⟨Or.inl (tb_in 368 (by decide +kernel) rfl), tb_in 369 (by decide +kernel) rfl, tb_in 370 (by decide +kernel) rfl, tb_in 58 (by decide +kernel) rfl, tb_in 371 rfl rfl, by decide +kernel, by decide +kernel, by decide +kernel⟩
set_option maxRecDepth 100000 in
theorem l_X4_94 : LkV RX4 94 RX0 yX0_isCase cX0_isCase 2 (some .boolean) 1 := ⟨Or.inl (tb_in 372 (by decide +kernel) rfl), tb_in 373 (by decide +kernel) rfl, tb_in 374 (by decide +kernel) rfl, tb_in 60 (by decide +kernel) rfl, tb_in 375 rfl rfl, by decide +kernel, by decide +kernel, by decide +kernel⟩
set_option maxRecDepth 100000 in
theorem l_L_27 : LkV RL 27 RX4 yX4_chalk cX4_chalk 3 (some .int) 1 := ⟨Or.inl (tb_in 376 (by decide +kernel) rfl), tb_in 377 (by decide +kernel) rfl, tb_in 378 (by decide +kernel) rfl, tb_in 58 (by decide +kernel) rfl, tb_in 379 rfl rfl, by decide +kernel, by decide +kernel, by decide +kernel⟩
set_option maxRecDepth 100000 in
theorem l_X4_106 : LkV RX4 106 RX0 yX0_stands cX0_stands 1 (some .boolean) 0 := ⟨Or.inl (tb_in 380 (by decide +kernel) rfl), tb_in 381 (by decide +kernel) rfl, tb_in 382 (by decide +kernel) rfl, tb_in 60 (by decide +kernel) rfl, tb_in 383 rfl rfl, by decide +kernel, by decide +kernel, by decide +kernel⟩
set_option maxRecDepth 100000 in
theorem l_L_32 : LkV RL 32 RX4 yX4_treat cX4_treat 4 (some .int) 2 := ⟨Or.inl (tb_in 384 (by decide +kernel) rfl), tb_in 385 (by decide +kernel) rfl, tb_in 386 (by decide +kernel) rfl, tb_in 58 (by decide +kernel) rfl, tb_in 387 rfl rfl, by decide +kernel, by decide +kernel, by decide +kernel⟩
set_option maxRecDepth 100000 in
theorem l_X4_113 : LkS RX4 113 yX4_withBit cX4_withBit 3 (some .int) 3 := ⟨Or.inl (tb_in 388 (by decide +kernel) rfl), tb_in 389 (by decide +kernel) rfl, tb_in 58 (by decide +kernel) rfl, tb_in 390 rfl rfl, by decide +kernel, by decide +kernel, by decide +kernel⟩
set_option maxRecDepth 100000 in
theorem l_L_37 : LkV RL 37 RX4 yX4_strike cX4_strike 4 (some .int) 2 := ⟨Or.inl (tb_in 391 (by decide +kernel) rfl), tb_in 392 (by decide +kernel) rfl, tb_in 393 (by decide +kernel) rfl, tb_in 58 (by decide +kernel) rfl, tb_in 394 rfl rfl, by decide +kernel, by decide +kernel, by decide +kernel⟩
set_option maxRecDepth 100000 in
theorem l_L_41 : LkV RL 41 RX4 yX4_minutes cX4_minutes 3 (some .int) 1 := ⟨Or.inl (tb_in 395 (by decide +kernel) rfl), tb_in 396 (by decide +kernel) rfl, tb_in 397 (by decide +kernel) rfl, tb_in 58 (by decide +kernel) rfl, tb_in 398 rfl rfl, by decide +kernel, by decide +kernel, by decide +kernel⟩
set_option maxRecDepth 100000 in
theorem l_L_45 : LkV RL 45 RX4 yX4_sitting cX4_sitting 8 (some .int) 5 := ⟨Or.inl (tb_in 399 (by decide +kernel) rfl), tb_in 400 (by decide +kernel) rfl, tb_in 401 (by decide +kernel) rfl, tb_in 58 (by decide +kernel) rfl, tb_in 402 rfl rfl, by decide +kernel, by decide +kernel, by decide +kernel⟩
set_option maxRecDepth 100000 in
theorem l_X4_120 : LkV RX4 120 RX4 yX4_takeOrder cX4_takeOrder 9 (some .int) 4 := ⟨Or.inl (tb_in 403 (by decide +kernel) rfl), tb_in 405 (by decide +kernel) rfl, tb_in 9 (by decide +kernel) rfl, tb_in 58 (by decide +kernel) rfl, tb_in 406 rfl rfl, by decide +kernel, by decide +kernel, by decide +kernel⟩
set_option maxRecDepth 100000 in
theorem l_X4_136 : LkV RX4 136 RX2 yX2_prepare cX2_prepare 1 none 0 := ⟨Or.inl (tb_in 407 (by decide +kernel) rfl), tb_in 408 (by decide +kernel) rfl, tb_in 409 (by decide +kernel) rfl, tb_in 61 (by decide +kernel) rfl, tb_in 410 rfl rfl, by decide +kernel, by decide +kernel, by decide +kernel⟩
set_option maxRecDepth 100000 in
theorem l_X4_235 : LkV RX4 235 RX2 yX2_addToOrder cX2_addToOrder 2 none 1 := ⟨Or.inl (tb_in 412 (by decide +kernel) rfl), tb_in 413 (by decide +kernel) rfl, tb_in 414 (by decide +kernel) rfl, tb_in 61 (by decide +kernel) rfl, tb_in 415 rfl rfl, by decide +kernel, by decide +kernel, by decide +kernel⟩
set_option maxRecDepth 100000 in
theorem l_X4_124 : LkV RX4 124 RX2 yX2_hold cX2_hold 6 none 0 := ⟨Or.inl (tb_in 416 (by decide +kernel) rfl), tb_in 417 (by decide +kernel) rfl, tb_in 418 (by decide +kernel) rfl, tb_in 61 (by decide +kernel) rfl, tb_in 419 rfl rfl, by decide +kernel, by decide +kernel, by decide +kernel⟩
set_option maxRecDepth 100000 in
theorem l_X2_60 : LkS RX2 60 yJ7_fill_53178 cJ7_fill_53178 4 none 2 := ⟨Or.inl (tb_in 420 (by decide +kernel) rfl), tb_in 421 (by decide +kernel) rfl, tb_in 65 (by decide +kernel) rfl, tb_in 422 rfl rfl, by decide +kernel, by decide +kernel, by decide +kernel⟩
set_option maxRecDepth 100000 in
theorem l_X2_81 : LkV RX2 81 RX2 yX2_judge cX2_judge 5 none 2 := ⟨Or.inl (tb_in 423 (by decide +kernel) rfl), tb_in 425 (by decide +kernel) rfl, tb_in 10 (by decide +kernel) rfl, tb_in 61 (by decide +kernel) rfl, tb_in 426 rfl rfl, by decide +kernel, by decide +kernel, by decide +kernel⟩
set_option maxRecDepth 100000 in
theorem l_X2_85 : LkV RX2 85 RX2 yX2_guiltyVotes cX2_guiltyVotes 7 (some .int) 2 := ⟨Or.inl (tb_in 427 (by decide +kernel) rfl), tb_in 428 (by decide +kernel) rfl, tb_in 429 (by decide +kernel) rfl, tb_in 61 (by decide +kernel) rfl, tb_in 430 rfl rfl, by decide +kernel, by decide +kernel, by decide +kernel⟩
set_option maxRecDepth 100000 in
theorem l_X2_105 : LkS RX2 105 yX4_bitOf cX4_bitOf 2 (some .int) 2 := ⟨Or.inr ⟨"ChildCourt", tb_in 431 (by decide +kernel) rfl⟩, tb_in 366 (by decide +kernel) rfl, tb_in 58 (by decide +kernel) rfl, tb_in 367 rfl rfl, by decide +kernel, by decide +kernel, by decide +kernel⟩
set_option maxRecDepth 100000 in
theorem l_X2_95 : LkV RX2 95 RX2 yX2_voters cX2_voters 2 (some .int) 0 := ⟨Or.inl (tb_in 432 (by decide +kernel) rfl), tb_in 434 (by decide +kernel) rfl, tb_in 11 (by decide +kernel) rfl, tb_in 61 (by decide +kernel) rfl, tb_in 435 rfl rfl, by decide +kernel, by decide +kernel, by decide +kernel⟩
set_option maxRecDepth 100000 in
theorem l_X2_108 : LkV RX2 108 RX2 yX2_votesGuilty cX2_votesGuilty 4 (some .boolean) 3 := ⟨Or.inl (tb_in 436 (by decide +kernel) rfl), tb_in 438 (by decide +kernel) rfl, tb_in 12 (by decide +kernel) rfl, tb_in 61 (by decide +kernel) rfl, tb_in 439 rfl rfl, by decide +kernel, by decide +kernel, by decide +kernel⟩
set_option maxRecDepth 100000 in
theorem l_X2_89 : LkS RX2 89 yJ6_bitCount_0f7a4 cJ6_bitCount_0f7a4 1 (some .int) 1 := ⟨Or.inl (tb_in 440 (by decide +kernel) rfl), tb_in 441 (by decide +kernel) rfl, tb_in 66 (by decide +kernel) rfl, tb_in 442 rfl rfl, by decide +kernel, by decide +kernel, by decide +kernel⟩
set_option maxRecDepth 100000 in
theorem l_L_50 : LkV RL 50 RX4 yX4_votes cX4_votes 3 (some .int) 2 := ⟨Or.inl (tb_in 446 (by decide +kernel) rfl), tb_in 447 (by decide +kernel) rfl, tb_in 448 (by decide +kernel) rfl, tb_in 58 (by decide +kernel) rfl, tb_in 449 rfl rfl, by decide +kernel, by decide +kernel, by decide +kernel⟩
set_option maxRecDepth 100000 in
theorem l_X4_139 : LkV RX4 139 RX2 yX2_guiltyVotes cX2_guiltyVotes 7 (some .int) 2 := ⟨Or.inl (tb_in 450 (by decide +kernel) rfl), tb_in 428 (by decide +kernel) rfl, tb_in 429 (by decide +kernel) rfl, tb_in 61 (by decide +kernel) rfl, tb_in 430 rfl rfl, by decide +kernel, by decide +kernel, by decide +kernel⟩
set_option maxRecDepth 100000 in
theorem l_L_54 : LkV RL 54 RX4 yX4_most cX4_most 2 (some .int) 1 := ⟨Or.inl (tb_in 451 (by decide +kernel) rfl), tb_in 452 (by decide +kernel) rfl, tb_in 453 (by decide +kernel) rfl, tb_in 58 (by decide +kernel) rfl, tb_in 454 rfl rfl, by decide +kernel, by decide +kernel, by decide +kernel⟩
set_option maxRecDepth 100000 in
theorem l_X4_142 : LkV RX4 142 RX4 yX4_byOrderOfHighest cX4_byOrderOfHighest 4 (some .int) 2 := ⟨Or.inl (tb_in 455 (by decide +kernel) rfl), tb_in 457 (by decide +kernel) rfl, tb_in 13 (by decide +kernel) rfl, tb_in 58 (by decide +kernel) rfl, tb_in 458 rfl rfl, by decide +kernel, by decide +kernel, by decide +kernel⟩
set_option maxRecDepth 100000 in
theorem l_X4_238 : LkV RX4 238 RX4 yX4_findOrderOfHighest cX4_findOrderOfHighest 5 (some .int) 1 := ⟨Or.inl (tb_in 459 (by decide +kernel) rfl), tb_in 461 (by decide +kernel) rfl, tb_in 14 (by decide +kernel) rfl, tb_in 58 (by decide +kernel) rfl, tb_in 462 rfl rfl, by decide +kernel, by decide +kernel, by decide +kernel⟩
set_option maxRecDepth 100000 in
theorem l_X4_148 : LkV RX4 148 RX4 yX4_prepareByNumbers cX4_prepareByNumbers 2 none 0 := ⟨Or.inl (tb_in 463 (by decide +kernel) rfl), tb_in 465 (by decide +kernel) rfl, tb_in 15 (by decide +kernel) rfl, tb_in 58 (by decide +kernel) rfl, tb_in 466 rfl rfl, by decide +kernel, by decide +kernel, by decide +kernel⟩
set_option maxRecDepth 100000 in
theorem l_X4_244 : LkV RX4 244 RX2 yX2_goToNextOrder cX2_goToNextOrder 5 (some .boolean) 0 := ⟨Or.inl (tb_in 468 (by decide +kernel) rfl), tb_in 469 (by decide +kernel) rfl, tb_in 470 (by decide +kernel) rfl, tb_in 61 (by decide +kernel) rfl, tb_in 471 rfl rfl, by decide +kernel, by decide +kernel, by decide +kernel⟩
set_option maxRecDepth 100000 in
theorem l_X2_56 : LkV RX2 56 RX2 yX2_swapInOrder cX2_swapInOrder 4 none 2 := ⟨Or.inl (tb_in 472 (by decide +kernel) rfl), tb_in 474 (by decide +kernel) rfl, tb_in 16 (by decide +kernel) rfl, tb_in 61 (by decide +kernel) rfl, tb_in 475 rfl rfl, by decide +kernel, by decide +kernel, by decide +kernel⟩
set_option maxRecDepth 100000 in
theorem l_L_58 : LkV RL 58 RX4 yX4_delay cX4_delay 2 (some .int) 1 := ⟨Or.inl (tb_in 476 (by decide +kernel) rfl), tb_in 477 (by decide +kernel) rfl, tb_in 478 (by decide +kernel) rfl, tb_in 58 (by decide +kernel) rfl, tb_in 479 rfl rfl, by decide +kernel, by decide +kernel, by decide +kernel⟩
set_option maxRecDepth 100000 in
theorem l_L_62 : LkV RL 62 RX4 yX4_bribe cX4_bribe 7 (some .int) 5 := ⟨Or.inl (tb_in 480 (by decide +kernel) rfl), tb_in 481 (by decide +kernel) rfl, tb_in 482 (by decide +kernel) rfl, tb_in 58 (by decide +kernel) rfl, tb_in 483 rfl rfl, by decide +kernel, by decide +kernel, by decide +kernel⟩
set_option maxRecDepth 100000 in
theorem l_X4_145 : LkV RX4 145 RX4 yX4_fewestSweets cX4_fewestSweets 5 (some .int) 1 := ⟨Or.inl (tb_in 484 (by decide +kernel) rfl), tb_in 486 (by decide +kernel) rfl, tb_in 17 (by decide +kernel) rfl, tb_in 58 (by decide +kernel) rfl, tb_in 487 rfl rfl, by decide +kernel, by decide +kernel, by decide +kernel⟩
set_option maxRecDepth 100000 in
theorem l_X4_173 : LkS RX4 173 yX4_hasFewer cX4_hasFewer 2 (some .boolean) 2 := ⟨Or.inl (tb_in 488 (by decide +kernel) rfl), tb_in 489 (by decide +kernel) rfl, tb_in 58 (by decide +kernel) rfl, tb_in 490 rfl rfl, by decide +kernel, by decide +kernel, by decide +kernel⟩
set_option maxRecDepth 100000 in
theorem l_X4_230 : LkS RX4 230 yJ6_bitCount_0f7a4 cJ6_bitCount_0f7a4 1 (some .int) 1 := ⟨Or.inl (tb_in 491 (by decide +kernel) rfl), tb_in 441 (by decide +kernel) rfl, tb_in 66 (by decide +kernel) rfl, tb_in 442 rfl rfl, by decide +kernel, by decide +kernel, by decide +kernel⟩
set_option maxRecDepth 100000 in
theorem l_L_66 : LkV RL 66 RX4 yX4_strikes cX4_strikes 6 (some .int) 1 := ⟨Or.inl (tb_in 492 (by decide +kernel) rfl), tb_in 493 (by decide +kernel) rfl, tb_in 494 (by decide +kernel) rfl, tb_in 58 (by decide +kernel) rfl, tb_in 495 rfl rfl, by decide +kernel, by decide +kernel, by decide +kernel⟩
set_option maxRecDepth 100000 in
theorem l_X4_154 : LkV RX4 154 RX4 yX4_mostByCourtsStrike cX4_mostByCourtsStrike 4 (some .int) 1 := ⟨Or.inl (tb_in 496 (by decide +kernel) rfl), tb_in 498 (by decide +kernel) rfl, tb_in 18 (by decide +kernel) rfl, tb_in 58 (by decide +kernel) rfl, tb_in 499 rfl rfl, by decide +kernel, by decide +kernel, by decide +kernel⟩
set_option maxRecDepth 100000 in
theorem l_X4_157 : LkV RX4 157 RX4 yX4_sentencedIfStruck cX4_sentencedIfStruck 2 (some .int) 1 := ⟨Or.inl (tb_in 500 (by decide +kernel) rfl), tb_in 502 (by decide +kernel) rfl, tb_in 19 (by decide +kernel) rfl, tb_in 58 (by decide +kernel) rfl, tb_in 503 rfl rfl, by decide +kernel, by decide +kernel, by decide +kernel⟩
set_option maxRecDepth 100000 in
theorem l_X4_247 : LkS RX4 247 yJ9_max_7cf53 cJ9_max_7cf53 2 (some .int) 2 := ⟨Or.inl (tb_in 504 (by decide +kernel) rfl), tb_in 505 (by decide +kernel) rfl, tb_in 67 (by decide +kernel) rfl, tb_in 506 rfl rfl, by decide +kernel, by decide +kernel, by decide +kernel⟩
set_option maxRecDepth 100000 in
theorem l_L_70 : LkV RL 70 RX4 yX4_worth cX4_worth 4 (some .int) 1 := ⟨Or.inl (tb_in 507 (by decide +kernel) rfl), tb_in 508 (by decide +kernel) rfl, tb_in 509 (by decide +kernel) rfl, tb_in 58 (by decide +kernel) rfl, tb_in 510 rfl rfl, by decide +kernel, by decide +kernel, by decide +kernel⟩
set_option maxRecDepth 100000 in
theorem l_L_74 : LkV RL 74 RX4 yX4_reading cX4_reading 4 (some .int) 2 := ⟨Or.inl (tb_in 511 (by decide +kernel) rfl), tb_in 512 (by decide +kernel) rfl, tb_in 513 (by decide +kernel) rfl, tb_in 58 (by decide +kernel) rfl, tb_in 514 rfl rfl, by decide +kernel, by decide +kernel, by decide +kernel⟩
set_option maxRecDepth 100000 in
theorem l_L_78 : LkV RL 78 RX4 yX4_back cX4_back 2 (some .int) 1 := ⟨Or.inl (tb_in 515 (by decide +kernel) rfl), tb_in 516 (by decide +kernel) rfl, tb_in 517 (by decide +kernel) rfl, tb_in 58 (by decide +kernel) rfl, tb_in 518 rfl rfl, by decide +kernel, by decide +kernel, by decide +kernel⟩
set_option maxRecDepth 100000 in
theorem l_L_82 : LkV RL 82 RX4 yX4_codes cX4_codes 6 (some .int) 1 := ⟨Or.inl (tb_in 519 (by decide +kernel) rfl), tb_in 520 (by decide +kernel) rfl, tb_in 521 (by decide +kernel) rfl, tb_in 58 (by decide +kernel) rfl, tb_in 522 rfl rfl, by decide +kernel, by decide +kernel, by decide +kernel⟩
set_option maxRecDepth 100000 in
theorem l_X4_170 : LkV RX4 170 RX4 yX4_isAsRead cX4_isAsRead 2 (some .boolean) 0 := ⟨Or.inl (tb_in 523 (by decide +kernel) rfl), tb_in 525 (by decide +kernel) rfl, tb_in 20 (by decide +kernel) rfl, tb_in 58 (by decide +kernel) rfl, tb_in 526 rfl rfl, by decide +kernel, by decide +kernel, by decide +kernel⟩
set_option maxRecDepth 100000 in
theorem l_L_86 : LkV RL 86 RX4 yX4_kinds cX4_kinds 4 (some .int) 1 := ⟨Or.inl (tb_in 527 (by decide +kernel) rfl), tb_in 528 (by decide +kernel) rfl, tb_in 529 (by decide +kernel) rfl, tb_in 58 (by decide +kernel) rfl, tb_in 530 rfl rfl, by decide +kernel, by decide +kernel, by decide +kernel⟩
set_option maxRecDepth 100000 in
theorem l_L_90 : LkV RL 90 RX4 yX4_treated cX4_treated 3 (some .int) 0 := ⟨Or.inl (tb_in 531 (by decide +kernel) rfl), tb_in 532 (by decide +kernel) rfl, tb_in 533 (by decide +kernel) rfl, tb_in 58 (by decide +kernel) rfl, tb_in 534 rfl rfl, by decide +kernel, by decide +kernel, by decide +kernel⟩
set_option maxRecDepth 100000 in
theorem l_L_95 : LkV RL 95 RX4 yX4_odds cX4_odds 6 (some .long) 2 := ⟨Or.inl (tb_in 535 (by decide +kernel) rfl), tb_in 536 (by decide +kernel) rfl, tb_in 537 (by decide +kernel) rfl, tb_in 58 (by decide +kernel) rfl, tb_in 538 rfl rfl, by decide +kernel, by decide +kernel, by decide +kernel⟩
set_option maxRecDepth 100000 in
theorem l_L_100 : LkV RL 100 RX4 yX4_sheet cX4_sheet 4 (some .int) 3 := ⟨Or.inl (tb_in 540 (by decide +kernel) rfl), tb_in 541 (by decide +kernel) rfl, tb_in 542 (by decide +kernel) rfl, tb_in 58 (by decide +kernel) rfl, tb_in 543 rfl rfl, by decide +kernel, by decide +kernel, by decide +kernel⟩
set_option maxRecDepth 100000 in
theorem l_X4_182 : LkV RX4 182 RX1 yX1_renew cX1_renew 3 none 2 := ⟨Or.inl (tb_in 544 (by decide +kernel) rfl), tb_in 545 (by decide +kernel) rfl, tb_in 546 (by decide +kernel) rfl, tb_in 62 (by decide +kernel) rfl, tb_in 547 rfl rfl, by decide +kernel, by decide +kernel, by decide +kernel⟩
set_option maxRecDepth 100000 in
theorem l_X1_15 : LkS RX1 15 yJ7_fill_53178 cJ7_fill_53178 4 none 2 := ⟨Or.inl (tb_in 548 (by decide +kernel) rfl), tb_in 421 (by decide +kernel) rfl, tb_in 65 (by decide +kernel) rfl, tb_in 422 rfl rfl, by decide +kernel, by decide +kernel, by decide +kernel⟩
set_option maxRecDepth 100000 in
theorem l_L_105 : LkV RL 105 RX4 yX4_lose cX4_lose 3 (some .int) 1 := ⟨Or.inl (tb_in 549 (by decide +kernel) rfl), tb_in 550 (by decide +kernel) rfl, tb_in 551 (by decide +kernel) rfl, tb_in 58 (by decide +kernel) rfl, tb_in 552 rfl rfl, by decide +kernel, by decide +kernel, by decide +kernel⟩
set_option maxRecDepth 100000 in
theorem l_L_109 : LkV RL 109 RX4 yX4_put cX4_put 5 (some .int) 3 := ⟨Or.inl (tb_in 553 (by decide +kernel) rfl), tb_in 554 (by decide +kernel) rfl, tb_in 555 (by decide +kernel) rfl, tb_in 58 (by decide +kernel) rfl, tb_in 556 rfl rfl, by decide +kernel, by decide +kernel, by decide +kernel⟩
set_option maxRecDepth 100000 in
theorem l_X4_190 : LkV RX4 190 RX1 yX1_isPlace cX1_isPlace 2 (some .boolean) 1 := ⟨Or.inl (tb_in 557 (by decide +kernel) rfl), tb_in 558 (by decide +kernel) rfl, tb_in 559 (by decide +kernel) rfl, tb_in 62 (by decide +kernel) rfl, tb_in 560 rfl rfl, by decide +kernel, by decide +kernel, by decide +kernel⟩
set_option maxRecDepth 100000 in
theorem l_X4_196 : LkV RX4 196 RX1 yX1_cut cX1_cut 2 (some .int) 1 := ⟨Or.inl (tb_in 561 (by decide +kernel) rfl), tb_in 562 (by decide +kernel) rfl, tb_in 563 (by decide +kernel) rfl, tb_in 62 (by decide +kernel) rfl, tb_in 564 rfl rfl, by decide +kernel, by decide +kernel, by decide +kernel⟩
set_option maxRecDepth 100000 in
theorem l_L_113 : LkV RL 113 RX4 yX4_cell cX4_cell 6 (some .long) 3 := ⟨Or.inl (tb_in 565 (by decide +kernel) rfl), tb_in 566 (by decide +kernel) rfl, tb_in 567 (by decide +kernel) rfl, tb_in 58 (by decide +kernel) rfl, tb_in 568 rfl rfl, by decide +kernel, by decide +kernel, by decide +kernel⟩
set_option maxRecDepth 100000 in
theorem l_X4_199 : LkV RX4 199 RX1 yX1_faultOfLane cX1_faultOfLane 2 (some .int) 1 := ⟨Or.inl (tb_in 569 (by decide +kernel) rfl), tb_in 278 (by decide +kernel) rfl, tb_in 279 (by decide +kernel) rfl, tb_in 62 (by decide +kernel) rfl, tb_in 280 rfl rfl, by decide +kernel, by decide +kernel, by decide +kernel⟩
set_option maxRecDepth 100000 in
theorem l_L_118 : LkV RL 118 RX4 yX4_copy cX4_copy 8 (some .int) 5 := ⟨Or.inl (tb_in 570 (by decide +kernel) rfl), tb_in 571 (by decide +kernel) rfl, tb_in 572 (by decide +kernel) rfl, tb_in 58 (by decide +kernel) rfl, tb_in 573 rfl rfl, by decide +kernel, by decide +kernel, by decide +kernel⟩
set_option maxRecDepth 100000 in
theorem l_X4_205 : LkV RX4 205 RX1 yX1_hasCells cX1_hasCells 3 (some .boolean) 2 := ⟨Or.inl (tb_in 574 (by decide +kernel) rfl), tb_in 282 (by decide +kernel) rfl, tb_in 283 (by decide +kernel) rfl, tb_in 62 (by decide +kernel) rfl, tb_in 284 rfl rfl, by decide +kernel, by decide +kernel, by decide +kernel⟩
set_option maxRecDepth 100000 in
theorem l_L_122 : LkV RL 122 RX4 yX4_tell cX4_tell 2 (some .int) 1 := ⟨Or.inl (tb_in 575 (by decide +kernel) rfl), tb_in 576 (by decide +kernel) rfl, tb_in 577 (by decide +kernel) rfl, tb_in 58 (by decide +kernel) rfl, tb_in 578 rfl rfl, by decide +kernel, by decide +kernel, by decide +kernel⟩
set_option maxRecDepth 100000 in
theorem l_X4_214 : LkV RX4 214 RX4 yX4_sweetTelling cX4_sweetTelling 2 (some .int) 1 := ⟨Or.inl (tb_in 579 (by decide +kernel) rfl), tb_in 581 (by decide +kernel) rfl, tb_in 21 (by decide +kernel) rfl, tb_in 58 (by decide +kernel) rfl, tb_in 582 rfl rfl, by decide +kernel, by decide +kernel, by decide +kernel⟩
set_option maxRecDepth 100000 in
theorem l_X4_223 : LkV RX4 223 RX4 yX4_leaveInTrace cX4_leaveInTrace 2 none 1 := ⟨Or.inl (tb_in 583 (by decide +kernel) rfl), tb_in 585 (by decide +kernel) rfl, tb_in 22 (by decide +kernel) rfl, tb_in 58 (by decide +kernel) rfl, tb_in 586 rfl rfl, by decide +kernel, by decide +kernel, by decide +kernel⟩
set_option maxRecDepth 100000 in
theorem l_X4_217 : LkV RX4 217 RX4 yX4_hungryTelling cX4_hungryTelling 2 (some .int) 1 := ⟨Or.inl (tb_in 587 (by decide +kernel) rfl), tb_in 589 (by decide +kernel) rfl, tb_in 23 (by decide +kernel) rfl, tb_in 58 (by decide +kernel) rfl, tb_in 590 rfl rfl, by decide +kernel, by decide +kernel, by decide +kernel⟩
set_option maxRecDepth 100000 in
theorem l_X4_220 : LkV RX4 220 RX4 yX4_childTelling cX4_childTelling 2 (some .int) 1 := ⟨Or.inl (tb_in 591 (by decide +kernel) rfl), tb_in 593 (by decide +kernel) rfl, tb_in 24 (by decide +kernel) rfl, tb_in 58 (by decide +kernel) rfl, tb_in 594 rfl rfl, by decide +kernel, by decide +kernel, by decide +kernel⟩
set_option maxRecDepth 100000 in
theorem l_L_126 : LkV RL 126 RX4 yX4_hush cX4_hush 2 (some .int) 1 := ⟨Or.inl (tb_in 595 (by decide +kernel) rfl), tb_in 596 (by decide +kernel) rfl, tb_in 597 (by decide +kernel) rfl, tb_in 58 (by decide +kernel) rfl, tb_in 598 rfl rfl, by decide +kernel, by decide +kernel, by decide +kernel⟩
set_option maxRecDepth 100000 in
theorem l_L_130 : LkV RL 130 RX4 yX4_as cX4_as 3 (some .int) 2 := ⟨Or.inl (tb_in 599 (by decide +kernel) rfl), tb_in 600 (by decide +kernel) rfl, tb_in 601 (by decide +kernel) rfl, tb_in 58 (by decide +kernel) rfl, tb_in 602 rfl rfl, by decide +kernel, by decide +kernel, by decide +kernel⟩
set_option maxRecDepth 100000 in
theorem l_L_134 : LkV RL 134 RX4 yX4_trace cX4_trace 1 (some .int) 0 := ⟨Or.inl (tb_in 603 (by decide +kernel) rfl), tb_in 604 (by decide +kernel) rfl, tb_in 605 (by decide +kernel) rfl, tb_in 58 (by decide +kernel) rfl, tb_in 606 rfl rfl, by decide +kernel, by decide +kernel, by decide +kernel⟩
set_option maxRecDepth 100000 in
theorem l_L_138 : LkV RL 138 RX4 yX4_fault cX4_fault 1 (some .int) 0 := ⟨Or.inl (tb_in 607 (by decide +kernel) rfl), tb_in 608 (by decide +kernel) rfl, tb_in 609 (by decide +kernel) rfl, tb_in 58 (by decide +kernel) rfl, tb_in 610 rfl rfl, by decide +kernel, by decide +kernel, by decide +kernel⟩
set_option maxRecDepth 100000 in
theorem l_L_142 : LkV RL 142 RX4 yX4_many cX4_many 2 (some .int) 1 := ⟨Or.inl (tb_in 611 (by decide +kernel) rfl), tb_in 612 (by decide +kernel) rfl, tb_in 613 (by decide +kernel) rfl, tb_in 58 (by decide +kernel) rfl, tb_in 614 rfl rfl, by decide +kernel, by decide +kernel, by decide +kernel⟩
set_option maxRecDepth 100000 in
theorem l_L_17 : LkV RL 17 RX5 yX5_court cX5_court 8 (some .int) 4 := ⟨Or.inl (tb_in 722 (by decide +kernel) rfl), tb_in 723 (by decide +kernel) rfl, tb_in 724 (by decide +kernel) rfl, tb_in 63 (by decide +kernel) rfl, tb_in 725 rfl rfl, by decide +kernel, by decide +kernel, by decide +kernel⟩
set_option maxRecDepth 100000 in
theorem l_X5_87 : LkS RX5 87 yX5_isSheet cX5_isSheet 1 (some .boolean) 1 := ⟨Or.inl (tb_in 726 (by decide +kernel) rfl), tb_in 727 (by decide +kernel) rfl, tb_in 63 (by decide +kernel) rfl, tb_in 728 rfl rfl, by decide +kernel, by decide +kernel, by decide +kernel⟩
set_option maxRecDepth 100000 in
theorem l_X5_74 : LkS RX5 74 yX5_within cX5_within 3 (some .boolean) 3 := ⟨Or.inl (tb_in 729 (by decide +kernel) rfl), tb_in 730 (by decide +kernel) rfl, tb_in 63 (by decide +kernel) rfl, tb_in 731 rfl rfl, by decide +kernel, by decide +kernel, by decide +kernel⟩
set_option maxRecDepth 100000 in
theorem l_X5_91 : LkS RX5 91 yX5_isSort cX5_isSort 1 (some .boolean) 1 := ⟨Or.inl (tb_in 732 (by decide +kernel) rfl), tb_in 733 (by decide +kernel) rfl, tb_in 63 (by decide +kernel) rfl, tb_in 734 rfl rfl, by decide +kernel, by decide +kernel, by decide +kernel⟩
set_option maxRecDepth 100000 in
theorem l_X5_94 : LkV RX5 94 RX5 yX5_against cX5_against 5 (some .int) 4 := ⟨Or.inl (tb_in 735 (by decide +kernel) rfl), tb_in 737 (by decide +kernel) rfl, tb_in 25 (by decide +kernel) rfl, tb_in 63 (by decide +kernel) rfl, tb_in 738 rfl rfl, by decide +kernel, by decide +kernel, by decide +kernel⟩
set_option maxRecDepth 100000 in
theorem l_X5_98 : LkV RX5 98 RX5 yX5_fails cX5_fails 2 (some .int) 1 := ⟨Or.inl (tb_in 739 (by decide +kernel) rfl), tb_in 741 (by decide +kernel) rfl, tb_in 26 (by decide +kernel) rfl, tb_in 63 (by decide +kernel) rfl, tb_in 742 rfl rfl, by decide +kernel, by decide +kernel, by decide +kernel⟩
set_option maxRecDepth 100000 in
theorem l_X5_102 : LkV RX5 102 RX5 yX5_readCourt cX5_readCourt 2 (some .boolean) 1 := ⟨Or.inl (tb_in 743 (by decide +kernel) rfl), tb_in 745 (by decide +kernel) rfl, tb_in 27 (by decide +kernel) rfl, tb_in 63 (by decide +kernel) rfl, tb_in 746 rfl rfl, by decide +kernel, by decide +kernel, by decide +kernel⟩
set_option maxRecDepth 100000 in
theorem l_X5_123 : LkV RX5 123 RX5 yX5_isSign cX5_isSign 3 (some .boolean) 2 := ⟨Or.inl (tb_in 747 (by decide +kernel) rfl), tb_in 749 (by decide +kernel) rfl, tb_in 28 (by decide +kernel) rfl, tb_in 63 (by decide +kernel) rfl, tb_in 750 rfl rfl, by decide +kernel, by decide +kernel, by decide +kernel⟩
set_option maxRecDepth 100000 in
theorem l_X5_127 : LkV RX5 127 RX5 yX5_readTheMinutes cX5_readTheMinutes 4 (some .boolean) 1 := ⟨Or.inl (tb_in 751 (by decide +kernel) rfl), tb_in 753 (by decide +kernel) rfl, tb_in 29 (by decide +kernel) rfl, tb_in 63 (by decide +kernel) rfl, tb_in 754 rfl rfl, by decide +kernel, by decide +kernel, by decide +kernel⟩
set_option maxRecDepth 100000 in
theorem l_X5_136 : LkV RX5 136 RX5 yX5_digit cX5_digit 4 (some .int) 3 := ⟨Or.inl (tb_in 755 (by decide +kernel) rfl), tb_in 757 (by decide +kernel) rfl, tb_in 30 (by decide +kernel) rfl, tb_in 63 (by decide +kernel) rfl, tb_in 758 rfl rfl, by decide +kernel, by decide +kernel, by decide +kernel⟩
set_option maxRecDepth 100000 in
theorem l_X5_130 : LkV RX5 130 RX5 yX5_readOneJuror cX5_readOneJuror 4 (some .boolean) 1 := ⟨Or.inl (tb_in 759 (by decide +kernel) rfl), tb_in 761 (by decide +kernel) rfl, tb_in 31 (by decide +kernel) rfl, tb_in 63 (by decide +kernel) rfl, tb_in 762 rfl rfl, by decide +kernel, by decide +kernel, by decide +kernel⟩
set_option maxRecDepth 100000 in
theorem l_X5_133 : LkV RX5 133 RX5 yX5_readOneCase cX5_readOneCase 4 (some .boolean) 1 := ⟨Or.inl (tb_in 763 (by decide +kernel) rfl), tb_in 765 (by decide +kernel) rfl, tb_in 32 (by decide +kernel) rfl, tb_in 63 (by decide +kernel) rfl, tb_in 766 rfl rfl, by decide +kernel, by decide +kernel, by decide +kernel⟩
set_option maxRecDepth 100000 in
theorem l_L_22 : LkV RL 22 RX5 yX5_ofJuror cX5_ofJuror 3 (some .int) 2 := ⟨Or.inl (tb_in 767 (by decide +kernel) rfl), tb_in 768 (by decide +kernel) rfl, tb_in 769 (by decide +kernel) rfl, tb_in 63 (by decide +kernel) rfl, tb_in 770 rfl rfl, by decide +kernel, by decide +kernel, by decide +kernel⟩
set_option maxRecDepth 100000 in
theorem l_X5_140 : LkV RX5 140 RX5 yX5_isJuror cX5_isJuror 2 (some .boolean) 1 := ⟨Or.inl (tb_in 771 (by decide +kernel) rfl), tb_in 773 (by decide +kernel) rfl, tb_in 33 (by decide +kernel) rfl, tb_in 63 (by decide +kernel) rfl, tb_in 774 rfl rfl, by decide +kernel, by decide +kernel, by decide +kernel⟩
set_option maxRecDepth 100000 in
theorem l_L_26 : LkV RL 26 RX5 yX5_ofCase cX5_ofCase 3 (some .int) 2 := ⟨Or.inl (tb_in 775 (by decide +kernel) rfl), tb_in 776 (by decide +kernel) rfl, tb_in 777 (by decide +kernel) rfl, tb_in 63 (by decide +kernel) rfl, tb_in 778 rfl rfl, by decide +kernel, by decide +kernel, by decide +kernel⟩
set_option maxRecDepth 100000 in
theorem l_X5_143 : LkV RX5 143 RX5 yX5_isCase cX5_isCase 2 (some .boolean) 1 := ⟨Or.inl (tb_in 779 (by decide +kernel) rfl), tb_in 781 (by decide +kernel) rfl, tb_in 34 (by decide +kernel) rfl, tb_in 63 (by decide +kernel) rfl, tb_in 782 rfl rfl, by decide +kernel, by decide +kernel, by decide +kernel⟩
set_option maxRecDepth 100000 in
theorem l_L_31 : LkV RL 31 RX5 yX5_chalk cX5_chalk 3 (some .int) 1 := ⟨Or.inl (tb_in 783 (by decide +kernel) rfl), tb_in 784 (by decide +kernel) rfl, tb_in 785 (by decide +kernel) rfl, tb_in 63 (by decide +kernel) rfl, tb_in 786 rfl rfl, by decide +kernel, by decide +kernel, by decide +kernel⟩
set_option maxRecDepth 100000 in
theorem l_L_36 : LkV RL 36 RX5 yX5_treat cX5_treat 4 (some .int) 2 := ⟨Or.inl (tb_in 787 (by decide +kernel) rfl), tb_in 788 (by decide +kernel) rfl, tb_in 789 (by decide +kernel) rfl, tb_in 63 (by decide +kernel) rfl, tb_in 790 rfl rfl, by decide +kernel, by decide +kernel, by decide +kernel⟩
set_option maxRecDepth 100000 in
theorem l_L_40 : LkV RL 40 RX5 yX5_strike cX5_strike 4 (some .int) 2 := ⟨Or.inl (tb_in 791 (by decide +kernel) rfl), tb_in 792 (by decide +kernel) rfl, tb_in 793 (by decide +kernel) rfl, tb_in 63 (by decide +kernel) rfl, tb_in 794 rfl rfl, by decide +kernel, by decide +kernel, by decide +kernel⟩
set_option maxRecDepth 100000 in
theorem l_L_44 : LkV RL 44 RX5 yX5_minutes cX5_minutes 3 (some .int) 1 := ⟨Or.inl (tb_in 795 (by decide +kernel) rfl), tb_in 796 (by decide +kernel) rfl, tb_in 797 (by decide +kernel) rfl, tb_in 63 (by decide +kernel) rfl, tb_in 798 rfl rfl, by decide +kernel, by decide +kernel, by decide +kernel⟩
set_option maxRecDepth 100000 in
theorem l_L_49 : LkV RL 49 RX5 yX5_sitting cX5_sitting 7 (some .int) 5 := ⟨Or.inl (tb_in 799 (by decide +kernel) rfl), tb_in 800 (by decide +kernel) rfl, tb_in 801 (by decide +kernel) rfl, tb_in 63 (by decide +kernel) rfl, tb_in 802 rfl rfl, by decide +kernel, by decide +kernel, by decide +kernel⟩
set_option maxRecDepth 100000 in
theorem l_X5_183 : LkV RX5 183 RX5 yX5_layRow cX5_layRow 10 (some .int) 4 := ⟨Or.inl (tb_in 803 (by decide +kernel) rfl), tb_in 805 (by decide +kernel) rfl, tb_in 35 (by decide +kernel) rfl, tb_in 63 (by decide +kernel) rfl, tb_in 806 rfl rfl, by decide +kernel, by decide +kernel, by decide +kernel⟩
set_option maxRecDepth 100000 in
theorem l_X5_176 : LkV RX5 176 RX5 yX5_goRow cX5_goRow 2 none 0 := ⟨Or.inl (tb_in 807 (by decide +kernel) rfl), tb_in 809 (by decide +kernel) rfl, tb_in 36 (by decide +kernel) rfl, tb_in 63 (by decide +kernel) rfl, tb_in 810 rfl rfl, by decide +kernel, by decide +kernel, by decide +kernel⟩
set_option maxRecDepth 100000 in
theorem l_X5_163 : LkV RX5 163 RX5 yX5_begin cX5_begin 2 none 0 := ⟨Or.inl (tb_in 811 (by decide +kernel) rfl), tb_in 813 (by decide +kernel) rfl, tb_in 37 (by decide +kernel) rfl, tb_in 63 (by decide +kernel) rfl, tb_in 814 rfl rfl, by decide +kernel, by decide +kernel, by decide +kernel⟩
set_option maxRecDepth 100000 in
theorem l_X5_169 : LkV RX5 169 RX5 yX5_tryCase cX5_tryCase 4 none 1 := ⟨Or.inl (tb_in 815 (by decide +kernel) rfl), tb_in 817 (by decide +kernel) rfl, tb_in 38 (by decide +kernel) rfl, tb_in 63 (by decide +kernel) rfl, tb_in 818 rfl rfl, by decide +kernel, by decide +kernel, by decide +kernel⟩
set_option maxRecDepth 100000 in
theorem l_X5_160 : LkV RX5 160 RX5 yX5_verdictOf cX5_verdictOf 5 (some .int) 1 := ⟨Or.inl (tb_in 819 (by decide +kernel) rfl), tb_in 821 (by decide +kernel) rfl, tb_in 39 (by decide +kernel) rfl, tb_in 63 (by decide +kernel) rfl, tb_in 822 rfl rfl, by decide +kernel, by decide +kernel, by decide +kernel⟩
set_option maxRecDepth 100000 in
theorem l_X5_156 : LkV RX5 156 RX5 yX5_isAgainst cX5_isAgainst 5 (some .boolean) 4 := ⟨Or.inl (tb_in 823 (by decide +kernel) rfl), tb_in 825 (by decide +kernel) rfl, tb_in 40 (by decide +kernel) rfl, tb_in 63 (by decide +kernel) rfl, tb_in 826 rfl rfl, by decide +kernel, by decide +kernel, by decide +kernel⟩
set_option maxRecDepth 100000 in
theorem l_X5_153 : LkV RX5 153 RX5 yX5_isCrime cX5_isCrime 2 (some .boolean) 1 := ⟨Or.inl (tb_in 827 (by decide +kernel) rfl), tb_in 829 (by decide +kernel) rfl, tb_in 41 (by decide +kernel) rfl, tb_in 63 (by decide +kernel) rfl, tb_in 830 rfl rfl, by decide +kernel, by decide +kernel, by decide +kernel⟩
set_option maxRecDepth 100000 in
theorem l_X5_179 : LkV RX5 179 RX5 yX5_sentenced cX5_sentenced 3 (some .int) 0 := ⟨Or.inl (tb_in 831 (by decide +kernel) rfl), tb_in 833 (by decide +kernel) rfl, tb_in 42 (by decide +kernel) rfl, tb_in 63 (by decide +kernel) rfl, tb_in 834 rfl rfl, by decide +kernel, by decide +kernel, by decide +kernel⟩
set_option maxRecDepth 100000 in
theorem l_L_53 : LkV RL 53 RX5 yX5_votes cX5_votes 5 (some .int) 2 := ⟨Or.inl (tb_in 835 (by decide +kernel) rfl), tb_in 836 (by decide +kernel) rfl, tb_in 837 (by decide +kernel) rfl, tb_in 63 (by decide +kernel) rfl, tb_in 838 rfl rfl, by decide +kernel, by decide +kernel, by decide +kernel⟩
set_option maxRecDepth 100000 in
theorem l_L_57 : LkV RL 57 RX5 yX5_most cX5_most 2 (some .int) 1 := ⟨Or.inl (tb_in 839 (by decide +kernel) rfl), tb_in 840 (by decide +kernel) rfl, tb_in 841 (by decide +kernel) rfl, tb_in 63 (by decide +kernel) rfl, tb_in 842 rfl rfl, by decide +kernel, by decide +kernel, by decide +kernel⟩
set_option maxRecDepth 100000 in
theorem l_X5_198 : LkV RX5 198 RX5 yX5_order cX5_order 4 (some .int) 2 := ⟨Or.inl (tb_in 843 (by decide +kernel) rfl), tb_in 845 (by decide +kernel) rfl, tb_in 43 (by decide +kernel) rfl, tb_in 63 (by decide +kernel) rfl, tb_in 846 rfl rfl, by decide +kernel, by decide +kernel, by decide +kernel⟩
set_option maxRecDepth 100000 in
theorem l_X5_194 : LkV RX5 194 RX5 yX5_findOrder cX5_findOrder 7 (some .int) 1 := ⟨Or.inl (tb_in 847 (by decide +kernel) rfl), tb_in 849 (by decide +kernel) rfl, tb_in 44 (by decide +kernel) rfl, tb_in 63 (by decide +kernel) rfl, tb_in 850 rfl rfl, by decide +kernel, by decide +kernel, by decide +kernel⟩
set_option maxRecDepth 100000 in
theorem l_X5_173 : LkV RX5 173 RX5 yX5_layNumbers cX5_layNumbers 2 none 0 := ⟨Or.inl (tb_in 851 (by decide +kernel) rfl), tb_in 853 (by decide +kernel) rfl, tb_in 45 (by decide +kernel) rfl, tb_in 63 (by decide +kernel) rfl, tb_in 854 rfl rfl, by decide +kernel, by decide +kernel, by decide +kernel⟩
set_option maxRecDepth 100000 in
theorem l_X5_190 : LkV RX5 190 RX5 yX5_nextRow cX5_nextRow 5 (some .boolean) 0 := ⟨Or.inl (tb_in 855 (by decide +kernel) rfl), tb_in 857 (by decide +kernel) rfl, tb_in 46 (by decide +kernel) rfl, tb_in 63 (by decide +kernel) rfl, tb_in 858 rfl rfl, by decide +kernel, by decide +kernel, by decide +kernel⟩
set_option maxRecDepth 100000 in
theorem l_X5_186 : LkV RX5 186 RX5 yX5_swap cX5_swap 4 none 2 := ⟨Or.inl (tb_in 859 (by decide +kernel) rfl), tb_in 861 (by decide +kernel) rfl, tb_in 47 (by decide +kernel) rfl, tb_in 63 (by decide +kernel) rfl, tb_in 862 rfl rfl, by decide +kernel, by decide +kernel, by decide +kernel⟩
set_option maxRecDepth 100000 in
theorem l_L_61 : LkV RL 61 RX5 yX5_delay cX5_delay 2 (some .int) 1 := ⟨Or.inl (tb_in 863 (by decide +kernel) rfl), tb_in 864 (by decide +kernel) rfl, tb_in 865 (by decide +kernel) rfl, tb_in 63 (by decide +kernel) rfl, tb_in 866 rfl rfl, by decide +kernel, by decide +kernel, by decide +kernel⟩
set_option maxRecDepth 100000 in
theorem l_L_65 : LkV RL 65 RX5 yX5_bribe cX5_bribe 10 (some .int) 5 := ⟨Or.inl (tb_in 867 (by decide +kernel) rfl), tb_in 868 (by decide +kernel) rfl, tb_in 869 (by decide +kernel) rfl, tb_in 63 (by decide +kernel) rfl, tb_in 870 rfl rfl, by decide +kernel, by decide +kernel, by decide +kernel⟩
set_option maxRecDepth 100000 in
theorem l_X5_202 : LkV RX5 202 RX5 yX5_sweets cX5_sweets 3 (some .int) 0 := ⟨Or.inl (tb_in 871 (by decide +kernel) rfl), tb_in 873 (by decide +kernel) rfl, tb_in 48 (by decide +kernel) rfl, tb_in 63 (by decide +kernel) rfl, tb_in 874 rfl rfl, by decide +kernel, by decide +kernel, by decide +kernel⟩
set_option maxRecDepth 100000 in
theorem l_X5_205 : LkS RX5 205 yX5_size cX5_size 3 (some .int) 1 := ⟨Or.inl (tb_in 875 (by decide +kernel) rfl), tb_in 876 (by decide +kernel) rfl, tb_in 63 (by decide +kernel) rfl, tb_in 877 rfl rfl, by decide +kernel, by decide +kernel, by decide +kernel⟩
set_option maxRecDepth 100000 in
theorem l_X5_208 : LkV RX5 208 RX5 yX5_laySweets cX5_laySweets 3 none 1 := ⟨Or.inl (tb_in 878 (by decide +kernel) rfl), tb_in 880 (by decide +kernel) rfl, tb_in 49 (by decide +kernel) rfl, tb_in 63 (by decide +kernel) rfl, tb_in 881 rfl rfl, by decide +kernel, by decide +kernel, by decide +kernel⟩
set_option maxRecDepth 100000 in
theorem l_L_69 : LkV RL 69 RX5 yX5_strikes cX5_strikes 6 (some .int) 1 := ⟨Or.inl (tb_in 882 (by decide +kernel) rfl), tb_in 883 (by decide +kernel) rfl, tb_in 884 (by decide +kernel) rfl, tb_in 63 (by decide +kernel) rfl, tb_in 885 rfl rfl, by decide +kernel, by decide +kernel, by decide +kernel⟩
set_option maxRecDepth 100000 in
theorem l_X5_211 : LkV RX5 211 RX5 yX5_byNumbers cX5_byNumbers 1 (some .int) 0 := ⟨Or.inl (tb_in 886 (by decide +kernel) rfl), tb_in 888 (by decide +kernel) rfl, tb_in 50 (by decide +kernel) rfl, tb_in 63 (by decide +kernel) rfl, tb_in 889 rfl rfl, by decide +kernel, by decide +kernel, by decide +kernel⟩
set_option maxRecDepth 100000 in
theorem l_X5_214 : LkV RX5 214 RX5 yX5_mostByCourt cX5_mostByCourt 4 (some .int) 0 := ⟨Or.inl (tb_in 890 (by decide +kernel) rfl), tb_in 892 (by decide +kernel) rfl, tb_in 51 (by decide +kernel) rfl, tb_in 63 (by decide +kernel) rfl, tb_in 893 rfl rfl, by decide +kernel, by decide +kernel, by decide +kernel⟩
set_option maxRecDepth 100000 in
theorem l_L_73 : LkV RL 73 RX5 yX5_worth cX5_worth 5 (some .int) 1 := ⟨Or.inl (tb_in 894 (by decide +kernel) rfl), tb_in 895 (by decide +kernel) rfl, tb_in 896 (by decide +kernel) rfl, tb_in 63 (by decide +kernel) rfl, tb_in 897 rfl rfl, by decide +kernel, by decide +kernel, by decide +kernel⟩
set_option maxRecDepth 100000 in
theorem l_L_77 : LkV RL 77 RX5 yX5_reading cX5_reading 3 (some .int) 2 := ⟨Or.inl (tb_in 898 (by decide +kernel) rfl), tb_in 899 (by decide +kernel) rfl, tb_in 900 (by decide +kernel) rfl, tb_in 63 (by decide +kernel) rfl, tb_in 901 rfl rfl, by decide +kernel, by decide +kernel, by decide +kernel⟩
set_option maxRecDepth 100000 in
theorem l_L_81 : LkV RL 81 RX5 yX5_back cX5_back 2 (some .int) 1 := ⟨Or.inl (tb_in 902 (by decide +kernel) rfl), tb_in 903 (by decide +kernel) rfl, tb_in 904 (by decide +kernel) rfl, tb_in 63 (by decide +kernel) rfl, tb_in 905 rfl rfl, by decide +kernel, by decide +kernel, by decide +kernel⟩
set_option maxRecDepth 100000 in
theorem l_L_85 : LkV RL 85 RX5 yX5_codes cX5_codes 7 (some .int) 1 := ⟨Or.inl (tb_in 906 (by decide +kernel) rfl), tb_in 907 (by decide +kernel) rfl, tb_in 908 (by decide +kernel) rfl, tb_in 63 (by decide +kernel) rfl, tb_in 909 rfl rfl, by decide +kernel, by decide +kernel, by decide +kernel⟩
set_option maxRecDepth 100000 in
theorem l_X5_217 : LkV RX5 217 RX5 yX5_areSo cX5_areSo 2 (some .boolean) 0 := ⟨Or.inl (tb_in 910 (by decide +kernel) rfl), tb_in 912 (by decide +kernel) rfl, tb_in 52 (by decide +kernel) rfl, tb_in 63 (by decide +kernel) rfl, tb_in 913 rfl rfl, by decide +kernel, by decide +kernel, by decide +kernel⟩
set_option maxRecDepth 100000 in
theorem l_L_89 : LkV RL 89 RX5 yX5_kinds cX5_kinds 5 (some .int) 1 := ⟨Or.inl (tb_in 914 (by decide +kernel) rfl), tb_in 915 (by decide +kernel) rfl, tb_in 916 (by decide +kernel) rfl, tb_in 63 (by decide +kernel) rfl, tb_in 917 rfl rfl, by decide +kernel, by decide +kernel, by decide +kernel⟩
set_option maxRecDepth 100000 in
theorem l_L_94 : LkV RL 94 RX5 yX5_treated cX5_treated 4 (some .int) 0 := ⟨Or.inl (tb_in 918 (by decide +kernel) rfl), tb_in 919 (by decide +kernel) rfl, tb_in 920 (by decide +kernel) rfl, tb_in 63 (by decide +kernel) rfl, tb_in 921 rfl rfl, by decide +kernel, by decide +kernel, by decide +kernel⟩
set_option maxRecDepth 100000 in
theorem l_L_99 : LkV RL 99 RX5 yX5_odds cX5_odds 6 (some .long) 2 := ⟨Or.inl (tb_in 922 (by decide +kernel) rfl), tb_in 923 (by decide +kernel) rfl, tb_in 924 (by decide +kernel) rfl, tb_in 63 (by decide +kernel) rfl, tb_in 925 rfl rfl, by decide +kernel, by decide +kernel, by decide +kernel⟩
set_option maxRecDepth 100000 in
theorem l_X5_220 : LkV RX5 220 RX5 yX5_struck cX5_struck 3 (some .int) 0 := ⟨Or.inl (tb_in 927 (by decide +kernel) rfl), tb_in 929 (by decide +kernel) rfl, tb_in 53 (by decide +kernel) rfl, tb_in 63 (by decide +kernel) rfl, tb_in 930 rfl rfl, by decide +kernel, by decide +kernel, by decide +kernel⟩
set_option maxRecDepth 100000 in
theorem l_X5_223 : LkV RX5 223 RX5 yX5_layStruck cX5_layStruck 3 none 1 := ⟨Or.inl (tb_in 931 (by decide +kernel) rfl), tb_in 933 (by decide +kernel) rfl, tb_in 54 (by decide +kernel) rfl, tb_in 63 (by decide +kernel) rfl, tb_in 934 rfl rfl, by decide +kernel, by decide +kernel, by decide +kernel⟩
set_option maxRecDepth 100000 in
theorem l_X5_226 : LkS RX5 226 yX5_inLeastTerms cX5_inLeastTerms 11 (some .long) 3 := ⟨Or.inl (tb_in 935 (by decide +kernel) rfl), tb_in 936 (by decide +kernel) rfl, tb_in 63 (by decide +kernel) rfl, tb_in 937 rfl rfl, by decide +kernel, by decide +kernel, by decide +kernel⟩
set_option maxRecDepth 100000 in
theorem l_L_104 : LkV RL 104 RX5 yX5_sheet cX5_sheet 5 (some .int) 3 := ⟨Or.inl (tb_in 938 (by decide +kernel) rfl), tb_in 939 (by decide +kernel) rfl, tb_in 940 (by decide +kernel) rfl, tb_in 63 (by decide +kernel) rfl, tb_in 941 rfl rfl, by decide +kernel, by decide +kernel, by decide +kernel⟩
set_option maxRecDepth 100000 in
theorem l_L_108 : LkV RL 108 RX5 yX5_lose cX5_lose 3 (some .int) 1 := ⟨Or.inl (tb_in 942 (by decide +kernel) rfl), tb_in 943 (by decide +kernel) rfl, tb_in 944 (by decide +kernel) rfl, tb_in 63 (by decide +kernel) rfl, tb_in 945 rfl rfl, by decide +kernel, by decide +kernel, by decide +kernel⟩
set_option maxRecDepth 100000 in
theorem l_L_112 : LkV RL 112 RX5 yX5_put cX5_put 4 (some .int) 3 := ⟨Or.inl (tb_in 946 (by decide +kernel) rfl), tb_in 947 (by decide +kernel) rfl, tb_in 948 (by decide +kernel) rfl, tb_in 63 (by decide +kernel) rfl, tb_in 949 rfl rfl, by decide +kernel, by decide +kernel, by decide +kernel⟩
set_option maxRecDepth 100000 in
theorem l_L_117 : LkV RL 117 RX5 yX5_cell cX5_cell 4 (some .long) 3 := ⟨Or.inl (tb_in 950 (by decide +kernel) rfl), tb_in 951 (by decide +kernel) rfl, tb_in 952 (by decide +kernel) rfl, tb_in 63 (by decide +kernel) rfl, tb_in 953 rfl rfl, by decide +kernel, by decide +kernel, by decide +kernel⟩
set_option maxRecDepth 100000 in
theorem l_X5_230 : LkV RX5 230 RX5 yX5_lost cX5_lost 2 (some .long) 1 := ⟨Or.inl (tb_in 954 (by decide +kernel) rfl), tb_in 956 (by decide +kernel) rfl, tb_in 55 (by decide +kernel) rfl, tb_in 63 (by decide +kernel) rfl, tb_in 957 rfl rfl, by decide +kernel, by decide +kernel, by decide +kernel⟩
set_option maxRecDepth 100000 in
theorem l_L_121 : LkV RL 121 RX5 yX5_copy cX5_copy 10 (some .int) 5 := ⟨Or.inl (tb_in 958 (by decide +kernel) rfl), tb_in 959 (by decide +kernel) rfl, tb_in 960 (by decide +kernel) rfl, tb_in 63 (by decide +kernel) rfl, tb_in 961 rfl rfl, by decide +kernel, by decide +kernel, by decide +kernel⟩
set_option maxRecDepth 100000 in
theorem l_L_125 : LkV RL 125 RX5 yX5_tell cX5_tell 3 (some .int) 1 := ⟨Or.inl (tb_in 962 (by decide +kernel) rfl), tb_in 963 (by decide +kernel) rfl, tb_in 964 (by decide +kernel) rfl, tb_in 63 (by decide +kernel) rfl, tb_in 965 rfl rfl, by decide +kernel, by decide +kernel, by decide +kernel⟩
set_option maxRecDepth 100000 in
theorem l_X5_237 : LkV RX5 237 RX5 yX5_begins cX5_begins 2 none 1 := ⟨Or.inl (tb_in 966 (by decide +kernel) rfl), tb_in 968 (by decide +kernel) rfl, tb_in 56 (by decide +kernel) rfl, tb_in 63 (by decide +kernel) rfl, tb_in 969 rfl rfl, by decide +kernel, by decide +kernel, by decide +kernel⟩
set_option maxRecDepth 100000 in
theorem l_L_129 : LkV RL 129 RX5 yX5_hush cX5_hush 2 (some .int) 1 := ⟨Or.inl (tb_in 970 (by decide +kernel) rfl), tb_in 971 (by decide +kernel) rfl, tb_in 972 (by decide +kernel) rfl, tb_in 63 (by decide +kernel) rfl, tb_in 973 rfl rfl, by decide +kernel, by decide +kernel, by decide +kernel⟩
set_option maxRecDepth 100000 in
theorem l_L_133 : LkV RL 133 RX5 yX5_as cX5_as 3 (some .int) 2 := ⟨Or.inl (tb_in 974 (by decide +kernel) rfl), tb_in 975 (by decide +kernel) rfl, tb_in 976 (by decide +kernel) rfl, tb_in 63 (by decide +kernel) rfl, tb_in 977 rfl rfl, by decide +kernel, by decide +kernel, by decide +kernel⟩
set_option maxRecDepth 100000 in
theorem l_L_137 : LkV RL 137 RX5 yX5_trace cX5_trace 1 (some .int) 0 := ⟨Or.inl (tb_in 978 (by decide +kernel) rfl), tb_in 979 (by decide +kernel) rfl, tb_in 980 (by decide +kernel) rfl, tb_in 63 (by decide +kernel) rfl, tb_in 981 rfl rfl, by decide +kernel, by decide +kernel, by decide +kernel⟩
set_option maxRecDepth 100000 in
theorem l_L_141 : LkV RL 141 RX5 yX5_fault cX5_fault 1 (some .int) 0 := ⟨Or.inl (tb_in 982 (by decide +kernel) rfl), tb_in 983 (by decide +kernel) rfl, tb_in 984 (by decide +kernel) rfl, tb_in 63 (by decide +kernel) rfl, tb_in 985 rfl rfl, by decide +kernel, by decide +kernel, by decide +kernel⟩
set_option maxRecDepth 100000 in
theorem l_L_145 : LkV RL 145 RX5 yX5_many cX5_many 2 (some .int) 1 := ⟨Or.inl (tb_in 986 (by decide +kernel) rfl), tb_in 987 (by decide +kernel) rfl, tb_in 988 (by decide +kernel) rfl, tb_in 63 (by decide +kernel) rfl, tb_in 989 rfl rfl, by decide +kernel, by decide +kernel, by decide +kernel⟩
theorem lc_X3_20 : Cond.methodLink RX3 20 arraycopyName ∈ tbl := tb_in 293 (by decide +kernel) rfl
theorem lc_X2_31 : Cond.methodLink RX2 31 arraycopyName ∈ tbl := tb_in 411 (by decide +kernel) rfl
theorem lc_X4_208 : Cond.methodLink RX4 208 arraycopyName ∈ tbl := tb_in 467 (by decide +kernel) rfl
theorem lc_nat : Cond.native arraycopyName ∈ tbl := tb_in 295 (by decide +kernel) rfl
theorem lc_sta : Cond.static arraycopyName ∈ tbl := tb_in 294 (by decide +kernel) rfl
theorem lc_ini : Cond.initialized "java/lang/System" ∈ tbl := tb_in 64 (by decide +kernel) rfl
theorem k_J6_265 : Cond.constant RJ6 265 1431655765 ∈ tbl := tb_in 443 (by decide +kernel) rfl
theorem k_J6_266 : Cond.constant RJ6 266 858993459 ∈ tbl := tb_in 444 (by decide +kernel) rfl
theorem k_J6_267 : Cond.constant RJ6 267 252645135 ∈ tbl := tb_in 445 (by decide +kernel) rfl
theorem k_X4_179 : Cond.constantLong RX4 179 (-9223372036854775808) ∈ tbl := tb_in 539 (by decide +kernel) rfl
theorem k_X5_72 : Cond.constantLong RX5 72 (-9223372036854775808) ∈ tbl := tb_in 926 (by decide +kernel) rfl
set_option maxRecDepth 100000 in
theorem lm_X4_247 : Cond.methodLink RX4 247 yJ9_max_7cf53 ∈ tbl ∧ Cond.static yJ9_max_7cf53 ∈ tbl ∧ Cond.initialized "java/lang/Math" ∈ tbl ∧ Cond.code yJ9_max_7cf53 cJ9_max_7cf53 2 (some .int) ∈ tbl := ⟨tb_in 504 (by decide +kernel) rfl, tb_in 505 (by decide +kernel) rfl, tb_in 67 (by decide +kernel) rfl, tb_in 506 rfl rfl⟩
end
section
/-- 1 or 0 -/
def bI (P : Prop) [Decidable P] : Int32 := if P then 1 else 0
theorem bI_t {P : Prop} [Decidable P] (h : P) : bI P = 1 := if_pos h
theorem bI_f {P : Prop} [Decidable P] (h : ¬ P) : bI P = 0 := if_neg h
theorem bI_eq {P Q : Prop} [Decidable P] [Decidable Q] (h : P ↔ Q) : bI P = bI Q := by
  by_cases hp : P
  · rw [bI_t hp, bI_t (h.mp hp)]
  · rw [bI_f hp, bI_f (fun q => hp (h.mpr q))]
theorem bI_nar (P : Prop) [Decidable P] : narrow .boolean (.int (bI P)) = .int (bI P) := by
  by_cases h : P
  · rw [bI_t h]; rfl
  · rw [bI_f h]; rfl
theorem bI_fit (P : Prop) [Decidable P] : fits .boolean (.int (bI P)) = true := by
  by_cases h : P
  · rw [bI_t h]; rfl
  · rw [bI_f h]; rfl
theorem bI_vp (P : Prop) [Decidable P] : vp_nar .boolean (bI P) = bI P := by
  by_cases h : P
  · rw [bI_t h]; rfl
  · rw [bI_f h]; rfl
theorem nI_inc (i : Nat) : nI i + Int32.ofInt 1 = nI (i + 1) := nI_1 i
theorem nI_inc6 (i : Nat) : nI i + Int32.ofInt 6 = nI (i + 6) := nI_add i 6
theorem nI_dec {i : Nat} (h : 0 < i) : nI i + Int32.ofInt (-1) = nI (i - 1) := by
  obtain ⟨k, rfl⟩ : ∃ k, i = k + 1 := ⟨i - 1, by omega⟩
  exact pk_m1 k
theorem nI_lt_of {a b : Nat} (h : ¬ nI b ≤ nI a) (hb : b < 2 ^ 31) : a < b ∨ 2 ^ 31 ≤ a := by
  rcases Nat.lt_or_ge a (2 ^ 31) with ha | ha
  · rcases Nat.lt_or_ge a b with q | q
    · exact Or.inl q
    · exact absurd (nI_le q ha) h
  · exact Or.inr ha
theorem nI_ltD {a b : Nat} (h : ¬ nI b ≤ nI a) (ha : a < 2 ^ 31) : a < b := by
  rcases Nat.lt_or_ge a b with q | q
  · exact q
  · exact absurd (nI_le q ha) h
theorem nI_leD {a b : Nat} (h : nI b ≤ nI a) (hb : b < 2 ^ 31) : b ≤ a := by
  rcases Nat.lt_or_ge a b with q | q
  · exact absurd h (nI_ge q hb)
  · exact q
theorem nI_ltP {a b : Nat} (h : nI a < nI b) (ha : a < 2 ^ 31) : a < b := by
  rcases Nat.lt_or_ge a b with q | q
  · exact q
  · exact absurd h (nI_nlt q ha)
theorem nI_geP {a b : Nat} (h : ¬ nI a < nI b) (hb : b < 2 ^ 31) : b ≤ a := by
  rcases Nat.lt_or_ge a b with q | q
  · exact absurd (nI_lt q hb) h
  · exact q
theorem nI_eqP {a b : Nat} (h : nI a = nI b) (ha : a < 2 ^ 31) (hb : b < 2 ^ 31) : a = b := (nI_eq ha hb).mp h
theorem tab_o3 {x : Int32} (h0 : ¬ x = 0) (h1 : ¬ x = 1) (h2 : ¬ x = 2) : x.toInt < 0 ∨ 2 < x.toInt := by
  have a0 := lv_neT h0 (a := 0) rfl
  have a1 := lv_neT h1 (a := 1) rfl
  have a2 := lv_neT h2 (a := 2) rfl
  omega
theorem tab_out3 {x : Int32} (h0 : ¬ x = 0) (h1 : ¬ x = 1) (h2 : ¬ x = 2) : x.toInt < 0 ∨ 2 < x.toInt := tab_o3 h0 h1 h2
theorem tab_out4 {x : Int32} (h0 : ¬ x = 0) (h1 : ¬ x = 1) (h2 : ¬ x = 2) (h3 : ¬ x = 3) : x.toInt < 0 ∨ 3 < x.toInt := by
  have a := tab_o3 h0 h1 h2
  have a3 := lv_neT h3 (a := 3) rfl
  omega
theorem tab_out5 {x : Int32} (h0 : ¬ x = 0) (h1 : ¬ x = 1) (h2 : ¬ x = 2) (h3 : ¬ x = 3) (h4 : ¬ x = 4) : x.toInt < 0 ∨ 4 < x.toInt := by
  have a := tab_out4 h0 h1 h2 h3
  have a4 := lv_neT h4 (a := 4) rfl
  omega
section BaseRows
variable {p : Program} {l : Launch} {e : Env} {R : Room} {s : State} {m : MethodId} {args : Array Value} {below : List Frame} {meth : Method} {c : Code} {D : va_G} {I : va_W → Heap → List Loc → Prop} {Q : State → Prop} {mc ms nL : Nat} {ws : va_W} {lv : List (Nat × Value)} {pc : Nat} {st : List Value}
theorem v_lv0 (lv' : List (Nat × Value)) (h : lv = lv') (kk : V p l e R s m args below meth c D I Q mc ms nL ws lv' pc st) : V p l e R s m args below meth c D I Q mc ms nL ws lv pc st := h ▸ kk
theorem v_ws0 (ws' : va_W) (h : ws = ws') (kk : V p l e R s m args below meth c D I Q mc ms nL ws' lv pc st) : V p l e R s m args below meth c D I Q mc ms nL ws lv pc st := h ▸ kk
theorem v_st0 (st' : List Value) (h : st = st') (kk : V p l e R s m args below meth c D I Q mc ms nL ws lv pc st') : V p l e R s m args below meth c D I Q mc ms nL ws lv pc st := h ▸ kk
theorem v_topi {x : Int32} (kk : ∀ y : Int32, y = x → V p l e R s m args below meth c D I Q mc ms nL ws lv pc (.int y :: st)) : V p l e R s m args below meth c D I Q mc ms nL ws lv pc (.int x :: st) := kk x rfl
theorem vp_cell_ext {cA : ClassId} {n : Nat} {f g : Nat → Int32} (h : ∀ j, j < n → f j = g j) : vp_cell cA (n, .inl f) = vp_cell cA (n, .inl g) := by
  rw [vp_cell_i, vp_cell_i]
  unfold arrV
  congr 1
  apply Array.ext
  · simp
  · intro i h1 h2
    simp at h1 h2 ⊢
    exact h i h1
/-- a row's contents, by another function that is the same within the row -/
theorem v_ext {A : Nat → Prop} (ws' : va_W) (q0 : Nat) {q n : Nat} {cA : ClassId} {f : Nat → Int32} (g : Nat → Int32) (he : ws[q0]? = some (q, .inl (cA, n, .inl f))) (h : ∀ j, j < n → f j = g j) (hw : ws.set q0 (q, .inl (cA, n, .inl g)) = ws') (kk : V p l e R s m args below meth c D (IM A s) Q mc ms nL ws' lv pc st) : V p l e R s m args below meth c D (IM A s) Q mc ms nL ws lv pc st := by
  intro H locs ls hP hI hl
  subst hw
  refine kk H locs ls (hP.set hI.1 he ?_ (fun _ _ => rfl)) ⟨hI.1.set he, hI.2⟩ hl
  show H[q]? = some (vp_cell cA (n, .inl g))
  rw [← vp_cell_ext h]
  exact hP q0 _ he
end BaseRows
def ia (q : Nat) (c : ClassId) (n : Nat) (f : Nat → Int32) : Nat × va_E := (q, .inl (c, n, .inl f))
def aS (a : Nat → Nat) (cS : ClassId) : Nat × va_E := (a 1, .inl (cS, 4, .inr (.inr (.inr (.inr (fun k => some (a (10 + k))))))))
def oC (a : Nat → Nat) (tr fa : Int32) : Nat × va_E := (a 0, .inr (4, [.ref (a 1), .ref (a 2), .ref (a 3), .ref (a 4), .ref (a 5), .int tr, .int fa]))
def oX (a : Nat → Nat) (tl tf : Int32) : Nat × va_E := (a 2, .inr (3, [.ref (a 6), .int tl, .int tf]))
def oK (a : Nat → Nat) (si ju ca la sw sk rd : Int32) : Nat × va_E := (a 3, .inr (0, [.ref (a 20), .ref (a 21), .ref (a 22), .ref (a 23), .ref (a 24), .ref (a 25), .ref (a 26), .int si, .int ju, .int ca, .int la, .int sw, .int sk, .int rd]))
def oT (a : Nat → Nat) (ln lw ss sx un en se : Int32) : Nat × va_E := (a 4, .inr (2, [.ref (a 3), .ref (a 31), .ref (a 32), .ref (a 33), .ref (a 34), .int ln, .int lw, .int ss, .int sx, .int un, .int en, .int se]))
def oS (a : Nat → Nat) (k : Nat) (hs la lg : Int32) : Nat × va_E := (a (10 + k), .inr (1, [.ref (a (14 + k)), .int hs, .int la, .int lg]))
def oN (b : Nat → Nat) (n_fa n_tr n_mi n_ju n_co n_cr n_at n_rm n_rj n_rc n_nw n_ov n_rl n_rd : Int32) : Nat × va_E := (b 0, .inr (5, [.int n_fa, .int n_tr, .ref (b 2), .ref (b 3), .ref (b 4), .int n_mi, .int n_ju, .int n_co, .int n_cr, .ref (b 9), .ref (b 10), .ref (b 11), .ref (b 12), .ref (b 13), .ref (b 14), .ref (b 15), .int n_at, .int n_rm, .int n_rj, .int n_rc, .ref (b 20), .ref (b 21), .int n_nw, .int n_ov, .ref (b 24), .ref (b 25), .ref (b 26), .int n_rl, .ref (b 28), .ref (b 29), .int n_rd, .ref (b 31), .ref (b 32)]))
end
section
/-! sets as numbers -/
def mk (p : Nat → Bool) : Nat → Nat
  | 0 => 0
  | n + 1 => mk p n + (if p n then 2 ^ n else 0)
def ct (p : Nat → Bool) : Nat → Nat
  | 0 => 0
  | n + 1 => ct p n + (if p n then 1 else 0)
theorem mk_lt (p : Nat → Bool) : ∀ n, mk p n < 2 ^ n
  | 0 => by simp [mk]
  | n + 1 => by
    have h := mk_lt p n
    rw [mk, Nat.pow_succ]
    split <;> omega
theorem mk_cong {p q : Nat → Bool} : ∀ {n : Nat}, (∀ j, j < n → p j = q j) → mk p n = mk q n
  | 0, _ => rfl
  | n + 1, h => by rw [mk, mk, mk_cong (fun j hj => h j (by omega)), h n (by omega)]
theorem ct_cong {p q : Nat → Bool} : ∀ {n : Nat}, (∀ j, j < n → p j = q j) → ct p n = ct q n
  | 0, _ => rfl
  | n + 1, h => by rw [ct, ct, ct_cong (fun j hj => h j (by omega)), h n (by omega)]
theorem ct_le (p : Nat → Bool) : ∀ n, ct p n ≤ n
  | 0 => Nat.le_refl _
  | n + 1 => by
    have h := ct_le p n
    rw [ct]
    split <;> omega
theorem mk_bit (p : Nat → Bool) : ∀ n j, (mk p n).testBit j = (decide (j < n) && p j)
  | 0, j => by simp [mk]
  | n + 1, j => by
    have ih := mk_bit p n j
    have hl := mk_lt p n
    rw [mk]
    by_cases hp : p n = true
    · rw [if_pos hp, Nat.add_comm]
      rcases Nat.lt_trichotomy j n with h | h | h
      · rw [Nat.testBit_two_pow_add_gt h, ih]
        simp [h, Nat.lt_succ_of_lt h]
      · subst h
        rw [Nat.testBit_two_pow_add_eq, Nat.testBit_lt_two_pow hl]
        simp [hp]
      · have e : 2 ^ n + mk p n < 2 ^ j := Nat.lt_of_lt_of_le (by rw [Nat.pow_succ]; omega : 2 ^ n + mk p n < 2 ^ (n + 1)) (Nat.pow_le_pow_right (by omega) h)
        rw [Nat.testBit_lt_two_pow e]
        have : ¬ j < n + 1 := by omega
        simp [this]
    · rw [if_neg hp, Nat.add_zero, ih]
      rcases Nat.lt_trichotomy j n with h | h | h
      · simp [h, Nat.lt_succ_of_lt h]
      · subst h
        simp at hp
        simp [hp]
      · have h1 : ¬ j < n := by omega
        have h2 : ¬ j < n + 1 := by omega
        simp [h1, h2]
theorem mk_self {m n : Nat} (h : m < 2 ^ n) : mk m.testBit n = m := by
  apply Nat.eq_of_testBit_eq
  intro j
  rw [mk_bit]
  by_cases hj : j < n
  · simp [hj]
  · have : m < 2 ^ j := Nat.lt_of_lt_of_le h (Nat.pow_le_pow_right (by omega) (by omega))
    simp [hj, Nat.testBit_lt_two_pow this]
theorem mk_of {m n : Nat} {p : Nat → Bool} (h : m < 2 ^ n) (hp : ∀ j, j < n → m.testBit j = p j) : m = mk p n := by
  rw [← mk_self h]
  exact mk_cong hp
def clr (m j : Nat) : Nat := if m.testBit j then m - 2 ^ j else m
def set1 (m j : Nat) : Nat := if m.testBit j then m else m + 2 ^ j
theorem raw_bit : ∀ m, m < 64 → ∀ j, j < 6 → (nI m >>> (nI j &&& 31)) &&& 1 = if m.testBit j then 1 else 0 := by decide +kernel
theorem raw_and : ∀ m, m < 64 → ∀ j, j < 6 → (nI m &&& ((1 : Int32) <<< (nI j &&& 31)) = 0 ↔ m.testBit j = false) := by decide +kernel
theorem raw_clr : ∀ m, m < 64 → ∀ j, j < 6 → nI m &&& (((1 : Int32) <<< (nI j &&& 31)) ^^^ (-1)) = nI (clr m j) := by decide +kernel
theorem raw_set : ∀ m, m < 64 → ∀ j, j < 6 → nI m ||| ((1 : Int32) <<< (nI j &&& 31)) = nI (set1 m j) := by decide +kernel
theorem clr_bit : ∀ m, m < 64 → ∀ j, j < 6 → ∀ i, i < 6 → (clr m j).testBit i = (m.testBit i && !decide (i = j)) := by decide +kernel
theorem set1_bit : ∀ m, m < 64 → ∀ j, j < 6 → ∀ i, i < 6 → (set1 m j).testBit i = (m.testBit i || decide (i = j)) := by decide +kernel
theorem clr_lt {m n : Nat} (j : Nat) (h : m < n) : clr m j < n := by
  unfold clr
  split
  · exact Nat.lt_of_le_of_lt (Nat.sub_le _ _) h
  · exact h
theorem set1_lt : ∀ n, n < 7 → ∀ m, m < 2 ^ n → ∀ j, j < n → set1 m j < 2 ^ n := by decide +kernel
theorem pow5 {n : Nat} (h : n ≤ 5) : 2 ^ n ≤ 32 := by
  have : 2 ^ n ≤ 2 ^ 5 := Nat.pow_le_pow_right (by omega) h
  omega
def voB (st : Nat) (j : Nat) : Bool := !st.testBit j
theorem raw_vo : ∀ nj, nj < 6 → ∀ st, st < 32 → (((1 : Int32) <<< (nI nj &&& 31)) - 1) &&& (nI st ^^^ (-1)) = nI (mk (voB st) nj) := by decide +kernel
/-- Integer.bitCount -/
def bcF (x : Int32) : Int32 :=
  let x1 := x - ((x.toUInt32 >>> ((1 : Int32).toUInt32 &&& Int32.toUInt32 31)).toInt32 &&& 1431655765)
  let x2 := (x1 &&& 858993459) + ((x1.toUInt32 >>> ((2 : Int32).toUInt32 &&& Int32.toUInt32 31)).toInt32 &&& 858993459)
  let x3 := (x2 + (x2.toUInt32 >>> ((4 : Int32).toUInt32 &&& Int32.toUInt32 31)).toInt32) &&& 252645135
  let x4 := x3 + (x3.toUInt32 >>> ((8 : Int32).toUInt32 &&& Int32.toUInt32 31)).toInt32
  let x5 := x4 + (x4.toUInt32 >>> ((16 : Int32).toUInt32 &&& Int32.toUInt32 31)).toInt32
  x5 &&& 63
/-- how many bits of a small number -/
def pcN (m : Nat) : Nat := ct m.testBit 6
theorem raw_bc : ∀ m, m < 64 → bcF (nI m) = nI (pcN m) := by decide +kernel
theorem pcN_le (m : Nat) : pcN m ≤ 6 := ct_le _ _
theorem ct_more (p : Nat → Bool) (m : Nat) : ∀ k, (∀ j, m ≤ j → p j = false) → ct p (m + k) = ct p m
  | 0, _ => rfl
  | k + 1, h => by
    rw [← Nat.add_assoc, ct, ct_more p m k h, h (m + k) (by omega)]
    simp
theorem pcN_mk (p : Nat → Bool) {n : Nat} (h : n ≤ 6) : pcN (mk p n) = ct p n := by
  unfold pcN
  have e : (6 : Nat) = n + (6 - n) := by omega
  rw [e, ct_more _ n (6 - n) (fun j hj => by rw [mk_bit]; have : ¬ j < n := by omega
                                             simp [this])]
  exact ct_cong (fun j hj => by rw [mk_bit]; simp [hj])
/-! who votes so; what a sitting comes to -/
def gB (tk ag : Nat → Int32) (un st : Nat) (cr : Bool) (mi : Int32) (j : Nat) : Bool := voB st j && (!(decide (tk j = 2) && un.testBit j) && (cr || (decide (tk j = 1) && decide (5 * ag j ≤ mi))))
def unB (tk : Nat → Int32) (un st : Nat) (j : Nat) : Bool := un.testBit j && !(voB st j && decide (tk j = 2))
def unF (nj : Nat) (tk : Nat → Int32) (un st : Nat) : Nat := mk (unB tk un st) nj
def vdF (nj : Nat) (tk ag : Nat → Int32) (un st : Nat) (cr : Bool) (mi : Int32) : Int32 := if ct (voB st) nj < 2 * ct (gB tk ag un st cr mi) nj then 1 else 0
def wbN (m j : Nat) (is : Int32) : Nat := if is = 0 then clr m j else set1 m j
theorem set1_mk {p : Nat → Bool} {i : Nat} (hi : i < 6) (hp : p i = true) : set1 (mk p i) i = mk p (i + 1) := by
  have h := mk_bit p i i
  simp at h
  rw [mk, if_pos hp, set1, h]
  simp
theorem mk_skip {p : Nat → Bool} {i : Nat} (hp : p i = false) : mk p i = mk p (i + 1) := by
  rw [mk, hp]; simp
def unBi (tk : Nat → Int32) (un st i : Nat) (j : Nat) : Bool := if j < i then unB tk un st j else un.testBit j
theorem un_at {tk : Nat → Int32} {un st nj i : Nat} (hi : i < nj) : (mk (unBi tk un st i) nj).testBit i = un.testBit i := by
  rw [mk_bit]; simp [hi, unBi]
theorem un_keep {tk : Nat → Int32} {un st nj i : Nat} (h : unB tk un st i = un.testBit i) : mk (unBi tk un st i) nj = mk (unBi tk un st (i + 1)) nj := by
  apply mk_cong
  intro j hj
  unfold unBi
  by_cases h1 : j < i
  · simp [h1, Nat.lt_succ_of_lt h1]
  · by_cases h2 : j = i
    · subst h2; simp [h]
    · have : ¬ j < i + 1 := by omega
      simp [h1, this]
theorem un_clr {tk : Nat → Int32} {un st nj i : Nat} (hn : nj ≤ 5) (hi : i < nj) (hb : unB tk un st i = false) : clr (mk (unBi tk un st i) nj) i = mk (unBi tk un st (i + 1)) nj := by
  have hl := mk_lt (unBi tk un st i) nj
  have hp := pow5 hn
  refine mk_of (clr_lt i hl) (fun j hj => ?_)
  rw [clr_bit _ (by omega) i (by omega) j (by omega), mk_bit]
  unfold unBi
  by_cases h1 : j < i
  · have : ¬ j = i := by omega
    simp [h1, hj, this, Nat.lt_succ_of_lt h1]
  · by_cases h2 : j = i
    · subst h2; simp [hb]
    · have : ¬ j < i + 1 := by omega
      simp [h1, h2, hj, this]
theorem un_vote {tk : Nat → Int32} {un st nj i : Nat} (hn : nj ≤ 5) (hi : i < nj) (hv : voB st i = true) : (if tk i = 2 ∧ (mk (unBi tk un st i) nj).testBit i = true then clr (mk (unBi tk un st i) nj) i else mk (unBi tk un st i) nj) = mk (unBi tk un st (i + 1)) nj := by
  rw [un_at hi]
  by_cases h : tk i = 2 ∧ un.testBit i = true
  · rw [if_pos h]
    exact un_clr hn hi (by simp [unB, hv, h.1])
  · rw [if_neg h]
    apply un_keep
    unfold unB
    by_cases h2 : tk i = 2
    · have : un.testBit i = false := by
        cases hb : un.testBit i
        · rfl
        · exact absurd ⟨h2, hb⟩ h
      simp [this]
    · simp [h2]
theorem un_0 {tk : Nat → Int32} {un st nj : Nat} (h : un < 2 ^ nj) : un = mk (unBi tk un st 0) nj := mk_of h (fun j _ => by simp [unBi])
theorem un_end {tk : Nat → Int32} {un st nj : Nat} : mk (unBi tk un st nj) nj = unF nj tk un st := mk_cong (fun j hj => by simp [unBi, hj])
/-- what a sitting comes to behind its first cases: verdicts, verdicts on deeds, sweets left, the minute, the weights, whether all are home -/
abbrev SitT : Type := (Nat → Int32) × (Nat → Int32) × Nat × Int32 × Int32 × Bool
def sitStep (nj : Nat) (tk ag : Nat → Int32) (st lw : Nat) (dn : Nat → Nat) (ta we : Nat → Int32) (si : Int32) (q : SitT) (c : Nat) : SitT :=
  if q.2.2.2.2.2 = true ∨ ¬ q.2.2.2.1 + (if q.2.1 (dn c) = -9 then ta c else 1) ≤ si then (upd q.1 c 2, q.2.1, q.2.2.1, q.2.2.2.1, q.2.2.2.2.1, true)
  else if q.2.1 (dn c) = -9 then
    (upd q.1 c (vdF nj tk ag q.2.2.1 st (lw.testBit (dn c)) (q.2.2.2.1 + ta c)), upd q.2.1 (dn c) (vdF nj tk ag q.2.2.1 st (lw.testBit (dn c)) (q.2.2.2.1 + ta c)), unF nj tk q.2.2.1 st, q.2.2.2.1 + ta c, (if vdF nj tk ag q.2.2.1 st (lw.testBit (dn c)) (q.2.2.2.1 + ta c) = 1 then q.2.2.2.2.1 + we c else q.2.2.2.2.1), false)
  else (upd q.1 c (q.2.1 (dn c)), q.2.1, q.2.2.1, q.2.2.2.1 + 1, (if q.2.1 (dn c) = 1 then q.2.2.2.2.1 + we c else q.2.2.2.2.1), false)
def sitS (nj : Nat) (tk ag : Nat → Int32) (st lw : Nat) (dn : Nat → Nat) (ta we : Nat → Int32) (si : Int32) (un : Nat) (o : Nat → Nat) : Nat → SitT
  | 0 => (fun _ => -9, fun _ => -9, un, 0, 0, false)
  | p + 1 => sitStep nj tk ag st lw dn ta we si (sitS nj tk ag st lw dn ta we si un o p) (o p)
theorem sit_un {nj : Nat} {tk ag : Nat → Int32} {st lw : Nat} {dn : Nat → Nat} {ta we : Nat → Int32} {si : Int32} {un : Nat} {o : Nat → Nat} (h : un < 2 ^ nj) : ∀ p, (sitS nj tk ag st lw dn ta we si un o p).2.2.1 < 2 ^ nj
  | 0 => h
  | p + 1 => by
    have ih := sit_un (tk := tk) (ag := ag) (st := st) (lw := lw) (dn := dn) (ta := ta) (we := we) (si := si) (o := o) h p
    rw [sitS, sitStep]
    (repeat' split) <;> first | exact ih | exact mk_lt _ _
theorem upd_at {f : Nat → Int32} {k : Nat} {x : Int32} : upd f k x k = x := by simp [upd]
theorem gB_iff {tk ag : Nat → Int32} {un st i : Nat} {b : Bool} {cr mi : Int32} (hv : voB st i = true) (hc : (¬ cr = 0) ↔ b = true) : gB tk ag un st b mi i = true ↔ (¬ (tk i = 2 ∧ un.testBit i = true) ∧ (¬ cr = 0 ∨ (tk i = 1 ∧ ¬ mi < 5 * ag i))) := by
  unfold gB
  rw [hv, hc]
  by_cases h1 : tk i = 2 <;> by_cases h2 : un.testBit i = true <;> by_cases h3 : b = true <;> by_cases h4 : tk i = 1 <;> by_cases h5 : mi < 5 * ag i <;> simp_all
theorem gB_no {tk ag : Nat → Int32} {un st i : Nat} {b : Bool} {cr mi : Int32} (hv : voB st i = true) (hc : (¬ cr = 0) ↔ b = true) (q : ¬ (¬ (tk i = 2 ∧ un.testBit i = true) ∧ (¬ cr = 0 ∨ (tk i = 1 ∧ ¬ mi < 5 * ag i)))) : gB tk ag un st b mi i = false := by
  rw [Bool.eq_false_iff]
  exact fun z => q ((gB_iff hv hc).mp z)
/-! the next order of a row -/
def rsN (g : Nat → Nat) : Nat → Option Nat
  | 0 => none
  | r + 1 => if g (r + 1) < g r then rsN g r else some r
def wtN (g : Nat → Nat) (r : Nat) : Nat → Nat
  | 0 => 0
  | w + 1 => if r < w + 1 ∧ g (w + 1) < g r then wtN g r w else w + 1
def swN (g : Nat → Nat) (p q : Nat) : Nat → Nat := fun i => if i = q then g p else if i = p then g q else g i
def rvN (g : Nat → Nat) : Nat → Nat → Nat → (Nat → Nat)
  | 0, _, _ => g
  | n + 1, l, r => if l < r then rvN (swN g l r) n (l + 1) (r - 1) else g
def nxN (L : Nat) (g : Nat → Nat) : Option (Nat → Nat) := match rsN g (L - 1) with
  | none => none
  | some r => some (rvN (swN g r (wtN g r (L - 1))) L (r + 1) (L - 1))
theorem sw_upd {f : Nat → Int32} {g : Nat → Nat} {L p q : Nat} (hf : ∀ i, i < L → f i = nI (g i)) (hp : p < L) (hq : q < L) : ∀ i, i < L → upd (upd f p (f q)) q (f p) i = nI (swN g p q i) := by
  intro i hi
  unfold upd swN
  by_cases h1 : i = q
  · simp [h1, hf p hp]
  · by_cases h2 : i = p
    · subst h2; simp [h1, hf q hq]
    · simp [h1, h2, hf i hi]
theorem wt_le (g : Nat → Nat) (r : Nat) : ∀ w, wtN g r w ≤ w
  | 0 => Nat.le_refl _
  | w + 1 => by
    rw [wtN]
    split
    · have := wt_le g r w
      omega
    · exact Nat.le_refl _
theorem sw_lt {g : Nat → Nat} {L p q : Nat} (h : ∀ i, i < L → g i < 5) (hp : p < L) (hq : q < L) : ∀ i, i < L → swN g p q i < 5 := by
  intro i hi
  unfold swN
  split
  · exact h p hp
  · split
    · exact h q hq
    · exact h i hi
/-! texts -/
def dgB (x le mo : Int32) : Bool := !decide (x < 48 + le) && !decide (48 + mo < x)
def kdF (x : Int32) : Int32 := if x = 99 then 0 else if x = 104 then 1 else if x = 115 then 2 else -9
def tmF (f : Nat → Int32) : Int32 := 10 * (f 1 - 48) + (f 2 - 48)
def gmB (f : Nat → Int32) (p : Nat) : Bool := if p = 1 then dgB (f p) 0 6 else dgB (f p) 0 9 && (!decide (tmF f < 5) && !decide (60 < tmF f))
def gjB (f : Nat → Int32) (p : Nat) : Bool := if (p - 3) % 3 = 0 then (decide (f p = 44) && decide ((p - 3) / 3 < 5)) || (decide (f p = 59) && decide (0 < (p - 3) / 3)) else if (p - 3) % 3 = 1 then !decide (kdF (f p) = -9) else dgB (f p) 1 9
def gcB (f : Nat → Int32) (p c : Nat) : Bool := if (p - c) % 4 = 0 then decide (f p = 59) && decide ((p - c) / 4 < 5) else if (p - c) % 4 = 1 then dgB (f p) 0 5 else dgB (f p) 1 9
def goB (f : Nat → Int32) (p : Nat) (cf : Option Nat) : Bool := if p = 0 then decide (f p = 107) else if p < 3 then gmB f p else match cf with
  | none => gjB f p
  | some c => gcB f p c
def cfI (cf : Option Nat) : Int32 := match cf with
  | none => -9
  | some c => nI c
/-- where the first ; stands among the first p codes -/
def cfN (f : Nat → Int32) : Nat → Option Nat
  | 0 => none
  | p + 1 => match cfN f p with
    | some c => some c
    | none => if f p = 59 then some p else none
theorem cfN_lt {f : Nat → Int32} : ∀ {p c : Nat}, cfN f p = some c → c < p
  | 0, c, h => by cases h
  | p + 1, c, h => by
    rw [cfN] at h
    cases hq : cfN f p with
    | some d =>
      rw [hq] at h
      cases h
      exact Nat.lt_succ_of_lt (cfN_lt hq)
    | none =>
      rw [hq] at h
      dsimp only at h
      split at h
      · cases h
        omega
      · cases h
def whC (cf : Option Nat) (n : Nat) : Bool := match cf with
  | none => false
  | some c => decide ((n - c) % 4 = 0)
def whB (f : Nat → Int32) (n : Nat) : Bool := whC (cfN f n) n
/-- the first fault from p on, with k codes to look at; none: a text -/
def ffR (f : Nat → Int32) (n : Nat) : Nat → Nat → Option Nat
  | 0, _ => if whB f n then none else some n
  | k + 1, p => if goB f p (cfN f p) then ffR f n k (p + 1) else some p
def ffF (f : Nat → Int32) (n : Nat) : Option Nat := ffR f n n 0
theorem nI_ne9 {c : Nat} (h : c < 2 ^ 31) : ¬ nI c = -9 := by
  intro q
  have h1 := nI_toInt h
  rw [q] at h1
  have h2 : (-9 : Int32).toInt = -9 := by decide
  rw [h2] at h1
  omega
theorem cfN_none {f : Nat → Int32} {p : Nat} (h : cfN f p = none) (h2 : ¬ f p = 59) : cfN f (p + 1) = none := by rw [cfN, h]; simp [h2]
theorem cfN_semi {f : Nat → Int32} {p : Nat} (h : cfN f p = none) (h2 : f p = 59) : cfN f (p + 1) = some p := by rw [cfN, h]; simp [h2]
theorem cfN_some {f : Nat → Int32} {p c : Nat} (h : cfN f p = some c) : cfN f (p + 1) = some c := by rw [cfN, h]
theorem ffR_go {f : Nat → Int32} {n p : Nat} (hp : p < n) (h : goB f p (cfN f p) = true) : ffR f n (n - p) p = ffR f n (n - (p + 1)) (p + 1) := by
  obtain ⟨k, hk⟩ : ∃ k, n - p = k + 1 := ⟨n - p - 1, by omega⟩
  rw [hk, ffR, if_pos h, show n - (p + 1) = k by omega]
theorem ffR_no {f : Nat → Int32} {n p : Nat} (hp : p < n) (h : ¬ goB f p (cfN f p) = true) : ffR f n (n - p) p = some p := by
  obtain ⟨k, hk⟩ : ∃ k, n - p = k + 1 := ⟨n - p - 1, by omega⟩
  rw [hk, ffR, if_neg h]
/-- a row whose first places have been laid anew -/
def tbF (v f : Nat → Int32) (i : Nat) : Nat → Int32 := fun j => if j < i then v j else f j
theorem tbF_0 (v f : Nat → Int32) : tbF v f 0 = f := by funext j; simp [tbF]
theorem tbF_s (v f : Nat → Int32) (i : Nat) : upd (tbF v f i) i (v i) = tbF v f (i + 1) := by
  funext j
  unfold upd tbF
  by_cases h : j = i
  · subst h; simp
  · by_cases h2 : j < i
    · simp [h, h2, Nat.lt_succ_of_lt h2]
    · have : ¬ j < i + 1 := by omega
      simp [h, h2, this]
theorem tbF_in {v f : Nat → Int32} {i j : Nat} (h : j < i) : tbF v f i j = v j := by simp [tbF, h]
theorem ff_ok {g : Nat → Int32} {n p : Nat} {cf : Option Nat} (hff : ffR g n n 0 = ffR g n (n - p) p) (e : p = n) (hcf : cf = cfN g p) (h : whC cf n = true) : ffF g n = none ∧ cf = cfN g n := by
  subst e
  refine ⟨?_, hcf⟩
  rw [ffF, hff, Nat.sub_self, ffR, if_pos]
  rw [whB, ← hcf]; exact h
theorem ff_short {g : Nat → Int32} {n p : Nat} {cf : Option Nat} (hff : ffR g n n 0 = ffR g n (n - p) p) (e : p = n) (hcf : cf = cfN g p) (h : ¬ whC cf n = true) : ffF g n = some n := by
  subst e
  rw [ffF, hff, Nat.sub_self, ffR, if_neg]
  rw [whB, ← hcf]; exact h
theorem ff_no {g : Nat → Int32} {n p : Nat} {cf : Option Nat} (hff : ffR g n n 0 = ffR g n (n - p) p) (hp : p < n) (hcf : cf = cfN g p) (h : ¬ goB g p cf = true) : ffF g n = some p := by
  rw [ffF, hff, ffR_no hp (by rw [← hcf]; exact h)]
end
section
def cutF (la v : Int32) : Int32 := if la = 0 then v.toInt8.toInt32 else if la = 1 then v.toInt16.toInt32 else v
def folF (hs la x : Int32) : Int32 := if hs = 0 then 1 else if la = x then 0 else 2
def focF (hs la lg x i n : Int32) : Int32 := if folF hs la x = 0 then (if 0 ≤ n then (if ¬ i < 0 ∧ ¬ n < 0 ∧ ¬ lg < i ∧ ¬ lg - i < n then 0 else 3) else 4) else folF hs la x
set_option maxHeartbeats 4000000 in
set_option maxRecDepth 100000 in
theorem m_X0_stands {l : Launch} {D : va_G} {cI cB cS : ClassId} (a : Nat → Nat) (si : Int32) (ju : Int32) (ca : Int32) (la : Int32) (sw : Int32) (sk : Int32) (rd : Int32) : Ri l yX0_stands cX0_stands 1 (some .boolean) 0 0 D cI cB cS [.ref (a 3)] [oK a si ju ca la sw sk rd] (fun r => r = bI (¬ ca ≤ 0)) := by
  refine Ri.of (by decide) (Nat.le_of_ble_eq_true rfl) ?_
  intro zp ze zs zm zb zt zc C
  refine v_lv0 [(0, .ref (a 3))] rfl ?_
  refine v_aload_n C dX0_stands_0 0 rfl ?_
  refine v_get C f_X0_33 dX0_stands_1 0 rfl rfl ?_
  refine v_if_le C 11 dX0_stands_4 (by decide) (fun c1 => ?_) (fun c1 => ?_)
  · refine v_iconst C 0 dX0_stands_11 (by decide) ?_
    exact v_retRi C dX0_stands_12 rfl (by first | (simp only [bI, *, ↓reduceIte]; done) | (simp [bI, *]; done) | (simp_all [bI]; done))
  · refine v_iconst C 1 dX0_stands_7 (by decide) ?_
    refine v_goto C 12 dX0_stands_8 (by decide) ?_
    exact v_retRi C dX0_stands_12 rfl (by first | (simp only [bI, *, ↓reduceIte]; done) | (simp [bI, *]; done) | (simp_all [bI]; done))
set_option maxHeartbeats 4000000 in
set_option maxRecDepth 100000 in
theorem m_X0_isJuror {l : Launch} {D : va_G} {cI cB cS : ClassId} (a : Nat → Nat) (si : Int32) (ju : Int32) (ca : Int32) (la : Int32) (sw : Int32) (sk : Int32) (rd : Int32) (j : Int32) : Ri l yX0_isJuror cX0_isJuror 2 (some .boolean) 0 0 D cI cB cS [.ref (a 3), .int j] [oK a si ju ca la sw sk rd] (fun r => r = bI (¬ j < 0 ∧ ¬ ju ≤ j)) := by
  refine Ri.of (by decide) (Nat.le_of_ble_eq_true rfl) ?_
  intro zp ze zs zm zb zt zc C
  refine v_lv0 [(0, .ref (a 3)), (1, .int j)] rfl ?_
  refine v_iload_n C dX0_isJuror_0 1 rfl ?_
  refine v_if_lt C 16 dX0_isJuror_1 (by decide) (fun c1 => ?_) (fun c1 => ?_)
  · refine v_iconst C 0 dX0_isJuror_16 (by decide) ?_
    exact v_retRi C dX0_isJuror_17 rfl (by first | (simp only [bI, *, ↓reduceIte]; done) | (simp [bI, *]; done) | (simp_all [bI]; done))
  · refine v_iload_n C dX0_isJuror_4 1 rfl ?_
    refine v_aload_n C dX0_isJuror_5 0 rfl ?_
    refine v_get C f_X0_37 dX0_isJuror_6 0 rfl rfl ?_
    refine v_icmp_ge C 16 dX0_isJuror_9 (by decide) (fun c2 => ?_) (fun c2 => ?_)
    · refine v_iconst C 0 dX0_isJuror_16 (by decide) ?_
      exact v_retRi C dX0_isJuror_17 rfl (by first | (simp only [bI, *, ↓reduceIte]; done) | (simp [bI, *]; done) | (simp_all [bI]; done))
    · refine v_iconst C 1 dX0_isJuror_12 (by decide) ?_
      refine v_goto C 17 dX0_isJuror_13 (by decide) ?_
      exact v_retRi C dX0_isJuror_17 rfl (by first | (simp only [bI, *, ↓reduceIte]; done) | (simp [bI, *]; done) | (simp_all [bI]; done))
set_option maxHeartbeats 4000000 in
set_option maxRecDepth 100000 in
theorem m_X0_isCase {l : Launch} {D : va_G} {cI cB cS : ClassId} (a : Nat → Nat) (si : Int32) (ju : Int32) (ca : Int32) (la : Int32) (sw : Int32) (sk : Int32) (rd : Int32) (j : Int32) : Ri l yX0_isCase cX0_isCase 2 (some .boolean) 0 0 D cI cB cS [.ref (a 3), .int j] [oK a si ju ca la sw sk rd] (fun r => r = bI (¬ j < 0 ∧ ¬ ca ≤ j)) := by
  refine Ri.of (by decide) (Nat.le_of_ble_eq_true rfl) ?_
  intro zp ze zs zm zb zt zc C
  refine v_lv0 [(0, .ref (a 3)), (1, .int j)] rfl ?_
  refine v_iload_n C dX0_isCase_0 1 rfl ?_
  refine v_if_lt C 16 dX0_isCase_1 (by decide) (fun c1 => ?_) (fun c1 => ?_)
  · refine v_iconst C 0 dX0_isCase_16 (by decide) ?_
    exact v_retRi C dX0_isCase_17 rfl (by first | (simp only [bI, *, ↓reduceIte]; done) | (simp [bI, *]; done) | (simp_all [bI]; done))
  · refine v_iload_n C dX0_isCase_4 1 rfl ?_
    refine v_aload_n C dX0_isCase_5 0 rfl ?_
    refine v_get C f_X0_33 dX0_isCase_6 0 rfl rfl ?_
    refine v_icmp_ge C 16 dX0_isCase_9 (by decide) (fun c2 => ?_) (fun c2 => ?_)
    · refine v_iconst C 0 dX0_isCase_16 (by decide) ?_
      exact v_retRi C dX0_isCase_17 rfl (by first | (simp only [bI, *, ↓reduceIte]; done) | (simp [bI, *]; done) | (simp_all [bI]; done))
    · refine v_iconst C 1 dX0_isCase_12 (by decide) ?_
      refine v_goto C 17 dX0_isCase_13 (by decide) ?_
      exact v_retRi C dX0_isCase_17 rfl (by first | (simp only [bI, *, ↓reduceIte]; done) | (simp [bI, *]; done) | (simp_all [bI]; done))
set_option maxHeartbeats 4000000 in
set_option maxRecDepth 100000 in
theorem m_X1_isPlace {l : Launch} {D : va_G} {cI cB cS : ClassId} (a : Nat → Nat) (k : Nat) (hs : Int32) (la : Int32) (lg : Int32) (i : Int32) : Ri l yX1_isPlace cX1_isPlace 2 (some .boolean) 0 0 D cI cB cS [.ref (a (10 + k)), .int i] [oS a k hs la lg] (fun r => r = bI (¬ i < 0 ∧ ¬ lg ≤ i)) := by
  refine Ri.of (by decide) (Nat.le_of_ble_eq_true rfl) ?_
  intro zp ze zs zm zb zt zc C
  refine v_lv0 [(0, .ref (a (10 + k))), (1, .int i)] rfl ?_
  refine v_iload_n C dX1_isPlace_0 1 rfl ?_
  refine v_if_lt C 16 dX1_isPlace_1 (by decide) (fun c1 => ?_) (fun c1 => ?_)
  · refine v_iconst C 0 dX1_isPlace_16 (by decide) ?_
    exact v_retRi C dX1_isPlace_17 rfl (by first | (simp only [bI, *, ↓reduceIte]; done) | (simp [bI, *]; done) | (simp_all [bI]; done))
  · refine v_iload_n C dX1_isPlace_4 1 rfl ?_
    refine v_aload_n C dX1_isPlace_5 0 rfl ?_
    refine v_get C f_X1_29 dX1_isPlace_6 0 rfl rfl ?_
    refine v_icmp_ge C 16 dX1_isPlace_9 (by decide) (fun c2 => ?_) (fun c2 => ?_)
    · refine v_iconst C 0 dX1_isPlace_16 (by decide) ?_
      exact v_retRi C dX1_isPlace_17 rfl (by first | (simp only [bI, *, ↓reduceIte]; done) | (simp [bI, *]; done) | (simp_all [bI]; done))
    · refine v_iconst C 1 dX1_isPlace_12 (by decide) ?_
      refine v_goto C 17 dX1_isPlace_13 (by decide) ?_
      exact v_retRi C dX1_isPlace_17 rfl (by first | (simp only [bI, *, ↓reduceIte]; done) | (simp [bI, *]; done) | (simp_all [bI]; done))
set_option maxHeartbeats 4000000 in
set_option maxRecDepth 100000 in
theorem m_X1_hasCells {l : Launch} {D : va_G} {cI cB cS : ClassId} (a : Nat → Nat) (k : Nat) (hs : Int32) (la : Int32) (lg : Int32) (i : Int32) (n : Int32) : Ri l yX1_hasCells cX1_hasCells 3 (some .boolean) 0 0 D cI cB cS [.ref (a (10 + k)), .int i, .int n] [oS a k hs la lg] (fun r => r = bI (¬ i < 0 ∧ ¬ n < 0 ∧ ¬ lg < i ∧ ¬ lg - i < n)) := by
  refine Ri.of (by decide) (Nat.le_of_ble_eq_true rfl) ?_
  intro zp ze zs zm zb zt zc C
  refine v_lv0 [(0, .ref (a (10 + k))), (1, .int i), (2, .int n)] rfl ?_
  refine v_iload_n C dX1_hasCells_0 1 rfl ?_
  refine v_if_lt C 30 dX1_hasCells_1 (by decide) (fun c1 => ?_) (fun c1 => ?_)
  · refine v_iconst C 0 dX1_hasCells_30 (by decide) ?_
    exact v_retRi C dX1_hasCells_31 rfl (by first | (simp only [bI, *, ↓reduceIte]; done) | (simp [bI, *]; done) | (simp_all [bI]; done))
  · refine v_iload_n C dX1_hasCells_4 2 rfl ?_
    refine v_if_lt C 30 dX1_hasCells_5 (by decide) (fun c2 => ?_) (fun c2 => ?_)
    · refine v_iconst C 0 dX1_hasCells_30 (by decide) ?_
      exact v_retRi C dX1_hasCells_31 rfl (by first | (simp only [bI, *, ↓reduceIte]; done) | (simp [bI, *]; done) | (simp_all [bI]; done))
    · refine v_iload_n C dX1_hasCells_8 1 rfl ?_
      refine v_aload_n C dX1_hasCells_9 0 rfl ?_
      refine v_get C f_X1_29 dX1_hasCells_10 0 rfl rfl ?_
      refine v_icmp_gt C 30 dX1_hasCells_13 (by decide) (fun c3 => ?_) (fun c3 => ?_)
      · refine v_iconst C 0 dX1_hasCells_30 (by decide) ?_
        exact v_retRi C dX1_hasCells_31 rfl (by first | (simp only [bI, *, ↓reduceIte]; done) | (simp [bI, *]; done) | (simp_all [bI]; done))
      · refine v_iload_n C dX1_hasCells_16 2 rfl ?_
        refine v_aload_n C dX1_hasCells_17 0 rfl ?_
        refine v_get C f_X1_29 dX1_hasCells_18 0 rfl rfl ?_
        refine v_iload_n C dX1_hasCells_21 1 rfl ?_
        refine v_isub C dX1_hasCells_22 ?_
        refine v_icmp_gt C 30 dX1_hasCells_23 (by decide) (fun c4 => ?_) (fun c4 => ?_)
        · refine v_iconst C 0 dX1_hasCells_30 (by decide) ?_
          exact v_retRi C dX1_hasCells_31 rfl (by first | (simp only [bI, *, ↓reduceIte]; done) | (simp [bI, *]; done) | (simp_all [bI]; done))
        · refine v_iconst C 1 dX1_hasCells_26 (by decide) ?_
          refine v_goto C 31 dX1_hasCells_27 (by decide) ?_
          exact v_retRi C dX1_hasCells_31 rfl (by first | (simp only [bI, *, ↓reduceIte]; done) | (simp [bI, *]; done) | (simp_all [bI]; done))
set_option maxHeartbeats 4000000 in
set_option maxRecDepth 100000 in
theorem m_X1_cut {l : Launch} {D : va_G} {cI cB cS : ClassId} (a : Nat → Nat) (k : Nat) (hs : Int32) (la : Int32) (lg : Int32) (v : Int32) : Ri l yX1_cut cX1_cut 2 (some .int) 0 0 D cI cB cS [.ref (a (10 + k)), .int v] [oS a k hs la lg] (fun r => r = cutF la v) := by
  refine Ri.of (by decide) (Nat.le_of_ble_eq_true rfl) ?_
  intro zp ze zs zm zb zt zc C
  refine v_lv0 [(0, .ref (a (10 + k))), (1, .int v)] rfl ?_
  refine v_aload_n C dX1_cut_0 0 rfl ?_
  refine v_get C f_X1_25 dX1_cut_1 0 rfl rfl ?_
  by_cases e1 : la = 0
  · refine v_lookup C 32 dX1_cut_4 (by decide) (by rw [e1] <;> rfl) (by decide) ?_
    refine v_iload_n C dX1_cut_32 1 rfl ?_
    refine v_i2b C dX1_cut_33 ?_
    exact v_retRi C dX1_cut_34 rfl (by simp [cutF, *])
  by_cases e2 : la = 1
  · refine v_lookup C 35 dX1_cut_4 (by decide) (by rw [e2] <;> rfl) (by decide) ?_
    refine v_iload_n C dX1_cut_35 1 rfl ?_
    refine v_i2s C dX1_cut_36 ?_
    exact v_retRi C dX1_cut_37 rfl (by simp [cutF, *])
  refine v_lookup C 38 dX1_cut_4 (by decide) (off := 34) (by rw [lv_osw e1 (by decide)]; rw [lv_osw e2 (by decide)]; rfl) (by decide) ?_
  refine v_iload_n C dX1_cut_38 1 rfl ?_
  exact v_retRi C dX1_cut_39 rfl (by simp [cutF, *])
set_option maxHeartbeats 4000000 in
set_option maxRecDepth 100000 in
theorem m_X1_faultOfLane {l : Launch} {D : va_G} {cI cB cS : ClassId} (a : Nat → Nat) (k : Nat) (hs : Int32) (la : Int32) (lg : Int32) (x : Int32) : Ri l yX1_faultOfLane cX1_faultOfLane 2 (some .int) 0 0 D cI cB cS [.ref (a (10 + k)), .int x] [oS a k hs la lg] (fun r => r = folF hs la x) := by
  refine Ri.of (by decide) (Nat.le_of_ble_eq_true rfl) ?_
  intro zp ze zs zm zb zt zc C
  refine v_lv0 [(0, .ref (a (10 + k))), (1, .int x)] rfl ?_
  refine v_aload_n C dX1_faultOfLane_0 0 rfl ?_
  refine v_get C f_X1_21 dX1_faultOfLane_1 0 rfl rfl ?_
  refine v_if_ne C 9 dX1_faultOfLane_4 (by decide) (fun c1 => ?_) (fun c1 => ?_)
  · refine v_aload_n C dX1_faultOfLane_9 0 rfl ?_
    refine v_get C f_X1_25 dX1_faultOfLane_10 0 rfl rfl ?_
    refine v_iload_n C dX1_faultOfLane_13 1 rfl ?_
    refine v_icmp_ne C 21 dX1_faultOfLane_14 (by decide) (fun c2 => ?_) (fun c2 => ?_)
    · refine v_iconst C 2 dX1_faultOfLane_21 (by decide) ?_
      exact v_retRi C dX1_faultOfLane_22 rfl (by simp [folF, *])
    · refine v_iconst C 0 dX1_faultOfLane_17 (by decide) ?_
      refine v_goto C 22 dX1_faultOfLane_18 (by decide) ?_
      exact v_retRi C dX1_faultOfLane_22 rfl (by simp [folF, *])
  · refine v_iconst C 1 dX1_faultOfLane_7 (by decide) ?_
    exact v_retRi C dX1_faultOfLane_8 rfl (by simp [folF, *])
set_option maxHeartbeats 4000000 in
set_option maxRecDepth 100000 in
theorem m_X1_faultOfCells {l : Launch} {D : va_G} {cI cB cS : ClassId} (a : Nat → Nat) (k : Nat) (hs : Int32) (la : Int32) (lg : Int32) (x : Int32) (i : Int32) (n : Int32) : Ri l yX1_faultOfCells cX1_faultOfCells 5 (some .int) 1 22 D cI cB cS [.ref (a (10 + k)), .int x, .int i, .int n] [oS a k hs la lg] (fun r => r = focF hs la lg x i n) := by
  refine Ri.of (by decide) (Nat.le_of_ble_eq_true rfl) ?_
  intro zp ze zs zm zb zt zc C
  refine v_lv0 [(0, .ref (a (10 + k))), (1, .int x), (2, .int i), (3, .int n)] rfl ?_
  refine v_aload_n C dX1_faultOfCells_0 0 rfl ?_
  refine v_iload_n C dX1_faultOfCells_1 1 rfl ?_
  refine v_callRi C l_X1_32 (m_X1_faultOfLane a k hs la lg x) (by decide) dX1_faultOfCells_2 [0] rfl 0 rfl rfl rfl (rest := []) rfl (Nat.le_of_ble_eq_true rfl) (by decide) (fun r1 h2 => ?_)
  subst h2
  refine v_istore C [(4, .int (folF hs la x)), (0, .ref (a (10 + k))), (1, .int x), (2, .int i), (3, .int n)] dX1_faultOfCells_5 (by decide) rfl ?_
  refine v_iload C dX1_faultOfCells_7 0 rfl ?_
  refine v_if_eq C 15 dX1_faultOfCells_9 (by decide) (fun c3 => ?_) (fun c3 => ?_)
  · refine v_iload_n C dX1_faultOfCells_15 4 rfl ?_
    refine v_if_ge C 21 dX1_faultOfCells_16 (by decide) (fun c4 => ?_) (fun c4 => ?_)
    · refine v_aload_n C dX1_faultOfCells_21 1 rfl ?_
      refine v_iload_n C dX1_faultOfCells_22 3 rfl ?_
      refine v_iload_n C dX1_faultOfCells_23 4 rfl ?_
      refine v_callRi C l_X1_36 (m_X1_hasCells a k hs la lg i n) (by decide) dX1_faultOfCells_24 [0] rfl 0 rfl rfl rfl (rest := []) rfl (Nat.le_of_ble_eq_true rfl) (by decide) (fun r5 h6 => ?_)
      subst h6
      by_cases c7 : ¬ i < 0 ∧ ¬ n < 0 ∧ ¬ lg < i ∧ ¬ lg - i < n
      · refine v_eqi 1 (bI_t c7) ?_
        refine v_if_eq C 34 dX1_faultOfCells_27 (by decide) (fun h => absurd h (by decide)) (fun _ => ?_)
        refine v_iconst C 0 dX1_faultOfCells_30 (by decide) ?_
        refine v_goto C 35 dX1_faultOfCells_31 (by decide) ?_
        exact v_retRi C dX1_faultOfCells_35 rfl (by first | (simp only [focF, *, ↓reduceIte]; done) | (simp [focF, *]; done) | (simp_all [focF]; done))
      · refine v_eqi 0 (bI_f c7) ?_
        refine v_if_eq C 34 dX1_faultOfCells_27 (by decide) (fun _ => ?_) (fun h => absurd h (by decide))
        refine v_iconst C 3 dX1_faultOfCells_34 (by decide) ?_
        exact v_retRi C dX1_faultOfCells_35 rfl (by first | (simp only [focF, *, ↓reduceIte]; done) | (simp [focF, *]; done) | (simp_all [focF]; done))
    · refine v_iconst C 4 dX1_faultOfCells_19 (by decide) ?_
      exact v_retRi C dX1_faultOfCells_20 rfl (by first | (simp only [focF, *, ↓reduceIte]; done) | (simp [focF, *]; done) | (simp_all [focF]; done))
  · refine v_iload C dX1_faultOfCells_12 0 rfl ?_
    exact v_retRi C dX1_faultOfCells_14 rfl (by first | (simp only [focF, *, ↓reduceIte]; done) | (simp [focF, *]; done) | (simp_all [focF]; done))
set_option maxHeartbeats 4000000 in
set_option maxRecDepth 100000 in
theorem m_X4_isSheet {l : Launch} {D : va_G} {cI cB cS : ClassId} (k : Int32) : Ri l yX4_isSheet cX4_isSheet 1 (some .boolean) 0 0 D cI cB cS [.int k] [] (fun r => r = bI (¬ k < 0 ∧ ¬ 4 ≤ k)) := by
  refine Ri.of (by decide) (Nat.le_of_ble_eq_true rfl) ?_
  intro zp ze zs zm zb zt zc C
  refine v_lv0 [(0, .int k)] rfl ?_
  refine v_iload_n C dX4_isSheet_0 0 rfl ?_
  refine v_if_lt C 13 dX4_isSheet_1 (by decide) (fun c1 => ?_) (fun c1 => ?_)
  · refine v_iconst C 0 dX4_isSheet_13 (by decide) ?_
    exact v_retRi C dX4_isSheet_14 rfl (by first | (simp only [bI, *, ↓reduceIte]; done) | (simp [bI, *]; done) | (simp_all [bI]; done))
  · refine v_iload_n C dX4_isSheet_4 0 rfl ?_
    refine v_iconst C 4 dX4_isSheet_5 (by decide) ?_
    refine v_icmp_ge C 13 dX4_isSheet_6 (by decide) (fun c2 => ?_) (fun c2 => ?_)
    · refine v_iconst C 0 dX4_isSheet_13 (by decide) ?_
      exact v_retRi C dX4_isSheet_14 rfl (by first | (simp only [bI, *, ↓reduceIte]; done) | (simp [bI, *]; done) | (simp_all [bI]; done))
    · refine v_iconst C 1 dX4_isSheet_9 (by decide) ?_
      refine v_goto C 14 dX4_isSheet_10 (by decide) ?_
      exact v_retRi C dX4_isSheet_14 rfl (by first | (simp only [bI, *, ↓reduceIte]; done) | (simp [bI, *]; done) | (simp_all [bI]; done))
set_option maxHeartbeats 4000000 in
set_option maxRecDepth 100000 in
theorem m_X4_isLane {l : Launch} {D : va_G} {cI cB cS : ClassId} (k : Int32) : Ri l yX4_isLane cX4_isLane 1 (some .boolean) 0 0 D cI cB cS [.int k] [] (fun r => r = bI (¬ k < 0 ∧ ¬ 2 < k)) := by
  refine Ri.of (by decide) (Nat.le_of_ble_eq_true rfl) ?_
  intro zp ze zs zm zb zt zc C
  refine v_lv0 [(0, .int k)] rfl ?_
  refine v_iload_n C dX4_isLane_0 0 rfl ?_
  refine v_if_lt C 13 dX4_isLane_1 (by decide) (fun c1 => ?_) (fun c1 => ?_)
  · refine v_iconst C 0 dX4_isLane_13 (by decide) ?_
    exact v_retRi C dX4_isLane_14 rfl (by first | (simp only [bI, *, ↓reduceIte]; done) | (simp [bI, *]; done) | (simp_all [bI]; done))
  · refine v_iload_n C dX4_isLane_4 0 rfl ?_
    refine v_iconst C 2 dX4_isLane_5 (by decide) ?_
    refine v_icmp_gt C 13 dX4_isLane_6 (by decide) (fun c2 => ?_) (fun c2 => ?_)
    · refine v_iconst C 0 dX4_isLane_13 (by decide) ?_
      exact v_retRi C dX4_isLane_14 rfl (by first | (simp only [bI, *, ↓reduceIte]; done) | (simp [bI, *]; done) | (simp_all [bI]; done))
    · refine v_iconst C 1 dX4_isLane_9 (by decide) ?_
      refine v_goto C 14 dX4_isLane_10 (by decide) ?_
      exact v_retRi C dX4_isLane_14 rfl (by first | (simp only [bI, *, ↓reduceIte]; done) | (simp [bI, *]; done) | (simp_all [bI]; done))
end
section
set_option maxHeartbeats 4000000 in
set_option maxRecDepth 100000 in
theorem m_J6_bitCount_0f7a4 {l : Launch} {D : va_G} {cI cB cS : ClassId} (x : Int32) : Ri l yJ6_bitCount_0f7a4 cJ6_bitCount_0f7a4 1 (some .int) 0 0 D cI cB cS [.int x] [] (fun r => r = bcF x) := by
  refine Ri.of (by decide) (Nat.le_of_ble_eq_true rfl) ?_
  intro zp ze zs zm zb zt zc C
  refine v_lv0 [(0, .int x)] rfl ?_
  refine v_iload_n C dJ6_bitCount_0f7a4_0 0 rfl ?_
  refine v_iload_n C dJ6_bitCount_0f7a4_1 0 rfl ?_
  refine v_iconst C 1 dJ6_bitCount_0f7a4_2 (by decide) ?_
  refine v_iushr C dJ6_bitCount_0f7a4_3 ?_
  refine v_ldcw C k_J6_265 dJ6_bitCount_0f7a4_4 ?_
  refine v_iand C dJ6_bitCount_0f7a4_7 ?_
  refine v_isub C dJ6_bitCount_0f7a4_8 ?_
  refine v_topi (fun y1 ey1 => ?_)
  refine v_istore_n C [(0, .int y1)] dJ6_bitCount_0f7a4_9 (by decide) rfl ?_
  refine v_iload_n C dJ6_bitCount_0f7a4_10 0 rfl ?_
  refine v_ldcw C k_J6_266 dJ6_bitCount_0f7a4_11 ?_
  refine v_iand C dJ6_bitCount_0f7a4_14 ?_
  refine v_iload_n C dJ6_bitCount_0f7a4_15 0 rfl ?_
  refine v_iconst C 2 dJ6_bitCount_0f7a4_16 (by decide) ?_
  refine v_iushr C dJ6_bitCount_0f7a4_17 ?_
  refine v_ldcw C k_J6_266 dJ6_bitCount_0f7a4_18 ?_
  refine v_iand C dJ6_bitCount_0f7a4_21 ?_
  refine v_iadd C dJ6_bitCount_0f7a4_22 ?_
  refine v_topi (fun y2 ey2 => ?_)
  refine v_istore_n C [(0, .int y2)] dJ6_bitCount_0f7a4_23 (by decide) rfl ?_
  refine v_iload_n C dJ6_bitCount_0f7a4_24 0 rfl ?_
  refine v_iload_n C dJ6_bitCount_0f7a4_25 0 rfl ?_
  refine v_iconst C 4 dJ6_bitCount_0f7a4_26 (by decide) ?_
  refine v_iushr C dJ6_bitCount_0f7a4_27 ?_
  refine v_iadd C dJ6_bitCount_0f7a4_28 ?_
  refine v_ldcw C k_J6_267 dJ6_bitCount_0f7a4_29 ?_
  refine v_iand C dJ6_bitCount_0f7a4_32 ?_
  refine v_topi (fun y3 ey3 => ?_)
  refine v_istore_n C [(0, .int y3)] dJ6_bitCount_0f7a4_33 (by decide) rfl ?_
  refine v_iload_n C dJ6_bitCount_0f7a4_34 0 rfl ?_
  refine v_iload_n C dJ6_bitCount_0f7a4_35 0 rfl ?_
  refine v_bipush C 8 dJ6_bitCount_0f7a4_36 (by decide) ?_
  refine v_iushr C dJ6_bitCount_0f7a4_38 ?_
  refine v_iadd C dJ6_bitCount_0f7a4_39 ?_
  refine v_topi (fun y4 ey4 => ?_)
  refine v_istore_n C [(0, .int y4)] dJ6_bitCount_0f7a4_40 (by decide) rfl ?_
  refine v_iload_n C dJ6_bitCount_0f7a4_41 0 rfl ?_
  refine v_iload_n C dJ6_bitCount_0f7a4_42 0 rfl ?_
  refine v_bipush C 16 dJ6_bitCount_0f7a4_43 (by decide) ?_
  refine v_iushr C dJ6_bitCount_0f7a4_45 ?_
  refine v_iadd C dJ6_bitCount_0f7a4_46 ?_
  refine v_topi (fun y5 ey5 => ?_)
  refine v_istore_n C [(0, .int y5)] dJ6_bitCount_0f7a4_47 (by decide) rfl ?_
  refine v_iload_n C dJ6_bitCount_0f7a4_48 0 rfl ?_
  refine v_bipush C 63 dJ6_bitCount_0f7a4_49 (by decide) ?_
  refine v_iand C dJ6_bitCount_0f7a4_51 ?_
  exact v_retRi C dJ6_bitCount_0f7a4_52 rfl (by subst_vars; rfl)
def flF (x : Int32) (f : Nat → Int32) (i : Nat) : Nat → Int32 := fun j => if j < i then x else f j
theorem flF_s (x : Int32) (f : Nat → Int32) (i : Nat) : upd (flF x f i) i x = flF x f (i + 1) := by
  funext j
  unfold upd flF
  by_cases h : j = i
  · subst h; simp
  · by_cases h2 : j < i
    · simp [h, h2, Nat.lt_succ_of_lt h2]
    · have : ¬ j < i + 1 := by omega
      simp [h, h2, this]
theorem flF_0 (x : Int32) (f : Nat → Int32) : flF x f 0 = f := by funext j; simp [flF]
set_option maxHeartbeats 4000000 in
set_option maxRecDepth 100000 in
theorem m_J7_fill_53178 {l : Launch} {D : va_G} {cI cB cS : ClassId} (q n : Nat) (q_ : Nat → Int32) (x : Int32) (hn : n < 2 ^ 31) : Mv l yJ7_fill_53178 cJ7_fill_53178 4 0 0 D cI cB cS [.ref (q), .int x] [ia (q) cI n q_] (fun w => w = [ia (q) cI n (fun _ => x)]) := by
  refine Mv.of (by decide) (Nat.le_of_ble_eq_true rfl) ?_
  intro zp ze zs zm zb zt zc zz zA hA C hnm
  refine v_lv0 [(0, .ref (q)), (1, .int x)] rfl ?_
  refine v_iconst C 0 dJ7_fill_53178_0 (by decide) ?_
  refine v_istore_n C [(2, .int 0), (0, .ref (q)), (1, .int x)] dJ7_fill_53178_1 (by decide) rfl ?_
  refine v_aload_n C dJ7_fill_53178_2 1 rfl ?_
  refine v_alen C dJ7_fill_53178_3 0 rfl ?_
  refine v_istore_n C [(3, .int (nI n)), (2, .int 0), (0, .ref (q)), (1, .int x)] dJ7_fill_53178_4 (by decide) rfl ?_
  rw [← flF_0 x q_]
  have lp : ∀ (n_2 : Nat) (i : Nat), n - i < n_2 → (i ≤ n) → V zp l ze (rmOf 0 0) zs zm [.ref (q), .int x].toArray zb zt zc D (IM zA zs) (QMv zb [.ref (q), .int x].toArray zs D cI cB cS [ia (q) cI n q_] zz (fun w => w = [ia (q) cI n (fun _ => x)])) 0 0 4 [ia (q) cI n (flF x q_ i)] [(2, .int (nI i)), (3, .int (nI n)), (0, .ref (q)), (1, .int x)] 5 [] := by
    intro n_2
    induction n_2 with
    | zero => intro i b1; exact absurd b1 (by omega)
    | succ n_2 ihn_2 =>
      intro i b1 hi
      refine v_iload_n C dJ7_fill_53178_5 0 rfl ?_
      refine v_iload_n C dJ7_fill_53178_6 1 rfl ?_
      refine v_icmp_ge C 20 dJ7_fill_53178_7 (by decide) (fun c3 => ?_) (fun c3 => ?_)
      · have nc3 : n ≤ i := nI_leD c3 (by omega)
        refine v_ext [ia (q) cI n (fun _ => x)] 0 (fun _ => x) rfl (fun j hj => (by have t : j < i := (by omega); simp [flF, t])) rfl ?_
        exact v_retv C hA dJ7_fill_53178_20 (rfl)
      · have nc3 : i < n := nI_ltD c3 (by omega)
        refine v_aload_n C dJ7_fill_53178_10 2 rfl ?_
        refine v_iload_n C dJ7_fill_53178_11 0 rfl ?_
        refine v_iload_n C dJ7_fill_53178_12 3 rfl ?_
        refine v_iastN C [ia (q) cI n (upd (flF x q_ i) i x)] dJ7_fill_53178_13 0 rfl i rfl (by omega) (by omega) rfl ?_
        refine v_ws0 [ia (q) cI n (flF x q_ (i + 1))] (by rw [flF_s]) ?_
        refine v_iinc C (nI (i + 1)) [(2, .int (nI (i + 1))), (3, .int (nI n)), (0, .ref (q)), (1, .int x)] 0 dJ7_fill_53178_14 rfl (nI_inc _) (by decide) rfl ?_
        refine v_goto C 5 dJ7_fill_53178_17 (by decide) ?_
        exact ihn_2 (i + 1) (by omega) (by omega)
  refine v_loc [1, 0, 2, 3] (lv' := [(2, .int 0), (3, .int (nI n)), (0, .ref (q)), (1, .int x)]) rfl ?_
  exact lp (n - 0 + 1) 0 (by omega) (by omega)
set_option maxHeartbeats 4000000 in
set_option maxRecDepth 100000 in
theorem m_X4_bitOf {l : Launch} {D : va_G} {cI cB cS : ClassId} (m j : Nat) (hm : m < 64) (hj : j < 6) : Ri l yX4_bitOf cX4_bitOf 2 (some .int) 0 0 D cI cB cS [.int (nI m), .int (nI j)] [] (fun r => r = bI (m.testBit j = true)) := by
  refine Ri.of (by decide) (Nat.le_of_ble_eq_true rfl) ?_
  intro zp ze zs zm zb zt zc C
  refine v_lv0 [(0, .int (nI m)), (1, .int (nI j))] rfl ?_
  refine v_iload_n C dX4_bitOf_0 0 rfl ?_
  refine v_iload_n C dX4_bitOf_1 1 rfl ?_
  refine v_ishr C dX4_bitOf_2 ?_
  refine v_iconst C 1 dX4_bitOf_3 (by decide) ?_
  refine v_iand C dX4_bitOf_4 ?_
  exact v_retRi C dX4_bitOf_5 rfl (by rw [raw_bit m hm j hj]; rfl)
set_option maxHeartbeats 4000000 in
set_option maxRecDepth 100000 in
theorem m_X4_withBit {l : Launch} {D : va_G} {cI cB cS : ClassId} (m j : Nat) (is : Int32) (hm : m < 64) (hj : j < 6) : Ri l yX4_withBit cX4_withBit 3 (some .int) 0 0 D cI cB cS [.int (nI m), .int (nI j), .int is] [] (fun r => r = nI (wbN m j is)) := by
  refine Ri.of (by decide) (Nat.le_of_ble_eq_true rfl) ?_
  intro zp ze zs zm zb zt zc C
  refine v_lv0 [(0, .int (nI m)), (1, .int (nI j)), (2, .int is)] rfl ?_
  refine v_iload_n C dX4_withBit_0 2 rfl ?_
  refine v_if_eq C 12 dX4_withBit_1 (by decide) (fun c1 => ?_) (fun c1 => ?_)
  · refine v_iload_n C dX4_withBit_12 0 rfl ?_
    refine v_iconst C 1 dX4_withBit_13 (by decide) ?_
    refine v_iload_n C dX4_withBit_14 1 rfl ?_
    refine v_ishl C dX4_withBit_15 ?_
    refine v_iconst C (-1) dX4_withBit_16 (by decide) ?_
    refine v_ixor C dX4_withBit_17 ?_
    refine v_iand C dX4_withBit_18 ?_
    exact v_retRi C dX4_withBit_19 rfl (by simp only [wbN]; first | (rw [raw_set m hm j hj, if_neg (by assumption)]) | (rw [raw_clr m hm j hj, if_pos (by assumption)]))
  · refine v_iload_n C dX4_withBit_4 0 rfl ?_
    refine v_iconst C 1 dX4_withBit_5 (by decide) ?_
    refine v_iload_n C dX4_withBit_6 1 rfl ?_
    refine v_ishl C dX4_withBit_7 ?_
    refine v_ior C dX4_withBit_8 ?_
    refine v_goto C 19 dX4_withBit_9 (by decide) ?_
    exact v_retRi C dX4_withBit_19 rfl (by simp only [wbN]; first | (rw [raw_set m hm j hj, if_neg (by assumption)]) | (rw [raw_clr m hm j hj, if_pos (by assumption)]))
set_option maxHeartbeats 4000000 in
set_option maxRecDepth 100000 in
theorem m_X4_hasFewer {l : Launch} {D : va_G} {cI cB cS : ClassId} (x : Int32) (y : Int32) : Ri l yX4_hasFewer cX4_hasFewer 2 (some .boolean) 1 20 D cI cB cS [.int x, .int y] [] (fun r => r = bI (¬ bcF y ≤ bcF x)) := by
  refine Ri.of (by decide) (Nat.le_of_ble_eq_true rfl) ?_
  intro zp ze zs zm zb zt zc C
  refine v_lv0 [(0, .int x), (1, .int y)] rfl ?_
  refine v_iload_n C dX4_hasFewer_0 0 rfl ?_
  refine v_callSi C l_X4_230 (m_J6_bitCount_0f7a4 x) (by decide) dX4_hasFewer_1 [] rfl rfl (rest := []) rfl (Nat.le_of_ble_eq_true rfl) (by decide) (fun r1 h2 => ?_)
  subst h2
  refine v_iload_n C dX4_hasFewer_4 1 rfl ?_
  refine v_callSi C l_X4_230 (m_J6_bitCount_0f7a4 y) (by decide) dX4_hasFewer_5 [] rfl rfl (rest := [.int (bcF x)]) rfl (Nat.le_of_ble_eq_true rfl) (by decide) (fun r3 h4 => ?_)
  subst h4
  refine v_icmp_ge C 15 dX4_hasFewer_8 (by decide) (fun c5 => ?_) (fun c5 => ?_)
  · refine v_iconst C 0 dX4_hasFewer_15 (by decide) ?_
    exact v_retRi C dX4_hasFewer_16 rfl (by simp [bI, *])
  · refine v_iconst C 1 dX4_hasFewer_11 (by decide) ?_
    refine v_goto C 16 dX4_hasFewer_12 (by decide) ?_
    exact v_retRi C dX4_hasFewer_16 rfl (by simp [bI, *])
end
section
set_option maxHeartbeats 4000000 in
set_option maxRecDepth 100000 in
theorem m_X2_voters {l : Launch} {D : va_G} {cI cB cS : ClassId} (a : Nat → Nat) (st nj : Nat) (ln : Int32) (lw : Int32) (ss : Int32) (un : Int32) (en : Int32) (se : Int32) (si : Int32) (ca : Int32) (la : Int32) (sw : Int32) (sk : Int32) (rd : Int32) (hnj : nj ≤ 5) (hst : st < 32) : Ri l yX2_voters cX2_voters 2 (some .int) 0 0 D cI cB cS [.ref (a 4)] [oT a ln lw ss (nI st) un en se, oK a si (nI nj) ca la sw sk rd] (fun r => r = nI (mk (voB st) nj)) := by
  refine Ri.of (by decide) (Nat.le_of_ble_eq_true rfl) ?_
  intro zp ze zs zm zb zt zc C
  refine v_lv0 [(0, .ref (a 4))] rfl ?_
  refine v_iconst C 1 dX2_voters_0 (by decide) ?_
  refine v_aload_n C dX2_voters_1 0 rfl ?_
  refine v_get C f_X2_24 dX2_voters_2 0 rfl rfl ?_
  refine v_get C f_X2_102 dX2_voters_5 1 rfl rfl ?_
  refine v_ishl C dX2_voters_8 ?_
  refine v_iconst C 1 dX2_voters_9 (by decide) ?_
  refine v_isub C dX2_voters_10 ?_
  refine v_istore_n C [(1, .int ((1 <<< ((nI nj) &&& 31)) - 1)), (0, .ref (a 4))] dX2_voters_11 (by decide) rfl ?_
  refine v_iload_n C dX2_voters_12 0 rfl ?_
  refine v_aload_n C dX2_voters_13 1 rfl ?_
  refine v_get C f_X2_49 dX2_voters_14 0 rfl rfl ?_
  refine v_iconst C (-1) dX2_voters_17 (by decide) ?_
  refine v_ixor C dX2_voters_18 ?_
  refine v_iand C dX2_voters_19 ?_
  exact v_retRi C dX2_voters_20 rfl (by rw [raw_vo nj (by omega) st hst])
set_option maxHeartbeats 4000000 in
set_option maxRecDepth 100000 in
theorem m_X2_votesGuilty {l : Launch} {D : va_G} {cI cB cS : ClassId} (a : Nat → Nat) (un j : Nat) (ln : Int32) (lw : Int32) (ss : Int32) (sx : Int32) (en : Int32) (se : Int32) (tk : Nat → Int32) (si : Int32) (ju : Int32) (ca : Int32) (la : Int32) (sw : Int32) (sk : Int32) (rd : Int32) (ag : Nat → Int32) (cr : Int32) (mi : Int32) (hj : j < 5) (hun : un < 32) : Mi l yX2_votesGuilty cX2_votesGuilty 4 (some .boolean) 0 0 D cI cB cS [.ref (a 4), .int (nI j), .int cr, .int mi] [oT a ln lw ss sx (nI un) en se, ia (a 31) cI 5 tk, oK a si ju ca la sw sk rd, ia (a 21) cI 5 ag] (fun r w => r = bI (¬ (tk j = 2 ∧ un.testBit j = true) ∧ (¬ cr = 0 ∨ (tk j = 1 ∧ ¬ mi < 5 * ag j))) ∧ w = [oT a ln lw ss sx (nI (if tk j = 2 ∧ un.testBit j = true then clr un j else un)) en se, ia (a 31) cI 5 tk, oK a si ju ca la sw sk rd, ia (a 21) cI 5 ag]) := by
  refine Mi.of (by decide) (Nat.le_of_ble_eq_true rfl) ?_
  intro zp ze zs zm zb zt zc zz zA hA C hnm
  refine v_lv0 [(0, .ref (a 4)), (1, .int (nI j)), (2, .int cr), (3, .int mi)] rfl ?_
  refine v_aload_n C dX2_votesGuilty_0 0 rfl ?_
  refine v_get C f_X2_9 dX2_votesGuilty_1 0 rfl rfl ?_
  refine v_iload_n C dX2_votesGuilty_4 1 rfl ?_
  refine v_ialdN C dX2_votesGuilty_5 1 rfl j rfl (by omega) (by decide) ?_
  refine v_iconst C 2 dX2_votesGuilty_6 (by decide) ?_
  refine v_icmp_ne C 37 dX2_votesGuilty_7 (by decide) (fun c1 => ?_) (fun c1 => ?_)
  · refine v_iload_n C dX2_votesGuilty_37 2 rfl ?_
    refine v_if_ne C 66 dX2_votesGuilty_38 (by decide) (fun c2 => ?_) (fun c2 => ?_)
    · refine v_iconst C 1 dX2_votesGuilty_66 (by decide) ?_
      refine v_goto C 71 dX2_votesGuilty_67 (by decide) ?_
      exact v_reti C hA dX2_votesGuilty_71 rfl (by refine ⟨?_, ?_⟩ <;> first | (simp [bI, *]; done) | (simp_all [bI]; done))
    · refine v_aload_n C dX2_votesGuilty_41 0 rfl ?_
      refine v_get C f_X2_9 dX2_votesGuilty_42 0 rfl rfl ?_
      refine v_iload_n C dX2_votesGuilty_45 1 rfl ?_
      refine v_ialdN C dX2_votesGuilty_46 1 rfl j rfl (by omega) (by decide) ?_
      refine v_iconst C 1 dX2_votesGuilty_47 (by decide) ?_
      refine v_icmp_ne C 70 dX2_votesGuilty_48 (by decide) (fun c3 => ?_) (fun c3 => ?_)
      · refine v_iconst C 0 dX2_votesGuilty_70 (by decide) ?_
        exact v_reti C hA dX2_votesGuilty_71 rfl (by refine ⟨?_, ?_⟩ <;> first | (simp [bI, *]; done) | (simp_all [bI]; done))
      · refine v_iload_n C dX2_votesGuilty_51 3 rfl ?_
        refine v_iconst C 5 dX2_votesGuilty_52 (by decide) ?_
        refine v_aload_n C dX2_votesGuilty_53 0 rfl ?_
        refine v_get C f_X2_24 dX2_votesGuilty_54 0 rfl rfl ?_
        refine v_get C f_X2_112 dX2_votesGuilty_57 2 rfl rfl ?_
        refine v_iload_n C dX2_votesGuilty_60 1 rfl ?_
        refine v_ialdN C dX2_votesGuilty_61 3 rfl j rfl (by omega) (by decide) ?_
        refine v_imul C dX2_votesGuilty_62 ?_
        refine v_icmp_lt C 70 dX2_votesGuilty_63 (by decide) (fun c4 => ?_) (fun c4 => ?_)
        · refine v_iconst C 0 dX2_votesGuilty_70 (by decide) ?_
          exact v_reti C hA dX2_votesGuilty_71 rfl (by refine ⟨?_, ?_⟩ <;> first | (simp [bI, *]; done) | (simp_all [bI]; done))
        · refine v_iconst C 1 dX2_votesGuilty_66 (by decide) ?_
          refine v_goto C 71 dX2_votesGuilty_67 (by decide) ?_
          exact v_reti C hA dX2_votesGuilty_71 rfl (by refine ⟨?_, ?_⟩ <;> first | (simp [bI, *]; done) | (simp_all [bI]; done))
  · refine v_aload_n C dX2_votesGuilty_10 0 rfl ?_
    refine v_get C f_X2_50 dX2_votesGuilty_11 0 rfl rfl ?_
    refine v_iconst C 1 dX2_votesGuilty_14 (by decide) ?_
    refine v_iload_n C dX2_votesGuilty_15 1 rfl ?_
    refine v_ishl C dX2_votesGuilty_16 ?_
    refine v_iand C dX2_votesGuilty_17 ?_
    refine v_if_eq C 37 dX2_votesGuilty_18 (by decide) (fun c5 => ?_) (fun c5 => ?_)
    · have hb : un.testBit j = false := (raw_and un (by omega) j (by omega)).mp c5
      refine v_iload_n C dX2_votesGuilty_37 2 rfl ?_
      refine v_if_ne C 66 dX2_votesGuilty_38 (by decide) (fun c6 => ?_) (fun c6 => ?_)
      · refine v_iconst C 1 dX2_votesGuilty_66 (by decide) ?_
        refine v_goto C 71 dX2_votesGuilty_67 (by decide) ?_
        exact v_reti C hA dX2_votesGuilty_71 rfl (by refine ⟨?_, ?_⟩ <;> first | (simp [bI, *]; done) | (simp_all [bI]; done))
      · refine v_aload_n C dX2_votesGuilty_41 0 rfl ?_
        refine v_get C f_X2_9 dX2_votesGuilty_42 0 rfl rfl ?_
        refine v_iload_n C dX2_votesGuilty_45 1 rfl ?_
        refine v_ialdN C dX2_votesGuilty_46 1 rfl j rfl (by omega) (by decide) ?_
        refine v_iconst C 1 dX2_votesGuilty_47 (by decide) ?_
        refine v_icmp_ne C 70 dX2_votesGuilty_48 (by decide) (fun c7 => ?_) (fun c7 => ?_)
        · refine v_iconst C 0 dX2_votesGuilty_70 (by decide) ?_
          exact v_reti C hA dX2_votesGuilty_71 rfl (by refine ⟨?_, ?_⟩ <;> first | (simp [bI, *]; done) | (simp_all [bI]; done))
        · refine v_iload_n C dX2_votesGuilty_51 3 rfl ?_
          refine v_iconst C 5 dX2_votesGuilty_52 (by decide) ?_
          refine v_aload_n C dX2_votesGuilty_53 0 rfl ?_
          refine v_get C f_X2_24 dX2_votesGuilty_54 0 rfl rfl ?_
          refine v_get C f_X2_112 dX2_votesGuilty_57 2 rfl rfl ?_
          refine v_iload_n C dX2_votesGuilty_60 1 rfl ?_
          refine v_ialdN C dX2_votesGuilty_61 3 rfl j rfl (by omega) (by decide) ?_
          refine v_imul C dX2_votesGuilty_62 ?_
          refine v_icmp_lt C 70 dX2_votesGuilty_63 (by decide) (fun c8 => ?_) (fun c8 => ?_)
          · refine v_iconst C 0 dX2_votesGuilty_70 (by decide) ?_
            exact v_reti C hA dX2_votesGuilty_71 rfl (by refine ⟨?_, ?_⟩ <;> first | (simp [bI, *]; done) | (simp_all [bI]; done))
          · refine v_iconst C 1 dX2_votesGuilty_66 (by decide) ?_
            refine v_goto C 71 dX2_votesGuilty_67 (by decide) ?_
            exact v_reti C hA dX2_votesGuilty_71 rfl (by refine ⟨?_, ?_⟩ <;> first | (simp [bI, *]; done) | (simp_all [bI]; done))
    · have hb : un.testBit j = true := by cases hb : un.testBit j with | true => rfl | false => exact absurd ((raw_and un (by omega) j (by omega)).mpr hb) c5
      refine v_aload_n C dX2_votesGuilty_21 0 rfl ?_
      refine v_dup C dX2_votesGuilty_22 rfl ?_
      refine v_get C f_X2_50 dX2_votesGuilty_23 0 rfl rfl ?_
      refine v_iconst C 1 dX2_votesGuilty_26 (by decide) ?_
      refine v_iload_n C dX2_votesGuilty_27 1 rfl ?_
      refine v_ishl C dX2_votesGuilty_28 ?_
      refine v_iconst C (-1) dX2_votesGuilty_29 (by decide) ?_
      refine v_ixor C dX2_votesGuilty_30 ?_
      refine v_iand C dX2_votesGuilty_31 ?_
      refine v_put C p_X2_50 [oT a ln lw ss sx ((nI un) &&& ((1 <<< ((nI j) &&& 31)) ^^^ (-1))) en se, ia (a 31) cI 5 tk, oK a si ju ca la sw sk rd, ia (a 21) cI 5 ag] dX2_votesGuilty_32 0 rfl rfl rfl (Nat.le_of_ble_eq_true rfl) rfl ?_
      refine v_ws0 [oT a ln lw ss sx (nI (clr un j)) en se, ia (a 31) cI 5 tk, oK a si ju ca la sw sk rd, ia (a 21) cI 5 ag] (by rw [raw_clr un (by omega) j (by omega)]) ?_
      refine v_iconst C 0 dX2_votesGuilty_35 (by decide) ?_
      exact v_reti C hA dX2_votesGuilty_36 rfl (by refine ⟨?_, ?_⟩ <;> first | (simp [bI, *]; done) | (simp_all [bI]; done))
set_option maxHeartbeats 4000000 in
set_option maxRecDepth 100000 in
theorem m_X2_guiltyVotes {l : Launch} {D : va_G} {cI cB cS : ClassId} (a : Nat → Nat) (d un st lw nj : Nat) (ln : Int32) (ss : Int32) (en : Int32) (se : Int32) (tk : Nat → Int32) (si : Int32) (ca : Int32) (la : Int32) (sw : Int32) (sk : Int32) (rd : Int32) (ag : Nat → Int32) (mi : Int32) (hnj : nj ≤ 5) (hun : un < 2 ^ nj) (hst : st < 32) (hlw : lw < 64) (hd : d < 6) (hp5 : 2 ^ nj ≤ 32) : Mi l yX2_guiltyVotes cX2_guiltyVotes 7 (some .int) 1 23 D cI cB cS [.ref (a 4), .int (nI d), .int mi] [oT a ln (nI lw) ss (nI st) (nI un) en se, ia (a 31) cI 5 tk, oK a si (nI nj) ca la sw sk rd, ia (a 21) cI 5 ag] (fun r w => r = nI (mk (gB tk ag un st (lw.testBit d) mi) nj) ∧ w = [oT a ln (nI lw) ss (nI st) (nI (unF nj tk un st)) en se, ia (a 31) cI 5 tk, oK a si (nI nj) ca la sw sk rd, ia (a 21) cI 5 ag]) := by
  refine Mi.of (by decide) (Nat.le_of_ble_eq_true rfl) ?_
  intro zp ze zs zm zb zt zc zz zA hA C hnm
  refine v_lv0 [(0, .ref (a 4)), (1, .int (nI d)), (2, .int mi)] rfl ?_
  refine v_aload_n C dX2_guiltyVotes_0 0 rfl ?_
  refine v_get C f_X2_41 dX2_guiltyVotes_1 0 rfl rfl ?_
  refine v_iload_n C dX2_guiltyVotes_4 1 rfl ?_
  refine v_callSi C l_X2_105 (m_X4_bitOf lw d (by assumption) (by assumption)) (by decide) dX2_guiltyVotes_5 [] rfl rfl (rest := []) rfl (Nat.le_of_ble_eq_true rfl) (by decide) (fun r1 h2 => ?_)
  subst h2
  by_cases c3 : lw.testBit d = true
  · refine v_eqi 1 (bI_t c3) ?_
    refine v_iconst C 1 dX2_guiltyVotes_8 (by decide) ?_
    refine v_icmp_ne C 16 dX2_guiltyVotes_9 (by decide) (fun h => absurd h (by decide)) (fun _ => ?_)
    refine v_iconst C 1 dX2_guiltyVotes_12 (by decide) ?_
    refine v_goto C 17 dX2_guiltyVotes_13 (by decide) ?_
    refine v_istore_n C [(3, .int 1), (0, .ref (a 4)), (1, .int (nI d)), (2, .int mi)] dX2_guiltyVotes_17 (by decide) rfl ?_
    refine v_aload_n C dX2_guiltyVotes_18 1 rfl ?_
    refine v_callRi C l_X2_95 (m_X2_voters a st nj ln (nI lw) ss (nI un) en se si ca la sw sk rd hnj hst) (by decide) dX2_guiltyVotes_19 [0, 2] rfl 0 rfl rfl rfl (rest := []) rfl (Nat.le_of_ble_eq_true rfl) (by decide) (fun r4 h5 => ?_)
    subst h5
    refine v_istore C [(4, .int (nI (mk (voB st) nj))), (3, .int 1), (0, .ref (a 4)), (1, .int (nI d)), (2, .int mi)] dX2_guiltyVotes_22 (by decide) rfl ?_
    refine v_iconst C 0 dX2_guiltyVotes_24 (by decide) ?_
    refine v_istore C [(5, .int 0), (4, .int (nI (mk (voB st) nj))), (3, .int 1), (0, .ref (a 4)), (1, .int (nI d)), (2, .int mi)] dX2_guiltyVotes_25 (by decide) rfl ?_
    refine v_iconst C 0 dX2_guiltyVotes_27 (by decide) ?_
    refine v_istore C [(6, .int 0), (5, .int 0), (4, .int (nI (mk (voB st) nj))), (3, .int 1), (0, .ref (a 4)), (1, .int (nI d)), (2, .int mi)] dX2_guiltyVotes_28 (by decide) rfl ?_
    have lp : ∀ (n_7 : Nat) (i : Nat) (u : Nat) (g : Nat), nj - i < n_7 → i ≤ nj → u = mk (unBi tk un st i) nj → g = mk (gB tk ag un st (lw.testBit d) mi) i → V zp l ze (rmOf 1 23) zs zm [.ref (a 4), .int (nI d), .int mi].toArray zb zt zc D (IM zA zs) (QMi zb [.ref (a 4), .int (nI d), .int mi].toArray zs D cI cB cS [oT a ln (nI lw) ss (nI st) (nI un) en se, ia (a 31) cI 5 tk, oK a si (nI nj) ca la sw sk rd, ia (a 21) cI 5 ag] zz (fun r w => r = nI (mk (gB tk ag un st (lw.testBit d) mi) nj) ∧ w = [oT a ln (nI lw) ss (nI st) (nI (unF nj tk un st)) en se, ia (a 31) cI 5 tk, oK a si (nI nj) ca la sw sk rd, ia (a 21) cI 5 ag])) 0 0 7 [oT a ln (nI lw) ss (nI st) (nI u) en se, ia (a 31) cI 5 tk, oK a si (nI nj) ca la sw sk rd, ia (a 21) cI 5 ag] [(6, .int (nI i)), (5, .int (nI g)), (4, .int (nI (mk (voB st) nj))), (3, .int 1), (0, .ref (a 4)), (1, .int (nI d)), (2, .int mi)] 30 [] := by
      intro n_7
      induction n_7 with
      | zero => intro i u g b6; exact absurd b6 (by omega)
      | succ n_7 ihn_7 =>
        intro i u g b6 hi hu hg
        refine v_iload C dX2_guiltyVotes_30 0 rfl ?_
        refine v_aload_n C dX2_guiltyVotes_32 4 rfl ?_
        refine v_get C f_X2_24 dX2_guiltyVotes_33 0 rfl rfl ?_
        refine v_get C f_X2_102 dX2_guiltyVotes_36 2 rfl rfl ?_
        refine v_icmp_ge C 79 dX2_guiltyVotes_39 (by decide) (fun c8 => ?_) (fun c8 => ?_)
        · have nc8 : nj ≤ i := nI_leD c8 (by omega)
          have hie : i = nj := by omega
          refine v_iload C dX2_guiltyVotes_79 1 rfl ?_
          exact v_reti C hA dX2_guiltyVotes_81 rfl (⟨by rw [hg, hie], by rw [hu, hie, un_end]⟩)
        · have nc8 : i < nj := nI_ltD c8 (by omega)
          have hin : i < nj := nc8
          refine v_iload C dX2_guiltyVotes_42 2 rfl ?_
          refine v_iload C dX2_guiltyVotes_44 0 rfl ?_
          refine v_callSi C l_X2_105 (m_X4_bitOf (mk (voB st) nj) i (by have := mk_lt (voB st) nj; omega) (by omega)) (by decide) dX2_guiltyVotes_46 [] rfl rfl (rest := []) rfl (Nat.le_of_ble_eq_true rfl) (by decide) (fun r9 h10 => ?_)
          subst h10
          by_cases c11 : (mk (voB st) nj).testBit i = true
          · refine v_eqi 1 (bI_t c11) ?_
            refine v_iconst C 1 dX2_guiltyVotes_49 (by decide) ?_
            refine v_icmp_ne C 73 dX2_guiltyVotes_50 (by decide) (fun h => absurd h (by decide)) (fun _ => ?_)
            refine v_aload_n C dX2_guiltyVotes_53 4 rfl ?_
            refine v_iload C dX2_guiltyVotes_54 0 rfl ?_
            refine v_iload_n C dX2_guiltyVotes_56 3 rfl ?_
            refine v_iload_n C dX2_guiltyVotes_57 6 rfl ?_
            refine v_callMi C l_X2_108 (m_X2_votesGuilty a u i ln (nI lw) ss (nI st) en se tk si (nI nj) ca la sw sk rd ag 1 mi (by omega) (by have := mk_lt (unBi tk un st i) nj; omega)) (by decide) dX2_guiltyVotes_58 [0, 1, 2, 3] [] (wr := []) (by decide) rfl rfl (by decide) (by decide) 0 rfl rfl rfl (rest := []) rfl (Nat.le_of_ble_eq_true rfl) (by decide) (fun r14 w12 h13 => ?_)
            obtain ⟨rfl, rfl⟩ := h13
            refine v_ws0 [oT a ln (nI lw) ss (nI st) (nI (if tk i = 2 ∧ u.testBit i = true then clr u i else u)) en se, ia (a 31) cI 5 tk, oK a si (nI nj) ca la sw sk rd, ia (a 21) cI 5 ag] rfl ?_
            by_cases c15 : ¬ (tk i = 2 ∧ u.testBit i = true) ∧ (¬ (1 : Int32) = 0 ∨ (tk i = 1 ∧ ¬ mi < 5 * ag i))
            · refine v_eqi 1 (bI_t c15) ?_
              refine v_if_eq C 73 dX2_guiltyVotes_61 (by decide) (fun h => absurd h (by decide)) (fun _ => ?_)
              refine v_iload C dX2_guiltyVotes_64 1 rfl ?_
              refine v_iconst C 1 dX2_guiltyVotes_66 (by decide) ?_
              refine v_iload C dX2_guiltyVotes_67 0 rfl ?_
              refine v_ishl C dX2_guiltyVotes_69 ?_
              refine v_ior C dX2_guiltyVotes_70 ?_
              refine v_eqi (nI (set1 g i)) (raw_set g (by have := mk_lt (gB tk ag un st (lw.testBit d) mi) i; have := Nat.pow_le_pow_right (n := 2) (by omega) (show i ≤ 5 by omega); omega) i (by omega)) ?_
              refine v_istore C [(5, .int (nI (set1 g i))), (6, .int (nI i)), (4, .int (nI (mk (voB st) nj))), (3, .int 1), (0, .ref (a 4)), (1, .int (nI d)), (2, .int mi)] dX2_guiltyVotes_71 (by decide) rfl ?_
              refine v_iinc C (nI (i + 1)) [(6, .int (nI (i + 1))), (5, .int (nI (set1 g i))), (4, .int (nI (mk (voB st) nj))), (3, .int 1), (0, .ref (a 4)), (1, .int (nI d)), (2, .int mi)] 1 dX2_guiltyVotes_73 rfl (nI_inc _) (by decide) rfl ?_
              refine v_goto C 30 dX2_guiltyVotes_76 (by decide) ?_
              have hv : voB st i = true := by have q := c11; rw [mk_bit] at q; simp [hin] at q; exact q
              have ht : (mk (unBi tk un st i) nj).testBit i = un.testBit i := un_at hin
              exact ihn_7 (i + 1) (if tk i = 2 ∧ u.testBit i = true then clr u i else u) (set1 g i) (by omega) (by omega) (by rw [hu]; exact un_vote hnj hin hv) (by rw [hg]; exact set1_mk (by omega) (by have q := c15; rw [hu, ht] at q; exact (gB_iff hv (by simp [c3])).mpr q))
            · refine v_eqi 0 (bI_f c15) ?_
              refine v_if_eq C 73 dX2_guiltyVotes_61 (by decide) (fun _ => ?_) (fun h => absurd h (by decide))
              refine v_iinc C (nI (i + 1)) [(6, .int (nI (i + 1))), (5, .int (nI g)), (4, .int (nI (mk (voB st) nj))), (3, .int 1), (0, .ref (a 4)), (1, .int (nI d)), (2, .int mi)] 0 dX2_guiltyVotes_73 rfl (nI_inc _) (by decide) rfl ?_
              refine v_goto C 30 dX2_guiltyVotes_76 (by decide) ?_
              have hv : voB st i = true := by have q := c11; rw [mk_bit] at q; simp [hin] at q; exact q
              have ht : (mk (unBi tk un st i) nj).testBit i = un.testBit i := un_at hin
              exact ihn_7 (i + 1) (if tk i = 2 ∧ u.testBit i = true then clr u i else u) g (by omega) (by omega) (by rw [hu]; exact un_vote hnj hin hv) (by rw [hg]; exact mk_skip (by have q := c15; rw [hu, ht] at q; exact gB_no hv (by simp [c3]) q))
          · refine v_eqi 0 (bI_f c11) ?_
            refine v_iconst C 1 dX2_guiltyVotes_49 (by decide) ?_
            refine v_icmp_ne C 73 dX2_guiltyVotes_50 (by decide) (fun _ => ?_) (fun h => absurd h (by decide))
            refine v_iinc C (nI (i + 1)) [(6, .int (nI (i + 1))), (5, .int (nI g)), (4, .int (nI (mk (voB st) nj))), (3, .int 1), (0, .ref (a 4)), (1, .int (nI d)), (2, .int mi)] 0 dX2_guiltyVotes_73 rfl (nI_inc _) (by decide) rfl ?_
            refine v_goto C 30 dX2_guiltyVotes_76 (by decide) ?_
            have hv : voB st i = false := by have q := c11; rw [mk_bit] at q; simp [hin] at q; exact q
            exact ihn_7 (i + 1) u g (by omega) (by omega) (by rw [hu]; exact un_keep (by simp [unB, hv])) (by rw [hg]; exact mk_skip (by simp [gB, hv]))
    exact lp (nj - 0 + 1) 0 un 0 (by omega) (by omega) (un_0 hun) rfl
  · refine v_eqi 0 (bI_f c3) ?_
    refine v_iconst C 1 dX2_guiltyVotes_8 (by decide) ?_
    refine v_icmp_ne C 16 dX2_guiltyVotes_9 (by decide) (fun _ => ?_) (fun h => absurd h (by decide))
    refine v_iconst C 0 dX2_guiltyVotes_16 (by decide) ?_
    refine v_istore_n C [(3, .int 0), (0, .ref (a 4)), (1, .int (nI d)), (2, .int mi)] dX2_guiltyVotes_17 (by decide) rfl ?_
    refine v_aload_n C dX2_guiltyVotes_18 1 rfl ?_
    refine v_callRi C l_X2_95 (m_X2_voters a st nj ln (nI lw) ss (nI un) en se si ca la sw sk rd hnj hst) (by decide) dX2_guiltyVotes_19 [0, 2] rfl 0 rfl rfl rfl (rest := []) rfl (Nat.le_of_ble_eq_true rfl) (by decide) (fun r16 h17 => ?_)
    subst h17
    refine v_istore C [(4, .int (nI (mk (voB st) nj))), (3, .int 0), (0, .ref (a 4)), (1, .int (nI d)), (2, .int mi)] dX2_guiltyVotes_22 (by decide) rfl ?_
    refine v_iconst C 0 dX2_guiltyVotes_24 (by decide) ?_
    refine v_istore C [(5, .int 0), (4, .int (nI (mk (voB st) nj))), (3, .int 0), (0, .ref (a 4)), (1, .int (nI d)), (2, .int mi)] dX2_guiltyVotes_25 (by decide) rfl ?_
    refine v_iconst C 0 dX2_guiltyVotes_27 (by decide) ?_
    refine v_istore C [(6, .int 0), (5, .int 0), (4, .int (nI (mk (voB st) nj))), (3, .int 0), (0, .ref (a 4)), (1, .int (nI d)), (2, .int mi)] dX2_guiltyVotes_28 (by decide) rfl ?_
    have lp : ∀ (n_19 : Nat) (i : Nat) (u : Nat) (g : Nat), nj - i < n_19 → i ≤ nj → u = mk (unBi tk un st i) nj → g = mk (gB tk ag un st (lw.testBit d) mi) i → V zp l ze (rmOf 1 23) zs zm [.ref (a 4), .int (nI d), .int mi].toArray zb zt zc D (IM zA zs) (QMi zb [.ref (a 4), .int (nI d), .int mi].toArray zs D cI cB cS [oT a ln (nI lw) ss (nI st) (nI un) en se, ia (a 31) cI 5 tk, oK a si (nI nj) ca la sw sk rd, ia (a 21) cI 5 ag] zz (fun r w => r = nI (mk (gB tk ag un st (lw.testBit d) mi) nj) ∧ w = [oT a ln (nI lw) ss (nI st) (nI (unF nj tk un st)) en se, ia (a 31) cI 5 tk, oK a si (nI nj) ca la sw sk rd, ia (a 21) cI 5 ag])) 0 0 7 [oT a ln (nI lw) ss (nI st) (nI u) en se, ia (a 31) cI 5 tk, oK a si (nI nj) ca la sw sk rd, ia (a 21) cI 5 ag] [(6, .int (nI i)), (5, .int (nI g)), (4, .int (nI (mk (voB st) nj))), (3, .int 0), (0, .ref (a 4)), (1, .int (nI d)), (2, .int mi)] 30 [] := by
      intro n_19
      induction n_19 with
      | zero => intro i u g b18; exact absurd b18 (by omega)
      | succ n_19 ihn_19 =>
        intro i u g b18 hi hu hg
        refine v_iload C dX2_guiltyVotes_30 0 rfl ?_
        refine v_aload_n C dX2_guiltyVotes_32 4 rfl ?_
        refine v_get C f_X2_24 dX2_guiltyVotes_33 0 rfl rfl ?_
        refine v_get C f_X2_102 dX2_guiltyVotes_36 2 rfl rfl ?_
        refine v_icmp_ge C 79 dX2_guiltyVotes_39 (by decide) (fun c20 => ?_) (fun c20 => ?_)
        · have nc20 : nj ≤ i := nI_leD c20 (by omega)
          have hie : i = nj := by omega
          refine v_iload C dX2_guiltyVotes_79 1 rfl ?_
          exact v_reti C hA dX2_guiltyVotes_81 rfl (⟨by rw [hg, hie], by rw [hu, hie, un_end]⟩)
        · have nc20 : i < nj := nI_ltD c20 (by omega)
          have hin : i < nj := nc20
          refine v_iload C dX2_guiltyVotes_42 2 rfl ?_
          refine v_iload C dX2_guiltyVotes_44 0 rfl ?_
          refine v_callSi C l_X2_105 (m_X4_bitOf (mk (voB st) nj) i (by have := mk_lt (voB st) nj; omega) (by omega)) (by decide) dX2_guiltyVotes_46 [] rfl rfl (rest := []) rfl (Nat.le_of_ble_eq_true rfl) (by decide) (fun r21 h22 => ?_)
          subst h22
          by_cases c23 : (mk (voB st) nj).testBit i = true
          · refine v_eqi 1 (bI_t c23) ?_
            refine v_iconst C 1 dX2_guiltyVotes_49 (by decide) ?_
            refine v_icmp_ne C 73 dX2_guiltyVotes_50 (by decide) (fun h => absurd h (by decide)) (fun _ => ?_)
            refine v_aload_n C dX2_guiltyVotes_53 4 rfl ?_
            refine v_iload C dX2_guiltyVotes_54 0 rfl ?_
            refine v_iload_n C dX2_guiltyVotes_56 3 rfl ?_
            refine v_iload_n C dX2_guiltyVotes_57 6 rfl ?_
            refine v_callMi C l_X2_108 (m_X2_votesGuilty a u i ln (nI lw) ss (nI st) en se tk si (nI nj) ca la sw sk rd ag 0 mi (by omega) (by have := mk_lt (unBi tk un st i) nj; omega)) (by decide) dX2_guiltyVotes_58 [0, 1, 2, 3] [] (wr := []) (by decide) rfl rfl (by decide) (by decide) 0 rfl rfl rfl (rest := []) rfl (Nat.le_of_ble_eq_true rfl) (by decide) (fun r26 w24 h25 => ?_)
            obtain ⟨rfl, rfl⟩ := h25
            refine v_ws0 [oT a ln (nI lw) ss (nI st) (nI (if tk i = 2 ∧ u.testBit i = true then clr u i else u)) en se, ia (a 31) cI 5 tk, oK a si (nI nj) ca la sw sk rd, ia (a 21) cI 5 ag] rfl ?_
            by_cases c27 : ¬ (tk i = 2 ∧ u.testBit i = true) ∧ (¬ (0 : Int32) = 0 ∨ (tk i = 1 ∧ ¬ mi < 5 * ag i))
            · refine v_eqi 1 (bI_t c27) ?_
              refine v_if_eq C 73 dX2_guiltyVotes_61 (by decide) (fun h => absurd h (by decide)) (fun _ => ?_)
              refine v_iload C dX2_guiltyVotes_64 1 rfl ?_
              refine v_iconst C 1 dX2_guiltyVotes_66 (by decide) ?_
              refine v_iload C dX2_guiltyVotes_67 0 rfl ?_
              refine v_ishl C dX2_guiltyVotes_69 ?_
              refine v_ior C dX2_guiltyVotes_70 ?_
              refine v_eqi (nI (set1 g i)) (raw_set g (by have := mk_lt (gB tk ag un st (lw.testBit d) mi) i; have := Nat.pow_le_pow_right (n := 2) (by omega) (show i ≤ 5 by omega); omega) i (by omega)) ?_
              refine v_istore C [(5, .int (nI (set1 g i))), (6, .int (nI i)), (4, .int (nI (mk (voB st) nj))), (3, .int 0), (0, .ref (a 4)), (1, .int (nI d)), (2, .int mi)] dX2_guiltyVotes_71 (by decide) rfl ?_
              refine v_iinc C (nI (i + 1)) [(6, .int (nI (i + 1))), (5, .int (nI (set1 g i))), (4, .int (nI (mk (voB st) nj))), (3, .int 0), (0, .ref (a 4)), (1, .int (nI d)), (2, .int mi)] 1 dX2_guiltyVotes_73 rfl (nI_inc _) (by decide) rfl ?_
              refine v_goto C 30 dX2_guiltyVotes_76 (by decide) ?_
              have hv : voB st i = true := by have q := c23; rw [mk_bit] at q; simp [hin] at q; exact q
              have ht : (mk (unBi tk un st i) nj).testBit i = un.testBit i := un_at hin
              exact ihn_19 (i + 1) (if tk i = 2 ∧ u.testBit i = true then clr u i else u) (set1 g i) (by omega) (by omega) (by rw [hu]; exact un_vote hnj hin hv) (by rw [hg]; exact set1_mk (by omega) (by have q := c27; rw [hu, ht] at q; exact (gB_iff hv (by simp [c3])).mpr q))
            · refine v_eqi 0 (bI_f c27) ?_
              refine v_if_eq C 73 dX2_guiltyVotes_61 (by decide) (fun _ => ?_) (fun h => absurd h (by decide))
              refine v_iinc C (nI (i + 1)) [(6, .int (nI (i + 1))), (5, .int (nI g)), (4, .int (nI (mk (voB st) nj))), (3, .int 0), (0, .ref (a 4)), (1, .int (nI d)), (2, .int mi)] 0 dX2_guiltyVotes_73 rfl (nI_inc _) (by decide) rfl ?_
              refine v_goto C 30 dX2_guiltyVotes_76 (by decide) ?_
              have hv : voB st i = true := by have q := c23; rw [mk_bit] at q; simp [hin] at q; exact q
              have ht : (mk (unBi tk un st i) nj).testBit i = un.testBit i := un_at hin
              exact ihn_19 (i + 1) (if tk i = 2 ∧ u.testBit i = true then clr u i else u) g (by omega) (by omega) (by rw [hu]; exact un_vote hnj hin hv) (by rw [hg]; exact mk_skip (by have q := c27; rw [hu, ht] at q; exact gB_no hv (by simp [c3]) q))
          · refine v_eqi 0 (bI_f c23) ?_
            refine v_iconst C 1 dX2_guiltyVotes_49 (by decide) ?_
            refine v_icmp_ne C 73 dX2_guiltyVotes_50 (by decide) (fun _ => ?_) (fun h => absurd h (by decide))
            refine v_iinc C (nI (i + 1)) [(6, .int (nI (i + 1))), (5, .int (nI g)), (4, .int (nI (mk (voB st) nj))), (3, .int 0), (0, .ref (a 4)), (1, .int (nI d)), (2, .int mi)] 0 dX2_guiltyVotes_73 rfl (nI_inc _) (by decide) rfl ?_
            refine v_goto C 30 dX2_guiltyVotes_76 (by decide) ?_
            have hv : voB st i = false := by have q := c23; rw [mk_bit] at q; simp [hin] at q; exact q
            exact ihn_19 (i + 1) u g (by omega) (by omega) (by rw [hu]; exact un_keep (by simp [unB, hv])) (by rw [hg]; exact mk_skip (by simp [gB, hv]))
    exact lp (nj - 0 + 1) 0 un 0 (by omega) (by omega) (un_0 hun) rfl
end
section
set_option maxHeartbeats 4000000 in
set_option maxRecDepth 100000 in
theorem m_X2_judge0 {l : Launch} {D : va_G} {cI cB cS : ClassId} (a : Nat → Nat) (c d : Nat) (ln : Int32) (lw : Int32) (ss : Int32) (sx : Int32) (un : Int32) (en : Int32) (se : Int32) (tk : Nat → Int32) (ve : Nat → Int32) (vd : Nat → Int32) (si : Int32) (ju : Int32) (ca : Int32) (la : Int32) (sw : Int32) (sk : Int32) (rd : Int32) (ag : Nat → Int32) (de : Nat → Int32) (we : Nat → Int32) (hc : c < 5) (hd : de c = nI d) (hd6 : d < 6) : Mv l yX2_judge cX2_judge 5 2 49 D cI cB cS [.ref (a 4), .int (nI c), .int 0] [oT a ln lw ss sx un en se, ia (a 31) cI 5 tk, ia (a 33) cI 5 ve, ia (a 34) cI 6 vd, oK a si ju ca la sw sk rd, ia (a 21) cI 5 ag, ia (a 22) cI 5 de, ia (a 24) cI 5 we] (fun w => w = [oT a ln lw ss sx un en (if vd d = 1 then se + we c else se), ia (a 31) cI 5 tk, ia (a 33) cI 5 (upd ve c (vd d)), ia (a 34) cI 6 vd, oK a si ju ca la sw sk rd, ia (a 21) cI 5 ag, ia (a 22) cI 5 de, ia (a 24) cI 5 we]) := by
  refine Mv.of (by decide) (Nat.le_of_ble_eq_true rfl) ?_
  intro zp ze zs zm zb zt zc zz zA hA C hnm
  refine v_lv0 [(0, .ref (a 4)), (1, .int (nI c)), (2, .int 0)] rfl ?_
  refine v_aload_n C dX2_judge_0 0 rfl ?_
  refine v_get C f_X2_24 dX2_judge_1 0 rfl rfl ?_
  refine v_get C f_X2_72 dX2_judge_4 4 rfl rfl ?_
  refine v_iload_n C dX2_judge_7 1 rfl ?_
  refine v_ialdN C dX2_judge_8 6 rfl c rfl (by omega) (by decide) ?_
  refine v_istore_n C [(3, .int (de c)), (0, .ref (a 4)), (1, .int (nI c)), (2, .int 0)] dX2_judge_9 (by decide) rfl ?_
  refine v_iload_n C dX2_judge_10 3 rfl ?_
  refine v_if_eq C 53 dX2_judge_11 (by decide) (fun _ => ?_) (fun h => absurd h (by decide))
  refine v_aload_n C dX2_judge_53 1 rfl ?_
  refine v_get C f_X2_18 dX2_judge_54 0 rfl rfl ?_
  refine v_iload_n C dX2_judge_57 2 rfl ?_
  refine v_aload_n C dX2_judge_58 1 rfl ?_
  refine v_get C f_X2_21 dX2_judge_59 0 rfl rfl ?_
  refine v_iload_n C dX2_judge_62 0 rfl ?_
  refine v_ialdN C dX2_judge_63 3 rfl d hd hd6 (by decide) ?_
  refine v_iastN C [oT a ln lw ss sx un en se, ia (a 31) cI 5 tk, ia (a 33) cI 5 (upd ve c (vd d)), ia (a 34) cI 6 vd, oK a si ju ca la sw sk rd, ia (a 21) cI 5 ag, ia (a 22) cI 5 de, ia (a 24) cI 5 we] dX2_judge_64 2 rfl c rfl (by omega) (by decide) rfl ?_
  refine v_aload_n C dX2_judge_65 1 rfl ?_
  refine v_get C f_X2_18 dX2_judge_66 0 rfl rfl ?_
  refine v_iload_n C dX2_judge_69 2 rfl ?_
  refine v_ialdN C dX2_judge_70 2 rfl c rfl (by omega) (by decide) ?_
  refine v_iconst C 1 dX2_judge_71 (by decide) ?_
  refine v_icmp_ne C 93 dX2_judge_72 (by decide) (fun c1 => ?_) (fun c1 => ?_)
  · rw [upd_at] at c1
    exact v_retv C hA dX2_judge_93 (by simp only [upd_at, *, ↓reduceIte])
  · rw [upd_at] at c1
    refine v_aload_n C dX2_judge_75 1 rfl ?_
    refine v_dup C dX2_judge_76 rfl ?_
    refine v_get C f_X2_69 dX2_judge_77 0 rfl rfl ?_
    refine v_aload_n C dX2_judge_80 1 rfl ?_
    refine v_get C f_X2_24 dX2_judge_81 0 rfl rfl ?_
    refine v_get C f_X2_99 dX2_judge_84 4 rfl rfl ?_
    refine v_iload_n C dX2_judge_87 2 rfl ?_
    refine v_ialdN C dX2_judge_88 7 rfl c rfl (by omega) (by decide) ?_
    refine v_iadd C dX2_judge_89 ?_
    refine v_put C p_X2_69 [oT a ln lw ss sx un en (se + (we c)), ia (a 31) cI 5 tk, ia (a 33) cI 5 (upd ve c (vd d)), ia (a 34) cI 6 vd, oK a si ju ca la sw sk rd, ia (a 21) cI 5 ag, ia (a 22) cI 5 de, ia (a 24) cI 5 we] dX2_judge_90 0 rfl rfl rfl (Nat.le_of_ble_eq_true rfl) rfl ?_
    exact v_retv C hA dX2_judge_93 (by simp only [upd_at, *, ↓reduceIte])
set_option maxHeartbeats 4000000 in
set_option maxRecDepth 100000 in
theorem m_X2_judge1 {l : Launch} {D : va_G} {cI cB cS : ClassId} (a : Nat → Nat) (c d un st lw nj : Nat) (ln : Int32) (ss : Int32) (en : Int32) (se : Int32) (tk : Nat → Int32) (ve : Nat → Int32) (vd : Nat → Int32) (si : Int32) (ca : Int32) (la : Int32) (sw : Int32) (sk : Int32) (rd : Int32) (ag : Nat → Int32) (de : Nat → Int32) (we : Nat → Int32) (hc : c < 5) (hd : de c = nI d) (hd6 : d < 6) (hnj : nj ≤ 5) (hun : un < 2 ^ nj) (hst : st < 32) (hlw : lw < 64) (hp5 : 2 ^ nj ≤ 32) : Mv l yX2_judge cX2_judge 5 2 49 D cI cB cS [.ref (a 4), .int (nI c), .int 1] [oT a ln (nI lw) ss (nI st) (nI un) en se, ia (a 31) cI 5 tk, ia (a 33) cI 5 ve, ia (a 34) cI 6 vd, oK a si (nI nj) ca la sw sk rd, ia (a 21) cI 5 ag, ia (a 22) cI 5 de, ia (a 24) cI 5 we] (fun w => w = [oT a ln (nI lw) ss (nI st) (nI (unF nj tk un st)) en (if vdF nj tk ag un st (lw.testBit d) en = 1 then se + we c else se), ia (a 31) cI 5 tk, ia (a 33) cI 5 (upd ve c (vdF nj tk ag un st (lw.testBit d) en)), ia (a 34) cI 6 (upd vd d (vdF nj tk ag un st (lw.testBit d) en)), oK a si (nI nj) ca la sw sk rd, ia (a 21) cI 5 ag, ia (a 22) cI 5 de, ia (a 24) cI 5 we]) := by
  refine Mv.of (by decide) (Nat.le_of_ble_eq_true rfl) ?_
  intro zp ze zs zm zb zt zc zz zA hA C hnm
  refine v_lv0 [(0, .ref (a 4)), (1, .int (nI c)), (2, .int 1)] rfl ?_
  refine v_aload_n C dX2_judge_0 0 rfl ?_
  refine v_get C f_X2_24 dX2_judge_1 0 rfl rfl ?_
  refine v_get C f_X2_72 dX2_judge_4 4 rfl rfl ?_
  refine v_iload_n C dX2_judge_7 1 rfl ?_
  refine v_ialdN C dX2_judge_8 6 rfl c rfl (by omega) (by decide) ?_
  refine v_eqi (nI d) (hd) ?_
  refine v_istore_n C [(3, .int (nI d)), (0, .ref (a 4)), (1, .int (nI c)), (2, .int 1)] dX2_judge_9 (by decide) rfl ?_
  refine v_iload_n C dX2_judge_10 3 rfl ?_
  refine v_if_eq C 53 dX2_judge_11 (by decide) (fun h => absurd h (by decide)) (fun _ => ?_)
  refine v_aload_n C dX2_judge_14 1 rfl ?_
  refine v_iload_n C dX2_judge_15 0 rfl ?_
  refine v_aload_n C dX2_judge_16 1 rfl ?_
  refine v_get C f_X2_66 dX2_judge_17 0 rfl rfl ?_
  refine v_callMi C l_X2_85 (m_X2_guiltyVotes a d un st lw nj ln ss en se tk si ca la sw sk rd ag en hnj hun hst hlw hd6 hp5) (by decide) dX2_judge_20 [0, 1, 4, 5] [2, 3, 6, 7] (wr := [ia (a 33) cI 5 ve, ia (a 34) cI 6 vd, ia (a 22) cI 5 de, ia (a 24) cI 5 we]) (by decide) rfl rfl (by decide) (by decide) 0 rfl rfl rfl (rest := []) rfl (Nat.le_of_ble_eq_true rfl) (by decide) (fun r3 w1 h2 => ?_)
  obtain ⟨rfl, rfl⟩ := h2
  refine v_ws0 [ia (a 33) cI 5 ve, ia (a 34) cI 6 vd, ia (a 22) cI 5 de, ia (a 24) cI 5 we, oT a ln (nI lw) ss (nI st) (nI (unF nj tk un st)) en se, ia (a 31) cI 5 tk, oK a si (nI nj) ca la sw sk rd, ia (a 21) cI 5 ag] rfl ?_
  refine v_callSi C l_X2_89 (m_J6_bitCount_0f7a4 (nI (mk (gB tk ag un st (lw.testBit d) en) nj))) (by decide) dX2_judge_23 [] rfl rfl (rest := []) rfl (Nat.le_of_ble_eq_true rfl) (by decide) (fun r4 h5 => ?_)
  subst h5
  refine v_eqi (nI (ct (gB tk ag un st (lw.testBit d) en) nj)) (by rw [raw_bc _ (by have := mk_lt (gB tk ag un st (lw.testBit d) en) nj; omega), pcN_mk _ (by omega)]) ?_
  refine v_istore C [(4, .int (nI (ct (gB tk ag un st (lw.testBit d) en) nj))), (3, .int (nI d)), (0, .ref (a 4)), (1, .int (nI c)), (2, .int 1)] dX2_judge_26 (by decide) rfl ?_
  refine v_aload_n C dX2_judge_28 2 rfl ?_
  refine v_get C f_X2_21 dX2_judge_29 4 rfl rfl ?_
  refine v_iload_n C dX2_judge_32 1 rfl ?_
  refine v_iconst C 2 dX2_judge_33 (by decide) ?_
  refine v_iload C dX2_judge_34 0 rfl ?_
  refine v_imul C dX2_judge_36 ?_
  refine v_eqi (nI (2 * ct (gB tk ag un st (lw.testBit d) en) nj)) (pk_mul 2 _) ?_
  refine v_aload_n C dX2_judge_37 2 rfl ?_
  refine v_callRi C l_X2_95 (m_X2_voters a st nj ln (nI lw) ss (nI (unF nj tk un st)) en se si ca la sw sk rd hnj hst) (by decide) dX2_judge_38 [4, 6] rfl 4 rfl rfl rfl (rest := [.int (nI (2 * ct (gB tk ag un st (lw.testBit d) en) nj)), .int (nI d), .ref (a 34)]) rfl (Nat.le_of_ble_eq_true rfl) (by decide) (fun r6 h7 => ?_)
  subst h7
  refine v_callSi C l_X2_89 (m_J6_bitCount_0f7a4 (nI (mk (voB st) nj))) (by decide) dX2_judge_41 [] rfl rfl (rest := [.int (nI (2 * ct (gB tk ag un st (lw.testBit d) en) nj)), .int (nI d), .ref (a 34)]) rfl (Nat.le_of_ble_eq_true rfl) (by decide) (fun r8 h9 => ?_)
  subst h9
  refine v_eqi (nI (ct (voB st) nj)) (by rw [raw_bc _ (by have := mk_lt (voB st) nj; omega), pcN_mk _ (by omega)]) ?_
  have q1 := ct_le (gB tk ag un st (lw.testBit d) en) nj
  have q2 := ct_le (voB st) nj
  refine v_icmp_le C 51 dX2_judge_44 (by decide) (fun c10 => ?_) (fun c10 => ?_)
  · have nc10 : (2 * ct (gB tk ag un st (lw.testBit d) en) nj) ≤ (ct (voB st) nj) := nI_leD c10 (by omega)
    have hv : vdF nj tk ag un st (lw.testBit d) en = 0 := if_neg (by omega)
    refine v_iconst C 0 dX2_judge_51 (by decide) ?_
    refine v_iastN C [ia (a 33) cI 5 ve, ia (a 34) cI 6 (upd vd d 0), ia (a 22) cI 5 de, ia (a 24) cI 5 we, oT a ln (nI lw) ss (nI st) (nI (unF nj tk un st)) en se, ia (a 31) cI 5 tk, oK a si (nI nj) ca la sw sk rd, ia (a 21) cI 5 ag] dX2_judge_52 1 rfl d rfl (by omega) (by decide) rfl ?_
    refine v_aload_n C dX2_judge_53 2 rfl ?_
    refine v_get C f_X2_18 dX2_judge_54 4 rfl rfl ?_
    refine v_iload_n C dX2_judge_57 3 rfl ?_
    refine v_aload_n C dX2_judge_58 2 rfl ?_
    refine v_get C f_X2_21 dX2_judge_59 4 rfl rfl ?_
    refine v_iload_n C dX2_judge_62 1 rfl ?_
    refine v_ialdN C dX2_judge_63 1 rfl d rfl (by omega) (by decide) ?_
    refine v_iastN C [ia (a 33) cI 5 (upd ve c ((upd vd d 0) d)), ia (a 34) cI 6 (upd vd d 0), ia (a 22) cI 5 de, ia (a 24) cI 5 we, oT a ln (nI lw) ss (nI st) (nI (unF nj tk un st)) en se, ia (a 31) cI 5 tk, oK a si (nI nj) ca la sw sk rd, ia (a 21) cI 5 ag] dX2_judge_64 0 rfl c rfl (by omega) (by decide) rfl ?_
    refine v_aload_n C dX2_judge_65 2 rfl ?_
    refine v_get C f_X2_18 dX2_judge_66 4 rfl rfl ?_
    refine v_iload_n C dX2_judge_69 3 rfl ?_
    refine v_ialdN C dX2_judge_70 0 rfl c rfl (by omega) (by decide) ?_
    refine v_iconst C 1 dX2_judge_71 (by decide) ?_
    refine v_icmp_ne C 93 dX2_judge_72 (by decide) (fun c11 => ?_) (fun c11 => ?_)
    · rw [upd_at, upd_at] at c11
      refine v_perm (ws' := [oT a ln (nI lw) ss (nI st) (nI (unF nj tk un st)) en se, ia (a 31) cI 5 tk, ia (a 33) cI 5 (upd ve c ((upd vd d 0) d)), ia (a 34) cI 6 (upd vd d 0), oK a si (nI nj) ca la sw sk rd, ia (a 21) cI 5 ag, ia (a 22) cI 5 de, ia (a 24) cI 5 we]) [4, 5, 0, 1, 6, 7, 2, 3] (by decide) rfl ?_
      exact v_retv C hA dX2_judge_93 (by first | (simp only [hv, upd_at, ↓reduceIte]; done) | (simp [hv, upd_at]; done))
    · rw [upd_at, upd_at] at c11
      exact absurd c11 (by decide)
  · have nc10 : (ct (voB st) nj) < (2 * ct (gB tk ag un st (lw.testBit d) en) nj) := nI_ltD c10 (by omega)
    have hv : vdF nj tk ag un st (lw.testBit d) en = 1 := if_pos (by omega)
    refine v_iconst C 1 dX2_judge_47 (by decide) ?_
    refine v_goto C 52 dX2_judge_48 (by decide) ?_
    refine v_iastN C [ia (a 33) cI 5 ve, ia (a 34) cI 6 (upd vd d 1), ia (a 22) cI 5 de, ia (a 24) cI 5 we, oT a ln (nI lw) ss (nI st) (nI (unF nj tk un st)) en se, ia (a 31) cI 5 tk, oK a si (nI nj) ca la sw sk rd, ia (a 21) cI 5 ag] dX2_judge_52 1 rfl d rfl (by omega) (by decide) rfl ?_
    refine v_aload_n C dX2_judge_53 2 rfl ?_
    refine v_get C f_X2_18 dX2_judge_54 4 rfl rfl ?_
    refine v_iload_n C dX2_judge_57 3 rfl ?_
    refine v_aload_n C dX2_judge_58 2 rfl ?_
    refine v_get C f_X2_21 dX2_judge_59 4 rfl rfl ?_
    refine v_iload_n C dX2_judge_62 1 rfl ?_
    refine v_ialdN C dX2_judge_63 1 rfl d rfl (by omega) (by decide) ?_
    refine v_iastN C [ia (a 33) cI 5 (upd ve c ((upd vd d 1) d)), ia (a 34) cI 6 (upd vd d 1), ia (a 22) cI 5 de, ia (a 24) cI 5 we, oT a ln (nI lw) ss (nI st) (nI (unF nj tk un st)) en se, ia (a 31) cI 5 tk, oK a si (nI nj) ca la sw sk rd, ia (a 21) cI 5 ag] dX2_judge_64 0 rfl c rfl (by omega) (by decide) rfl ?_
    refine v_aload_n C dX2_judge_65 2 rfl ?_
    refine v_get C f_X2_18 dX2_judge_66 4 rfl rfl ?_
    refine v_iload_n C dX2_judge_69 3 rfl ?_
    refine v_ialdN C dX2_judge_70 0 rfl c rfl (by omega) (by decide) ?_
    refine v_iconst C 1 dX2_judge_71 (by decide) ?_
    refine v_icmp_ne C 93 dX2_judge_72 (by decide) (fun c12 => ?_) (fun c12 => ?_)
    · rw [upd_at, upd_at] at c12
      exact absurd c12 (by decide)
    · rw [upd_at, upd_at] at c12
      refine v_aload_n C dX2_judge_75 2 rfl ?_
      refine v_dup C dX2_judge_76 rfl ?_
      refine v_get C f_X2_69 dX2_judge_77 4 rfl rfl ?_
      refine v_aload_n C dX2_judge_80 2 rfl ?_
      refine v_get C f_X2_24 dX2_judge_81 4 rfl rfl ?_
      refine v_get C f_X2_99 dX2_judge_84 6 rfl rfl ?_
      refine v_iload_n C dX2_judge_87 3 rfl ?_
      refine v_ialdN C dX2_judge_88 3 rfl c rfl (by omega) (by decide) ?_
      refine v_iadd C dX2_judge_89 ?_
      refine v_put C p_X2_69 [ia (a 33) cI 5 (upd ve c ((upd vd d 1) d)), ia (a 34) cI 6 (upd vd d 1), ia (a 22) cI 5 de, ia (a 24) cI 5 we, oT a ln (nI lw) ss (nI st) (nI (unF nj tk un st)) en (se + (we c)), ia (a 31) cI 5 tk, oK a si (nI nj) ca la sw sk rd, ia (a 21) cI 5 ag] dX2_judge_90 4 rfl rfl rfl (Nat.le_of_ble_eq_true rfl) rfl ?_
      refine v_perm (ws' := [oT a ln (nI lw) ss (nI st) (nI (unF nj tk un st)) en (se + (we c)), ia (a 31) cI 5 tk, ia (a 33) cI 5 (upd ve c ((upd vd d 1) d)), ia (a 34) cI 6 (upd vd d 1), oK a si (nI nj) ca la sw sk rd, ia (a 21) cI 5 ag, ia (a 22) cI 5 de, ia (a 24) cI 5 we]) [4, 5, 0, 1, 6, 7, 2, 3] (by decide) rfl ?_
      exact v_retv C hA dX2_judge_93 (by first | (simp only [hv, upd_at, ↓reduceIte]; done) | (simp [hv, upd_at]; done))
set_option maxHeartbeats 4000000 in
set_option maxRecDepth 100000 in
theorem m_X2_hold {l : Launch} {D : va_G} {cI cB cS : ClassId} (a : Nat → Nat) (s0 st lw nj L nc : Nat) (o dn : Nat → Nat) (un : Int32) (en : Int32) (se : Int32) (tk : Nat → Int32) (od : Nat → Int32) (ve : Nat → Int32) (vd : Nat → Int32) (si : Int32) (ca : Int32) (la : Int32) (sw : Int32) (sk : Int32) (rd : Int32) (ag : Nat → Int32) (de : Nat → Int32) (ta : Nat → Int32) (we : Nat → Int32) (hnj : nj ≤ 5) (hst : st < 32) (hlw : lw < 64) (hp5 : 2 ^ nj ≤ 32) (hs0 : s0 < 2 ^ nj) (hL : L ≤ 5) (hnc : nc ≤ 5) (ho : ∀ p, p < L → od p = nI (o p) ∧ o p < nc) (hde : ∀ c, c < nc → de c = nI (dn c) ∧ dn c < 6) : Mv l yX2_hold cX2_hold 6 3 73 D cI cB cS [.ref (a 4)] [oT a (nI L) (nI lw) (nI s0) (nI st) un en se, ia (a 31) cI 5 tk, ia (a 32) cI 5 od, ia (a 33) cI 5 ve, ia (a 34) cI 6 vd, oK a si (nI nj) ca la sw sk rd, ia (a 21) cI 5 ag, ia (a 22) cI 5 de, ia (a 23) cI 5 ta, ia (a 24) cI 5 we] (fun w => w = [oT a (nI L) (nI lw) (nI s0) (nI st) (nI (sitS nj tk ag st lw dn ta we si s0 o L).2.2.1) ((sitS nj tk ag st lw dn ta we si s0 o L).2.2.2.1) ((sitS nj tk ag st lw dn ta we si s0 o L).2.2.2.2.1), ia (a 31) cI 5 tk, ia (a 32) cI 5 od, ia (a 33) cI 5 ((sitS nj tk ag st lw dn ta we si s0 o L).1), ia (a 34) cI 6 ((sitS nj tk ag st lw dn ta we si s0 o L).2.1), oK a si (nI nj) ca la sw sk rd, ia (a 21) cI 5 ag, ia (a 22) cI 5 de, ia (a 23) cI 5 ta, ia (a 24) cI 5 we]) := by
  refine Mv.of (by decide) (Nat.le_of_ble_eq_true rfl) ?_
  intro zp ze zs zm zb zt zc zz zA hA C hnm
  refine v_lv0 [(0, .ref (a 4))] rfl ?_
  refine v_aload_n C dX2_hold_0 0 rfl ?_
  refine v_get C f_X2_18 dX2_hold_1 0 rfl rfl ?_
  refine v_bipush C (-9) dX2_hold_4 (by decide) ?_
  refine v_callSv C l_X2_60 (m_J7_fill_53178 (a 33) 5 ve (-9) (by decide)) (by decide) dX2_hold_6 [3] [0, 1, 2, 4, 5, 6, 7, 8, 9] (wr := [oT a (nI L) (nI lw) (nI s0) (nI st) un en se, ia (a 31) cI 5 tk, ia (a 32) cI 5 od, ia (a 34) cI 6 vd, oK a si (nI nj) ca la sw sk rd, ia (a 21) cI 5 ag, ia (a 22) cI 5 de, ia (a 23) cI 5 ta, ia (a 24) cI 5 we]) (by decide) rfl rfl (by decide) (by decide) rfl (rest := []) rfl (Nat.le_of_ble_eq_true rfl) (by decide) (fun w1 h2 => ?_)
  subst h2
  refine v_ws0 [oT a (nI L) (nI lw) (nI s0) (nI st) un en se, ia (a 31) cI 5 tk, ia (a 32) cI 5 od, ia (a 34) cI 6 vd, oK a si (nI nj) ca la sw sk rd, ia (a 21) cI 5 ag, ia (a 22) cI 5 de, ia (a 23) cI 5 ta, ia (a 24) cI 5 we, ia (a 33) cI 5 (fun _ => (-9 : Int32))] rfl ?_
  refine v_aload_n C dX2_hold_9 0 rfl ?_
  refine v_get C f_X2_21 dX2_hold_10 0 rfl rfl ?_
  refine v_bipush C (-9) dX2_hold_13 (by decide) ?_
  refine v_callSv C l_X2_60 (m_J7_fill_53178 (a 34) 6 vd (-9) (by decide)) (by decide) dX2_hold_15 [3] [0, 1, 2, 4, 5, 6, 7, 8, 9] (wr := [oT a (nI L) (nI lw) (nI s0) (nI st) un en se, ia (a 31) cI 5 tk, ia (a 32) cI 5 od, oK a si (nI nj) ca la sw sk rd, ia (a 21) cI 5 ag, ia (a 22) cI 5 de, ia (a 23) cI 5 ta, ia (a 24) cI 5 we, ia (a 33) cI 5 (fun _ => (-9 : Int32))]) (by decide) rfl rfl (by decide) (by decide) rfl (rest := []) rfl (Nat.le_of_ble_eq_true rfl) (by decide) (fun w4 h5 => ?_)
  subst h5
  refine v_ws0 [oT a (nI L) (nI lw) (nI s0) (nI st) un en se, ia (a 31) cI 5 tk, ia (a 32) cI 5 od, oK a si (nI nj) ca la sw sk rd, ia (a 21) cI 5 ag, ia (a 22) cI 5 de, ia (a 23) cI 5 ta, ia (a 24) cI 5 we, ia (a 33) cI 5 (fun _ => (-9 : Int32)), ia (a 34) cI 6 (fun _ => (-9 : Int32))] rfl ?_
  refine v_aload_n C dX2_hold_18 0 rfl ?_
  refine v_aload_n C dX2_hold_19 0 rfl ?_
  refine v_get C f_X2_45 dX2_hold_20 0 rfl rfl ?_
  refine v_put C p_X2_50 [oT a (nI L) (nI lw) (nI s0) (nI st) (nI s0) en se, ia (a 31) cI 5 tk, ia (a 32) cI 5 od, oK a si (nI nj) ca la sw sk rd, ia (a 21) cI 5 ag, ia (a 22) cI 5 de, ia (a 23) cI 5 ta, ia (a 24) cI 5 we, ia (a 33) cI 5 (fun _ => (-9 : Int32)), ia (a 34) cI 6 (fun _ => (-9 : Int32))] dX2_hold_23 0 rfl rfl rfl (Nat.le_of_ble_eq_true rfl) rfl ?_
  refine v_aload_n C dX2_hold_26 0 rfl ?_
  refine v_iconst C 0 dX2_hold_27 (by decide) ?_
  refine v_put C p_X2_66 [oT a (nI L) (nI lw) (nI s0) (nI st) (nI s0) 0 se, ia (a 31) cI 5 tk, ia (a 32) cI 5 od, oK a si (nI nj) ca la sw sk rd, ia (a 21) cI 5 ag, ia (a 22) cI 5 de, ia (a 23) cI 5 ta, ia (a 24) cI 5 we, ia (a 33) cI 5 (fun _ => (-9 : Int32)), ia (a 34) cI 6 (fun _ => (-9 : Int32))] dX2_hold_28 0 rfl rfl rfl (Nat.le_of_ble_eq_true rfl) rfl ?_
  refine v_aload_n C dX2_hold_31 0 rfl ?_
  refine v_iconst C 0 dX2_hold_32 (by decide) ?_
  refine v_put C p_X2_69 [oT a (nI L) (nI lw) (nI s0) (nI st) (nI s0) 0 0, ia (a 31) cI 5 tk, ia (a 32) cI 5 od, oK a si (nI nj) ca la sw sk rd, ia (a 21) cI 5 ag, ia (a 22) cI 5 de, ia (a 23) cI 5 ta, ia (a 24) cI 5 we, ia (a 33) cI 5 (fun _ => (-9 : Int32)), ia (a 34) cI 6 (fun _ => (-9 : Int32))] dX2_hold_33 0 rfl rfl rfl (Nat.le_of_ble_eq_true rfl) rfl ?_
  refine v_iconst C 0 dX2_hold_36 (by decide) ?_
  refine v_istore_n C [(1, .int 0), (0, .ref (a 4))] dX2_hold_37 (by decide) rfl ?_
  refine v_iconst C 0 dX2_hold_38 (by decide) ?_
  refine v_istore_n C [(2, .int 0), (1, .int 0), (0, .ref (a 4))] dX2_hold_39 (by decide) rfl ?_
  have lp : ∀ (n_8 : Nat) (p : Nat) (v1 : Nat → Int32) (d1 : Nat → Int32) (u : Nat) (e1 : Int32) (f1 : Int32) (hm : Int32), L - p < n_8 → p ≤ L → sitS nj tk ag st lw dn ta we si s0 o p = (v1, d1, u, e1, f1, decide (¬ hm = 0)) → V zp l ze (rmOf 3 73) zs zm [.ref (a 4)].toArray zb zt zc D (IM zA zs) (QMv zb [.ref (a 4)].toArray zs D cI cB cS [oT a (nI L) (nI lw) (nI s0) (nI st) un en se, ia (a 31) cI 5 tk, ia (a 32) cI 5 od, ia (a 33) cI 5 ve, ia (a 34) cI 6 vd, oK a si (nI nj) ca la sw sk rd, ia (a 21) cI 5 ag, ia (a 22) cI 5 de, ia (a 23) cI 5 ta, ia (a 24) cI 5 we] zz (fun w => w = [oT a (nI L) (nI lw) (nI s0) (nI st) (nI (sitS nj tk ag st lw dn ta we si s0 o L).2.2.1) ((sitS nj tk ag st lw dn ta we si s0 o L).2.2.2.1) ((sitS nj tk ag st lw dn ta we si s0 o L).2.2.2.2.1), ia (a 31) cI 5 tk, ia (a 32) cI 5 od, ia (a 33) cI 5 ((sitS nj tk ag st lw dn ta we si s0 o L).1), ia (a 34) cI 6 ((sitS nj tk ag st lw dn ta we si s0 o L).2.1), oK a si (nI nj) ca la sw sk rd, ia (a 21) cI 5 ag, ia (a 22) cI 5 de, ia (a 23) cI 5 ta, ia (a 24) cI 5 we])) 0 0 6 [oT a (nI L) (nI lw) (nI s0) (nI st) (nI u) e1 f1, ia (a 31) cI 5 tk, ia (a 32) cI 5 od, ia (a 33) cI 5 v1, ia (a 34) cI 6 d1, oK a si (nI nj) ca la sw sk rd, ia (a 21) cI 5 ag, ia (a 22) cI 5 de, ia (a 23) cI 5 ta, ia (a 24) cI 5 we] [(2, .int (nI p)), (1, .int hm), (0, .ref (a 4))] 40 [] := by
    intro n_8
    induction n_8 with
    | zero => intro p v1 d1 u e1 f1 hm b7; exact absurd b7 (by omega)
    | succ n_8 ihn_8 =>
      intro p v1 d1 u e1 f1 hm b7 hp hs
      refine v_iload_n C dX2_hold_40 0 rfl ?_
      refine v_aload_n C dX2_hold_41 2 rfl ?_
      refine v_get C f_X2_53 dX2_hold_42 0 rfl rfl ?_
      refine v_icmp_ge C 161 dX2_hold_45 (by decide) (fun c9 => ?_) (fun c9 => ?_)
      · have nc9 : L ≤ p := nI_leD c9 (by omega)
        have hpe : p = L := by omega
        exact v_retv C hA dX2_hold_161 (by subst hpe; rw [hs])
      · have nc9 : p < L := nI_ltD c9 (by omega)
        have hin : p < L := nc9
        have hop := (ho p hin).2
        have hun : u < 2 ^ nj := by have q := sit_un (tk := tk) (ag := ag) (st := st) (lw := lw) (dn := dn) (ta := ta) (we := we) (si := si) (o := o) hs0 p; rw [hs] at q; exact q
        refine v_aload_n C dX2_hold_48 2 rfl ?_
        refine v_get C f_X2_15 dX2_hold_49 0 rfl rfl ?_
        refine v_iload_n C dX2_hold_52 0 rfl ?_
        refine v_ialdN C dX2_hold_53 2 rfl p rfl (by omega) (by decide) ?_
        refine v_eqi (nI (o p)) ((ho p hin).1) ?_
        refine v_istore_n C [(3, .int (nI (o p))), (2, .int (nI p)), (1, .int hm), (0, .ref (a 4))] dX2_hold_54 (by decide) rfl ?_
        refine v_aload_n C dX2_hold_55 3 rfl ?_
        refine v_get C f_X2_21 dX2_hold_56 0 rfl rfl ?_
        refine v_aload_n C dX2_hold_59 3 rfl ?_
        refine v_get C f_X2_24 dX2_hold_60 0 rfl rfl ?_
        refine v_get C f_X2_72 dX2_hold_63 5 rfl rfl ?_
        refine v_iload_n C dX2_hold_66 0 rfl ?_
        refine v_ialdN C dX2_hold_67 7 rfl (o p) rfl (by omega) (by decide) ?_
        refine v_ialdN C dX2_hold_68 4 rfl (dn (o p)) (hde (o p) hop).1 (hde (o p) hop).2 (by decide) ?_
        refine v_bipush C (-9) dX2_hold_69 (by decide) ?_
        refine v_icmp_ne C 78 dX2_hold_71 (by decide) (fun c10 => ?_) (fun c10 => ?_)
        · refine v_iconst C 0 dX2_hold_78 (by decide) ?_
          refine v_istore C [(4, .int 0), (3, .int (nI (o p))), (2, .int (nI p)), (1, .int hm), (0, .ref (a 4))] dX2_hold_79 (by decide) rfl ?_
          refine v_aload_n C dX2_hold_81 4 rfl ?_
          refine v_get C f_X2_66 dX2_hold_82 0 rfl rfl ?_
          refine v_iload C dX2_hold_85 0 rfl ?_
          refine v_if_eq C 102 dX2_hold_87 (by decide) (fun _ => ?_) (fun h => absurd h (by decide))
          refine v_iconst C 1 dX2_hold_102 (by decide) ?_
          refine v_iadd C dX2_hold_103 ?_
          refine v_istore C [(5, .int (e1 + 1)), (4, .int 0), (3, .int (nI (o p))), (2, .int (nI p)), (1, .int hm), (0, .ref (a 4))] dX2_hold_104 (by decide) rfl ?_
          refine v_iload_n C dX2_hold_106 4 rfl ?_
          refine v_if_ne C 122 dX2_hold_107 (by decide) (fun c11 => ?_) (fun c11 => ?_)
          · refine v_iconst C 1 dX2_hold_122 (by decide) ?_
            refine v_goto C 127 dX2_hold_123 (by decide) ?_
            refine v_istore_n C [(1, .int 1), (5, .int (e1 + 1)), (4, .int 0), (3, .int (nI (o p))), (2, .int (nI p)), (0, .ref (a 4))] dX2_hold_127 (by decide) rfl ?_
            refine v_iload_n C dX2_hold_128 0 rfl ?_
            refine v_if_eq C 142 dX2_hold_129 (by decide) (fun h => absurd h (by decide)) (fun _ => ?_)
            refine v_aload_n C dX2_hold_132 5 rfl ?_
            refine v_get C f_X2_18 dX2_hold_133 0 rfl rfl ?_
            refine v_iload_n C dX2_hold_136 3 rfl ?_
            refine v_iconst C 2 dX2_hold_137 (by decide) ?_
            refine v_iastN C [oT a (nI L) (nI lw) (nI s0) (nI st) (nI u) e1 f1, ia (a 31) cI 5 tk, ia (a 32) cI 5 od, ia (a 33) cI 5 (upd v1 (o p) 2), ia (a 34) cI 6 d1, oK a si (nI nj) ca la sw sk rd, ia (a 21) cI 5 ag, ia (a 22) cI 5 de, ia (a 23) cI 5 ta, ia (a 24) cI 5 we] dX2_hold_138 3 rfl (o p) rfl (by omega) (by decide) rfl ?_
            refine v_goto C 155 dX2_hold_139 (by decide) ?_
            refine v_iinc C (nI (p + 1)) [(2, .int (nI (p + 1))), (1, .int 1), (5, .int (e1 + 1)), (4, .int 0), (3, .int (nI (o p))), (0, .ref (a 4))] 4 dX2_hold_155 rfl (nI_inc _) (by decide) rfl ?_
            refine v_goto C 40 dX2_hold_158 (by decide) ?_
            refine v_loc [0, 1, 5] (lv' := [(2, .int (nI (p + 1))), (1, .int 1), (0, .ref (a 4))]) rfl ?_
            exact ihn_8 (p + 1) (upd v1 (o p) 2) d1 u e1 f1 1 (by omega) (by omega) (by rw [sitS, hs]; simp [sitStep, c10, c11])
          · refine v_iload C dX2_hold_110 0 rfl ?_
            refine v_aload_n C dX2_hold_112 5 rfl ?_
            refine v_get C f_X2_24 dX2_hold_113 0 rfl rfl ?_
            refine v_get C f_X2_78 dX2_hold_116 5 rfl rfl ?_
            refine v_icmp_le C 126 dX2_hold_119 (by decide) (fun c12 => ?_) (fun c12 => ?_)
            · refine v_iconst C 0 dX2_hold_126 (by decide) ?_
              refine v_istore_n C [(1, .int 0), (5, .int (e1 + 1)), (4, .int 0), (3, .int (nI (o p))), (2, .int (nI p)), (0, .ref (a 4))] dX2_hold_127 (by decide) rfl ?_
              refine v_iload_n C dX2_hold_128 0 rfl ?_
              refine v_if_eq C 142 dX2_hold_129 (by decide) (fun _ => ?_) (fun h => absurd h (by decide))
              refine v_aload_n C dX2_hold_142 5 rfl ?_
              refine v_iload C dX2_hold_143 1 rfl ?_
              refine v_put C p_X2_66 [oT a (nI L) (nI lw) (nI s0) (nI st) (nI u) (e1 + 1) f1, ia (a 31) cI 5 tk, ia (a 32) cI 5 od, ia (a 33) cI 5 v1, ia (a 34) cI 6 d1, oK a si (nI nj) ca la sw sk rd, ia (a 21) cI 5 ag, ia (a 22) cI 5 de, ia (a 23) cI 5 ta, ia (a 24) cI 5 we] dX2_hold_145 0 rfl rfl rfl (Nat.le_of_ble_eq_true rfl) rfl ?_
              refine v_aload_n C dX2_hold_148 5 rfl ?_
              refine v_iload_n C dX2_hold_149 3 rfl ?_
              refine v_iload C dX2_hold_150 2 rfl ?_
              refine v_callMv C l_X2_81 (m_X2_judge0 a (o p) (dn (o p)) (nI L) (nI lw) (nI s0) (nI st) (nI u) (e1 + 1) f1 tk v1 d1 si (nI nj) ca la sw sk rd ag de we (by omega) (hde (o p) hop).1 (hde (o p) hop).2) (by decide) dX2_hold_152 [0, 1, 3, 4, 5, 6, 7, 9] [2, 8] (wr := [ia (a 32) cI 5 od, ia (a 23) cI 5 ta]) (by decide) rfl rfl (by decide) (by decide) 0 rfl rfl rfl (rest := []) rfl (Nat.le_of_ble_eq_true rfl) (by decide) (fun w13 h14 => ?_)
              subst h14
              refine v_ws0 [ia (a 32) cI 5 od, ia (a 23) cI 5 ta, oT a (nI L) (nI lw) (nI s0) (nI st) (nI u) (e1 + 1) (if d1 (dn (o p)) = 1 then f1 + we (o p) else f1), ia (a 31) cI 5 tk, ia (a 33) cI 5 (upd v1 (o p) (d1 (dn (o p)))), ia (a 34) cI 6 d1, oK a si (nI nj) ca la sw sk rd, ia (a 21) cI 5 ag, ia (a 22) cI 5 de, ia (a 24) cI 5 we] rfl ?_
              refine v_iinc C (nI (p + 1)) [(2, .int (nI (p + 1))), (1, .int 0), (5, .int (e1 + 1)), (4, .int 0), (3, .int (nI (o p))), (0, .ref (a 4))] 4 dX2_hold_155 rfl (nI_inc _) (by decide) rfl ?_
              refine v_goto C 40 dX2_hold_158 (by decide) ?_
              refine v_perm (ws' := [oT a (nI L) (nI lw) (nI s0) (nI st) (nI u) (e1 + 1) (if d1 (dn (o p)) = 1 then f1 + we (o p) else f1), ia (a 31) cI 5 tk, ia (a 32) cI 5 od, ia (a 33) cI 5 (upd v1 (o p) (d1 (dn (o p)))), ia (a 34) cI 6 d1, oK a si (nI nj) ca la sw sk rd, ia (a 21) cI 5 ag, ia (a 22) cI 5 de, ia (a 23) cI 5 ta, ia (a 24) cI 5 we]) [2, 3, 0, 4, 5, 6, 7, 8, 1, 9] (by decide) rfl ?_
              refine v_loc [0, 1, 5] (lv' := [(2, .int (nI (p + 1))), (1, .int 0), (0, .ref (a 4))]) rfl ?_
              exact ihn_8 (p + 1) (upd v1 (o p) (d1 (dn (o p)))) d1 u (e1 + 1) (if d1 (dn (o p)) = 1 then f1 + we (o p) else f1) 0 (by omega) (by omega) (by rw [sitS, hs]; simp [sitStep, c10, c11, c12])
            · refine v_iconst C 1 dX2_hold_122 (by decide) ?_
              refine v_goto C 127 dX2_hold_123 (by decide) ?_
              refine v_istore_n C [(1, .int 1), (5, .int (e1 + 1)), (4, .int 0), (3, .int (nI (o p))), (2, .int (nI p)), (0, .ref (a 4))] dX2_hold_127 (by decide) rfl ?_
              refine v_iload_n C dX2_hold_128 0 rfl ?_
              refine v_if_eq C 142 dX2_hold_129 (by decide) (fun h => absurd h (by decide)) (fun _ => ?_)
              refine v_aload_n C dX2_hold_132 5 rfl ?_
              refine v_get C f_X2_18 dX2_hold_133 0 rfl rfl ?_
              refine v_iload_n C dX2_hold_136 3 rfl ?_
              refine v_iconst C 2 dX2_hold_137 (by decide) ?_
              refine v_iastN C [oT a (nI L) (nI lw) (nI s0) (nI st) (nI u) e1 f1, ia (a 31) cI 5 tk, ia (a 32) cI 5 od, ia (a 33) cI 5 (upd v1 (o p) 2), ia (a 34) cI 6 d1, oK a si (nI nj) ca la sw sk rd, ia (a 21) cI 5 ag, ia (a 22) cI 5 de, ia (a 23) cI 5 ta, ia (a 24) cI 5 we] dX2_hold_138 3 rfl (o p) rfl (by omega) (by decide) rfl ?_
              refine v_goto C 155 dX2_hold_139 (by decide) ?_
              refine v_iinc C (nI (p + 1)) [(2, .int (nI (p + 1))), (1, .int 1), (5, .int (e1 + 1)), (4, .int 0), (3, .int (nI (o p))), (0, .ref (a 4))] 4 dX2_hold_155 rfl (nI_inc _) (by decide) rfl ?_
              refine v_goto C 40 dX2_hold_158 (by decide) ?_
              refine v_loc [0, 1, 5] (lv' := [(2, .int (nI (p + 1))), (1, .int 1), (0, .ref (a 4))]) rfl ?_
              exact ihn_8 (p + 1) (upd v1 (o p) 2) d1 u e1 f1 1 (by omega) (by omega) (by rw [sitS, hs]; simp [sitStep, c10, c11, c12])
        · refine v_iconst C 1 dX2_hold_74 (by decide) ?_
          refine v_goto C 79 dX2_hold_75 (by decide) ?_
          refine v_istore C [(4, .int 1), (3, .int (nI (o p))), (2, .int (nI p)), (1, .int hm), (0, .ref (a 4))] dX2_hold_79 (by decide) rfl ?_
          refine v_aload_n C dX2_hold_81 4 rfl ?_
          refine v_get C f_X2_66 dX2_hold_82 0 rfl rfl ?_
          refine v_iload C dX2_hold_85 0 rfl ?_
          refine v_if_eq C 102 dX2_hold_87 (by decide) (fun h => absurd h (by decide)) (fun _ => ?_)
          refine v_aload_n C dX2_hold_90 4 rfl ?_
          refine v_get C f_X2_24 dX2_hold_91 0 rfl rfl ?_
          refine v_get C f_X2_75 dX2_hold_94 5 rfl rfl ?_
          refine v_iload_n C dX2_hold_97 1 rfl ?_
          refine v_ialdN C dX2_hold_98 8 rfl (o p) rfl (by omega) (by decide) ?_
          refine v_goto C 103 dX2_hold_99 (by decide) ?_
          refine v_iadd C dX2_hold_103 ?_
          refine v_istore C [(5, .int (e1 + (ta (o p)))), (4, .int 1), (3, .int (nI (o p))), (2, .int (nI p)), (1, .int hm), (0, .ref (a 4))] dX2_hold_104 (by decide) rfl ?_
          refine v_iload_n C dX2_hold_106 4 rfl ?_
          refine v_if_ne C 122 dX2_hold_107 (by decide) (fun c16 => ?_) (fun c16 => ?_)
          · refine v_iconst C 1 dX2_hold_122 (by decide) ?_
            refine v_goto C 127 dX2_hold_123 (by decide) ?_
            refine v_istore_n C [(1, .int 1), (5, .int (e1 + (ta (o p)))), (4, .int 1), (3, .int (nI (o p))), (2, .int (nI p)), (0, .ref (a 4))] dX2_hold_127 (by decide) rfl ?_
            refine v_iload_n C dX2_hold_128 0 rfl ?_
            refine v_if_eq C 142 dX2_hold_129 (by decide) (fun h => absurd h (by decide)) (fun _ => ?_)
            refine v_aload_n C dX2_hold_132 5 rfl ?_
            refine v_get C f_X2_18 dX2_hold_133 0 rfl rfl ?_
            refine v_iload_n C dX2_hold_136 3 rfl ?_
            refine v_iconst C 2 dX2_hold_137 (by decide) ?_
            refine v_iastN C [oT a (nI L) (nI lw) (nI s0) (nI st) (nI u) e1 f1, ia (a 31) cI 5 tk, ia (a 32) cI 5 od, ia (a 33) cI 5 (upd v1 (o p) 2), ia (a 34) cI 6 d1, oK a si (nI nj) ca la sw sk rd, ia (a 21) cI 5 ag, ia (a 22) cI 5 de, ia (a 23) cI 5 ta, ia (a 24) cI 5 we] dX2_hold_138 3 rfl (o p) rfl (by omega) (by decide) rfl ?_
            refine v_goto C 155 dX2_hold_139 (by decide) ?_
            refine v_iinc C (nI (p + 1)) [(2, .int (nI (p + 1))), (1, .int 1), (5, .int (e1 + (ta (o p)))), (4, .int 1), (3, .int (nI (o p))), (0, .ref (a 4))] 4 dX2_hold_155 rfl (nI_inc _) (by decide) rfl ?_
            refine v_goto C 40 dX2_hold_158 (by decide) ?_
            refine v_loc [0, 1, 5] (lv' := [(2, .int (nI (p + 1))), (1, .int 1), (0, .ref (a 4))]) rfl ?_
            exact ihn_8 (p + 1) (upd v1 (o p) 2) d1 u e1 f1 1 (by omega) (by omega) (by rw [sitS, hs]; simp [sitStep, c10, c16])
          · refine v_iload C dX2_hold_110 0 rfl ?_
            refine v_aload_n C dX2_hold_112 5 rfl ?_
            refine v_get C f_X2_24 dX2_hold_113 0 rfl rfl ?_
            refine v_get C f_X2_78 dX2_hold_116 5 rfl rfl ?_
            refine v_icmp_le C 126 dX2_hold_119 (by decide) (fun c17 => ?_) (fun c17 => ?_)
            · refine v_iconst C 0 dX2_hold_126 (by decide) ?_
              refine v_istore_n C [(1, .int 0), (5, .int (e1 + (ta (o p)))), (4, .int 1), (3, .int (nI (o p))), (2, .int (nI p)), (0, .ref (a 4))] dX2_hold_127 (by decide) rfl ?_
              refine v_iload_n C dX2_hold_128 0 rfl ?_
              refine v_if_eq C 142 dX2_hold_129 (by decide) (fun _ => ?_) (fun h => absurd h (by decide))
              refine v_aload_n C dX2_hold_142 5 rfl ?_
              refine v_iload C dX2_hold_143 1 rfl ?_
              refine v_put C p_X2_66 [oT a (nI L) (nI lw) (nI s0) (nI st) (nI u) (e1 + (ta (o p))) f1, ia (a 31) cI 5 tk, ia (a 32) cI 5 od, ia (a 33) cI 5 v1, ia (a 34) cI 6 d1, oK a si (nI nj) ca la sw sk rd, ia (a 21) cI 5 ag, ia (a 22) cI 5 de, ia (a 23) cI 5 ta, ia (a 24) cI 5 we] dX2_hold_145 0 rfl rfl rfl (Nat.le_of_ble_eq_true rfl) rfl ?_
              refine v_aload_n C dX2_hold_148 5 rfl ?_
              refine v_iload_n C dX2_hold_149 3 rfl ?_
              refine v_iload C dX2_hold_150 2 rfl ?_
              refine v_callMv C l_X2_81 (m_X2_judge1 a (o p) (dn (o p)) u st lw nj (nI L) (nI s0) (e1 + (ta (o p))) f1 tk v1 d1 si ca la sw sk rd ag de we (by omega) (hde (o p) hop).1 (hde (o p) hop).2 hnj hun hst hlw hp5) (by decide) dX2_hold_152 [0, 1, 3, 4, 5, 6, 7, 9] [2, 8] (wr := [ia (a 32) cI 5 od, ia (a 23) cI 5 ta]) (by decide) rfl rfl (by decide) (by decide) 0 rfl rfl rfl (rest := []) rfl (Nat.le_of_ble_eq_true rfl) (by decide) (fun w18 h19 => ?_)
              subst h19
              refine v_ws0 [ia (a 32) cI 5 od, ia (a 23) cI 5 ta, oT a (nI L) (nI lw) (nI s0) (nI st) (nI (unF nj tk u st)) (e1 + (ta (o p))) (if vdF nj tk ag u st (lw.testBit (dn (o p))) (e1 + (ta (o p))) = 1 then f1 + we (o p) else f1), ia (a 31) cI 5 tk, ia (a 33) cI 5 (upd v1 (o p) (vdF nj tk ag u st (lw.testBit (dn (o p))) (e1 + (ta (o p))))), ia (a 34) cI 6 (upd d1 (dn (o p)) (vdF nj tk ag u st (lw.testBit (dn (o p))) (e1 + (ta (o p))))), oK a si (nI nj) ca la sw sk rd, ia (a 21) cI 5 ag, ia (a 22) cI 5 de, ia (a 24) cI 5 we] rfl ?_
              refine v_iinc C (nI (p + 1)) [(2, .int (nI (p + 1))), (1, .int 0), (5, .int (e1 + (ta (o p)))), (4, .int 1), (3, .int (nI (o p))), (0, .ref (a 4))] 4 dX2_hold_155 rfl (nI_inc _) (by decide) rfl ?_
              refine v_goto C 40 dX2_hold_158 (by decide) ?_
              refine v_perm (ws' := [oT a (nI L) (nI lw) (nI s0) (nI st) (nI (unF nj tk u st)) (e1 + (ta (o p))) (if vdF nj tk ag u st (lw.testBit (dn (o p))) (e1 + (ta (o p))) = 1 then f1 + we (o p) else f1), ia (a 31) cI 5 tk, ia (a 32) cI 5 od, ia (a 33) cI 5 (upd v1 (o p) (vdF nj tk ag u st (lw.testBit (dn (o p))) (e1 + (ta (o p))))), ia (a 34) cI 6 (upd d1 (dn (o p)) (vdF nj tk ag u st (lw.testBit (dn (o p))) (e1 + (ta (o p))))), oK a si (nI nj) ca la sw sk rd, ia (a 21) cI 5 ag, ia (a 22) cI 5 de, ia (a 23) cI 5 ta, ia (a 24) cI 5 we]) [2, 3, 0, 4, 5, 6, 7, 8, 1, 9] (by decide) rfl ?_
              refine v_loc [0, 1, 5] (lv' := [(2, .int (nI (p + 1))), (1, .int 0), (0, .ref (a 4))]) rfl ?_
              exact ihn_8 (p + 1) (upd v1 (o p) (vdF nj tk ag u st (lw.testBit (dn (o p))) (e1 + (ta (o p))))) (upd d1 (dn (o p)) (vdF nj tk ag u st (lw.testBit (dn (o p))) (e1 + (ta (o p))))) (unF nj tk u st) (e1 + (ta (o p))) (if vdF nj tk ag u st (lw.testBit (dn (o p))) (e1 + (ta (o p))) = 1 then f1 + we (o p) else f1) 0 (by omega) (by omega) (by rw [sitS, hs]; simp [sitStep, c10, c16, c17])
            · refine v_iconst C 1 dX2_hold_122 (by decide) ?_
              refine v_goto C 127 dX2_hold_123 (by decide) ?_
              refine v_istore_n C [(1, .int 1), (5, .int (e1 + (ta (o p)))), (4, .int 1), (3, .int (nI (o p))), (2, .int (nI p)), (0, .ref (a 4))] dX2_hold_127 (by decide) rfl ?_
              refine v_iload_n C dX2_hold_128 0 rfl ?_
              refine v_if_eq C 142 dX2_hold_129 (by decide) (fun h => absurd h (by decide)) (fun _ => ?_)
              refine v_aload_n C dX2_hold_132 5 rfl ?_
              refine v_get C f_X2_18 dX2_hold_133 0 rfl rfl ?_
              refine v_iload_n C dX2_hold_136 3 rfl ?_
              refine v_iconst C 2 dX2_hold_137 (by decide) ?_
              refine v_iastN C [oT a (nI L) (nI lw) (nI s0) (nI st) (nI u) e1 f1, ia (a 31) cI 5 tk, ia (a 32) cI 5 od, ia (a 33) cI 5 (upd v1 (o p) 2), ia (a 34) cI 6 d1, oK a si (nI nj) ca la sw sk rd, ia (a 21) cI 5 ag, ia (a 22) cI 5 de, ia (a 23) cI 5 ta, ia (a 24) cI 5 we] dX2_hold_138 3 rfl (o p) rfl (by omega) (by decide) rfl ?_
              refine v_goto C 155 dX2_hold_139 (by decide) ?_
              refine v_iinc C (nI (p + 1)) [(2, .int (nI (p + 1))), (1, .int 1), (5, .int (e1 + (ta (o p)))), (4, .int 1), (3, .int (nI (o p))), (0, .ref (a 4))] 4 dX2_hold_155 rfl (nI_inc _) (by decide) rfl ?_
              refine v_goto C 40 dX2_hold_158 (by decide) ?_
              refine v_loc [0, 1, 5] (lv' := [(2, .int (nI (p + 1))), (1, .int 1), (0, .ref (a 4))]) rfl ?_
              exact ihn_8 (p + 1) (upd v1 (o p) 2) d1 u e1 f1 1 (by omega) (by omega) (by rw [sitS, hs]; simp [sitStep, c10, c16, c17])
  refine v_perm (ws' := [oT a (nI L) (nI lw) (nI s0) (nI st) (nI s0) 0 0, ia (a 31) cI 5 tk, ia (a 32) cI 5 od, ia (a 33) cI 5 (fun _ => (-9 : Int32)), ia (a 34) cI 6 (fun _ => (-9 : Int32)), oK a si (nI nj) ca la sw sk rd, ia (a 21) cI 5 ag, ia (a 22) cI 5 de, ia (a 23) cI 5 ta, ia (a 24) cI 5 we]) [0, 1, 2, 8, 9, 3, 4, 5, 6, 7] (by decide) rfl ?_
  exact lp (L - 0 + 1) 0 (fun _ => -9) (fun _ => -9) s0 0 0 0 (by omega) (by omega) (by simp [sitS])
end
section
theorem rvN_end {g : Nat → Nat} {n l r : Nat} (h : r ≤ l) : rvN g n l r = g := by
  cases n with
  | zero => rfl
  | succ n => rw [rvN, if_neg (by omega)]
theorem rvN_step {g : Nat → Nat} {n l r : Nat} (h : l < r) (hn : r < l + n) : rvN g n l r = rvN (swN g l r) (n - 1) (l + 1) (r - 1) := by
  cases n with
  | zero => omega
  | succ n => rw [rvN, if_pos h]; rfl
theorem nx_start {L : Nat} (h : 1 ≤ L) : nI L - 2 = nI (L - 1) + (-1) := by
  obtain ⟨k, rfl⟩ : ∃ k, L = k + 1 := ⟨L - 1, by omega⟩
  rw [nI_succ, show k + 1 - 1 = k from rfl, Int32.sub_eq_add_neg, Int32.add_assoc]
  rfl
set_option maxHeartbeats 4000000 in
set_option maxRecDepth 100000 in
theorem m_X2_prepare {l : Launch} {D : va_G} {cI cB cS : ClassId} (a : Nat → Nat) (ln : Int32) (lw : Int32) (ss : Int32) (sx : Int32) (un : Int32) (en : Int32) (se : Int32) (tk : Nat → Int32) (si : Int32) (ju : Int32) (ca : Int32) (la : Int32) (sw : Int32) (sk : Int32) (rd : Int32) (kd : Nat → Int32) : Mv l yX2_prepare cX2_prepare 1 1 26 D cI cB cS [.ref (a 4)] [oT a ln lw ss sx un en se, ia (a 31) cI 5 tk, oK a si ju ca la sw sk rd, ia (a 20) cI 5 kd] (fun w => w = [oT a 0 la sw sk sw en se, ia (a 31) cI 5 kd, oK a si ju ca la sw sk rd, ia (a 20) cI 5 kd]) := by
  refine Mv.of (by decide) (Nat.le_of_ble_eq_true rfl) ?_
  intro zp ze zs zm zb zt zc zz zA hA C hnm
  refine v_lv0 [(0, .ref (a 4))] rfl ?_
  refine v_aload_n C dX2_prepare_0 0 rfl ?_
  refine v_get C f_X2_24 dX2_prepare_1 0 rfl rfl ?_
  refine v_get C f_X2_28 dX2_prepare_4 2 rfl rfl ?_
  refine v_iconst C 0 dX2_prepare_7 (by decide) ?_
  refine v_aload_n C dX2_prepare_8 0 rfl ?_
  refine v_get C f_X2_9 dX2_prepare_9 0 rfl rfl ?_
  refine v_iconst C 0 dX2_prepare_12 (by decide) ?_
  refine v_iconst C 5 dX2_prepare_13 (by decide) ?_
  refine v_copy C lc_X2_31 lc_nat lc_sta lc_ini [oT a ln lw ss sx un en se, ia (a 31) cI 5 (va_cpy kd tk 0 0 5), oK a si ju ca la sw sk rd, ia (a 20) cI 5 kd] dX2_prepare_14 3 1 rfl rfl 0 0 5 rfl rfl rfl (by omega) (by omega) (by decide) (by decide) (by decide) (by decide) rfl ?_
  refine v_ext [oT a ln lw ss sx un en se, ia (a 31) cI 5 kd, oK a si ju ca la sw sk rd, ia (a 20) cI 5 kd] 1 kd rfl (fun j hj => (by simp [va_cpy, hj])) rfl ?_
  refine v_aload_n C dX2_prepare_17 0 rfl ?_
  refine v_aload_n C dX2_prepare_18 0 rfl ?_
  refine v_get C f_X2_24 dX2_prepare_19 0 rfl rfl ?_
  refine v_get C f_X2_37 dX2_prepare_22 2 rfl rfl ?_
  refine v_put C p_X2_41 [oT a ln la ss sx un en se, ia (a 31) cI 5 kd, oK a si ju ca la sw sk rd, ia (a 20) cI 5 kd] dX2_prepare_25 0 rfl rfl rfl (Nat.le_of_ble_eq_true rfl) rfl ?_
  refine v_aload_n C dX2_prepare_28 0 rfl ?_
  refine v_aload_n C dX2_prepare_29 0 rfl ?_
  refine v_get C f_X2_24 dX2_prepare_30 0 rfl rfl ?_
  refine v_get C f_X2_42 dX2_prepare_33 2 rfl rfl ?_
  refine v_put C p_X2_45 [oT a ln la sw sx un en se, ia (a 31) cI 5 kd, oK a si ju ca la sw sk rd, ia (a 20) cI 5 kd] dX2_prepare_36 0 rfl rfl rfl (Nat.le_of_ble_eq_true rfl) rfl ?_
  refine v_aload_n C dX2_prepare_39 0 rfl ?_
  refine v_aload_n C dX2_prepare_40 0 rfl ?_
  refine v_get C f_X2_24 dX2_prepare_41 0 rfl rfl ?_
  refine v_get C f_X2_46 dX2_prepare_44 2 rfl rfl ?_
  refine v_put C p_X2_49 [oT a ln la sw sk un en se, ia (a 31) cI 5 kd, oK a si ju ca la sw sk rd, ia (a 20) cI 5 kd] dX2_prepare_47 0 rfl rfl rfl (Nat.le_of_ble_eq_true rfl) rfl ?_
  refine v_aload_n C dX2_prepare_50 0 rfl ?_
  refine v_aload_n C dX2_prepare_51 0 rfl ?_
  refine v_get C f_X2_45 dX2_prepare_52 0 rfl rfl ?_
  refine v_put C p_X2_50 [oT a ln la sw sk sw en se, ia (a 31) cI 5 kd, oK a si ju ca la sw sk rd, ia (a 20) cI 5 kd] dX2_prepare_55 0 rfl rfl rfl (Nat.le_of_ble_eq_true rfl) rfl ?_
  refine v_aload_n C dX2_prepare_58 0 rfl ?_
  refine v_iconst C 0 dX2_prepare_59 (by decide) ?_
  refine v_put C p_X2_53 [oT a 0 la sw sk sw en se, ia (a 31) cI 5 kd, oK a si ju ca la sw sk rd, ia (a 20) cI 5 kd] dX2_prepare_60 0 rfl rfl rfl (Nat.le_of_ble_eq_true rfl) rfl ?_
  exact v_retv C hA dX2_prepare_63 (rfl)
set_option maxHeartbeats 4000000 in
set_option maxRecDepth 100000 in
theorem m_X2_addToOrder {l : Launch} {D : va_G} {cI cB cS : ClassId} (a : Nat → Nat) (L : Nat) (lw : Int32) (ss : Int32) (sx : Int32) (un : Int32) (en : Int32) (se : Int32) (od : Nat → Int32) (c : Int32) (hL : L < 5) : Mv l yX2_addToOrder cX2_addToOrder 2 0 0 D cI cB cS [.ref (a 4), .int c] [oT a (nI L) lw ss sx un en se, ia (a 32) cI 5 od] (fun w => w = [oT a (nI (L + 1)) lw ss sx un en se, ia (a 32) cI 5 (upd od L c)]) := by
  refine Mv.of (by decide) (Nat.le_of_ble_eq_true rfl) ?_
  intro zp ze zs zm zb zt zc zz zA hA C hnm
  refine v_lv0 [(0, .ref (a 4)), (1, .int c)] rfl ?_
  refine v_aload_n C dX2_addToOrder_0 0 rfl ?_
  refine v_get C f_X2_53 dX2_addToOrder_1 0 rfl rfl ?_
  refine v_iconst C 5 dX2_addToOrder_4 (by decide) ?_
  refine v_icmp_ge C 28 dX2_addToOrder_5 (by decide) (fun c1 => ?_) (fun c1 => ?_)
  · have nc1 : 5 ≤ L := nI_leD c1 (by omega)
    exact absurd nc1 (by omega)
  · have nc1 : L < 5 := nI_ltD c1 (by omega)
    refine v_aload_n C dX2_addToOrder_8 0 rfl ?_
    refine v_get C f_X2_15 dX2_addToOrder_9 0 rfl rfl ?_
    refine v_aload_n C dX2_addToOrder_12 0 rfl ?_
    refine v_get C f_X2_53 dX2_addToOrder_13 0 rfl rfl ?_
    refine v_iload_n C dX2_addToOrder_16 1 rfl ?_
    refine v_iastN C [oT a (nI L) lw ss sx un en se, ia (a 32) cI 5 (upd od L c)] dX2_addToOrder_17 1 rfl L rfl (by omega) (by decide) rfl ?_
    refine v_aload_n C dX2_addToOrder_18 0 rfl ?_
    refine v_dup C dX2_addToOrder_19 rfl ?_
    refine v_get C f_X2_53 dX2_addToOrder_20 0 rfl rfl ?_
    refine v_iconst C 1 dX2_addToOrder_23 (by decide) ?_
    refine v_iadd C dX2_addToOrder_24 ?_
    refine v_eqi (nI (L + 1)) (nI_1 L) ?_
    refine v_put C p_X2_53 [oT a (nI (L + 1)) lw ss sx un en se, ia (a 32) cI 5 (upd od L c)] dX2_addToOrder_25 0 rfl rfl rfl (Nat.le_of_ble_eq_true rfl) rfl ?_
    exact v_retv C hA dX2_addToOrder_28 (rfl)
set_option maxHeartbeats 4000000 in
set_option maxRecDepth 100000 in
theorem m_X2_swapInOrder {l : Launch} {D : va_G} {cI cB cS : ClassId} (a : Nat → Nat) (p q : Nat) (ln : Int32) (lw : Int32) (ss : Int32) (sx : Int32) (un : Int32) (en : Int32) (se : Int32) (od : Nat → Int32) (hp : p < 5) (hq : q < 5) : Mv l yX2_swapInOrder cX2_swapInOrder 4 0 0 D cI cB cS [.ref (a 4), .int (nI p), .int (nI q)] [oT a ln lw ss sx un en se, ia (a 32) cI 5 od] (fun w => w = [oT a ln lw ss sx un en se, ia (a 32) cI 5 (upd (upd od p (od q)) q (od p))]) := by
  refine Mv.of (by decide) (Nat.le_of_ble_eq_true rfl) ?_
  intro zp ze zs zm zb zt zc zz zA hA C hnm
  refine v_lv0 [(0, .ref (a 4)), (1, .int (nI p)), (2, .int (nI q))] rfl ?_
  refine v_aload_n C dX2_swapInOrder_0 0 rfl ?_
  refine v_get C f_X2_15 dX2_swapInOrder_1 0 rfl rfl ?_
  refine v_iload_n C dX2_swapInOrder_4 1 rfl ?_
  refine v_ialdN C dX2_swapInOrder_5 1 rfl p rfl (by omega) (by decide) ?_
  refine v_istore_n C [(3, .int (od p)), (0, .ref (a 4)), (1, .int (nI p)), (2, .int (nI q))] dX2_swapInOrder_6 (by decide) rfl ?_
  refine v_aload_n C dX2_swapInOrder_7 1 rfl ?_
  refine v_get C f_X2_15 dX2_swapInOrder_8 0 rfl rfl ?_
  refine v_iload_n C dX2_swapInOrder_11 2 rfl ?_
  refine v_aload_n C dX2_swapInOrder_12 1 rfl ?_
  refine v_get C f_X2_15 dX2_swapInOrder_13 0 rfl rfl ?_
  refine v_iload_n C dX2_swapInOrder_16 3 rfl ?_
  refine v_ialdN C dX2_swapInOrder_17 1 rfl q rfl (by omega) (by decide) ?_
  refine v_iastN C [oT a ln lw ss sx un en se, ia (a 32) cI 5 (upd od p (od q))] dX2_swapInOrder_18 1 rfl p rfl (by omega) (by decide) rfl ?_
  refine v_aload_n C dX2_swapInOrder_19 1 rfl ?_
  refine v_get C f_X2_15 dX2_swapInOrder_20 0 rfl rfl ?_
  refine v_iload_n C dX2_swapInOrder_23 3 rfl ?_
  refine v_iload_n C dX2_swapInOrder_24 0 rfl ?_
  refine v_iastN C [oT a ln lw ss sx un en se, ia (a 32) cI 5 (upd (upd od p (od q)) q (od p))] dX2_swapInOrder_25 1 rfl q rfl (by omega) (by decide) rfl ?_
  exact v_retv C hA dX2_swapInOrder_26 (rfl)
set_option maxHeartbeats 4000000 in
set_option maxRecDepth 100000 in
theorem m_X2_goToNextOrder {l : Launch} {D : va_G} {cI cB cS : ClassId} (a : Nat → Nat) (L : Nat) (g : Nat → Nat) (lw : Int32) (ss : Int32) (sx : Int32) (un : Int32) (en : Int32) (se : Int32) (od : Nat → Int32) (hL : L ≤ 5) (hL1 : 1 ≤ L) (hf : ∀ i, i < L → od i = nI (g i)) (hg : ∀ i, i < L → g i < 5) : Mi l yX2_goToNextOrder cX2_goToNextOrder 5 (some .boolean) 1 23 D cI cB cS [.ref (a 4)] [oT a (nI L) lw ss sx un en se, ia (a 32) cI 5 od] (fun r w => (nxN L g = none ∧ r = 0 ∧ w = [oT a (nI L) lw ss sx un en se, ia (a 32) cI 5 od]) ∨ (∃ (g' : Nat → Nat) (od' : Nat → Int32), nxN L g = some g' ∧ r = 1 ∧ w = [oT a (nI L) lw ss sx un en se, ia (a 32) cI 5 od'] ∧ ∀ i, i < L → od' i = nI (g' i))) := by
  refine Mi.of (by decide) (Nat.le_of_ble_eq_true rfl) ?_
  intro zp ze zs zm zb zt zc zz zA hA C hnm
  refine v_lv0 [(0, .ref (a 4))] rfl ?_
  refine v_aload_n C dX2_goToNextOrder_0 0 rfl ?_
  refine v_get C f_X2_53 dX2_goToNextOrder_1 0 rfl rfl ?_
  refine v_iconst C 2 dX2_goToNextOrder_4 (by decide) ?_
  refine v_isub C dX2_goToNextOrder_5 ?_
  refine v_istore_n C [(1, .int ((nI L) - 2)), (0, .ref (a 4))] dX2_goToNextOrder_6 (by decide) rfl ?_
  have hz : nI L - 2 = nI (L - 1) + (-1) := nx_start hL1
  refine v_lv0 [(1, .int (nI (L - 1) + (-1))), (0, .ref (a 4))] (by rw [hz]) ?_
  have lp : ∀ (n_2 : Nat) (r : Nat), r < n_2 → (r ≤ L - 1) → (rsN g (L - 1) = rsN g r) → V zp l ze (rmOf 1 23) zs zm [.ref (a 4)].toArray zb zt zc D (IM zA zs) (QMi zb [.ref (a 4)].toArray zs D cI cB cS [oT a (nI L) lw ss sx un en se, ia (a 32) cI 5 od] zz (fun r w => (nxN L g = none ∧ r = 0 ∧ w = [oT a (nI L) lw ss sx un en se, ia (a 32) cI 5 od]) ∨ (∃ (g' : Nat → Nat) (od' : Nat → Int32), nxN L g = some g' ∧ r = 1 ∧ w = [oT a (nI L) lw ss sx un en se, ia (a 32) cI 5 od'] ∧ ∀ i, i < L → od' i = nI (g' i)))) 0 0 5 [oT a (nI L) lw ss sx un en se, ia (a 32) cI 5 od] [(1, .int (nI r + (-1))), (0, .ref (a 4))] 7 [] := by
    intro n_2
    induction n_2 with
    | zero => intro r b1; exact absurd b1 (by omega)
    | succ n_2 ihn_2 =>
      intro r b1 hr hrs
      cases r with
      | zero =>
        refine v_lv0 [(1, .int (-1)), (0, .ref (a 4))] (by rfl) ?_
        refine v_iload_n C dX2_goToNextOrder_7 0 rfl ?_
        have hrs0 := hrs
        refine v_if_lt C 34 dX2_goToNextOrder_8 (by decide) (fun _ => ?_) (fun h => absurd h (by decide))
        refine v_iload_n C dX2_goToNextOrder_34 0 rfl ?_
        refine v_if_ge C 40 dX2_goToNextOrder_35 (by decide) (fun h => absurd h (by decide)) (fun _ => ?_)
        refine v_iconst C 0 dX2_goToNextOrder_38 (by decide) ?_
        exact v_reti C hA dX2_goToNextOrder_39 rfl (Or.inl ⟨by rw [nxN, hrs]; rfl, rfl, rfl⟩)
      | succ r =>
        refine v_lv0 [(1, .int (nI r)), (0, .ref (a 4))] (by rw [pk_m1]) ?_
        refine v_iload_n C dX2_goToNextOrder_7 0 rfl ?_
        refine v_if_lt C 34 dX2_goToNextOrder_8 (by decide) (fun c3 => ?_) (fun c3 => ?_)
        · have nc3 : r < 0 := nI_ltP c3 (by omega)
          exact absurd nc3 (by omega)
        · have nc3 : 0 ≤ r := nI_geP c3 (by omega)
          refine v_aload_n C dX2_goToNextOrder_11 1 rfl ?_
          refine v_get C f_X2_15 dX2_goToNextOrder_12 0 rfl rfl ?_
          refine v_iload_n C dX2_goToNextOrder_15 0 rfl ?_
          refine v_ialdN C dX2_goToNextOrder_16 1 rfl r rfl (by omega) (by decide) ?_
          refine v_eqi (nI (g r)) (hf r (by omega)) ?_
          refine v_aload_n C dX2_goToNextOrder_17 1 rfl ?_
          refine v_get C f_X2_15 dX2_goToNextOrder_18 0 rfl rfl ?_
          refine v_iload_n C dX2_goToNextOrder_21 0 rfl ?_
          refine v_iconst C 1 dX2_goToNextOrder_22 (by decide) ?_
          refine v_iadd C dX2_goToNextOrder_23 ?_
          refine v_eqi (nI (r + 1)) (nI_1 r) ?_
          refine v_ialdN C dX2_goToNextOrder_24 1 rfl (r + 1) rfl (by omega) (by decide) ?_
          refine v_eqi (nI (g (r + 1))) (hf (r + 1) (by omega)) ?_
          have hg0 := hg r (by omega)
          have hg1 := hg (r + 1) (by omega)
          refine v_icmp_le C 34 dX2_goToNextOrder_25 (by decide) (fun c4 => ?_) (fun c4 => ?_)
          · have nc4 : (g r) ≤ (g (r + 1)) := nI_leD c4 (by omega)
            have hrr : rsN g (L - 1) = some r := by rw [hrs, rsN, if_neg (by omega)]
            refine v_iload_n C dX2_goToNextOrder_34 0 rfl ?_
            refine v_if_ge C 40 dX2_goToNextOrder_35 (by decide) (fun c5 => ?_) (fun c5 => ?_)
            · have nc5 : 0 ≤ r := nI_leD c5 (by omega)
              refine v_aload_n C dX2_goToNextOrder_40 1 rfl ?_
              refine v_get C f_X2_53 dX2_goToNextOrder_41 0 rfl rfl ?_
              refine v_iconst C 1 dX2_goToNextOrder_44 (by decide) ?_
              refine v_isub C dX2_goToNextOrder_45 ?_
              refine v_eqi (nI (L - 1)) (pk_sub (by omega : 1 ≤ L)) ?_
              refine v_istore_n C [(2, .int (nI (L - 1))), (1, .int (nI r)), (0, .ref (a 4))] dX2_goToNextOrder_46 (by decide) rfl ?_
              have lq : ∀ (n_7 : Nat) (w : Nat), w < n_7 → (r ≤ w) → (w ≤ L - 1) → (wtN g r (L - 1) = wtN g r w) → V zp l ze (rmOf 1 23) zs zm [.ref (a 4)].toArray zb zt zc D (IM zA zs) (QMi zb [.ref (a 4)].toArray zs D cI cB cS [oT a (nI L) lw ss sx un en se, ia (a 32) cI 5 od] zz (fun r w => (nxN L g = none ∧ r = 0 ∧ w = [oT a (nI L) lw ss sx un en se, ia (a 32) cI 5 od]) ∨ (∃ (g' : Nat → Nat) (od' : Nat → Int32), nxN L g = some g' ∧ r = 1 ∧ w = [oT a (nI L) lw ss sx un en se, ia (a 32) cI 5 od'] ∧ ∀ i, i < L → od' i = nI (g' i)))) 0 0 5 [oT a (nI L) lw ss sx un en se, ia (a 32) cI 5 od] [(2, .int (nI w)), (1, .int (nI r)), (0, .ref (a 4))] 47 [] := by
                intro n_7
                induction n_7 with
                | zero => intro w b6; exact absurd b6 (by omega)
                | succ n_7 ihn_7 =>
                  intro w b6 hw1 hw2 hw
                  refine v_iload_n C dX2_goToNextOrder_47 0 rfl ?_
                  refine v_iload_n C dX2_goToNextOrder_48 1 rfl ?_
                  refine v_icmp_le C 73 dX2_goToNextOrder_49 (by decide) (fun c8 => ?_) (fun c8 => ?_)
                  · have nc8 : w ≤ r := nI_leD c8 (by omega)
                    have hwe : wtN g r (L - 1) = w := by rw [hw]; cases w with | zero => rfl | succ w => rw [wtN, if_neg (by omega)]
                    refine v_aload_n C dX2_goToNextOrder_73 2 rfl ?_
                    refine v_iload_n C dX2_goToNextOrder_74 1 rfl ?_
                    refine v_iload_n C dX2_goToNextOrder_75 0 rfl ?_
                    refine v_callMv C l_X2_56 (m_X2_swapInOrder a r w (nI L) lw ss sx un en se od (by omega) (by omega)) (by decide) dX2_goToNextOrder_76 [0, 1] [] (wr := []) (by decide) rfl rfl (by decide) (by decide) 0 rfl rfl rfl (rest := []) rfl (Nat.le_of_ble_eq_true rfl) (by decide) (fun w9 h10 => ?_)
                    subst h10
                    refine v_ws0 [oT a (nI L) lw ss sx un en se, ia (a 32) cI 5 (upd (upd od r (od w)) w (od r))] rfl ?_
                    refine v_iload_n C dX2_goToNextOrder_79 1 rfl ?_
                    refine v_iconst C 1 dX2_goToNextOrder_80 (by decide) ?_
                    refine v_iadd C dX2_goToNextOrder_81 ?_
                    refine v_eqi (nI (r + 1)) (nI_1 r) ?_
                    refine v_istore_n C [(3, .int (nI (r + 1))), (2, .int (nI w)), (1, .int (nI r)), (0, .ref (a 4))] dX2_goToNextOrder_82 (by decide) rfl ?_
                    refine v_aload_n C dX2_goToNextOrder_83 3 rfl ?_
                    refine v_get C f_X2_53 dX2_goToNextOrder_84 0 rfl rfl ?_
                    refine v_iconst C 1 dX2_goToNextOrder_87 (by decide) ?_
                    refine v_isub C dX2_goToNextOrder_88 ?_
                    refine v_eqi (nI (L - 1)) (pk_sub (by omega : 1 ≤ L)) ?_
                    refine v_istore C [(4, .int (nI (L - 1))), (3, .int (nI (r + 1))), (2, .int (nI w)), (1, .int (nI r)), (0, .ref (a 4))] dX2_goToNextOrder_89 (by decide) rfl ?_
                    have hf1 := sw_upd hf (show r < L by omega) (show w < L by omega)
                    have lr : ∀ (n_13 : Nat) (lf : Nat) (rt : Nat) (fu : Nat) (f2 : Nat → Int32) (g2 : Nat → Nat), rt - lf < n_13 → (lf ≤ L) → (1 ≤ lf) → (rt ≤ L - 1) → (rt < lf + fu) → (∀ i, i < L → f2 i = nI (g2 i)) → (rvN (swN g r w) L (r + 1) (L - 1) = rvN g2 fu lf rt) → V zp l ze (rmOf 1 23) zs zm [.ref (a 4)].toArray zb zt zc D (IM zA zs) (QMi zb [.ref (a 4)].toArray zs D cI cB cS [oT a (nI L) lw ss sx un en se, ia (a 32) cI 5 od] zz (fun r w => (nxN L g = none ∧ r = 0 ∧ w = [oT a (nI L) lw ss sx un en se, ia (a 32) cI 5 od]) ∨ (∃ (g' : Nat → Nat) (od' : Nat → Int32), nxN L g = some g' ∧ r = 1 ∧ w = [oT a (nI L) lw ss sx un en se, ia (a 32) cI 5 od'] ∧ ∀ i, i < L → od' i = nI (g' i)))) 0 0 5 [oT a (nI L) lw ss sx un en se, ia (a 32) cI 5 f2] [(4, .int (nI rt)), (3, .int (nI lf)), (0, .ref (a 4))] 91 [] := by
                      intro n_13
                      induction n_13 with
                      | zero => intro lf rt fu f2 g2 b12; exact absurd b12 (by omega)
                      | succ n_13 ihn_13 =>
                        intro lf rt fu f2 g2 b12 hl3 hl1 hl2 hfu hf2 hg2
                        refine v_iload_n C dX2_goToNextOrder_91 1 rfl ?_
                        refine v_iload C dX2_goToNextOrder_92 0 rfl ?_
                        refine v_icmp_ge C 113 dX2_goToNextOrder_94 (by decide) (fun c14 => ?_) (fun c14 => ?_)
                        · have nc14 : rt ≤ lf := nI_leD c14 (by omega)
                          refine v_iconst C 1 dX2_goToNextOrder_113 (by decide) ?_
                          exact v_reti C hA dX2_goToNextOrder_114 rfl (Or.inr ⟨g2, f2, by rw [nxN, hrr]; show some (rvN (swN g r (wtN g r (L - 1))) L (r + 1) (L - 1)) = _; rw [hwe, hg2, rvN_end (by omega)], rfl, rfl, hf2⟩)
                        · have nc14 : lf < rt := nI_ltD c14 (by omega)
                          refine v_aload_n C dX2_goToNextOrder_97 2 rfl ?_
                          refine v_iload_n C dX2_goToNextOrder_98 1 rfl ?_
                          refine v_iload C dX2_goToNextOrder_99 0 rfl ?_
                          refine v_callMv C l_X2_56 (m_X2_swapInOrder a lf rt (nI L) lw ss sx un en se f2 (by omega) (by omega)) (by decide) dX2_goToNextOrder_101 [0, 1] [] (wr := []) (by decide) rfl rfl (by decide) (by decide) 0 rfl rfl rfl (rest := []) rfl (Nat.le_of_ble_eq_true rfl) (by decide) (fun w15 h16 => ?_)
                          subst h16
                          refine v_ws0 [oT a (nI L) lw ss sx un en se, ia (a 32) cI 5 (upd (upd f2 lf (f2 rt)) rt (f2 lf))] rfl ?_
                          refine v_iinc C (nI (lf + 1)) [(3, .int (nI (lf + 1))), (4, .int (nI rt)), (0, .ref (a 4))] 1 dX2_goToNextOrder_104 rfl (nI_inc _) (by decide) rfl ?_
                          refine v_iinc C (nI (rt - 1)) [(4, .int (nI (rt - 1))), (3, .int (nI (lf + 1))), (0, .ref (a 4))] 1 dX2_goToNextOrder_107 rfl (nI_dec (by omega)) (by decide) rfl ?_
                          refine v_goto C 91 dX2_goToNextOrder_110 (by decide) ?_
                          exact ihn_13 (lf + 1) (rt - 1) (fu - 1) (upd (upd f2 lf (f2 rt)) rt (f2 lf)) (swN g2 lf rt) (by omega) (by omega) (by omega) (by omega) (by omega) (sw_upd hf2 (by omega) (by omega)) (by rw [hg2]; exact rvN_step (by omega) (by omega))
                    refine v_loc [0, 1, 4] (lv' := [(4, .int (nI (L - 1))), (3, .int (nI (r + 1))), (0, .ref (a 4))]) rfl ?_
                    exact lr ((L - 1) - (r + 1) + 1) (r + 1) (L - 1) L (upd (upd od r (od w)) w (od r)) (swN g r w) (by omega) (by omega) (by omega) (by omega) (by omega) hf1 rfl
                  · have nc8 : r < w := nI_ltD c8 (by omega)
                    refine v_aload_n C dX2_goToNextOrder_52 2 rfl ?_
                    refine v_get C f_X2_15 dX2_goToNextOrder_53 0 rfl rfl ?_
                    refine v_iload_n C dX2_goToNextOrder_56 0 rfl ?_
                    refine v_ialdN C dX2_goToNextOrder_57 1 rfl w rfl (by omega) (by decide) ?_
                    refine v_eqi (nI (g w)) (hf w (by omega)) ?_
                    refine v_aload_n C dX2_goToNextOrder_58 2 rfl ?_
                    refine v_get C f_X2_15 dX2_goToNextOrder_59 0 rfl rfl ?_
                    refine v_iload_n C dX2_goToNextOrder_62 1 rfl ?_
                    refine v_ialdN C dX2_goToNextOrder_63 1 rfl r rfl (by omega) (by decide) ?_
                    refine v_eqi (nI (g r)) (hf r (by omega)) ?_
                    have hgw := hg w (by omega)
                    refine v_icmp_ge C 73 dX2_goToNextOrder_64 (by decide) (fun c18 => ?_) (fun c18 => ?_)
                    · have nc18 : (g r) ≤ (g w) := nI_leD c18 (by omega)
                      have hwe : wtN g r (L - 1) = w := by rw [hw]; cases w with | zero => rfl | succ w => rw [wtN, if_neg (by omega)]
                      refine v_aload_n C dX2_goToNextOrder_73 2 rfl ?_
                      refine v_iload_n C dX2_goToNextOrder_74 1 rfl ?_
                      refine v_iload_n C dX2_goToNextOrder_75 0 rfl ?_
                      refine v_callMv C l_X2_56 (m_X2_swapInOrder a r w (nI L) lw ss sx un en se od (by omega) (by omega)) (by decide) dX2_goToNextOrder_76 [0, 1] [] (wr := []) (by decide) rfl rfl (by decide) (by decide) 0 rfl rfl rfl (rest := []) rfl (Nat.le_of_ble_eq_true rfl) (by decide) (fun w19 h20 => ?_)
                      subst h20
                      refine v_ws0 [oT a (nI L) lw ss sx un en se, ia (a 32) cI 5 (upd (upd od r (od w)) w (od r))] rfl ?_
                      refine v_iload_n C dX2_goToNextOrder_79 1 rfl ?_
                      refine v_iconst C 1 dX2_goToNextOrder_80 (by decide) ?_
                      refine v_iadd C dX2_goToNextOrder_81 ?_
                      refine v_eqi (nI (r + 1)) (nI_1 r) ?_
                      refine v_istore_n C [(3, .int (nI (r + 1))), (2, .int (nI w)), (1, .int (nI r)), (0, .ref (a 4))] dX2_goToNextOrder_82 (by decide) rfl ?_
                      refine v_aload_n C dX2_goToNextOrder_83 3 rfl ?_
                      refine v_get C f_X2_53 dX2_goToNextOrder_84 0 rfl rfl ?_
                      refine v_iconst C 1 dX2_goToNextOrder_87 (by decide) ?_
                      refine v_isub C dX2_goToNextOrder_88 ?_
                      refine v_eqi (nI (L - 1)) (pk_sub (by omega : 1 ≤ L)) ?_
                      refine v_istore C [(4, .int (nI (L - 1))), (3, .int (nI (r + 1))), (2, .int (nI w)), (1, .int (nI r)), (0, .ref (a 4))] dX2_goToNextOrder_89 (by decide) rfl ?_
                      have hf1 := sw_upd hf (show r < L by omega) (show w < L by omega)
                      have lr : ∀ (n_23 : Nat) (lf : Nat) (rt : Nat) (fu : Nat) (f2 : Nat → Int32) (g2 : Nat → Nat), rt - lf < n_23 → (lf ≤ L) → (1 ≤ lf) → (rt ≤ L - 1) → (rt < lf + fu) → (∀ i, i < L → f2 i = nI (g2 i)) → (rvN (swN g r w) L (r + 1) (L - 1) = rvN g2 fu lf rt) → V zp l ze (rmOf 1 23) zs zm [.ref (a 4)].toArray zb zt zc D (IM zA zs) (QMi zb [.ref (a 4)].toArray zs D cI cB cS [oT a (nI L) lw ss sx un en se, ia (a 32) cI 5 od] zz (fun r w => (nxN L g = none ∧ r = 0 ∧ w = [oT a (nI L) lw ss sx un en se, ia (a 32) cI 5 od]) ∨ (∃ (g' : Nat → Nat) (od' : Nat → Int32), nxN L g = some g' ∧ r = 1 ∧ w = [oT a (nI L) lw ss sx un en se, ia (a 32) cI 5 od'] ∧ ∀ i, i < L → od' i = nI (g' i)))) 0 0 5 [oT a (nI L) lw ss sx un en se, ia (a 32) cI 5 f2] [(4, .int (nI rt)), (3, .int (nI lf)), (0, .ref (a 4))] 91 [] := by
                        intro n_23
                        induction n_23 with
                        | zero => intro lf rt fu f2 g2 b22; exact absurd b22 (by omega)
                        | succ n_23 ihn_23 =>
                          intro lf rt fu f2 g2 b22 hl3 hl1 hl2 hfu hf2 hg2
                          refine v_iload_n C dX2_goToNextOrder_91 1 rfl ?_
                          refine v_iload C dX2_goToNextOrder_92 0 rfl ?_
                          refine v_icmp_ge C 113 dX2_goToNextOrder_94 (by decide) (fun c24 => ?_) (fun c24 => ?_)
                          · have nc24 : rt ≤ lf := nI_leD c24 (by omega)
                            refine v_iconst C 1 dX2_goToNextOrder_113 (by decide) ?_
                            exact v_reti C hA dX2_goToNextOrder_114 rfl (Or.inr ⟨g2, f2, by rw [nxN, hrr]; show some (rvN (swN g r (wtN g r (L - 1))) L (r + 1) (L - 1)) = _; rw [hwe, hg2, rvN_end (by omega)], rfl, rfl, hf2⟩)
                          · have nc24 : lf < rt := nI_ltD c24 (by omega)
                            refine v_aload_n C dX2_goToNextOrder_97 2 rfl ?_
                            refine v_iload_n C dX2_goToNextOrder_98 1 rfl ?_
                            refine v_iload C dX2_goToNextOrder_99 0 rfl ?_
                            refine v_callMv C l_X2_56 (m_X2_swapInOrder a lf rt (nI L) lw ss sx un en se f2 (by omega) (by omega)) (by decide) dX2_goToNextOrder_101 [0, 1] [] (wr := []) (by decide) rfl rfl (by decide) (by decide) 0 rfl rfl rfl (rest := []) rfl (Nat.le_of_ble_eq_true rfl) (by decide) (fun w25 h26 => ?_)
                            subst h26
                            refine v_ws0 [oT a (nI L) lw ss sx un en se, ia (a 32) cI 5 (upd (upd f2 lf (f2 rt)) rt (f2 lf))] rfl ?_
                            refine v_iinc C (nI (lf + 1)) [(3, .int (nI (lf + 1))), (4, .int (nI rt)), (0, .ref (a 4))] 1 dX2_goToNextOrder_104 rfl (nI_inc _) (by decide) rfl ?_
                            refine v_iinc C (nI (rt - 1)) [(4, .int (nI (rt - 1))), (3, .int (nI (lf + 1))), (0, .ref (a 4))] 1 dX2_goToNextOrder_107 rfl (nI_dec (by omega)) (by decide) rfl ?_
                            refine v_goto C 91 dX2_goToNextOrder_110 (by decide) ?_
                            exact ihn_23 (lf + 1) (rt - 1) (fu - 1) (upd (upd f2 lf (f2 rt)) rt (f2 lf)) (swN g2 lf rt) (by omega) (by omega) (by omega) (by omega) (by omega) (sw_upd hf2 (by omega) (by omega)) (by rw [hg2]; exact rvN_step (by omega) (by omega))
                      refine v_loc [0, 1, 4] (lv' := [(4, .int (nI (L - 1))), (3, .int (nI (r + 1))), (0, .ref (a 4))]) rfl ?_
                      exact lr ((L - 1) - (r + 1) + 1) (r + 1) (L - 1) L (upd (upd od r (od w)) w (od r)) (swN g r w) (by omega) (by omega) (by omega) (by omega) (by omega) hf1 rfl
                    · have nc18 : (g w) < (g r) := nI_ltD c18 (by omega)
                      have hwe : wtN g r (L - 1) = wtN g r (w - 1) := by rw [hw]; cases w with | zero => omega | succ w => rw [wtN, if_pos (by omega)]; rfl
                      refine v_iinc C (nI (w - 1)) [(2, .int (nI (w - 1))), (1, .int (nI r)), (0, .ref (a 4))] 0 dX2_goToNextOrder_67 rfl (nI_dec (by omega)) (by decide) rfl ?_
                      refine v_goto C 47 dX2_goToNextOrder_70 (by decide) ?_
                      exact ihn_7 (w - 1) (by omega) (by omega) (by omega) hwe
              exact lq ((L - 1) + 1) (L - 1) (by omega) (by omega) (by omega) rfl
            · have nc5 : r < 0 := nI_ltD c5 (by omega)
              exact absurd nc5 (by omega)
          · have nc4 : (g (r + 1)) < (g r) := nI_ltD c4 (by omega)
            have hrr : rsN g (L - 1) = rsN g r := by rw [hrs, rsN, if_pos (by omega)]
            refine v_iinc C (nI r + (-1)) [(1, .int (nI r + (-1))), (0, .ref (a 4))] 0 dX2_goToNextOrder_28 rfl (rfl) (by decide) rfl ?_
            refine v_goto C 7 dX2_goToNextOrder_31 (by decide) ?_
            exact ihn_2 r (by omega) (by omega) hrr
  exact lp ((L - 1) + 1) (L - 1) (by omega) (by omega) rfl
end
section
set_option maxHeartbeats 4000000 in
set_option maxRecDepth 100000 in
theorem m_X3_digit {l : Launch} {D : va_G} {cI cB cS : ClassId} (a : Nat → Nat) (p : Nat) (tl : Int32) (tf : Int32) (tc : Nat → Int32) (hp : p < 60) : Ri l yX3_digit cX3_digit 2 (some .int) 0 0 D cI cB cS [.ref (a 2), .int (nI p)] [oX a tl tf, ia (a 6) cI 60 tc] (fun r => r = tc p - 48) := by
  refine Ri.of (by decide) (Nat.le_of_ble_eq_true rfl) ?_
  intro zp ze zs zm zb zt zc C
  refine v_lv0 [(0, .ref (a 2)), (1, .int (nI p))] rfl ?_
  refine v_aload_n C dX3_digit_0 0 rfl ?_
  refine v_get C f_X3_9 dX3_digit_1 0 rfl rfl ?_
  refine v_iload_n C dX3_digit_4 1 rfl ?_
  refine v_ialdN C dX3_digit_5 1 rfl p rfl (by omega) (by decide) ?_
  refine v_bipush C 48 dX3_digit_6 (by decide) ?_
  refine v_isub C dX3_digit_8 ?_
  exact v_retRi C dX3_digit_9 rfl (rfl)
set_option maxHeartbeats 4000000 in
set_option maxRecDepth 100000 in
theorem m_X3_isDigit {l : Launch} {D : va_G} {cI cB cS : ClassId} (a : Nat → Nat) (p : Nat) (tl : Int32) (tf : Int32) (tc : Nat → Int32) (le : Int32) (mo : Int32) (hp : p < 60) : Ri l yX3_isDigit cX3_isDigit 4 (some .boolean) 0 0 D cI cB cS [.ref (a 2), .int (nI p), .int le, .int mo] [oX a tl tf, ia (a 6) cI 60 tc] (fun r => r = bI (dgB (tc p) le mo = true)) := by
  refine Ri.of (by decide) (Nat.le_of_ble_eq_true rfl) ?_
  intro zp ze zs zm zb zt zc C
  refine v_lv0 [(0, .ref (a 2)), (1, .int (nI p)), (2, .int le), (3, .int mo)] rfl ?_
  refine v_aload_n C dX3_isDigit_0 0 rfl ?_
  refine v_get C f_X3_9 dX3_isDigit_1 0 rfl rfl ?_
  refine v_iload_n C dX3_isDigit_4 1 rfl ?_
  refine v_ialdN C dX3_isDigit_5 1 rfl p rfl (by omega) (by decide) ?_
  refine v_bipush C 48 dX3_isDigit_6 (by decide) ?_
  refine v_iload_n C dX3_isDigit_8 2 rfl ?_
  refine v_iadd C dX3_isDigit_9 ?_
  refine v_icmp_lt C 30 dX3_isDigit_10 (by decide) (fun c1 => ?_) (fun c1 => ?_)
  · refine v_iconst C 0 dX3_isDigit_30 (by decide) ?_
    exact v_retRi C dX3_isDigit_31 rfl (by first | (simp only [bI, dgB, *, ↓reduceIte]; done) | (simp [bI, dgB, *]; done) | (simp_all [bI, dgB]; done))
  · refine v_aload_n C dX3_isDigit_13 0 rfl ?_
    refine v_get C f_X3_9 dX3_isDigit_14 0 rfl rfl ?_
    refine v_iload_n C dX3_isDigit_17 1 rfl ?_
    refine v_ialdN C dX3_isDigit_18 1 rfl p rfl (by omega) (by decide) ?_
    refine v_bipush C 48 dX3_isDigit_19 (by decide) ?_
    refine v_iload_n C dX3_isDigit_21 3 rfl ?_
    refine v_iadd C dX3_isDigit_22 ?_
    refine v_icmp_gt C 30 dX3_isDigit_23 (by decide) (fun c2 => ?_) (fun c2 => ?_)
    · refine v_iconst C 0 dX3_isDigit_30 (by decide) ?_
      exact v_retRi C dX3_isDigit_31 rfl (by first | (simp only [bI, dgB, *, ↓reduceIte]; done) | (simp [bI, dgB, *]; done) | (simp_all [bI, dgB]; done))
    · refine v_iconst C 1 dX3_isDigit_26 (by decide) ?_
      refine v_goto C 31 dX3_isDigit_27 (by decide) ?_
      exact v_retRi C dX3_isDigit_31 rfl (by first | (simp only [bI, dgB, *, ↓reduceIte]; done) | (simp [bI, dgB, *]; done) | (simp_all [bI, dgB]; done))
set_option maxHeartbeats 4000000 in
set_option maxRecDepth 100000 in
theorem m_X3_kindAt {l : Launch} {D : va_G} {cI cB cS : ClassId} (a : Nat → Nat) (p : Nat) (tl : Int32) (tf : Int32) (tc : Nat → Int32) (hp : p < 60) : Ri l yX3_kindAt cX3_kindAt 2 (some .int) 0 0 D cI cB cS [.ref (a 2), .int (nI p)] [oX a tl tf, ia (a 6) cI 60 tc] (fun r => r = kdF (tc p)) := by
  refine Ri.of (by decide) (Nat.le_of_ble_eq_true rfl) ?_
  intro zp ze zs zm zb zt zc C
  refine v_lv0 [(0, .ref (a 2)), (1, .int (nI p))] rfl ?_
  refine v_aload_n C dX3_kindAt_0 0 rfl ?_
  refine v_get C f_X3_9 dX3_kindAt_1 0 rfl rfl ?_
  refine v_iload_n C dX3_kindAt_4 1 rfl ?_
  refine v_ialdN C dX3_kindAt_5 1 rfl p rfl (by omega) (by decide) ?_
  by_cases e1 : tc p = 99
  · refine v_lookup C 40 dX3_kindAt_6 (by decide) (by rw [e1] <;> rfl) (by decide) ?_
    refine v_iconst C 0 dX3_kindAt_40 (by decide) ?_
    exact v_retRi C dX3_kindAt_41 rfl (by simp [kdF, *])
  by_cases e2 : tc p = 104
  · refine v_lookup C 42 dX3_kindAt_6 (by decide) (by rw [e2] <;> rfl) (by decide) ?_
    refine v_iconst C 1 dX3_kindAt_42 (by decide) ?_
    exact v_retRi C dX3_kindAt_43 rfl (by simp [kdF, *])
  by_cases e3 : tc p = 115
  · refine v_lookup C 44 dX3_kindAt_6 (by decide) (by rw [e3] <;> rfl) (by decide) ?_
    refine v_iconst C 2 dX3_kindAt_44 (by decide) ?_
    exact v_retRi C dX3_kindAt_45 rfl (by simp [kdF, *])
  refine v_lookup C 46 dX3_kindAt_6 (by decide) (off := 40) (by rw [lv_osw e1 (by decide)]; rw [lv_osw e2 (by decide)]; rw [lv_osw e3 (by decide)]; rfl) (by decide) ?_
  refine v_bipush C (-9) dX3_kindAt_46 (by decide) ?_
  exact v_retRi C dX3_kindAt_48 rfl (by simp [kdF, *])
set_option maxHeartbeats 4000000 in
set_option maxRecDepth 100000 in
theorem m_X3_toldMinutes {l : Launch} {D : va_G} {cI cB cS : ClassId} (a : Nat → Nat) (tl : Int32) (tf : Int32) (tc : Nat → Int32) : Ri l yX3_toldMinutes cX3_toldMinutes 1 (some .int) 1 21 D cI cB cS [.ref (a 2)] [oX a tl tf, ia (a 6) cI 60 tc] (fun r => r = tmF tc) := by
  refine Ri.of (by decide) (Nat.le_of_ble_eq_true rfl) ?_
  intro zp ze zs zm zb zt zc C
  refine v_lv0 [(0, .ref (a 2))] rfl ?_
  refine v_bipush C 10 dX3_toldMinutes_0 (by decide) ?_
  refine v_aload_n C dX3_toldMinutes_2 0 rfl ?_
  refine v_iconst C 1 dX3_toldMinutes_3 (by decide) ?_
  refine v_callRi C l_X3_62 (m_X3_digit a 1 tl tf tc (by omega)) (by decide) dX3_toldMinutes_4 [0, 1] rfl 0 rfl rfl rfl (rest := [.int 10]) rfl (Nat.le_of_ble_eq_true rfl) (by decide) (fun r1 h2 => ?_)
  subst h2
  refine v_imul C dX3_toldMinutes_7 ?_
  refine v_aload_n C dX3_toldMinutes_8 0 rfl ?_
  refine v_iconst C 2 dX3_toldMinutes_9 (by decide) ?_
  refine v_callRi C l_X3_62 (m_X3_digit a 2 tl tf tc (by omega)) (by decide) dX3_toldMinutes_10 [0, 1] rfl 0 rfl rfl rfl (rest := [.int (10 * (tc 1 - 48))]) rfl (Nat.le_of_ble_eq_true rfl) (by decide) (fun r3 h4 => ?_)
  subst h4
  refine v_iadd C dX3_toldMinutes_13 ?_
  exact v_retRi C dX3_toldMinutes_14 rfl (rfl)
set_option maxHeartbeats 4000000 in
set_option maxRecDepth 100000 in
theorem m_X3_toldJurors {l : Launch} {D : va_G} {cI cB cS : ClassId} (a : Nat → Nat) (F : Nat) (tl : Int32) (h3 : 3 ≤ F) (hF : F < 60) : Ri l yX3_toldJurors cX3_toldJurors 1 (some .int) 0 0 D cI cB cS [.ref (a 2)] [oX a tl (nI F)] (fun r => r = nI ((F - 3) / 3)) := by
  refine Ri.of (by decide) (Nat.le_of_ble_eq_true rfl) ?_
  intro zp ze zs zm zb zt zc C
  refine v_lv0 [(0, .ref (a 2))] rfl ?_
  refine v_aload_n C dX3_toldJurors_0 0 rfl ?_
  refine v_get C f_X3_30 dX3_toldJurors_1 0 rfl rfl ?_
  refine v_iconst C 3 dX3_toldJurors_4 (by decide) ?_
  refine v_isub C dX3_toldJurors_5 ?_
  refine v_eqi (nI (F - 3)) (pk_sub (by omega : 3 ≤ F)) ?_
  refine v_iconst C 3 dX3_toldJurors_6 (by decide) ?_
  refine v_idiv C dX3_toldJurors_7 (by decide) ?_
  refine v_eqi (nI ((F - 3) / 3)) (pk_div (d := 3) (by omega) (by decide) (by decide)) ?_
  exact v_retRi C dX3_toldJurors_8 rfl (rfl)
set_option maxHeartbeats 4000000 in
set_option maxRecDepth 100000 in
theorem m_X3_toldCases {l : Launch} {D : va_G} {cI cB cS : ClassId} (a : Nat → Nat) (F n : Nat) (h3 : F ≤ n) (hF : n ≤ 60) : Ri l yX3_toldCases cX3_toldCases 1 (some .int) 0 0 D cI cB cS [.ref (a 2)] [oX a (nI n) (nI F)] (fun r => r = nI ((n - F) / 4)) := by
  refine Ri.of (by decide) (Nat.le_of_ble_eq_true rfl) ?_
  intro zp ze zs zm zb zt zc C
  refine v_lv0 [(0, .ref (a 2))] rfl ?_
  refine v_aload_n C dX3_toldCases_0 0 rfl ?_
  refine v_get C f_X3_26 dX3_toldCases_1 0 rfl rfl ?_
  refine v_aload_n C dX3_toldCases_4 0 rfl ?_
  refine v_get C f_X3_30 dX3_toldCases_5 0 rfl rfl ?_
  refine v_isub C dX3_toldCases_8 ?_
  refine v_eqi (nI (n - F)) (pk_sub (by omega : F ≤ n)) ?_
  refine v_iconst C 4 dX3_toldCases_9 (by decide) ?_
  refine v_idiv C dX3_toldCases_10 (by decide) ?_
  refine v_eqi (nI ((n - F) / 4)) (pk_div (d := 4) (by omega) (by decide) (by decide)) ?_
  exact v_retRi C dX3_toldCases_11 rfl (rfl)
set_option maxHeartbeats 4000000 in
set_option maxRecDepth 100000 in
theorem m_X3_toldKind {l : Launch} {D : va_G} {cI cB cS : ClassId} (a : Nat → Nat) (j : Nat) (tl : Int32) (tf : Int32) (tc : Nat → Int32) (hj : j < 5) : Ri l yX3_toldKind cX3_toldKind 2 (some .int) 1 21 D cI cB cS [.ref (a 2), .int (nI j)] [oX a tl tf, ia (a 6) cI 60 tc] (fun r => r = kdF (tc (3 + 3 * j + 1))) := by
  refine Ri.of (by decide) (Nat.le_of_ble_eq_true rfl) ?_
  intro zp ze zs zm zb zt zc C
  refine v_lv0 [(0, .ref (a 2)), (1, .int (nI j))] rfl ?_
  refine v_aload_n C dX3_toldKind_0 0 rfl ?_
  refine v_iconst C 3 dX3_toldKind_1 (by decide) ?_
  refine v_iconst C 3 dX3_toldKind_2 (by decide) ?_
  refine v_iload_n C dX3_toldKind_3 1 rfl ?_
  refine v_imul C dX3_toldKind_4 ?_
  refine v_eqi (nI (3 * j)) (pk_mul 3 j) ?_
  refine v_iadd C dX3_toldKind_5 ?_
  refine v_eqi (nI (3 + 3 * j)) (nI_add 3 (3 * j)) ?_
  refine v_iconst C 1 dX3_toldKind_6 (by decide) ?_
  refine v_iadd C dX3_toldKind_7 ?_
  refine v_eqi (nI (3 + 3 * j + 1)) (nI_1 _) ?_
  refine v_callRi C l_X3_58 (m_X3_kindAt a (3 + 3 * j + 1) tl tf tc (by omega)) (by decide) dX3_toldKind_8 [0, 1] rfl 0 rfl rfl rfl (rest := []) rfl (Nat.le_of_ble_eq_true rfl) (by decide) (fun r1 h2 => ?_)
  subst h2
  exact v_retRi C dX3_toldKind_11 rfl (rfl)
set_option maxHeartbeats 4000000 in
set_option maxRecDepth 100000 in
theorem m_X3_toldAge {l : Launch} {D : va_G} {cI cB cS : ClassId} (a : Nat → Nat) (j : Nat) (tl : Int32) (tf : Int32) (tc : Nat → Int32) (hj : j < 5) : Ri l yX3_toldAge cX3_toldAge 2 (some .int) 1 21 D cI cB cS [.ref (a 2), .int (nI j)] [oX a tl tf, ia (a 6) cI 60 tc] (fun r => r = tc (3 + 3 * j + 2) - 48) := by
  refine Ri.of (by decide) (Nat.le_of_ble_eq_true rfl) ?_
  intro zp ze zs zm zb zt zc C
  refine v_lv0 [(0, .ref (a 2)), (1, .int (nI j))] rfl ?_
  refine v_aload_n C dX3_toldAge_0 0 rfl ?_
  refine v_iconst C 3 dX3_toldAge_1 (by decide) ?_
  refine v_iconst C 3 dX3_toldAge_2 (by decide) ?_
  refine v_iload_n C dX3_toldAge_3 1 rfl ?_
  refine v_imul C dX3_toldAge_4 ?_
  refine v_eqi (nI (3 * j)) (pk_mul 3 j) ?_
  refine v_iadd C dX3_toldAge_5 ?_
  refine v_eqi (nI (3 + 3 * j)) (nI_add 3 (3 * j)) ?_
  refine v_iconst C 2 dX3_toldAge_6 (by decide) ?_
  refine v_iadd C dX3_toldAge_7 ?_
  refine v_eqi (nI (3 + 3 * j + 2)) (nI_add _ 2) ?_
  refine v_callRi C l_X3_62 (m_X3_digit a (3 + 3 * j + 2) tl tf tc (by omega)) (by decide) dX3_toldAge_8 [0, 1] rfl 0 rfl rfl rfl (rest := []) rfl (Nat.le_of_ble_eq_true rfl) (by decide) (fun r1 h2 => ?_)
  subst h2
  exact v_retRi C dX3_toldAge_11 rfl (rfl)
set_option maxHeartbeats 4000000 in
set_option maxRecDepth 100000 in
theorem m_X3_toldOfCase {l : Launch} {D : va_G} {cI cB cS : ClassId} (a : Nat → Nat) (F c v : Nat) (tl : Int32) (tc : Nat → Int32) (hc : F + 4 * c + 1 + v < 60) : Ri l yX3_toldOfCase cX3_toldOfCase 3 (some .int) 1 21 D cI cB cS [.ref (a 2), .int (nI c), .int (nI v)] [oX a tl (nI F), ia (a 6) cI 60 tc] (fun r => r = tc (F + 4 * c + 1 + v) - 48) := by
  refine Ri.of (by decide) (Nat.le_of_ble_eq_true rfl) ?_
  intro zp ze zs zm zb zt zc C
  refine v_lv0 [(0, .ref (a 2)), (1, .int (nI c)), (2, .int (nI v))] rfl ?_
  refine v_aload_n C dX3_toldOfCase_0 0 rfl ?_
  refine v_aload_n C dX3_toldOfCase_1 0 rfl ?_
  refine v_get C f_X3_30 dX3_toldOfCase_2 0 rfl rfl ?_
  refine v_iconst C 4 dX3_toldOfCase_5 (by decide) ?_
  refine v_iload_n C dX3_toldOfCase_6 1 rfl ?_
  refine v_imul C dX3_toldOfCase_7 ?_
  refine v_eqi (nI (4 * c)) (pk_mul 4 c) ?_
  refine v_iadd C dX3_toldOfCase_8 ?_
  refine v_eqi (nI (F + 4 * c)) (nI_add F (4 * c)) ?_
  refine v_iconst C 1 dX3_toldOfCase_9 (by decide) ?_
  refine v_iadd C dX3_toldOfCase_10 ?_
  refine v_eqi (nI (F + 4 * c + 1)) (nI_1 _) ?_
  refine v_iload_n C dX3_toldOfCase_11 2 rfl ?_
  refine v_iadd C dX3_toldOfCase_12 ?_
  refine v_eqi (nI (F + 4 * c + 1 + v)) (nI_add _ v) ?_
  refine v_callRi C l_X3_62 (m_X3_digit a (F + 4 * c + 1 + v) tl (nI F) tc (by omega)) (by decide) dX3_toldOfCase_13 [0, 1] rfl 0 rfl rfl rfl (rest := []) rfl (Nat.le_of_ble_eq_true rfl) (by decide) (fun r1 h2 => ?_)
  subst h2
  exact v_retRi C dX3_toldOfCase_16 rfl (rfl)
set_option maxHeartbeats 4000000 in
set_option maxRecDepth 100000 in
theorem m_X3_goesOnInMinutes {l : Launch} {D : va_G} {cI cB cS : ClassId} (a : Nat → Nat) (p : Nat) (tl : Int32) (tf : Int32) (tc : Nat → Int32) (hp : p < 3) : Ri l yX3_goesOnInMinutes cX3_goesOnInMinutes 2 (some .boolean) 2 41 D cI cB cS [.ref (a 2), .int (nI p)] [oX a tl tf, ia (a 6) cI 60 tc] (fun r => r = bI (gmB tc p = true)) := by
  refine Ri.of (by decide) (Nat.le_of_ble_eq_true rfl) ?_
  intro zp ze zs zm zb zt zc C
  refine v_lv0 [(0, .ref (a 2)), (1, .int (nI p))] rfl ?_
  refine v_iload_n C dX3_goesOnInMinutes_0 1 rfl ?_
  refine v_iconst C 1 dX3_goesOnInMinutes_1 (by decide) ?_
  refine v_icmp_ne C 14 dX3_goesOnInMinutes_2 (by decide) (fun c1 => ?_) (fun c1 => ?_)
  · have nc1 : p ≠ 1 := fun q => c1 (by rw [q] <;> rfl)
    refine v_aload_n C dX3_goesOnInMinutes_14 0 rfl ?_
    refine v_iload_n C dX3_goesOnInMinutes_15 1 rfl ?_
    refine v_iconst C 0 dX3_goesOnInMinutes_16 (by decide) ?_
    refine v_bipush C 9 dX3_goesOnInMinutes_17 (by decide) ?_
    refine v_callRi C l_X3_50 (m_X3_isDigit a p tl tf tc 0 9 (by omega)) (by decide) dX3_goesOnInMinutes_19 [0, 1] rfl 0 rfl rfl rfl (rest := []) rfl (Nat.le_of_ble_eq_true rfl) (by decide) (fun r2 h3 => ?_)
    subst h3
    by_cases c4 : dgB (tc p) (0 : Int32) (9 : Int32) = true
    · refine v_eqi 1 (bI_t c4) ?_
      refine v_if_eq C 46 dX3_goesOnInMinutes_22 (by decide) (fun h => absurd h (by decide)) (fun _ => ?_)
      refine v_aload_n C dX3_goesOnInMinutes_25 0 rfl ?_
      refine v_callRi C l_X3_54 (m_X3_toldMinutes a tl tf tc) (by decide) dX3_goesOnInMinutes_26 [0, 1] rfl 0 rfl rfl rfl (rest := []) rfl (Nat.le_of_ble_eq_true rfl) (by decide) (fun r5 h6 => ?_)
      subst h6
      refine v_iconst C 5 dX3_goesOnInMinutes_29 (by decide) ?_
      refine v_icmp_lt C 46 dX3_goesOnInMinutes_30 (by decide) (fun c7 => ?_) (fun c7 => ?_)
      · refine v_iconst C 0 dX3_goesOnInMinutes_46 (by decide) ?_
        exact v_retRi C dX3_goesOnInMinutes_47 rfl (by first | (simp only [bI, gmB, *, ↓reduceIte]; done) | (simp [bI, gmB, *]; done) | (simp_all [bI, gmB]; done))
      · refine v_aload_n C dX3_goesOnInMinutes_33 0 rfl ?_
        refine v_callRi C l_X3_54 (m_X3_toldMinutes a tl tf tc) (by decide) dX3_goesOnInMinutes_34 [0, 1] rfl 0 rfl rfl rfl (rest := []) rfl (Nat.le_of_ble_eq_true rfl) (by decide) (fun r8 h9 => ?_)
        subst h9
        refine v_bipush C 60 dX3_goesOnInMinutes_37 (by decide) ?_
        refine v_icmp_gt C 46 dX3_goesOnInMinutes_39 (by decide) (fun c10 => ?_) (fun c10 => ?_)
        · refine v_iconst C 0 dX3_goesOnInMinutes_46 (by decide) ?_
          exact v_retRi C dX3_goesOnInMinutes_47 rfl (by first | (simp only [bI, gmB, *, ↓reduceIte]; done) | (simp [bI, gmB, *]; done) | (simp_all [bI, gmB]; done))
        · refine v_iconst C 1 dX3_goesOnInMinutes_42 (by decide) ?_
          refine v_goto C 47 dX3_goesOnInMinutes_43 (by decide) ?_
          exact v_retRi C dX3_goesOnInMinutes_47 rfl (by first | (simp only [bI, gmB, *, ↓reduceIte]; done) | (simp [bI, gmB, *]; done) | (simp_all [bI, gmB]; done))
    · refine v_eqi 0 (bI_f c4) ?_
      refine v_if_eq C 46 dX3_goesOnInMinutes_22 (by decide) (fun _ => ?_) (fun h => absurd h (by decide))
      refine v_iconst C 0 dX3_goesOnInMinutes_46 (by decide) ?_
      exact v_retRi C dX3_goesOnInMinutes_47 rfl (by first | (simp only [bI, gmB, *, ↓reduceIte]; done) | (simp [bI, gmB, *]; done) | (simp_all [bI, gmB]; done))
  · have nc1 : p = 1 := nI_eqP c1 (by omega) (by omega)
    refine v_aload_n C dX3_goesOnInMinutes_5 0 rfl ?_
    refine v_iload_n C dX3_goesOnInMinutes_6 1 rfl ?_
    refine v_iconst C 0 dX3_goesOnInMinutes_7 (by decide) ?_
    refine v_bipush C 6 dX3_goesOnInMinutes_8 (by decide) ?_
    refine v_callRi C l_X3_50 (m_X3_isDigit a p tl tf tc 0 6 (by omega)) (by decide) dX3_goesOnInMinutes_10 [0, 1] rfl 0 rfl rfl rfl (rest := []) rfl (Nat.le_of_ble_eq_true rfl) (by decide) (fun r11 h12 => ?_)
    subst h12
    by_cases c13 : dgB (tc p) (0 : Int32) (6 : Int32) = true
    · refine v_eqi 1 (bI_t c13) ?_
      exact v_retRi C dX3_goesOnInMinutes_13 rfl (by first | (simp only [bI, gmB, *, ↓reduceIte]; done) | (simp [bI, gmB, *]; done) | (simp_all [bI, gmB]; done))
    · refine v_eqi 0 (bI_f c13) ?_
      exact v_retRi C dX3_goesOnInMinutes_13 rfl (by first | (simp only [bI, gmB, *, ↓reduceIte]; done) | (simp [bI, gmB, *]; done) | (simp_all [bI, gmB]; done))
set_option maxHeartbeats 4000000 in
set_option maxRecDepth 100000 in
theorem m_X3_goesOnInJurors {l : Launch} {D : va_G} {cI cB cS : ClassId} (a : Nat → Nat) (p : Nat) (tl : Int32) (tf : Int32) (tc : Nat → Int32) (h3 : 3 ≤ p) (hp : p < 60) : Ri l yX3_goesOnInJurors cX3_goesOnInJurors 3 (some .boolean) 1 23 D cI cB cS [.ref (a 2), .int (nI p)] [oX a tl tf, ia (a 6) cI 60 tc] (fun r => r = bI (gjB tc p = true)) := by
  refine Ri.of (by decide) (Nat.le_of_ble_eq_true rfl) ?_
  intro zp ze zs zm zb zt zc C
  refine v_lv0 [(0, .ref (a 2)), (1, .int (nI p))] rfl ?_
  refine v_iload_n C dX3_goesOnInJurors_0 1 rfl ?_
  refine v_iconst C 3 dX3_goesOnInJurors_1 (by decide) ?_
  refine v_isub C dX3_goesOnInJurors_2 ?_
  refine v_eqi (nI (p - 3)) (pk_sub (by omega : 3 ≤ p)) ?_
  refine v_iconst C 3 dX3_goesOnInJurors_3 (by decide) ?_
  refine v_idiv C dX3_goesOnInJurors_4 (by decide) ?_
  refine v_eqi (nI ((p - 3) / 3)) (pk_div (d := 3) (by omega) (by decide) (by decide)) ?_
  refine v_istore_n C [(2, .int (nI ((p - 3) / 3))), (0, .ref (a 2)), (1, .int (nI p))] dX3_goesOnInJurors_5 (by decide) rfl ?_
  refine v_iload_n C dX3_goesOnInJurors_6 2 rfl ?_
  refine v_iconst C 3 dX3_goesOnInJurors_7 (by decide) ?_
  refine v_isub C dX3_goesOnInJurors_8 ?_
  refine v_eqi (nI (p - 3)) (pk_sub (by omega : 3 ≤ p)) ?_
  refine v_iconst C 3 dX3_goesOnInJurors_9 (by decide) ?_
  refine v_irem C dX3_goesOnInJurors_10 (by decide) ?_
  refine v_eqi (nI ((p - 3) % 3)) (pk_rem (d := 3) (by omega) (by decide) (by decide)) ?_
  by_cases e1 : nI ((p - 3) % 3) = 0
  · have ne1 : ((p - 3) % 3) = 0 := nI_eqP e1 (by omega) (by decide)
    refine v_lookup C 36 dX3_goesOnInJurors_11 (by decide) (by rw [e1] <;> rfl) (by decide) ?_
    refine v_aload_n C dX3_goesOnInJurors_36 1 rfl ?_
    refine v_get C f_X3_9 dX3_goesOnInJurors_37 0 rfl rfl ?_
    refine v_iload_n C dX3_goesOnInJurors_40 2 rfl ?_
    refine v_ialdN C dX3_goesOnInJurors_41 1 rfl p rfl (by omega) (by decide) ?_
    refine v_bipush C 44 dX3_goesOnInJurors_42 (by decide) ?_
    refine v_icmp_ne C 52 dX3_goesOnInJurors_44 (by decide) (fun c2 => ?_) (fun c2 => ?_)
    · refine v_aload_n C dX3_goesOnInJurors_52 1 rfl ?_
      refine v_get C f_X3_9 dX3_goesOnInJurors_53 0 rfl rfl ?_
      refine v_iload_n C dX3_goesOnInJurors_56 2 rfl ?_
      refine v_ialdN C dX3_goesOnInJurors_57 1 rfl p rfl (by omega) (by decide) ?_
      refine v_bipush C 59 dX3_goesOnInJurors_58 (by decide) ?_
      refine v_icmp_ne C 71 dX3_goesOnInJurors_60 (by decide) (fun c3 => ?_) (fun c3 => ?_)
      · refine v_iconst C 0 dX3_goesOnInJurors_71 (by decide) ?_
        exact v_retRi C dX3_goesOnInJurors_72 rfl (by first | (simp [bI, gjB, *]; done) | (simp [bI, gjB, *]; omega) | (simp_all; done))
      · refine v_iload_n C dX3_goesOnInJurors_63 0 rfl ?_
        refine v_if_le C 71 dX3_goesOnInJurors_64 (by decide) (fun c4 => ?_) (fun c4 => ?_)
        · have nc4 : ((p - 3) / 3) ≤ 0 := nI_leD c4 (by omega)
          refine v_iconst C 0 dX3_goesOnInJurors_71 (by decide) ?_
          exact v_retRi C dX3_goesOnInJurors_72 rfl (by first | (simp [bI, gjB, *]; done) | (simp [bI, gjB, *]; omega) | (simp_all; done))
        · have nc4 : 0 < ((p - 3) / 3) := nI_ltD c4 (by omega)
          refine v_iconst C 1 dX3_goesOnInJurors_67 (by decide) ?_
          refine v_goto C 72 dX3_goesOnInJurors_68 (by decide) ?_
          exact v_retRi C dX3_goesOnInJurors_72 rfl (by first | (simp [bI, gjB, *]; done) | (simp [bI, gjB, *]; omega) | (simp_all; done))
    · refine v_iload_n C dX3_goesOnInJurors_47 0 rfl ?_
      refine v_iconst C 5 dX3_goesOnInJurors_48 (by decide) ?_
      refine v_icmp_lt C 67 dX3_goesOnInJurors_49 (by decide) (fun c5 => ?_) (fun c5 => ?_)
      · have nc5 : ((p - 3) / 3) < 5 := nI_ltP c5 (by omega)
        refine v_iconst C 1 dX3_goesOnInJurors_67 (by decide) ?_
        refine v_goto C 72 dX3_goesOnInJurors_68 (by decide) ?_
        exact v_retRi C dX3_goesOnInJurors_72 rfl (by first | (simp [bI, gjB, *]; done) | (simp [bI, gjB, *]; omega) | (simp_all; done))
      · have nc5 : 5 ≤ ((p - 3) / 3) := nI_geP c5 (by omega)
        refine v_aload_n C dX3_goesOnInJurors_52 1 rfl ?_
        refine v_get C f_X3_9 dX3_goesOnInJurors_53 0 rfl rfl ?_
        refine v_iload_n C dX3_goesOnInJurors_56 2 rfl ?_
        refine v_ialdN C dX3_goesOnInJurors_57 1 rfl p rfl (by omega) (by decide) ?_
        refine v_bipush C 59 dX3_goesOnInJurors_58 (by decide) ?_
        refine v_icmp_ne C 71 dX3_goesOnInJurors_60 (by decide) (fun c6 => ?_) (fun c6 => ?_)
        · refine v_iconst C 0 dX3_goesOnInJurors_71 (by decide) ?_
          exact v_retRi C dX3_goesOnInJurors_72 rfl (by first | (simp [bI, gjB, *]; done) | (simp [bI, gjB, *]; omega) | (simp_all; done))
        · refine v_iload_n C dX3_goesOnInJurors_63 0 rfl ?_
          refine v_if_le C 71 dX3_goesOnInJurors_64 (by decide) (fun c7 => ?_) (fun c7 => ?_)
          · have nc7 : ((p - 3) / 3) ≤ 0 := nI_leD c7 (by omega)
            refine v_iconst C 0 dX3_goesOnInJurors_71 (by decide) ?_
            exact v_retRi C dX3_goesOnInJurors_72 rfl (by first | (simp [bI, gjB, *]; done) | (simp [bI, gjB, *]; omega) | (simp_all; done))
          · have nc7 : 0 < ((p - 3) / 3) := nI_ltD c7 (by omega)
            refine v_iconst C 1 dX3_goesOnInJurors_67 (by decide) ?_
            refine v_goto C 72 dX3_goesOnInJurors_68 (by decide) ?_
            exact v_retRi C dX3_goesOnInJurors_72 rfl (by first | (simp [bI, gjB, *]; done) | (simp [bI, gjB, *]; omega) | (simp_all; done))
  have ne1 : ((p - 3) % 3) ≠ 0 := fun q => e1 (by rw [q]; rfl)
  by_cases e8 : nI ((p - 3) % 3) = 1
  · have ne8 : ((p - 3) % 3) = 1 := nI_eqP e8 (by omega) (by decide)
    refine v_lookup C 73 dX3_goesOnInJurors_11 (by decide) (by rw [e8] <;> rfl) (by decide) ?_
    refine v_aload_n C dX3_goesOnInJurors_73 1 rfl ?_
    refine v_iload_n C dX3_goesOnInJurors_74 2 rfl ?_
    refine v_callRi C l_X3_58 (m_X3_kindAt a p tl tf tc (by omega)) (by decide) dX3_goesOnInJurors_75 [0, 1] rfl 0 rfl rfl rfl (rest := []) rfl (Nat.le_of_ble_eq_true rfl) (by decide) (fun r9 h10 => ?_)
    subst h10
    refine v_bipush C (-9) dX3_goesOnInJurors_78 (by decide) ?_
    refine v_icmp_eq C 87 dX3_goesOnInJurors_80 (by decide) (fun c11 => ?_) (fun c11 => ?_)
    · refine v_iconst C 0 dX3_goesOnInJurors_87 (by decide) ?_
      exact v_retRi C dX3_goesOnInJurors_88 rfl (by first | (simp [bI, gjB, *]; done) | (simp [bI, gjB, *]; omega) | (simp_all; done))
    · refine v_iconst C 1 dX3_goesOnInJurors_83 (by decide) ?_
      refine v_goto C 88 dX3_goesOnInJurors_84 (by decide) ?_
      exact v_retRi C dX3_goesOnInJurors_88 rfl (by first | (simp [bI, gjB, *]; done) | (simp [bI, gjB, *]; omega) | (simp_all; done))
  have ne8 : ((p - 3) % 3) ≠ 1 := fun q => e8 (by rw [q]; rfl)
  refine v_lookup C 89 dX3_goesOnInJurors_11 (by decide) (off := 78) (by rw [lv_osw e1 (by decide)]; rw [lv_osw e8 (by decide)]; rfl) (by decide) ?_
  refine v_aload_n C dX3_goesOnInJurors_89 1 rfl ?_
  refine v_iload_n C dX3_goesOnInJurors_90 2 rfl ?_
  refine v_iconst C 1 dX3_goesOnInJurors_91 (by decide) ?_
  refine v_bipush C 9 dX3_goesOnInJurors_92 (by decide) ?_
  refine v_callRi C l_X3_50 (m_X3_isDigit a p tl tf tc 1 9 (by omega)) (by decide) dX3_goesOnInJurors_94 [0, 1] rfl 0 rfl rfl rfl (rest := []) rfl (Nat.le_of_ble_eq_true rfl) (by decide) (fun r12 h13 => ?_)
  subst h13
  by_cases c14 : dgB (tc p) (1 : Int32) (9 : Int32) = true
  · refine v_eqi 1 (bI_t c14) ?_
    exact v_retRi C dX3_goesOnInJurors_97 rfl (by first | (simp [bI, gjB, *]; done) | (simp [bI, gjB, *]; omega) | (simp_all; done))
  · refine v_eqi 0 (bI_f c14) ?_
    exact v_retRi C dX3_goesOnInJurors_97 rfl (by first | (simp [bI, gjB, *]; done) | (simp [bI, gjB, *]; omega) | (simp_all; done))
set_option maxHeartbeats 4000000 in
set_option maxRecDepth 100000 in
theorem m_X3_goesOnInCases {l : Launch} {D : va_G} {cI cB cS : ClassId} (a : Nat → Nat) (p F : Nat) (tl : Int32) (tc : Nat → Int32) (h3 : F ≤ p) (hp : p < 60) : Ri l yX3_goesOnInCases cX3_goesOnInCases 3 (some .boolean) 1 23 D cI cB cS [.ref (a 2), .int (nI p)] [oX a tl (nI F), ia (a 6) cI 60 tc] (fun r => r = bI (gcB tc p F = true)) := by
  refine Ri.of (by decide) (Nat.le_of_ble_eq_true rfl) ?_
  intro zp ze zs zm zb zt zc C
  refine v_lv0 [(0, .ref (a 2)), (1, .int (nI p))] rfl ?_
  refine v_iload_n C dX3_goesOnInCases_0 1 rfl ?_
  refine v_aload_n C dX3_goesOnInCases_1 0 rfl ?_
  refine v_get C f_X3_30 dX3_goesOnInCases_2 0 rfl rfl ?_
  refine v_isub C dX3_goesOnInCases_5 ?_
  refine v_eqi (nI (p - F)) (pk_sub (by omega : F ≤ p)) ?_
  refine v_iconst C 4 dX3_goesOnInCases_6 (by decide) ?_
  refine v_idiv C dX3_goesOnInCases_7 (by decide) ?_
  refine v_eqi (nI ((p - F) / 4)) (pk_div (d := 4) (by omega) (by decide) (by decide)) ?_
  refine v_istore_n C [(2, .int (nI ((p - F) / 4))), (0, .ref (a 2)), (1, .int (nI p))] dX3_goesOnInCases_8 (by decide) rfl ?_
  refine v_iload_n C dX3_goesOnInCases_9 2 rfl ?_
  refine v_aload_n C dX3_goesOnInCases_10 1 rfl ?_
  refine v_get C f_X3_30 dX3_goesOnInCases_11 0 rfl rfl ?_
  refine v_isub C dX3_goesOnInCases_14 ?_
  refine v_eqi (nI (p - F)) (pk_sub (by omega : F ≤ p)) ?_
  refine v_iconst C 4 dX3_goesOnInCases_15 (by decide) ?_
  refine v_irem C dX3_goesOnInCases_16 (by decide) ?_
  refine v_eqi (nI ((p - F) % 4)) (pk_rem (d := 4) (by omega) (by decide) (by decide)) ?_
  by_cases e1 : nI ((p - F) % 4) = 0
  · have ne1 : ((p - F) % 4) = 0 := nI_eqP e1 (by omega) (by decide)
    refine v_lookup C 44 dX3_goesOnInCases_17 (by decide) (by rw [e1] <;> rfl) (by decide) ?_
    refine v_aload_n C dX3_goesOnInCases_44 1 rfl ?_
    refine v_get C f_X3_9 dX3_goesOnInCases_45 0 rfl rfl ?_
    refine v_iload_n C dX3_goesOnInCases_48 2 rfl ?_
    refine v_ialdN C dX3_goesOnInCases_49 1 rfl p rfl (by omega) (by decide) ?_
    refine v_bipush C 59 dX3_goesOnInCases_50 (by decide) ?_
    refine v_icmp_ne C 64 dX3_goesOnInCases_52 (by decide) (fun c2 => ?_) (fun c2 => ?_)
    · refine v_iconst C 0 dX3_goesOnInCases_64 (by decide) ?_
      exact v_retRi C dX3_goesOnInCases_65 rfl (by first | (simp [bI, gcB, *]; done) | (simp [bI, gcB, *]; omega) | (simp_all; done))
    · refine v_iload_n C dX3_goesOnInCases_55 0 rfl ?_
      refine v_iconst C 5 dX3_goesOnInCases_56 (by decide) ?_
      refine v_icmp_ge C 64 dX3_goesOnInCases_57 (by decide) (fun c3 => ?_) (fun c3 => ?_)
      · have nc3 : 5 ≤ ((p - F) / 4) := nI_leD c3 (by omega)
        refine v_iconst C 0 dX3_goesOnInCases_64 (by decide) ?_
        exact v_retRi C dX3_goesOnInCases_65 rfl (by first | (simp [bI, gcB, *]; done) | (simp [bI, gcB, *]; omega) | (simp_all; done))
      · have nc3 : ((p - F) / 4) < 5 := nI_ltD c3 (by omega)
        refine v_iconst C 1 dX3_goesOnInCases_60 (by decide) ?_
        refine v_goto C 65 dX3_goesOnInCases_61 (by decide) ?_
        exact v_retRi C dX3_goesOnInCases_65 rfl (by first | (simp [bI, gcB, *]; done) | (simp [bI, gcB, *]; omega) | (simp_all; done))
  have ne1 : ((p - F) % 4) ≠ 0 := fun q => e1 (by rw [q]; rfl)
  by_cases e4 : nI ((p - F) % 4) = 1
  · have ne4 : ((p - F) % 4) = 1 := nI_eqP e4 (by omega) (by decide)
    refine v_lookup C 66 dX3_goesOnInCases_17 (by decide) (by rw [e4] <;> rfl) (by decide) ?_
    refine v_aload_n C dX3_goesOnInCases_66 1 rfl ?_
    refine v_iload_n C dX3_goesOnInCases_67 2 rfl ?_
    refine v_iconst C 0 dX3_goesOnInCases_68 (by decide) ?_
    refine v_iconst C 5 dX3_goesOnInCases_69 (by decide) ?_
    refine v_callRi C l_X3_50 (m_X3_isDigit a p tl (nI F) tc 0 5 (by omega)) (by decide) dX3_goesOnInCases_70 [0, 1] rfl 0 rfl rfl rfl (rest := []) rfl (Nat.le_of_ble_eq_true rfl) (by decide) (fun r5 h6 => ?_)
    subst h6
    by_cases c7 : dgB (tc p) (0 : Int32) (5 : Int32) = true
    · refine v_eqi 1 (bI_t c7) ?_
      exact v_retRi C dX3_goesOnInCases_73 rfl (by first | (simp [bI, gcB, *]; done) | (simp [bI, gcB, *]; omega) | (simp_all; done))
    · refine v_eqi 0 (bI_f c7) ?_
      exact v_retRi C dX3_goesOnInCases_73 rfl (by first | (simp [bI, gcB, *]; done) | (simp [bI, gcB, *]; omega) | (simp_all; done))
  have ne4 : ((p - F) % 4) ≠ 1 := fun q => e4 (by rw [q]; rfl)
  refine v_lookup C 74 dX3_goesOnInCases_17 (by decide) (off := 57) (by rw [lv_osw e1 (by decide)]; rw [lv_osw e4 (by decide)]; rfl) (by decide) ?_
  refine v_aload_n C dX3_goesOnInCases_74 1 rfl ?_
  refine v_iload_n C dX3_goesOnInCases_75 2 rfl ?_
  refine v_iconst C 1 dX3_goesOnInCases_76 (by decide) ?_
  refine v_bipush C 9 dX3_goesOnInCases_77 (by decide) ?_
  refine v_callRi C l_X3_50 (m_X3_isDigit a p tl (nI F) tc 1 9 (by omega)) (by decide) dX3_goesOnInCases_79 [0, 1] rfl 0 rfl rfl rfl (rest := []) rfl (Nat.le_of_ble_eq_true rfl) (by decide) (fun r8 h9 => ?_)
  subst h9
  by_cases c10 : dgB (tc p) (1 : Int32) (9 : Int32) = true
  · refine v_eqi 1 (bI_t c10) ?_
    exact v_retRi C dX3_goesOnInCases_82 rfl (by first | (simp [bI, gcB, *]; done) | (simp [bI, gcB, *]; omega) | (simp_all; done))
  · refine v_eqi 0 (bI_f c10) ?_
    exact v_retRi C dX3_goesOnInCases_82 rfl (by first | (simp [bI, gcB, *]; done) | (simp [bI, gcB, *]; omega) | (simp_all; done))
set_option maxHeartbeats 4000000 in
set_option maxRecDepth 100000 in
theorem m_X3_goesOn {l : Launch} {D : va_G} {cI cB cS : ClassId} (a : Nat → Nat) (p : Nat) (cf : Option Nat) (tl : Int32) (tc : Nat → Int32) (hp : p < 60) (hc : ∀ c, cf = some c → c ≤ p) : Ri l yX3_goesOn cX3_goesOn 2 (some .boolean) 3 62 D cI cB cS [.ref (a 2), .int (nI p)] [oX a tl (cfI cf), ia (a 6) cI 60 tc] (fun r => r = bI (goB tc p cf = true)) := by
  refine Ri.of (by decide) (Nat.le_of_ble_eq_true rfl) ?_
  intro zp ze zs zm zb zt zc C
  refine v_lv0 [(0, .ref (a 2)), (1, .int (nI p))] rfl ?_
  cases cf with
  | none =>
    refine v_ws0 [oX a tl (-9), ia (a 6) cI 60 tc] rfl ?_
    refine v_iload_n C dX3_goesOn_0 1 rfl ?_
    refine v_if_ne C 21 dX3_goesOn_1 (by decide) (fun c1 => ?_) (fun c1 => ?_)
    · have nc1 : p ≠ 0 := fun q => c1 (by rw [q] <;> rfl)
      refine v_iload_n C dX3_goesOn_21 1 rfl ?_
      refine v_iconst C 3 dX3_goesOn_22 (by decide) ?_
      refine v_icmp_ge C 32 dX3_goesOn_23 (by decide) (fun c2 => ?_) (fun c2 => ?_)
      · have nc2 : 3 ≤ p := nI_leD c2 (by omega)
        refine v_aload_n C dX3_goesOn_32 0 rfl ?_
        refine v_get C f_X3_30 dX3_goesOn_33 0 rfl rfl ?_
        refine v_bipush C (-9) dX3_goesOn_36 (by decide) ?_
        refine v_icmp_ne C 49 dX3_goesOn_38 (by decide) (fun h => absurd h (by decide)) (fun _ => ?_)
        refine v_aload_n C dX3_goesOn_41 0 rfl ?_
        refine v_iload_n C dX3_goesOn_42 1 rfl ?_
        refine v_callRi C l_X3_44 (m_X3_goesOnInJurors a p tl (-9) tc (by omega) (by omega)) (by decide) dX3_goesOn_43 [0, 1] rfl 0 rfl rfl rfl (rest := []) rfl (Nat.le_of_ble_eq_true rfl) (by decide) (fun r3 h4 => ?_)
        subst h4
        by_cases c5 : gjB tc p = true
        · refine v_eqi 1 (bI_t c5) ?_
          refine v_goto C 54 dX3_goesOn_46 (by decide) ?_
          exact v_retRi C dX3_goesOn_54 rfl (by first | (simp [bI, goB, *]; done) | (have q : ¬ p < 3 := (by omega); simp [bI, goB, q, *]; done) | (simp_all [bI, goB]; done))
        · refine v_eqi 0 (bI_f c5) ?_
          refine v_goto C 54 dX3_goesOn_46 (by decide) ?_
          exact v_retRi C dX3_goesOn_54 rfl (by first | (simp [bI, goB, *]; done) | (have q : ¬ p < 3 := (by omega); simp [bI, goB, q, *]; done) | (simp_all [bI, goB]; done))
      · have nc2 : p < 3 := nI_ltD c2 (by omega)
        refine v_aload_n C dX3_goesOn_26 0 rfl ?_
        refine v_iload_n C dX3_goesOn_27 1 rfl ?_
        refine v_callRi C l_X3_41 (m_X3_goesOnInMinutes a p tl (-9) tc (by omega)) (by decide) dX3_goesOn_28 [0, 1] rfl 0 rfl rfl rfl (rest := []) rfl (Nat.le_of_ble_eq_true rfl) (by decide) (fun r6 h7 => ?_)
        subst h7
        by_cases c8 : gmB tc p = true
        · refine v_eqi 1 (bI_t c8) ?_
          exact v_retRi C dX3_goesOn_31 rfl (by first | (simp [bI, goB, *]; done) | (have q : ¬ p < 3 := (by omega); simp [bI, goB, q, *]; done) | (simp_all [bI, goB]; done))
        · refine v_eqi 0 (bI_f c8) ?_
          exact v_retRi C dX3_goesOn_31 rfl (by first | (simp [bI, goB, *]; done) | (have q : ¬ p < 3 := (by omega); simp [bI, goB, q, *]; done) | (simp_all [bI, goB]; done))
    · have nc1 : p = 0 := nI_eqP c1 (by omega) (by omega)
      refine v_aload_n C dX3_goesOn_4 0 rfl ?_
      refine v_get C f_X3_9 dX3_goesOn_5 0 rfl rfl ?_
      refine v_iload_n C dX3_goesOn_8 1 rfl ?_
      refine v_ialdN C dX3_goesOn_9 1 rfl p rfl (by omega) (by decide) ?_
      refine v_bipush C 107 dX3_goesOn_10 (by decide) ?_
      refine v_icmp_ne C 19 dX3_goesOn_12 (by decide) (fun c9 => ?_) (fun c9 => ?_)
      · refine v_iconst C 0 dX3_goesOn_19 (by decide) ?_
        exact v_retRi C dX3_goesOn_20 rfl (by first | (simp [bI, goB, *]; done) | (have q : ¬ p < 3 := (by omega); simp [bI, goB, q, *]; done) | (simp_all [bI, goB]; done))
      · refine v_iconst C 1 dX3_goesOn_15 (by decide) ?_
        refine v_goto C 20 dX3_goesOn_16 (by decide) ?_
        exact v_retRi C dX3_goesOn_20 rfl (by first | (simp [bI, goB, *]; done) | (have q : ¬ p < 3 := (by omega); simp [bI, goB, q, *]; done) | (simp_all [bI, goB]; done))
  | some c0 =>
    refine v_ws0 [oX a tl (nI c0), ia (a 6) cI 60 tc] rfl ?_
    refine v_iload_n C dX3_goesOn_0 1 rfl ?_
    refine v_if_ne C 21 dX3_goesOn_1 (by decide) (fun c10 => ?_) (fun c10 => ?_)
    · have nc10 : p ≠ 0 := fun q => c10 (by rw [q] <;> rfl)
      refine v_iload_n C dX3_goesOn_21 1 rfl ?_
      refine v_iconst C 3 dX3_goesOn_22 (by decide) ?_
      refine v_icmp_ge C 32 dX3_goesOn_23 (by decide) (fun c11 => ?_) (fun c11 => ?_)
      · have nc11 : 3 ≤ p := nI_leD c11 (by omega)
        refine v_aload_n C dX3_goesOn_32 0 rfl ?_
        refine v_get C f_X3_30 dX3_goesOn_33 0 rfl rfl ?_
        refine v_bipush C (-9) dX3_goesOn_36 (by decide) ?_
        refine v_icmp_ne C 49 dX3_goesOn_38 (by decide) (fun c12 => ?_) (fun c12 => ?_)
        · refine v_aload_n C dX3_goesOn_49 0 rfl ?_
          refine v_iload_n C dX3_goesOn_50 1 rfl ?_
          refine v_callRi C l_X3_47 (m_X3_goesOnInCases a p c0 tl tc (hc c0 rfl) (by omega)) (by decide) dX3_goesOn_51 [0, 1] rfl 0 rfl rfl rfl (rest := []) rfl (Nat.le_of_ble_eq_true rfl) (by decide) (fun r13 h14 => ?_)
          subst h14
          by_cases c15 : gcB tc p c0 = true
          · refine v_eqi 1 (bI_t c15) ?_
            exact v_retRi C dX3_goesOn_54 rfl (by first | (simp [bI, goB, *]; done) | (have q : ¬ p < 3 := (by omega); simp [bI, goB, q, *]; done) | (simp_all [bI, goB]; done))
          · refine v_eqi 0 (bI_f c15) ?_
            exact v_retRi C dX3_goesOn_54 rfl (by first | (simp [bI, goB, *]; done) | (have q : ¬ p < 3 := (by omega); simp [bI, goB, q, *]; done) | (simp_all [bI, goB]; done))
        · exact absurd c12 (nI_ne9 (by have := hc c0 rfl; omega))
      · have nc11 : p < 3 := nI_ltD c11 (by omega)
        refine v_aload_n C dX3_goesOn_26 0 rfl ?_
        refine v_iload_n C dX3_goesOn_27 1 rfl ?_
        refine v_callRi C l_X3_41 (m_X3_goesOnInMinutes a p tl (nI c0) tc (by omega)) (by decide) dX3_goesOn_28 [0, 1] rfl 0 rfl rfl rfl (rest := []) rfl (Nat.le_of_ble_eq_true rfl) (by decide) (fun r16 h17 => ?_)
        subst h17
        by_cases c18 : gmB tc p = true
        · refine v_eqi 1 (bI_t c18) ?_
          exact v_retRi C dX3_goesOn_31 rfl (by first | (simp [bI, goB, *]; done) | (have q : ¬ p < 3 := (by omega); simp [bI, goB, q, *]; done) | (simp_all [bI, goB]; done))
        · refine v_eqi 0 (bI_f c18) ?_
          exact v_retRi C dX3_goesOn_31 rfl (by first | (simp [bI, goB, *]; done) | (have q : ¬ p < 3 := (by omega); simp [bI, goB, q, *]; done) | (simp_all [bI, goB]; done))
    · have nc10 : p = 0 := nI_eqP c10 (by omega) (by omega)
      refine v_aload_n C dX3_goesOn_4 0 rfl ?_
      refine v_get C f_X3_9 dX3_goesOn_5 0 rfl rfl ?_
      refine v_iload_n C dX3_goesOn_8 1 rfl ?_
      refine v_ialdN C dX3_goesOn_9 1 rfl p rfl (by omega) (by decide) ?_
      refine v_bipush C 107 dX3_goesOn_10 (by decide) ?_
      refine v_icmp_ne C 19 dX3_goesOn_12 (by decide) (fun c19 => ?_) (fun c19 => ?_)
      · refine v_iconst C 0 dX3_goesOn_19 (by decide) ?_
        exact v_retRi C dX3_goesOn_20 rfl (by first | (simp [bI, goB, *]; done) | (have q : ¬ p < 3 := (by omega); simp [bI, goB, q, *]; done) | (simp_all [bI, goB]; done))
      · refine v_iconst C 1 dX3_goesOn_15 (by decide) ?_
        refine v_goto C 20 dX3_goesOn_16 (by decide) ?_
        exact v_retRi C dX3_goesOn_20 rfl (by first | (simp [bI, goB, *]; done) | (have q : ¬ p < 3 := (by omega); simp [bI, goB, q, *]; done) | (simp_all [bI, goB]; done))
set_option maxHeartbeats 4000000 in
set_option maxRecDepth 100000 in
theorem m_X3_isWhole {l : Launch} {D : va_G} {cI cB cS : ClassId} (a : Nat → Nat) (n : Nat) (cf : Option Nat) (hn : n ≤ 60) (hc : ∀ c, cf = some c → c ≤ n) : Ri l yX3_isWhole cX3_isWhole 1 (some .boolean) 0 0 D cI cB cS [.ref (a 2)] [oX a (nI n) (cfI cf)] (fun r => r = bI (whC cf n = true)) := by
  refine Ri.of (by decide) (Nat.le_of_ble_eq_true rfl) ?_
  intro zp ze zs zm zb zt zc C
  refine v_lv0 [(0, .ref (a 2))] rfl ?_
  cases cf with
  | none =>
    refine v_ws0 [oX a (nI n) (-9)] rfl ?_
    refine v_aload_n C dX3_isWhole_0 0 rfl ?_
    refine v_get C f_X3_30 dX3_isWhole_1 0 rfl rfl ?_
    refine v_bipush C (-9) dX3_isWhole_4 (by decide) ?_
    refine v_icmp_eq C 27 dX3_isWhole_6 (by decide) (fun _ => ?_) (fun h => absurd h (by decide))
    refine v_iconst C 0 dX3_isWhole_27 (by decide) ?_
    exact v_retRi C dX3_isWhole_28 rfl (by simp [bI, whC, *])
  | some c0 =>
    refine v_ws0 [oX a (nI n) (nI c0)] rfl ?_
    refine v_aload_n C dX3_isWhole_0 0 rfl ?_
    refine v_get C f_X3_30 dX3_isWhole_1 0 rfl rfl ?_
    refine v_bipush C (-9) dX3_isWhole_4 (by decide) ?_
    refine v_icmp_eq C 27 dX3_isWhole_6 (by decide) (fun c1 => ?_) (fun c1 => ?_)
    · exact absurd c1 (nI_ne9 (by have := hc c0 rfl; omega))
    · refine v_aload_n C dX3_isWhole_9 0 rfl ?_
      refine v_get C f_X3_26 dX3_isWhole_10 0 rfl rfl ?_
      refine v_aload_n C dX3_isWhole_13 0 rfl ?_
      refine v_get C f_X3_30 dX3_isWhole_14 0 rfl rfl ?_
      refine v_isub C dX3_isWhole_17 ?_
      refine v_eqi (nI (n - c0)) (pk_sub (hc c0 rfl)) ?_
      refine v_iconst C 4 dX3_isWhole_18 (by decide) ?_
      refine v_irem C dX3_isWhole_19 (by decide) ?_
      refine v_eqi (nI ((n - c0) % 4)) (pk_rem (d := 4) (by omega) (by decide) (by decide)) ?_
      refine v_if_ne C 27 dX3_isWhole_20 (by decide) (fun c2 => ?_) (fun c2 => ?_)
      · have nc2 : ((n - c0) % 4) ≠ 0 := fun q => c2 (by rw [q] <;> rfl)
        refine v_iconst C 0 dX3_isWhole_27 (by decide) ?_
        exact v_retRi C dX3_isWhole_28 rfl (by simp [bI, whC, *])
      · have nc2 : ((n - c0) % 4) = 0 := nI_eqP c2 (by omega) (by omega)
        refine v_iconst C 1 dX3_isWhole_23 (by decide) ?_
        refine v_goto C 28 dX3_isWhole_24 (by decide) ?_
        exact v_retRi C dX3_isWhole_28 rfl (by simp [bI, whC, *])
set_option maxHeartbeats 4000000 in
set_option maxRecDepth 100000 in
theorem m_X3_firstFault {l : Launch} {D : va_G} {cI cB cS : ClassId} (a : Nat → Nat) (k i n : Nat) (tl : Int32) (tf : Int32) (tc : Nat → Int32) (hs : Int32) (la : Int32) (lg : Int32) (sc : Nat → Int32) (hin : i + n ≤ 60) : Mi l yX3_firstFault cX3_firstFault 5 (some .int) 4 83 D cI cB cS [.ref (a 2), .ref (a (10 + k)), .int (nI i), .int (nI n)] [oX a tl tf, ia (a 6) cI 60 tc, oS a k hs la lg, ia (a (14 + k)) cI 60 sc] (fun r w => r = cfI (ffF (va_cpy sc tc i 0 n) n) ∧ ∃ tf', w = [oX a (nI n) tf', ia (a 6) cI 60 (va_cpy sc tc i 0 n), oS a k hs la lg, ia (a (14 + k)) cI 60 sc] ∧ (ffF (va_cpy sc tc i 0 n) n = none → tf' = cfI (cfN (va_cpy sc tc i 0 n) n))) := by
  refine Mi.of (by decide) (Nat.le_of_ble_eq_true rfl) ?_
  intro zp ze zs zm zb zt zc zz zA hA C hnm
  refine v_lv0 [(0, .ref (a 2)), (1, .ref (a (10 + k))), (2, .int (nI i)), (3, .int (nI n))] rfl ?_
  refine v_aload_n C dX3_firstFault_0 1 rfl ?_
  refine v_get C f_X3_15 dX3_firstFault_1 2 rfl rfl ?_
  refine v_iload_n C dX3_firstFault_4 2 rfl ?_
  refine v_aload_n C dX3_firstFault_5 0 rfl ?_
  refine v_get C f_X3_9 dX3_firstFault_6 0 rfl rfl ?_
  refine v_iconst C 0 dX3_firstFault_9 (by decide) ?_
  refine v_iload_n C dX3_firstFault_10 3 rfl ?_
  refine v_copy C lc_X3_20 lc_nat lc_sta lc_ini [oX a tl tf, ia (a 6) cI 60 (va_cpy sc tc i 0 n), oS a k hs la lg, ia (a (14 + k)) cI 60 sc] dX3_firstFault_11 3 1 rfl rfl i 0 n rfl rfl rfl (by omega) (by omega) (by decide) (by decide) (by decide) (by decide) rfl ?_
  refine v_aload_n C dX3_firstFault_14 0 rfl ?_
  refine v_iload_n C dX3_firstFault_15 3 rfl ?_
  refine v_put C p_X3_26 [oX a (nI n) tf, ia (a 6) cI 60 (va_cpy sc tc i 0 n), oS a k hs la lg, ia (a (14 + k)) cI 60 sc] dX3_firstFault_16 0 rfl rfl rfl (Nat.le_of_ble_eq_true rfl) rfl ?_
  refine v_aload_n C dX3_firstFault_19 0 rfl ?_
  refine v_bipush C (-9) dX3_firstFault_20 (by decide) ?_
  refine v_put C p_X3_30 [oX a (nI n) (-9), ia (a 6) cI 60 (va_cpy sc tc i 0 n), oS a k hs la lg, ia (a (14 + k)) cI 60 sc] dX3_firstFault_22 0 rfl rfl rfl (Nat.le_of_ble_eq_true rfl) rfl ?_
  refine v_iconst C 0 dX3_firstFault_25 (by decide) ?_
  refine v_istore C [(4, .int 0), (0, .ref (a 2)), (1, .ref (a (10 + k))), (2, .int (nI i)), (3, .int (nI n))] dX3_firstFault_26 (by decide) rfl ?_
  refine v_ws0 [oX a (nI n) (cfI none), ia (a 6) cI 60 (va_cpy sc tc i 0 n), oS a k hs la lg, ia (a (14 + k)) cI 60 sc] rfl ?_
  have lp : ∀ (n_2 : Nat) (p : Nat) (cf : Option Nat), n - p < n_2 → (p ≤ n) → (cf = cfN (va_cpy sc tc i 0 n) p) → (ffR (va_cpy sc tc i 0 n) n n 0 = ffR (va_cpy sc tc i 0 n) n (n - p) p) → V zp l ze (rmOf 4 83) zs zm [.ref (a 2), .ref (a (10 + k)), .int (nI i), .int (nI n)].toArray zb zt zc D (IM zA zs) (QMi zb [.ref (a 2), .ref (a (10 + k)), .int (nI i), .int (nI n)].toArray zs D cI cB cS [oX a tl tf, ia (a 6) cI 60 tc, oS a k hs la lg, ia (a (14 + k)) cI 60 sc] zz (fun r w => r = cfI (ffF (va_cpy sc tc i 0 n) n) ∧ ∃ tf', w = [oX a (nI n) tf', ia (a 6) cI 60 (va_cpy sc tc i 0 n), oS a k hs la lg, ia (a (14 + k)) cI 60 sc] ∧ (ffF (va_cpy sc tc i 0 n) n = none → tf' = cfI (cfN (va_cpy sc tc i 0 n) n)))) 0 0 5 [oX a (nI n) (cfI cf), ia (a 6) cI 60 (va_cpy sc tc i 0 n), oS a k hs la lg, ia (a (14 + k)) cI 60 sc] [(4, .int (nI p)), (0, .ref (a 2)), (1, .ref (a (10 + k))), (2, .int (nI i)), (3, .int (nI n))] 28 [] := by
    intro n_2
    induction n_2 with
    | zero => intro p cf b1; exact absurd b1 (by omega)
    | succ n_2 ihn_2 =>
      intro p cf b1 hp hcf hff
      refine v_iload C dX3_firstFault_28 0 rfl ?_
      refine v_iload_n C dX3_firstFault_30 4 rfl ?_
      refine v_icmp_ge C 79 dX3_firstFault_31 (by decide) (fun c3 => ?_) (fun c3 => ?_)
      · have nc3 : n ≤ p := nI_leD c3 (by omega)
        refine v_aload_n C dX3_firstFault_79 1 rfl ?_
        refine v_callRi C l_X3_37 (m_X3_isWhole a n cf (by omega) (fun c hc => by rw [hcf] at hc; exact Nat.le_of_lt (Nat.lt_of_lt_of_le (cfN_lt hc) (by omega)))) (by decide) dX3_firstFault_80 [0] rfl 0 rfl rfl rfl (rest := []) rfl (Nat.le_of_ble_eq_true rfl) (by decide) (fun r4 h5 => ?_)
        subst h5
        by_cases c6 : whC cf n = true
        · refine v_eqi 1 (bI_t c6) ?_
          refine v_if_eq C 91 dX3_firstFault_83 (by decide) (fun h => absurd h (by decide)) (fun _ => ?_)
          refine v_bipush C (-9) dX3_firstFault_86 (by decide) ?_
          refine v_goto C 92 dX3_firstFault_88 (by decide) ?_
          exact v_reti C hA dX3_firstFault_92 rfl (have hz := ff_ok hff (by omega) hcf c6; ⟨by rw [hz.1]; rfl, cfI cf, rfl, fun _ => by rw [hz.2]⟩)
        · refine v_eqi 0 (bI_f c6) ?_
          refine v_if_eq C 91 dX3_firstFault_83 (by decide) (fun _ => ?_) (fun h => absurd h (by decide))
          refine v_iload_n C dX3_firstFault_91 4 rfl ?_
          exact v_reti C hA dX3_firstFault_92 rfl (have hz := ff_short hff (by omega) hcf c6; ⟨by rw [hz]; rfl, cfI cf, rfl, fun h => by rw [hz] at h; cases h⟩)
      · have nc3 : p < n := nI_ltD c3 (by omega)
        refine v_aload_n C dX3_firstFault_34 1 rfl ?_
        refine v_iload C dX3_firstFault_35 0 rfl ?_
        refine v_callRi C l_X3_33 (m_X3_goesOn a p cf (nI n) (va_cpy sc tc i 0 n) (by omega) (fun c hc => by rw [hcf] at hc; exact Nat.le_of_lt (cfN_lt hc))) (by decide) dX3_firstFault_37 [0, 1] rfl 0 rfl rfl rfl (rest := []) rfl (Nat.le_of_ble_eq_true rfl) (by decide) (fun r7 h8 => ?_)
        subst h8
        by_cases c9 : goB (va_cpy sc tc i 0 n) p cf = true
        · refine v_eqi 1 (bI_t c9) ?_
          refine v_if_ne C 46 dX3_firstFault_40 (by decide) (fun _ => ?_) (fun h => absurd h (by decide))
          cases cf with
          | none =>
            refine v_ws0 [oX a (nI n) (-9), ia (a 6) cI 60 (va_cpy sc tc i 0 n), oS a k hs la lg, ia (a (14 + k)) cI 60 sc] rfl ?_
            refine v_aload_n C dX3_firstFault_46 1 rfl ?_
            refine v_get C f_X3_30 dX3_firstFault_47 0 rfl rfl ?_
            refine v_bipush C (-9) dX3_firstFault_50 (by decide) ?_
            refine v_icmp_ne C 73 dX3_firstFault_52 (by decide) (fun h => absurd h (by decide)) (fun _ => ?_)
            refine v_aload_n C dX3_firstFault_55 1 rfl ?_
            refine v_get C f_X3_9 dX3_firstFault_56 0 rfl rfl ?_
            refine v_iload C dX3_firstFault_59 0 rfl ?_
            refine v_ialdN C dX3_firstFault_61 1 rfl p rfl (by omega) (by decide) ?_
            refine v_bipush C 59 dX3_firstFault_62 (by decide) ?_
            refine v_icmp_ne C 73 dX3_firstFault_64 (by decide) (fun c10 => ?_) (fun c10 => ?_)
            · refine v_iinc C (nI (p + 1)) [(4, .int (nI (p + 1))), (0, .ref (a 2)), (1, .ref (a (10 + k))), (2, .int (nI i)), (3, .int (nI n))] 0 dX3_firstFault_73 rfl (nI_inc _) (by decide) rfl ?_
              refine v_goto C 28 dX3_firstFault_76 (by decide) ?_
              refine v_ws0 [oX a (nI n) (cfI (none)), ia (a 6) cI 60 (va_cpy sc tc i 0 n), oS a k hs la lg, ia (a (14 + k)) cI 60 sc] rfl ?_
              exact ihn_2 (p + 1) none (by omega) (by omega) ((cfN_none hcf.symm c10).symm) (by rw [hff]; exact ffR_go (by omega) (by rw [← hcf]; exact c9))
            · refine v_aload_n C dX3_firstFault_67 1 rfl ?_
              refine v_iload C dX3_firstFault_68 0 rfl ?_
              refine v_put C p_X3_30 [oX a (nI n) (nI p), ia (a 6) cI 60 (va_cpy sc tc i 0 n), oS a k hs la lg, ia (a (14 + k)) cI 60 sc] dX3_firstFault_70 0 rfl rfl rfl (Nat.le_of_ble_eq_true rfl) rfl ?_
              refine v_iinc C (nI (p + 1)) [(4, .int (nI (p + 1))), (0, .ref (a 2)), (1, .ref (a (10 + k))), (2, .int (nI i)), (3, .int (nI n))] 0 dX3_firstFault_73 rfl (nI_inc _) (by decide) rfl ?_
              refine v_goto C 28 dX3_firstFault_76 (by decide) ?_
              refine v_ws0 [oX a (nI n) (cfI (some p)), ia (a 6) cI 60 (va_cpy sc tc i 0 n), oS a k hs la lg, ia (a (14 + k)) cI 60 sc] rfl ?_
              exact ihn_2 (p + 1) (some p) (by omega) (by omega) ((cfN_semi hcf.symm c10).symm) (by rw [hff]; exact ffR_go (by omega) (by rw [← hcf]; exact c9))
          | some c0 =>
            refine v_ws0 [oX a (nI n) (nI c0), ia (a 6) cI 60 (va_cpy sc tc i 0 n), oS a k hs la lg, ia (a (14 + k)) cI 60 sc] rfl ?_
            refine v_aload_n C dX3_firstFault_46 1 rfl ?_
            refine v_get C f_X3_30 dX3_firstFault_47 0 rfl rfl ?_
            refine v_bipush C (-9) dX3_firstFault_50 (by decide) ?_
            refine v_icmp_ne C 73 dX3_firstFault_52 (by decide) (fun c11 => ?_) (fun c11 => ?_)
            · refine v_iinc C (nI (p + 1)) [(4, .int (nI (p + 1))), (0, .ref (a 2)), (1, .ref (a (10 + k))), (2, .int (nI i)), (3, .int (nI n))] 0 dX3_firstFault_73 rfl (nI_inc _) (by decide) rfl ?_
              refine v_goto C 28 dX3_firstFault_76 (by decide) ?_
              refine v_ws0 [oX a (nI n) (cfI (some c0)), ia (a 6) cI 60 (va_cpy sc tc i 0 n), oS a k hs la lg, ia (a (14 + k)) cI 60 sc] rfl ?_
              exact ihn_2 (p + 1) (some c0) (by omega) (by omega) ((cfN_some hcf.symm).symm) (by rw [hff]; exact ffR_go (by omega) (by rw [← hcf]; exact c9))
            · exact absurd c11 (nI_ne9 (by have := cfN_lt hcf.symm; omega))
        · refine v_eqi 0 (bI_f c9) ?_
          refine v_if_ne C 46 dX3_firstFault_40 (by decide) (fun h => absurd h (by decide)) (fun _ => ?_)
          refine v_iload C dX3_firstFault_43 0 rfl ?_
          exact v_reti C hA dX3_firstFault_45 rfl (have hz := ff_no hff (by omega) hcf c9; ⟨by rw [hz]; rfl, cfI cf, rfl, fun h => by rw [hz] at h; cases h⟩)
  exact lp (n - 0 + 1) 0 none (by omega) (by omega) rfl rfl
end
section
/-! what the text tells -/
def vKd (tc : Nat → Int32) : Nat → Int32 := fun j => kdF (tc (3 + 3 * j + 1))
def vAg (tc : Nat → Int32) : Nat → Int32 := fun j => tc (3 + 3 * j + 2) - 48
def vCa (tc : Nat → Int32) (F v : Nat) : Nat → Int32 := fun c => tc (F + 4 * c + 1 + v) - 48
/-- all readings are so -/
def arB (ve : Nat → Int32) (rn : Nat → Nat) (rh : Nat → Int32) : Nat → Bool
  | 0 => true
  | r + 1 => arB ve rn rh r && decide (ve (rn r) = rh r)
theorem arB_no {ve : Nat → Int32} {rn : Nat → Nat} {rh : Nat → Int32} {q : Nat} (h : ¬ ve (rn q) = rh q) : ∀ n, q < n → arB ve rn rh n = false
  | 0, hq => absurd hq (by omega)
  | n + 1, hq => by
    rw [arB]
    by_cases e : q = n
    · subst e; simp [h]
    · rw [arB_no h n (by omega)]; rfl
/-- the most by the court's strike behind a father's -/
def mbS (val : Nat → Int32) (x : Nat) : Nat → Int32
  | 0 => -9
  | j + 1 => if x.testBit j = true then mbS val x j else (if mbS val x j < val (set1 x j) then val (set1 x j) else mbS val x j)
def mbF (val : Nat → Int32) (x nj : Nat) : Int32 := if mbS val x nj = -9 then val x else mbS val x nj
/-- orders, by their numbers -/
def fct : Nat → Nat
  | 0 => 1
  | n + 1 => (n + 1) * fct n
def pt0 : List (List Nat) := [[]]
def pt1 : List (List Nat) := [[0]]
def pt2 : List (List Nat) := [[0, 1], [1, 0]]
def pt3 : List (List Nat) := [[0, 1, 2], [0, 2, 1], [1, 0, 2], [1, 2, 0], [2, 0, 1], [2, 1, 0]]
def pt4 : List (List Nat) := [[0, 1, 2, 3], [0, 1, 3, 2], [0, 2, 1, 3], [0, 2, 3, 1], [0, 3, 1, 2], [0, 3, 2, 1], [1, 0, 2, 3], [1, 0, 3, 2], [1, 2, 0, 3], [1, 2, 3, 0], [1, 3, 0, 2], [1, 3, 2, 0], [2, 0, 1, 3], [2, 0, 3, 1], [2, 1, 0, 3], [2, 1, 3, 0], [2, 3, 0, 1], [2, 3, 1, 0], [3, 0, 1, 2], [3, 0, 2, 1], [3, 1, 0, 2], [3, 1, 2, 0], [3, 2, 0, 1], [3, 2, 1, 0]]
def pt5 : List (List Nat) := [[0, 1, 2, 3, 4], [0, 1, 2, 4, 3], [0, 1, 3, 2, 4], [0, 1, 3, 4, 2], [0, 1, 4, 2, 3], [0, 1, 4, 3, 2], [0, 2, 1, 3, 4], [0, 2, 1, 4, 3], [0, 2, 3, 1, 4], [0, 2, 3, 4, 1], [0, 2, 4, 1, 3], [0, 2, 4, 3, 1], [0, 3, 1, 2, 4], [0, 3, 1, 4, 2], [0, 3, 2, 1, 4], [0, 3, 2, 4, 1], [0, 3, 4, 1, 2], [0, 3, 4, 2, 1], [0, 4, 1, 2, 3], [0, 4, 1, 3, 2], [0, 4, 2, 1, 3], [0, 4, 2, 3, 1], [0, 4, 3, 1, 2], [0, 4, 3, 2, 1], [1, 0, 2, 3, 4], [1, 0, 2, 4, 3], [1, 0, 3, 2, 4], [1, 0, 3, 4, 2], [1, 0, 4, 2, 3], [1, 0, 4, 3, 2], [1, 2, 0, 3, 4], [1, 2, 0, 4, 3], [1, 2, 3, 0, 4], [1, 2, 3, 4, 0], [1, 2, 4, 0, 3], [1, 2, 4, 3, 0], [1, 3, 0, 2, 4], [1, 3, 0, 4, 2], [1, 3, 2, 0, 4], [1, 3, 2, 4, 0], [1, 3, 4, 0, 2], [1, 3, 4, 2, 0], [1, 4, 0, 2, 3], [1, 4, 0, 3, 2], [1, 4, 2, 0, 3], [1, 4, 2, 3, 0], [1, 4, 3, 0, 2], [1, 4, 3, 2, 0], [2, 0, 1, 3, 4], [2, 0, 1, 4, 3], [2, 0, 3, 1, 4], [2, 0, 3, 4, 1], [2, 0, 4, 1, 3], [2, 0, 4, 3, 1], [2, 1, 0, 3, 4], [2, 1, 0, 4, 3], [2, 1, 3, 0, 4], [2, 1, 3, 4, 0], [2, 1, 4, 0, 3], [2, 1, 4, 3, 0], [2, 3, 0, 1, 4], [2, 3, 0, 4, 1], [2, 3, 1, 0, 4], [2, 3, 1, 4, 0], [2, 3, 4, 0, 1], [2, 3, 4, 1, 0], [2, 4, 0, 1, 3], [2, 4, 0, 3, 1], [2, 4, 1, 0, 3], [2, 4, 1, 3, 0], [2, 4, 3, 0, 1], [2, 4, 3, 1, 0], [3, 0, 1, 2, 4], [3, 0, 1, 4, 2], [3, 0, 2, 1, 4], [3, 0, 2, 4, 1], [3, 0, 4, 1, 2], [3, 0, 4, 2, 1], [3, 1, 0, 2, 4], [3, 1, 0, 4, 2], [3, 1, 2, 0, 4], [3, 1, 2, 4, 0], [3, 1, 4, 0, 2], [3, 1, 4, 2, 0], [3, 2, 0, 1, 4], [3, 2, 0, 4, 1], [3, 2, 1, 0, 4], [3, 2, 1, 4, 0], [3, 2, 4, 0, 1], [3, 2, 4, 1, 0], [3, 4, 0, 1, 2], [3, 4, 0, 2, 1], [3, 4, 1, 0, 2], [3, 4, 1, 2, 0], [3, 4, 2, 0, 1], [3, 4, 2, 1, 0], [4, 0, 1, 2, 3], [4, 0, 1, 3, 2], [4, 0, 2, 1, 3], [4, 0, 2, 3, 1], [4, 0, 3, 1, 2], [4, 0, 3, 2, 1], [4, 1, 0, 2, 3], [4, 1, 0, 3, 2], [4, 1, 2, 0, 3], [4, 1, 2, 3, 0], [4, 1, 3, 0, 2], [4, 1, 3, 2, 0], [4, 2, 0, 1, 3], [4, 2, 0, 3, 1], [4, 2, 1, 0, 3], [4, 2, 1, 3, 0], [4, 2, 3, 0, 1], [4, 2, 3, 1, 0], [4, 3, 0, 1, 2], [4, 3, 0, 2, 1], [4, 3, 1, 0, 2], [4, 3, 1, 2, 0], [4, 3, 2, 0, 1], [4, 3, 2, 1, 0]]
def prT : Nat → List (List Nat)
  | 0 => pt0
  | 1 => pt1
  | 2 => pt2
  | 3 => pt3
  | 4 => pt4
  | _ => pt5
def prm (L k : Nat) : Nat → Nat := fun p => ((prT L).getD k []).getD p 0
theorem prm_0 : ∀ L, L < 6 → ∀ p, p < L → prm L 0 p = p := by decide +kernel
theorem prm_lt : ∀ L, L < 6 → ∀ k, k < fct L → ∀ p, p < L → prm L k p < L := by decide +kernel
theorem prm_inj : ∀ L, L < 6 → ∀ k, k < fct L → ∀ p, p < L → ∀ q, q < L → prm L k p = prm L k q → p = q := by decide +kernel
def nxL (L : Nat) (g : Nat → Nat) : Option (List Nat) := (nxN L g).map (fun h => (List.range L).map h)
theorem prm_nx : ∀ L, L < 6 → 1 ≤ L → ∀ k, k < fct L → nxL L (prm L k) = if k + 1 < fct L then some ((List.range L).map (prm L (k + 1))) else none := by decide +kernel
theorem fct_le : ∀ L, L < 6 → fct L ≤ 120 := by decide +kernel
theorem fct_pos : ∀ L, L < 6 → 1 ≤ fct L := by decide +kernel
theorem prm_none {L k : Nat} (hL : L < 6) (h1 : 1 ≤ L) (hk : k < fct L) (h : nxN L (prm L k) = none) : k + 1 = fct L := by
  have q := prm_nx L hL h1 k hk
  unfold nxL at q
  rw [h] at q
  by_cases c : k + 1 < fct L
  · rw [if_pos c] at q; cases q
  · omega
theorem prm_some {L k : Nat} {g : Nat → Nat} (hL : L < 6) (h1 : 1 ≤ L) (hk : k < fct L) (h : nxN L (prm L k) = some g) : k + 1 < fct L ∧ ∀ p, p < L → g p = prm L (k + 1) p := by
  have q := prm_nx L hL h1 k hk
  unfold nxL at q
  rw [h] at q
  by_cases c : k + 1 < fct L
  · rw [if_pos c] at q
    refine ⟨c, fun p hp => ?_⟩
    have e := Option.some.inj q
    have e2 := congrArg (fun l => l[p]?) e
    simpa [hp] using e2
  · rw [if_neg c] at q; cases q
end
section
set_option maxHeartbeats 4000000 in
set_option maxRecDepth 100000 in
theorem m_X1_renew {l : Launch} {D : va_G} {cI cB cS : ClassId} (a : Nat → Nat) (k : Nat) (hs : Int32) (la : Int32) (lg : Int32) (sc : Nat → Int32) (x : Int32) (n : Int32) : Mv l yX1_renew cX1_renew 3 1 23 D cI cB cS [.ref (a (10 + k)), .int x, .int n] [oS a k hs la lg, ia (a (14 + k)) cI 60 sc] (fun w => w = [oS a k 1 x n, ia (a (14 + k)) cI 60 (fun _ => 0)]) := by
  refine Mv.of (by decide) (Nat.le_of_ble_eq_true rfl) ?_
  intro zp ze zs zm zb zt zc zz zA hA C hnm
  refine v_lv0 [(0, .ref (a (10 + k))), (1, .int x), (2, .int n)] rfl ?_
  refine v_aload_n C dX1_renew_0 0 rfl ?_
  refine v_get C f_X1_9 dX1_renew_1 0 rfl rfl ?_
  refine v_iconst C 0 dX1_renew_4 (by decide) ?_
  refine v_callSv C l_X1_15 (m_J7_fill_53178 (a (14 + k)) 60 sc 0 (by decide)) (by decide) dX1_renew_5 [1] [0] (wr := [oS a k hs la lg]) (by decide) rfl rfl (by decide) (by decide) rfl (rest := []) rfl (Nat.le_of_ble_eq_true rfl) (by decide) (fun w1 h2 => ?_)
  subst h2
  refine v_ws0 [oS a k hs la lg, ia (a (14 + k)) cI 60 (fun _ => (0 : Int32))] rfl ?_
  refine v_aload_n C dX1_renew_8 0 rfl ?_
  refine v_iconst C 1 dX1_renew_9 (by decide) ?_
  refine v_put C p_X1_21 [oS a k 1 la lg, ia (a (14 + k)) cI 60 (fun _ => (0 : Int32))] dX1_renew_10 0 rfl rfl rfl (Nat.le_of_ble_eq_true rfl) rfl ?_
  refine v_aload_n C dX1_renew_13 0 rfl ?_
  refine v_iload_n C dX1_renew_14 1 rfl ?_
  refine v_put C p_X1_25 [oS a k 1 x lg, ia (a (14 + k)) cI 60 (fun _ => (0 : Int32))] dX1_renew_15 0 rfl rfl rfl (Nat.le_of_ble_eq_true rfl) rfl ?_
  refine v_aload_n C dX1_renew_18 0 rfl ?_
  refine v_iload_n C dX1_renew_19 2 rfl ?_
  refine v_put C p_X1_29 [oS a k 1 x n, ia (a (14 + k)) cI 60 (fun _ => (0 : Int32))] dX1_renew_20 0 rfl rfl rfl (Nat.le_of_ble_eq_true rfl) rfl ?_
  exact v_retv C hA dX1_renew_23 (rfl)
set_option maxHeartbeats 4000000 in
set_option maxRecDepth 100000 in
theorem m_X0_makeAnew {l : Launch} {D : va_G} {cI cB cS : ClassId} (a : Nat → Nat) (nj nc : Nat) (si : Int32) (ju : Int32) (ca : Int32) (la : Int32) (sw : Int32) (sk : Int32) (rd : Int32) (kd : Nat → Int32) (ag : Nat → Int32) (de : Nat → Int32) (ta : Nat → Int32) (we : Nat → Int32) (tc : Nat → Int32) (hnj : nj ≤ 5) (hnc : nc ≤ 5) : Mv l yX0_makeAnew cX0_makeAnew 3 2 43 D cI cB cS [.ref (a 3), .ref (a 2)] [oK a si ju ca la sw sk rd, ia (a 20) cI 5 kd, ia (a 21) cI 5 ag, ia (a 22) cI 5 de, ia (a 23) cI 5 ta, ia (a 24) cI 5 we, oX a (nI (3 + 3 * nj + 4 * nc)) (nI (3 + 3 * nj)), ia (a 6) cI 60 tc] (fun w => w = [oK a (tmF tc) (nI nj) (nI nc) 0 0 0 0, ia (a 20) cI 5 (tbF (vKd tc) kd nj), ia (a 21) cI 5 (tbF (vAg tc) ag nj), ia (a 22) cI 5 (tbF (vCa tc (3 + 3 * nj) 0) de nc), ia (a 23) cI 5 (tbF (vCa tc (3 + 3 * nj) 1) ta nc), ia (a 24) cI 5 (tbF (vCa tc (3 + 3 * nj) 2) we nc), oX a (nI (3 + 3 * nj + 4 * nc)) (nI (3 + 3 * nj)), ia (a 6) cI 60 tc]) := by
  refine Mv.of (by decide) (Nat.le_of_ble_eq_true rfl) ?_
  intro zp ze zs zm zb zt zc zz zA hA C hnm
  refine v_lv0 [(0, .ref (a 3)), (1, .ref (a 2))] rfl ?_
  refine v_aload_n C dX0_makeAnew_0 0 rfl ?_
  refine v_aload_n C dX0_makeAnew_1 1 rfl ?_
  refine v_callRi C l_X0_40 (m_X3_toldMinutes a (nI (3 + 3 * nj + 4 * nc)) (nI (3 + 3 * nj)) tc) (by decide) dX0_makeAnew_2 [6, 7] rfl 6 rfl rfl rfl (rest := [.ref (a 3)]) rfl (Nat.le_of_ble_eq_true rfl) (by decide) (fun r1 h2 => ?_)
  subst h2
  refine v_put C p_X0_46 [oK a (tmF tc) ju ca la sw sk rd, ia (a 20) cI 5 kd, ia (a 21) cI 5 ag, ia (a 22) cI 5 de, ia (a 23) cI 5 ta, ia (a 24) cI 5 we, oX a (nI (3 + 3 * nj + 4 * nc)) (nI (3 + 3 * nj)), ia (a 6) cI 60 tc] dX0_makeAnew_5 0 rfl rfl rfl (Nat.le_of_ble_eq_true rfl) rfl ?_
  refine v_aload_n C dX0_makeAnew_8 0 rfl ?_
  refine v_aload_n C dX0_makeAnew_9 1 rfl ?_
  refine v_callRi C l_X0_49 (m_X3_toldJurors a (3 + 3 * nj) (nI (3 + 3 * nj + 4 * nc)) (by omega) (by omega)) (by decide) dX0_makeAnew_10 [6] rfl 6 rfl rfl rfl (rest := [.ref (a 3)]) rfl (Nat.le_of_ble_eq_true rfl) (by decide) (fun r3 h4 => ?_)
  subst h4
  refine v_eqi (nI nj) (congrArg nI (by omega)) ?_
  refine v_put C p_X0_37 [oK a (tmF tc) (nI nj) ca la sw sk rd, ia (a 20) cI 5 kd, ia (a 21) cI 5 ag, ia (a 22) cI 5 de, ia (a 23) cI 5 ta, ia (a 24) cI 5 we, oX a (nI (3 + 3 * nj + 4 * nc)) (nI (3 + 3 * nj)), ia (a 6) cI 60 tc] dX0_makeAnew_13 0 rfl rfl rfl (Nat.le_of_ble_eq_true rfl) rfl ?_
  refine v_iconst C 0 dX0_makeAnew_16 (by decide) ?_
  refine v_istore_n C [(2, .int 0), (0, .ref (a 3)), (1, .ref (a 2))] dX0_makeAnew_17 (by decide) rfl ?_
  refine v_ws0 [oK a (tmF tc) (nI nj) ca la sw sk rd, ia (a 20) cI 5 (tbF (vKd tc) kd 0), ia (a 21) cI 5 (tbF (vAg tc) ag 0), ia (a 22) cI 5 de, ia (a 23) cI 5 ta, ia (a 24) cI 5 we, oX a (nI (3 + 3 * nj + 4 * nc)) (nI (3 + 3 * nj)), ia (a 6) cI 60 tc] (by rw [tbF_0, tbF_0]) ?_
  have lp : ∀ (n_6 : Nat) (j : Nat), nj - j < n_6 → (j ≤ nj) → V zp l ze (rmOf 2 43) zs zm [.ref (a 3), .ref (a 2)].toArray zb zt zc D (IM zA zs) (QMv zb [.ref (a 3), .ref (a 2)].toArray zs D cI cB cS [oK a si ju ca la sw sk rd, ia (a 20) cI 5 kd, ia (a 21) cI 5 ag, ia (a 22) cI 5 de, ia (a 23) cI 5 ta, ia (a 24) cI 5 we, oX a (nI (3 + 3 * nj + 4 * nc)) (nI (3 + 3 * nj)), ia (a 6) cI 60 tc] zz (fun w => w = [oK a (tmF tc) (nI nj) (nI nc) 0 0 0 0, ia (a 20) cI 5 (tbF (vKd tc) kd nj), ia (a 21) cI 5 (tbF (vAg tc) ag nj), ia (a 22) cI 5 (tbF (vCa tc (3 + 3 * nj) 0) de nc), ia (a 23) cI 5 (tbF (vCa tc (3 + 3 * nj) 1) ta nc), ia (a 24) cI 5 (tbF (vCa tc (3 + 3 * nj) 2) we nc), oX a (nI (3 + 3 * nj + 4 * nc)) (nI (3 + 3 * nj)), ia (a 6) cI 60 tc])) 0 0 3 [oK a (tmF tc) (nI nj) ca la sw sk rd, ia (a 20) cI 5 (tbF (vKd tc) kd j), ia (a 21) cI 5 (tbF (vAg tc) ag j), ia (a 22) cI 5 de, ia (a 23) cI 5 ta, ia (a 24) cI 5 we, oX a (nI (3 + 3 * nj + 4 * nc)) (nI (3 + 3 * nj)), ia (a 6) cI 60 tc] [(2, .int (nI j)), (0, .ref (a 3)), (1, .ref (a 2))] 18 [] := by
    intro n_6
    induction n_6 with
    | zero => intro j b5; exact absurd b5 (by omega)
    | succ n_6 ihn_6 =>
      intro j b5 hj
      refine v_iload_n C dX0_makeAnew_18 0 rfl ?_
      refine v_aload_n C dX0_makeAnew_19 1 rfl ?_
      refine v_get C f_X0_37 dX0_makeAnew_20 0 rfl rfl ?_
      refine v_icmp_ge C 54 dX0_makeAnew_23 (by decide) (fun c7 => ?_) (fun c7 => ?_)
      · have nc7 : nj ≤ j := nI_leD c7 (by omega)
        have hje : j = nj := by omega
        refine v_ws0 [oK a (tmF tc) (nI nj) ca la sw sk rd, ia (a 20) cI 5 (tbF (vKd tc) kd nj), ia (a 21) cI 5 (tbF (vAg tc) ag nj), ia (a 22) cI 5 de, ia (a 23) cI 5 ta, ia (a 24) cI 5 we, oX a (nI (3 + 3 * nj + 4 * nc)) (nI (3 + 3 * nj)), ia (a 6) cI 60 tc] (by rw [hje]) ?_
        refine v_aload_n C dX0_makeAnew_54 1 rfl ?_
        refine v_aload_n C dX0_makeAnew_55 2 rfl ?_
        refine v_callRi C l_X0_59 (m_X3_toldCases a (3 + 3 * nj) (3 + 3 * nj + 4 * nc) (by omega) (by omega)) (by decide) dX0_makeAnew_56 [6] rfl 6 rfl rfl rfl (rest := [.ref (a 3)]) rfl (Nat.le_of_ble_eq_true rfl) (by decide) (fun r8 h9 => ?_)
        subst h9
        refine v_eqi (nI nc) (congrArg nI (by omega)) ?_
        refine v_put C p_X0_33 [oK a (tmF tc) (nI nj) (nI nc) la sw sk rd, ia (a 20) cI 5 (tbF (vKd tc) kd nj), ia (a 21) cI 5 (tbF (vAg tc) ag nj), ia (a 22) cI 5 de, ia (a 23) cI 5 ta, ia (a 24) cI 5 we, oX a (nI (3 + 3 * nj + 4 * nc)) (nI (3 + 3 * nj)), ia (a 6) cI 60 tc] dX0_makeAnew_59 0 rfl rfl rfl (Nat.le_of_ble_eq_true rfl) rfl ?_
        refine v_iconst C 0 dX0_makeAnew_62 (by decide) ?_
        refine v_istore_n C [(2, .int 0), (0, .ref (a 3)), (1, .ref (a 2))] dX0_makeAnew_63 (by decide) rfl ?_
        refine v_ws0 [oK a (tmF tc) (nI nj) (nI nc) la sw sk rd, ia (a 20) cI 5 (tbF (vKd tc) kd nj), ia (a 21) cI 5 (tbF (vAg tc) ag nj), ia (a 22) cI 5 (tbF (vCa tc (3 + 3 * nj) 0) de 0), ia (a 23) cI 5 (tbF (vCa tc (3 + 3 * nj) 1) ta 0), ia (a 24) cI 5 (tbF (vCa tc (3 + 3 * nj) 2) we 0), oX a (nI (3 + 3 * nj + 4 * nc)) (nI (3 + 3 * nj)), ia (a 6) cI 60 tc] (by rw [tbF_0, tbF_0, tbF_0]) ?_
        have lq : ∀ (n_11 : Nat) (c : Nat), nc - c < n_11 → (c ≤ nc) → V zp l ze (rmOf 2 43) zs zm [.ref (a 3), .ref (a 2)].toArray zb zt zc D (IM zA zs) (QMv zb [.ref (a 3), .ref (a 2)].toArray zs D cI cB cS [oK a si ju ca la sw sk rd, ia (a 20) cI 5 kd, ia (a 21) cI 5 ag, ia (a 22) cI 5 de, ia (a 23) cI 5 ta, ia (a 24) cI 5 we, oX a (nI (3 + 3 * nj + 4 * nc)) (nI (3 + 3 * nj)), ia (a 6) cI 60 tc] zz (fun w => w = [oK a (tmF tc) (nI nj) (nI nc) 0 0 0 0, ia (a 20) cI 5 (tbF (vKd tc) kd nj), ia (a 21) cI 5 (tbF (vAg tc) ag nj), ia (a 22) cI 5 (tbF (vCa tc (3 + 3 * nj) 0) de nc), ia (a 23) cI 5 (tbF (vCa tc (3 + 3 * nj) 1) ta nc), ia (a 24) cI 5 (tbF (vCa tc (3 + 3 * nj) 2) we nc), oX a (nI (3 + 3 * nj + 4 * nc)) (nI (3 + 3 * nj)), ia (a 6) cI 60 tc])) 0 0 3 [oK a (tmF tc) (nI nj) (nI nc) la sw sk rd, ia (a 20) cI 5 (tbF (vKd tc) kd nj), ia (a 21) cI 5 (tbF (vAg tc) ag nj), ia (a 22) cI 5 (tbF (vCa tc (3 + 3 * nj) 0) de c), ia (a 23) cI 5 (tbF (vCa tc (3 + 3 * nj) 1) ta c), ia (a 24) cI 5 (tbF (vCa tc (3 + 3 * nj) 2) we c), oX a (nI (3 + 3 * nj + 4 * nc)) (nI (3 + 3 * nj)), ia (a 6) cI 60 tc] [(2, .int (nI c)), (0, .ref (a 3)), (1, .ref (a 2))] 64 [] := by
          intro n_11
          induction n_11 with
          | zero => intro c b10; exact absurd b10 (by omega)
          | succ n_11 ihn_11 =>
            intro c b10 hc
            refine v_iload_n C dX0_makeAnew_64 0 rfl ?_
            refine v_aload_n C dX0_makeAnew_65 1 rfl ?_
            refine v_get C f_X0_33 dX0_makeAnew_66 0 rfl rfl ?_
            refine v_icmp_ge C 114 dX0_makeAnew_69 (by decide) (fun c12 => ?_) (fun c12 => ?_)
            · have nc12 : nc ≤ c := nI_leD c12 (by omega)
              have hce : c = nc := by omega
              refine v_ws0 [oK a (tmF tc) (nI nj) (nI nc) la sw sk rd, ia (a 20) cI 5 (tbF (vKd tc) kd nj), ia (a 21) cI 5 (tbF (vAg tc) ag nj), ia (a 22) cI 5 (tbF (vCa tc (3 + 3 * nj) 0) de nc), ia (a 23) cI 5 (tbF (vCa tc (3 + 3 * nj) 1) ta nc), ia (a 24) cI 5 (tbF (vCa tc (3 + 3 * nj) 2) we nc), oX a (nI (3 + 3 * nj + 4 * nc)) (nI (3 + 3 * nj)), ia (a 6) cI 60 tc] (by rw [hce]) ?_
              refine v_aload_n C dX0_makeAnew_114 1 rfl ?_
              refine v_iconst C 0 dX0_makeAnew_115 (by decide) ?_
              refine v_put C p_X0_66 [oK a (tmF tc) (nI nj) (nI nc) 0 sw sk rd, ia (a 20) cI 5 (tbF (vKd tc) kd nj), ia (a 21) cI 5 (tbF (vAg tc) ag nj), ia (a 22) cI 5 (tbF (vCa tc (3 + 3 * nj) 0) de nc), ia (a 23) cI 5 (tbF (vCa tc (3 + 3 * nj) 1) ta nc), ia (a 24) cI 5 (tbF (vCa tc (3 + 3 * nj) 2) we nc), oX a (nI (3 + 3 * nj + 4 * nc)) (nI (3 + 3 * nj)), ia (a 6) cI 60 tc] dX0_makeAnew_116 0 rfl rfl rfl (Nat.le_of_ble_eq_true rfl) rfl ?_
              refine v_aload_n C dX0_makeAnew_119 1 rfl ?_
              refine v_iconst C 0 dX0_makeAnew_120 (by decide) ?_
              refine v_put C p_X0_69 [oK a (tmF tc) (nI nj) (nI nc) 0 0 sk rd, ia (a 20) cI 5 (tbF (vKd tc) kd nj), ia (a 21) cI 5 (tbF (vAg tc) ag nj), ia (a 22) cI 5 (tbF (vCa tc (3 + 3 * nj) 0) de nc), ia (a 23) cI 5 (tbF (vCa tc (3 + 3 * nj) 1) ta nc), ia (a 24) cI 5 (tbF (vCa tc (3 + 3 * nj) 2) we nc), oX a (nI (3 + 3 * nj + 4 * nc)) (nI (3 + 3 * nj)), ia (a 6) cI 60 tc] dX0_makeAnew_121 0 rfl rfl rfl (Nat.le_of_ble_eq_true rfl) rfl ?_
              refine v_aload_n C dX0_makeAnew_124 1 rfl ?_
              refine v_iconst C 0 dX0_makeAnew_125 (by decide) ?_
              refine v_put C p_X0_72 [oK a (tmF tc) (nI nj) (nI nc) 0 0 0 rd, ia (a 20) cI 5 (tbF (vKd tc) kd nj), ia (a 21) cI 5 (tbF (vAg tc) ag nj), ia (a 22) cI 5 (tbF (vCa tc (3 + 3 * nj) 0) de nc), ia (a 23) cI 5 (tbF (vCa tc (3 + 3 * nj) 1) ta nc), ia (a 24) cI 5 (tbF (vCa tc (3 + 3 * nj) 2) we nc), oX a (nI (3 + 3 * nj + 4 * nc)) (nI (3 + 3 * nj)), ia (a 6) cI 60 tc] dX0_makeAnew_126 0 rfl rfl rfl (Nat.le_of_ble_eq_true rfl) rfl ?_
              refine v_aload_n C dX0_makeAnew_129 1 rfl ?_
              refine v_iconst C 0 dX0_makeAnew_130 (by decide) ?_
              refine v_put C p_X0_75 [oK a (tmF tc) (nI nj) (nI nc) 0 0 0 0, ia (a 20) cI 5 (tbF (vKd tc) kd nj), ia (a 21) cI 5 (tbF (vAg tc) ag nj), ia (a 22) cI 5 (tbF (vCa tc (3 + 3 * nj) 0) de nc), ia (a 23) cI 5 (tbF (vCa tc (3 + 3 * nj) 1) ta nc), ia (a 24) cI 5 (tbF (vCa tc (3 + 3 * nj) 2) we nc), oX a (nI (3 + 3 * nj + 4 * nc)) (nI (3 + 3 * nj)), ia (a 6) cI 60 tc] dX0_makeAnew_131 0 rfl rfl rfl (Nat.le_of_ble_eq_true rfl) rfl ?_
              exact v_retv C hA dX0_makeAnew_134 (rfl)
            · have nc12 : c < nc := nI_ltD c12 (by omega)
              refine v_aload_n C dX0_makeAnew_72 1 rfl ?_
              refine v_get C f_X0_18 dX0_makeAnew_73 0 rfl rfl ?_
              refine v_iload_n C dX0_makeAnew_76 0 rfl ?_
              refine v_aload_n C dX0_makeAnew_77 2 rfl ?_
              refine v_iload_n C dX0_makeAnew_78 0 rfl ?_
              refine v_iconst C 0 dX0_makeAnew_79 (by decide) ?_
              refine v_callRi C l_X0_62 (m_X3_toldOfCase a (3 + 3 * nj) c 0 (nI (3 + 3 * nj + 4 * nc)) tc (by omega)) (by decide) dX0_makeAnew_80 [6, 7] rfl 6 rfl rfl rfl (rest := [.int (nI c), .ref (a 22)]) rfl (Nat.le_of_ble_eq_true rfl) (by decide) (fun r13 h14 => ?_)
              subst h14
              refine v_iastN C [oK a (tmF tc) (nI nj) (nI nc) la sw sk rd, ia (a 20) cI 5 (tbF (vKd tc) kd nj), ia (a 21) cI 5 (tbF (vAg tc) ag nj), ia (a 22) cI 5 (upd (tbF (vCa tc (3 + 3 * nj) 0) de c) c (tc ((3 + 3 * nj) + 4 * c + 1 + 0) - 48)), ia (a 23) cI 5 (tbF (vCa tc (3 + 3 * nj) 1) ta c), ia (a 24) cI 5 (tbF (vCa tc (3 + 3 * nj) 2) we c), oX a (nI (3 + 3 * nj + 4 * nc)) (nI (3 + 3 * nj)), ia (a 6) cI 60 tc] dX0_makeAnew_83 3 rfl c rfl (by omega) (by decide) rfl ?_
              refine v_ws0 [oK a (tmF tc) (nI nj) (nI nc) la sw sk rd, ia (a 20) cI 5 (tbF (vKd tc) kd nj), ia (a 21) cI 5 (tbF (vAg tc) ag nj), ia (a 22) cI 5 (tbF (vCa tc (3 + 3 * nj) 0) de (c + 1)), ia (a 23) cI 5 (tbF (vCa tc (3 + 3 * nj) 1) ta c), ia (a 24) cI 5 (tbF (vCa tc (3 + 3 * nj) 2) we c), oX a (nI (3 + 3 * nj + 4 * nc)) (nI (3 + 3 * nj)), ia (a 6) cI 60 tc] (by rw [← tbF_s (vCa tc (3 + 3 * nj) 0)]; rfl) ?_
              refine v_aload_n C dX0_makeAnew_84 1 rfl ?_
              refine v_get C f_X0_21 dX0_makeAnew_85 0 rfl rfl ?_
              refine v_iload_n C dX0_makeAnew_88 0 rfl ?_
              refine v_aload_n C dX0_makeAnew_89 2 rfl ?_
              refine v_iload_n C dX0_makeAnew_90 0 rfl ?_
              refine v_iconst C 1 dX0_makeAnew_91 (by decide) ?_
              refine v_callRi C l_X0_62 (m_X3_toldOfCase a (3 + 3 * nj) c 1 (nI (3 + 3 * nj + 4 * nc)) tc (by omega)) (by decide) dX0_makeAnew_92 [6, 7] rfl 6 rfl rfl rfl (rest := [.int (nI c), .ref (a 23)]) rfl (Nat.le_of_ble_eq_true rfl) (by decide) (fun r15 h16 => ?_)
              subst h16
              refine v_iastN C [oK a (tmF tc) (nI nj) (nI nc) la sw sk rd, ia (a 20) cI 5 (tbF (vKd tc) kd nj), ia (a 21) cI 5 (tbF (vAg tc) ag nj), ia (a 22) cI 5 (tbF (vCa tc (3 + 3 * nj) 0) de (c + 1)), ia (a 23) cI 5 (upd (tbF (vCa tc (3 + 3 * nj) 1) ta c) c (tc ((3 + 3 * nj) + 4 * c + 1 + 1) - 48)), ia (a 24) cI 5 (tbF (vCa tc (3 + 3 * nj) 2) we c), oX a (nI (3 + 3 * nj + 4 * nc)) (nI (3 + 3 * nj)), ia (a 6) cI 60 tc] dX0_makeAnew_95 4 rfl c rfl (by omega) (by decide) rfl ?_
              refine v_ws0 [oK a (tmF tc) (nI nj) (nI nc) la sw sk rd, ia (a 20) cI 5 (tbF (vKd tc) kd nj), ia (a 21) cI 5 (tbF (vAg tc) ag nj), ia (a 22) cI 5 (tbF (vCa tc (3 + 3 * nj) 0) de (c + 1)), ia (a 23) cI 5 (tbF (vCa tc (3 + 3 * nj) 1) ta (c + 1)), ia (a 24) cI 5 (tbF (vCa tc (3 + 3 * nj) 2) we c), oX a (nI (3 + 3 * nj + 4 * nc)) (nI (3 + 3 * nj)), ia (a 6) cI 60 tc] (by rw [← tbF_s (vCa tc (3 + 3 * nj) 1)]; rfl) ?_
              refine v_aload_n C dX0_makeAnew_96 1 rfl ?_
              refine v_get C f_X0_24 dX0_makeAnew_97 0 rfl rfl ?_
              refine v_iload_n C dX0_makeAnew_100 0 rfl ?_
              refine v_aload_n C dX0_makeAnew_101 2 rfl ?_
              refine v_iload_n C dX0_makeAnew_102 0 rfl ?_
              refine v_iconst C 2 dX0_makeAnew_103 (by decide) ?_
              refine v_callRi C l_X0_62 (m_X3_toldOfCase a (3 + 3 * nj) c 2 (nI (3 + 3 * nj + 4 * nc)) tc (by omega)) (by decide) dX0_makeAnew_104 [6, 7] rfl 6 rfl rfl rfl (rest := [.int (nI c), .ref (a 24)]) rfl (Nat.le_of_ble_eq_true rfl) (by decide) (fun r17 h18 => ?_)
              subst h18
              refine v_iastN C [oK a (tmF tc) (nI nj) (nI nc) la sw sk rd, ia (a 20) cI 5 (tbF (vKd tc) kd nj), ia (a 21) cI 5 (tbF (vAg tc) ag nj), ia (a 22) cI 5 (tbF (vCa tc (3 + 3 * nj) 0) de (c + 1)), ia (a 23) cI 5 (tbF (vCa tc (3 + 3 * nj) 1) ta (c + 1)), ia (a 24) cI 5 (upd (tbF (vCa tc (3 + 3 * nj) 2) we c) c (tc ((3 + 3 * nj) + 4 * c + 1 + 2) - 48)), oX a (nI (3 + 3 * nj + 4 * nc)) (nI (3 + 3 * nj)), ia (a 6) cI 60 tc] dX0_makeAnew_107 5 rfl c rfl (by omega) (by decide) rfl ?_
              refine v_ws0 [oK a (tmF tc) (nI nj) (nI nc) la sw sk rd, ia (a 20) cI 5 (tbF (vKd tc) kd nj), ia (a 21) cI 5 (tbF (vAg tc) ag nj), ia (a 22) cI 5 (tbF (vCa tc (3 + 3 * nj) 0) de (c + 1)), ia (a 23) cI 5 (tbF (vCa tc (3 + 3 * nj) 1) ta (c + 1)), ia (a 24) cI 5 (tbF (vCa tc (3 + 3 * nj) 2) we (c + 1)), oX a (nI (3 + 3 * nj + 4 * nc)) (nI (3 + 3 * nj)), ia (a 6) cI 60 tc] (by rw [← tbF_s (vCa tc (3 + 3 * nj) 2)]; rfl) ?_
              refine v_iinc C (nI (c + 1)) [(2, .int (nI (c + 1))), (0, .ref (a 3)), (1, .ref (a 2))] 0 dX0_makeAnew_108 rfl (nI_inc _) (by decide) rfl ?_
              refine v_goto C 64 dX0_makeAnew_111 (by decide) ?_
              exact ihn_11 (c + 1) (by omega) (by omega)
        exact lq (nc - 0 + 1) 0 (by omega) (by omega)
      · have nc7 : j < nj := nI_ltD c7 (by omega)
        refine v_aload_n C dX0_makeAnew_26 1 rfl ?_
        refine v_get C f_X0_9 dX0_makeAnew_27 0 rfl rfl ?_
        refine v_iload_n C dX0_makeAnew_30 0 rfl ?_
        refine v_aload_n C dX0_makeAnew_31 2 rfl ?_
        refine v_iload_n C dX0_makeAnew_32 0 rfl ?_
        refine v_callRi C l_X0_52 (m_X3_toldKind a j (nI (3 + 3 * nj + 4 * nc)) (nI (3 + 3 * nj)) tc (by omega)) (by decide) dX0_makeAnew_33 [6, 7] rfl 6 rfl rfl rfl (rest := [.int (nI j), .ref (a 20)]) rfl (Nat.le_of_ble_eq_true rfl) (by decide) (fun r19 h20 => ?_)
        subst h20
        refine v_iastN C [oK a (tmF tc) (nI nj) ca la sw sk rd, ia (a 20) cI 5 (upd (tbF (vKd tc) kd j) j (kdF (tc (3 + 3 * j + 1)))), ia (a 21) cI 5 (tbF (vAg tc) ag j), ia (a 22) cI 5 de, ia (a 23) cI 5 ta, ia (a 24) cI 5 we, oX a (nI (3 + 3 * nj + 4 * nc)) (nI (3 + 3 * nj)), ia (a 6) cI 60 tc] dX0_makeAnew_36 1 rfl j rfl (by omega) (by decide) rfl ?_
        refine v_ws0 [oK a (tmF tc) (nI nj) ca la sw sk rd, ia (a 20) cI 5 (tbF (vKd tc) kd (j + 1)), ia (a 21) cI 5 (tbF (vAg tc) ag j), ia (a 22) cI 5 de, ia (a 23) cI 5 ta, ia (a 24) cI 5 we, oX a (nI (3 + 3 * nj + 4 * nc)) (nI (3 + 3 * nj)), ia (a 6) cI 60 tc] (by rw [← tbF_s (vKd tc)]; rfl) ?_
        refine v_aload_n C dX0_makeAnew_37 1 rfl ?_
        refine v_get C f_X0_15 dX0_makeAnew_38 0 rfl rfl ?_
        refine v_iload_n C dX0_makeAnew_41 0 rfl ?_
        refine v_aload_n C dX0_makeAnew_42 2 rfl ?_
        refine v_iload_n C dX0_makeAnew_43 0 rfl ?_
        refine v_callRi C l_X0_56 (m_X3_toldAge a j (nI (3 + 3 * nj + 4 * nc)) (nI (3 + 3 * nj)) tc (by omega)) (by decide) dX0_makeAnew_44 [6, 7] rfl 6 rfl rfl rfl (rest := [.int (nI j), .ref (a 21)]) rfl (Nat.le_of_ble_eq_true rfl) (by decide) (fun r21 h22 => ?_)
        subst h22
        refine v_iastN C [oK a (tmF tc) (nI nj) ca la sw sk rd, ia (a 20) cI 5 (tbF (vKd tc) kd (j + 1)), ia (a 21) cI 5 (upd (tbF (vAg tc) ag j) j (tc (3 + 3 * j + 2) - 48)), ia (a 22) cI 5 de, ia (a 23) cI 5 ta, ia (a 24) cI 5 we, oX a (nI (3 + 3 * nj + 4 * nc)) (nI (3 + 3 * nj)), ia (a 6) cI 60 tc] dX0_makeAnew_47 2 rfl j rfl (by omega) (by decide) rfl ?_
        refine v_ws0 [oK a (tmF tc) (nI nj) ca la sw sk rd, ia (a 20) cI 5 (tbF (vKd tc) kd (j + 1)), ia (a 21) cI 5 (tbF (vAg tc) ag (j + 1)), ia (a 22) cI 5 de, ia (a 23) cI 5 ta, ia (a 24) cI 5 we, oX a (nI (3 + 3 * nj + 4 * nc)) (nI (3 + 3 * nj)), ia (a 6) cI 60 tc] (by rw [← tbF_s (vAg tc)]; rfl) ?_
        refine v_iinc C (nI (j + 1)) [(2, .int (nI (j + 1))), (0, .ref (a 3)), (1, .ref (a 2))] 0 dX0_makeAnew_48 rfl (nI_inc _) (by decide) rfl ?_
        refine v_goto C 18 dX0_makeAnew_51 (by decide) ?_
        exact ihn_6 (j + 1) (by omega) (by omega)
  exact lp (nj - 0 + 1) 0 (by omega) (by omega)
set_option maxHeartbeats 4000000 in
set_option maxRecDepth 100000 in
theorem m_X4_faulty {l : Launch} {D : va_G} {cI cB cS : ClassId} (a : Nat → Nat) (tr : Int32) (fa : Int32) (x : Int32) : Mi l yX4_faulty cX4_faulty 2 (some .int) 0 0 D cI cB cS [.ref (a 0), .int x] [oC a tr fa] (fun r w => r = (-10) - x ∧ w = [oC a tr x]) := by
  refine Mi.of (by decide) (Nat.le_of_ble_eq_true rfl) ?_
  intro zp ze zs zm zb zt zc zz zA hA C hnm
  refine v_lv0 [(0, .ref (a 0)), (1, .int x)] rfl ?_
  refine v_aload_n C dX4_faulty_0 0 rfl ?_
  refine v_iload_n C dX4_faulty_1 1 rfl ?_
  refine v_put C p_X4_45 [oC a tr x] dX4_faulty_2 0 rfl rfl rfl (Nat.le_of_ble_eq_true rfl) rfl ?_
  refine v_bipush C (-10) dX4_faulty_5 (by decide) ?_
  refine v_iload_n C dX4_faulty_7 1 rfl ?_
  refine v_isub C dX4_faulty_8 ?_
  exact v_reti C hA dX4_faulty_9 rfl (⟨rfl, rfl⟩)
set_option maxHeartbeats 4000000 in
set_option maxRecDepth 100000 in
theorem m_X4_leaveInTrace {l : Launch} {D : va_G} {cI cB cS : ClassId} (a : Nat → Nat) (tr : Int32) (fa : Int32) (x : Int32) : Mv l yX4_leaveInTrace cX4_leaveInTrace 2 0 0 D cI cB cS [.ref (a 0), .int x] [oC a tr fa] (fun w => w = [oC a (31 * tr + x) fa]) := by
  refine Mv.of (by decide) (Nat.le_of_ble_eq_true rfl) ?_
  intro zp ze zs zm zb zt zc zz zA hA C hnm
  refine v_lv0 [(0, .ref (a 0)), (1, .int x)] rfl ?_
  refine v_aload_n C dX4_leaveInTrace_0 0 rfl ?_
  refine v_bipush C 31 dX4_leaveInTrace_1 (by decide) ?_
  refine v_aload_n C dX4_leaveInTrace_3 0 rfl ?_
  refine v_get C f_X4_227 dX4_leaveInTrace_4 0 rfl rfl ?_
  refine v_imul C dX4_leaveInTrace_7 ?_
  refine v_iload_n C dX4_leaveInTrace_8 1 rfl ?_
  refine v_iadd C dX4_leaveInTrace_9 ?_
  refine v_put C p_X4_227 [oC a ((31 * tr) + x) fa] dX4_leaveInTrace_10 0 rfl rfl rfl (Nat.le_of_ble_eq_true rfl) rfl ?_
  exact v_retv C hA dX4_leaveInTrace_13 (rfl)
set_option maxHeartbeats 4000000 in
set_option maxRecDepth 100000 in
theorem m_X4_childTelling {l : Launch} {D : va_G} {cI cB cS : ClassId} (a : Nat → Nat) (j : Nat) (tr : Int32) (fa : Int32) (si : Int32) (ju : Int32) (ca : Int32) (la : Int32) (sw : Int32) (sk : Int32) (rd : Int32) (ag : Nat → Int32) (hj : j < 5) : Mi l yX4_childTelling cX4_childTelling 2 (some .int) 1 21 D cI cB cS [.ref (a 0), .int (nI j)] [oC a tr fa, oK a si ju ca la sw sk rd, ia (a 21) cI 5 ag] (fun r w => r = ag j ∧ w = [oC a (31 * tr + 1) fa, oK a si ju ca la sw sk rd, ia (a 21) cI 5 ag]) := by
  refine Mi.of (by decide) (Nat.le_of_ble_eq_true rfl) ?_
  intro zp ze zs zm zb zt zc zz zA hA C hnm
  refine v_lv0 [(0, .ref (a 0)), (1, .int (nI j))] rfl ?_
  refine v_aload_n C dX4_childTelling_0 0 rfl ?_
  refine v_iconst C 1 dX4_childTelling_1 (by decide) ?_
  refine v_callMv C l_X4_223 (m_X4_leaveInTrace a tr fa 1) (by decide) dX4_childTelling_2 [0] [1, 2] (wr := [oK a si ju ca la sw sk rd, ia (a 21) cI 5 ag]) (by decide) rfl rfl (by decide) (by decide) 0 rfl rfl rfl (rest := []) rfl (Nat.le_of_ble_eq_true rfl) (by decide) (fun w1 h2 => ?_)
  subst h2
  refine v_ws0 [oK a si ju ca la sw sk rd, ia (a 21) cI 5 ag, oC a (31 * tr + (1 : Int32)) fa] rfl ?_
  refine v_aload_n C dX4_childTelling_5 0 rfl ?_
  refine v_get C f_X4_27 dX4_childTelling_6 2 rfl rfl ?_
  refine v_get C f_X4_81 dX4_childTelling_9 0 rfl rfl ?_
  refine v_iload_n C dX4_childTelling_12 1 rfl ?_
  refine v_ialdN C dX4_childTelling_13 1 rfl j rfl (by omega) (by decide) ?_
  refine v_perm (ws' := [oC a (31 * tr + (1 : Int32)) fa, oK a si ju ca la sw sk rd, ia (a 21) cI 5 ag]) [2, 0, 1] (by decide) rfl ?_
  exact v_reti C hA dX4_childTelling_14 rfl (⟨rfl, rfl⟩)
set_option maxHeartbeats 4000000 in
set_option maxRecDepth 100000 in
theorem m_X4_hungryTelling {l : Launch} {D : va_G} {cI cB cS : ClassId} (a : Nat → Nat) (j : Nat) (tr : Int32) (fa : Int32) (si : Int32) (ju : Int32) (ca : Int32) (la : Int32) (sw : Int32) (sk : Int32) (rd : Int32) (ag : Nat → Int32) (hj : j < 5) : Mi l yX4_hungryTelling cX4_hungryTelling 2 (some .int) 2 42 D cI cB cS [.ref (a 0), .int (nI j)] [oC a tr fa, oK a si ju ca la sw sk rd, ia (a 21) cI 5 ag] (fun r w => r = ag j + 100 ∧ w = [oC a (31 * (31 * tr + 2) + 1) fa, oK a si ju ca la sw sk rd, ia (a 21) cI 5 ag]) := by
  refine Mi.of (by decide) (Nat.le_of_ble_eq_true rfl) ?_
  intro zp ze zs zm zb zt zc zz zA hA C hnm
  refine v_lv0 [(0, .ref (a 0)), (1, .int (nI j))] rfl ?_
  refine v_aload_n C dX4_hungryTelling_0 0 rfl ?_
  refine v_iconst C 2 dX4_hungryTelling_1 (by decide) ?_
  refine v_callMv C l_X4_223 (m_X4_leaveInTrace a tr fa 2) (by decide) dX4_hungryTelling_2 [0] [1, 2] (wr := [oK a si ju ca la sw sk rd, ia (a 21) cI 5 ag]) (by decide) rfl rfl (by decide) (by decide) 0 rfl rfl rfl (rest := []) rfl (Nat.le_of_ble_eq_true rfl) (by decide) (fun w1 h2 => ?_)
  subst h2
  refine v_ws0 [oK a si ju ca la sw sk rd, ia (a 21) cI 5 ag, oC a (31 * tr + (2 : Int32)) fa] rfl ?_
  refine v_aload_n C dX4_hungryTelling_5 0 rfl ?_
  refine v_iload_n C dX4_hungryTelling_6 1 rfl ?_
  refine v_callMi C l_X4_220 (m_X4_childTelling a j (31 * tr + (2 : Int32)) fa si ju ca la sw sk rd ag hj) (by decide) dX4_hungryTelling_7 [2, 0, 1] [] (wr := []) (by decide) rfl rfl (by decide) (by decide) 2 rfl rfl rfl (rest := []) rfl (Nat.le_of_ble_eq_true rfl) (by decide) (fun r6 w4 h5 => ?_)
  obtain ⟨rfl, rfl⟩ := h5
  refine v_ws0 [oC a (31 * (31 * tr + (2 : Int32)) + 1) fa, oK a si ju ca la sw sk rd, ia (a 21) cI 5 ag] rfl ?_
  refine v_bipush C 100 dX4_hungryTelling_10 (by decide) ?_
  refine v_iadd C dX4_hungryTelling_12 ?_
  exact v_reti C hA dX4_hungryTelling_13 rfl (⟨rfl, rfl⟩)
set_option maxHeartbeats 4000000 in
set_option maxRecDepth 100000 in
theorem m_X4_sweetTelling {l : Launch} {D : va_G} {cI cB cS : ClassId} (a : Nat → Nat) (j : Nat) (tr : Int32) (fa : Int32) (si : Int32) (ju : Int32) (ca : Int32) (la : Int32) (sw : Int32) (sk : Int32) (rd : Int32) (ag : Nat → Int32) (hj : j < 5) : Mi l yX4_sweetTelling cX4_sweetTelling 2 (some .int) 3 63 D cI cB cS [.ref (a 0), .int (nI j)] [oC a tr fa, oK a si ju ca la sw sk rd, ia (a 21) cI 5 ag] (fun r w => r = ag j + 100 + ag j ∧ w = [oC a (31 * (31 * (31 * (31 * tr + 3) + 2) + 1) + 1) fa, oK a si ju ca la sw sk rd, ia (a 21) cI 5 ag]) := by
  refine Mi.of (by decide) (Nat.le_of_ble_eq_true rfl) ?_
  intro zp ze zs zm zb zt zc zz zA hA C hnm
  refine v_lv0 [(0, .ref (a 0)), (1, .int (nI j))] rfl ?_
  refine v_aload_n C dX4_sweetTelling_0 0 rfl ?_
  refine v_iconst C 3 dX4_sweetTelling_1 (by decide) ?_
  refine v_callMv C l_X4_223 (m_X4_leaveInTrace a tr fa 3) (by decide) dX4_sweetTelling_2 [0] [1, 2] (wr := [oK a si ju ca la sw sk rd, ia (a 21) cI 5 ag]) (by decide) rfl rfl (by decide) (by decide) 0 rfl rfl rfl (rest := []) rfl (Nat.le_of_ble_eq_true rfl) (by decide) (fun w1 h2 => ?_)
  subst h2
  refine v_ws0 [oK a si ju ca la sw sk rd, ia (a 21) cI 5 ag, oC a (31 * tr + (3 : Int32)) fa] rfl ?_
  refine v_aload_n C dX4_sweetTelling_5 0 rfl ?_
  refine v_iload_n C dX4_sweetTelling_6 1 rfl ?_
  refine v_callMi C l_X4_217 (m_X4_hungryTelling a j (31 * tr + (3 : Int32)) fa si ju ca la sw sk rd ag hj) (by decide) dX4_sweetTelling_7 [2, 0, 1] [] (wr := []) (by decide) rfl rfl (by decide) (by decide) 2 rfl rfl rfl (rest := []) rfl (Nat.le_of_ble_eq_true rfl) (by decide) (fun r6 w4 h5 => ?_)
  obtain ⟨rfl, rfl⟩ := h5
  refine v_ws0 [oC a (31 * (31 * (31 * tr + (3 : Int32)) + 2) + 1) fa, oK a si ju ca la sw sk rd, ia (a 21) cI 5 ag] rfl ?_
  refine v_aload_n C dX4_sweetTelling_10 0 rfl ?_
  refine v_iload_n C dX4_sweetTelling_11 1 rfl ?_
  refine v_callMi C l_X4_220 (m_X4_childTelling a j (31 * (31 * (31 * tr + (3 : Int32)) + 2) + 1) fa si ju ca la sw sk rd ag hj) (by decide) dX4_sweetTelling_12 [0, 1, 2] [] (wr := []) (by decide) rfl rfl (by decide) (by decide) 0 rfl rfl rfl (rest := [.int (ag j + 100)]) rfl (Nat.le_of_ble_eq_true rfl) (by decide) (fun r9 w7 h8 => ?_)
  obtain ⟨rfl, rfl⟩ := h8
  refine v_ws0 [oC a (31 * (31 * (31 * (31 * tr + (3 : Int32)) + 2) + 1) + 1) fa, oK a si ju ca la sw sk rd, ia (a 21) cI 5 ag] rfl ?_
  refine v_iadd C dX4_sweetTelling_15 ?_
  exact v_reti C hA dX4_sweetTelling_16 rfl (⟨rfl, rfl⟩)
set_option maxHeartbeats 4000000 in
set_option maxRecDepth 100000 in
theorem m_X4_prepareByNumbers {l : Launch} {D : va_G} {cI cB cS : ClassId} (a : Nat → Nat) (nc : Nat) (tr : Int32) (fa : Int32) (si : Int32) (ju : Int32) (la : Int32) (sw : Int32) (sk : Int32) (rd : Int32) (kd : Nat → Int32) (ln : Int32) (lw : Int32) (ss : Int32) (sx : Int32) (un : Int32) (en : Int32) (se : Int32) (tk : Nat → Int32) (od : Nat → Int32) (hnc : nc ≤ 5) : Mv l yX4_prepareByNumbers cX4_prepareByNumbers 2 2 46 D cI cB cS [.ref (a 0)] [oC a tr fa, oK a si ju (nI nc) la sw sk rd, ia (a 20) cI 5 kd, oT a ln lw ss sx un en se, ia (a 31) cI 5 tk, ia (a 32) cI 5 od] (fun w => w = [oC a tr fa, oK a si ju (nI nc) la sw sk rd, ia (a 20) cI 5 kd, oT a (nI nc) la sw sk sw en se, ia (a 31) cI 5 kd, ia (a 32) cI 5 (tbF nI od nc)]) := by
  refine Mv.of (by decide) (Nat.le_of_ble_eq_true rfl) ?_
  intro zp ze zs zm zb zt zc zz zA hA C hnm
  refine v_lv0 [(0, .ref (a 0))] rfl ?_
  refine v_aload_n C dX4_prepareByNumbers_0 0 rfl ?_
  refine v_get C f_X4_36 dX4_prepareByNumbers_1 0 rfl rfl ?_
  refine v_callMv C l_X4_136 (m_X2_prepare a ln lw ss sx un en se tk si ju (nI nc) la sw sk rd kd) (by decide) dX4_prepareByNumbers_4 [3, 4, 1, 2] [0, 5] (wr := [oC a tr fa, ia (a 32) cI 5 od]) (by decide) rfl rfl (by decide) (by decide) 3 rfl rfl rfl (rest := []) rfl (Nat.le_of_ble_eq_true rfl) (by decide) (fun w1 h2 => ?_)
  subst h2
  refine v_ws0 [oC a tr fa, ia (a 32) cI 5 od, oT a 0 la sw sk sw en se, ia (a 31) cI 5 kd, oK a si ju (nI nc) la sw sk rd, ia (a 20) cI 5 kd] rfl ?_
  refine v_iconst C 0 dX4_prepareByNumbers_7 (by decide) ?_
  refine v_istore_n C [(1, .int 0), (0, .ref (a 0))] dX4_prepareByNumbers_8 (by decide) rfl ?_
  refine v_perm (ws' := [oC a tr fa, oK a si ju (nI nc) la sw sk rd, ia (a 20) cI 5 kd, oT a (nI 0) la sw sk sw en se, ia (a 31) cI 5 kd, ia (a 32) cI 5 (tbF nI od 0)]) [0, 4, 5, 2, 3, 1] (by decide) rfl ?_
  refine v_ws0 [oC a tr fa, oK a si ju (nI nc) la sw sk rd, ia (a 20) cI 5 kd, oT a (nI 0) la sw sk sw en se, ia (a 31) cI 5 kd, ia (a 32) cI 5 (tbF nI od 0)] (by rw [tbF_0] <;> rfl) ?_
  have lp : ∀ (n_5 : Nat) (c : Nat), nc - c < n_5 → (c ≤ nc) → V zp l ze (rmOf 2 46) zs zm [.ref (a 0)].toArray zb zt zc D (IM zA zs) (QMv zb [.ref (a 0)].toArray zs D cI cB cS [oC a tr fa, oK a si ju (nI nc) la sw sk rd, ia (a 20) cI 5 kd, oT a ln lw ss sx un en se, ia (a 31) cI 5 tk, ia (a 32) cI 5 od] zz (fun w => w = [oC a tr fa, oK a si ju (nI nc) la sw sk rd, ia (a 20) cI 5 kd, oT a (nI nc) la sw sk sw en se, ia (a 31) cI 5 kd, ia (a 32) cI 5 (tbF nI od nc)])) 0 0 2 [oC a tr fa, oK a si ju (nI nc) la sw sk rd, ia (a 20) cI 5 kd, oT a (nI c) la sw sk sw en se, ia (a 31) cI 5 kd, ia (a 32) cI 5 (tbF nI od c)] [(1, .int (nI c)), (0, .ref (a 0))] 9 [] := by
    intro n_5
    induction n_5 with
    | zero => intro c b4; exact absurd b4 (by omega)
    | succ n_5 ihn_5 =>
      intro c b4 hc
      refine v_iload_n C dX4_prepareByNumbers_9 0 rfl ?_
      refine v_aload_n C dX4_prepareByNumbers_10 1 rfl ?_
      refine v_get C f_X4_27 dX4_prepareByNumbers_11 0 rfl rfl ?_
      refine v_get C f_X4_72 dX4_prepareByNumbers_14 1 rfl rfl ?_
      refine v_icmp_ge C 34 dX4_prepareByNumbers_17 (by decide) (fun c6 => ?_) (fun c6 => ?_)
      · have nc6 : nc ≤ c := nI_leD c6 (by omega)
        have hce : c = nc := by omega
        refine v_ws0 [oC a tr fa, oK a si ju (nI nc) la sw sk rd, ia (a 20) cI 5 kd, oT a (nI nc) la sw sk sw en se, ia (a 31) cI 5 kd, ia (a 32) cI 5 (tbF nI od nc)] (by rw [hce]) ?_
        exact v_retv C hA dX4_prepareByNumbers_34 (rfl)
      · have nc6 : c < nc := nI_ltD c6 (by omega)
        refine v_aload_n C dX4_prepareByNumbers_20 1 rfl ?_
        refine v_get C f_X4_36 dX4_prepareByNumbers_21 0 rfl rfl ?_
        refine v_iload_n C dX4_prepareByNumbers_24 0 rfl ?_
        refine v_callMv C l_X4_235 (m_X2_addToOrder a c la sw sk sw en se (tbF nI od c) (nI c) (by omega)) (by decide) dX4_prepareByNumbers_25 [3, 5] [0, 1, 2, 4] (wr := [oC a tr fa, oK a si ju (nI nc) la sw sk rd, ia (a 20) cI 5 kd, ia (a 31) cI 5 kd]) (by decide) rfl rfl (by decide) (by decide) 3 rfl rfl rfl (rest := []) rfl (Nat.le_of_ble_eq_true rfl) (by decide) (fun w7 h8 => ?_)
        subst h8
        refine v_ws0 [oC a tr fa, oK a si ju (nI nc) la sw sk rd, ia (a 20) cI 5 kd, ia (a 31) cI 5 kd, oT a (nI (c + 1)) la sw sk sw en se, ia (a 32) cI 5 (upd (tbF nI od c) c (nI c))] rfl ?_
        refine v_ws0 [oC a tr fa, oK a si ju (nI nc) la sw sk rd, ia (a 20) cI 5 kd, ia (a 31) cI 5 kd, oT a (nI (c + 1)) la sw sk sw en se, ia (a 32) cI 5 (tbF nI od (c + 1))] (by rw [← tbF_s nI]) ?_
        refine v_iinc C (nI (c + 1)) [(1, .int (nI (c + 1))), (0, .ref (a 0))] 0 dX4_prepareByNumbers_28 rfl (nI_inc _) (by decide) rfl ?_
        refine v_goto C 9 dX4_prepareByNumbers_31 (by decide) ?_
        refine v_perm (ws' := [oC a tr fa, oK a si ju (nI nc) la sw sk rd, ia (a 20) cI 5 kd, oT a (nI (c + 1)) la sw sk sw en se, ia (a 31) cI 5 kd, ia (a 32) cI 5 (tbF nI od (c + 1))]) [0, 1, 2, 4, 3, 5] (by decide) rfl ?_
        exact ihn_5 (c + 1) (by omega) (by omega)
  exact lp (nc - 0 + 1) 0 (by omega) (by omega)
end
section
set_option maxHeartbeats 4000000 in
set_option maxRecDepth 100000 in
theorem m_X4_sentencedIfStruck {l : Launch} {D : va_G} {cI cB cS : ClassId} (a : Nat → Nat) (x s0 lw nj L nc : Nat) (o dn : Nat → Nat) (tr : Int32) (fa : Int32) (sx : Int32) (un : Int32) (en : Int32) (se : Int32) (tk : Nat → Int32) (od : Nat → Int32) (ve : Nat → Int32) (vd : Nat → Int32) (si : Int32) (ca : Int32) (la : Int32) (sw : Int32) (sk : Int32) (rd : Int32) (ag : Nat → Int32) (de : Nat → Int32) (ta : Nat → Int32) (we : Nat → Int32) (hst : x < 32) (hnj : nj ≤ 5) (hlw : lw < 64) (hp5 : 2 ^ nj ≤ 32) (hs0 : s0 < 2 ^ nj) (hL : L ≤ 5) (hnc : nc ≤ 5) (ho : ∀ p, p < L → od p = nI (o p) ∧ o p < nc) (hde : ∀ c, c < nc → de c = nI (dn c) ∧ dn c < 6) : Mi l yX4_sentencedIfStruck cX4_sentencedIfStruck 2 (some .int) 4 98 D cI cB cS [.ref (a 0), .int (nI x)] [oC a tr fa, oT a (nI L) (nI lw) (nI s0) sx un en se, ia (a 31) cI 5 tk, ia (a 32) cI 5 od, ia (a 33) cI 5 ve, ia (a 34) cI 6 vd, oK a si (nI nj) ca la sw sk rd, ia (a 21) cI 5 ag, ia (a 22) cI 5 de, ia (a 23) cI 5 ta, ia (a 24) cI 5 we] (fun r w => r = (sitS nj tk ag x lw dn ta we si s0 o L).2.2.2.2.1 ∧ w = [oC a tr fa, oT a (nI L) (nI lw) (nI s0) (nI x) (nI (sitS nj tk ag x lw dn ta we si s0 o L).2.2.1) ((sitS nj tk ag x lw dn ta we si s0 o L).2.2.2.1) ((sitS nj tk ag x lw dn ta we si s0 o L).2.2.2.2.1), ia (a 31) cI 5 tk, ia (a 32) cI 5 od, ia (a 33) cI 5 ((sitS nj tk ag x lw dn ta we si s0 o L).1), ia (a 34) cI 6 ((sitS nj tk ag x lw dn ta we si s0 o L).2.1), oK a si (nI nj) ca la sw sk rd, ia (a 21) cI 5 ag, ia (a 22) cI 5 de, ia (a 23) cI 5 ta, ia (a 24) cI 5 we]) := by
  refine Mi.of (by decide) (Nat.le_of_ble_eq_true rfl) ?_
  intro zp ze zs zm zb zt zc zz zA hA C hnm
  refine v_lv0 [(0, .ref (a 0)), (1, .int (nI x))] rfl ?_
  refine v_aload_n C dX4_sentencedIfStruck_0 0 rfl ?_
  refine v_get C f_X4_36 dX4_sentencedIfStruck_1 0 rfl rfl ?_
  refine v_iload_n C dX4_sentencedIfStruck_4 1 rfl ?_
  refine v_put C p_X4_181 [oC a tr fa, oT a (nI L) (nI lw) (nI s0) (nI x) un en se, ia (a 31) cI 5 tk, ia (a 32) cI 5 od, ia (a 33) cI 5 ve, ia (a 34) cI 6 vd, oK a si (nI nj) ca la sw sk rd, ia (a 21) cI 5 ag, ia (a 22) cI 5 de, ia (a 23) cI 5 ta, ia (a 24) cI 5 we] dX4_sentencedIfStruck_5 1 rfl rfl rfl (Nat.le_of_ble_eq_true rfl) rfl ?_
  refine v_aload_n C dX4_sentencedIfStruck_8 0 rfl ?_
  refine v_get C f_X4_36 dX4_sentencedIfStruck_9 0 rfl rfl ?_
  refine v_callMv C l_X4_124 (m_X2_hold a s0 x lw nj L nc o dn un en se tk od ve vd si ca la sw sk rd ag de ta we (by assumption) (by assumption) (by assumption) (by assumption) (by assumption) (by assumption) (by assumption) (by assumption) (by assumption)) (by decide) dX4_sentencedIfStruck_12 [1, 2, 3, 4, 5, 6, 7, 8, 9, 10] [0] (wr := [oC a tr fa]) (by decide) rfl rfl (by decide) (by decide) 1 rfl rfl rfl (rest := []) rfl (Nat.le_of_ble_eq_true rfl) (by decide) (fun w1 h2 => ?_)
  subst h2
  refine v_ws0 [oC a tr fa, oT a (nI L) (nI lw) (nI s0) (nI x) (nI (sitS nj tk ag x lw dn ta we si s0 o L).2.2.1) ((sitS nj tk ag x lw dn ta we si s0 o L).2.2.2.1) ((sitS nj tk ag x lw dn ta we si s0 o L).2.2.2.2.1), ia (a 31) cI 5 tk, ia (a 32) cI 5 od, ia (a 33) cI 5 ((sitS nj tk ag x lw dn ta we si s0 o L).1), ia (a 34) cI 6 ((sitS nj tk ag x lw dn ta we si s0 o L).2.1), oK a si (nI nj) ca la sw sk rd, ia (a 21) cI 5 ag, ia (a 22) cI 5 de, ia (a 23) cI 5 ta, ia (a 24) cI 5 we] rfl ?_
  refine v_aload_n C dX4_sentencedIfStruck_15 0 rfl ?_
  refine v_get C f_X4_36 dX4_sentencedIfStruck_16 0 rfl rfl ?_
  refine v_get C f_X4_130 dX4_sentencedIfStruck_19 1 rfl rfl ?_
  exact v_reti C hA dX4_sentencedIfStruck_22 rfl (⟨rfl, rfl⟩)
set_option maxHeartbeats 4000000 in
set_option maxRecDepth 100000 in
theorem m_X4_isAsRead {l : Launch} {D : va_G} {cI cB cS : ClassId} (a : Nat → Nat) (s0 st lw nj L nc nr : Nat) (o dn rn : Nat → Nat) (tr : Int32) (fa : Int32) (un : Int32) (en : Int32) (se : Int32) (tk : Nat → Int32) (od : Nat → Int32) (ve : Nat → Int32) (vd : Nat → Int32) (si : Int32) (ca : Int32) (la : Int32) (sw : Int32) (sk : Int32) (ag : Nat → Int32) (de : Nat → Int32) (ta : Nat → Int32) (we : Nat → Int32) (rC : Nat → Int32) (rH : Nat → Int32) (hnj : nj ≤ 5) (hst : st < 32) (hlw : lw < 64) (hp5 : 2 ^ nj ≤ 32) (hs0 : s0 < 2 ^ nj) (hL : L ≤ 5) (hnc : nc ≤ 5) (ho : ∀ p, p < L → od p = nI (o p) ∧ o p < nc) (hde : ∀ c, c < nc → de c = nI (dn c) ∧ dn c < 6) (hnr : nr ≤ 8) (hrc : ∀ q, q < nr → rC q = nI (rn q) ∧ rn q < nc) : Mi l yX4_isAsRead cX4_isAsRead 2 (some .boolean) 4 98 D cI cB cS [.ref (a 0)] [oC a tr fa, oT a (nI L) (nI lw) (nI s0) (nI st) un en se, ia (a 31) cI 5 tk, ia (a 32) cI 5 od, ia (a 33) cI 5 ve, ia (a 34) cI 6 vd, oK a si (nI nj) ca la sw sk (nI nr), ia (a 21) cI 5 ag, ia (a 22) cI 5 de, ia (a 23) cI 5 ta, ia (a 24) cI 5 we, ia (a 25) cI 8 rC, ia (a 26) cI 8 rH] (fun r w => r = bI (arB (sitS nj tk ag st lw dn ta we si s0 o L).1 rn rH nr = true) ∧ w = [oC a tr fa, oT a (nI L) (nI lw) (nI s0) (nI st) (nI (sitS nj tk ag st lw dn ta we si s0 o L).2.2.1) ((sitS nj tk ag st lw dn ta we si s0 o L).2.2.2.1) ((sitS nj tk ag st lw dn ta we si s0 o L).2.2.2.2.1), ia (a 31) cI 5 tk, ia (a 32) cI 5 od, ia (a 33) cI 5 ((sitS nj tk ag st lw dn ta we si s0 o L).1), ia (a 34) cI 6 ((sitS nj tk ag st lw dn ta we si s0 o L).2.1), oK a si (nI nj) ca la sw sk (nI nr), ia (a 21) cI 5 ag, ia (a 22) cI 5 de, ia (a 23) cI 5 ta, ia (a 24) cI 5 we, ia (a 25) cI 8 rC, ia (a 26) cI 8 rH]) := by
  refine Mi.of (by decide) (Nat.le_of_ble_eq_true rfl) ?_
  intro zp ze zs zm zb zt zc zz zA hA C hnm
  refine v_lv0 [(0, .ref (a 0))] rfl ?_
  refine v_aload_n C dX4_isAsRead_0 0 rfl ?_
  refine v_get C f_X4_36 dX4_isAsRead_1 0 rfl rfl ?_
  refine v_callMv C l_X4_124 (m_X2_hold a s0 st lw nj L nc o dn un en se tk od ve vd si ca la sw sk (nI nr) ag de ta we (by assumption) (by assumption) (by assumption) (by assumption) (by assumption) (by assumption) (by assumption) (by assumption) (by assumption)) (by decide) dX4_isAsRead_4 [1, 2, 3, 4, 5, 6, 7, 8, 9, 10] [0, 11, 12] (wr := [oC a tr fa, ia (a 25) cI 8 rC, ia (a 26) cI 8 rH]) (by decide) rfl rfl (by decide) (by decide) 1 rfl rfl rfl (rest := []) rfl (Nat.le_of_ble_eq_true rfl) (by decide) (fun w1 h2 => ?_)
  subst h2
  refine v_ws0 [oC a tr fa, ia (a 25) cI 8 rC, ia (a 26) cI 8 rH, oT a (nI L) (nI lw) (nI s0) (nI st) (nI (sitS nj tk ag st lw dn ta we si s0 o L).2.2.1) ((sitS nj tk ag st lw dn ta we si s0 o L).2.2.2.1) ((sitS nj tk ag st lw dn ta we si s0 o L).2.2.2.2.1), ia (a 31) cI 5 tk, ia (a 32) cI 5 od, ia (a 33) cI 5 ((sitS nj tk ag st lw dn ta we si s0 o L).1), ia (a 34) cI 6 ((sitS nj tk ag st lw dn ta we si s0 o L).2.1), oK a si (nI nj) ca la sw sk (nI nr), ia (a 21) cI 5 ag, ia (a 22) cI 5 de, ia (a 23) cI 5 ta, ia (a 24) cI 5 we] rfl ?_
  refine v_iconst C 0 dX4_isAsRead_7 (by decide) ?_
  refine v_istore_n C [(1, .int 0), (0, .ref (a 0))] dX4_isAsRead_8 (by decide) rfl ?_
  refine v_perm (ws' := [oC a tr fa, oT a (nI L) (nI lw) (nI s0) (nI st) (nI (sitS nj tk ag st lw dn ta we si s0 o L).2.2.1) ((sitS nj tk ag st lw dn ta we si s0 o L).2.2.2.1) ((sitS nj tk ag st lw dn ta we si s0 o L).2.2.2.2.1), ia (a 31) cI 5 tk, ia (a 32) cI 5 od, ia (a 33) cI 5 ((sitS nj tk ag st lw dn ta we si s0 o L).1), ia (a 34) cI 6 ((sitS nj tk ag st lw dn ta we si s0 o L).2.1), oK a si (nI nj) ca la sw sk (nI nr), ia (a 21) cI 5 ag, ia (a 22) cI 5 de, ia (a 23) cI 5 ta, ia (a 24) cI 5 we, ia (a 25) cI 8 rC, ia (a 26) cI 8 rH]) [0, 3, 4, 5, 6, 7, 8, 9, 10, 11, 12, 1, 2] (by decide) rfl ?_
  have lp : ∀ (n_5 : Nat) (q : Nat), nr - q < n_5 → (q ≤ nr) → (arB (sitS nj tk ag st lw dn ta we si s0 o L).1 rn rH q = true) → V zp l ze (rmOf 4 98) zs zm [.ref (a 0)].toArray zb zt zc D (IM zA zs) (QMi zb [.ref (a 0)].toArray zs D cI cB cS [oC a tr fa, oT a (nI L) (nI lw) (nI s0) (nI st) un en se, ia (a 31) cI 5 tk, ia (a 32) cI 5 od, ia (a 33) cI 5 ve, ia (a 34) cI 6 vd, oK a si (nI nj) ca la sw sk (nI nr), ia (a 21) cI 5 ag, ia (a 22) cI 5 de, ia (a 23) cI 5 ta, ia (a 24) cI 5 we, ia (a 25) cI 8 rC, ia (a 26) cI 8 rH] zz (fun r w => r = bI (arB (sitS nj tk ag st lw dn ta we si s0 o L).1 rn rH nr = true) ∧ w = [oC a tr fa, oT a (nI L) (nI lw) (nI s0) (nI st) (nI (sitS nj tk ag st lw dn ta we si s0 o L).2.2.1) ((sitS nj tk ag st lw dn ta we si s0 o L).2.2.2.1) ((sitS nj tk ag st lw dn ta we si s0 o L).2.2.2.2.1), ia (a 31) cI 5 tk, ia (a 32) cI 5 od, ia (a 33) cI 5 ((sitS nj tk ag st lw dn ta we si s0 o L).1), ia (a 34) cI 6 ((sitS nj tk ag st lw dn ta we si s0 o L).2.1), oK a si (nI nj) ca la sw sk (nI nr), ia (a 21) cI 5 ag, ia (a 22) cI 5 de, ia (a 23) cI 5 ta, ia (a 24) cI 5 we, ia (a 25) cI 8 rC, ia (a 26) cI 8 rH])) 0 0 2 [oC a tr fa, oT a (nI L) (nI lw) (nI s0) (nI st) (nI (sitS nj tk ag st lw dn ta we si s0 o L).2.2.1) ((sitS nj tk ag st lw dn ta we si s0 o L).2.2.2.1) ((sitS nj tk ag st lw dn ta we si s0 o L).2.2.2.2.1), ia (a 31) cI 5 tk, ia (a 32) cI 5 od, ia (a 33) cI 5 ((sitS nj tk ag st lw dn ta we si s0 o L).1), ia (a 34) cI 6 ((sitS nj tk ag st lw dn ta we si s0 o L).2.1), oK a si (nI nj) ca la sw sk (nI nr), ia (a 21) cI 5 ag, ia (a 22) cI 5 de, ia (a 23) cI 5 ta, ia (a 24) cI 5 we, ia (a 25) cI 8 rC, ia (a 26) cI 8 rH] [(1, .int (nI q)), (0, .ref (a 0))] 9 [] := by
    intro n_5
    induction n_5 with
    | zero => intro q b4; exact absurd b4 (by omega)
    | succ n_5 ihn_5 =>
      intro q b4 hq har
      refine v_iload_n C dX4_isAsRead_9 0 rfl ?_
      refine v_aload_n C dX4_isAsRead_10 1 rfl ?_
      refine v_get C f_X4_27 dX4_isAsRead_11 0 rfl rfl ?_
      refine v_get C f_X4_160 dX4_isAsRead_14 6 rfl rfl ?_
      refine v_icmp_ge C 57 dX4_isAsRead_17 (by decide) (fun c6 => ?_) (fun c6 => ?_)
      · have nc6 : nr ≤ q := nI_leD c6 (by omega)
        have hqe : q = nr := by omega
        refine v_iconst C 1 dX4_isAsRead_57 (by decide) ?_
        exact v_reti C hA dX4_isAsRead_58 rfl (⟨by rw [bI_t]; rw [← hqe]; exact har, rfl⟩)
      · have nc6 : q < nr := nI_ltD c6 (by omega)
        have hin : q < nr := nc6
        refine v_aload_n C dX4_isAsRead_20 1 rfl ?_
        refine v_get C f_X4_36 dX4_isAsRead_21 0 rfl rfl ?_
        refine v_get C f_X4_127 dX4_isAsRead_24 1 rfl rfl ?_
        refine v_aload_n C dX4_isAsRead_27 1 rfl ?_
        refine v_get C f_X4_27 dX4_isAsRead_28 0 rfl rfl ?_
        refine v_get C f_X4_163 dX4_isAsRead_31 6 rfl rfl ?_
        refine v_iload_n C dX4_isAsRead_34 0 rfl ?_
        refine v_ialdN C dX4_isAsRead_35 11 rfl q rfl (by omega) (by decide) ?_
        refine v_ialdN C dX4_isAsRead_36 4 rfl (rn q) (hrc q hin).1 (by have := (hrc q hin).2; omega) (by decide) ?_
        refine v_aload_n C dX4_isAsRead_37 1 rfl ?_
        refine v_get C f_X4_27 dX4_isAsRead_38 0 rfl rfl ?_
        refine v_get C f_X4_166 dX4_isAsRead_41 6 rfl rfl ?_
        refine v_iload_n C dX4_isAsRead_44 0 rfl ?_
        refine v_ialdN C dX4_isAsRead_45 12 rfl q rfl (by omega) (by decide) ?_
        refine v_icmp_eq C 51 dX4_isAsRead_46 (by decide) (fun c7 => ?_) (fun c7 => ?_)
        · refine v_iinc C (nI (q + 1)) [(1, .int (nI (q + 1))), (0, .ref (a 0))] 0 dX4_isAsRead_51 rfl (nI_inc _) (by decide) rfl ?_
          refine v_goto C 9 dX4_isAsRead_54 (by decide) ?_
          exact ihn_5 (q + 1) (by omega) (by omega) (by rw [arB, har]; simp [c7])
        · refine v_iconst C 0 dX4_isAsRead_49 (by decide) ?_
          exact v_reti C hA dX4_isAsRead_50 rfl (⟨by rw [bI_f]; rw [arB_no c7 nr hin]; decide, rfl⟩)
  exact lp (nr - 0 + 1) 0 (by omega) (by omega) rfl
set_option maxHeartbeats 4000000 in
set_option maxRecDepth 100000 in
theorem m_X4_mostByCourtsStrike {l : Launch} {D : va_G} {cI cB cS : ClassId} (a : Nat → Nat) (x s0 lw nj L nc : Nat) (o dn : Nat → Nat) (tr : Int32) (fa : Int32) (sx : Int32) (un : Int32) (en : Int32) (se : Int32) (tk : Nat → Int32) (od : Nat → Int32) (ve : Nat → Int32) (vd : Nat → Int32) (si : Int32) (ca : Int32) (la : Int32) (sw : Int32) (sk : Int32) (rd : Int32) (ag : Nat → Int32) (de : Nat → Int32) (ta : Nat → Int32) (we : Nat → Int32) (hx : x < 2 ^ nj) (hnj : nj ≤ 5) (hlw : lw < 64) (hp5 : 2 ^ nj ≤ 32) (hs0 : s0 < 2 ^ nj) (hL : L ≤ 5) (hnc : nc ≤ 5) (ho : ∀ p, p < L → od p = nI (o p) ∧ o p < nc) (hde : ∀ c, c < nc → de c = nI (dn c) ∧ dn c < 6) : Mi l yX4_mostByCourtsStrike cX4_mostByCourtsStrike 4 (some .int) 5 119 D cI cB cS [.ref (a 0), .int (nI x)] [oC a tr fa, oT a (nI L) (nI lw) (nI s0) sx un en se, ia (a 31) cI 5 tk, ia (a 32) cI 5 od, ia (a 33) cI 5 ve, ia (a 34) cI 6 vd, oK a si (nI nj) ca la sw sk rd, ia (a 21) cI 5 ag, ia (a 22) cI 5 de, ia (a 23) cI 5 ta, ia (a 24) cI 5 we] (fun r w => ∃ (sx' : Int32) (ve' : Nat → Int32) (vd' : Nat → Int32) (un' : Int32) (en' : Int32) (se' : Int32), r = mbF (fun y => (sitS nj tk ag y lw dn ta we si s0 o L).2.2.2.2.1) x nj ∧ w = [oC a tr fa, oT a (nI L) (nI lw) (nI s0) sx' un' en' se', ia (a 31) cI 5 tk, ia (a 32) cI 5 od, ia (a 33) cI 5 ve', ia (a 34) cI 6 vd', oK a si (nI nj) ca la sw sk rd, ia (a 21) cI 5 ag, ia (a 22) cI 5 de, ia (a 23) cI 5 ta, ia (a 24) cI 5 we]) := by
  refine Mi.of (by decide) (Nat.le_of_ble_eq_true rfl) ?_
  intro zp ze zs zm zb zt zc zz zA hA C hnm
  refine v_lv0 [(0, .ref (a 0)), (1, .int (nI x))] rfl ?_
  refine v_bipush C (-9) dX4_mostByCourtsStrike_0 (by decide) ?_
  refine v_istore_n C [(2, .int (-9)), (0, .ref (a 0)), (1, .int (nI x))] dX4_mostByCourtsStrike_2 (by decide) rfl ?_
  refine v_iconst C 0 dX4_mostByCourtsStrike_3 (by decide) ?_
  refine v_istore_n C [(3, .int 0), (2, .int (-9)), (0, .ref (a 0)), (1, .int (nI x))] dX4_mostByCourtsStrike_4 (by decide) rfl ?_
  have lp : ∀ (n_2 : Nat) (j : Nat) (mo : Int32) (sx1 : Int32) (ve1 : Nat → Int32) (vd1 : Nat → Int32) (un1 : Int32) (en1 : Int32) (se1 : Int32), nj - j < n_2 → (j ≤ nj) → (mbS (fun y => (sitS nj tk ag y lw dn ta we si s0 o L).2.2.2.2.1) x j = mo) → V zp l ze (rmOf 5 119) zs zm [.ref (a 0), .int (nI x)].toArray zb zt zc D (IM zA zs) (QMi zb [.ref (a 0), .int (nI x)].toArray zs D cI cB cS [oC a tr fa, oT a (nI L) (nI lw) (nI s0) sx un en se, ia (a 31) cI 5 tk, ia (a 32) cI 5 od, ia (a 33) cI 5 ve, ia (a 34) cI 6 vd, oK a si (nI nj) ca la sw sk rd, ia (a 21) cI 5 ag, ia (a 22) cI 5 de, ia (a 23) cI 5 ta, ia (a 24) cI 5 we] zz (fun r w => ∃ (sx' : Int32) (ve' : Nat → Int32) (vd' : Nat → Int32) (un' : Int32) (en' : Int32) (se' : Int32), r = mbF (fun y => (sitS nj tk ag y lw dn ta we si s0 o L).2.2.2.2.1) x nj ∧ w = [oC a tr fa, oT a (nI L) (nI lw) (nI s0) sx' un' en' se', ia (a 31) cI 5 tk, ia (a 32) cI 5 od, ia (a 33) cI 5 ve', ia (a 34) cI 6 vd', oK a si (nI nj) ca la sw sk rd, ia (a 21) cI 5 ag, ia (a 22) cI 5 de, ia (a 23) cI 5 ta, ia (a 24) cI 5 we])) 0 0 4 [oC a tr fa, oT a (nI L) (nI lw) (nI s0) sx1 un1 en1 se1, ia (a 31) cI 5 tk, ia (a 32) cI 5 od, ia (a 33) cI 5 ve1, ia (a 34) cI 6 vd1, oK a si (nI nj) ca la sw sk rd, ia (a 21) cI 5 ag, ia (a 22) cI 5 de, ia (a 23) cI 5 ta, ia (a 24) cI 5 we] [(3, .int (nI j)), (2, .int mo), (0, .ref (a 0)), (1, .int (nI x))] 5 [] := by
    intro n_2
    induction n_2 with
    | zero => intro j mo sx1 ve1 vd1 un1 en1 se1 b1; exact absurd b1 (by omega)
    | succ n_2 ihn_2 =>
      intro j mo sx1 ve1 vd1 un1 en1 se1 b1 hj hmo
      refine v_iload_n C dX4_mostByCourtsStrike_5 0 rfl ?_
      refine v_aload_n C dX4_mostByCourtsStrike_6 2 rfl ?_
      refine v_get C f_X4_27 dX4_mostByCourtsStrike_7 0 rfl rfl ?_
      refine v_get C f_X4_151 dX4_mostByCourtsStrike_10 6 rfl rfl ?_
      refine v_icmp_ge C 45 dX4_mostByCourtsStrike_13 (by decide) (fun c3 => ?_) (fun c3 => ?_)
      · have nc3 : nj ≤ j := nI_leD c3 (by omega)
        have hje : j = nj := by omega
        refine v_iload_n C dX4_mostByCourtsStrike_45 1 rfl ?_
        refine v_bipush C (-9) dX4_mostByCourtsStrike_46 (by decide) ?_
        refine v_icmp_ne C 59 dX4_mostByCourtsStrike_48 (by decide) (fun c4 => ?_) (fun c4 => ?_)
        · refine v_iload_n C dX4_mostByCourtsStrike_59 1 rfl ?_
          exact v_reti C hA dX4_mostByCourtsStrike_60 rfl (⟨_, _, _, _, _, _, by rw [mbF, ← hje, hmo]; rw [if_neg c4], rfl⟩)
        · refine v_aload_n C dX4_mostByCourtsStrike_51 2 rfl ?_
          refine v_iload_n C dX4_mostByCourtsStrike_52 3 rfl ?_
          refine v_callMi C l_X4_157 (m_X4_sentencedIfStruck a x s0 lw nj L nc o dn tr fa sx1 un1 en1 se1 tk od ve1 vd1 si ca la sw sk rd ag de ta we (by omega) (by assumption) (by assumption) (by assumption) (by assumption) (by assumption) (by assumption) (by assumption) (by assumption)) (by decide) dX4_mostByCourtsStrike_53 [0, 1, 2, 3, 4, 5, 6, 7, 8, 9, 10] [] (wr := []) (by decide) rfl rfl (by decide) (by decide) 0 rfl rfl rfl (rest := []) rfl (Nat.le_of_ble_eq_true rfl) (by decide) (fun r7 w5 h6 => ?_)
          obtain ⟨rfl, rfl⟩ := h6
          refine v_ws0 [oC a tr fa, oT a (nI L) (nI lw) (nI s0) (nI x) (nI (sitS nj tk ag x lw dn ta we si s0 o L).2.2.1) ((sitS nj tk ag x lw dn ta we si s0 o L).2.2.2.1) ((sitS nj tk ag x lw dn ta we si s0 o L).2.2.2.2.1), ia (a 31) cI 5 tk, ia (a 32) cI 5 od, ia (a 33) cI 5 ((sitS nj tk ag x lw dn ta we si s0 o L).1), ia (a 34) cI 6 ((sitS nj tk ag x lw dn ta we si s0 o L).2.1), oK a si (nI nj) ca la sw sk rd, ia (a 21) cI 5 ag, ia (a 22) cI 5 de, ia (a 23) cI 5 ta, ia (a 24) cI 5 we] rfl ?_
          refine v_goto C 60 dX4_mostByCourtsStrike_56 (by decide) ?_
          exact v_reti C hA dX4_mostByCourtsStrike_60 rfl (⟨_, _, _, _, _, _, by rw [mbF, ← hje, hmo]; rw [if_pos c4], rfl⟩)
      · have nc3 : j < nj := nI_ltD c3 (by omega)
        refine v_iload_n C dX4_mostByCourtsStrike_16 3 rfl ?_
        refine v_iload_n C dX4_mostByCourtsStrike_17 0 rfl ?_
        refine v_callSi C l_X4_87 (m_X4_bitOf x j (by omega) (by omega)) (by decide) dX4_mostByCourtsStrike_18 [] rfl rfl (rest := []) rfl (Nat.le_of_ble_eq_true rfl) (by decide) (fun r8 h9 => ?_)
        subst h9
        by_cases c10 : x.testBit j = true
        · refine v_eqi 1 (bI_t c10) ?_
          refine v_if_ne C 39 dX4_mostByCourtsStrike_21 (by decide) (fun _ => ?_) (fun h => absurd h (by decide))
          refine v_iinc C (nI (j + 1)) [(3, .int (nI (j + 1))), (2, .int mo), (0, .ref (a 0)), (1, .int (nI x))] 0 dX4_mostByCourtsStrike_39 rfl (nI_inc _) (by decide) rfl ?_
          refine v_goto C 5 dX4_mostByCourtsStrike_42 (by decide) ?_
          exact ihn_2 (j + 1) mo sx1 ve1 vd1 un1 en1 se1 (by omega) (by omega) (by rw [mbS, if_pos c10]; exact hmo)
        · refine v_eqi 0 (bI_f c10) ?_
          refine v_if_ne C 39 dX4_mostByCourtsStrike_21 (by decide) (fun h => absurd h (by decide)) (fun _ => ?_)
          refine v_iload_n C dX4_mostByCourtsStrike_24 1 rfl ?_
          refine v_aload_n C dX4_mostByCourtsStrike_25 2 rfl ?_
          refine v_iload_n C dX4_mostByCourtsStrike_26 3 rfl ?_
          refine v_iload_n C dX4_mostByCourtsStrike_27 0 rfl ?_
          refine v_iconst C 1 dX4_mostByCourtsStrike_28 (by decide) ?_
          refine v_callSi C l_X4_113 (m_X4_withBit x j 1 (by omega) (by omega)) (by decide) dX4_mostByCourtsStrike_29 [] rfl rfl (rest := [.ref (a 0), .int mo]) rfl (Nat.le_of_ble_eq_true rfl) (by decide) (fun r11 h12 => ?_)
          subst h12
          refine v_eqi (nI (set1 x j)) (rfl) ?_
          refine v_callMi C l_X4_157 (m_X4_sentencedIfStruck a (set1 x j) s0 lw nj L nc o dn tr fa sx1 un1 en1 se1 tk od ve1 vd1 si ca la sw sk rd ag de ta we (by have q := set1_lt nj (by omega) x hx j (by omega); omega) (by assumption) (by assumption) (by assumption) (by assumption) (by assumption) (by assumption) (by assumption) (by assumption)) (by decide) dX4_mostByCourtsStrike_32 [0, 1, 2, 3, 4, 5, 6, 7, 8, 9, 10] [] (wr := []) (by decide) rfl rfl (by decide) (by decide) 0 rfl rfl rfl (rest := [.int mo]) rfl (Nat.le_of_ble_eq_true rfl) (by decide) (fun r15 w13 h14 => ?_)
          obtain ⟨rfl, rfl⟩ := h14
          refine v_ws0 [oC a tr fa, oT a (nI L) (nI lw) (nI s0) (nI (set1 x j)) (nI (sitS nj tk ag (set1 x j) lw dn ta we si s0 o L).2.2.1) ((sitS nj tk ag (set1 x j) lw dn ta we si s0 o L).2.2.2.1) ((sitS nj tk ag (set1 x j) lw dn ta we si s0 o L).2.2.2.2.1), ia (a 31) cI 5 tk, ia (a 32) cI 5 od, ia (a 33) cI 5 ((sitS nj tk ag (set1 x j) lw dn ta we si s0 o L).1), ia (a 34) cI 6 ((sitS nj tk ag (set1 x j) lw dn ta we si s0 o L).2.1), oK a si (nI nj) ca la sw sk rd, ia (a 21) cI 5 ag, ia (a 22) cI 5 de, ia (a 23) cI 5 ta, ia (a 24) cI 5 we] rfl ?_
          refine v_max C lm_X4_247 dX4_mostByCourtsStrike_35 (by decide) (Nat.le_of_ble_eq_true rfl) (by decide) (by decide) ?_
          have hmx : mbS (fun y => (sitS nj tk ag y lw dn ta we si s0 o L).2.2.2.2.1) x (j + 1) = (if mo < (fun y => (sitS nj tk ag y lw dn ta we si s0 o L).2.2.2.2.1) (set1 x j) then (fun y => (sitS nj tk ag y lw dn ta we si s0 o L).2.2.2.2.1) (set1 x j) else mo) := by rw [mbS, hmo, if_neg (by assumption)]
          refine v_eqi (mbS (fun y => (sitS nj tk ag y lw dn ta we si s0 o L).2.2.2.2.1) x (j + 1)) (hmx.symm) ?_
          refine v_istore_n C [(2, .int (mbS (fun y => (sitS nj tk ag y lw dn ta we si s0 o L).2.2.2.2.1) x (j + 1))), (3, .int (nI j)), (0, .ref (a 0)), (1, .int (nI x))] dX4_mostByCourtsStrike_38 (by decide) rfl ?_
          refine v_iinc C (nI (j + 1)) [(3, .int (nI (j + 1))), (2, .int (mbS (fun y => (sitS nj tk ag y lw dn ta we si s0 o L).2.2.2.2.1) x (j + 1))), (0, .ref (a 0)), (1, .int (nI x))] 1 dX4_mostByCourtsStrike_39 rfl (nI_inc _) (by decide) rfl ?_
          refine v_goto C 5 dX4_mostByCourtsStrike_42 (by decide) ?_
          exact ihn_2 (j + 1) (mbS (fun y => (sitS nj tk ag y lw dn ta we si s0 o L).2.2.2.2.1) x (j + 1)) (nI (set1 x j)) ((sitS nj tk ag (set1 x j) lw dn ta we si s0 o L).1) ((sitS nj tk ag (set1 x j) lw dn ta we si s0 o L).2.1) (nI (sitS nj tk ag (set1 x j) lw dn ta we si s0 o L).2.2.1) ((sitS nj tk ag (set1 x j) lw dn ta we si s0 o L).2.2.2.1) ((sitS nj tk ag (set1 x j) lw dn ta we si s0 o L).2.2.2.2.1) (by omega) (by omega) rfl
  exact lp (nj - 0 + 1) 0 (-9) sx ve vd un en se (by omega) (by omega) rfl
end
section
theorem zz_last : True := trivial
end
